theorem dX11_dayOf_0 : decode cX11_dayOf 0 = .ok (.bipush 29, 2) := by decide +kernel
theorem dX11_dayOf_2 : decode cX11_dayOf 2 = .ok (.iload_n 0, 1) := by decide +kernel
theorem dX11_dayOf_3 : decode cX11_dayOf 3 = .ok (.imul, 1) := by decide +kernel
theorem dX11_dayOf_4 : decode cX11_dayOf 4 = .ok (.iload_n 1, 1) := by decide +kernel
theorem dX11_dayOf_5 : decode cX11_dayOf 5 = .ok (.iadd, 1) := by decide +kernel
theorem dX11_dayOf_6 : decode cX11_dayOf 6 = .ok (.ireturn, 1) := by decide +kernel
set_option maxHeartbeats 4000000 in
set_option maxRecDepth 100000 in
theorem sX11_dayOf (l : Launch) (dC : Nat → ClassId) (dI : Nat → Nat → Nat) (p0 : Int32) (p1 : Int32)  : Met l yX11_dayOf (.code yX11_dayOf cX11_dayOf 2 (some .int) :: wsGA) ({ frames := 0, cells := 0, slots := 0, locals := 0 }) (va_Pc [.int p0, .int p1] (fun U => va_P (dC, dI) vwCl [] U.heap ∧ va_K (dC, dI) vwCl [] U ∧ nzA U)) (va_Qi (fun (r : Int32) (u : Unit) => gi r (-2147483648) 2147483647) (fun _ _ => True) (fun _ => False)) 0 0 (fun _ => False) := by
  refine Met.ofW (cc := cX11_dayOf) (maxL := 2) (ret := (some .int)) (by decide) rfl ?_
  intro p e s m args below meth c s₁ B hml hv
  obtain ⟨rfl, hP, hK, hz⟩ := hv
  have hx := B.exec
  have hb := B.bytes
  have hr := B.returns
  have hts := atoms_spec (ws := (.code yX11_dayOf cX11_dayOf 2 (some .int) :: wsGA)) B.pre
  have hown : s.vm.findClass RX11 = some m.cls := findClass_of_methodNamed B.named
  have hlocks := B.notSynchronized
  have hS : va_S (fun _ => False) s.heap s.heap [] := va_S.rf
  have hl := lv_entry ([.int p0, .int p1]) (n := 2) (Nat.le_of_ble_eq_true rfl)
  rw [lg_entry_eq]
  generalize (lg_sl ([.int p0, .int p1]) ++ List.replicate (2 - (lg_sl ([.int p0, .int p1])).length) Slot.unset).toArray = ls at hl ⊢
  have hl : lv_has ls 2 [(0, .int p0), (1, .int p1)] := hl
  refine lv_bipush (v := 29) hx hb dX11_dayOf_0 (by decide) ?_
  refine lv_iload_n hx hb dX11_dayOf_2 rfl (lv_at hl 0 rfl) ?_
  refine lv_imul hx hb dX11_dayOf_3 ?_
  refine lv_topi (fun x_3 ex_3 => ?_)
  refine lv_iload_n hx hb dX11_dayOf_4 rfl (lv_at hl 1 rfl) ?_
  refine lv_iadd hx hb dX11_dayOf_5 ?_
  refine lv_topi (fun x_4 ex_4 => ?_)
  exact W.iret (v := x_4) hx hb hr (fun t ht hW => ⟨⟨x_4, (), rfl, (gi_any x_4), trivial⟩, hS.F ht⟩) hS.2.2 dX11_dayOf_6
theorem dX11_anchorOf_0 : decode cX11_anchorOf 0 = .ok (.iload_n 1, 1) := by decide +kernel
theorem dX11_anchorOf_1 : decode cX11_anchorOf 1 = .ok (.bipush 30, 2) := by decide +kernel
theorem dX11_anchorOf_3 : decode cX11_anchorOf 3 = .ok (.if_icmp .ne 9, 3) := by decide +kernel
theorem dX11_anchorOf_6 : decode cX11_anchorOf 6 = .ok (.iload_n 0, 1) := by decide +kernel
theorem dX11_anchorOf_7 : decode cX11_anchorOf 7 = .ok (.iconst 1, 1) := by decide +kernel
theorem dX11_anchorOf_8 : decode cX11_anchorOf 8 = .ok (.iadd, 1) := by decide +kernel
theorem dX11_anchorOf_9 : decode cX11_anchorOf 9 = .ok (.goto 4, 3) := by decide +kernel
theorem dX11_anchorOf_12 : decode cX11_anchorOf 12 = .ok (.iload_n 0, 1) := by decide +kernel
theorem dX11_anchorOf_13 : decode cX11_anchorOf 13 = .ok (.ireturn, 1) := by decide +kernel
set_option maxHeartbeats 4000000 in
set_option maxRecDepth 100000 in
theorem sX11_anchorOf (l : Launch) (dC : Nat → ClassId) (dI : Nat → Nat → Nat) (p0 : Int32) (p1 : Int32) (gp0 : gi p0 0 23) : Met l yX11_anchorOf (.code yX11_anchorOf cX11_anchorOf 2 (some .int) :: wsGA) ({ frames := 0, cells := 0, slots := 0, locals := 0 }) (va_Pc [.int p0, .int p1] (fun U => va_P (dC, dI) vwCl [] U.heap ∧ va_K (dC, dI) vwCl [] U ∧ nzA U)) (va_Qi (fun (r : Int32) (u : Unit) => gi r 0 24) (fun _ _ => True) (fun _ => False)) 0 0 (fun _ => False) := by
  refine Met.ofW (cc := cX11_anchorOf) (maxL := 2) (ret := (some .int)) (by decide) rfl ?_
  intro p e s m args below meth c s₁ B hml hv
  obtain ⟨rfl, hP, hK, hz⟩ := hv
  have hx := B.exec
  have hb := B.bytes
  have hr := B.returns
  have hts := atoms_spec (ws := (.code yX11_anchorOf cX11_anchorOf 2 (some .int) :: wsGA)) B.pre
  have hown : s.vm.findClass RX11 = some m.cls := findClass_of_methodNamed B.named
  have hlocks := B.notSynchronized
  have hS : va_S (fun _ => False) s.heap s.heap [] := va_S.rf
  have hl := lv_entry ([.int p0, .int p1]) (n := 2) (Nat.le_of_ble_eq_true rfl)
  rw [lg_entry_eq]
  generalize (lg_sl ([.int p0, .int p1]) ++ List.replicate (2 - (lg_sl ([.int p0, .int p1])).length) Slot.unset).toArray = ls at hl ⊢
  have hl : lv_has ls 2 [(0, .int p0), (1, .int p1)] := hl
  refine lv_iload_n hx hb dX11_anchorOf_0 rfl (lv_at hl 1 rfl) ?_
  refine lv_bipush (v := 30) hx hb dX11_anchorOf_1 (by decide) ?_
  refine lv_icmp_ne (tgt := 12) hx hb dX11_anchorOf_3 (by decide) (fun c_4 => ?_) (fun c_4 => ?_)
  · refine lv_iload_n hx hb dX11_anchorOf_12 rfl (lv_at hl 0 rfl) ?_
    exact W.iret (v := p0) hx hb hr (fun t ht hW => ⟨⟨p0, (), rfl, (gi_w gp0 (by decide)), trivial⟩, hS.F ht⟩) hS.2.2 dX11_anchorOf_13
  · have g_5 : gi p1 30 30 := gi_eq c_4 (gi_c 30 30 (by decide))
    refine lv_iload_n hx hb dX11_anchorOf_6 rfl (lv_at hl 0 rfl) ?_
    refine lv_iconst (v := 1) hx hb dX11_anchorOf_7 (by decide) ?_
    refine lv_iadd hx hb dX11_anchorOf_8 ?_
    refine lv_topi (fun x_6 ex_6 => ?_)
    have gx_6 : gi x_6 1 24 := gi_add ex_6 gp0 (gi_c 1 1 (by decide)) (by decide)
    refine lv_goto (tgt := 13) hx hb dX11_anchorOf_9 (by decide) ?_
    exact W.iret (v := x_6) hx hb hr (fun t ht hW => ⟨⟨x_6, (), rfl, (gi_w gx_6 (by decide)), trivial⟩, hS.F ht⟩) hS.2.2 dX11_anchorOf_13
theorem dX11_offsetOf_0 : decode cX11_offsetOf 0 = .ok (.iload_n 0, 1) := by decide +kernel
theorem dX11_offsetOf_1 : decode cX11_offsetOf 1 = .ok (.bipush 30, 2) := by decide +kernel
theorem dX11_offsetOf_3 : decode cX11_offsetOf 3 = .ok (.if_icmp .ne 7, 3) := by decide +kernel
theorem dX11_offsetOf_6 : decode cX11_offsetOf 6 = .ok (.iconst (-1), 1) := by decide +kernel
theorem dX11_offsetOf_7 : decode cX11_offsetOf 7 = .ok (.goto 6, 3) := by decide +kernel
theorem dX11_offsetOf_10 : decode cX11_offsetOf 10 = .ok (.iload_n 0, 1) := by decide +kernel
theorem dX11_offsetOf_11 : decode cX11_offsetOf 11 = .ok (.iconst 1, 1) := by decide +kernel
theorem dX11_offsetOf_12 : decode cX11_offsetOf 12 = .ok (.isub, 1) := by decide +kernel
theorem dX11_offsetOf_13 : decode cX11_offsetOf 13 = .ok (.ireturn, 1) := by decide +kernel
set_option maxHeartbeats 4000000 in
set_option maxRecDepth 100000 in
theorem sX11_offsetOf (l : Launch) (dC : Nat → ClassId) (dI : Nat → Nat → Nat) (p0 : Int32)  : Met l yX11_offsetOf (.code yX11_offsetOf cX11_offsetOf 1 (some .int) :: wsGA) ({ frames := 0, cells := 0, slots := 0, locals := 0 }) (va_Pc [.int p0] (fun U => va_P (dC, dI) vwCl [] U.heap ∧ va_K (dC, dI) vwCl [] U ∧ nzA U)) (va_Qi (fun (r : Int32) (u : Unit) => gi r (-2147483648) 2147483647) (fun _ _ => True) (fun _ => False)) 0 0 (fun _ => False) := by
  refine Met.ofW (cc := cX11_offsetOf) (maxL := 1) (ret := (some .int)) (by decide) rfl ?_
  intro p e s m args below meth c s₁ B hml hv
  obtain ⟨rfl, hP, hK, hz⟩ := hv
  have hx := B.exec
  have hb := B.bytes
  have hr := B.returns
  have hts := atoms_spec (ws := (.code yX11_offsetOf cX11_offsetOf 1 (some .int) :: wsGA)) B.pre
  have hown : s.vm.findClass RX11 = some m.cls := findClass_of_methodNamed B.named
  have hlocks := B.notSynchronized
  have hS : va_S (fun _ => False) s.heap s.heap [] := va_S.rf
  have hl := lv_entry ([.int p0]) (n := 1) (Nat.le_of_ble_eq_true rfl)
  rw [lg_entry_eq]
  generalize (lg_sl ([.int p0]) ++ List.replicate (1 - (lg_sl ([.int p0])).length) Slot.unset).toArray = ls at hl ⊢
  have hl : lv_has ls 1 [(0, .int p0)] := hl
  refine lv_iload_n hx hb dX11_offsetOf_0 rfl (lv_at hl 0 rfl) ?_
  refine lv_bipush (v := 30) hx hb dX11_offsetOf_1 (by decide) ?_
  refine lv_icmp_ne (tgt := 10) hx hb dX11_offsetOf_3 (by decide) (fun c_4 => ?_) (fun c_4 => ?_)
  · refine lv_iload_n hx hb dX11_offsetOf_10 rfl (lv_at hl 0 rfl) ?_
    refine lv_iconst (v := 1) hx hb dX11_offsetOf_11 (by decide) ?_
    refine lv_isub hx hb dX11_offsetOf_12 ?_
    refine lv_topi (fun x_5 ex_5 => ?_)
    exact W.iret (v := x_5) hx hb hr (fun t ht hW => ⟨⟨x_5, (), rfl, (gi_any x_5), trivial⟩, hS.F ht⟩) hS.2.2 dX11_offsetOf_13
  · have g_6 : gi p0 30 30 := gi_eq c_4 (gi_c 30 30 (by decide))
    refine lv_iconst (v := (-1)) hx hb dX11_offsetOf_6 (by decide) ?_
    refine lv_goto (tgt := 13) hx hb dX11_offsetOf_7 (by decide) ?_
    exact W.iret (v := (-1)) hx hb hr (fun t ht hW => ⟨⟨(-1), (), rfl, (gi_any (-1)), trivial⟩, hS.F ht⟩) hS.2.2 dX11_offsetOf_13
theorem dX11_runWithFull_0 : decode cX11_runWithFull 0 = .ok (.iload_n 0, 1) := by decide +kernel
theorem dX11_runWithFull_1 : decode cX11_runWithFull 1 = .ok (.ifCond .eq 8, 3) := by decide +kernel
theorem dX11_runWithFull_4 : decode cX11_runWithFull 4 = .ok (.iload_n 0, 1) := by decide +kernel
theorem dX11_runWithFull_5 : decode cX11_runWithFull 5 = .ok (.iload_n 1, 1) := by decide +kernel
theorem dX11_runWithFull_6 : decode cX11_runWithFull 6 = .ok (.if_icmp .le 5, 3) := by decide +kernel
theorem dX11_runWithFull_9 : decode cX11_runWithFull 9 = .ok (.iconst 1, 1) := by decide +kernel
theorem dX11_runWithFull_10 : decode cX11_runWithFull 10 = .ok (.ireturn, 1) := by decide +kernel
theorem dX11_runWithFull_11 : decode cX11_runWithFull 11 = .ok (.iload_n 0, 1) := by decide +kernel
theorem dX11_runWithFull_12 : decode cX11_runWithFull 12 = .ok (.iload_n 1, 1) := by decide +kernel
theorem dX11_runWithFull_13 : decode cX11_runWithFull 13 = .ok (.if_icmp .ge 9, 3) := by decide +kernel
theorem dX11_runWithFull_16 : decode cX11_runWithFull 16 = .ok (.iload_n 0, 1) := by decide +kernel
theorem dX11_runWithFull_17 : decode cX11_runWithFull 17 = .ok (.iconst 1, 1) := by decide +kernel
theorem dX11_runWithFull_18 : decode cX11_runWithFull 18 = .ok (.iadd, 1) := by decide +kernel
theorem dX11_runWithFull_19 : decode cX11_runWithFull 19 = .ok (.goto 4, 3) := by decide +kernel
theorem dX11_runWithFull_22 : decode cX11_runWithFull 22 = .ok (.iconst 0, 1) := by decide +kernel
theorem dX11_runWithFull_23 : decode cX11_runWithFull 23 = .ok (.ireturn, 1) := by decide +kernel
set_option maxHeartbeats 4000000 in
set_option maxRecDepth 100000 in
theorem sX11_runWithFull (l : Launch) (dC : Nat → ClassId) (dI : Nat → Nat → Nat) (p0 : Int32) (p1 : Int32) (gp0 : gi p0 0 10) (gp1 : gi p1 0 5) : Met l yX11_runWithFull (.code yX11_runWithFull cX11_runWithFull 2 (some .int) :: wsGA) ({ frames := 0, cells := 0, slots := 0, locals := 0 }) (va_Pc [.int p0, .int p1] (fun U => va_P (dC, dI) vwCl [] U.heap ∧ va_K (dC, dI) vwCl [] U ∧ nzA U)) (va_Qi (fun (r : Int32) (u : Unit) => gi r 0 5) (fun _ _ => True) (fun _ => False)) 0 0 (fun _ => False) := by
  refine Met.ofW (cc := cX11_runWithFull) (maxL := 2) (ret := (some .int)) (by decide) rfl ?_
  intro p e s m args below meth c s₁ B hml hv
  obtain ⟨rfl, hP, hK, hz⟩ := hv
  have hx := B.exec
  have hb := B.bytes
  have hr := B.returns
  have hts := atoms_spec (ws := (.code yX11_runWithFull cX11_runWithFull 2 (some .int) :: wsGA)) B.pre
  have hown : s.vm.findClass RX11 = some m.cls := findClass_of_methodNamed B.named
  have hlocks := B.notSynchronized
  have hS : va_S (fun _ => False) s.heap s.heap [] := va_S.rf
  have hl := lv_entry ([.int p0, .int p1]) (n := 2) (Nat.le_of_ble_eq_true rfl)
  rw [lg_entry_eq]
  generalize (lg_sl ([.int p0, .int p1]) ++ List.replicate (2 - (lg_sl ([.int p0, .int p1])).length) Slot.unset).toArray = ls at hl ⊢
  have hl : lv_has ls 2 [(0, .int p0), (1, .int p1)] := hl
  refine lv_iload_n hx hb dX11_runWithFull_0 rfl (lv_at hl 0 rfl) ?_
  refine lv_if_eq (tgt := 9) hx hb dX11_runWithFull_1 (by decide) (fun c_11 => ?_) (fun c_11 => ?_)
  · have g_12 : gi p0 0 0 := gi_eq c_11 (gi_c 0 0 (by decide))
    refine lv_iconst (v := 1) hx hb dX11_runWithFull_9 (by decide) ?_
    exact W.iret (v := 1) hx hb hr (fun t ht hW => ⟨⟨1, (), rfl, (gi_w (gi_c 1 1 (by decide)) (by decide)), trivial⟩, hS.F ht⟩) hS.2.2 dX11_runWithFull_10
  · have g_13 : gi p0 1 10 := gi_ne_lo c_11 gp0 (gi_c 0 0 (by decide)) (by decide)
    refine lv_iload_n hx hb dX11_runWithFull_4 rfl (lv_at hl 0 rfl) ?_
    refine lv_iload_n hx hb dX11_runWithFull_5 rfl (lv_at hl 1 rfl) ?_
    refine lv_icmp_le (tgt := 11) hx hb dX11_runWithFull_6 (by decide) (fun c_14 => ?_) (fun c_14 => ?_)
    · have g_15 : gi p0 1 5 := gi_le_l c_14 g_13 gp1
      have g_16 : gi p1 1 5 := gi_le_r c_14 g_13 gp1
      refine lv_iload_n hx hb dX11_runWithFull_11 rfl (lv_at hl 0 rfl) ?_
      refine lv_iload_n hx hb dX11_runWithFull_12 rfl (lv_at hl 1 rfl) ?_
      refine lv_icmp_ge (tgt := 22) hx hb dX11_runWithFull_13 (by decide) (fun c_17 => ?_) (fun c_17 => ?_)
      · refine lv_iconst (v := 0) hx hb dX11_runWithFull_22 (by decide) ?_
        exact W.iret (v := 0) hx hb hr (fun t ht hW => ⟨⟨0, (), rfl, (gi_w (gi_c 0 0 (by decide)) (by decide)), trivial⟩, hS.F ht⟩) hS.2.2 dX11_runWithFull_23
      · have g_18 : gi p0 1 4 := gi_lt_l (Int32.not_le.mp c_17) g_15 g_16 (by decide)
        have g_19 : gi p1 2 5 := gi_lt_r (Int32.not_le.mp c_17) g_15 g_16 (by decide)
        refine lv_iload_n hx hb dX11_runWithFull_16 rfl (lv_at hl 0 rfl) ?_
        refine lv_iconst (v := 1) hx hb dX11_runWithFull_17 (by decide) ?_
        refine lv_iadd hx hb dX11_runWithFull_18 ?_
        refine lv_topi (fun x_20 ex_20 => ?_)
        have gx_20 : gi x_20 2 5 := gi_add ex_20 g_18 (gi_c 1 1 (by decide)) (by decide)
        refine lv_goto (tgt := 23) hx hb dX11_runWithFull_19 (by decide) ?_
        exact W.iret (v := x_20) hx hb hr (fun t ht hW => ⟨⟨x_20, (), rfl, (gi_w gx_20 (by decide)), trivial⟩, hS.F ht⟩) hS.2.2 dX11_runWithFull_23
    · refine lv_iconst (v := 1) hx hb dX11_runWithFull_9 (by decide) ?_
      exact W.iret (v := 1) hx hb hr (fun t ht hW => ⟨⟨1, (), rfl, (gi_w (gi_c 1 1 (by decide)) (by decide)), trivial⟩, hS.F ht⟩) hS.2.2 dX11_runWithFull_10
theorem dX11_runWithLean_0 : decode cX11_runWithLean 0 = .ok (.iload_n 0, 1) := by decide +kernel
theorem dX11_runWithLean_1 : decode cX11_runWithLean 1 = .ok (.iload_n 1, 1) := by decide +kernel
theorem dX11_runWithLean_2 : decode cX11_runWithLean 2 = .ok (.if_icmp .gt 7, 3) := by decide +kernel
theorem dX11_runWithLean_5 : decode cX11_runWithLean 5 = .ok (.iload_n 1, 1) := by decide +kernel
theorem dX11_runWithLean_6 : decode cX11_runWithLean 6 = .ok (.iconst 1, 1) := by decide +kernel
theorem dX11_runWithLean_7 : decode cX11_runWithLean 7 = .ok (.iadd, 1) := by decide +kernel
theorem dX11_runWithLean_8 : decode cX11_runWithLean 8 = .ok (.ireturn, 1) := by decide +kernel
theorem dX11_runWithLean_9 : decode cX11_runWithLean 9 = .ok (.iload_n 0, 1) := by decide +kernel
theorem dX11_runWithLean_10 : decode cX11_runWithLean 10 = .ok (.iload_n 1, 1) := by decide +kernel
theorem dX11_runWithLean_11 : decode cX11_runWithLean 11 = .ok (.iload_n 2, 1) := by decide +kernel
theorem dX11_runWithLean_12 : decode cX11_runWithLean 12 = .ok (.iadd, 1) := by decide +kernel
theorem dX11_runWithLean_13 : decode cX11_runWithLean 13 = .ok (.if_icmp .ge 9, 3) := by decide +kernel
theorem dX11_runWithLean_16 : decode cX11_runWithLean 16 = .ok (.iload_n 0, 1) := by decide +kernel
theorem dX11_runWithLean_17 : decode cX11_runWithLean 17 = .ok (.iconst 1, 1) := by decide +kernel
theorem dX11_runWithLean_18 : decode cX11_runWithLean 18 = .ok (.iadd, 1) := by decide +kernel
theorem dX11_runWithLean_19 : decode cX11_runWithLean 19 = .ok (.goto 4, 3) := by decide +kernel
theorem dX11_runWithLean_22 : decode cX11_runWithLean 22 = .ok (.iconst 0, 1) := by decide +kernel
theorem dX11_runWithLean_23 : decode cX11_runWithLean 23 = .ok (.ireturn, 1) := by decide +kernel
set_option maxHeartbeats 4000000 in
set_option maxRecDepth 100000 in
theorem sX11_runWithLean (l : Launch) (dC : Nat → ClassId) (dI : Nat → Nat → Nat) (p0 : Int32) (p1 : Int32) (p2 : Int32) (gp0 : gi p0 0 10) (gp1 : gi p1 0 5) (gp2 : gi p2 0 5) : Met l yX11_runWithLean (.code yX11_runWithLean cX11_runWithLean 3 (some .int) :: wsGA) ({ frames := 0, cells := 0, slots := 0, locals := 0 }) (va_Pc [.int p0, .int p1, .int p2] (fun U => va_P (dC, dI) vwCl [] U.heap ∧ va_K (dC, dI) vwCl [] U ∧ nzA U)) (va_Qi (fun (r : Int32) (u : Unit) => gi r 0 10) (fun _ _ => True) (fun _ => False)) 0 0 (fun _ => False) := by
  refine Met.ofW (cc := cX11_runWithLean) (maxL := 3) (ret := (some .int)) (by decide) rfl ?_
  intro p e s m args below meth c s₁ B hml hv
  obtain ⟨rfl, hP, hK, hz⟩ := hv
  have hx := B.exec
  have hb := B.bytes
  have hr := B.returns
  have hts := atoms_spec (ws := (.code yX11_runWithLean cX11_runWithLean 3 (some .int) :: wsGA)) B.pre
  have hown : s.vm.findClass RX11 = some m.cls := findClass_of_methodNamed B.named
  have hlocks := B.notSynchronized
  have hS : va_S (fun _ => False) s.heap s.heap [] := va_S.rf
  have hl := lv_entry ([.int p0, .int p1, .int p2]) (n := 3) (Nat.le_of_ble_eq_true rfl)
  rw [lg_entry_eq]
  generalize (lg_sl ([.int p0, .int p1, .int p2]) ++ List.replicate (3 - (lg_sl ([.int p0, .int p1, .int p2])).length) Slot.unset).toArray = ls at hl ⊢
  have hl : lv_has ls 3 [(0, .int p0), (1, .int p1), (2, .int p2)] := hl
  refine lv_iload_n hx hb dX11_runWithLean_0 rfl (lv_at hl 0 rfl) ?_
  refine lv_iload_n hx hb dX11_runWithLean_1 rfl (lv_at hl 1 rfl) ?_
  refine lv_icmp_gt (tgt := 9) hx hb dX11_runWithLean_2 (by decide) (fun c_10 => ?_) (fun c_10 => ?_)
  · have g_11 : gi p0 1 10 := gi_lt_r c_10 gp1 gp0 (by decide)
    refine lv_iload_n hx hb dX11_runWithLean_9 rfl (lv_at hl 0 rfl) ?_
    refine lv_iload_n hx hb dX11_runWithLean_10 rfl (lv_at hl 1 rfl) ?_
    refine lv_iload_n hx hb dX11_runWithLean_11 rfl (lv_at hl 2 rfl) ?_
    refine lv_iadd hx hb dX11_runWithLean_12 ?_
    refine lv_topi (fun x_12 ex_12 => ?_)
    have gx_12 : gi x_12 0 10 := gi_add ex_12 gp1 gp2 (by decide)
    refine lv_icmp_ge (tgt := 22) hx hb dX11_runWithLean_13 (by decide) (fun c_13 => ?_) (fun c_13 => ?_)
    · refine lv_iconst (v := 0) hx hb dX11_runWithLean_22 (by decide) ?_
      exact W.iret (v := 0) hx hb hr (fun t ht hW => ⟨⟨0, (), rfl, (gi_w (gi_c 0 0 (by decide)) (by decide)), trivial⟩, hS.F ht⟩) hS.2.2 dX11_runWithLean_23
    · have g_14 : gi p0 1 9 := gi_lt_l (Int32.not_le.mp c_13) g_11 gx_12 (by decide)
      have g_15 : gi x_12 2 10 := gi_lt_r (Int32.not_le.mp c_13) g_11 gx_12 (by decide)
      refine lv_iload_n hx hb dX11_runWithLean_16 rfl (lv_at hl 0 rfl) ?_
      refine lv_iconst (v := 1) hx hb dX11_runWithLean_17 (by decide) ?_
      refine lv_iadd hx hb dX11_runWithLean_18 ?_
      refine lv_topi (fun x_16 ex_16 => ?_)
      have gx_16 : gi x_16 2 10 := gi_add ex_16 g_14 (gi_c 1 1 (by decide)) (by decide)
      refine lv_goto (tgt := 23) hx hb dX11_runWithLean_19 (by decide) ?_
      exact W.iret (v := x_16) hx hb hr (fun t ht hW => ⟨⟨x_16, (), rfl, (gi_w gx_16 (by decide)), trivial⟩, hS.F ht⟩) hS.2.2 dX11_runWithLean_23
  · have g_17 : gi p0 0 5 := gi_le_l (Int32.not_lt.mp c_10) gp0 gp1
    refine lv_iload_n hx hb dX11_runWithLean_5 rfl (lv_at hl 1 rfl) ?_
    refine lv_iconst (v := 1) hx hb dX11_runWithLean_6 (by decide) ?_
    refine lv_iadd hx hb dX11_runWithLean_7 ?_
    refine lv_topi (fun x_18 ex_18 => ?_)
    have gx_18 : gi x_18 1 6 := gi_add ex_18 gp1 (gi_c 1 1 (by decide)) (by decide)
    exact W.iret (v := x_18) hx hb hr (fun t ht hW => ⟨⟨x_18, (), rfl, (gi_w gx_18 (by decide)), trivial⟩, hS.F ht⟩) hS.2.2 dX11_runWithLean_8
theorem dX11_firstRun_0 : decode cX11_firstRun 0 = .ok (.iload_n 0, 1) := by decide +kernel
theorem dX11_firstRun_1 : decode cX11_firstRun 1 = .ok (.ifCond .ne 7, 3) := by decide +kernel
theorem dX11_firstRun_4 : decode cX11_firstRun 4 = .ok (.iconst 0, 1) := by decide +kernel
theorem dX11_firstRun_5 : decode cX11_firstRun 5 = .ok (.goto 4, 3) := by decide +kernel
theorem dX11_firstRun_8 : decode cX11_firstRun 8 = .ok (.iconst 1, 1) := by decide +kernel
theorem dX11_firstRun_9 : decode cX11_firstRun 9 = .ok (.ireturn, 1) := by decide +kernel
set_option maxHeartbeats 4000000 in
set_option maxRecDepth 100000 in
theorem sX11_firstRun (l : Launch) (dC : Nat → ClassId) (dI : Nat → Nat → Nat) (p0 : Int32) (gp0 : gi p0 0 24) : Met l yX11_firstRun (.code yX11_firstRun cX11_firstRun 1 (some .int) :: wsGA) ({ frames := 0, cells := 0, slots := 0, locals := 0 }) (va_Pc [.int p0] (fun U => va_P (dC, dI) vwCl [] U.heap ∧ va_K (dC, dI) vwCl [] U ∧ nzA U)) (va_Qi (fun (r : Int32) (u : Unit) => gi r 0 1) (fun _ _ => True) (fun _ => False)) 0 0 (fun _ => False) := by
  refine Met.ofW (cc := cX11_firstRun) (maxL := 1) (ret := (some .int)) (by decide) rfl ?_
  intro p e s m args below meth c s₁ B hml hv
  obtain ⟨rfl, hP, hK, hz⟩ := hv
  have hx := B.exec
  have hb := B.bytes
  have hr := B.returns
  have hts := atoms_spec (ws := (.code yX11_firstRun cX11_firstRun 1 (some .int) :: wsGA)) B.pre
  have hown : s.vm.findClass RX11 = some m.cls := findClass_of_methodNamed B.named
  have hlocks := B.notSynchronized
  have hS : va_S (fun _ => False) s.heap s.heap [] := va_S.rf
  have hl := lv_entry ([.int p0]) (n := 1) (Nat.le_of_ble_eq_true rfl)
  rw [lg_entry_eq]
  generalize (lg_sl ([.int p0]) ++ List.replicate (1 - (lg_sl ([.int p0])).length) Slot.unset).toArray = ls at hl ⊢
  have hl : lv_has ls 1 [(0, .int p0)] := hl
  refine lv_iload_n hx hb dX11_firstRun_0 rfl (lv_at hl 0 rfl) ?_
  refine lv_if_ne (tgt := 8) hx hb dX11_firstRun_1 (by decide) (fun c_4 => ?_) (fun c_4 => ?_)
  · have g_5 : gi p0 1 24 := gi_ne_lo c_4 gp0 (gi_c 0 0 (by decide)) (by decide)
    refine lv_iconst (v := 1) hx hb dX11_firstRun_8 (by decide) ?_
    exact W.iret (v := 1) hx hb hr (fun t ht hW => ⟨⟨1, (), rfl, (gi_w (gi_c 1 1 (by decide)) (by decide)), trivial⟩, hS.F ht⟩) hS.2.2 dX11_firstRun_9
  · have g_6 : gi p0 0 0 := gi_eq c_4 (gi_c 0 0 (by decide))
    refine lv_iconst (v := 0) hx hb dX11_firstRun_4 (by decide) ?_
    refine lv_goto (tgt := 9) hx hb dX11_firstRun_5 (by decide) ?_
    exact W.iret (v := 0) hx hb hr (fun t ht hW => ⟨⟨0, (), rfl, (gi_w (gi_c 0 0 (by decide)) (by decide)), trivial⟩, hS.F ht⟩) hS.2.2 dX11_firstRun_9
theorem dX11_lastRun_0 : decode cX11_lastRun 0 = .ok (.iload_n 0, 1) := by decide +kernel
theorem dX11_lastRun_1 : decode cX11_lastRun 1 = .ok (.ifCond .ne 7, 3) := by decide +kernel
theorem dX11_lastRun_4 : decode cX11_lastRun 4 = .ok (.iconst 0, 1) := by decide +kernel
theorem dX11_lastRun_5 : decode cX11_lastRun 5 = .ok (.goto 6, 3) := by decide +kernel
theorem dX11_lastRun_8 : decode cX11_lastRun 8 = .ok (.iload_n 1, 1) := by decide +kernel
theorem dX11_lastRun_9 : decode cX11_lastRun 9 = .ok (.iload_n 2, 1) := by decide +kernel
theorem dX11_lastRun_10 : decode cX11_lastRun 10 = .ok (.iadd, 1) := by decide +kernel
theorem dX11_lastRun_11 : decode cX11_lastRun 11 = .ok (.ireturn, 1) := by decide +kernel
set_option maxHeartbeats 4000000 in
set_option maxRecDepth 100000 in
theorem sX11_lastRun (l : Launch) (dC : Nat → ClassId) (dI : Nat → Nat → Nat) (p0 : Int32) (p1 : Int32) (p2 : Int32) (gp0 : gi p0 0 24) (gp1 : gi p1 0 5) (gp2 : gi p2 0 5) : Met l yX11_lastRun (.code yX11_lastRun cX11_lastRun 3 (some .int) :: wsGA) ({ frames := 0, cells := 0, slots := 0, locals := 0 }) (va_Pc [.int p0, .int p1, .int p2] (fun U => va_P (dC, dI) vwCl [] U.heap ∧ va_K (dC, dI) vwCl [] U ∧ nzA U)) (va_Qi (fun (r : Int32) (u : Unit) => gi r 0 10) (fun _ _ => True) (fun _ => False)) 0 0 (fun _ => False) := by
  refine Met.ofW (cc := cX11_lastRun) (maxL := 3) (ret := (some .int)) (by decide) rfl ?_
  intro p e s m args below meth c s₁ B hml hv
  obtain ⟨rfl, hP, hK, hz⟩ := hv
  have hx := B.exec
  have hb := B.bytes
  have hr := B.returns
  have hts := atoms_spec (ws := (.code yX11_lastRun cX11_lastRun 3 (some .int) :: wsGA)) B.pre
  have hown : s.vm.findClass RX11 = some m.cls := findClass_of_methodNamed B.named
  have hlocks := B.notSynchronized
  have hS : va_S (fun _ => False) s.heap s.heap [] := va_S.rf
  have hl := lv_entry ([.int p0, .int p1, .int p2]) (n := 3) (Nat.le_of_ble_eq_true rfl)
  rw [lg_entry_eq]
  generalize (lg_sl ([.int p0, .int p1, .int p2]) ++ List.replicate (3 - (lg_sl ([.int p0, .int p1, .int p2])).length) Slot.unset).toArray = ls at hl ⊢
  have hl : lv_has ls 3 [(0, .int p0), (1, .int p1), (2, .int p2)] := hl
  refine lv_iload_n hx hb dX11_lastRun_0 rfl (lv_at hl 0 rfl) ?_
  refine lv_if_ne (tgt := 8) hx hb dX11_lastRun_1 (by decide) (fun c_5 => ?_) (fun c_5 => ?_)
  · have g_6 : gi p0 1 24 := gi_ne_lo c_5 gp0 (gi_c 0 0 (by decide)) (by decide)
    refine lv_iload_n hx hb dX11_lastRun_8 rfl (lv_at hl 1 rfl) ?_
    refine lv_iload_n hx hb dX11_lastRun_9 rfl (lv_at hl 2 rfl) ?_
    refine lv_iadd hx hb dX11_lastRun_10 ?_
    refine lv_topi (fun x_7 ex_7 => ?_)
    have gx_7 : gi x_7 0 10 := gi_add ex_7 gp1 gp2 (by decide)
    exact W.iret (v := x_7) hx hb hr (fun t ht hW => ⟨⟨x_7, (), rfl, gx_7, trivial⟩, hS.F ht⟩) hS.2.2 dX11_lastRun_11
  · have g_8 : gi p0 0 0 := gi_eq c_5 (gi_c 0 0 (by decide))
    refine lv_iconst (v := 0) hx hb dX11_lastRun_4 (by decide) ?_
    refine lv_goto (tgt := 11) hx hb dX11_lastRun_5 (by decide) ?_
    exact W.iret (v := 0) hx hb hr (fun t ht hW => ⟨⟨0, (), rfl, (gi_w (gi_c 0 0 (by decide)) (by decide)), trivial⟩, hS.F ht⟩) hS.2.2 dX11_lastRun_11
theorem dX11_cell_0 : decode cX11_cell 0 = .ok (.iload_n 0, 1) := by decide +kernel
theorem dX11_cell_1 : decode cX11_cell 1 = .ok (.iload_n 0, 1) := by decide +kernel
theorem dX11_cell_2 : decode cX11_cell 2 = .ok (.iconst 1, 1) := by decide +kernel
theorem dX11_cell_3 : decode cX11_cell 3 = .ok (.iadd, 1) := by decide +kernel
theorem dX11_cell_4 : decode cX11_cell 4 = .ok (.imul, 1) := by decide +kernel
theorem dX11_cell_5 : decode cX11_cell 5 = .ok (.iconst 2, 1) := by decide +kernel
theorem dX11_cell_6 : decode cX11_cell 6 = .ok (.idiv, 1) := by decide +kernel
theorem dX11_cell_7 : decode cX11_cell 7 = .ok (.iload_n 1, 1) := by decide +kernel
theorem dX11_cell_8 : decode cX11_cell 8 = .ok (.iadd, 1) := by decide +kernel
theorem dX11_cell_9 : decode cX11_cell 9 = .ok (.ireturn, 1) := by decide +kernel
set_option maxHeartbeats 4000000 in
set_option maxRecDepth 100000 in
theorem sX11_cell0 (l : Launch) (dC : Nat → ClassId) (dI : Nat → Nat → Nat) (p0 : Int32) (p1 : Int32) (gp0 : gi p0 0 24) (gp1 : gi p1 0 0) : Met l yX11_cell (.code yX11_cell cX11_cell 2 (some .int) :: wsGA) ({ frames := 0, cells := 0, slots := 0, locals := 0 }) (va_Pc [.int p0, .int p1] (fun U => va_P (dC, dI) vwCl [] U.heap ∧ va_K (dC, dI) vwCl [] U ∧ nzA U)) (va_Qi (fun (r : Int32) (u : Unit) => gi r 0 300) (fun _ _ => True) (fun _ => False)) 0 0 (fun _ => False) := by
  refine Met.ofW (cc := cX11_cell) (maxL := 2) (ret := (some .int)) (by decide) rfl ?_
  intro p e s m args below meth c s₁ B hml hv
  obtain ⟨rfl, hP, hK, hz⟩ := hv
  have hx := B.exec
  have hb := B.bytes
  have hr := B.returns
  have hts := atoms_spec (ws := (.code yX11_cell cX11_cell 2 (some .int) :: wsGA)) B.pre
  have hown : s.vm.findClass RX11 = some m.cls := findClass_of_methodNamed B.named
  have hlocks := B.notSynchronized
  have hS : va_S (fun _ => False) s.heap s.heap [] := va_S.rf
  have hl := lv_entry ([.int p0, .int p1]) (n := 2) (Nat.le_of_ble_eq_true rfl)
  rw [lg_entry_eq]
  generalize (lg_sl ([.int p0, .int p1]) ++ List.replicate (2 - (lg_sl ([.int p0, .int p1])).length) Slot.unset).toArray = ls at hl ⊢
  have hl : lv_has ls 2 [(0, .int p0), (1, .int p1)] := hl
  refine lv_iload_n hx hb dX11_cell_0 rfl (lv_at hl 0 rfl) ?_
  refine lv_iload_n hx hb dX11_cell_1 rfl (lv_at hl 0 rfl) ?_
  refine lv_iconst (v := 1) hx hb dX11_cell_2 (by decide) ?_
  refine lv_iadd hx hb dX11_cell_3 ?_
  refine lv_topi (fun x_5 ex_5 => ?_)
  have gx_5 : gi x_5 1 25 := gi_add ex_5 gp0 (gi_c 1 1 (by decide)) (by decide)
  refine lv_imul hx hb dX11_cell_4 ?_
  refine lv_topi (fun x_6 ex_6 => ?_)
  have gx_6 : gi x_6 0 600 := gi_mul ex_6 gp0 gx_5 (by decide)
  refine lv_iconst (v := 2) hx hb dX11_cell_5 (by decide) ?_
  refine lv_idiv hx hb dX11_cell_6 (by decide) ?_
  refine lv_topi (fun x_7 ex_7 => ?_)
  have gx_7 : gi x_7 0 300 := gi_div ex_7 gx_6 (gi_c 2 2 (by decide)) (by decide)
  refine lv_iload_n hx hb dX11_cell_7 rfl (lv_at hl 1 rfl) ?_
  refine lv_iadd hx hb dX11_cell_8 ?_
  refine lv_topi (fun x_8 ex_8 => ?_)
  have gx_8 : gi x_8 0 300 := gi_add ex_8 gx_7 gp1 (by decide)
  exact W.iret (v := x_8) hx hb hr (fun t ht hW => ⟨⟨x_8, (), rfl, gx_8, trivial⟩, hS.F ht⟩) hS.2.2 dX11_cell_9
set_option maxHeartbeats 4000000 in
set_option maxRecDepth 100000 in
theorem sX11_cell (l : Launch) (dC : Nat → ClassId) (dI : Nat → Nat → Nat) (p0 : Int32) (p1 : Int32) (gp0 : gi p0 0 24) (gp1 : gi p1 0 24) : Met l yX11_cell (.code yX11_cell cX11_cell 2 (some .int) :: wsGA) ({ frames := 0, cells := 0, slots := 0, locals := 0 }) (va_Pc [.int p0, .int p1] (fun U => va_P (dC, dI) vwCl [] U.heap ∧ va_K (dC, dI) vwCl [] U ∧ nzA U)) (va_Qi (fun (r : Int32) (u : Unit) => gi r 0 324) (fun _ _ => True) (fun _ => False)) 0 0 (fun _ => False) := by
  refine Met.ofW (cc := cX11_cell) (maxL := 2) (ret := (some .int)) (by decide) rfl ?_
  intro p e s m args below meth c s₁ B hml hv
  obtain ⟨rfl, hP, hK, hz⟩ := hv
  have hx := B.exec
  have hb := B.bytes
  have hr := B.returns
  have hts := atoms_spec (ws := (.code yX11_cell cX11_cell 2 (some .int) :: wsGA)) B.pre
  have hown : s.vm.findClass RX11 = some m.cls := findClass_of_methodNamed B.named
  have hlocks := B.notSynchronized
  have hS : va_S (fun _ => False) s.heap s.heap [] := va_S.rf
  have hl := lv_entry ([.int p0, .int p1]) (n := 2) (Nat.le_of_ble_eq_true rfl)
  rw [lg_entry_eq]
  generalize (lg_sl ([.int p0, .int p1]) ++ List.replicate (2 - (lg_sl ([.int p0, .int p1])).length) Slot.unset).toArray = ls at hl ⊢
  have hl : lv_has ls 2 [(0, .int p0), (1, .int p1)] := hl
  refine lv_iload_n hx hb dX11_cell_0 rfl (lv_at hl 0 rfl) ?_
  refine lv_iload_n hx hb dX11_cell_1 rfl (lv_at hl 0 rfl) ?_
  refine lv_iconst (v := 1) hx hb dX11_cell_2 (by decide) ?_
  refine lv_iadd hx hb dX11_cell_3 ?_
  refine lv_topi (fun x_5 ex_5 => ?_)
  have gx_5 : gi x_5 1 25 := gi_add ex_5 gp0 (gi_c 1 1 (by decide)) (by decide)
  refine lv_imul hx hb dX11_cell_4 ?_
  refine lv_topi (fun x_6 ex_6 => ?_)
  have gx_6 : gi x_6 0 600 := gi_mul ex_6 gp0 gx_5 (by decide)
  refine lv_iconst (v := 2) hx hb dX11_cell_5 (by decide) ?_
  refine lv_idiv hx hb dX11_cell_6 (by decide) ?_
  refine lv_topi (fun x_7 ex_7 => ?_)
  have gx_7 : gi x_7 0 300 := gi_div ex_7 gx_6 (gi_c 2 2 (by decide)) (by decide)
  refine lv_iload_n hx hb dX11_cell_7 rfl (lv_at hl 1 rfl) ?_
  refine lv_iadd hx hb dX11_cell_8 ?_
  refine lv_topi (fun x_8 ex_8 => ?_)
  have gx_8 : gi x_8 0 324 := gi_add ex_8 gx_7 gp1 (by decide)
  exact W.iret (v := x_8) hx hb hr (fun t ht hW => ⟨⟨x_8, (), rfl, gx_8, trivial⟩, hS.F ht⟩) hS.2.2 dX11_cell_9
theorem dX11_spot_0 : decode cX11_spot 0 = .ok (.iload_n 0, 1) := by decide +kernel
theorem dX11_spot_1 : decode cX11_spot 1 = .ok (.iload_n 1, 1) := by decide +kernel
theorem dX11_spot_2 : decode cX11_spot 2 = .ok (.invokestatic 425, 3) := by decide +kernel
theorem dX11_spot_5 : decode cX11_spot 5 = .ok (.bipush 11, 2) := by decide +kernel
theorem dX11_spot_7 : decode cX11_spot 7 = .ok (.imul, 1) := by decide +kernel
theorem dX11_spot_8 : decode cX11_spot 8 = .ok (.iload_n 2, 1) := by decide +kernel
theorem dX11_spot_9 : decode cX11_spot 9 = .ok (.iadd, 1) := by decide +kernel
theorem dX11_spot_10 : decode cX11_spot 10 = .ok (.ireturn, 1) := by decide +kernel
set_option maxHeartbeats 4000000 in
set_option maxRecDepth 100000 in
theorem sX11_spot00 (l : Launch) (dC : Nat → ClassId) (dI : Nat → Nat → Nat) (p0 : Int32) (p1 : Int32) (p2 : Int32) (gp0 : gi p0 0 24) (gp1 : gi p1 0 0) (gp2 : gi p2 0 0) : Met l yX11_spot (.code yX11_spot cX11_spot 3 (some .int) :: wsGA) ({ frames := 1, cells := 0, slots := 0, locals := 21 }) (va_Pc [.int p0, .int p1, .int p2] (fun U => va_P (dC, dI) vwCl [] U.heap ∧ va_K (dC, dI) vwCl [] U ∧ nzA U)) (va_Qi (fun (r : Int32) (u : Unit) => gi r 0 3300) (fun _ _ => True) (fun _ => False)) 0 0 (fun _ => False) := by
  refine Met.ofW (cc := cX11_spot) (maxL := 3) (ret := (some .int)) (by decide) rfl ?_
  intro p e s m args below meth c s₁ B hml hv
  obtain ⟨rfl, hP, hK, hz⟩ := hv
  have hx := B.exec
  have hb := B.bytes
  have hr := B.returns
  have hts := atoms_spec (ws := (.code yX11_spot cX11_spot 3 (some .int) :: wsGA)) B.pre
  have hown : s.vm.findClass RX11 = some m.cls := findClass_of_methodNamed B.named
  have hlocks := B.notSynchronized
  have hS : va_S (fun _ => False) s.heap s.heap [] := va_S.rf
  have hl := lv_entry ([.int p0, .int p1, .int p2]) (n := 3) (Nat.le_of_ble_eq_true rfl)
  rw [lg_entry_eq]
  generalize (lg_sl ([.int p0, .int p1, .int p2]) ++ List.replicate (3 - (lg_sl ([.int p0, .int p1, .int p2])).length) Slot.unset).toArray = ls at hl ⊢
  have hl : lv_has ls 3 [(0, .int p0), (1, .int p1), (2, .int p2)] := hl
  refine lv_iload_n hx hb dX11_spot_0 rfl (lv_at hl 0 rfl) ?_
  refine lv_iload_n hx hb dX11_spot_1 rfl (lv_at hl 1 rfl) ?_
  have hPc := hP.sub (ws' := []) [] rfl
  have hKc := hK.sub (tys' := []) [] rfl
  refine va_calli (va_runS (As := [.int p0, .int p1]) (rest := []) ⟨hx, hb, hml, hown, hts⟩ (sX11_cell0 l dC dI p0 p1 gp0 gp1) (cwS 2 hts (gz_gS mGA_583 mGA_584 mGA_1 mGA_585 goodGA) rfl rfl rfl (by decide +kernel) ⟨Nat.le_of_ble_eq_true rfl, Nat.le_of_ble_eq_true rfl⟩) ⟨fun a U g mk q => by obtain ⟨q0, qP, qK, qZ⟩ := q; exact ⟨q0, qP, va_K.moved (u := U) (U := U.calling g mk a) (Vm.Alike.refl U.vm) qK, nzA_same (u := U) (U := U.calling g mk a) rfl qZ⟩, fun U hU hW => ⟨rfl, by rw [hU]; exact hPc, va_K.moved hW.alike hKc, nzA_warm hW hz⟩⟩ rfl rfl hl.1 rfl (lv_room (Nat.le_of_ble_eq_true rfl)) dX11_spot_2 ⟨Nat.zero_le _, Nat.zero_le _⟩) hS (fun q _ h => h.elim) (fun q h => h.elim) (fun r_4 u t H1 locs ht hvm hw hB hz1 hk1 hS => ?_)
  have hP := gz_keep hP hk1
  generalize H1 = H at hP hS ⊢
  have gr_4 : gi r_4 0 300 := hw
  refine lv_bipush (v := 11) hx hb dX11_spot_5 (by decide) ?_
  refine lv_imul hx hb dX11_spot_7 ?_
  refine lv_topi (fun x_5 ex_5 => ?_)
  have gx_5 : gi x_5 0 3300 := gi_mul ex_5 gr_4 (gi_c 11 11 (by decide)) (by decide)
  refine lv_iload_n hx hb dX11_spot_8 rfl (lv_at hl 2 rfl) ?_
  refine lv_iadd hx hb dX11_spot_9 ?_
  refine lv_topi (fun x_6 ex_6 => ?_)
  have gx_6 : gi x_6 0 3300 := gi_add ex_6 gx_5 gp2 (by decide)
  exact W.iret (v := x_6) hx hb hr (fun t ht hW => ⟨⟨x_6, (), rfl, gx_6, trivial⟩, hS.F ht⟩) hS.2.2 dX11_spot_10
set_option maxHeartbeats 4000000 in
set_option maxRecDepth 100000 in
theorem sX11_spot0 (l : Launch) (dC : Nat → ClassId) (dI : Nat → Nat → Nat) (p0 : Int32) (p1 : Int32) (p2 : Int32) (gp0 : gi p0 0 24) (gp1 : gi p1 0 24) (gp2 : gi p2 0 0) : Met l yX11_spot (.code yX11_spot cX11_spot 3 (some .int) :: wsGA) ({ frames := 1, cells := 0, slots := 0, locals := 21 }) (va_Pc [.int p0, .int p1, .int p2] (fun U => va_P (dC, dI) vwCl [] U.heap ∧ va_K (dC, dI) vwCl [] U ∧ nzA U)) (va_Qi (fun (r : Int32) (u : Unit) => gi r 0 3564) (fun _ _ => True) (fun _ => False)) 0 0 (fun _ => False) := by
  refine Met.ofW (cc := cX11_spot) (maxL := 3) (ret := (some .int)) (by decide) rfl ?_
  intro p e s m args below meth c s₁ B hml hv
  obtain ⟨rfl, hP, hK, hz⟩ := hv
  have hx := B.exec
  have hb := B.bytes
  have hr := B.returns
  have hts := atoms_spec (ws := (.code yX11_spot cX11_spot 3 (some .int) :: wsGA)) B.pre
  have hown : s.vm.findClass RX11 = some m.cls := findClass_of_methodNamed B.named
  have hlocks := B.notSynchronized
  have hS : va_S (fun _ => False) s.heap s.heap [] := va_S.rf
  have hl := lv_entry ([.int p0, .int p1, .int p2]) (n := 3) (Nat.le_of_ble_eq_true rfl)
  rw [lg_entry_eq]
  generalize (lg_sl ([.int p0, .int p1, .int p2]) ++ List.replicate (3 - (lg_sl ([.int p0, .int p1, .int p2])).length) Slot.unset).toArray = ls at hl ⊢
  have hl : lv_has ls 3 [(0, .int p0), (1, .int p1), (2, .int p2)] := hl
  refine lv_iload_n hx hb dX11_spot_0 rfl (lv_at hl 0 rfl) ?_
  refine lv_iload_n hx hb dX11_spot_1 rfl (lv_at hl 1 rfl) ?_
  have hPc := hP.sub (ws' := []) [] rfl
  have hKc := hK.sub (tys' := []) [] rfl
  refine va_calli (va_runS (As := [.int p0, .int p1]) (rest := []) ⟨hx, hb, hml, hown, hts⟩ (sX11_cell l dC dI p0 p1 gp0 gp1) (cwS 2 hts (gz_gS mGA_583 mGA_584 mGA_1 mGA_585 goodGA) rfl rfl rfl (by decide +kernel) ⟨Nat.le_of_ble_eq_true rfl, Nat.le_of_ble_eq_true rfl⟩) ⟨fun a U g mk q => by obtain ⟨q0, qP, qK, qZ⟩ := q; exact ⟨q0, qP, va_K.moved (u := U) (U := U.calling g mk a) (Vm.Alike.refl U.vm) qK, nzA_same (u := U) (U := U.calling g mk a) rfl qZ⟩, fun U hU hW => ⟨rfl, by rw [hU]; exact hPc, va_K.moved hW.alike hKc, nzA_warm hW hz⟩⟩ rfl rfl hl.1 rfl (lv_room (Nat.le_of_ble_eq_true rfl)) dX11_spot_2 ⟨Nat.zero_le _, Nat.zero_le _⟩) hS (fun q _ h => h.elim) (fun q h => h.elim) (fun r_4 u t H1 locs ht hvm hw hB hz1 hk1 hS => ?_)
  have hP := gz_keep hP hk1
  generalize H1 = H at hP hS ⊢
  have gr_4 : gi r_4 0 324 := hw
  refine lv_bipush (v := 11) hx hb dX11_spot_5 (by decide) ?_
  refine lv_imul hx hb dX11_spot_7 ?_
  refine lv_topi (fun x_5 ex_5 => ?_)
  have gx_5 : gi x_5 0 3564 := gi_mul ex_5 gr_4 (gi_c 11 11 (by decide)) (by decide)
  refine lv_iload_n hx hb dX11_spot_8 rfl (lv_at hl 2 rfl) ?_
  refine lv_iadd hx hb dX11_spot_9 ?_
  refine lv_topi (fun x_6 ex_6 => ?_)
  have gx_6 : gi x_6 0 3564 := gi_add ex_6 gx_5 gp2 (by decide)
  exact W.iret (v := x_6) hx hb hr (fun t ht hW => ⟨⟨x_6, (), rfl, gx_6, trivial⟩, hS.F ht⟩) hS.2.2 dX11_spot_10
set_option maxHeartbeats 4000000 in
set_option maxRecDepth 100000 in
theorem sX11_spot (l : Launch) (dC : Nat → ClassId) (dI : Nat → Nat → Nat) (p0 : Int32) (p1 : Int32) (p2 : Int32) (gp0 : gi p0 0 24) (gp1 : gi p1 0 24) (gp2 : gi p2 0 10) : Met l yX11_spot (.code yX11_spot cX11_spot 3 (some .int) :: wsGA) ({ frames := 1, cells := 0, slots := 0, locals := 21 }) (va_Pc [.int p0, .int p1, .int p2] (fun U => va_P (dC, dI) vwCl [] U.heap ∧ va_K (dC, dI) vwCl [] U ∧ nzA U)) (va_Qi (fun (r : Int32) (u : Unit) => gi r 0 3574) (fun _ _ => True) (fun _ => False)) 0 0 (fun _ => False) := by
  refine Met.ofW (cc := cX11_spot) (maxL := 3) (ret := (some .int)) (by decide) rfl ?_
  intro p e s m args below meth c s₁ B hml hv
  obtain ⟨rfl, hP, hK, hz⟩ := hv
  have hx := B.exec
  have hb := B.bytes
  have hr := B.returns
  have hts := atoms_spec (ws := (.code yX11_spot cX11_spot 3 (some .int) :: wsGA)) B.pre
  have hown : s.vm.findClass RX11 = some m.cls := findClass_of_methodNamed B.named
  have hlocks := B.notSynchronized
  have hS : va_S (fun _ => False) s.heap s.heap [] := va_S.rf
  have hl := lv_entry ([.int p0, .int p1, .int p2]) (n := 3) (Nat.le_of_ble_eq_true rfl)
  rw [lg_entry_eq]
  generalize (lg_sl ([.int p0, .int p1, .int p2]) ++ List.replicate (3 - (lg_sl ([.int p0, .int p1, .int p2])).length) Slot.unset).toArray = ls at hl ⊢
  have hl : lv_has ls 3 [(0, .int p0), (1, .int p1), (2, .int p2)] := hl
  refine lv_iload_n hx hb dX11_spot_0 rfl (lv_at hl 0 rfl) ?_
  refine lv_iload_n hx hb dX11_spot_1 rfl (lv_at hl 1 rfl) ?_
  have hPc := hP.sub (ws' := []) [] rfl
  have hKc := hK.sub (tys' := []) [] rfl
  refine va_calli (va_runS (As := [.int p0, .int p1]) (rest := []) ⟨hx, hb, hml, hown, hts⟩ (sX11_cell l dC dI p0 p1 gp0 gp1) (cwS 2 hts (gz_gS mGA_583 mGA_584 mGA_1 mGA_585 goodGA) rfl rfl rfl (by decide +kernel) ⟨Nat.le_of_ble_eq_true rfl, Nat.le_of_ble_eq_true rfl⟩) ⟨fun a U g mk q => by obtain ⟨q0, qP, qK, qZ⟩ := q; exact ⟨q0, qP, va_K.moved (u := U) (U := U.calling g mk a) (Vm.Alike.refl U.vm) qK, nzA_same (u := U) (U := U.calling g mk a) rfl qZ⟩, fun U hU hW => ⟨rfl, by rw [hU]; exact hPc, va_K.moved hW.alike hKc, nzA_warm hW hz⟩⟩ rfl rfl hl.1 rfl (lv_room (Nat.le_of_ble_eq_true rfl)) dX11_spot_2 ⟨Nat.zero_le _, Nat.zero_le _⟩) hS (fun q _ h => h.elim) (fun q h => h.elim) (fun r_4 u t H1 locs ht hvm hw hB hz1 hk1 hS => ?_)
  have hP := gz_keep hP hk1
  generalize H1 = H at hP hS ⊢
  have gr_4 : gi r_4 0 324 := hw
  refine lv_bipush (v := 11) hx hb dX11_spot_5 (by decide) ?_
  refine lv_imul hx hb dX11_spot_7 ?_
  refine lv_topi (fun x_5 ex_5 => ?_)
  have gx_5 : gi x_5 0 3564 := gi_mul ex_5 gr_4 (gi_c 11 11 (by decide)) (by decide)
  refine lv_iload_n hx hb dX11_spot_8 rfl (lv_at hl 2 rfl) ?_
  refine lv_iadd hx hb dX11_spot_9 ?_
  refine lv_topi (fun x_6 ex_6 => ?_)
  have gx_6 : gi x_6 0 3574 := gi_add ex_6 gx_5 gp2 (by decide)
  exact W.iret (v := x_6) hx hb hr (fun t ht hW => ⟨⟨x_6, (), rfl, gx_6, trivial⟩, hS.F ht⟩) hS.2.2 dX11_spot_10
theorem dX11_isEither_0 : decode cX11_isEither 0 = .ok (.iload_n 0, 1) := by decide +kernel
theorem dX11_isEither_1 : decode cX11_isEither 1 = .ok (.ifCond .eq 8, 3) := by decide +kernel
theorem dX11_isEither_4 : decode cX11_isEither 4 = .ok (.iload_n 0, 1) := by decide +kernel
theorem dX11_isEither_5 : decode cX11_isEither 5 = .ok (.iconst 1, 1) := by decide +kernel
theorem dX11_isEither_6 : decode cX11_isEither 6 = .ok (.if_icmp .ne 7, 3) := by decide +kernel
theorem dX11_isEither_9 : decode cX11_isEither 9 = .ok (.iconst 1, 1) := by decide +kernel
theorem dX11_isEither_10 : decode cX11_isEither 10 = .ok (.goto 4, 3) := by decide +kernel
theorem dX11_isEither_13 : decode cX11_isEither 13 = .ok (.iconst 0, 1) := by decide +kernel
theorem dX11_isEither_14 : decode cX11_isEither 14 = .ok (.ireturn, 1) := by decide +kernel
set_option maxHeartbeats 4000000 in
set_option maxRecDepth 100000 in
theorem sX11_isEither (l : Launch) (dC : Nat → ClassId) (dI : Nat → Nat → Nat) (p0 : Int32)  : Met l yX11_isEither (.code yX11_isEither cX11_isEither 1 (some .boolean) :: wsGA) ({ frames := 0, cells := 0, slots := 0, locals := 0 }) (va_Pc [.int p0] (fun U => va_P (dC, dI) vwCl [] U.heap ∧ va_K (dC, dI) vwCl [] U ∧ nzA U)) (va_Qi (fun (r : Int32) (u : Unit) => gi r 0 1) (fun _ _ => True) (fun _ => False)) 0 0 (fun _ => False) := by
  refine Met.ofW (cc := cX11_isEither) (maxL := 1) (ret := (some .boolean)) (by decide) rfl ?_
  intro p e s m args below meth c s₁ B hml hv
  obtain ⟨rfl, hP, hK, hz⟩ := hv
  have hx := B.exec
  have hb := B.bytes
  have hr := B.returns
  have hts := atoms_spec (ws := (.code yX11_isEither cX11_isEither 1 (some .boolean) :: wsGA)) B.pre
  have hown : s.vm.findClass RX11 = some m.cls := findClass_of_methodNamed B.named
  have hlocks := B.notSynchronized
  have hS : va_S (fun _ => False) s.heap s.heap [] := va_S.rf
  have hl := lv_entry ([.int p0]) (n := 1) (Nat.le_of_ble_eq_true rfl)
  rw [lg_entry_eq]
  generalize (lg_sl ([.int p0]) ++ List.replicate (1 - (lg_sl ([.int p0])).length) Slot.unset).toArray = ls at hl ⊢
  have hl : lv_has ls 1 [(0, .int p0)] := hl
  refine lv_iload_n hx hb dX11_isEither_0 rfl (lv_at hl 0 rfl) ?_
  refine lv_if_eq (tgt := 9) hx hb dX11_isEither_1 (by decide) (fun c_5 => ?_) (fun c_5 => ?_)
  · have g_6 : gi p0 0 0 := gi_eq c_5 (gi_c 0 0 (by decide))
    refine lv_iconst (v := 1) hx hb dX11_isEither_9 (by decide) ?_
    refine lv_goto (tgt := 14) hx hb dX11_isEither_10 (by decide) ?_
    exact W.zret (v := 1) hx hb hr (by decide) (fun t ht hW => ⟨⟨1, (), rfl, (gi_w (gi_c 1 1 (by decide)) (by decide)), trivial⟩, hS.F ht⟩) hS.2.2 dX11_isEither_14
  · refine lv_iload_n hx hb dX11_isEither_4 rfl (lv_at hl 0 rfl) ?_
    refine lv_iconst (v := 1) hx hb dX11_isEither_5 (by decide) ?_
    refine lv_icmp_ne (tgt := 13) hx hb dX11_isEither_6 (by decide) (fun c_7 => ?_) (fun c_7 => ?_)
    · refine lv_iconst (v := 0) hx hb dX11_isEither_13 (by decide) ?_
      exact W.zret (v := 0) hx hb hr (by decide) (fun t ht hW => ⟨⟨0, (), rfl, (gi_w (gi_c 0 0 (by decide)) (by decide)), trivial⟩, hS.F ht⟩) hS.2.2 dX11_isEither_14
    · have g_8 : gi p0 1 1 := gi_eq c_7 (gi_c 1 1 (by decide))
      refine lv_iconst (v := 1) hx hb dX11_isEither_9 (by decide) ?_
      refine lv_goto (tgt := 14) hx hb dX11_isEither_10 (by decide) ?_
      exact W.zret (v := 1) hx hb hr (by decide) (fun t ht hW => ⟨⟨1, (), rfl, (gi_w (gi_c 1 1 (by decide)) (by decide)), trivial⟩, hS.F ht⟩) hS.2.2 dX11_isEither_14
theorem dX6_isLetter_0 : decode cX6_isLetter 0 = .ok (.iload_n 0, 1) := by decide +kernel
theorem dX6_isLetter_1 : decode cX6_isLetter 1 = .ok (.bipush 97, 2) := by decide +kernel
theorem dX6_isLetter_3 : decode cX6_isLetter 3 = .ok (.if_icmp .lt 13, 3) := by decide +kernel
theorem dX6_isLetter_6 : decode cX6_isLetter 6 = .ok (.iload_n 0, 1) := by decide +kernel
theorem dX6_isLetter_7 : decode cX6_isLetter 7 = .ok (.bipush 122, 2) := by decide +kernel
theorem dX6_isLetter_9 : decode cX6_isLetter 9 = .ok (.if_icmp .gt 7, 3) := by decide +kernel
theorem dX6_isLetter_12 : decode cX6_isLetter 12 = .ok (.iconst 1, 1) := by decide +kernel
theorem dX6_isLetter_13 : decode cX6_isLetter 13 = .ok (.goto 4, 3) := by decide +kernel
theorem dX6_isLetter_16 : decode cX6_isLetter 16 = .ok (.iconst 0, 1) := by decide +kernel
theorem dX6_isLetter_17 : decode cX6_isLetter 17 = .ok (.ireturn, 1) := by decide +kernel
noncomputable def bfX6_isLetter_17 (p0 : Int32) (s0 : Int32) : Int32 := s0
noncomputable def bfX6_isLetter_16 (p0 : Int32) : Int32 := bfX6_isLetter_17 p0 (0 : Int32)
noncomputable def fX6_isLetter (p0 : Int32) : Int32 := if p0 < (97 : Int32) then (bfX6_isLetter_16 p0) else (if (122 : Int32) < p0 then (bfX6_isLetter_16 p0) else (bfX6_isLetter_17 p0 (1 : Int32)))
set_option maxHeartbeats 4000000 in
set_option maxRecDepth 100000 in
theorem sX6_isLetter (l : Launch) (dC : Nat → ClassId) (dI : Nat → Nat → Nat) (p0 : Int32)  : Met l yX6_isLetter (.code yX6_isLetter cX6_isLetter 1 (some .boolean) :: wsGA) ({ frames := 0, cells := 0, slots := 0, locals := 0 }) (va_Pc [.int p0] (fun U => va_P (dC, dI) vwCl [] U.heap ∧ va_K (dC, dI) vwCl [] U ∧ nzA U)) (va_Qi (fun (r : Int32) (u : Unit) => (gi r 0 1) ∧ r = fX6_isLetter p0) (fun _ _ => True) (fun _ => False)) 0 0 (fun _ => False) := by
  refine Met.ofW (cc := cX6_isLetter) (maxL := 1) (ret := (some .boolean)) (by decide) rfl ?_
  intro p e s m args below meth c s₁ B hml hv
  obtain ⟨rfl, hP, hK, hz⟩ := hv
  have hx := B.exec
  have hb := B.bytes
  have hr := B.returns
  have hts := atoms_spec (ws := (.code yX6_isLetter cX6_isLetter 1 (some .boolean) :: wsGA)) B.pre
  have hown : s.vm.findClass RX6 = some m.cls := findClass_of_methodNamed B.named
  have hlocks := B.notSynchronized
  have hS : va_S (fun _ => False) s.heap s.heap [] := va_S.rf
  have hl := lv_entry ([.int p0]) (n := 1) (Nat.le_of_ble_eq_true rfl)
  rw [lg_entry_eq]
  generalize (lg_sl ([.int p0]) ++ List.replicate (1 - (lg_sl ([.int p0])).length) Slot.unset).toArray = ls at hl ⊢
  have hl : lv_has ls 1 [(0, .int p0)] := hl
  obtain ⟨RES, hF⟩ : ∃ R9, fX6_isLetter p0 = R9 := ⟨_, rfl⟩
  have hR9 := hF
  refine lv_iload_n hx hb dX6_isLetter_0 rfl (lv_at hl 0 rfl) ?_
  refine lv_bipush (v := 97) hx hb dX6_isLetter_1 (by decide) ?_
  refine lv_icmp_lt (tgt := 16) hx hb dX6_isLetter_3 (by decide) (fun c_7 => ?_) (fun c_7 => ?_)
  · have hF := gf_pos c_7 hF
    have g_8 : gi p0 (-2147483648) 96 := gi_lt_l c_7 (gi_any p0) (gi_c 97 97 (by decide)) (by decide)
    refine lv_iconst (v := 0) hx hb dX6_isLetter_16 (by decide) ?_
    exact W.zret (v := 0) hx hb hr (by decide) (fun t ht hW => ⟨⟨0, (), rfl, ⟨(gi_w (gi_c 0 0 (by decide)) (by decide)), hF.trans hR9.symm⟩, trivial⟩, hS.F ht⟩) hS.2.2 dX6_isLetter_17
  · have hF := gf_neg c_7 hF
    have g_9 : gi p0 97 2147483647 := gi_le_r (Int32.not_lt.mp c_7) (gi_c 97 97 (by decide)) (gi_any p0)
    refine lv_iload_n hx hb dX6_isLetter_6 rfl (lv_at hl 0 rfl) ?_
    refine lv_bipush (v := 122) hx hb dX6_isLetter_7 (by decide) ?_
    refine lv_icmp_gt (tgt := 16) hx hb dX6_isLetter_9 (by decide) (fun c_10 => ?_) (fun c_10 => ?_)
    · have hF := gf_pos c_10 hF
      have g_11 : gi p0 123 2147483647 := gi_lt_r c_10 (gi_c 122 122 (by decide)) g_9 (by decide)
      refine lv_iconst (v := 0) hx hb dX6_isLetter_16 (by decide) ?_
      exact W.zret (v := 0) hx hb hr (by decide) (fun t ht hW => ⟨⟨0, (), rfl, ⟨(gi_w (gi_c 0 0 (by decide)) (by decide)), hF.trans hR9.symm⟩, trivial⟩, hS.F ht⟩) hS.2.2 dX6_isLetter_17
    · have hF := gf_neg c_10 hF
      have g_12 : gi p0 97 122 := gi_le_l (Int32.not_lt.mp c_10) g_9 (gi_c 122 122 (by decide))
      refine lv_iconst (v := 1) hx hb dX6_isLetter_12 (by decide) ?_
      refine lv_goto (tgt := 17) hx hb dX6_isLetter_13 (by decide) ?_
      exact W.zret (v := 1) hx hb hr (by decide) (fun t ht hW => ⟨⟨1, (), rfl, ⟨(gi_w (gi_c 1 1 (by decide)) (by decide)), hF.trans hR9.symm⟩, trivial⟩, hS.F ht⟩) hS.2.2 dX6_isLetter_17
theorem dX6_isDigit_0 : decode cX6_isDigit 0 = .ok (.iload_n 0, 1) := by decide +kernel
theorem dX6_isDigit_1 : decode cX6_isDigit 1 = .ok (.bipush 48, 2) := by decide +kernel
theorem dX6_isDigit_3 : decode cX6_isDigit 3 = .ok (.if_icmp .lt 13, 3) := by decide +kernel
theorem dX6_isDigit_6 : decode cX6_isDigit 6 = .ok (.iload_n 0, 1) := by decide +kernel
theorem dX6_isDigit_7 : decode cX6_isDigit 7 = .ok (.bipush 57, 2) := by decide +kernel
theorem dX6_isDigit_9 : decode cX6_isDigit 9 = .ok (.if_icmp .gt 7, 3) := by decide +kernel
theorem dX6_isDigit_12 : decode cX6_isDigit 12 = .ok (.iconst 1, 1) := by decide +kernel
theorem dX6_isDigit_13 : decode cX6_isDigit 13 = .ok (.goto 4, 3) := by decide +kernel
theorem dX6_isDigit_16 : decode cX6_isDigit 16 = .ok (.iconst 0, 1) := by decide +kernel
theorem dX6_isDigit_17 : decode cX6_isDigit 17 = .ok (.ireturn, 1) := by decide +kernel
noncomputable def bfX6_isDigit_17 (p0 : Int32) (s0 : Int32) : Int32 := s0
noncomputable def bfX6_isDigit_16 (p0 : Int32) : Int32 := bfX6_isDigit_17 p0 (0 : Int32)
noncomputable def fX6_isDigit (p0 : Int32) : Int32 := if p0 < (48 : Int32) then (bfX6_isDigit_16 p0) else (if (57 : Int32) < p0 then (bfX6_isDigit_16 p0) else (bfX6_isDigit_17 p0 (1 : Int32)))
set_option maxHeartbeats 4000000 in
set_option maxRecDepth 100000 in
theorem sX6_isDigit (l : Launch) (dC : Nat → ClassId) (dI : Nat → Nat → Nat) (p0 : Int32)  : Met l yX6_isDigit (.code yX6_isDigit cX6_isDigit 1 (some .boolean) :: wsGA) ({ frames := 0, cells := 0, slots := 0, locals := 0 }) (va_Pc [.int p0] (fun U => va_P (dC, dI) vwCl [] U.heap ∧ va_K (dC, dI) vwCl [] U ∧ nzA U)) (va_Qi (fun (r : Int32) (u : Unit) => (gi r 0 1) ∧ r = fX6_isDigit p0) (fun _ _ => True) (fun _ => False)) 0 0 (fun _ => False) := by
  refine Met.ofW (cc := cX6_isDigit) (maxL := 1) (ret := (some .boolean)) (by decide) rfl ?_
  intro p e s m args below meth c s₁ B hml hv
  obtain ⟨rfl, hP, hK, hz⟩ := hv
  have hx := B.exec
  have hb := B.bytes
  have hr := B.returns
  have hts := atoms_spec (ws := (.code yX6_isDigit cX6_isDigit 1 (some .boolean) :: wsGA)) B.pre
  have hown : s.vm.findClass RX6 = some m.cls := findClass_of_methodNamed B.named
  have hlocks := B.notSynchronized
  have hS : va_S (fun _ => False) s.heap s.heap [] := va_S.rf
  have hl := lv_entry ([.int p0]) (n := 1) (Nat.le_of_ble_eq_true rfl)
  rw [lg_entry_eq]
  generalize (lg_sl ([.int p0]) ++ List.replicate (1 - (lg_sl ([.int p0])).length) Slot.unset).toArray = ls at hl ⊢
  have hl : lv_has ls 1 [(0, .int p0)] := hl
  obtain ⟨RES, hF⟩ : ∃ R9, fX6_isDigit p0 = R9 := ⟨_, rfl⟩
  have hR9 := hF
  refine lv_iload_n hx hb dX6_isDigit_0 rfl (lv_at hl 0 rfl) ?_
  refine lv_bipush (v := 48) hx hb dX6_isDigit_1 (by decide) ?_
  refine lv_icmp_lt (tgt := 16) hx hb dX6_isDigit_3 (by decide) (fun c_7 => ?_) (fun c_7 => ?_)
  · have hF := gf_pos c_7 hF
    have g_8 : gi p0 (-2147483648) 47 := gi_lt_l c_7 (gi_any p0) (gi_c 48 48 (by decide)) (by decide)
    refine lv_iconst (v := 0) hx hb dX6_isDigit_16 (by decide) ?_
    exact W.zret (v := 0) hx hb hr (by decide) (fun t ht hW => ⟨⟨0, (), rfl, ⟨(gi_w (gi_c 0 0 (by decide)) (by decide)), hF.trans hR9.symm⟩, trivial⟩, hS.F ht⟩) hS.2.2 dX6_isDigit_17
  · have hF := gf_neg c_7 hF
    have g_9 : gi p0 48 2147483647 := gi_le_r (Int32.not_lt.mp c_7) (gi_c 48 48 (by decide)) (gi_any p0)
    refine lv_iload_n hx hb dX6_isDigit_6 rfl (lv_at hl 0 rfl) ?_
    refine lv_bipush (v := 57) hx hb dX6_isDigit_7 (by decide) ?_
    refine lv_icmp_gt (tgt := 16) hx hb dX6_isDigit_9 (by decide) (fun c_10 => ?_) (fun c_10 => ?_)
    · have hF := gf_pos c_10 hF
      have g_11 : gi p0 58 2147483647 := gi_lt_r c_10 (gi_c 57 57 (by decide)) g_9 (by decide)
      refine lv_iconst (v := 0) hx hb dX6_isDigit_16 (by decide) ?_
      exact W.zret (v := 0) hx hb hr (by decide) (fun t ht hW => ⟨⟨0, (), rfl, ⟨(gi_w (gi_c 0 0 (by decide)) (by decide)), hF.trans hR9.symm⟩, trivial⟩, hS.F ht⟩) hS.2.2 dX6_isDigit_17
    · have hF := gf_neg c_10 hF
      have g_12 : gi p0 48 57 := gi_le_l (Int32.not_lt.mp c_10) g_9 (gi_c 57 57 (by decide))
      refine lv_iconst (v := 1) hx hb dX6_isDigit_12 (by decide) ?_
      refine lv_goto (tgt := 17) hx hb dX6_isDigit_13 (by decide) ?_
      exact W.zret (v := 1) hx hb hr (by decide) (fun t ht hW => ⟨⟨1, (), rfl, ⟨(gi_w (gi_c 1 1 (by decide)) (by decide)), hF.trans hR9.symm⟩, trivial⟩, hS.F ht⟩) hS.2.2 dX6_isDigit_17
theorem dX6_isBlank_0 : decode cX6_isBlank 0 = .ok (.iload_n 0, 1) := by decide +kernel
theorem dX6_isBlank_1 : decode cX6_isBlank 1 = .ok (.bipush 32, 2) := by decide +kernel
theorem dX6_isBlank_3 : decode cX6_isBlank 3 = .ok (.if_icmp .eq 9, 3) := by decide +kernel
theorem dX6_isBlank_6 : decode cX6_isBlank 6 = .ok (.iload_n 0, 1) := by decide +kernel
theorem dX6_isBlank_7 : decode cX6_isBlank 7 = .ok (.bipush 10, 2) := by decide +kernel
theorem dX6_isBlank_9 : decode cX6_isBlank 9 = .ok (.if_icmp .ne 7, 3) := by decide +kernel
theorem dX6_isBlank_12 : decode cX6_isBlank 12 = .ok (.iconst 1, 1) := by decide +kernel
theorem dX6_isBlank_13 : decode cX6_isBlank 13 = .ok (.goto 4, 3) := by decide +kernel
theorem dX6_isBlank_16 : decode cX6_isBlank 16 = .ok (.iconst 0, 1) := by decide +kernel
theorem dX6_isBlank_17 : decode cX6_isBlank 17 = .ok (.ireturn, 1) := by decide +kernel
noncomputable def bfX6_isBlank_17 (p0 : Int32) (s0 : Int32) : Int32 := s0
noncomputable def bfX6_isBlank_12 (p0 : Int32) : Int32 := bfX6_isBlank_17 p0 (1 : Int32)
noncomputable def fX6_isBlank (p0 : Int32) : Int32 := if p0 = (32 : Int32) then (bfX6_isBlank_12 p0) else (if p0 = (10 : Int32) then (bfX6_isBlank_12 p0) else (bfX6_isBlank_17 p0 (0 : Int32)))
set_option maxHeartbeats 4000000 in
set_option maxRecDepth 100000 in
theorem sX6_isBlank (l : Launch) (dC : Nat → ClassId) (dI : Nat → Nat → Nat) (p0 : Int32)  : Met l yX6_isBlank (.code yX6_isBlank cX6_isBlank 1 (some .boolean) :: wsGA) ({ frames := 0, cells := 0, slots := 0, locals := 0 }) (va_Pc [.int p0] (fun U => va_P (dC, dI) vwCl [] U.heap ∧ va_K (dC, dI) vwCl [] U ∧ nzA U)) (va_Qi (fun (r : Int32) (u : Unit) => (gi r 0 1) ∧ r = fX6_isBlank p0) (fun _ _ => True) (fun _ => False)) 0 0 (fun _ => False) := by
  refine Met.ofW (cc := cX6_isBlank) (maxL := 1) (ret := (some .boolean)) (by decide) rfl ?_
  intro p e s m args below meth c s₁ B hml hv
  obtain ⟨rfl, hP, hK, hz⟩ := hv
  have hx := B.exec
  have hb := B.bytes
  have hr := B.returns
  have hts := atoms_spec (ws := (.code yX6_isBlank cX6_isBlank 1 (some .boolean) :: wsGA)) B.pre
  have hown : s.vm.findClass RX6 = some m.cls := findClass_of_methodNamed B.named
  have hlocks := B.notSynchronized
  have hS : va_S (fun _ => False) s.heap s.heap [] := va_S.rf
  have hl := lv_entry ([.int p0]) (n := 1) (Nat.le_of_ble_eq_true rfl)
  rw [lg_entry_eq]
  generalize (lg_sl ([.int p0]) ++ List.replicate (1 - (lg_sl ([.int p0])).length) Slot.unset).toArray = ls at hl ⊢
  have hl : lv_has ls 1 [(0, .int p0)] := hl
  obtain ⟨RES, hF⟩ : ∃ R9, fX6_isBlank p0 = R9 := ⟨_, rfl⟩
  have hR9 := hF
  refine lv_iload_n hx hb dX6_isBlank_0 rfl (lv_at hl 0 rfl) ?_
  refine lv_bipush (v := 32) hx hb dX6_isBlank_1 (by decide) ?_
  refine lv_icmp_eq (tgt := 12) hx hb dX6_isBlank_3 (by decide) (fun c_5 => ?_) (fun c_5 => ?_)
  · have hF := gf_pos c_5 hF
    have g_6 : gi p0 32 32 := gi_eq c_5 (gi_c 32 32 (by decide))
    refine lv_iconst (v := 1) hx hb dX6_isBlank_12 (by decide) ?_
    refine lv_goto (tgt := 17) hx hb dX6_isBlank_13 (by decide) ?_
    exact W.zret (v := 1) hx hb hr (by decide) (fun t ht hW => ⟨⟨1, (), rfl, ⟨(gi_w (gi_c 1 1 (by decide)) (by decide)), hF.trans hR9.symm⟩, trivial⟩, hS.F ht⟩) hS.2.2 dX6_isBlank_17
  · have hF := gf_neg c_5 hF
    refine lv_iload_n hx hb dX6_isBlank_6 rfl (lv_at hl 0 rfl) ?_
    refine lv_bipush (v := 10) hx hb dX6_isBlank_7 (by decide) ?_
    refine lv_icmp_ne (tgt := 16) hx hb dX6_isBlank_9 (by decide) (fun c_7 => ?_) (fun c_7 => ?_)
    · have hF := gf_neg c_7 hF
      refine lv_iconst (v := 0) hx hb dX6_isBlank_16 (by decide) ?_
      exact W.zret (v := 0) hx hb hr (by decide) (fun t ht hW => ⟨⟨0, (), rfl, ⟨(gi_w (gi_c 0 0 (by decide)) (by decide)), hF.trans hR9.symm⟩, trivial⟩, hS.F ht⟩) hS.2.2 dX6_isBlank_17
    · have hF := gf_pos c_7 hF
      have g_8 : gi p0 10 10 := gi_eq c_7 (gi_c 10 10 (by decide))
      refine lv_iconst (v := 1) hx hb dX6_isBlank_12 (by decide) ?_
      refine lv_goto (tgt := 17) hx hb dX6_isBlank_13 (by decide) ?_
      exact W.zret (v := 1) hx hb hr (by decide) (fun t ht hW => ⟨⟨1, (), rfl, ⟨(gi_w (gi_c 1 1 (by decide)) (by decide)), hF.trans hR9.symm⟩, trivial⟩, hS.F ht⟩) hS.2.2 dX6_isBlank_17
theorem dX3_allows_0 : decode cX3_allows 0 = .ok (.aload_n 0, 1) := by decide +kernel
theorem dX3_allows_1 : decode cX3_allows 1 = .ok (.getfield 9, 3) := by decide +kernel
theorem dX3_allows_4 : decode cX3_allows 4 = .ok (.iload_n 1, 1) := by decide +kernel
theorem dX3_allows_5 : decode cX3_allows 5 = .ok (.iaload, 1) := by decide +kernel
theorem dX3_allows_6 : decode cX3_allows 6 = .ok (.iload_n 2, 1) := by decide +kernel
theorem dX3_allows_7 : decode cX3_allows 7 = .ok (.ishr, 1) := by decide +kernel
theorem dX3_allows_8 : decode cX3_allows 8 = .ok (.iconst 1, 1) := by decide +kernel
theorem dX3_allows_9 : decode cX3_allows 9 = .ok (.iand, 1) := by decide +kernel
theorem dX3_allows_10 : decode cX3_allows 10 = .ok (.ifCond .eq 7, 3) := by decide +kernel
theorem dX3_allows_13 : decode cX3_allows 13 = .ok (.iconst 1, 1) := by decide +kernel
theorem dX3_allows_14 : decode cX3_allows 14 = .ok (.goto 4, 3) := by decide +kernel
theorem dX3_allows_17 : decode cX3_allows 17 = .ok (.iconst 0, 1) := by decide +kernel
theorem dX3_allows_18 : decode cX3_allows 18 = .ok (.ireturn, 1) := by decide +kernel
set_option maxHeartbeats 4000000 in
set_option maxRecDepth 100000 in
theorem sX3_allows (l : Launch) (dC : Nat → ClassId) (dI : Nat → Nat → Nat) (h0 : Nat) (al : Nat) (months : Int32) (full : Int32) (lean : Int32) (on : Nat) (kal : ClassId) (fal : Nat → Int32) (p0 : Int32) (p1 : Int32) (gmonths : gi months 0 24) (gfull : gi full 0 5) (glean : gi lean 0 5) (gp0 : gi p0 0 24) : Met l yX3_allows (.code yX3_allows cX3_allows 3 (some .boolean) :: wsGA) ({ frames := 0, cells := 0, slots := 0, locals := 0 }) (va_Pc [.ref h0, .int p0, .int p1] (fun U => va_P (dC, dI) vwCl [(h0, .inr (3, [.int months, .int full, .int lean, .ref al, .ref on])), (al, .inl (kal, 25, .inl fal))] U.heap ∧ va_K (dC, dI) vwCl [(kal, .int)] U ∧ nzA U)) (va_Qi (fun (r : Int32) (u : Unit) => gi r 0 1) (fun _ _ => True) (fun _ => False)) 0 0 (fun _ => False) := by
  refine Met.ofW (cc := cX3_allows) (maxL := 3) (ret := (some .boolean)) (by decide) rfl ?_
  intro p e s m args below meth c s₁ B hml hv
  obtain ⟨rfl, hP, hK, hz⟩ := hv
  have hx := B.exec
  have hb := B.bytes
  have hr := B.returns
  have hts := atoms_spec (ws := (.code yX3_allows cX3_allows 3 (some .boolean) :: wsGA)) B.pre
  have hown : s.vm.findClass RX3 = some m.cls := findClass_of_methodNamed B.named
  have hlocks := B.notSynchronized
  have hS : va_S (fun _ => False) s.heap s.heap [] := va_S.rf
  have hl := lv_entry ([.ref h0, .int p0, .int p1]) (n := 3) (Nat.le_of_ble_eq_true rfl)
  rw [lg_entry_eq]
  generalize (lg_sl ([.ref h0, .int p0, .int p1]) ++ List.replicate (3 - (lg_sl ([.ref h0, .int p0, .int p1])).length) Slot.unset).toArray = ls at hl ⊢
  have hl : lv_has ls 3 [(0, .ref h0), (1, .int p0), (2, .int p1)] := hl
  refine lv_aload_n hx hb dX3_allows_0 rfl (lv_at hl 0 rfl) ?_
  refine va_get (D := (dC, dI)) (ci := 3) (v := .ref al) (C := RX3) (T := TX3) (N := 5) hx hb hts (fun w h => List.mem_cons_of_mem _ (jnGA_X3 w h)) hown hK hP 0 rfl rfl 3 (by decide) (hts _ (List.mem_cons_of_mem _ mGA_94)) (fun _ h9 => h9) rfl dX3_allows_1 ?_
  refine lv_iload_n hx hb dX3_allows_4 rfl (lv_at hl 1 rfl) ?_
  refine va_iald hx hb hK hP 1 0 rfl rfl (gi_in gp0 (by decide)) dX3_allows_5 ?_
  refine lv_topi (fun x_7 ex_7 => ?_)
  refine lv_iload_n hx hb dX3_allows_6 rfl (lv_at hl 2 rfl) ?_
  refine lv_ishr hx hb dX3_allows_7 ?_
  refine lv_topi (fun x_8 ex_8 => ?_)
  refine lv_iconst (v := 1) hx hb dX3_allows_8 (by decide) ?_
  refine lv_iand hx hb dX3_allows_9 ?_
  refine lv_topi (fun x_9 ex_9 => ?_)
  have gx_9 : gi x_9 0 1 := gi_and1 ex_9
  refine lv_if_eq (tgt := 17) hx hb dX3_allows_10 (by decide) (fun c_10 => ?_) (fun c_10 => ?_)
  · have g_11 : gi x_9 0 0 := gi_eq c_10 (gi_c 0 0 (by decide))
    refine lv_iconst (v := 0) hx hb dX3_allows_17 (by decide) ?_
    exact W.zret (v := 0) hx hb hr (by decide) (fun t ht hW => ⟨⟨0, (), rfl, (gi_w (gi_c 0 0 (by decide)) (by decide)), trivial⟩, hS.F ht⟩) hS.2.2 dX3_allows_18
  · have g_12 : gi x_9 1 1 := gi_ne_lo c_10 gx_9 (gi_c 0 0 (by decide)) (by decide)
    refine lv_iconst (v := 1) hx hb dX3_allows_13 (by decide) ?_
    refine lv_goto (tgt := 18) hx hb dX3_allows_14 (by decide) ?_
    exact W.zret (v := 1) hx hb hr (by decide) (fun t ht hW => ⟨⟨1, (), rfl, (gi_w (gi_c 1 1 (by decide)) (by decide)), trivial⟩, hS.F ht⟩) hS.2.2 dX3_allows_18
theorem dX3_fits_0 : decode cX3_fits 0 = .ok (.iconst 1, 1) := by decide +kernel
theorem dX3_fits_1 : decode cX3_fits 1 = .ok (.istore_n 1, 1) := by decide +kernel
theorem dX3_fits_2 : decode cX3_fits 2 = .ok (.iload_n 1, 1) := by decide +kernel
theorem dX3_fits_3 : decode cX3_fits 3 = .ok (.aload_n 0, 1) := by decide +kernel
theorem dX3_fits_4 : decode cX3_fits 4 = .ok (.getfield 28, 3) := by decide +kernel
theorem dX3_fits_7 : decode cX3_fits 7 = .ok (.aload_n 0, 1) := by decide +kernel
theorem dX3_fits_8 : decode cX3_fits 8 = .ok (.getfield 32, 3) := by decide +kernel
theorem dX3_fits_11 : decode cX3_fits 11 = .ok (.iadd, 1) := by decide +kernel
theorem dX3_fits_12 : decode cX3_fits 12 = .ok (.if_icmp .gt 32, 3) := by decide +kernel
theorem dX3_fits_15 : decode cX3_fits 15 = .ok (.aload_n 0, 1) := by decide +kernel
theorem dX3_fits_16 : decode cX3_fits 16 = .ok (.getfield 15, 3) := by decide +kernel
theorem dX3_fits_19 : decode cX3_fits 19 = .ok (.aload_n 0, 1) := by decide +kernel
theorem dX3_fits_20 : decode cX3_fits 20 = .ok (.getfield 24, 3) := by decide +kernel
theorem dX3_fits_23 : decode cX3_fits 23 = .ok (.bipush 11, 2) := by decide +kernel
theorem dX3_fits_25 : decode cX3_fits 25 = .ok (.imul, 1) := by decide +kernel
theorem dX3_fits_26 : decode cX3_fits 26 = .ok (.iload_n 1, 1) := by decide +kernel
theorem dX3_fits_27 : decode cX3_fits 27 = .ok (.iadd, 1) := by decide +kernel
theorem dX3_fits_28 : decode cX3_fits 28 = .ok (.aload_n 0, 1) := by decide +kernel
theorem dX3_fits_29 : decode cX3_fits 29 = .ok (.getfield 9, 3) := by decide +kernel
theorem dX3_fits_32 : decode cX3_fits 32 = .ok (.aload_n 0, 1) := by decide +kernel
theorem dX3_fits_33 : decode cX3_fits 33 = .ok (.getfield 24, 3) := by decide +kernel
theorem dX3_fits_36 : decode cX3_fits 36 = .ok (.iaload, 1) := by decide +kernel
theorem dX3_fits_37 : decode cX3_fits 37 = .ok (.iastore, 1) := by decide +kernel
theorem dX3_fits_38 : decode cX3_fits 38 = .ok (.iinc 1 1, 3) := by decide +kernel
theorem dX3_fits_41 : decode cX3_fits 41 = .ok (.goto (-39), 3) := by decide +kernel
theorem dX3_fits_44 : decode cX3_fits 44 = .ok (.aload_n 0, 1) := by decide +kernel
theorem dX3_fits_45 : decode cX3_fits 45 = .ok (.getfield 24, 3) := by decide +kernel
theorem dX3_fits_48 : decode cX3_fits 48 = .ok (.iconst 1, 1) := by decide +kernel
theorem dX3_fits_49 : decode cX3_fits 49 = .ok (.isub, 1) := by decide +kernel
theorem dX3_fits_50 : decode cX3_fits 50 = .ok (.istore_n 1, 1) := by decide +kernel
theorem dX3_fits_51 : decode cX3_fits 51 = .ok (.iload_n 1, 1) := by decide +kernel
theorem dX3_fits_52 : decode cX3_fits 52 = .ok (.ifCond .lt 106, 3) := by decide +kernel
theorem dX3_fits_55 : decode cX3_fits 55 = .ok (.iload_n 1, 1) := by decide +kernel
theorem dX3_fits_56 : decode cX3_fits 56 = .ok (.iconst 1, 1) := by decide +kernel
theorem dX3_fits_57 : decode cX3_fits 57 = .ok (.iadd, 1) := by decide +kernel
theorem dX3_fits_58 : decode cX3_fits 58 = .ok (.bipush 11, 2) := by decide +kernel
theorem dX3_fits_60 : decode cX3_fits 60 = .ok (.imul, 1) := by decide +kernel
theorem dX3_fits_61 : decode cX3_fits 61 = .ok (.istore_n 2, 1) := by decide +kernel
theorem dX3_fits_62 : decode cX3_fits 62 = .ok (.iload_n 1, 1) := by decide +kernel
theorem dX3_fits_63 : decode cX3_fits 63 = .ok (.invokestatic 48, 3) := by decide +kernel
theorem dX3_fits_66 : decode cX3_fits 66 = .ok (.istore_n 3, 1) := by decide +kernel
theorem dX3_fits_67 : decode cX3_fits 67 = .ok (.iload_n 3, 1) := by decide +kernel
theorem dX3_fits_68 : decode cX3_fits 68 = .ok (.iload_n 1, 1) := by decide +kernel
theorem dX3_fits_69 : decode cX3_fits 69 = .ok (.aload_n 0, 1) := by decide +kernel
theorem dX3_fits_70 : decode cX3_fits 70 = .ok (.getfield 28, 3) := by decide +kernel
theorem dX3_fits_73 : decode cX3_fits 73 = .ok (.aload_n 0, 1) := by decide +kernel
theorem dX3_fits_74 : decode cX3_fits 74 = .ok (.getfield 32, 3) := by decide +kernel
theorem dX3_fits_77 : decode cX3_fits 77 = .ok (.invokestatic 52, 3) := by decide +kernel
theorem dX3_fits_80 : decode cX3_fits 80 = .ok (.if_icmp .gt 72, 3) := by decide +kernel
theorem dX3_fits_83 : decode cX3_fits 83 = .ok (.aload_n 0, 1) := by decide +kernel
theorem dX3_fits_84 : decode cX3_fits 84 = .ok (.getfield 15, 3) := by decide +kernel
theorem dX3_fits_87 : decode cX3_fits 87 = .ok (.iload_n 2, 1) := by decide +kernel
theorem dX3_fits_88 : decode cX3_fits 88 = .ok (.iload_n 3, 1) := by decide +kernel
theorem dX3_fits_89 : decode cX3_fits 89 = .ok (.aload_n 0, 1) := by decide +kernel
theorem dX3_fits_90 : decode cX3_fits 90 = .ok (.getfield 28, 3) := by decide +kernel
theorem dX3_fits_93 : decode cX3_fits 93 = .ok (.invokestatic 56, 3) := by decide +kernel
theorem dX3_fits_96 : decode cX3_fits 96 = .ok (.iadd, 1) := by decide +kernel
theorem dX3_fits_97 : decode cX3_fits 97 = .ok (.iaload, 1) := by decide +kernel
theorem dX3_fits_98 : decode cX3_fits 98 = .ok (.iconst 1, 1) := by decide +kernel
theorem dX3_fits_99 : decode cX3_fits 99 = .ok (.ishr, 1) := by decide +kernel
theorem dX3_fits_100 : decode cX3_fits 100 = .ok (.istore 4, 2) := by decide +kernel
theorem dX3_fits_102 : decode cX3_fits 102 = .ok (.aload_n 0, 1) := by decide +kernel
theorem dX3_fits_103 : decode cX3_fits 103 = .ok (.getfield 15, 3) := by decide +kernel
theorem dX3_fits_106 : decode cX3_fits 106 = .ok (.iload_n 2, 1) := by decide +kernel
theorem dX3_fits_107 : decode cX3_fits 107 = .ok (.iload_n 3, 1) := by decide +kernel
theorem dX3_fits_108 : decode cX3_fits 108 = .ok (.aload_n 0, 1) := by decide +kernel
theorem dX3_fits_109 : decode cX3_fits 109 = .ok (.getfield 28, 3) := by decide +kernel
theorem dX3_fits_112 : decode cX3_fits 112 = .ok (.aload_n 0, 1) := by decide +kernel
theorem dX3_fits_113 : decode cX3_fits 113 = .ok (.getfield 32, 3) := by decide +kernel
theorem dX3_fits_116 : decode cX3_fits 116 = .ok (.invokestatic 60, 3) := by decide +kernel
theorem dX3_fits_119 : decode cX3_fits 119 = .ok (.iadd, 1) := by decide +kernel
theorem dX3_fits_120 : decode cX3_fits 120 = .ok (.iaload, 1) := by decide +kernel
theorem dX3_fits_121 : decode cX3_fits 121 = .ok (.istore 5, 2) := by decide +kernel
theorem dX3_fits_123 : decode cX3_fits 123 = .ok (.aload_n 0, 1) := by decide +kernel
theorem dX3_fits_124 : decode cX3_fits 124 = .ok (.getfield 15, 3) := by decide +kernel
theorem dX3_fits_127 : decode cX3_fits 127 = .ok (.iload_n 1, 1) := by decide +kernel
theorem dX3_fits_128 : decode cX3_fits 128 = .ok (.bipush 11, 2) := by decide +kernel
theorem dX3_fits_130 : decode cX3_fits 130 = .ok (.imul, 1) := by decide +kernel
theorem dX3_fits_131 : decode cX3_fits 131 = .ok (.iload_n 3, 1) := by decide +kernel
theorem dX3_fits_132 : decode cX3_fits 132 = .ok (.iadd, 1) := by decide +kernel
theorem dX3_fits_133 : decode cX3_fits 133 = .ok (.aload_n 0, 1) := by decide +kernel
theorem dX3_fits_134 : decode cX3_fits 134 = .ok (.getfield 9, 3) := by decide +kernel
theorem dX3_fits_137 : decode cX3_fits 137 = .ok (.iload_n 1, 1) := by decide +kernel
theorem dX3_fits_138 : decode cX3_fits 138 = .ok (.iaload, 1) := by decide +kernel
theorem dX3_fits_139 : decode cX3_fits 139 = .ok (.iload 4, 2) := by decide +kernel
theorem dX3_fits_141 : decode cX3_fits 141 = .ok (.iload 5, 2) := by decide +kernel
theorem dX3_fits_143 : decode cX3_fits 143 = .ok (.ior, 1) := by decide +kernel
theorem dX3_fits_144 : decode cX3_fits 144 = .ok (.iand, 1) := by decide +kernel
theorem dX3_fits_145 : decode cX3_fits 145 = .ok (.iastore, 1) := by decide +kernel
theorem dX3_fits_146 : decode cX3_fits 146 = .ok (.iinc 3 1, 3) := by decide +kernel
theorem dX3_fits_149 : decode cX3_fits 149 = .ok (.goto (-82), 3) := by decide +kernel
theorem dX3_fits_152 : decode cX3_fits 152 = .ok (.iinc 1 (-1), 3) := by decide +kernel
theorem dX3_fits_155 : decode cX3_fits 155 = .ok (.goto (-104), 3) := by decide +kernel
theorem dX3_fits_158 : decode cX3_fits 158 = .ok (.aload_n 0, 1) := by decide +kernel
theorem dX3_fits_159 : decode cX3_fits 159 = .ok (.getfield 15, 3) := by decide +kernel
theorem dX3_fits_162 : decode cX3_fits 162 = .ok (.iconst 0, 1) := by decide +kernel
theorem dX3_fits_163 : decode cX3_fits 163 = .ok (.iaload, 1) := by decide +kernel
theorem dX3_fits_164 : decode cX3_fits 164 = .ok (.iconst 1, 1) := by decide +kernel
theorem dX3_fits_165 : decode cX3_fits 165 = .ok (.iand, 1) := by decide +kernel
theorem dX3_fits_166 : decode cX3_fits 166 = .ok (.ifCond .eq 7, 3) := by decide +kernel
theorem dX3_fits_169 : decode cX3_fits 169 = .ok (.iconst 1, 1) := by decide +kernel
theorem dX3_fits_170 : decode cX3_fits 170 = .ok (.goto 4, 3) := by decide +kernel
theorem dX3_fits_173 : decode cX3_fits 173 = .ok (.iconst 0, 1) := by decide +kernel
theorem dX3_fits_174 : decode cX3_fits 174 = .ok (.ireturn, 1) := by decide +kernel
set_option maxHeartbeats 4000000 in
set_option maxRecDepth 100000 in
theorem lp_sX3_fits {p : Program} {l : Launch} {e : Env} {R : Room} {s : State} {m : MethodId} {args : Array Value} {below : List Frame} {meth : Method} {c : Code} {Q : State → Prop} {A : Nat → Prop} {cells slots : Nat} {dC : Nat → ClassId} {dI : Nat → Nat → Nat} (h0 : Nat) (al : Nat) (on : Nat) (months : Int32) (full : Int32) (lean : Int32) (kal : ClassId) (fal : Nat → Int32) (kon : ClassId) (fon : Nat → Int32) (gmonths : gi months 0 24) (gfull : gi full 0 5) (glean : gi lean 0 5) (hx : p.tables.exec = Jvm.exec) (hb : c.code = cX3_fits) (hml : c.maxLocals = 6) (hown : s.vm.findClass RX3 = some m.cls) (hts : ∀ w ∈ ((.code yX3_fits cX3_fits 6 (some .boolean) :: wsGA) : List Cond), w.before args s = true) (hK : va_K (dC, dI) vwCl [(kal, .int), (kon, .int)] s) (hz : nzA s) (hA : ∀ q : Nat, s.heap.size ≤ q → A q) (hRf : 1 ≤ R.frames) (hRl : 22 ≤ R.locals) (hRc : cells ≤ R.cells) (hRs : slots ≤ R.slots) (kr174 : ∀ (v : Int32) (z2 : Nat → Int32) (H : Heap) (locs : List Loc) (ls : Array Slot), gi v 0 1 → va_P (dC, dI) vwCl [(h0, .inr (3, [.int months, .int full, .int lean, .ref al, .ref on])), (al, .inl (kal, 25, .inl fal)), (on, .inl (kon, 275, .inl z2))] H → va_D A [(h0, .inr (3, [.int months, .int full, .int lean, .ref al, .ref on])), (al, .inl (kal, 25, .inl fal)), (on, .inl (kon, 275, .inl z2))] → va_S A s.heap H locs → lv_has ls 6 [] → W p l e R s m args below meth c H locs cells slots Q (F0 m 174 ls [.int v])) : ∀ z : Nat, (∀ (v1 : Int32) (z2 : Nat → Int32) (H : Heap) (locs : List Loc) (ls : Array Slot), gi v1 1 11 → 751 + (-2) * v1.toInt < (z : Int) → va_P (dC, dI) vwCl [(h0, .inr (3, [.int months, .int full, .int lean, .ref al, .ref on])), (al, .inl (kal, 25, .inl fal)), (on, .inl (kon, 275, .inl z2))] H → va_D A [(h0, .inr (3, [.int months, .int full, .int lean, .ref al, .ref on])), (al, .inl (kal, 25, .inl fal)), (on, .inl (kon, 275, .inl z2))] → va_S A s.heap H locs → lv_has ls 6 [(0, .ref h0), (1, .int v1)] → W p l e R s m args below meth c H locs cells slots Q (F0 m 2 ls [])) ∧ (∀ (v1 : Int32) (z2 : Nat → Int32) (H : Heap) (locs : List Loc) (ls : Array Slot), gi v1 (-1) 23 → 29 + 28 * v1.toInt < (z : Int) → va_P (dC, dI) vwCl [(h0, .inr (3, [.int months, .int full, .int lean, .ref al, .ref on])), (al, .inl (kal, 25, .inl fal)), (on, .inl (kon, 275, .inl z2))] H → va_D A [(h0, .inr (3, [.int months, .int full, .int lean, .ref al, .ref on])), (al, .inl (kal, 25, .inl fal)), (on, .inl (kon, 275, .inl z2))] → va_S A s.heap H locs → lv_has ls 6 [(0, .ref h0), (1, .int v1)] → W p l e R s m args below meth c H locs cells slots Q (F0 m 51 ls [])) ∧ (∀ (v1 : Int32) (v2 : Int32) (v3 : Int32) (z2 : Nat → Int32) (H : Heap) (locs : List Loc) (ls : Array Slot), gi v1 0 23 → gi v2 11 264 → gi v3 0 11 → 24 + 28 * v1.toInt + (-2) * v3.toInt < (z : Int) → va_P (dC, dI) vwCl [(h0, .inr (3, [.int months, .int full, .int lean, .ref al, .ref on])), (al, .inl (kal, 25, .inl fal)), (on, .inl (kon, 275, .inl z2))] H → va_D A [(h0, .inr (3, [.int months, .int full, .int lean, .ref al, .ref on])), (al, .inl (kal, 25, .inl fal)), (on, .inl (kon, 275, .inl z2))] → va_S A s.heap H locs → lv_has ls 6 [(0, .ref h0), (1, .int v1), (2, .int v2), (3, .int v3)] → W p l e R s m args below meth c H locs cells slots Q (F0 m 67 ls [])) := by
  intro z
  induction z with
  | zero =>
    refine ⟨?_, ?_, ?_⟩
    · intro v1 z2 H locs ls gv1 hmu hP hD hS hl
      exact absurd hmu (by have hv11 := gv1.1; have hv12 := gv1.2; omega)
    · intro v1 z2 H locs ls gv1 hmu hP hD hS hl
      exact absurd hmu (by have hv11 := gv1.1; have hv12 := gv1.2; omega)
    · intro v1 v2 v3 z2 H locs ls gv1 gv2 gv3 hmu hP hD hS hl
      exact absurd hmu (by have hv11 := gv1.1; have hv12 := gv1.2; have hv31 := gv3.1; have hv32 := gv3.2; omega)
  | succ z ih =>
    refine ⟨?_, ?_, ?_⟩
    · intro v1 z2 H locs ls gv1 hmu hP hD hS hl
      refine lv_iload_n hx hb dX3_fits_2 rfl (lv_at hl 1 rfl) ?_
      refine lv_aload_n hx hb dX3_fits_3 rfl (lv_at hl 0 rfl) ?_
      refine va_get (D := (dC, dI)) (ci := 3) (v := .int full) (C := RX3) (T := TX3) (N := 5) hx hb hts (fun w h => List.mem_cons_of_mem _ (jnGA_X3 w h)) hown hK hP 0 rfl rfl 1 (by decide) (hts _ (List.mem_cons_of_mem _ mGA_479)) (fun _ h9 => h9) rfl dX3_fits_4 ?_
      refine lv_aload_n hx hb dX3_fits_7 rfl (lv_at hl 0 rfl) ?_
      refine va_get (D := (dC, dI)) (ci := 3) (v := .int lean) (C := RX3) (T := TX3) (N := 5) hx hb hts (fun w h => List.mem_cons_of_mem _ (jnGA_X3 w h)) hown hK hP 0 rfl rfl 2 (by decide) (hts _ (List.mem_cons_of_mem _ mGA_481)) (fun _ h9 => h9) rfl dX3_fits_8 ?_
      refine lv_iadd hx hb dX3_fits_11 ?_
      refine lv_topi (fun x_401 ex_401 => ?_)
      have gx_401 : gi x_401 0 10 := gi_add ex_401 gfull glean (by decide)
      refine lv_icmp_gt (tgt := 44) hx hb dX3_fits_12 (by decide) (fun c_402 => ?_) (fun c_402 => ?_)
      · refine lv_aload_n hx hb dX3_fits_44 rfl (lv_at hl 0 rfl) ?_
        refine va_get (D := (dC, dI)) (ci := 3) (v := .int months) (C := RX3) (T := TX3) (N := 5) hx hb hts (fun w h => List.mem_cons_of_mem _ (jnGA_X3 w h)) hown hK hP 0 rfl rfl 0 (by decide) (hts _ (List.mem_cons_of_mem _ mGA_477)) (fun _ h9 => h9) rfl dX3_fits_45 ?_
        refine lv_iconst (v := 1) hx hb dX3_fits_48 (by decide) ?_
        refine lv_isub hx hb dX3_fits_49 ?_
        refine lv_topi (fun x_403 ex_403 => ?_)
        have gx_403 : gi x_403 (-1) 23 := gi_sub ex_403 gmonths (gi_c 1 1 (by decide)) (by decide)
        refine lv_istore_n (lv' := [(1, .int x_403), (0, .ref h0)]) hx hb dX3_fits_50 rfl hl (by decide) rfl (fun ls hl => ?_)
        exact ih.2.1 x_403 z2 _ _ _ gx_403 (by have av1 := gv1.1; have bv1 := gv1.2; have qgx_403 := gx_403.1; have rgx_403 := gx_403.2; have igx_403 : x_403.toInt = months.toInt - 1 := (by have hc1 : (1 : Int32).toInt = 1 := (by decide); have h9 := gi_subI ex_403 (by have h1 := gmonths.1; have h2 := (gi_c 1 1 (by decide)).1; have h3 := gmonths.2; have h4 := (gi_c 1 1 (by decide)).2; omega) (by have h1 := gmonths.1; have h2 := (gi_c 1 1 (by decide)).1; have h3 := gmonths.2; have h4 := (gi_c 1 1 (by decide)).2; omega); rw [hc1] at h9; exact h9); have qgmonths := gmonths.1; have rgmonths := gmonths.2; omega) hP hD hS (lv_sub hl [1, 0] rfl)
      · have g_404 : gi v1 1 10 := gi_le_l (Int32.not_lt.mp c_402) gv1 gx_401
        have g_405 : gi x_401 1 10 := gi_le_r (Int32.not_lt.mp c_402) gv1 gx_401
        refine lv_aload_n hx hb dX3_fits_15 rfl (lv_at hl 0 rfl) ?_
        refine va_get (D := (dC, dI)) (ci := 3) (v := .ref on) (C := RX3) (T := TX3) (N := 5) hx hb hts (fun w h => List.mem_cons_of_mem _ (jnGA_X3 w h)) hown hK hP 0 rfl rfl 4 (by decide) (hts _ (List.mem_cons_of_mem _ mGA_95)) (fun _ h9 => h9) rfl dX3_fits_16 ?_
        refine lv_aload_n hx hb dX3_fits_19 rfl (lv_at hl 0 rfl) ?_
        refine va_get (D := (dC, dI)) (ci := 3) (v := .int months) (C := RX3) (T := TX3) (N := 5) hx hb hts (fun w h => List.mem_cons_of_mem _ (jnGA_X3 w h)) hown hK hP 0 rfl rfl 0 (by decide) (hts _ (List.mem_cons_of_mem _ mGA_477)) (fun _ h9 => h9) rfl dX3_fits_20 ?_
        refine lv_bipush (v := 11) hx hb dX3_fits_23 (by decide) ?_
        refine lv_imul hx hb dX3_fits_25 ?_
        refine lv_topi (fun x_406 ex_406 => ?_)
        have gx_406 : gi x_406 0 264 := gi_mul ex_406 gmonths (gi_c 11 11 (by decide)) (by decide)
        refine lv_iload_n hx hb dX3_fits_26 rfl (lv_at hl 1 rfl) ?_
        refine lv_iadd hx hb dX3_fits_27 ?_
        refine lv_topi (fun x_407 ex_407 => ?_)
        have gx_407 : gi x_407 1 274 := gi_add ex_407 gx_406 g_404 (by decide)
        refine lv_aload_n hx hb dX3_fits_28 rfl (lv_at hl 0 rfl) ?_
        refine va_get (D := (dC, dI)) (ci := 3) (v := .ref al) (C := RX3) (T := TX3) (N := 5) hx hb hts (fun w h => List.mem_cons_of_mem _ (jnGA_X3 w h)) hown hK hP 0 rfl rfl 3 (by decide) (hts _ (List.mem_cons_of_mem _ mGA_94)) (fun _ h9 => h9) rfl dX3_fits_29 ?_
        refine lv_aload_n hx hb dX3_fits_32 rfl (lv_at hl 0 rfl) ?_
        refine va_get (D := (dC, dI)) (ci := 3) (v := .int months) (C := RX3) (T := TX3) (N := 5) hx hb hts (fun w h => List.mem_cons_of_mem _ (jnGA_X3 w h)) hown hK hP 0 rfl rfl 0 (by decide) (hts _ (List.mem_cons_of_mem _ mGA_477)) (fun _ h9 => h9) rfl dX3_fits_33 ?_
        refine va_iald hx hb hK hP 1 0 rfl rfl (gi_in gmonths (by decide)) dX3_fits_36 ?_
        refine lv_topi (fun x_408 ex_408 => ?_)
        refine va_iast hx hb hK hP hD hS 2 1 rfl rfl (gi_in gx_407 (by decide)) dX3_fits_37 (fun H locs hP hD hS => ?_)
        have hP : va_P (dC, dI) vwCl [(h0, .inr (3, [.int months, .int full, .int lean, .ref al, .ref on])), (al, .inl (kal, 25, .inl fal)), (on, .inl (kon, 275, .inl (upd z2 (x_407 : Int32).toNatClampNeg x_408)))] H := hP
        have hD : va_D A [(h0, .inr (3, [.int months, .int full, .int lean, .ref al, .ref on])), (al, .inl (kal, 25, .inl fal)), (on, .inl (kon, 275, .inl (upd z2 (x_407 : Int32).toNatClampNeg x_408)))] := hD
        generalize upd z2 (x_407 : Int32).toNatClampNeg x_408 = f_409 at hP hD
        obtain ⟨x_410, ex_410⟩ : ∃ y : Int32, y = v1 + 1 := ⟨_, rfl⟩
        have gx_410 : gi x_410 2 11 := gi_add ex_410 g_404 (gi_c 1 1 (by decide)) (by decide)
        refine lv_iinc (v := x_410) (lv' := [(1, .int x_410), (0, .ref h0)]) hx hb dX3_fits_38 hl (k := 1) rfl (by rw [ex_410]; rfl) (by decide) rfl (fun ls hl => ?_)
        refine lv_goto (tgt := 2) hx hb dX3_fits_41 (by decide) ?_
        exact ih.1 x_410 f_409 _ _ _ (gi_w gx_410 (by decide)) (by have av1 := gv1.1; have bv1 := gv1.2; have qgx_410 := gx_410.1; have rgx_410 := gx_410.2; have igx_410 : x_410.toInt = v1.toInt + 1 := (by have hc1 : (1 : Int32).toInt = 1 := (by decide); have h9 := gi_addI ex_410 (by have h1 := g_404.1; have h2 := (gi_c 1 1 (by decide)).1; have h3 := g_404.2; have h4 := (gi_c 1 1 (by decide)).2; omega) (by have h1 := g_404.1; have h2 := (gi_c 1 1 (by decide)).1; have h3 := g_404.2; have h4 := (gi_c 1 1 (by decide)).2; omega); rw [hc1] at h9; exact h9); have qgv1 := g_404.1; have rgv1 := g_404.2; omega) hP hD hS (lv_sub hl [1, 0] rfl)
    · intro v1 z2 H locs ls gv1 hmu hP hD hS hl
      refine lv_iload_n hx hb dX3_fits_51 rfl (lv_at hl 1 rfl) ?_
      refine lv_if_lt (tgt := 158) hx hb dX3_fits_52 (by decide) (fun c_411 => ?_) (fun c_411 => ?_)
      · have g_412 : gi v1 (-1) (-1) := gi_lt_l c_411 gv1 (gi_c 0 0 (by decide)) (by decide)
        refine lv_aload_n hx hb dX3_fits_158 rfl (lv_at hl 0 rfl) ?_
        refine va_get (D := (dC, dI)) (ci := 3) (v := .ref on) (C := RX3) (T := TX3) (N := 5) hx hb hts (fun w h => List.mem_cons_of_mem _ (jnGA_X3 w h)) hown hK hP 0 rfl rfl 4 (by decide) (hts _ (List.mem_cons_of_mem _ mGA_95)) (fun _ h9 => h9) rfl dX3_fits_159 ?_
        refine lv_iconst (v := 0) hx hb dX3_fits_162 (by decide) ?_
        refine va_iald hx hb hK hP 2 1 rfl rfl (gi_in (gi_c 0 0 (by decide)) (by decide)) dX3_fits_163 ?_
        refine lv_topi (fun x_413 ex_413 => ?_)
        refine lv_iconst (v := 1) hx hb dX3_fits_164 (by decide) ?_
        refine lv_iand hx hb dX3_fits_165 ?_
        refine lv_topi (fun x_414 ex_414 => ?_)
        have gx_414 : gi x_414 0 1 := gi_and1 ex_414
        refine lv_if_eq (tgt := 173) hx hb dX3_fits_166 (by decide) (fun c_415 => ?_) (fun c_415 => ?_)
        · have g_416 : gi x_414 0 0 := gi_eq c_415 (gi_c 0 0 (by decide))
          refine lv_iconst (v := 0) hx hb dX3_fits_173 (by decide) ?_
          exact kr174 0 z2 _ _ _ (gi_w (gi_c 0 0 (by decide)) (by decide)) hP hD hS (lv_sub hl [] rfl)
        · have g_417 : gi x_414 1 1 := gi_ne_lo c_415 gx_414 (gi_c 0 0 (by decide)) (by decide)
          refine lv_iconst (v := 1) hx hb dX3_fits_169 (by decide) ?_
          refine lv_goto (tgt := 174) hx hb dX3_fits_170 (by decide) ?_
          exact kr174 1 z2 _ _ _ (gi_w (gi_c 1 1 (by decide)) (by decide)) hP hD hS (lv_sub hl [] rfl)
      · have g_418 : gi v1 0 23 := gi_le_r (Int32.not_lt.mp c_411) (gi_c 0 0 (by decide)) gv1
        refine lv_iload_n hx hb dX3_fits_55 rfl (lv_at hl 1 rfl) ?_
        refine lv_iconst (v := 1) hx hb dX3_fits_56 (by decide) ?_
        refine lv_iadd hx hb dX3_fits_57 ?_
        refine lv_topi (fun x_419 ex_419 => ?_)
        have gx_419 : gi x_419 1 24 := gi_add ex_419 g_418 (gi_c 1 1 (by decide)) (by decide)
        refine lv_bipush (v := 11) hx hb dX3_fits_58 (by decide) ?_
        refine lv_imul hx hb dX3_fits_60 ?_
        refine lv_topi (fun x_420 ex_420 => ?_)
        have gx_420 : gi x_420 11 264 := gi_mul ex_420 gx_419 (gi_c 11 11 (by decide)) (by decide)
        refine lv_istore_n (lv' := [(2, .int x_420), (0, .ref h0), (1, .int v1)]) hx hb dX3_fits_61 rfl hl (by decide) rfl (fun ls hl => ?_)
        refine lv_iload_n hx hb dX3_fits_62 rfl (lv_at hl 2 rfl) ?_
        have hPc := hP.sub (ws' := []) [] rfl
        have hKc := hK.sub (tys' := []) [] rfl
        refine va_calli (va_runSN (As := [.int v1]) (rest := []) ⟨hx, hb, hml, hown, hts⟩ (sX11_firstRun l dC dI v1 (gi_w g_418 (by decide))) (⟨va_cnB 1 hts (gz_gP mGA_504 goodGA) rfl rfl rfl (nzA_X3_48 hz) (hts _ (List.mem_cons_of_mem _ mGA_1)) (by decide +kernel) ⟨Nat.le_trans (Nat.le_of_ble_eq_true rfl) hRf, Nat.le_trans (Nat.le_of_ble_eq_true rfl) hRl⟩, (hts _ (List.mem_cons_of_mem _ mGA_503)), trivial⟩) ⟨fun a U g mk q => by obtain ⟨q0, qP, qK, qZ⟩ := q; exact ⟨q0, qP, va_K.moved (u := U) (U := U.calling g mk a) (Vm.Alike.refl U.vm) qK, nzA_same (u := U) (U := U.calling g mk a) rfl qZ⟩, fun U hU hW => ⟨rfl, by rw [hU]; exact hPc, va_K.moved hW.alike hKc, nzA_warm hW hz⟩⟩ rfl rfl hl.1 rfl (lv_room (Nat.le_of_ble_eq_true rfl)) dX3_fits_63 ⟨hRc, hRs⟩) hS (fun q _ h => h.elim) (fun q h => h.elim) (fun r_421 u t H1 locs ht hvm hw hB hz1 hk1 hS => ?_)
        have hP := gz_keep hP hk1
        generalize H1 = H at hP hS ⊢
        have gr_421 : gi r_421 0 1 := hw
        refine lv_istore_n (lv' := [(3, .int r_421), (2, .int x_420), (0, .ref h0), (1, .int v1)]) hx hb dX3_fits_66 rfl hl (by decide) rfl (fun ls hl => ?_)
        exact ih.2.2 v1 x_420 r_421 z2 _ _ _ g_418 gx_420 (gi_w gr_421 (by decide)) (by have av1 := gv1.1; have bv1 := gv1.2; have qgv1 := g_418.1; have rgv1 := g_418.2; have qgr_421 := gr_421.1; have rgr_421 := gr_421.2; omega) hP hD hS (lv_sub hl [2, 3, 1, 0] rfl)
    · intro v1 v2 v3 z2 H locs ls gv1 gv2 gv3 hmu hP hD hS hl
      refine lv_iload_n hx hb dX3_fits_67 rfl (lv_at hl 3 rfl) ?_
      refine lv_iload_n hx hb dX3_fits_68 rfl (lv_at hl 1 rfl) ?_
      refine lv_aload_n hx hb dX3_fits_69 rfl (lv_at hl 0 rfl) ?_
      refine va_get (D := (dC, dI)) (ci := 3) (v := .int full) (C := RX3) (T := TX3) (N := 5) hx hb hts (fun w h => List.mem_cons_of_mem _ (jnGA_X3 w h)) hown hK hP 0 rfl rfl 1 (by decide) (hts _ (List.mem_cons_of_mem _ mGA_479)) (fun _ h9 => h9) rfl dX3_fits_70 ?_
      refine lv_aload_n hx hb dX3_fits_73 rfl (lv_at hl 0 rfl) ?_
      refine va_get (D := (dC, dI)) (ci := 3) (v := .int lean) (C := RX3) (T := TX3) (N := 5) hx hb hts (fun w h => List.mem_cons_of_mem _ (jnGA_X3 w h)) hown hK hP 0 rfl rfl 2 (by decide) (hts _ (List.mem_cons_of_mem _ mGA_481)) (fun _ h9 => h9) rfl dX3_fits_74 ?_
      have hPc := hP.sub (ws' := []) [] rfl
      have hKc := hK.sub (tys' := []) [] rfl
      refine va_calli (va_runSN (As := [.int v1, .int full, .int lean]) (rest := [.int v3]) ⟨hx, hb, hml, hown, hts⟩ (sX11_lastRun l dC dI v1 full lean (gi_w gv1 (by decide)) gfull glean) (⟨va_cnB 3 hts (gz_gP mGA_506 goodGA) rfl rfl rfl (nzA_X3_52 hz) (hts _ (List.mem_cons_of_mem _ mGA_1)) (by decide +kernel) ⟨Nat.le_trans (Nat.le_of_ble_eq_true rfl) hRf, Nat.le_trans (Nat.le_of_ble_eq_true rfl) hRl⟩, (hts _ (List.mem_cons_of_mem _ mGA_505)), trivial⟩) ⟨fun a U g mk q => by obtain ⟨q0, qP, qK, qZ⟩ := q; exact ⟨q0, qP, va_K.moved (u := U) (U := U.calling g mk a) (Vm.Alike.refl U.vm) qK, nzA_same (u := U) (U := U.calling g mk a) rfl qZ⟩, fun U hU hW => ⟨rfl, by rw [hU]; exact hPc, va_K.moved hW.alike hKc, nzA_warm hW hz⟩⟩ rfl rfl hl.1 rfl (lv_room (Nat.le_of_ble_eq_true rfl)) dX3_fits_77 ⟨hRc, hRs⟩) hS (fun q _ h => h.elim) (fun q h => h.elim) (fun r_422 u t H1 locs ht hvm hw hB hz1 hk1 hS => ?_)
      have hP := gz_keep hP hk1
      generalize H1 = H at hP hS ⊢
      have gr_422 : gi r_422 0 10 := hw
      refine lv_icmp_gt (tgt := 152) hx hb dX3_fits_80 (by decide) (fun c_423 => ?_) (fun c_423 => ?_)
      · have g_424 : gi v3 1 11 := gi_lt_r c_423 gr_422 gv3 (by decide)
        obtain ⟨x_425, ex_425⟩ : ∃ y : Int32, y = v1 + (-1) := ⟨_, rfl⟩
        have gx_425 : gi x_425 (-1) 22 := gi_add ex_425 gv1 (gi_c (-1) (-1) (by decide)) (by decide)
        refine lv_iinc (v := x_425) (lv' := [(1, .int x_425), (0, .ref h0), (2, .int v2), (3, .int v3)]) hx hb dX3_fits_152 hl (k := 1) rfl (by rw [ex_425]; rfl) (by decide) rfl (fun ls hl => ?_)
        refine lv_goto (tgt := 51) hx hb dX3_fits_155 (by decide) ?_
        exact ih.2.1 x_425 z2 _ _ _ (gi_w gx_425 (by decide)) (by have av1 := gv1.1; have bv1 := gv1.2; have av3 := gv3.1; have bv3 := gv3.2; have qgx_425 := gx_425.1; have rgx_425 := gx_425.2; have igx_425 : x_425.toInt = v1.toInt + (-1) := (by have hcm1 : ((-1) : Int32).toInt = (-1) := (by decide); have h9 := gi_addI ex_425 (by have h1 := gv1.1; have h2 := (gi_c (-1) (-1) (by decide)).1; have h3 := gv1.2; have h4 := (gi_c (-1) (-1) (by decide)).2; omega) (by have h1 := gv1.1; have h2 := (gi_c (-1) (-1) (by decide)).1; have h3 := gv1.2; have h4 := (gi_c (-1) (-1) (by decide)).2; omega); rw [hcm1] at h9; exact h9); have qgv1 := gv1.1; have rgv1 := gv1.2; omega) hP hD hS (lv_sub hl [1, 0] rfl)
      · have g_426 : gi v3 0 10 := gi_le_l (Int32.not_lt.mp c_423) gv3 gr_422
        refine lv_aload_n hx hb dX3_fits_83 rfl (lv_at hl 0 rfl) ?_
        refine va_get (D := (dC, dI)) (ci := 3) (v := .ref on) (C := RX3) (T := TX3) (N := 5) hx hb hts (fun w h => List.mem_cons_of_mem _ (jnGA_X3 w h)) hown hK hP 0 rfl rfl 4 (by decide) (hts _ (List.mem_cons_of_mem _ mGA_95)) (fun _ h9 => h9) rfl dX3_fits_84 ?_
        refine lv_iload_n hx hb dX3_fits_87 rfl (lv_at hl 2 rfl) ?_
        refine lv_iload_n hx hb dX3_fits_88 rfl (lv_at hl 3 rfl) ?_
        refine lv_aload_n hx hb dX3_fits_89 rfl (lv_at hl 0 rfl) ?_
        refine va_get (D := (dC, dI)) (ci := 3) (v := .int full) (C := RX3) (T := TX3) (N := 5) hx hb hts (fun w h => List.mem_cons_of_mem _ (jnGA_X3 w h)) hown hK hP 0 rfl rfl 1 (by decide) (hts _ (List.mem_cons_of_mem _ mGA_479)) (fun _ h9 => h9) rfl dX3_fits_90 ?_
        have hPc := hP.sub (ws' := []) [] rfl
        have hKc := hK.sub (tys' := []) [] rfl
        refine va_calli (va_runSN (As := [.int v3, .int full]) (rest := [.int v2, .ref on]) ⟨hx, hb, hml, hown, hts⟩ (sX11_runWithFull l dC dI v3 full g_426 gfull) (⟨va_cnB 2 hts (gz_gP mGA_508 goodGA) rfl rfl rfl (nzA_X3_56 hz) (hts _ (List.mem_cons_of_mem _ mGA_1)) (by decide +kernel) ⟨Nat.le_trans (Nat.le_of_ble_eq_true rfl) hRf, Nat.le_trans (Nat.le_of_ble_eq_true rfl) hRl⟩, (hts _ (List.mem_cons_of_mem _ mGA_507)), trivial⟩) ⟨fun a U g mk q => by obtain ⟨q0, qP, qK, qZ⟩ := q; exact ⟨q0, qP, va_K.moved (u := U) (U := U.calling g mk a) (Vm.Alike.refl U.vm) qK, nzA_same (u := U) (U := U.calling g mk a) rfl qZ⟩, fun U hU hW => ⟨rfl, by rw [hU]; exact hPc, va_K.moved hW.alike hKc, nzA_warm hW hz⟩⟩ rfl rfl hl.1 rfl (lv_room (Nat.le_of_ble_eq_true rfl)) dX3_fits_93 ⟨hRc, hRs⟩) hS (fun q _ h => h.elim) (fun q h => h.elim) (fun r_427 u t H1 locs ht hvm hw hB hz1 hk1 hS => ?_)
        have hP := gz_keep hP hk1
        generalize H1 = H at hP hS ⊢
        have gr_427 : gi r_427 0 5 := hw
        refine lv_iadd hx hb dX3_fits_96 ?_
        refine lv_topi (fun x_428 ex_428 => ?_)
        have gx_428 : gi x_428 11 269 := gi_add ex_428 gv2 gr_427 (by decide)
        refine va_iald hx hb hK hP 2 1 rfl rfl (gi_in gx_428 (by decide)) dX3_fits_97 ?_
        refine lv_topi (fun x_429 ex_429 => ?_)
        refine lv_iconst (v := 1) hx hb dX3_fits_98 (by decide) ?_
        refine lv_ishr hx hb dX3_fits_99 ?_
        refine lv_topi (fun x_430 ex_430 => ?_)
        refine lv_istore (lv' := [(4, .int x_430), (0, .ref h0), (1, .int v1), (2, .int v2), (3, .int v3)]) hx hb dX3_fits_100 hl (by decide) rfl (fun ls hl => ?_)
        refine lv_aload_n hx hb dX3_fits_102 rfl (lv_at hl 1 rfl) ?_
        refine va_get (D := (dC, dI)) (ci := 3) (v := .ref on) (C := RX3) (T := TX3) (N := 5) hx hb hts (fun w h => List.mem_cons_of_mem _ (jnGA_X3 w h)) hown hK hP 0 rfl rfl 4 (by decide) (hts _ (List.mem_cons_of_mem _ mGA_95)) (fun _ h9 => h9) rfl dX3_fits_103 ?_
        refine lv_iload_n hx hb dX3_fits_106 rfl (lv_at hl 3 rfl) ?_
        refine lv_iload_n hx hb dX3_fits_107 rfl (lv_at hl 4 rfl) ?_
        refine lv_aload_n hx hb dX3_fits_108 rfl (lv_at hl 1 rfl) ?_
        refine va_get (D := (dC, dI)) (ci := 3) (v := .int full) (C := RX3) (T := TX3) (N := 5) hx hb hts (fun w h => List.mem_cons_of_mem _ (jnGA_X3 w h)) hown hK hP 0 rfl rfl 1 (by decide) (hts _ (List.mem_cons_of_mem _ mGA_479)) (fun _ h9 => h9) rfl dX3_fits_109 ?_
        refine lv_aload_n hx hb dX3_fits_112 rfl (lv_at hl 1 rfl) ?_
        refine va_get (D := (dC, dI)) (ci := 3) (v := .int lean) (C := RX3) (T := TX3) (N := 5) hx hb hts (fun w h => List.mem_cons_of_mem _ (jnGA_X3 w h)) hown hK hP 0 rfl rfl 2 (by decide) (hts _ (List.mem_cons_of_mem _ mGA_481)) (fun _ h9 => h9) rfl dX3_fits_113 ?_
        have hPc := hP.sub (ws' := []) [] rfl
        have hKc := hK.sub (tys' := []) [] rfl
        refine va_calli (va_runSN (As := [.int v3, .int full, .int lean]) (rest := [.int v2, .ref on]) ⟨hx, hb, hml, hown, hts⟩ (sX11_runWithLean l dC dI v3 full lean g_426 gfull glean) (⟨va_cnB 3 hts (gz_gP mGA_510 goodGA) rfl rfl rfl (nzA_X3_60 hz) (hts _ (List.mem_cons_of_mem _ mGA_1)) (by decide +kernel) ⟨Nat.le_trans (Nat.le_of_ble_eq_true rfl) hRf, Nat.le_trans (Nat.le_of_ble_eq_true rfl) hRl⟩, (hts _ (List.mem_cons_of_mem _ mGA_509)), trivial⟩) ⟨fun a U g mk q => by obtain ⟨q0, qP, qK, qZ⟩ := q; exact ⟨q0, qP, va_K.moved (u := U) (U := U.calling g mk a) (Vm.Alike.refl U.vm) qK, nzA_same (u := U) (U := U.calling g mk a) rfl qZ⟩, fun U hU hW => ⟨rfl, by rw [hU]; exact hPc, va_K.moved hW.alike hKc, nzA_warm hW hz⟩⟩ rfl rfl hl.1 rfl (lv_room (Nat.le_of_ble_eq_true rfl)) dX3_fits_116 ⟨hRc, hRs⟩) hS (fun q _ h => h.elim) (fun q h => h.elim) (fun r_431 u t H1 locs ht hvm hw hB hz1 hk1 hS => ?_)
        have hP := gz_keep hP hk1
        generalize H1 = H at hP hS ⊢
        have gr_431 : gi r_431 0 10 := hw
        refine lv_iadd hx hb dX3_fits_119 ?_
        refine lv_topi (fun x_432 ex_432 => ?_)
        have gx_432 : gi x_432 11 274 := gi_add ex_432 gv2 gr_431 (by decide)
        refine va_iald hx hb hK hP 2 1 rfl rfl (gi_in gx_432 (by decide)) dX3_fits_120 ?_
        refine lv_topi (fun x_433 ex_433 => ?_)
        refine lv_istore (lv' := [(5, .int x_433), (4, .int x_430), (0, .ref h0), (1, .int v1), (2, .int v2), (3, .int v3)]) hx hb dX3_fits_121 hl (by decide) rfl (fun ls hl => ?_)
        refine lv_aload_n hx hb dX3_fits_123 rfl (lv_at hl 2 rfl) ?_
        refine va_get (D := (dC, dI)) (ci := 3) (v := .ref on) (C := RX3) (T := TX3) (N := 5) hx hb hts (fun w h => List.mem_cons_of_mem _ (jnGA_X3 w h)) hown hK hP 0 rfl rfl 4 (by decide) (hts _ (List.mem_cons_of_mem _ mGA_95)) (fun _ h9 => h9) rfl dX3_fits_124 ?_
        refine lv_iload_n hx hb dX3_fits_127 rfl (lv_at hl 3 rfl) ?_
        refine lv_bipush (v := 11) hx hb dX3_fits_128 (by decide) ?_
        refine lv_imul hx hb dX3_fits_130 ?_
        refine lv_topi (fun x_434 ex_434 => ?_)
        have gx_434 : gi x_434 0 253 := gi_mul ex_434 gv1 (gi_c 11 11 (by decide)) (by decide)
        refine lv_iload_n hx hb dX3_fits_131 rfl (lv_at hl 5 rfl) ?_
        refine lv_iadd hx hb dX3_fits_132 ?_
        refine lv_topi (fun x_435 ex_435 => ?_)
        have gx_435 : gi x_435 0 263 := gi_add ex_435 gx_434 g_426 (by decide)
        refine lv_aload_n hx hb dX3_fits_133 rfl (lv_at hl 2 rfl) ?_
        refine va_get (D := (dC, dI)) (ci := 3) (v := .ref al) (C := RX3) (T := TX3) (N := 5) hx hb hts (fun w h => List.mem_cons_of_mem _ (jnGA_X3 w h)) hown hK hP 0 rfl rfl 3 (by decide) (hts _ (List.mem_cons_of_mem _ mGA_94)) (fun _ h9 => h9) rfl dX3_fits_134 ?_
        refine lv_iload_n hx hb dX3_fits_137 rfl (lv_at hl 3 rfl) ?_
        refine va_iald hx hb hK hP 1 0 rfl rfl (gi_in gv1 (by decide)) dX3_fits_138 ?_
        refine lv_topi (fun x_436 ex_436 => ?_)
        refine lv_iload hx hb dX3_fits_139 (lv_at hl 1 rfl) ?_
        refine lv_iload hx hb dX3_fits_141 (lv_at hl 0 rfl) ?_
        refine lv_ior hx hb dX3_fits_143 ?_
        refine lv_topi (fun x_437 ex_437 => ?_)
        refine lv_iand hx hb dX3_fits_144 ?_
        refine lv_topi (fun x_438 ex_438 => ?_)
        refine va_iast hx hb hK hP hD hS 2 1 rfl rfl (gi_in gx_435 (by decide)) dX3_fits_145 (fun H locs hP hD hS => ?_)
        have hP : va_P (dC, dI) vwCl [(h0, .inr (3, [.int months, .int full, .int lean, .ref al, .ref on])), (al, .inl (kal, 25, .inl fal)), (on, .inl (kon, 275, .inl (upd z2 (x_435 : Int32).toNatClampNeg x_438)))] H := hP
        have hD : va_D A [(h0, .inr (3, [.int months, .int full, .int lean, .ref al, .ref on])), (al, .inl (kal, 25, .inl fal)), (on, .inl (kon, 275, .inl (upd z2 (x_435 : Int32).toNatClampNeg x_438)))] := hD
        generalize upd z2 (x_435 : Int32).toNatClampNeg x_438 = f_439 at hP hD
        obtain ⟨x_440, ex_440⟩ : ∃ y : Int32, y = v3 + 1 := ⟨_, rfl⟩
        have gx_440 : gi x_440 1 11 := gi_add ex_440 g_426 (gi_c 1 1 (by decide)) (by decide)
        refine lv_iinc (v := x_440) (lv' := [(3, .int x_440), (5, .int x_433), (4, .int x_430), (0, .ref h0), (1, .int v1), (2, .int v2)]) hx hb dX3_fits_146 hl (k := 5) rfl (by rw [ex_440]; rfl) (by decide) rfl (fun ls hl => ?_)
        refine lv_goto (tgt := 67) hx hb dX3_fits_149 (by decide) ?_
        exact ih.2.2 v1 v2 x_440 f_439 _ _ _ gv1 gv2 (gi_w gx_440 (by decide)) (by have av1 := gv1.1; have bv1 := gv1.2; have av3 := gv3.1; have bv3 := gv3.2; have qgx_440 := gx_440.1; have rgx_440 := gx_440.2; have igx_440 : x_440.toInt = v3.toInt + 1 := (by have hc1 : (1 : Int32).toInt = 1 := (by decide); have h9 := gi_addI ex_440 (by have h1 := g_426.1; have h2 := (gi_c 1 1 (by decide)).1; have h3 := g_426.2; have h4 := (gi_c 1 1 (by decide)).2; omega) (by have h1 := g_426.1; have h2 := (gi_c 1 1 (by decide)).1; have h3 := g_426.2; have h4 := (gi_c 1 1 (by decide)).2; omega); rw [hc1] at h9; exact h9); have qgv3 := g_426.1; have rgv3 := g_426.2; have qgv1 := gv1.1; have rgv1 := gv1.2; omega) hP hD hS (lv_sub hl [3, 4, 5, 0] rfl)
set_option maxHeartbeats 4000000 in
set_option maxRecDepth 100000 in
theorem sX3_fits (l : Launch) (dC : Nat → ClassId) (dI : Nat → Nat → Nat) (sz : Nat) (h0 : Nat) (al : Nat) (on : Nat) (months : Int32) (full : Int32) (lean : Int32) (kal : ClassId) (fal : Nat → Int32) (kon : ClassId) (fon : Nat → Int32) (gmonths : gi months 0 24) (gfull : gi full 0 5) (glean : gi lean 0 5) : Met l yX3_fits (.code yX3_fits cX3_fits 6 (some .boolean) :: wsGA) ({ frames := 1, cells := 0, slots := 0, locals := 22 }) (va_Pc [.ref h0] (fun U => U.heap.size = sz ∧ va_P (dC, dI) vwCl [(h0, .inr (3, [.int months, .int full, .int lean, .ref al, .ref on])), (al, .inl (kal, 25, .inl fal)), (on, .inl (kon, 275, .inl fon))] U.heap ∧ va_K (dC, dI) vwCl [(kal, .int), (kon, .int)] U ∧ va_D (fun _ => True) [(h0, .inr (3, [.int months, .int full, .int lean, .ref al, .ref on])), (al, .inl (kal, 25, .inl fal)), (on, .inl (kon, 275, .inl fon))] ∧ nzA U)) (va_Qi (fun (r : Int32) (u : Unit) => gi r 0 1) (fun _ t => ∃ (z2 : Nat → Int32), va_P (dC, dI) vwCl [(h0, .inr (3, [.int months, .int full, .int lean, .ref al, .ref on])), (al, .inl (kal, 25, .inl fal)), (on, .inl (kon, 275, .inl z2))] t.heap ∧ va_D (va_A [(h0, .inr (3, [.int months, .int full, .int lean, .ref al, .ref on])), (al, .inl (kal, 25, .inl fal)), (on, .inl (kon, 275, .inl fon))] sz) [(h0, .inr (3, [.int months, .int full, .int lean, .ref al, .ref on])), (al, .inl (kal, 25, .inl fal)), (on, .inl (kon, 275, .inl z2))]) (va_A [(h0, .inr (3, [.int months, .int full, .int lean, .ref al, .ref on])), (al, .inl (kal, 25, .inl fal)), (on, .inl (kon, 275, .inl fon))] sz)) 0 0 (va_A [(h0, .inr (3, [.int months, .int full, .int lean, .ref al, .ref on])), (al, .inl (kal, 25, .inl fal)), (on, .inl (kon, 275, .inl fon))] sz) := by
  refine Met.ofW (cc := cX3_fits) (maxL := 6) (ret := (some .boolean)) (by decide) rfl ?_
  intro p e s m args below meth c s₁ B hml hv
  obtain ⟨rfl, hsz, hP, hK, hD0, hz⟩ := hv
  have hx := B.exec
  have hb := B.bytes
  have hr := B.returns
  have hts := atoms_spec (ws := (.code yX3_fits cX3_fits 6 (some .boolean) :: wsGA)) B.pre
  have hown : s.vm.findClass RX3 = some m.cls := findClass_of_methodNamed B.named
  have hlocks := B.notSynchronized
  subst hsz
  have hD := hD0.self (sz := s.heap.size)
  generalize hAe : va_A [(h0, .inr (3, [.int months, .int full, .int lean, .ref al, .ref on])), (al, .inl (kal, 25, .inl fal)), (on, .inl (kon, 275, .inl fon))] s.heap.size = A at hD ⊢
  have hA : ∀ q : Nat, s.heap.size ≤ q → A q := fun q h => by rw [← hAe]; exact Or.inr h
  have hS : va_S A s.heap s.heap [] := va_S.rf
  have hl := lv_entry ([.ref h0]) (n := 6) (Nat.le_of_ble_eq_true rfl)
  rw [lg_entry_eq]
  generalize (lg_sl ([.ref h0]) ++ List.replicate (6 - (lg_sl ([.ref h0])).length) Slot.unset).toArray = ls at hl ⊢
  have hl : lv_has ls 6 [(0, .ref h0)] := hl
  refine lv_iconst (v := 1) hx hb dX3_fits_0 (by decide) ?_
  refine lv_istore_n (lv' := [(1, .int 1), (0, .ref h0)]) hx hb dX3_fits_1 rfl hl (by decide) rfl (fun ls hl => ?_)
  refine (lp_sX3_fits h0 al on months full lean kal fal kon fon gmonths gfull glean hx hb hml hown hts hK hz hA (Nat.le_of_ble_eq_true rfl) (Nat.le_of_ble_eq_true rfl) (Nat.zero_le _) (Nat.zero_le _) (fun v z2 H locs ls gv hP hD hS hl => ?_) 762).1 1 fon _ _ _ (gi_w (gi_c 1 1 (by decide)) (by decide)) (by have k1 : (1 : Int32).toInt = 1 := (by decide); omega) hP hD hS (lv_sub hl [1, 0] rfl)
  · skip
    exact W.zret (v := v) hx hb hr (gz_nb gv) (fun t ht hW => ⟨⟨v, (), rfl, gv, z2, by rw [ht]; exact hP, hD⟩, hS.F ht⟩) hS.2.2 dX3_fits_174
theorem dX3_beginsInto_0 : decode cX3_beginsInto 0 = .ok (.iconst 0, 1) := by decide +kernel
theorem dX3_beginsInto_1 : decode cX3_beginsInto 1 = .ok (.istore_n 2, 1) := by decide +kernel
theorem dX3_beginsInto_2 : decode cX3_beginsInto 2 = .ok (.iconst 0, 1) := by decide +kernel
theorem dX3_beginsInto_3 : decode cX3_beginsInto 3 = .ok (.istore_n 3, 1) := by decide +kernel
theorem dX3_beginsInto_4 : decode cX3_beginsInto 4 = .ok (.aload_n 1, 1) := by decide +kernel
theorem dX3_beginsInto_5 : decode cX3_beginsInto 5 = .ok (.iconst 0, 1) := by decide +kernel
theorem dX3_beginsInto_6 : decode cX3_beginsInto 6 = .ok (.iconst 0, 1) := by decide +kernel
theorem dX3_beginsInto_7 : decode cX3_beginsInto 7 = .ok (.iastore, 1) := by decide +kernel
theorem dX3_beginsInto_8 : decode cX3_beginsInto 8 = .ok (.iconst 0, 1) := by decide +kernel
theorem dX3_beginsInto_9 : decode cX3_beginsInto 9 = .ok (.istore 4, 2) := by decide +kernel
theorem dX3_beginsInto_11 : decode cX3_beginsInto 11 = .ok (.iload 4, 2) := by decide +kernel
theorem dX3_beginsInto_13 : decode cX3_beginsInto 13 = .ok (.aload_n 0, 1) := by decide +kernel
theorem dX3_beginsInto_14 : decode cX3_beginsInto 14 = .ok (.getfield 24, 3) := by decide +kernel
theorem dX3_beginsInto_17 : decode cX3_beginsInto 17 = .ok (.if_icmp .ge 79, 3) := by decide +kernel
theorem dX3_beginsInto_20 : decode cX3_beginsInto 20 = .ok (.iload_n 3, 1) := by decide +kernel
theorem dX3_beginsInto_21 : decode cX3_beginsInto 21 = .ok (.aload_n 0, 1) := by decide +kernel
theorem dX3_beginsInto_22 : decode cX3_beginsInto 22 = .ok (.getfield 28, 3) := by decide +kernel
theorem dX3_beginsInto_25 : decode cX3_beginsInto 25 = .ok (.invokestatic 56, 3) := by decide +kernel
theorem dX3_beginsInto_28 : decode cX3_beginsInto 28 = .ok (.istore 5, 2) := by decide +kernel
theorem dX3_beginsInto_30 : decode cX3_beginsInto 30 = .ok (.aload_n 0, 1) := by decide +kernel
theorem dX3_beginsInto_31 : decode cX3_beginsInto 31 = .ok (.getfield 15, 3) := by decide +kernel
theorem dX3_beginsInto_34 : decode cX3_beginsInto 34 = .ok (.iload 4, 2) := by decide +kernel
theorem dX3_beginsInto_36 : decode cX3_beginsInto 36 = .ok (.iconst 1, 1) := by decide +kernel
theorem dX3_beginsInto_37 : decode cX3_beginsInto 37 = .ok (.iadd, 1) := by decide +kernel
theorem dX3_beginsInto_38 : decode cX3_beginsInto 38 = .ok (.bipush 11, 2) := by decide +kernel
theorem dX3_beginsInto_40 : decode cX3_beginsInto 40 = .ok (.imul, 1) := by decide +kernel
theorem dX3_beginsInto_41 : decode cX3_beginsInto 41 = .ok (.iload 5, 2) := by decide +kernel
theorem dX3_beginsInto_43 : decode cX3_beginsInto 43 = .ok (.iadd, 1) := by decide +kernel
theorem dX3_beginsInto_44 : decode cX3_beginsInto 44 = .ok (.iaload, 1) := by decide +kernel
theorem dX3_beginsInto_45 : decode cX3_beginsInto 45 = .ok (.iload_n 2, 1) := by decide +kernel
theorem dX3_beginsInto_46 : decode cX3_beginsInto 46 = .ok (.iconst 1, 1) := by decide +kernel
theorem dX3_beginsInto_47 : decode cX3_beginsInto 47 = .ok (.iadd, 1) := by decide +kernel
theorem dX3_beginsInto_48 : decode cX3_beginsInto 48 = .ok (.ishr, 1) := by decide +kernel
theorem dX3_beginsInto_49 : decode cX3_beginsInto 49 = .ok (.iconst 1, 1) := by decide +kernel
theorem dX3_beginsInto_50 : decode cX3_beginsInto 50 = .ok (.iand, 1) := by decide +kernel
theorem dX3_beginsInto_51 : decode cX3_beginsInto 51 = .ok (.ifCond .eq 12, 3) := by decide +kernel
theorem dX3_beginsInto_54 : decode cX3_beginsInto 54 = .ok (.iload 5, 2) := by decide +kernel
theorem dX3_beginsInto_56 : decode cX3_beginsInto 56 = .ok (.istore_n 3, 1) := by decide +kernel
theorem dX3_beginsInto_57 : decode cX3_beginsInto 57 = .ok (.iinc 2 1, 3) := by decide +kernel
theorem dX3_beginsInto_60 : decode cX3_beginsInto 60 = .ok (.goto 16, 3) := by decide +kernel
theorem dX3_beginsInto_63 : decode cX3_beginsInto 63 = .ok (.iload_n 3, 1) := by decide +kernel
theorem dX3_beginsInto_64 : decode cX3_beginsInto 64 = .ok (.aload_n 0, 1) := by decide +kernel
theorem dX3_beginsInto_65 : decode cX3_beginsInto 65 = .ok (.getfield 28, 3) := by decide +kernel
theorem dX3_beginsInto_68 : decode cX3_beginsInto 68 = .ok (.aload_n 0, 1) := by decide +kernel
theorem dX3_beginsInto_69 : decode cX3_beginsInto 69 = .ok (.getfield 32, 3) := by decide +kernel
theorem dX3_beginsInto_72 : decode cX3_beginsInto 72 = .ok (.invokestatic 60, 3) := by decide +kernel
theorem dX3_beginsInto_75 : decode cX3_beginsInto 75 = .ok (.istore_n 3, 1) := by decide +kernel
theorem dX3_beginsInto_76 : decode cX3_beginsInto 76 = .ok (.aload_n 1, 1) := by decide +kernel
theorem dX3_beginsInto_77 : decode cX3_beginsInto 77 = .ok (.iload 4, 2) := by decide +kernel
theorem dX3_beginsInto_79 : decode cX3_beginsInto 79 = .ok (.iconst 1, 1) := by decide +kernel
theorem dX3_beginsInto_80 : decode cX3_beginsInto 80 = .ok (.iadd, 1) := by decide +kernel
theorem dX3_beginsInto_81 : decode cX3_beginsInto 81 = .ok (.iload 4, 2) := by decide +kernel
theorem dX3_beginsInto_83 : decode cX3_beginsInto 83 = .ok (.iconst 1, 1) := by decide +kernel
theorem dX3_beginsInto_84 : decode cX3_beginsInto 84 = .ok (.iadd, 1) := by decide +kernel
theorem dX3_beginsInto_85 : decode cX3_beginsInto 85 = .ok (.iload_n 2, 1) := by decide +kernel
theorem dX3_beginsInto_86 : decode cX3_beginsInto 86 = .ok (.invokestatic 63, 3) := by decide +kernel
theorem dX3_beginsInto_89 : decode cX3_beginsInto 89 = .ok (.iastore, 1) := by decide +kernel
theorem dX3_beginsInto_90 : decode cX3_beginsInto 90 = .ok (.iinc 4 1, 3) := by decide +kernel
theorem dX3_beginsInto_93 : decode cX3_beginsInto 93 = .ok (.goto (-82), 3) := by decide +kernel
theorem dX3_beginsInto_96 : decode cX3_beginsInto 96 = .ok (.return_, 1) := by decide +kernel
set_option maxHeartbeats 4000000 in
set_option maxRecDepth 100000 in
theorem lp_sX3_beginsInto {p : Program} {l : Launch} {e : Env} {R : Room} {s : State} {m : MethodId} {args : Array Value} {below : List Frame} {meth : Method} {c : Code} {Q : State → Prop} {A : Nat → Prop} {cells slots : Nat} {dC : Nat → ClassId} {dI : Nat → Nat → Nat} (h0 : Nat) (al : Nat) (on : Nat) (bg : Nat) (months : Int32) (full : Int32) (lean : Int32) (kal : ClassId) (fal : Nat → Int32) (kon : ClassId) (fon : Nat → Int32) (kbg : ClassId) (fbg : Nat → Int32) (gmonths : gi months 0 24) (gfull : gi full 0 5) (glean : gi lean 0 5) (hx : p.tables.exec = Jvm.exec) (hb : c.code = cX3_beginsInto) (hml : c.maxLocals = 6) (hown : s.vm.findClass RX3 = some m.cls) (hts : ∀ w ∈ ((.code yX3_beginsInto cX3_beginsInto 6 none :: wsGA) : List Cond), w.before args s = true) (hK : va_K (dC, dI) vwCl [(kal, .int), (kon, .int), (kbg, .int)] s) (hz : nzA s) (hA : ∀ q : Nat, s.heap.size ≤ q → A q) (hRf : 1 ≤ R.frames) (hRl : 22 ≤ R.locals) (hRc : cells ≤ R.cells) (hRs : slots ≤ R.slots) (kr96 : ∀ (z3 : Nat → Int32) (H : Heap) (locs : List Loc) (ls : Array Slot), va_P (dC, dI) vwCl [(h0, .inr (3, [.int months, .int full, .int lean, .ref al, .ref on])), (al, .inl (kal, 25, .inl fal)), (on, .inl (kon, 275, .inl fon)), (bg, .inl (kbg, 25, .inl z3))] H → va_D A [(h0, .inr (3, [.int months, .int full, .int lean, .ref al, .ref on])), (al, .inl (kal, 25, .inl fal)), (on, .inl (kon, 275, .inl fon)), (bg, .inl (kbg, 25, .inl z3))] → va_S A s.heap H locs → lv_has ls 6 [] → W p l e R s m args below meth c H locs cells slots Q (F0 m 96 ls [])) : ∀ z : Nat, (∀ (v2 : Int32) (v3 : Int32) (v4 : Int32) (z3 : Nat → Int32) (H : Heap) (locs : List Loc) (ls : Array Slot), gi v3 0 10 → gi v4 0 24 → 49 + (-2) * v4.toInt < (z : Int) → va_P (dC, dI) vwCl [(h0, .inr (3, [.int months, .int full, .int lean, .ref al, .ref on])), (al, .inl (kal, 25, .inl fal)), (on, .inl (kon, 275, .inl fon)), (bg, .inl (kbg, 25, .inl z3))] H → va_D A [(h0, .inr (3, [.int months, .int full, .int lean, .ref al, .ref on])), (al, .inl (kal, 25, .inl fal)), (on, .inl (kon, 275, .inl fon)), (bg, .inl (kbg, 25, .inl z3))] → va_S A s.heap H locs → lv_has ls 6 [(0, .ref h0), (1, .ref bg), (2, .int v2), (3, .int v3), (4, .int v4)] → W p l e R s m args below meth c H locs cells slots Q (F0 m 11 ls [])) := by
  intro z
  induction z with
  | zero =>
    intro v2 v3 v4 z3 H locs ls gv3 gv4 hmu hP hD hS hl
    exact absurd hmu (by have hv41 := gv4.1; have hv42 := gv4.2; omega)
  | succ z ih =>
      intro v2 v3 v4 z3 H locs ls gv3 gv4 hmu hP hD hS hl
      refine lv_iload hx hb dX3_beginsInto_11 (lv_at hl 4 rfl) ?_
      refine lv_aload_n hx hb dX3_beginsInto_13 rfl (lv_at hl 0 rfl) ?_
      refine va_get (D := (dC, dI)) (ci := 3) (v := .int months) (C := RX3) (T := TX3) (N := 5) hx hb hts (fun w h => List.mem_cons_of_mem _ (jnGA_X3 w h)) hown hK hP 0 rfl rfl 0 (by decide) (hts _ (List.mem_cons_of_mem _ mGA_477)) (fun _ h9 => h9) rfl dX3_beginsInto_14 ?_
      refine lv_icmp_ge (tgt := 96) hx hb dX3_beginsInto_17 (by decide) (fun c_1054 => ?_) (fun c_1054 => ?_)
      · exact kr96 z3 _ _ _ hP hD hS (lv_sub hl [] rfl)
      · have g_1055 : gi v4 0 23 := gi_lt_l (Int32.not_le.mp c_1054) gv4 gmonths (by decide)
        have g_1056 : gi months 1 24 := gi_lt_r (Int32.not_le.mp c_1054) gv4 gmonths (by decide)
        refine lv_iload_n hx hb dX3_beginsInto_20 rfl (lv_at hl 3 rfl) ?_
        refine lv_aload_n hx hb dX3_beginsInto_21 rfl (lv_at hl 0 rfl) ?_
        refine va_get (D := (dC, dI)) (ci := 3) (v := .int full) (C := RX3) (T := TX3) (N := 5) hx hb hts (fun w h => List.mem_cons_of_mem _ (jnGA_X3 w h)) hown hK hP 0 rfl rfl 1 (by decide) (hts _ (List.mem_cons_of_mem _ mGA_479)) (fun _ h9 => h9) rfl dX3_beginsInto_22 ?_
        have hPc := hP.sub (ws' := []) [] rfl
        have hKc := hK.sub (tys' := []) [] rfl
        refine va_calli (va_runSN (As := [.int v3, .int full]) (rest := []) ⟨hx, hb, hml, hown, hts⟩ (sX11_runWithFull l dC dI v3 full gv3 gfull) (⟨va_cnB 2 hts (gz_gP mGA_508 goodGA) rfl rfl rfl (nzA_X3_56 hz) (hts _ (List.mem_cons_of_mem _ mGA_1)) (by decide +kernel) ⟨Nat.le_trans (Nat.le_of_ble_eq_true rfl) hRf, Nat.le_trans (Nat.le_of_ble_eq_true rfl) hRl⟩, (hts _ (List.mem_cons_of_mem _ mGA_507)), trivial⟩) ⟨fun a U g mk q => by obtain ⟨q0, qP, qK, qZ⟩ := q; exact ⟨q0, qP, va_K.moved (u := U) (U := U.calling g mk a) (Vm.Alike.refl U.vm) qK, nzA_same (u := U) (U := U.calling g mk a) rfl qZ⟩, fun U hU hW => ⟨rfl, by rw [hU]; exact hPc, va_K.moved hW.alike hKc, nzA_warm hW hz⟩⟩ rfl rfl hl.1 rfl (lv_room (Nat.le_of_ble_eq_true rfl)) dX3_beginsInto_25 ⟨hRc, hRs⟩) hS (fun q _ h => h.elim) (fun q h => h.elim) (fun r_1057 u t H1 locs ht hvm hw hB hz1 hk1 hS => ?_)
        have hP := gz_keep hP hk1
        generalize H1 = H at hP hS ⊢
        have gr_1057 : gi r_1057 0 5 := hw
        refine lv_istore (lv' := [(5, .int r_1057), (0, .ref h0), (1, .ref bg), (2, .int v2), (3, .int v3), (4, .int v4)]) hx hb dX3_beginsInto_28 hl (by decide) rfl (fun ls hl => ?_)
        refine lv_aload_n hx hb dX3_beginsInto_30 rfl (lv_at hl 1 rfl) ?_
        refine va_get (D := (dC, dI)) (ci := 3) (v := .ref on) (C := RX3) (T := TX3) (N := 5) hx hb hts (fun w h => List.mem_cons_of_mem _ (jnGA_X3 w h)) hown hK hP 0 rfl rfl 4 (by decide) (hts _ (List.mem_cons_of_mem _ mGA_95)) (fun _ h9 => h9) rfl dX3_beginsInto_31 ?_
        refine lv_iload hx hb dX3_beginsInto_34 (lv_at hl 5 rfl) ?_
        refine lv_iconst (v := 1) hx hb dX3_beginsInto_36 (by decide) ?_
        refine lv_iadd hx hb dX3_beginsInto_37 ?_
        refine lv_topi (fun x_1058 ex_1058 => ?_)
        have gx_1058 : gi x_1058 1 24 := gi_add ex_1058 g_1055 (gi_c 1 1 (by decide)) (by decide)
        refine lv_bipush (v := 11) hx hb dX3_beginsInto_38 (by decide) ?_
        refine lv_imul hx hb dX3_beginsInto_40 ?_
        refine lv_topi (fun x_1059 ex_1059 => ?_)
        have gx_1059 : gi x_1059 11 264 := gi_mul ex_1059 gx_1058 (gi_c 11 11 (by decide)) (by decide)
        refine lv_iload hx hb dX3_beginsInto_41 (lv_at hl 0 rfl) ?_
        refine lv_iadd hx hb dX3_beginsInto_43 ?_
        refine lv_topi (fun x_1060 ex_1060 => ?_)
        have gx_1060 : gi x_1060 11 269 := gi_add ex_1060 gx_1059 gr_1057 (by decide)
        refine va_iald hx hb hK hP 2 1 rfl rfl (gi_in gx_1060 (by decide)) dX3_beginsInto_44 ?_
        refine lv_topi (fun x_1061 ex_1061 => ?_)
        refine lv_iload_n hx hb dX3_beginsInto_45 rfl (lv_at hl 3 rfl) ?_
        refine lv_iconst (v := 1) hx hb dX3_beginsInto_46 (by decide) ?_
        refine lv_iadd hx hb dX3_beginsInto_47 ?_
        refine lv_topi (fun x_1062 ex_1062 => ?_)
        refine lv_ishr hx hb dX3_beginsInto_48 ?_
        refine lv_topi (fun x_1063 ex_1063 => ?_)
        refine lv_iconst (v := 1) hx hb dX3_beginsInto_49 (by decide) ?_
        refine lv_iand hx hb dX3_beginsInto_50 ?_
        refine lv_topi (fun x_1064 ex_1064 => ?_)
        have gx_1064 : gi x_1064 0 1 := gi_and1 ex_1064
        refine lv_if_eq (tgt := 63) hx hb dX3_beginsInto_51 (by decide) (fun c_1065 => ?_) (fun c_1065 => ?_)
        · have g_1066 : gi x_1064 0 0 := gi_eq c_1065 (gi_c 0 0 (by decide))
          refine lv_iload_n hx hb dX3_beginsInto_63 rfl (lv_at hl 4 rfl) ?_
          refine lv_aload_n hx hb dX3_beginsInto_64 rfl (lv_at hl 1 rfl) ?_
          refine va_get (D := (dC, dI)) (ci := 3) (v := .int full) (C := RX3) (T := TX3) (N := 5) hx hb hts (fun w h => List.mem_cons_of_mem _ (jnGA_X3 w h)) hown hK hP 0 rfl rfl 1 (by decide) (hts _ (List.mem_cons_of_mem _ mGA_479)) (fun _ h9 => h9) rfl dX3_beginsInto_65 ?_
          refine lv_aload_n hx hb dX3_beginsInto_68 rfl (lv_at hl 1 rfl) ?_
          refine va_get (D := (dC, dI)) (ci := 3) (v := .int lean) (C := RX3) (T := TX3) (N := 5) hx hb hts (fun w h => List.mem_cons_of_mem _ (jnGA_X3 w h)) hown hK hP 0 rfl rfl 2 (by decide) (hts _ (List.mem_cons_of_mem _ mGA_481)) (fun _ h9 => h9) rfl dX3_beginsInto_69 ?_
          have hPc := hP.sub (ws' := []) [] rfl
          have hKc := hK.sub (tys' := []) [] rfl
          refine va_calli (va_runSN (As := [.int v3, .int full, .int lean]) (rest := []) ⟨hx, hb, hml, hown, hts⟩ (sX11_runWithLean l dC dI v3 full lean gv3 gfull glean) (⟨va_cnB 3 hts (gz_gP mGA_510 goodGA) rfl rfl rfl (nzA_X3_60 hz) (hts _ (List.mem_cons_of_mem _ mGA_1)) (by decide +kernel) ⟨Nat.le_trans (Nat.le_of_ble_eq_true rfl) hRf, Nat.le_trans (Nat.le_of_ble_eq_true rfl) hRl⟩, (hts _ (List.mem_cons_of_mem _ mGA_509)), trivial⟩) ⟨fun a U g mk q => by obtain ⟨q0, qP, qK, qZ⟩ := q; exact ⟨q0, qP, va_K.moved (u := U) (U := U.calling g mk a) (Vm.Alike.refl U.vm) qK, nzA_same (u := U) (U := U.calling g mk a) rfl qZ⟩, fun U hU hW => ⟨rfl, by rw [hU]; exact hPc, va_K.moved hW.alike hKc, nzA_warm hW hz⟩⟩ rfl rfl hl.1 rfl (lv_room (Nat.le_of_ble_eq_true rfl)) dX3_beginsInto_72 ⟨hRc, hRs⟩) hS (fun q _ h => h.elim) (fun q h => h.elim) (fun r_1067 u t H1 locs ht hvm hw hB hz1 hk1 hS => ?_)
          have hP := gz_keep hP hk1
          generalize H1 = H at hP hS ⊢
          have gr_1067 : gi r_1067 0 10 := hw
          refine lv_istore_n (lv' := [(3, .int r_1067), (5, .int r_1057), (0, .ref h0), (1, .ref bg), (2, .int v2), (4, .int v4)]) hx hb dX3_beginsInto_75 rfl hl (by decide) rfl (fun ls hl => ?_)
          refine lv_aload_n hx hb dX3_beginsInto_76 rfl (lv_at hl 3 rfl) ?_
          refine lv_iload hx hb dX3_beginsInto_77 (lv_at hl 5 rfl) ?_
          refine lv_iconst (v := 1) hx hb dX3_beginsInto_79 (by decide) ?_
          refine lv_iadd hx hb dX3_beginsInto_80 ?_
          refine lv_topi (fun x_1068 ex_1068 => ?_)
          have gx_1068 : gi x_1068 1 24 := gi_add ex_1068 g_1055 (gi_c 1 1 (by decide)) (by decide)
          refine lv_iload hx hb dX3_beginsInto_81 (lv_at hl 5 rfl) ?_
          refine lv_iconst (v := 1) hx hb dX3_beginsInto_83 (by decide) ?_
          refine lv_iadd hx hb dX3_beginsInto_84 ?_
          refine lv_topi (fun x_1069 ex_1069 => ?_)
          have gx_1069 : gi x_1069 1 24 := gi_add ex_1069 g_1055 (gi_c 1 1 (by decide)) (by decide)
          refine lv_iload_n hx hb dX3_beginsInto_85 rfl (lv_at hl 4 rfl) ?_
          have hPc := hP.sub (ws' := []) [] rfl
          have hKc := hK.sub (tys' := []) [] rfl
          refine va_calli (va_runSN (As := [.int x_1069, .int v2]) (rest := [.int x_1068, .ref bg]) ⟨hx, hb, hml, hown, hts⟩ (sX11_dayOf l dC dI x_1069 v2) (⟨va_cnB 2 hts (gz_gP mGA_516 goodGA) rfl rfl rfl (nzA_X3_63 hz) (hts _ (List.mem_cons_of_mem _ mGA_1)) (by decide +kernel) ⟨Nat.le_trans (Nat.le_of_ble_eq_true rfl) hRf, Nat.le_trans (Nat.le_of_ble_eq_true rfl) hRl⟩, (hts _ (List.mem_cons_of_mem _ mGA_515)), trivial⟩) ⟨fun a U g mk q => by obtain ⟨q0, qP, qK, qZ⟩ := q; exact ⟨q0, qP, va_K.moved (u := U) (U := U.calling g mk a) (Vm.Alike.refl U.vm) qK, nzA_same (u := U) (U := U.calling g mk a) rfl qZ⟩, fun U hU hW => ⟨rfl, by rw [hU]; exact hPc, va_K.moved hW.alike hKc, nzA_warm hW hz⟩⟩ rfl rfl hl.1 rfl (lv_room (Nat.le_of_ble_eq_true rfl)) dX3_beginsInto_86 ⟨hRc, hRs⟩) hS (fun q _ h => h.elim) (fun q h => h.elim) (fun r_1070 u t H1 locs ht hvm hw hB hz1 hk1 hS => ?_)
          have hP := gz_keep hP hk1
          generalize H1 = H at hP hS ⊢
          refine va_iast hx hb hK hP hD hS 3 2 rfl rfl (gi_in gx_1068 (by decide)) dX3_beginsInto_89 (fun H locs hP hD hS => ?_)
          have hP : va_P (dC, dI) vwCl [(h0, .inr (3, [.int months, .int full, .int lean, .ref al, .ref on])), (al, .inl (kal, 25, .inl fal)), (on, .inl (kon, 275, .inl fon)), (bg, .inl (kbg, 25, .inl (upd z3 (x_1068 : Int32).toNatClampNeg r_1070)))] H := hP
          have hD : va_D A [(h0, .inr (3, [.int months, .int full, .int lean, .ref al, .ref on])), (al, .inl (kal, 25, .inl fal)), (on, .inl (kon, 275, .inl fon)), (bg, .inl (kbg, 25, .inl (upd z3 (x_1068 : Int32).toNatClampNeg r_1070)))] := hD
          generalize upd z3 (x_1068 : Int32).toNatClampNeg r_1070 = f_1071 at hP hD
          obtain ⟨x_1072, ex_1072⟩ : ∃ y : Int32, y = v4 + 1 := ⟨_, rfl⟩
          have gx_1072 : gi x_1072 1 24 := gi_add ex_1072 g_1055 (gi_c 1 1 (by decide)) (by decide)
          refine lv_iinc (v := x_1072) (lv' := [(4, .int x_1072), (3, .int r_1067), (5, .int r_1057), (0, .ref h0), (1, .ref bg), (2, .int v2)]) hx hb dX3_beginsInto_90 hl (k := 5) rfl (by rw [ex_1072]; rfl) (by decide) rfl (fun ls hl => ?_)
          refine lv_goto (tgt := 11) hx hb dX3_beginsInto_93 (by decide) ?_
          exact ih v2 r_1067 x_1072 f_1071 _ _ _ gr_1067 (gi_w gx_1072 (by decide)) (by have av4 := gv4.1; have bv4 := gv4.2; have qgx_1072 := gx_1072.1; have rgx_1072 := gx_1072.2; have igx_1072 : x_1072.toInt = v4.toInt + 1 := (by have hc1 : (1 : Int32).toInt = 1 := (by decide); have h9 := gi_addI ex_1072 (by have h1 := g_1055.1; have h2 := (gi_c 1 1 (by decide)).1; have h3 := g_1055.2; have h4 := (gi_c 1 1 (by decide)).2; omega) (by have h1 := g_1055.1; have h2 := (gi_c 1 1 (by decide)).1; have h3 := g_1055.2; have h4 := (gi_c 1 1 (by decide)).2; omega); rw [hc1] at h9; exact h9); have qgv4 := g_1055.1; have rgv4 := g_1055.2; omega) hP hD hS (lv_sub hl [3, 4, 5, 1, 0] rfl)
        · have g_1073 : gi x_1064 1 1 := gi_ne_lo c_1065 gx_1064 (gi_c 0 0 (by decide)) (by decide)
          refine lv_iload hx hb dX3_beginsInto_54 (lv_at hl 0 rfl) ?_
          refine lv_istore_n (lv' := [(3, .int r_1057), (5, .int r_1057), (0, .ref h0), (1, .ref bg), (2, .int v2), (4, .int v4)]) hx hb dX3_beginsInto_56 rfl hl (by decide) rfl (fun ls hl => ?_)
          obtain ⟨x_1074, ex_1074⟩ : ∃ y : Int32, y = v2 + 1 := ⟨_, rfl⟩
          refine lv_iinc (v := x_1074) (lv' := [(2, .int x_1074), (3, .int r_1057), (5, .int r_1057), (0, .ref h0), (1, .ref bg), (4, .int v4)]) hx hb dX3_beginsInto_57 hl (k := 4) rfl (by rw [ex_1074]; rfl) (by decide) rfl (fun ls hl => ?_)
          refine lv_goto (tgt := 76) hx hb dX3_beginsInto_60 (by decide) ?_
          refine lv_aload_n hx hb dX3_beginsInto_76 rfl (lv_at hl 4 rfl) ?_
          refine lv_iload hx hb dX3_beginsInto_77 (lv_at hl 5 rfl) ?_
          refine lv_iconst (v := 1) hx hb dX3_beginsInto_79 (by decide) ?_
          refine lv_iadd hx hb dX3_beginsInto_80 ?_
          refine lv_topi (fun x_1075 ex_1075 => ?_)
          have gx_1075 : gi x_1075 1 24 := gi_add ex_1075 g_1055 (gi_c 1 1 (by decide)) (by decide)
          refine lv_iload hx hb dX3_beginsInto_81 (lv_at hl 5 rfl) ?_
          refine lv_iconst (v := 1) hx hb dX3_beginsInto_83 (by decide) ?_
          refine lv_iadd hx hb dX3_beginsInto_84 ?_
          refine lv_topi (fun x_1076 ex_1076 => ?_)
          have gx_1076 : gi x_1076 1 24 := gi_add ex_1076 g_1055 (gi_c 1 1 (by decide)) (by decide)
          refine lv_iload_n hx hb dX3_beginsInto_85 rfl (lv_at hl 0 rfl) ?_
          have hPc := hP.sub (ws' := []) [] rfl
          have hKc := hK.sub (tys' := []) [] rfl
          refine va_calli (va_runSN (As := [.int x_1076, .int x_1074]) (rest := [.int x_1075, .ref bg]) ⟨hx, hb, hml, hown, hts⟩ (sX11_dayOf l dC dI x_1076 x_1074) (⟨va_cnB 2 hts (gz_gP mGA_516 goodGA) rfl rfl rfl (nzA_X3_63 hz) (hts _ (List.mem_cons_of_mem _ mGA_1)) (by decide +kernel) ⟨Nat.le_trans (Nat.le_of_ble_eq_true rfl) hRf, Nat.le_trans (Nat.le_of_ble_eq_true rfl) hRl⟩, (hts _ (List.mem_cons_of_mem _ mGA_515)), trivial⟩) ⟨fun a U g mk q => by obtain ⟨q0, qP, qK, qZ⟩ := q; exact ⟨q0, qP, va_K.moved (u := U) (U := U.calling g mk a) (Vm.Alike.refl U.vm) qK, nzA_same (u := U) (U := U.calling g mk a) rfl qZ⟩, fun U hU hW => ⟨rfl, by rw [hU]; exact hPc, va_K.moved hW.alike hKc, nzA_warm hW hz⟩⟩ rfl rfl hl.1 rfl (lv_room (Nat.le_of_ble_eq_true rfl)) dX3_beginsInto_86 ⟨hRc, hRs⟩) hS (fun q _ h => h.elim) (fun q h => h.elim) (fun r_1077 u t H1 locs ht hvm hw hB hz1 hk1 hS => ?_)
          have hP := gz_keep hP hk1
          generalize H1 = H at hP hS ⊢
          refine va_iast hx hb hK hP hD hS 3 2 rfl rfl (gi_in gx_1075 (by decide)) dX3_beginsInto_89 (fun H locs hP hD hS => ?_)
          have hP : va_P (dC, dI) vwCl [(h0, .inr (3, [.int months, .int full, .int lean, .ref al, .ref on])), (al, .inl (kal, 25, .inl fal)), (on, .inl (kon, 275, .inl fon)), (bg, .inl (kbg, 25, .inl (upd z3 (x_1075 : Int32).toNatClampNeg r_1077)))] H := hP
          have hD : va_D A [(h0, .inr (3, [.int months, .int full, .int lean, .ref al, .ref on])), (al, .inl (kal, 25, .inl fal)), (on, .inl (kon, 275, .inl fon)), (bg, .inl (kbg, 25, .inl (upd z3 (x_1075 : Int32).toNatClampNeg r_1077)))] := hD
          generalize upd z3 (x_1075 : Int32).toNatClampNeg r_1077 = f_1078 at hP hD
          obtain ⟨x_1079, ex_1079⟩ : ∃ y : Int32, y = v4 + 1 := ⟨_, rfl⟩
          have gx_1079 : gi x_1079 1 24 := gi_add ex_1079 g_1055 (gi_c 1 1 (by decide)) (by decide)
          refine lv_iinc (v := x_1079) (lv' := [(4, .int x_1079), (2, .int x_1074), (3, .int r_1057), (5, .int r_1057), (0, .ref h0), (1, .ref bg)]) hx hb dX3_beginsInto_90 hl (k := 5) rfl (by rw [ex_1079]; rfl) (by decide) rfl (fun ls hl => ?_)
          refine lv_goto (tgt := 11) hx hb dX3_beginsInto_93 (by decide) ?_
          exact ih x_1074 r_1057 x_1079 f_1078 _ _ _ (gi_w gr_1057 (by decide)) (gi_w gx_1079 (by decide)) (by have av4 := gv4.1; have bv4 := gv4.2; have qgx_1079 := gx_1079.1; have rgx_1079 := gx_1079.2; have igx_1079 : x_1079.toInt = v4.toInt + 1 := (by have hc1 : (1 : Int32).toInt = 1 := (by decide); have h9 := gi_addI ex_1079 (by have h1 := g_1055.1; have h2 := (gi_c 1 1 (by decide)).1; have h3 := g_1055.2; have h4 := (gi_c 1 1 (by decide)).2; omega) (by have h1 := g_1055.1; have h2 := (gi_c 1 1 (by decide)).1; have h3 := g_1055.2; have h4 := (gi_c 1 1 (by decide)).2; omega); rw [hc1] at h9; exact h9); have qgv4 := g_1055.1; have rgv4 := g_1055.2; omega) hP hD hS (lv_sub hl [4, 5, 1, 2, 0] rfl)
set_option maxHeartbeats 4000000 in
set_option maxRecDepth 100000 in
theorem sX3_beginsInto (l : Launch) (dC : Nat → ClassId) (dI : Nat → Nat → Nat) (sz : Nat) (h0 : Nat) (al : Nat) (on : Nat) (bg : Nat) (months : Int32) (full : Int32) (lean : Int32) (kal : ClassId) (fal : Nat → Int32) (kon : ClassId) (fon : Nat → Int32) (kbg : ClassId) (fbg : Nat → Int32) (gmonths : gi months 0 24) (gfull : gi full 0 5) (glean : gi lean 0 5) : Met l yX3_beginsInto (.code yX3_beginsInto cX3_beginsInto 6 none :: wsGA) ({ frames := 1, cells := 0, slots := 0, locals := 22 }) (va_Pc [.ref h0, .ref bg] (fun U => U.heap.size = sz ∧ va_P (dC, dI) vwCl [(h0, .inr (3, [.int months, .int full, .int lean, .ref al, .ref on])), (al, .inl (kal, 25, .inl fal)), (on, .inl (kon, 275, .inl fon)), (bg, .inl (kbg, 25, .inl fbg))] U.heap ∧ va_K (dC, dI) vwCl [(kal, .int), (kon, .int), (kbg, .int)] U ∧ va_D (fun _ => True) [(h0, .inr (3, [.int months, .int full, .int lean, .ref al, .ref on])), (al, .inl (kal, 25, .inl fal)), (on, .inl (kon, 275, .inl fon)), (bg, .inl (kbg, 25, .inl fbg))] ∧ nzA U)) (va_Qv (fun (u : Unit) => True) (fun _ t => ∃ (z3 : Nat → Int32), va_P (dC, dI) vwCl [(h0, .inr (3, [.int months, .int full, .int lean, .ref al, .ref on])), (al, .inl (kal, 25, .inl fal)), (on, .inl (kon, 275, .inl fon)), (bg, .inl (kbg, 25, .inl z3))] t.heap ∧ va_D (va_A [(h0, .inr (3, [.int months, .int full, .int lean, .ref al, .ref on])), (al, .inl (kal, 25, .inl fal)), (on, .inl (kon, 275, .inl fon)), (bg, .inl (kbg, 25, .inl fbg))] sz) [(h0, .inr (3, [.int months, .int full, .int lean, .ref al, .ref on])), (al, .inl (kal, 25, .inl fal)), (on, .inl (kon, 275, .inl fon)), (bg, .inl (kbg, 25, .inl z3))]) (va_A [(h0, .inr (3, [.int months, .int full, .int lean, .ref al, .ref on])), (al, .inl (kal, 25, .inl fal)), (on, .inl (kon, 275, .inl fon)), (bg, .inl (kbg, 25, .inl fbg))] sz)) 0 0 (va_A [(h0, .inr (3, [.int months, .int full, .int lean, .ref al, .ref on])), (al, .inl (kal, 25, .inl fal)), (on, .inl (kon, 275, .inl fon)), (bg, .inl (kbg, 25, .inl fbg))] sz) := by
  refine Met.ofW (cc := cX3_beginsInto) (maxL := 6) (ret := none) (by decide) rfl ?_
  intro p e s m args below meth c s₁ B hml hv
  obtain ⟨rfl, hsz, hP, hK, hD0, hz⟩ := hv
  have hx := B.exec
  have hb := B.bytes
  have hr := B.returns
  have hts := atoms_spec (ws := (.code yX3_beginsInto cX3_beginsInto 6 none :: wsGA)) B.pre
  have hown : s.vm.findClass RX3 = some m.cls := findClass_of_methodNamed B.named
  have hlocks := B.notSynchronized
  subst hsz
  have hD := hD0.self (sz := s.heap.size)
  generalize hAe : va_A [(h0, .inr (3, [.int months, .int full, .int lean, .ref al, .ref on])), (al, .inl (kal, 25, .inl fal)), (on, .inl (kon, 275, .inl fon)), (bg, .inl (kbg, 25, .inl fbg))] s.heap.size = A at hD ⊢
  have hA : ∀ q : Nat, s.heap.size ≤ q → A q := fun q h => by rw [← hAe]; exact Or.inr h
  have hS : va_S A s.heap s.heap [] := va_S.rf
  have hl := lv_entry ([.ref h0, .ref bg]) (n := 6) (Nat.le_of_ble_eq_true rfl)
  rw [lg_entry_eq]
  generalize (lg_sl ([.ref h0, .ref bg]) ++ List.replicate (6 - (lg_sl ([.ref h0, .ref bg])).length) Slot.unset).toArray = ls at hl ⊢
  have hl : lv_has ls 6 [(0, .ref h0), (1, .ref bg)] := hl
  refine lv_iconst (v := 0) hx hb dX3_beginsInto_0 (by decide) ?_
  refine lv_istore_n (lv' := [(2, .int 0), (0, .ref h0), (1, .ref bg)]) hx hb dX3_beginsInto_1 rfl hl (by decide) rfl (fun ls hl => ?_)
  refine lv_iconst (v := 0) hx hb dX3_beginsInto_2 (by decide) ?_
  refine lv_istore_n (lv' := [(3, .int 0), (2, .int 0), (0, .ref h0), (1, .ref bg)]) hx hb dX3_beginsInto_3 rfl hl (by decide) rfl (fun ls hl => ?_)
  refine lv_aload_n hx hb dX3_beginsInto_4 rfl (lv_at hl 3 rfl) ?_
  refine lv_iconst (v := 0) hx hb dX3_beginsInto_5 (by decide) ?_
  refine lv_iconst (v := 0) hx hb dX3_beginsInto_6 (by decide) ?_
  refine va_iast hx hb hK hP hD hS 3 2 rfl rfl (gi_in (gi_c 0 0 (by decide)) (by decide)) dX3_beginsInto_7 (fun H locs hP hD hS => ?_)
  have hP : va_P (dC, dI) vwCl [(h0, .inr (3, [.int months, .int full, .int lean, .ref al, .ref on])), (al, .inl (kal, 25, .inl fal)), (on, .inl (kon, 275, .inl fon)), (bg, .inl (kbg, 25, .inl (upd fbg (0 : Int32).toNatClampNeg 0)))] H := hP
  have hD : va_D A [(h0, .inr (3, [.int months, .int full, .int lean, .ref al, .ref on])), (al, .inl (kal, 25, .inl fal)), (on, .inl (kon, 275, .inl fon)), (bg, .inl (kbg, 25, .inl (upd fbg (0 : Int32).toNatClampNeg 0)))] := hD
  generalize upd fbg (0 : Int32).toNatClampNeg 0 = f_1080 at hP hD
  refine lv_iconst (v := 0) hx hb dX3_beginsInto_8 (by decide) ?_
  refine lv_istore (lv' := [(4, .int 0), (3, .int 0), (2, .int 0), (0, .ref h0), (1, .ref bg)]) hx hb dX3_beginsInto_9 hl (by decide) rfl (fun ls hl => ?_)
  refine (lp_sX3_beginsInto h0 al on bg months full lean kal fal kon fon kbg fbg gmonths gfull glean hx hb hml hown hts hK hz hA (Nat.le_of_ble_eq_true rfl) (Nat.le_of_ble_eq_true rfl) (Nat.zero_le _) (Nat.zero_le _) (fun z3 H locs ls hP hD hS hl => ?_) 62) 0 0 0 f_1080 _ _ _ (gi_w (gi_c 0 0 (by decide)) (by decide)) (gi_w (gi_c 0 0 (by decide)) (by decide)) (by have k0 : (0 : Int32).toInt = 0 := (by decide); omega) hP hD hS (lv_sub hl [3, 4, 2, 1, 0] rfl)
  · skip
    exact W.vret hx hb hr (fun t ht hW => ⟨⟨(), rfl, trivial, z3, by rw [ht]; exact hP, hD⟩, hS.F ht⟩) hS.2.2 dX3_beginsInto_96
theorem dX3_open_0 : decode cX3_open 0 = .ok (.aload_n 0, 1) := by decide +kernel
theorem dX3_open_1 : decode cX3_open 1 = .ok (.aload_n 1, 1) := by decide +kernel
theorem dX3_open_2 : decode cX3_open 2 = .ok (.getfield 18, 3) := by decide +kernel
theorem dX3_open_5 : decode cX3_open 5 = .ok (.putfield 24, 3) := by decide +kernel
theorem dX3_open_8 : decode cX3_open 8 = .ok (.aload_n 0, 1) := by decide +kernel
theorem dX3_open_9 : decode cX3_open 9 = .ok (.aload_n 1, 1) := by decide +kernel
theorem dX3_open_10 : decode cX3_open 10 = .ok (.getfield 25, 3) := by decide +kernel
theorem dX3_open_13 : decode cX3_open 13 = .ok (.putfield 28, 3) := by decide +kernel
theorem dX3_open_16 : decode cX3_open 16 = .ok (.aload_n 0, 1) := by decide +kernel
theorem dX3_open_17 : decode cX3_open 17 = .ok (.aload_n 1, 1) := by decide +kernel
theorem dX3_open_18 : decode cX3_open 18 = .ok (.getfield 29, 3) := by decide +kernel
theorem dX3_open_21 : decode cX3_open 21 = .ok (.putfield 32, 3) := by decide +kernel
theorem dX3_open_24 : decode cX3_open 24 = .ok (.iconst 0, 1) := by decide +kernel
theorem dX3_open_25 : decode cX3_open 25 = .ok (.istore_n 2, 1) := by decide +kernel
theorem dX3_open_26 : decode cX3_open 26 = .ok (.iload_n 2, 1) := by decide +kernel
theorem dX3_open_27 : decode cX3_open 27 = .ok (.aload_n 0, 1) := by decide +kernel
theorem dX3_open_28 : decode cX3_open 28 = .ok (.getfield 24, 3) := by decide +kernel
theorem dX3_open_31 : decode cX3_open 31 = .ok (.if_icmp .gt 20, 3) := by decide +kernel
theorem dX3_open_34 : decode cX3_open 34 = .ok (.aload_n 0, 1) := by decide +kernel
theorem dX3_open_35 : decode cX3_open 35 = .ok (.getfield 9, 3) := by decide +kernel
theorem dX3_open_38 : decode cX3_open 38 = .ok (.iload_n 2, 1) := by decide +kernel
theorem dX3_open_39 : decode cX3_open 39 = .ok (.iconst 2, 1) := by decide +kernel
theorem dX3_open_40 : decode cX3_open 40 = .ok (.iload_n 2, 1) := by decide +kernel
theorem dX3_open_41 : decode cX3_open 41 = .ok (.ishl, 1) := by decide +kernel
theorem dX3_open_42 : decode cX3_open 42 = .ok (.iconst 1, 1) := by decide +kernel
theorem dX3_open_43 : decode cX3_open 43 = .ok (.isub, 1) := by decide +kernel
theorem dX3_open_44 : decode cX3_open 44 = .ok (.iastore, 1) := by decide +kernel
theorem dX3_open_45 : decode cX3_open 45 = .ok (.iinc 2 1, 3) := by decide +kernel
theorem dX3_open_48 : decode cX3_open 48 = .ok (.goto (-22), 3) := by decide +kernel
theorem dX3_open_51 : decode cX3_open 51 = .ok (.return_, 1) := by decide +kernel
set_option maxHeartbeats 4000000 in
set_option maxRecDepth 100000 in
theorem lp_sX3_open {p : Program} {l : Launch} {e : Env} {R : Room} {s : State} {m : MethodId} {args : Array Value} {below : List Frame} {meth : Method} {c : Code} {Q : State → Prop} {A : Nat → Prop} {cells slots : Nat} {dC : Nat → ClassId} {dI : Nat → Nat → Nat} (h0 : Nat) (al : Nat) (am : Nat) (months : Int32) (full : Int32) (lean : Int32) (on : Nat) (kal : ClassId) (fal : Nat → Int32) (amonths : Int32) (afull : Int32) (alean : Int32) (alines : Int32) (ahasMoon : Int32) (amoonStart : Int32) (amoonStep : Int32) (aplaceCount : Int32) (areportCount : Int32) (adeedCount : Int32) (aplaces : Nat) (areports : Nat) (adeeds : Nat) (gmonths : gi months 0 24) (gfull : gi full 0 5) (glean : gi lean 0 5) (gamonths : gi amonths 0 24) (gafull : gi afull 0 5) (galean : gi alean 0 5) (gahasMoon : gi ahasMoon 0 1) (gaplaceCount : gi aplaceCount 0 6) (gareportCount : gi areportCount 0 24) (gadeedCount : gi adeedCount 0 8) (hx : p.tables.exec = Jvm.exec) (hb : c.code = cX3_open) (hml : c.maxLocals = 3) (hown : s.vm.findClass RX3 = some m.cls) (hts : ∀ w ∈ ((.code yX3_open cX3_open 3 none :: wsGA) : List Cond), w.before args s = true) (hK : va_K (dC, dI) vwCl [(kal, .int)] s) (hz : nzA s) (hR : va_P (dC, dI) vwCl [(am, .inr (0, [.int amonths, .int afull, .int alean, .int alines, .int ahasMoon, .int amoonStart, .int amoonStep, .int aplaceCount, .int areportCount, .int adeedCount, .ref aplaces, .ref areports, .ref adeeds]))] s.heap) (hRA : gz_ap A [(am, .inr (0, [.int amonths, .int afull, .int alean, .int alines, .int ahasMoon, .int amoonStart, .int amoonStep, .int aplaceCount, .int areportCount, .int adeedCount, .ref aplaces, .ref areports, .ref adeeds]))]) (hA : ∀ q : Nat, s.heap.size ≤ q → A q) (hRf : 0 ≤ R.frames) (hRl : 0 ≤ R.locals) (hRc : cells ≤ R.cells) (hRs : slots ≤ R.slots) (kr51 : ∀ (w0_0 : Int32) (w0_1 : Int32) (w0_2 : Int32) (z1 : Nat → Int32) (H : Heap) (locs : List Loc) (ls : Array Slot), gi w0_0 0 24 → gi w0_1 0 5 → gi w0_2 0 5 → va_P (dC, dI) vwCl [(h0, .inr (3, [.int w0_0, .int w0_1, .int w0_2, .ref al, .ref on])), (al, .inl (kal, 25, .inl z1))] H → va_D A [(h0, .inr (3, [.int w0_0, .int w0_1, .int w0_2, .ref al, .ref on])), (al, .inl (kal, 25, .inl z1))] → va_S A s.heap H locs → lv_has ls 3 [] → W p l e R s m args below meth c H locs cells slots Q (F0 m 51 ls [])) : ∀ z : Nat, (∀ (v2 : Int32) (w0_0 : Int32) (w0_1 : Int32) (w0_2 : Int32) (z1 : Nat → Int32) (H : Heap) (locs : List Loc) (ls : Array Slot), gi v2 0 25 → gi w0_0 0 24 → gi w0_1 0 5 → gi w0_2 0 5 → 51 + (-2) * v2.toInt < (z : Int) → va_P (dC, dI) vwCl [(h0, .inr (3, [.int w0_0, .int w0_1, .int w0_2, .ref al, .ref on])), (al, .inl (kal, 25, .inl z1))] H → va_D A [(h0, .inr (3, [.int w0_0, .int w0_1, .int w0_2, .ref al, .ref on])), (al, .inl (kal, 25, .inl z1))] → va_S A s.heap H locs → lv_has ls 3 [(0, .ref h0), (1, .ref am), (2, .int v2)] → W p l e R s m args below meth c H locs cells slots Q (F0 m 26 ls [])) := by
  intro z
  induction z with
  | zero =>
    intro v2 w0_0 w0_1 w0_2 z1 H locs ls gv2 gw0_0 gw0_1 gw0_2 hmu hP hD hS hl
    exact absurd hmu (by have hv21 := gv2.1; have hv22 := gv2.2; omega)
  | succ z ih =>
      intro v2 w0_0 w0_1 w0_2 z1 H locs ls gv2 gw0_0 gw0_1 gw0_2 hmu hP hD hS hl
      refine lv_iload_n hx hb dX3_open_26 rfl (lv_at hl 2 rfl) ?_
      refine lv_aload_n hx hb dX3_open_27 rfl (lv_at hl 0 rfl) ?_
      refine va_get (D := (dC, dI)) (ci := 3) (v := .int w0_0) (C := RX3) (T := TX3) (N := 5) hx hb hts (fun w h => List.mem_cons_of_mem _ (jnGA_X3 w h)) hown hK hP 0 rfl rfl 0 (by decide) (hts _ (List.mem_cons_of_mem _ mGA_477)) (fun _ h9 => h9) rfl dX3_open_28 ?_
      refine lv_icmp_gt (tgt := 51) hx hb dX3_open_31 (by decide) (fun c_111 => ?_) (fun c_111 => ?_)
      · have g_112 : gi v2 1 25 := gi_lt_r c_111 gw0_0 gv2 (by decide)
        exact kr51 w0_0 w0_1 w0_2 z1 _ _ _ gw0_0 gw0_1 gw0_2 hP hD hS (lv_sub hl [] rfl)
      · have g_113 : gi v2 0 24 := gi_le_l (Int32.not_lt.mp c_111) gv2 gw0_0
        refine lv_aload_n hx hb dX3_open_34 rfl (lv_at hl 0 rfl) ?_
        refine va_get (D := (dC, dI)) (ci := 3) (v := .ref al) (C := RX3) (T := TX3) (N := 5) hx hb hts (fun w h => List.mem_cons_of_mem _ (jnGA_X3 w h)) hown hK hP 0 rfl rfl 3 (by decide) (hts _ (List.mem_cons_of_mem _ mGA_94)) (fun _ h9 => h9) rfl dX3_open_35 ?_
        refine lv_iload_n hx hb dX3_open_38 rfl (lv_at hl 2 rfl) ?_
        refine lv_iconst (v := 2) hx hb dX3_open_39 (by decide) ?_
        refine lv_iload_n hx hb dX3_open_40 rfl (lv_at hl 2 rfl) ?_
        refine lv_ishl hx hb dX3_open_41 ?_
        refine lv_topi (fun x_114 ex_114 => ?_)
        refine lv_iconst (v := 1) hx hb dX3_open_42 (by decide) ?_
        refine lv_isub hx hb dX3_open_43 ?_
        refine lv_topi (fun x_115 ex_115 => ?_)
        refine va_iast hx hb hK hP hD hS 1 0 rfl rfl (gi_in g_113 (by decide)) dX3_open_44 (fun H locs hP hD hS => ?_)
        have hP : va_P (dC, dI) vwCl [(h0, .inr (3, [.int w0_0, .int w0_1, .int w0_2, .ref al, .ref on])), (al, .inl (kal, 25, .inl (upd z1 (v2 : Int32).toNatClampNeg x_115)))] H := hP
        have hD : va_D A [(h0, .inr (3, [.int w0_0, .int w0_1, .int w0_2, .ref al, .ref on])), (al, .inl (kal, 25, .inl (upd z1 (v2 : Int32).toNatClampNeg x_115)))] := hD
        generalize upd z1 (v2 : Int32).toNatClampNeg x_115 = f_116 at hP hD
        obtain ⟨x_117, ex_117⟩ : ∃ y : Int32, y = v2 + 1 := ⟨_, rfl⟩
        have gx_117 : gi x_117 1 25 := gi_add ex_117 g_113 (gi_c 1 1 (by decide)) (by decide)
        refine lv_iinc (v := x_117) (lv' := [(2, .int x_117), (0, .ref h0), (1, .ref am)]) hx hb dX3_open_45 hl (k := 2) rfl (by rw [ex_117]; rfl) (by decide) rfl (fun ls hl => ?_)
        refine lv_goto (tgt := 26) hx hb dX3_open_48 (by decide) ?_
        exact ih x_117 w0_0 w0_1 w0_2 f_116 _ _ _ (gi_w gx_117 (by decide)) gw0_0 gw0_1 gw0_2 (by have av2 := gv2.1; have bv2 := gv2.2; have qgx_117 := gx_117.1; have rgx_117 := gx_117.2; have igx_117 : x_117.toInt = v2.toInt + 1 := (by have hc1 : (1 : Int32).toInt = 1 := (by decide); have h9 := gi_addI ex_117 (by have h1 := g_113.1; have h2 := (gi_c 1 1 (by decide)).1; have h3 := g_113.2; have h4 := (gi_c 1 1 (by decide)).2; omega) (by have h1 := g_113.1; have h2 := (gi_c 1 1 (by decide)).1; have h3 := g_113.2; have h4 := (gi_c 1 1 (by decide)).2; omega); rw [hc1] at h9; exact h9); have qgv2 := g_113.1; have rgv2 := g_113.2; omega) hP hD hS (lv_sub hl [1, 2, 0] rfl)
set_option maxHeartbeats 4000000 in
set_option maxRecDepth 100000 in
theorem sX3_open (l : Launch) (dC : Nat → ClassId) (dI : Nat → Nat → Nat) (sz : Nat) (h0 : Nat) (al : Nat) (am : Nat) (months : Int32) (full : Int32) (lean : Int32) (on : Nat) (kal : ClassId) (fal : Nat → Int32) (amonths : Int32) (afull : Int32) (alean : Int32) (alines : Int32) (ahasMoon : Int32) (amoonStart : Int32) (amoonStep : Int32) (aplaceCount : Int32) (areportCount : Int32) (adeedCount : Int32) (aplaces : Nat) (areports : Nat) (adeeds : Nat) (gmonths : gi months 0 24) (gfull : gi full 0 5) (glean : gi lean 0 5) (gamonths : gi amonths 0 24) (gafull : gi afull 0 5) (galean : gi alean 0 5) (gahasMoon : gi ahasMoon 0 1) (gaplaceCount : gi aplaceCount 0 6) (gareportCount : gi areportCount 0 24) (gadeedCount : gi adeedCount 0 8) : Met l yX3_open (.code yX3_open cX3_open 3 none :: wsGA) ({ frames := 0, cells := 0, slots := 0, locals := 0 }) (va_Pc [.ref h0, .ref am] (fun U => U.heap.size = sz ∧ va_P (dC, dI) vwCl [(h0, .inr (3, [.int months, .int full, .int lean, .ref al, .ref on])), (al, .inl (kal, 25, .inl fal))] U.heap ∧ va_K (dC, dI) vwCl [(kal, .int)] U ∧ va_D (fun _ => True) [(h0, .inr (3, [.int months, .int full, .int lean, .ref al, .ref on])), (al, .inl (kal, 25, .inl fal))] ∧ nzA U ∧ va_P (dC, dI) vwCl [(am, .inr (0, [.int amonths, .int afull, .int alean, .int alines, .int ahasMoon, .int amoonStart, .int amoonStep, .int aplaceCount, .int areportCount, .int adeedCount, .ref aplaces, .ref areports, .ref adeeds]))] U.heap ∧ gz_ap (va_A [(h0, .inr (3, [.int months, .int full, .int lean, .ref al, .ref on])), (al, .inl (kal, 25, .inl fal))] sz) [(am, .inr (0, [.int amonths, .int afull, .int alean, .int alines, .int ahasMoon, .int amoonStart, .int amoonStep, .int aplaceCount, .int areportCount, .int adeedCount, .ref aplaces, .ref areports, .ref adeeds]))])) (va_Qv (fun (u : Unit) => True) (fun _ t => ∃ (w0_0 : Int32) (w0_1 : Int32) (w0_2 : Int32) (z1 : Nat → Int32), gi w0_0 0 24 ∧ gi w0_1 0 5 ∧ gi w0_2 0 5 ∧ va_P (dC, dI) vwCl [(h0, .inr (3, [.int w0_0, .int w0_1, .int w0_2, .ref al, .ref on])), (al, .inl (kal, 25, .inl z1))] t.heap ∧ va_D (va_A [(h0, .inr (3, [.int months, .int full, .int lean, .ref al, .ref on])), (al, .inl (kal, 25, .inl fal))] sz) [(h0, .inr (3, [.int w0_0, .int w0_1, .int w0_2, .ref al, .ref on])), (al, .inl (kal, 25, .inl z1))]) (va_A [(h0, .inr (3, [.int months, .int full, .int lean, .ref al, .ref on])), (al, .inl (kal, 25, .inl fal))] sz)) 0 0 (va_A [(h0, .inr (3, [.int months, .int full, .int lean, .ref al, .ref on])), (al, .inl (kal, 25, .inl fal))] sz) := by
  refine Met.ofW (cc := cX3_open) (maxL := 3) (ret := none) (by decide) rfl ?_
  intro p e s m args below meth c s₁ B hml hv
  obtain ⟨rfl, hsz, hP, hK, hD0, hz, hR, hRA⟩ := hv
  have hx := B.exec
  have hb := B.bytes
  have hr := B.returns
  have hts := atoms_spec (ws := (.code yX3_open cX3_open 3 none :: wsGA)) B.pre
  have hown : s.vm.findClass RX3 = some m.cls := findClass_of_methodNamed B.named
  have hlocks := B.notSynchronized
  subst hsz
  have hD := hD0.self (sz := s.heap.size)
  generalize hAe : va_A [(h0, .inr (3, [.int months, .int full, .int lean, .ref al, .ref on])), (al, .inl (kal, 25, .inl fal))] s.heap.size = A at hD hRA ⊢
  have hA : ∀ q : Nat, s.heap.size ≤ q → A q := fun q h => by rw [← hAe]; exact Or.inr h
  have hS : va_S A s.heap s.heap [] := va_S.rf
  have hl := lv_entry ([.ref h0, .ref am]) (n := 3) (Nat.le_of_ble_eq_true rfl)
  rw [lg_entry_eq]
  generalize (lg_sl ([.ref h0, .ref am]) ++ List.replicate (3 - (lg_sl ([.ref h0, .ref am])).length) Slot.unset).toArray = ls at hl ⊢
  have hl : lv_has ls 3 [(0, .ref h0), (1, .ref am)] := hl
  refine lv_aload_n hx hb dX3_open_0 rfl (lv_at hl 0 rfl) ?_
  refine lv_aload_n hx hb dX3_open_1 rfl (lv_at hl 1 rfl) ?_
  refine va_get (D := (dC, dI)) (ci := 0) (v := .int amonths) (C := RX0) (T := TX0) (N := 13) hx hb hts (fun w h => List.mem_cons_of_mem _ (jnGA_X0 w h)) hown hK (gz_ro hR hRA hS) 0 rfl rfl 0 (by decide) (hts _ (List.mem_cons_of_mem _ mGA_476)) (fun _ h9 => h9) rfl dX3_open_2 ?_
  refine va_put (D := (dC, dI)) (ci := 3) (v := .int amonths) (ty := .int) (C := RX3) (T := TX3) (N := 5) hx hb hts (fun w h => List.mem_cons_of_mem _ (jnGA_X3 w h)) tyX3 tyX3_ok nmX3 hown hK hP hD hS 0 rfl rfl 0 (by decide) (hts _ (List.mem_cons_of_mem _ mGA_477)) (fun _ h9 => h9) rfl (by decide +kernel) rfl rfl (Nat.le_of_ble_eq_true rfl) dX3_open_5 (fun H locs hP hD hS => ?_)
  have hP : va_P (dC, dI) vwCl [(h0, .inr (3, [.int amonths, .int full, .int lean, .ref al, .ref on])), (al, .inl (kal, 25, .inl fal))] H := hP
  have hD : va_D A [(h0, .inr (3, [.int amonths, .int full, .int lean, .ref al, .ref on])), (al, .inl (kal, 25, .inl fal))] := hD
  refine lv_aload_n hx hb dX3_open_8 rfl (lv_at hl 0 rfl) ?_
  refine lv_aload_n hx hb dX3_open_9 rfl (lv_at hl 1 rfl) ?_
  refine va_get (D := (dC, dI)) (ci := 0) (v := .int afull) (C := RX0) (T := TX0) (N := 13) hx hb hts (fun w h => List.mem_cons_of_mem _ (jnGA_X0 w h)) hown hK (gz_ro hR hRA hS) 0 rfl rfl 1 (by decide) (hts _ (List.mem_cons_of_mem _ mGA_478)) (fun _ h9 => h9) rfl dX3_open_10 ?_
  refine va_put (D := (dC, dI)) (ci := 3) (v := .int afull) (ty := .int) (C := RX3) (T := TX3) (N := 5) hx hb hts (fun w h => List.mem_cons_of_mem _ (jnGA_X3 w h)) tyX3 tyX3_ok nmX3 hown hK hP hD hS 0 rfl rfl 1 (by decide) (hts _ (List.mem_cons_of_mem _ mGA_479)) (fun _ h9 => h9) rfl (by decide +kernel) rfl rfl (Nat.le_of_ble_eq_true rfl) dX3_open_13 (fun H locs hP hD hS => ?_)
  have hP : va_P (dC, dI) vwCl [(h0, .inr (3, [.int amonths, .int afull, .int lean, .ref al, .ref on])), (al, .inl (kal, 25, .inl fal))] H := hP
  have hD : va_D A [(h0, .inr (3, [.int amonths, .int afull, .int lean, .ref al, .ref on])), (al, .inl (kal, 25, .inl fal))] := hD
  refine lv_aload_n hx hb dX3_open_16 rfl (lv_at hl 0 rfl) ?_
  refine lv_aload_n hx hb dX3_open_17 rfl (lv_at hl 1 rfl) ?_
  refine va_get (D := (dC, dI)) (ci := 0) (v := .int alean) (C := RX0) (T := TX0) (N := 13) hx hb hts (fun w h => List.mem_cons_of_mem _ (jnGA_X0 w h)) hown hK (gz_ro hR hRA hS) 0 rfl rfl 2 (by decide) (hts _ (List.mem_cons_of_mem _ mGA_480)) (fun _ h9 => h9) rfl dX3_open_18 ?_
  refine va_put (D := (dC, dI)) (ci := 3) (v := .int alean) (ty := .int) (C := RX3) (T := TX3) (N := 5) hx hb hts (fun w h => List.mem_cons_of_mem _ (jnGA_X3 w h)) tyX3 tyX3_ok nmX3 hown hK hP hD hS 0 rfl rfl 2 (by decide) (hts _ (List.mem_cons_of_mem _ mGA_481)) (fun _ h9 => h9) rfl (by decide +kernel) rfl rfl (Nat.le_of_ble_eq_true rfl) dX3_open_21 (fun H locs hP hD hS => ?_)
  have hP : va_P (dC, dI) vwCl [(h0, .inr (3, [.int amonths, .int afull, .int alean, .ref al, .ref on])), (al, .inl (kal, 25, .inl fal))] H := hP
  have hD : va_D A [(h0, .inr (3, [.int amonths, .int afull, .int alean, .ref al, .ref on])), (al, .inl (kal, 25, .inl fal))] := hD
  refine lv_iconst (v := 0) hx hb dX3_open_24 (by decide) ?_
  refine lv_istore_n (lv' := [(2, .int 0), (0, .ref h0), (1, .ref am)]) hx hb dX3_open_25 rfl hl (by decide) rfl (fun ls hl => ?_)
  refine (lp_sX3_open h0 al am months full lean on kal fal amonths afull alean alines ahasMoon amoonStart amoonStep aplaceCount areportCount adeedCount aplaces areports adeeds gmonths gfull glean gamonths gafull galean gahasMoon gaplaceCount gareportCount gadeedCount hx hb hml hown hts hK hz hR hRA hA (Nat.le_of_ble_eq_true rfl) (Nat.le_of_ble_eq_true rfl) (Nat.zero_le _) (Nat.zero_le _) (fun w0_0 w0_1 w0_2 z1 H locs ls gw0_0 gw0_1 gw0_2 hP hD hS hl => ?_) 64) 0 amonths afull alean fal _ _ _ (gi_w (gi_c 0 0 (by decide)) (by decide)) gamonths gafull galean (by have k0 : (0 : Int32).toInt = 0 := (by decide); omega) hP hD hS (lv_sub hl [1, 2, 0] rfl)
  · skip
    exact W.vret hx hb hr (fun t ht hW => ⟨⟨(), rfl, trivial, w0_0, w0_1, w0_2, z1, gw0_0, gw0_1, gw0_2, by rw [ht]; exact hP, hD⟩, hS.F ht⟩) hS.2.2 dX3_open_51
theorem dX3_rightFor_0 : decode cX3_rightFor 0 = .ok (.iconst 2, 1) := by decide +kernel
theorem dX3_rightFor_1 : decode cX3_rightFor 1 = .ok (.aload_n 0, 1) := by decide +kernel
theorem dX3_rightFor_2 : decode cX3_rightFor 2 = .ok (.getfield 33, 3) := by decide +kernel
theorem dX3_rightFor_5 : decode cX3_rightFor 5 = .ok (.ishl, 1) := by decide +kernel
theorem dX3_rightFor_6 : decode cX3_rightFor 6 = .ok (.iconst 1, 1) := by decide +kernel
theorem dX3_rightFor_7 : decode cX3_rightFor 7 = .ok (.isub, 1) := by decide +kernel
theorem dX3_rightFor_8 : decode cX3_rightFor 8 = .ok (.istore_n 1, 1) := by decide +kernel
theorem dX3_rightFor_9 : decode cX3_rightFor 9 = .ok (.aload_n 0, 1) := by decide +kernel
theorem dX3_rightFor_10 : decode cX3_rightFor 10 = .ok (.getfield 38, 3) := by decide +kernel
theorem dX3_rightFor_13 : decode cX3_rightFor 13 = .ok (.iconst 1, 1) := by decide +kernel
theorem dX3_rightFor_14 : decode cX3_rightFor 14 = .ok (.iadd, 1) := by decide +kernel
theorem dX3_rightFor_15 : decode cX3_rightFor 15 = .ok (.bipush 29, 2) := by decide +kernel
theorem dX3_rightFor_17 : decode cX3_rightFor 17 = .ok (.aload_n 0, 1) := by decide +kernel
theorem dX3_rightFor_18 : decode cX3_rightFor 18 = .ok (.getfield 33, 3) := by decide +kernel
theorem dX3_rightFor_21 : decode cX3_rightFor 21 = .ok (.imul, 1) := by decide +kernel
theorem dX3_rightFor_22 : decode cX3_rightFor 22 = .ok (.isub, 1) := by decide +kernel
theorem dX3_rightFor_23 : decode cX3_rightFor 23 = .ok (.istore_n 2, 1) := by decide +kernel
theorem dX3_rightFor_24 : decode cX3_rightFor 24 = .ok (.aload_n 0, 1) := by decide +kernel
theorem dX3_rightFor_25 : decode cX3_rightFor 25 = .ok (.getfield 41, 3) := by decide +kernel
theorem dX3_rightFor_28 : decode cX3_rightFor 28 = .ok (.iconst 2, 1) := by decide +kernel
theorem dX3_rightFor_29 : decode cX3_rightFor 29 = .ok (.if_icmp .eq 15, 3) := by decide +kernel
theorem dX3_rightFor_32 : decode cX3_rightFor 32 = .ok (.aload_n 0, 1) := by decide +kernel
theorem dX3_rightFor_33 : decode cX3_rightFor 33 = .ok (.getfield 41, 3) := by decide +kernel
theorem dX3_rightFor_36 : decode cX3_rightFor 36 = .ok (.iconst 1, 1) := by decide +kernel
theorem dX3_rightFor_37 : decode cX3_rightFor 37 = .ok (.if_icmp .ne 9, 3) := by decide +kernel
theorem dX3_rightFor_40 : decode cX3_rightFor 40 = .ok (.iload_n 2, 1) := by decide +kernel
theorem dX3_rightFor_41 : decode cX3_rightFor 41 = .ok (.ifCond .ge 5, 3) := by decide +kernel
theorem dX3_rightFor_44 : decode cX3_rightFor 44 = .ok (.iload_n 1, 1) := by decide +kernel
theorem dX3_rightFor_45 : decode cX3_rightFor 45 = .ok (.ireturn, 1) := by decide +kernel
theorem dX3_rightFor_46 : decode cX3_rightFor 46 = .ok (.iload_n 2, 1) := by decide +kernel
theorem dX3_rightFor_47 : decode cX3_rightFor 47 = .ok (.ifCond .lt 11, 3) := by decide +kernel
theorem dX3_rightFor_50 : decode cX3_rightFor 50 = .ok (.iload_n 2, 1) := by decide +kernel
theorem dX3_rightFor_51 : decode cX3_rightFor 51 = .ok (.aload_n 0, 1) := by decide +kernel
theorem dX3_rightFor_52 : decode cX3_rightFor 52 = .ok (.getfield 33, 3) := by decide +kernel
theorem dX3_rightFor_55 : decode cX3_rightFor 55 = .ok (.if_icmp .le 5, 3) := by decide +kernel
theorem dX3_rightFor_58 : decode cX3_rightFor 58 = .ok (.iconst 0, 1) := by decide +kernel
theorem dX3_rightFor_59 : decode cX3_rightFor 59 = .ok (.ireturn, 1) := by decide +kernel
theorem dX3_rightFor_60 : decode cX3_rightFor 60 = .ok (.aload_n 0, 1) := by decide +kernel
theorem dX3_rightFor_61 : decode cX3_rightFor 61 = .ok (.getfield 41, 3) := by decide +kernel
theorem dX3_rightFor_64 : decode cX3_rightFor 64 = .ok (.ifCond .ne 9, 3) := by decide +kernel
theorem dX3_rightFor_67 : decode cX3_rightFor 67 = .ok (.iconst 1, 1) := by decide +kernel
theorem dX3_rightFor_68 : decode cX3_rightFor 68 = .ok (.iload_n 2, 1) := by decide +kernel
theorem dX3_rightFor_69 : decode cX3_rightFor 69 = .ok (.ishl, 1) := by decide +kernel
theorem dX3_rightFor_70 : decode cX3_rightFor 70 = .ok (.goto 9, 3) := by decide +kernel
theorem dX3_rightFor_73 : decode cX3_rightFor 73 = .ok (.iload_n 1, 1) := by decide +kernel
theorem dX3_rightFor_74 : decode cX3_rightFor 74 = .ok (.bipush (-2), 2) := by decide +kernel
theorem dX3_rightFor_76 : decode cX3_rightFor 76 = .ok (.iload_n 2, 1) := by decide +kernel
theorem dX3_rightFor_77 : decode cX3_rightFor 77 = .ok (.ishl, 1) := by decide +kernel
theorem dX3_rightFor_78 : decode cX3_rightFor 78 = .ok (.iand, 1) := by decide +kernel
theorem dX3_rightFor_79 : decode cX3_rightFor 79 = .ok (.ireturn, 1) := by decide +kernel
set_option maxHeartbeats 4000000 in
set_option maxRecDepth 100000 in
theorem sX3_rightFor (l : Launch) (dC : Nat → ClassId) (dI : Nat → Nat → Nat) (rp : Nat) (qplace : Int32) (qkind : Int32) (qmonth : Int32) (qday : Int32) (qknown : Int32) (qstruck : Int32) (gqplace : gi qplace 0 5) (gqmonth : gi qmonth 0 23) (gqstruck : gi qstruck 0 1) : Met l yX3_rightFor (.code yX3_rightFor cX3_rightFor 3 (some .int) :: wsGA) ({ frames := 0, cells := 0, slots := 0, locals := 0 }) (va_Pc [.ref rp] (fun U => va_P (dC, dI) vwCl [(rp, .inr (7, [.int qplace, .int qkind, .int qmonth, .int qday, .int qknown, .int qstruck]))] U.heap ∧ va_K (dC, dI) vwCl [] U ∧ nzA U)) (va_Qi (fun (r : Int32) (u : Unit) => gi r (-2147483648) 2147483647) (fun _ _ => True) (fun _ => False)) 0 0 (fun _ => False) := by
  refine Met.ofW (cc := cX3_rightFor) (maxL := 3) (ret := (some .int)) (by decide) rfl ?_
  intro p e s m args below meth c s₁ B hml hv
  obtain ⟨rfl, hP, hK, hz⟩ := hv
  have hx := B.exec
  have hb := B.bytes
  have hr := B.returns
  have hts := atoms_spec (ws := (.code yX3_rightFor cX3_rightFor 3 (some .int) :: wsGA)) B.pre
  have hown : s.vm.findClass RX3 = some m.cls := findClass_of_methodNamed B.named
  have hlocks := B.notSynchronized
  have hS : va_S (fun _ => False) s.heap s.heap [] := va_S.rf
  have hl := lv_entry ([.ref rp]) (n := 3) (Nat.le_of_ble_eq_true rfl)
  rw [lg_entry_eq]
  generalize (lg_sl ([.ref rp]) ++ List.replicate (3 - (lg_sl ([.ref rp])).length) Slot.unset).toArray = ls at hl ⊢
  have hl : lv_has ls 3 [(0, .ref rp)] := hl
  refine lv_iconst (v := 2) hx hb dX3_rightFor_0 (by decide) ?_
  refine lv_aload_n hx hb dX3_rightFor_1 rfl (lv_at hl 0 rfl) ?_
  refine va_get (D := (dC, dI)) (ci := 7) (v := .int qmonth) (C := RX7) (T := TX7) (N := 6) hx hb hts (fun w h => List.mem_cons_of_mem _ (jnGA_X7 w h)) hown hK hP 0 rfl rfl 2 (by decide) (hts _ (List.mem_cons_of_mem _ mGA_493)) (fun _ h9 => h9) rfl dX3_rightFor_2 ?_
  refine lv_ishl hx hb dX3_rightFor_5 ?_
  refine lv_topi (fun x_31 ex_31 => ?_)
  refine lv_iconst (v := 1) hx hb dX3_rightFor_6 (by decide) ?_
  refine lv_isub hx hb dX3_rightFor_7 ?_
  refine lv_topi (fun x_32 ex_32 => ?_)
  refine lv_istore_n (lv' := [(1, .int x_32), (0, .ref rp)]) hx hb dX3_rightFor_8 rfl hl (by decide) rfl (fun ls hl => ?_)
  refine lv_aload_n hx hb dX3_rightFor_9 rfl (lv_at hl 1 rfl) ?_
  refine va_get (D := (dC, dI)) (ci := 7) (v := .int qday) (C := RX7) (T := TX7) (N := 6) hx hb hts (fun w h => List.mem_cons_of_mem _ (jnGA_X7 w h)) hown hK hP 0 rfl rfl 3 (by decide) (hts _ (List.mem_cons_of_mem _ mGA_497)) (fun _ h9 => h9) rfl dX3_rightFor_10 ?_
  refine lv_iconst (v := 1) hx hb dX3_rightFor_13 (by decide) ?_
  refine lv_iadd hx hb dX3_rightFor_14 ?_
  refine lv_topi (fun x_33 ex_33 => ?_)
  refine lv_bipush (v := 29) hx hb dX3_rightFor_15 (by decide) ?_
  refine lv_aload_n hx hb dX3_rightFor_17 rfl (lv_at hl 1 rfl) ?_
  refine va_get (D := (dC, dI)) (ci := 7) (v := .int qmonth) (C := RX7) (T := TX7) (N := 6) hx hb hts (fun w h => List.mem_cons_of_mem _ (jnGA_X7 w h)) hown hK hP 0 rfl rfl 2 (by decide) (hts _ (List.mem_cons_of_mem _ mGA_493)) (fun _ h9 => h9) rfl dX3_rightFor_18 ?_
  refine lv_imul hx hb dX3_rightFor_21 ?_
  refine lv_topi (fun x_34 ex_34 => ?_)
  have gx_34 : gi x_34 0 667 := gi_mul ex_34 (gi_c 29 29 (by decide)) gqmonth (by decide)
  refine lv_isub hx hb dX3_rightFor_22 ?_
  refine lv_topi (fun x_35 ex_35 => ?_)
  refine lv_istore_n (lv' := [(2, .int x_35), (1, .int x_32), (0, .ref rp)]) hx hb dX3_rightFor_23 rfl hl (by decide) rfl (fun ls hl => ?_)
  refine lv_aload_n hx hb dX3_rightFor_24 rfl (lv_at hl 2 rfl) ?_
  refine va_get (D := (dC, dI)) (ci := 7) (v := .int qkind) (C := RX7) (T := TX7) (N := 6) hx hb hts (fun w h => List.mem_cons_of_mem _ (jnGA_X7 w h)) hown hK hP 0 rfl rfl 1 (by decide) (hts _ (List.mem_cons_of_mem _ mGA_498)) (fun _ h9 => h9) rfl dX3_rightFor_25 ?_
  refine lv_iconst (v := 2) hx hb dX3_rightFor_28 (by decide) ?_
  refine lv_icmp_eq (tgt := 44) hx hb dX3_rightFor_29 (by decide) (fun c_36 => ?_) (fun c_36 => ?_)
  · have g_37 : gi qkind 2 2 := gi_eq c_36 (gi_c 2 2 (by decide))
    refine lv_iload_n hx hb dX3_rightFor_44 rfl (lv_at hl 1 rfl) ?_
    exact W.iret (v := x_32) hx hb hr (fun t ht hW => ⟨⟨x_32, (), rfl, (gi_any x_32), trivial⟩, hS.F ht⟩) hS.2.2 dX3_rightFor_45
  · refine lv_aload_n hx hb dX3_rightFor_32 rfl (lv_at hl 2 rfl) ?_
    refine va_get (D := (dC, dI)) (ci := 7) (v := .int qkind) (C := RX7) (T := TX7) (N := 6) hx hb hts (fun w h => List.mem_cons_of_mem _ (jnGA_X7 w h)) hown hK hP 0 rfl rfl 1 (by decide) (hts _ (List.mem_cons_of_mem _ mGA_498)) (fun _ h9 => h9) rfl dX3_rightFor_33 ?_
    refine lv_iconst (v := 1) hx hb dX3_rightFor_36 (by decide) ?_
    refine lv_icmp_ne (tgt := 46) hx hb dX3_rightFor_37 (by decide) (fun c_38 => ?_) (fun c_38 => ?_)
    · refine lv_iload_n hx hb dX3_rightFor_46 rfl (lv_at hl 0 rfl) ?_
      refine lv_if_lt (tgt := 58) hx hb dX3_rightFor_47 (by decide) (fun c_39 => ?_) (fun c_39 => ?_)
      · have g_40 : gi x_35 (-2147483648) (-1) := gi_lt_l c_39 (gi_any x_35) (gi_c 0 0 (by decide)) (by decide)
        refine lv_iconst (v := 0) hx hb dX3_rightFor_58 (by decide) ?_
        exact W.iret (v := 0) hx hb hr (fun t ht hW => ⟨⟨0, (), rfl, (gi_any 0), trivial⟩, hS.F ht⟩) hS.2.2 dX3_rightFor_59
      · have g_41 : gi x_35 0 2147483647 := gi_le_r (Int32.not_lt.mp c_39) (gi_c 0 0 (by decide)) (gi_any x_35)
        refine lv_iload_n hx hb dX3_rightFor_50 rfl (lv_at hl 0 rfl) ?_
        refine lv_aload_n hx hb dX3_rightFor_51 rfl (lv_at hl 2 rfl) ?_
        refine va_get (D := (dC, dI)) (ci := 7) (v := .int qmonth) (C := RX7) (T := TX7) (N := 6) hx hb hts (fun w h => List.mem_cons_of_mem _ (jnGA_X7 w h)) hown hK hP 0 rfl rfl 2 (by decide) (hts _ (List.mem_cons_of_mem _ mGA_493)) (fun _ h9 => h9) rfl dX3_rightFor_52 ?_
        refine lv_icmp_le (tgt := 60) hx hb dX3_rightFor_55 (by decide) (fun c_42 => ?_) (fun c_42 => ?_)
        · have g_43 : gi x_35 0 23 := gi_le_l c_42 g_41 gqmonth
          refine lv_aload_n hx hb dX3_rightFor_60 rfl (lv_at hl 2 rfl) ?_
          refine va_get (D := (dC, dI)) (ci := 7) (v := .int qkind) (C := RX7) (T := TX7) (N := 6) hx hb hts (fun w h => List.mem_cons_of_mem _ (jnGA_X7 w h)) hown hK hP 0 rfl rfl 1 (by decide) (hts _ (List.mem_cons_of_mem _ mGA_498)) (fun _ h9 => h9) rfl dX3_rightFor_61 ?_
          refine lv_if_ne (tgt := 73) hx hb dX3_rightFor_64 (by decide) (fun c_44 => ?_) (fun c_44 => ?_)
          · refine lv_iload_n hx hb dX3_rightFor_73 rfl (lv_at hl 1 rfl) ?_
            refine lv_bipush (v := (-2)) hx hb dX3_rightFor_74 (by decide) ?_
            refine lv_iload_n hx hb dX3_rightFor_76 rfl (lv_at hl 0 rfl) ?_
            refine lv_ishl hx hb dX3_rightFor_77 ?_
            refine lv_topi (fun x_45 ex_45 => ?_)
            refine lv_iand hx hb dX3_rightFor_78 ?_
            refine lv_topi (fun x_46 ex_46 => ?_)
            exact W.iret (v := x_46) hx hb hr (fun t ht hW => ⟨⟨x_46, (), rfl, (gi_any x_46), trivial⟩, hS.F ht⟩) hS.2.2 dX3_rightFor_79
          · have g_47 : gi qkind 0 0 := gi_eq c_44 (gi_c 0 0 (by decide))
            refine lv_iconst (v := 1) hx hb dX3_rightFor_67 (by decide) ?_
            refine lv_iload_n hx hb dX3_rightFor_68 rfl (lv_at hl 0 rfl) ?_
            refine lv_ishl hx hb dX3_rightFor_69 ?_
            refine lv_topi (fun x_48 ex_48 => ?_)
            refine lv_goto (tgt := 79) hx hb dX3_rightFor_70 (by decide) ?_
            exact W.iret (v := x_48) hx hb hr (fun t ht hW => ⟨⟨x_48, (), rfl, (gi_any x_48), trivial⟩, hS.F ht⟩) hS.2.2 dX3_rightFor_79
        · have g_49 : gi x_35 1 2147483647 := gi_lt_r (Int32.not_le.mp c_42) gqmonth g_41 (by decide)
          refine lv_iconst (v := 0) hx hb dX3_rightFor_58 (by decide) ?_
          exact W.iret (v := 0) hx hb hr (fun t ht hW => ⟨⟨0, (), rfl, (gi_any 0), trivial⟩, hS.F ht⟩) hS.2.2 dX3_rightFor_59
    · have g_50 : gi qkind 1 1 := gi_eq c_38 (gi_c 1 1 (by decide))
      refine lv_iload_n hx hb dX3_rightFor_40 rfl (lv_at hl 0 rfl) ?_
      refine lv_if_ge (tgt := 46) hx hb dX3_rightFor_41 (by decide) (fun c_51 => ?_) (fun c_51 => ?_)
      · have g_52 : gi x_35 0 2147483647 := gi_le_r c_51 (gi_c 0 0 (by decide)) (gi_any x_35)
        refine lv_iload_n hx hb dX3_rightFor_46 rfl (lv_at hl 0 rfl) ?_
        refine lv_if_lt (tgt := 58) hx hb dX3_rightFor_47 (by decide) (fun c_53 => absurd c_53 (gi_no_lt g_52 (gi_c 0 0 (by decide)) (by decide))) (fun c_53 => ?_)
        refine lv_iload_n hx hb dX3_rightFor_50 rfl (lv_at hl 0 rfl) ?_
        refine lv_aload_n hx hb dX3_rightFor_51 rfl (lv_at hl 2 rfl) ?_
        refine va_get (D := (dC, dI)) (ci := 7) (v := .int qmonth) (C := RX7) (T := TX7) (N := 6) hx hb hts (fun w h => List.mem_cons_of_mem _ (jnGA_X7 w h)) hown hK hP 0 rfl rfl 2 (by decide) (hts _ (List.mem_cons_of_mem _ mGA_493)) (fun _ h9 => h9) rfl dX3_rightFor_52 ?_
        refine lv_icmp_le (tgt := 60) hx hb dX3_rightFor_55 (by decide) (fun c_54 => ?_) (fun c_54 => ?_)
        · have g_55 : gi x_35 0 23 := gi_le_l c_54 g_52 gqmonth
          refine lv_aload_n hx hb dX3_rightFor_60 rfl (lv_at hl 2 rfl) ?_
          refine va_get (D := (dC, dI)) (ci := 7) (v := .int qkind) (C := RX7) (T := TX7) (N := 6) hx hb hts (fun w h => List.mem_cons_of_mem _ (jnGA_X7 w h)) hown hK hP 0 rfl rfl 1 (by decide) (hts _ (List.mem_cons_of_mem _ mGA_498)) (fun _ h9 => h9) rfl dX3_rightFor_61 ?_
          refine lv_if_ne (tgt := 73) hx hb dX3_rightFor_64 (by decide) (fun c_56 => ?_) (fun c_56 => absurd c_56 (gi_no_eq g_50 (gi_c 0 0 (by decide)) (by decide)))
          refine lv_iload_n hx hb dX3_rightFor_73 rfl (lv_at hl 1 rfl) ?_
          refine lv_bipush (v := (-2)) hx hb dX3_rightFor_74 (by decide) ?_
          refine lv_iload_n hx hb dX3_rightFor_76 rfl (lv_at hl 0 rfl) ?_
          refine lv_ishl hx hb dX3_rightFor_77 ?_
          refine lv_topi (fun x_57 ex_57 => ?_)
          refine lv_iand hx hb dX3_rightFor_78 ?_
          refine lv_topi (fun x_58 ex_58 => ?_)
          exact W.iret (v := x_58) hx hb hr (fun t ht hW => ⟨⟨x_58, (), rfl, (gi_any x_58), trivial⟩, hS.F ht⟩) hS.2.2 dX3_rightFor_79
        · have g_59 : gi x_35 1 2147483647 := gi_lt_r (Int32.not_le.mp c_54) gqmonth g_52 (by decide)
          refine lv_iconst (v := 0) hx hb dX3_rightFor_58 (by decide) ?_
          exact W.iret (v := 0) hx hb hr (fun t ht hW => ⟨⟨0, (), rfl, (gi_any 0), trivial⟩, hS.F ht⟩) hS.2.2 dX3_rightFor_59
      · have g_60 : gi x_35 (-2147483648) (-1) := gi_lt_l (Int32.not_le.mp c_51) (gi_any x_35) (gi_c 0 0 (by decide)) (by decide)
        refine lv_iload_n hx hb dX3_rightFor_44 rfl (lv_at hl 1 rfl) ?_
        exact W.iret (v := x_32) hx hb hr (fun t ht hW => ⟨⟨x_32, (), rfl, (gi_any x_32), trivial⟩, hS.F ht⟩) hS.2.2 dX3_rightFor_45
theorem dX3_narrow_0 : decode cX3_narrow 0 = .ok (.aload_n 0, 1) := by decide +kernel
theorem dX3_narrow_1 : decode cX3_narrow 1 = .ok (.getfield 9, 3) := by decide +kernel
theorem dX3_narrow_4 : decode cX3_narrow 4 = .ok (.aload_n 1, 1) := by decide +kernel
theorem dX3_narrow_5 : decode cX3_narrow 5 = .ok (.getfield 33, 3) := by decide +kernel
theorem dX3_narrow_8 : decode cX3_narrow 8 = .ok (.dup2, 1) := by decide +kernel
theorem dX3_narrow_9 : decode cX3_narrow 9 = .ok (.iaload, 1) := by decide +kernel
theorem dX3_narrow_10 : decode cX3_narrow 10 = .ok (.aload_n 1, 1) := by decide +kernel
theorem dX3_narrow_11 : decode cX3_narrow 11 = .ok (.invokestatic 44, 3) := by decide +kernel
theorem dX3_narrow_14 : decode cX3_narrow 14 = .ok (.iand, 1) := by decide +kernel
theorem dX3_narrow_15 : decode cX3_narrow 15 = .ok (.iastore, 1) := by decide +kernel
theorem dX3_narrow_16 : decode cX3_narrow 16 = .ok (.return_, 1) := by decide +kernel
set_option maxHeartbeats 4000000 in
set_option maxRecDepth 100000 in
theorem sX3_narrow (l : Launch) (dC : Nat → ClassId) (dI : Nat → Nat → Nat) (sz : Nat) (h0 : Nat) (al : Nat) (rp : Nat) (months : Int32) (full : Int32) (lean : Int32) (on : Nat) (kal : ClassId) (fal : Nat → Int32) (qplace : Int32) (qkind : Int32) (qmonth : Int32) (qday : Int32) (qknown : Int32) (qstruck : Int32) (gmonths : gi months 0 24) (gfull : gi full 0 5) (glean : gi lean 0 5) (gqplace : gi qplace 0 5) (gqmonth : gi qmonth 0 23) (gqstruck : gi qstruck 0 1) : Met l yX3_narrow (.code yX3_narrow cX3_narrow 2 none :: wsGA) ({ frames := 1, cells := 0, slots := 0, locals := 22 }) (va_Pc [.ref h0, .ref rp] (fun U => U.heap.size = sz ∧ va_P (dC, dI) vwCl [(h0, .inr (3, [.int months, .int full, .int lean, .ref al, .ref on])), (al, .inl (kal, 25, .inl fal))] U.heap ∧ va_K (dC, dI) vwCl [(kal, .int)] U ∧ va_D (fun _ => True) [(h0, .inr (3, [.int months, .int full, .int lean, .ref al, .ref on])), (al, .inl (kal, 25, .inl fal))] ∧ nzA U ∧ va_P (dC, dI) vwCl [(rp, .inr (7, [.int qplace, .int qkind, .int qmonth, .int qday, .int qknown, .int qstruck]))] U.heap ∧ gz_ap (va_A [(h0, .inr (3, [.int months, .int full, .int lean, .ref al, .ref on])), (al, .inl (kal, 25, .inl fal))] sz) [(rp, .inr (7, [.int qplace, .int qkind, .int qmonth, .int qday, .int qknown, .int qstruck]))])) (va_Qv (fun (u : Unit) => True) (fun _ t => ∃ (z1 : Nat → Int32), va_P (dC, dI) vwCl [(h0, .inr (3, [.int months, .int full, .int lean, .ref al, .ref on])), (al, .inl (kal, 25, .inl z1))] t.heap ∧ va_D (va_A [(h0, .inr (3, [.int months, .int full, .int lean, .ref al, .ref on])), (al, .inl (kal, 25, .inl fal))] sz) [(h0, .inr (3, [.int months, .int full, .int lean, .ref al, .ref on])), (al, .inl (kal, 25, .inl z1))]) (va_A [(h0, .inr (3, [.int months, .int full, .int lean, .ref al, .ref on])), (al, .inl (kal, 25, .inl fal))] sz)) 0 0 (va_A [(h0, .inr (3, [.int months, .int full, .int lean, .ref al, .ref on])), (al, .inl (kal, 25, .inl fal))] sz) := by
  refine Met.ofW (cc := cX3_narrow) (maxL := 2) (ret := none) (by decide) rfl ?_
  intro p e s m args below meth c s₁ B hml hv
  obtain ⟨rfl, hsz, hP, hK, hD0, hz, hR, hRA⟩ := hv
  have hx := B.exec
  have hb := B.bytes
  have hr := B.returns
  have hts := atoms_spec (ws := (.code yX3_narrow cX3_narrow 2 none :: wsGA)) B.pre
  have hown : s.vm.findClass RX3 = some m.cls := findClass_of_methodNamed B.named
  have hlocks := B.notSynchronized
  subst hsz
  have hD := hD0.self (sz := s.heap.size)
  generalize hAe : va_A [(h0, .inr (3, [.int months, .int full, .int lean, .ref al, .ref on])), (al, .inl (kal, 25, .inl fal))] s.heap.size = A at hD hRA ⊢
  have hA : ∀ q : Nat, s.heap.size ≤ q → A q := fun q h => by rw [← hAe]; exact Or.inr h
  have hS : va_S A s.heap s.heap [] := va_S.rf
  have hl := lv_entry ([.ref h0, .ref rp]) (n := 2) (Nat.le_of_ble_eq_true rfl)
  rw [lg_entry_eq]
  generalize (lg_sl ([.ref h0, .ref rp]) ++ List.replicate (2 - (lg_sl ([.ref h0, .ref rp])).length) Slot.unset).toArray = ls at hl ⊢
  have hl : lv_has ls 2 [(0, .ref h0), (1, .ref rp)] := hl
  refine lv_aload_n hx hb dX3_narrow_0 rfl (lv_at hl 0 rfl) ?_
  refine va_get (D := (dC, dI)) (ci := 3) (v := .ref al) (C := RX3) (T := TX3) (N := 5) hx hb hts (fun w h => List.mem_cons_of_mem _ (jnGA_X3 w h)) hown hK hP 0 rfl rfl 3 (by decide) (hts _ (List.mem_cons_of_mem _ mGA_94)) (fun _ h9 => h9) rfl dX3_narrow_1 ?_
  refine lv_aload_n hx hb dX3_narrow_4 rfl (lv_at hl 1 rfl) ?_
  refine va_get (D := (dC, dI)) (ci := 7) (v := .int qmonth) (C := RX7) (T := TX7) (N := 6) hx hb hts (fun w h => List.mem_cons_of_mem _ (jnGA_X7 w h)) hown hK (gz_ro hR hRA hS) 0 rfl rfl 2 (by decide) (hts _ (List.mem_cons_of_mem _ mGA_493)) (fun _ h9 => h9) rfl dX3_narrow_5 ?_
  refine lv_dup2_11 hx hb dX3_narrow_8 rfl rfl ?_
  refine va_iald hx hb hK hP 1 0 rfl rfl (gi_in gqmonth (by decide)) dX3_narrow_9 ?_
  refine lv_topi (fun x_9 ex_9 => ?_)
  refine lv_aload_n hx hb dX3_narrow_10 rfl (lv_at hl 1 rfl) ?_
  have hPc : va_P (dC, dI) vwCl [(rp, .inr (7, [.int qplace, .int qkind, .int qmonth, .int qday, .int qknown, .int qstruck]))] s.heap := ((gz_ro hR hRA hS).sub [0] rfl)
  have hKc := hK.sub (tys' := []) [] rfl
  refine va_calli (va_runS (As := [.ref rp]) (rest := [.int x_9, .int qmonth, .ref al]) ⟨hx, hb, hml, hown, hts⟩ (sX3_rightFor l dC dI rp qplace qkind qmonth qday qknown qstruck gqplace gqmonth gqstruck) (cwS 1 hts (gz_gS mGA_494 mGA_495 mGA_18 mGA_496 goodGA) rfl rfl rfl (by decide +kernel) ⟨Nat.le_of_ble_eq_true rfl, Nat.le_of_ble_eq_true rfl⟩) ⟨fun a U g mk q => by obtain ⟨q0, qP, qK, qZ⟩ := q; exact ⟨q0, qP, va_K.moved (u := U) (U := U.calling g mk a) (Vm.Alike.refl U.vm) qK, nzA_same (u := U) (U := U.calling g mk a) rfl qZ⟩, fun U hU hW => ⟨rfl, by rw [hU]; exact hPc, va_K.moved hW.alike hKc, nzA_warm hW hz⟩⟩ rfl rfl hl.1 rfl (lv_room (Nat.le_of_ble_eq_true rfl)) dX3_narrow_11 ⟨Nat.zero_le _, Nat.zero_le _⟩) hS (fun q _ h => h.elim) (fun q h => h.elim) (fun r_10 u t H1 locs ht hvm hw hB hz1 hk1 hS => ?_)
  have hP := gz_keep hP hk1
  generalize H1 = H at hP hS ⊢
  refine lv_iand hx hb dX3_narrow_14 ?_
  refine lv_topi (fun x_11 ex_11 => ?_)
  refine va_iast hx hb hK hP hD hS 1 0 rfl rfl (gi_in gqmonth (by decide)) dX3_narrow_15 (fun H locs hP hD hS => ?_)
  have hP : va_P (dC, dI) vwCl [(h0, .inr (3, [.int months, .int full, .int lean, .ref al, .ref on])), (al, .inl (kal, 25, .inl (upd fal (qmonth : Int32).toNatClampNeg x_11)))] H := hP
  have hD : va_D A [(h0, .inr (3, [.int months, .int full, .int lean, .ref al, .ref on])), (al, .inl (kal, 25, .inl (upd fal (qmonth : Int32).toNatClampNeg x_11)))] := hD
  generalize upd fal (qmonth : Int32).toNatClampNeg x_11 = f_12 at hP hD
  exact W.vret hx hb hr (fun t ht hW => ⟨⟨(), rfl, trivial, f_12, by rw [ht]; exact hP, hD⟩, hS.F ht⟩) hS.2.2 dX3_narrow_16
theorem dX7_isKnownBy_0 : decode cX7_isKnownBy 0 = .ok (.aload_n 0, 1) := by decide +kernel
theorem dX7_isKnownBy_1 : decode cX7_isKnownBy 1 = .ok (.getfield 7, 3) := by decide +kernel
theorem dX7_isKnownBy_4 : decode cX7_isKnownBy 4 = .ok (.ifCond .ne 15, 3) := by decide +kernel
theorem dX7_isKnownBy_7 : decode cX7_isKnownBy 7 = .ok (.aload_n 0, 1) := by decide +kernel
theorem dX7_isKnownBy_8 : decode cX7_isKnownBy 8 = .ok (.getfield 13, 3) := by decide +kernel
theorem dX7_isKnownBy_11 : decode cX7_isKnownBy 11 = .ok (.iload_n 1, 1) := by decide +kernel
theorem dX7_isKnownBy_12 : decode cX7_isKnownBy 12 = .ok (.if_icmp .gt 7, 3) := by decide +kernel
theorem dX7_isKnownBy_15 : decode cX7_isKnownBy 15 = .ok (.iconst 1, 1) := by decide +kernel
theorem dX7_isKnownBy_16 : decode cX7_isKnownBy 16 = .ok (.goto 4, 3) := by decide +kernel
theorem dX7_isKnownBy_19 : decode cX7_isKnownBy 19 = .ok (.iconst 0, 1) := by decide +kernel
theorem dX7_isKnownBy_20 : decode cX7_isKnownBy 20 = .ok (.ireturn, 1) := by decide +kernel
set_option maxHeartbeats 4000000 in
set_option maxRecDepth 100000 in
theorem sX7_isKnownBy (l : Launch) (dC : Nat → ClassId) (dI : Nat → Nat → Nat) (h0 : Nat) (place : Int32) (kind : Int32) (month : Int32) (day : Int32) (known : Int32) (struck : Int32) (p0 : Int32) (gplace : gi place 0 5) (gmonth : gi month 0 23) (gstruck : gi struck 0 1) : Met l yX7_isKnownBy (.code yX7_isKnownBy cX7_isKnownBy 2 (some .boolean) :: wsGA) ({ frames := 0, cells := 0, slots := 0, locals := 0 }) (va_Pc [.ref h0, .int p0] (fun U => va_P (dC, dI) vwCl [(h0, .inr (7, [.int place, .int kind, .int month, .int day, .int known, .int struck]))] U.heap ∧ va_K (dC, dI) vwCl [] U ∧ nzA U)) (va_Qi (fun (r : Int32) (u : Unit) => gi r 0 1) (fun _ _ => True) (fun _ => False)) 0 0 (fun _ => False) := by
  refine Met.ofW (cc := cX7_isKnownBy) (maxL := 2) (ret := (some .boolean)) (by decide) rfl ?_
  intro p e s m args below meth c s₁ B hml hv
  obtain ⟨rfl, hP, hK, hz⟩ := hv
  have hx := B.exec
  have hb := B.bytes
  have hr := B.returns
  have hts := atoms_spec (ws := (.code yX7_isKnownBy cX7_isKnownBy 2 (some .boolean) :: wsGA)) B.pre
  have hown : s.vm.findClass RX7 = some m.cls := findClass_of_methodNamed B.named
  have hlocks := B.notSynchronized
  have hS : va_S (fun _ => False) s.heap s.heap [] := va_S.rf
  have hl := lv_entry ([.ref h0, .int p0]) (n := 2) (Nat.le_of_ble_eq_true rfl)
  rw [lg_entry_eq]
  generalize (lg_sl ([.ref h0, .int p0]) ++ List.replicate (2 - (lg_sl ([.ref h0, .int p0])).length) Slot.unset).toArray = ls at hl ⊢
  have hl : lv_has ls 2 [(0, .ref h0), (1, .int p0)] := hl
  refine lv_aload_n hx hb dX7_isKnownBy_0 rfl (lv_at hl 0 rfl) ?_
  refine va_get (D := (dC, dI)) (ci := 7) (v := .int struck) (C := RX7) (T := TX7) (N := 6) hx hb hts (fun w h => List.mem_cons_of_mem _ (jnGA_X7 w h)) hown hK hP 0 rfl rfl 5 (by decide) (hts _ (List.mem_cons_of_mem _ mGA_441)) (fun _ h9 => h9) rfl dX7_isKnownBy_1 ?_
  refine lv_if_ne (tgt := 19) hx hb dX7_isKnownBy_4 (by decide) (fun c_7 => ?_) (fun c_7 => ?_)
  · have g_8 : gi struck 1 1 := gi_ne_lo c_7 gstruck (gi_c 0 0 (by decide)) (by decide)
    refine lv_iconst (v := 0) hx hb dX7_isKnownBy_19 (by decide) ?_
    exact W.zret (v := 0) hx hb hr (by decide) (fun t ht hW => ⟨⟨0, (), rfl, (gi_w (gi_c 0 0 (by decide)) (by decide)), trivial⟩, hS.F ht⟩) hS.2.2 dX7_isKnownBy_20
  · have g_9 : gi struck 0 0 := gi_eq c_7 (gi_c 0 0 (by decide))
    refine lv_aload_n hx hb dX7_isKnownBy_7 rfl (lv_at hl 0 rfl) ?_
    refine va_get (D := (dC, dI)) (ci := 7) (v := .int known) (C := RX7) (T := TX7) (N := 6) hx hb hts (fun w h => List.mem_cons_of_mem _ (jnGA_X7 w h)) hown hK hP 0 rfl rfl 4 (by decide) (hts _ (List.mem_cons_of_mem _ mGA_442)) (fun _ h9 => h9) rfl dX7_isKnownBy_8 ?_
    refine lv_iload_n hx hb dX7_isKnownBy_11 rfl (lv_at hl 1 rfl) ?_
    refine lv_icmp_gt (tgt := 19) hx hb dX7_isKnownBy_12 (by decide) (fun c_10 => ?_) (fun c_10 => ?_)
    · have g_11 : gi p0 (-2147483648) 2147483646 := gi_lt_l c_10 (gi_any p0) (gi_any known) (by decide)
      have g_12 : gi known (-2147483647) 2147483647 := gi_lt_r c_10 (gi_any p0) (gi_any known) (by decide)
      refine lv_iconst (v := 0) hx hb dX7_isKnownBy_19 (by decide) ?_
      exact W.zret (v := 0) hx hb hr (by decide) (fun t ht hW => ⟨⟨0, (), rfl, (gi_w (gi_c 0 0 (by decide)) (by decide)), trivial⟩, hS.F ht⟩) hS.2.2 dX7_isKnownBy_20
    · refine lv_iconst (v := 1) hx hb dX7_isKnownBy_15 (by decide) ?_
      refine lv_goto (tgt := 20) hx hb dX7_isKnownBy_16 (by decide) ?_
      exact W.zret (v := 1) hx hb hr (by decide) (fun t ht hW => ⟨⟨1, (), rfl, (gi_w (gi_c 1 1 (by decide)) (by decide)), trivial⟩, hS.F ht⟩) hS.2.2 dX7_isKnownBy_20
theorem dX0_placeNamed_0 : decode cX0_placeNamed 0 = .ok (.iconst 0, 1) := by decide +kernel
theorem dX0_placeNamed_1 : decode cX0_placeNamed 1 = .ok (.istore_n 2, 1) := by decide +kernel
theorem dX0_placeNamed_2 : decode cX0_placeNamed 2 = .ok (.iload_n 2, 1) := by decide +kernel
theorem dX0_placeNamed_3 : decode cX0_placeNamed 3 = .ok (.aload_n 0, 1) := by decide +kernel
theorem dX0_placeNamed_4 : decode cX0_placeNamed 4 = .ok (.getfield 55, 3) := by decide +kernel
theorem dX0_placeNamed_7 : decode cX0_placeNamed 7 = .ok (.if_icmp .ge 24, 3) := by decide +kernel
theorem dX0_placeNamed_10 : decode cX0_placeNamed 10 = .ok (.aload_n 0, 1) := by decide +kernel
theorem dX0_placeNamed_11 : decode cX0_placeNamed 11 = .ok (.getfield 11, 3) := by decide +kernel
theorem dX0_placeNamed_14 : decode cX0_placeNamed 14 = .ok (.iload_n 2, 1) := by decide +kernel
theorem dX0_placeNamed_15 : decode cX0_placeNamed 15 = .ok (.aaload, 1) := by decide +kernel
theorem dX0_placeNamed_16 : decode cX0_placeNamed 16 = .ok (.getfield 67, 3) := by decide +kernel
theorem dX0_placeNamed_19 : decode cX0_placeNamed 19 = .ok (.iload_n 1, 1) := by decide +kernel
theorem dX0_placeNamed_20 : decode cX0_placeNamed 20 = .ok (.if_icmp .ne 5, 3) := by decide +kernel
theorem dX0_placeNamed_23 : decode cX0_placeNamed 23 = .ok (.iload_n 2, 1) := by decide +kernel
theorem dX0_placeNamed_24 : decode cX0_placeNamed 24 = .ok (.ireturn, 1) := by decide +kernel
theorem dX0_placeNamed_25 : decode cX0_placeNamed 25 = .ok (.iinc 2 1, 3) := by decide +kernel
theorem dX0_placeNamed_28 : decode cX0_placeNamed 28 = .ok (.goto (-26), 3) := by decide +kernel
theorem dX0_placeNamed_31 : decode cX0_placeNamed 31 = .ok (.iconst (-1), 1) := by decide +kernel
theorem dX0_placeNamed_32 : decode cX0_placeNamed 32 = .ok (.ireturn, 1) := by decide +kernel
noncomputable def dfX0_placeNamed_2 (aplaceCount : Int32) (p_name : Nat → Int32) (p1 : Int32) (K : (Int32 → Int32)) (v2 : Int32) : Int32 := if aplaceCount ≤ v2 then (-1 : Int32) else (if (p_name v2.toNatClampNeg) = p1 then v2 else (K (v2 + (1 : Int32))))
noncomputable def lfX0_placeNamed (aplaceCount : Int32) (p_name : Nat → Int32) (p1 : Int32) (z : Nat) : (Int32 → Int32) := Nat.rec (motive := fun _ => (Int32 → Int32)) (fun _ => (0)) (fun _ K => dfX0_placeNamed_2 aplaceCount p_name p1 K) z
noncomputable def fX0_placeNamed (aplaceCount : Int32) (p_name : Nat → Int32) (p1 : Int32) : Int32 := (lfX0_placeNamed aplaceCount p_name p1 1000000000) (0 : Int32)
set_option maxHeartbeats 4000000 in
set_option maxRecDepth 100000 in
theorem lp_sX0_placeNamed {p : Program} {l : Launch} {e : Env} {R : Room} {s : State} {m : MethodId} {args : Array Value} {below : List Frame} {meth : Method} {c : Code} {Q : State → Prop} {A : Nat → Prop} {cells slots : Nat} {dC : Nat → ClassId} {dI : Nat → Nat → Nat} {RES : Int32} (h0 : Nat) (pl : Nat) (amonths : Int32) (afull : Int32) (alean : Int32) (alines : Int32) (ahasMoon : Int32) (amoonStart : Int32) (amoonStep : Int32) (aplaceCount : Int32) (areportCount : Int32) (adeedCount : Int32) (re : Nat) (de : Nat) (kpl : ClassId) (pa : Nat → Nat) (p_name : Nat → Int32) (p_trust : Nat → Int32) (p1 : Int32) (gamonths : gi amonths 0 24) (gafull : gi afull 0 5) (galean : gi alean 0 5) (gahasMoon : gi ahasMoon 0 1) (gaplaceCount : gi aplaceCount 0 6) (gareportCount : gi areportCount 0 24) (gadeedCount : gi adeedCount 0 8) (hx : p.tables.exec = Jvm.exec) (hb : c.code = cX0_placeNamed) (hml : c.maxLocals = 3) (hown : s.vm.findClass RX0 = some m.cls) (hts : ∀ w ∈ ((.code yX0_placeNamed cX0_placeNamed 3 (some .int) :: wsGA) : List Cond), w.before args s = true) (hK : va_K (dC, dI) vwCl [(kpl, .object RX5)] s) (hz : nzA s) (hF0 : va_P (dC, dI) vwCl (gz_fam 6 pa 5 (fun i => [.int (p_name i), .int (p_trust i)])) s.heap) (hFA0 : gz_ap A (gz_fam 6 pa 5 (fun i => [.int (p_name i), .int (p_trust i)]))) (hRf : 0 ≤ R.frames) (hRl : 0 ≤ R.locals) (hRc : cells ≤ R.cells) (hRs : slots ≤ R.slots) (kr32 : ∀ (v : Int32) (H : Heap) (locs : List Loc) (ls : Array Slot), gi v (-1) (-1) → v = RES → va_P (dC, dI) vwCl [(h0, .inr (0, [.int amonths, .int afull, .int alean, .int alines, .int ahasMoon, .int amoonStart, .int amoonStep, .int aplaceCount, .int areportCount, .int adeedCount, .ref pl, .ref re, .ref de])), (pl, .inl (kpl, 6, .inr (.inr (.inr (.inr (fun i => some (pa i)))))))] H → va_S A s.heap H locs → lv_has ls 3 [] → W p l e R s m args below meth c H locs cells slots Q (F0 m 32 ls [.int v])) (kr24 : ∀ (v : Int32) (H : Heap) (locs : List Loc) (ls : Array Slot), gi v 0 5 → v = RES → va_P (dC, dI) vwCl [(h0, .inr (0, [.int amonths, .int afull, .int alean, .int alines, .int ahasMoon, .int amoonStart, .int amoonStep, .int aplaceCount, .int areportCount, .int adeedCount, .ref pl, .ref re, .ref de])), (pl, .inl (kpl, 6, .inr (.inr (.inr (.inr (fun i => some (pa i)))))))] H → va_S A s.heap H locs → lv_has ls 3 [] → W p l e R s m args below meth c H locs cells slots Q (F0 m 24 ls [.int v])) : ∀ z : Nat, (∀ (v2 : Int32) (H : Heap) (locs : List Loc) (ls : Array Slot), gi v2 0 6 → (lfX0_placeNamed aplaceCount p_name p1 z) v2 = RES → 13 + (-2) * v2.toInt < (z : Int) → va_P (dC, dI) vwCl [(h0, .inr (0, [.int amonths, .int afull, .int alean, .int alines, .int ahasMoon, .int amoonStart, .int amoonStep, .int aplaceCount, .int areportCount, .int adeedCount, .ref pl, .ref re, .ref de])), (pl, .inl (kpl, 6, .inr (.inr (.inr (.inr (fun i => some (pa i)))))))] H → va_S A s.heap H locs → lv_has ls 3 [(0, .ref h0), (1, .int p1), (2, .int v2)] → W p l e R s m args below meth c H locs cells slots Q (F0 m 2 ls [])) := by
  intro z
  induction z with
  | zero =>
    intro v2 H locs ls gv2 hF hmu hP hS hl
    exact absurd hmu (by have hv21 := gv2.1; have hv22 := gv2.2; omega)
  | succ z ih =>
      intro v2 H locs ls gv2 hF hmu hP hS hl
      have hF : dfX0_placeNamed_2 aplaceCount p_name p1 (lfX0_placeNamed aplaceCount p_name p1 z) v2 = RES := hF
      refine lv_iload_n hx hb dX0_placeNamed_2 rfl (lv_at hl 2 rfl) ?_
      refine lv_aload_n hx hb dX0_placeNamed_3 rfl (lv_at hl 0 rfl) ?_
      refine va_get (D := (dC, dI)) (ci := 0) (v := .int aplaceCount) (C := RX0) (T := TX0) (N := 13) hx hb hts (fun w h => List.mem_cons_of_mem _ (jnGA_X0 w h)) hown hK hP 0 rfl rfl 7 (by decide) (hts _ (List.mem_cons_of_mem _ mGA_159)) (fun _ h9 => h9) rfl dX0_placeNamed_4 ?_
      refine lv_icmp_ge (tgt := 31) hx hb dX0_placeNamed_7 (by decide) (fun c_43 => ?_) (fun c_43 => ?_)
      · have hF := gf_pos c_43 hF
        refine lv_iconst (v := (-1)) hx hb dX0_placeNamed_31 (by decide) ?_
        exact kr32 (-1) _ _ _ (gi_c (-1) (-1) (by decide)) hF hP hS (lv_sub hl [] rfl)
      · have hF := gf_neg c_43 hF
        have g_44 : gi v2 0 5 := gi_lt_l (Int32.not_le.mp c_43) gv2 gaplaceCount (by decide)
        have g_45 : gi aplaceCount 1 6 := gi_lt_r (Int32.not_le.mp c_43) gv2 gaplaceCount (by decide)
        refine lv_aload_n hx hb dX0_placeNamed_10 rfl (lv_at hl 0 rfl) ?_
        refine va_get (D := (dC, dI)) (ci := 0) (v := .ref pl) (C := RX0) (T := TX0) (N := 13) hx hb hts (fun w h => List.mem_cons_of_mem _ (jnGA_X0 w h)) hown hK hP 0 rfl rfl 10 (by decide) (hts _ (List.mem_cons_of_mem _ mGA_70)) (fun _ h9 => h9) rfl dX0_placeNamed_11 ?_
        refine lv_iload_n hx hb dX0_placeNamed_14 rfl (lv_at hl 2 rfl) ?_
        refine va_aldq hx hb hK hP 1 0 rfl rfl (gi_in g_44 (by decide)) dX0_placeNamed_15 ?_
        refine W.eq (g2 := F0 m 16 ls [.ref (pa v2.toNatClampNeg)]) rfl ?_
        refine va_get (D := (dC, dI)) (ci := 5) (v := .int (p_name v2.toNatClampNeg)) (C := RX5) (T := TX5) (N := 2) hx hb hts (fun w h => List.mem_cons_of_mem _ (jnGA_X5 w h)) hown hK (gz_ro hF0 hFA0 hS) (v2.toNatClampNeg) (gz_fam_at (gz_clt (gi_in (n := 6) g_44 (by decide)))) rfl 0 (by decide) (hts _ (List.mem_cons_of_mem _ mGA_302)) (fun _ h9 => h9) rfl dX0_placeNamed_16 ?_
        refine lv_topi (fun x_46 ex_46 => ?_)
        refine lv_iload_n hx hb dX0_placeNamed_19 rfl (lv_at hl 1 rfl) ?_
        refine lv_icmp_ne (tgt := 25) hx hb dX0_placeNamed_20 (by decide) (fun c_47 => ?_) (fun c_47 => ?_)
        · have hF := gf_neg (by rw [ex_46] at c_47; exact c_47) hF
          obtain ⟨x_48, ex_48⟩ : ∃ y : Int32, y = v2 + 1 := ⟨_, rfl⟩
          have gx_48 : gi x_48 1 6 := gi_add ex_48 g_44 (gi_c 1 1 (by decide)) (by decide)
          refine lv_iinc (v := x_48) (lv' := [(2, .int x_48), (0, .ref h0), (1, .int p1)]) hx hb dX0_placeNamed_25 hl (k := 2) rfl (by rw [ex_48]; rfl) (by decide) rfl (fun ls hl => ?_)
          refine lv_goto (tgt := 2) hx hb dX0_placeNamed_28 (by decide) ?_
          exact ih x_48 _ _ _ (gi_w gx_48 (by decide)) (by rw [ex_48]; exact hF) (by have av2 := gv2.1; have bv2 := gv2.2; have qgx_48 := gx_48.1; have rgx_48 := gx_48.2; have igx_48 : x_48.toInt = v2.toInt + 1 := (by have hc1 : (1 : Int32).toInt = 1 := (by decide); have h9 := gi_addI ex_48 (by have h1 := g_44.1; have h2 := (gi_c 1 1 (by decide)).1; have h3 := g_44.2; have h4 := (gi_c 1 1 (by decide)).2; omega) (by have h1 := g_44.1; have h2 := (gi_c 1 1 (by decide)).1; have h3 := g_44.2; have h4 := (gi_c 1 1 (by decide)).2; omega); rw [hc1] at h9; exact h9); have qgv2 := g_44.1; have rgv2 := g_44.2; omega) hP hS (lv_sub hl [1, 2, 0] rfl)
        · have hF := gf_pos (by rw [ex_46] at c_47; exact c_47) hF
          refine lv_iload_n hx hb dX0_placeNamed_23 rfl (lv_at hl 2 rfl) ?_
          exact kr24 v2 _ _ _ g_44 hF hP hS (lv_sub hl [] rfl)
set_option maxHeartbeats 4000000 in
set_option maxRecDepth 100000 in
theorem sX0_placeNamed (l : Launch) (dC : Nat → ClassId) (dI : Nat → Nat → Nat) (h0 : Nat) (pl : Nat) (amonths : Int32) (afull : Int32) (alean : Int32) (alines : Int32) (ahasMoon : Int32) (amoonStart : Int32) (amoonStep : Int32) (aplaceCount : Int32) (areportCount : Int32) (adeedCount : Int32) (re : Nat) (de : Nat) (kpl : ClassId) (pa : Nat → Nat) (p_name : Nat → Int32) (p_trust : Nat → Int32) (p1 : Int32) (gamonths : gi amonths 0 24) (gafull : gi afull 0 5) (galean : gi alean 0 5) (gahasMoon : gi ahasMoon 0 1) (gaplaceCount : gi aplaceCount 0 6) (gareportCount : gi areportCount 0 24) (gadeedCount : gi adeedCount 0 8) : Met l yX0_placeNamed (.code yX0_placeNamed cX0_placeNamed 3 (some .int) :: wsGA) ({ frames := 0, cells := 0, slots := 0, locals := 0 }) (va_Pc [.ref h0, .int p1] (fun U => va_P (dC, dI) vwCl [(h0, .inr (0, [.int amonths, .int afull, .int alean, .int alines, .int ahasMoon, .int amoonStart, .int amoonStep, .int aplaceCount, .int areportCount, .int adeedCount, .ref pl, .ref re, .ref de])), (pl, .inl (kpl, 6, .inr (.inr (.inr (.inr (fun i => some (pa i)))))))] U.heap ∧ va_K (dC, dI) vwCl [(kpl, .object RX5)] U ∧ nzA U ∧ va_P (dC, dI) vwCl (gz_fam 6 pa 5 (fun i => [.int (p_name i), .int (p_trust i)])) U.heap)) (va_Qi (fun (r : Int32) (u : Unit) => (gi r (-1) 5) ∧ r = fX0_placeNamed aplaceCount p_name p1) (fun _ _ => True) (fun _ => False)) 0 0 (fun _ => False) := by
  refine Met.ofW (cc := cX0_placeNamed) (maxL := 3) (ret := (some .int)) (by decide) rfl ?_
  intro p e s m args below meth c s₁ B hml hv
  obtain ⟨rfl, hP, hK, hz, hF0⟩ := hv
  have hx := B.exec
  have hb := B.bytes
  have hr := B.returns
  have hts := atoms_spec (ws := (.code yX0_placeNamed cX0_placeNamed 3 (some .int) :: wsGA)) B.pre
  have hown : s.vm.findClass RX0 = some m.cls := findClass_of_methodNamed B.named
  have hlocks := B.notSynchronized
  have hS : va_S (fun _ => False) s.heap s.heap [] := va_S.rf
  have hFA0 : gz_ap (fun _ => False) (gz_fam 6 pa 5 (fun i => [.int (p_name i), .int (p_trust i)])) := gz_ap0
  have hl := lv_entry ([.ref h0, .int p1]) (n := 3) (Nat.le_of_ble_eq_true rfl)
  rw [lg_entry_eq]
  generalize (lg_sl ([.ref h0, .int p1]) ++ List.replicate (3 - (lg_sl ([.ref h0, .int p1])).length) Slot.unset).toArray = ls at hl ⊢
  have hl : lv_has ls 3 [(0, .ref h0), (1, .int p1)] := hl
  obtain ⟨RES, hF⟩ : ∃ R9, fX0_placeNamed aplaceCount p_name p1 = R9 := ⟨_, rfl⟩
  have hR9 := hF
  refine lv_iconst (v := 0) hx hb dX0_placeNamed_0 (by decide) ?_
  refine lv_istore_n (lv' := [(2, .int 0), (0, .ref h0), (1, .int p1)]) hx hb dX0_placeNamed_1 rfl hl (by decide) rfl (fun ls hl => ?_)
  refine (lp_sX0_placeNamed h0 pl amonths afull alean alines ahasMoon amoonStart amoonStep aplaceCount areportCount adeedCount re de kpl pa p_name p_trust p1 gamonths gafull galean gahasMoon gaplaceCount gareportCount gadeedCount hx hb hml hown hts hK hz hF0 hFA0 (Nat.le_of_ble_eq_true rfl) (Nat.le_of_ble_eq_true rfl) (Nat.zero_le _) (Nat.zero_le _) (fun v H locs ls gv hF hP hS hl => ?_) (fun v H locs ls gv hF hP hS hl => ?_) 1000000000) 0 _ _ _ (gi_w (gi_c 0 0 (by decide)) (by decide)) hF (by have k0 : (0 : Int32).toInt = 0 := (by decide); omega) hP hS (lv_sub hl [1, 2, 0] rfl)
  · skip
    exact W.iret (v := v) hx hb hr (fun t ht hW => ⟨⟨v, (), rfl, ⟨(gi_w gv (by decide)), hF.trans hR9.symm⟩, trivial⟩, hS.F ht⟩) hS.2.2 dX0_placeNamed_32
  · skip
    exact W.iret (v := v) hx hb hr (fun t ht hW => ⟨⟨v, (), rfl, ⟨(gi_w gv (by decide)), hF.trans hR9.symm⟩, trivial⟩, hS.F ht⟩) hS.2.2 dX0_placeNamed_24
theorem dX0_namesAhead_0 : decode cX0_namesAhead 0 = .ok (.iconst 0, 1) := by decide +kernel
theorem dX0_namesAhead_1 : decode cX0_namesAhead 1 = .ok (.istore_n 2, 1) := by decide +kernel
theorem dX0_namesAhead_2 : decode cX0_namesAhead 2 = .ok (.iconst 0, 1) := by decide +kernel
theorem dX0_namesAhead_3 : decode cX0_namesAhead 3 = .ok (.istore_n 3, 1) := by decide +kernel
theorem dX0_namesAhead_4 : decode cX0_namesAhead 4 = .ok (.iload_n 3, 1) := by decide +kernel
theorem dX0_namesAhead_5 : decode cX0_namesAhead 5 = .ok (.aload_n 0, 1) := by decide +kernel
theorem dX0_namesAhead_6 : decode cX0_namesAhead 6 = .ok (.getfield 55, 3) := by decide +kernel
theorem dX0_namesAhead_9 : decode cX0_namesAhead 9 = .ok (.if_icmp .ge 33, 3) := by decide +kernel
theorem dX0_namesAhead_12 : decode cX0_namesAhead 12 = .ok (.aload_n 0, 1) := by decide +kernel
theorem dX0_namesAhead_13 : decode cX0_namesAhead 13 = .ok (.getfield 11, 3) := by decide +kernel
theorem dX0_namesAhead_16 : decode cX0_namesAhead 16 = .ok (.iload_n 3, 1) := by decide +kernel
theorem dX0_namesAhead_17 : decode cX0_namesAhead 17 = .ok (.aaload, 1) := by decide +kernel
theorem dX0_namesAhead_18 : decode cX0_namesAhead 18 = .ok (.getfield 67, 3) := by decide +kernel
theorem dX0_namesAhead_21 : decode cX0_namesAhead 21 = .ok (.aload_n 0, 1) := by decide +kernel
theorem dX0_namesAhead_22 : decode cX0_namesAhead 22 = .ok (.getfield 11, 3) := by decide +kernel
theorem dX0_namesAhead_25 : decode cX0_namesAhead 25 = .ok (.iload_n 1, 1) := by decide +kernel
theorem dX0_namesAhead_26 : decode cX0_namesAhead 26 = .ok (.aaload, 1) := by decide +kernel
theorem dX0_namesAhead_27 : decode cX0_namesAhead 27 = .ok (.getfield 67, 3) := by decide +kernel
theorem dX0_namesAhead_30 : decode cX0_namesAhead 30 = .ok (.if_icmp .ge 6, 3) := by decide +kernel
theorem dX0_namesAhead_33 : decode cX0_namesAhead 33 = .ok (.iinc 2 1, 3) := by decide +kernel
theorem dX0_namesAhead_36 : decode cX0_namesAhead 36 = .ok (.iinc 3 1, 3) := by decide +kernel
theorem dX0_namesAhead_39 : decode cX0_namesAhead 39 = .ok (.goto (-35), 3) := by decide +kernel
theorem dX0_namesAhead_42 : decode cX0_namesAhead 42 = .ok (.iload_n 2, 1) := by decide +kernel
theorem dX0_namesAhead_43 : decode cX0_namesAhead 43 = .ok (.ireturn, 1) := by decide +kernel
set_option maxHeartbeats 4000000 in
set_option maxRecDepth 100000 in
theorem lp_sX0_namesAhead {p : Program} {l : Launch} {e : Env} {R : Room} {s : State} {m : MethodId} {args : Array Value} {below : List Frame} {meth : Method} {c : Code} {Q : State → Prop} {A : Nat → Prop} {cells slots : Nat} {dC : Nat → ClassId} {dI : Nat → Nat → Nat} (h0 : Nat) (pl : Nat) (amonths : Int32) (afull : Int32) (alean : Int32) (alines : Int32) (ahasMoon : Int32) (amoonStart : Int32) (amoonStep : Int32) (aplaceCount : Int32) (areportCount : Int32) (adeedCount : Int32) (re : Nat) (de : Nat) (kpl : ClassId) (pa : Nat → Nat) (p_name : Nat → Int32) (p_trust : Nat → Int32) (p1 : Int32) (gamonths : gi amonths 0 24) (gafull : gi afull 0 5) (galean : gi alean 0 5) (gahasMoon : gi ahasMoon 0 1) (gaplaceCount : gi aplaceCount 0 6) (gareportCount : gi areportCount 0 24) (gadeedCount : gi adeedCount 0 8) (gp1 : gi p1 0 5) (hx : p.tables.exec = Jvm.exec) (hb : c.code = cX0_namesAhead) (hml : c.maxLocals = 4) (hown : s.vm.findClass RX0 = some m.cls) (hts : ∀ w ∈ ((.code yX0_namesAhead cX0_namesAhead 4 (some .int) :: wsGA) : List Cond), w.before args s = true) (hK : va_K (dC, dI) vwCl [(kpl, .object RX5)] s) (hz : nzA s) (hF0 : va_P (dC, dI) vwCl (gz_fam 6 pa 5 (fun i => [.int (p_name i), .int (p_trust i)])) s.heap) (hFA0 : gz_ap A (gz_fam 6 pa 5 (fun i => [.int (p_name i), .int (p_trust i)]))) (hRf : 0 ≤ R.frames) (hRl : 0 ≤ R.locals) (hRc : cells ≤ R.cells) (hRs : slots ≤ R.slots) (kr43 : ∀ (v : Int32) (H : Heap) (locs : List Loc) (ls : Array Slot), va_P (dC, dI) vwCl [(h0, .inr (0, [.int amonths, .int afull, .int alean, .int alines, .int ahasMoon, .int amoonStart, .int amoonStep, .int aplaceCount, .int areportCount, .int adeedCount, .ref pl, .ref re, .ref de])), (pl, .inl (kpl, 6, .inr (.inr (.inr (.inr (fun i => some (pa i)))))))] H → va_S A s.heap H locs → lv_has ls 4 [] → W p l e R s m args below meth c H locs cells slots Q (F0 m 43 ls [.int v])) : ∀ z : Nat, (∀ (v2 : Int32) (v3 : Int32) (H : Heap) (locs : List Loc) (ls : Array Slot), gi v3 0 6 → 13 + (-2) * v3.toInt < (z : Int) → va_P (dC, dI) vwCl [(h0, .inr (0, [.int amonths, .int afull, .int alean, .int alines, .int ahasMoon, .int amoonStart, .int amoonStep, .int aplaceCount, .int areportCount, .int adeedCount, .ref pl, .ref re, .ref de])), (pl, .inl (kpl, 6, .inr (.inr (.inr (.inr (fun i => some (pa i)))))))] H → va_S A s.heap H locs → lv_has ls 4 [(0, .ref h0), (1, .int p1), (2, .int v2), (3, .int v3)] → W p l e R s m args below meth c H locs cells slots Q (F0 m 4 ls [])) := by
  intro z
  induction z with
  | zero =>
    intro v2 v3 H locs ls gv3 hmu hP hS hl
    exact absurd hmu (by have hv31 := gv3.1; have hv32 := gv3.2; omega)
  | succ z ih =>
      intro v2 v3 H locs ls gv3 hmu hP hS hl
      refine lv_iload_n hx hb dX0_namesAhead_4 rfl (lv_at hl 3 rfl) ?_
      refine lv_aload_n hx hb dX0_namesAhead_5 rfl (lv_at hl 0 rfl) ?_
      refine va_get (D := (dC, dI)) (ci := 0) (v := .int aplaceCount) (C := RX0) (T := TX0) (N := 13) hx hb hts (fun w h => List.mem_cons_of_mem _ (jnGA_X0 w h)) hown hK hP 0 rfl rfl 7 (by decide) (hts _ (List.mem_cons_of_mem _ mGA_159)) (fun _ h9 => h9) rfl dX0_namesAhead_6 ?_
      refine lv_icmp_ge (tgt := 42) hx hb dX0_namesAhead_9 (by decide) (fun c_430 => ?_) (fun c_430 => ?_)
      · refine lv_iload_n hx hb dX0_namesAhead_42 rfl (lv_at hl 2 rfl) ?_
        exact kr43 v2 _ _ _ hP hS (lv_sub hl [] rfl)
      · have g_431 : gi v3 0 5 := gi_lt_l (Int32.not_le.mp c_430) gv3 gaplaceCount (by decide)
        have g_432 : gi aplaceCount 1 6 := gi_lt_r (Int32.not_le.mp c_430) gv3 gaplaceCount (by decide)
        refine lv_aload_n hx hb dX0_namesAhead_12 rfl (lv_at hl 0 rfl) ?_
        refine va_get (D := (dC, dI)) (ci := 0) (v := .ref pl) (C := RX0) (T := TX0) (N := 13) hx hb hts (fun w h => List.mem_cons_of_mem _ (jnGA_X0 w h)) hown hK hP 0 rfl rfl 10 (by decide) (hts _ (List.mem_cons_of_mem _ mGA_70)) (fun _ h9 => h9) rfl dX0_namesAhead_13 ?_
        refine lv_iload_n hx hb dX0_namesAhead_16 rfl (lv_at hl 3 rfl) ?_
        refine va_aldq hx hb hK hP 1 0 rfl rfl (gi_in g_431 (by decide)) dX0_namesAhead_17 ?_
        refine W.eq (g2 := F0 m 18 ls [.ref (pa v3.toNatClampNeg)]) rfl ?_
        refine va_get (D := (dC, dI)) (ci := 5) (v := .int (p_name v3.toNatClampNeg)) (C := RX5) (T := TX5) (N := 2) hx hb hts (fun w h => List.mem_cons_of_mem _ (jnGA_X5 w h)) hown hK (gz_ro hF0 hFA0 hS) (v3.toNatClampNeg) (gz_fam_at (gz_clt (gi_in (n := 6) g_431 (by decide)))) rfl 0 (by decide) (hts _ (List.mem_cons_of_mem _ mGA_302)) (fun _ h9 => h9) rfl dX0_namesAhead_18 ?_
        refine lv_topi (fun x_433 ex_433 => ?_)
        refine lv_aload_n hx hb dX0_namesAhead_21 rfl (lv_at hl 0 rfl) ?_
        refine va_get (D := (dC, dI)) (ci := 0) (v := .ref pl) (C := RX0) (T := TX0) (N := 13) hx hb hts (fun w h => List.mem_cons_of_mem _ (jnGA_X0 w h)) hown hK hP 0 rfl rfl 10 (by decide) (hts _ (List.mem_cons_of_mem _ mGA_70)) (fun _ h9 => h9) rfl dX0_namesAhead_22 ?_
        refine lv_iload_n hx hb dX0_namesAhead_25 rfl (lv_at hl 1 rfl) ?_
        refine va_aldq hx hb hK hP 1 0 rfl rfl (gi_in gp1 (by decide)) dX0_namesAhead_26 ?_
        refine W.eq (g2 := F0 m 27 ls [.ref (pa p1.toNatClampNeg), .int x_433]) rfl ?_
        refine va_get (D := (dC, dI)) (ci := 5) (v := .int (p_name p1.toNatClampNeg)) (C := RX5) (T := TX5) (N := 2) hx hb hts (fun w h => List.mem_cons_of_mem _ (jnGA_X5 w h)) hown hK (gz_ro hF0 hFA0 hS) (p1.toNatClampNeg) (gz_fam_at (gz_clt (gi_in (n := 6) gp1 (by decide)))) rfl 0 (by decide) (hts _ (List.mem_cons_of_mem _ mGA_302)) (fun _ h9 => h9) rfl dX0_namesAhead_27 ?_
        refine lv_topi (fun x_434 ex_434 => ?_)
        refine lv_icmp_ge (tgt := 36) hx hb dX0_namesAhead_30 (by decide) (fun c_435 => ?_) (fun c_435 => ?_)
        · obtain ⟨x_436, ex_436⟩ : ∃ y : Int32, y = v3 + 1 := ⟨_, rfl⟩
          have gx_436 : gi x_436 1 6 := gi_add ex_436 g_431 (gi_c 1 1 (by decide)) (by decide)
          refine lv_iinc (v := x_436) (lv' := [(3, .int x_436), (0, .ref h0), (1, .int p1), (2, .int v2)]) hx hb dX0_namesAhead_36 hl (k := 3) rfl (by rw [ex_436]; rfl) (by decide) rfl (fun ls hl => ?_)
          refine lv_goto (tgt := 4) hx hb dX0_namesAhead_39 (by decide) ?_
          exact ih v2 x_436 _ _ _ (gi_w gx_436 (by decide)) (by have av3 := gv3.1; have bv3 := gv3.2; have qgx_436 := gx_436.1; have rgx_436 := gx_436.2; have igx_436 : x_436.toInt = v3.toInt + 1 := (by have hc1 : (1 : Int32).toInt = 1 := (by decide); have h9 := gi_addI ex_436 (by have h1 := g_431.1; have h2 := (gi_c 1 1 (by decide)).1; have h3 := g_431.2; have h4 := (gi_c 1 1 (by decide)).2; omega) (by have h1 := g_431.1; have h2 := (gi_c 1 1 (by decide)).1; have h3 := g_431.2; have h4 := (gi_c 1 1 (by decide)).2; omega); rw [hc1] at h9; exact h9); have qgv3 := g_431.1; have rgv3 := g_431.2; omega) hP hS (lv_sub hl [1, 2, 3, 0] rfl)
        · have g_437 : gi x_433 (-2147483648) 2147483646 := gi_lt_l (Int32.not_le.mp c_435) (gi_any x_433) (gi_any x_434) (by decide)
          have g_438 : gi x_434 (-2147483647) 2147483647 := gi_lt_r (Int32.not_le.mp c_435) (gi_any x_433) (gi_any x_434) (by decide)
          obtain ⟨x_439, ex_439⟩ : ∃ y : Int32, y = v2 + 1 := ⟨_, rfl⟩
          refine lv_iinc (v := x_439) (lv' := [(2, .int x_439), (0, .ref h0), (1, .int p1), (3, .int v3)]) hx hb dX0_namesAhead_33 hl (k := 2) rfl (by rw [ex_439]; rfl) (by decide) rfl (fun ls hl => ?_)
          obtain ⟨x_440, ex_440⟩ : ∃ y : Int32, y = v3 + 1 := ⟨_, rfl⟩
          have gx_440 : gi x_440 1 6 := gi_add ex_440 g_431 (gi_c 1 1 (by decide)) (by decide)
          refine lv_iinc (v := x_440) (lv' := [(3, .int x_440), (2, .int x_439), (0, .ref h0), (1, .int p1)]) hx hb dX0_namesAhead_36 hl (k := 3) rfl (by rw [ex_440]; rfl) (by decide) rfl (fun ls hl => ?_)
          refine lv_goto (tgt := 4) hx hb dX0_namesAhead_39 (by decide) ?_
          exact ih x_439 x_440 _ _ _ (gi_w gx_440 (by decide)) (by have av3 := gv3.1; have bv3 := gv3.2; have qgx_440 := gx_440.1; have rgx_440 := gx_440.2; have igx_440 : x_440.toInt = v3.toInt + 1 := (by have hc1 : (1 : Int32).toInt = 1 := (by decide); have h9 := gi_addI ex_440 (by have h1 := g_431.1; have h2 := (gi_c 1 1 (by decide)).1; have h3 := g_431.2; have h4 := (gi_c 1 1 (by decide)).2; omega) (by have h1 := g_431.1; have h2 := (gi_c 1 1 (by decide)).1; have h3 := g_431.2; have h4 := (gi_c 1 1 (by decide)).2; omega); rw [hc1] at h9; exact h9); have qgv3 := g_431.1; have rgv3 := g_431.2; omega) hP hS (lv_sub hl [2, 3, 1, 0] rfl)
set_option maxHeartbeats 4000000 in
set_option maxRecDepth 100000 in
theorem sX0_namesAhead (l : Launch) (dC : Nat → ClassId) (dI : Nat → Nat → Nat) (h0 : Nat) (pl : Nat) (amonths : Int32) (afull : Int32) (alean : Int32) (alines : Int32) (ahasMoon : Int32) (amoonStart : Int32) (amoonStep : Int32) (aplaceCount : Int32) (areportCount : Int32) (adeedCount : Int32) (re : Nat) (de : Nat) (kpl : ClassId) (pa : Nat → Nat) (p_name : Nat → Int32) (p_trust : Nat → Int32) (p1 : Int32) (gamonths : gi amonths 0 24) (gafull : gi afull 0 5) (galean : gi alean 0 5) (gahasMoon : gi ahasMoon 0 1) (gaplaceCount : gi aplaceCount 0 6) (gareportCount : gi areportCount 0 24) (gadeedCount : gi adeedCount 0 8) (gp1 : gi p1 0 5) : Met l yX0_namesAhead (.code yX0_namesAhead cX0_namesAhead 4 (some .int) :: wsGA) ({ frames := 0, cells := 0, slots := 0, locals := 0 }) (va_Pc [.ref h0, .int p1] (fun U => va_P (dC, dI) vwCl [(h0, .inr (0, [.int amonths, .int afull, .int alean, .int alines, .int ahasMoon, .int amoonStart, .int amoonStep, .int aplaceCount, .int areportCount, .int adeedCount, .ref pl, .ref re, .ref de])), (pl, .inl (kpl, 6, .inr (.inr (.inr (.inr (fun i => some (pa i)))))))] U.heap ∧ va_K (dC, dI) vwCl [(kpl, .object RX5)] U ∧ nzA U ∧ va_P (dC, dI) vwCl (gz_fam 6 pa 5 (fun i => [.int (p_name i), .int (p_trust i)])) U.heap)) (va_Qi (fun (r : Int32) (u : Unit) => gi r (-2147483648) 2147483647) (fun _ _ => True) (fun _ => False)) 0 0 (fun _ => False) := by
  refine Met.ofW (cc := cX0_namesAhead) (maxL := 4) (ret := (some .int)) (by decide) rfl ?_
  intro p e s m args below meth c s₁ B hml hv
  obtain ⟨rfl, hP, hK, hz, hF0⟩ := hv
  have hx := B.exec
  have hb := B.bytes
  have hr := B.returns
  have hts := atoms_spec (ws := (.code yX0_namesAhead cX0_namesAhead 4 (some .int) :: wsGA)) B.pre
  have hown : s.vm.findClass RX0 = some m.cls := findClass_of_methodNamed B.named
  have hlocks := B.notSynchronized
  have hS : va_S (fun _ => False) s.heap s.heap [] := va_S.rf
  have hFA0 : gz_ap (fun _ => False) (gz_fam 6 pa 5 (fun i => [.int (p_name i), .int (p_trust i)])) := gz_ap0
  have hl := lv_entry ([.ref h0, .int p1]) (n := 4) (Nat.le_of_ble_eq_true rfl)
  rw [lg_entry_eq]
  generalize (lg_sl ([.ref h0, .int p1]) ++ List.replicate (4 - (lg_sl ([.ref h0, .int p1])).length) Slot.unset).toArray = ls at hl ⊢
  have hl : lv_has ls 4 [(0, .ref h0), (1, .int p1)] := hl
  refine lv_iconst (v := 0) hx hb dX0_namesAhead_0 (by decide) ?_
  refine lv_istore_n (lv' := [(2, .int 0), (0, .ref h0), (1, .int p1)]) hx hb dX0_namesAhead_1 rfl hl (by decide) rfl (fun ls hl => ?_)
  refine lv_iconst (v := 0) hx hb dX0_namesAhead_2 (by decide) ?_
  refine lv_istore_n (lv' := [(3, .int 0), (2, .int 0), (0, .ref h0), (1, .int p1)]) hx hb dX0_namesAhead_3 rfl hl (by decide) rfl (fun ls hl => ?_)
  refine (lp_sX0_namesAhead h0 pl amonths afull alean alines ahasMoon amoonStart amoonStep aplaceCount areportCount adeedCount re de kpl pa p_name p_trust p1 gamonths gafull galean gahasMoon gaplaceCount gareportCount gadeedCount gp1 hx hb hml hown hts hK hz hF0 hFA0 (Nat.le_of_ble_eq_true rfl) (Nat.le_of_ble_eq_true rfl) (Nat.zero_le _) (Nat.zero_le _) (fun v H locs ls hP hS hl => ?_) 26) 0 0 _ _ _ (gi_w (gi_c 0 0 (by decide)) (by decide)) (by have k0 : (0 : Int32).toInt = 0 := (by decide); omega) hP hS (lv_sub hl [2, 3, 1, 0] rfl)
  · skip
    exact W.iret (v := v) hx hb hr (fun t ht hW => ⟨⟨v, (), rfl, (gi_any v), trivial⟩, hS.F ht⟩) hS.2.2 dX0_namesAhead_43
theorem dX0_standingOf_0 : decode cX0_standingOf 0 = .ok (.iconst 0, 1) := by decide +kernel
theorem dX0_standingOf_1 : decode cX0_standingOf 1 = .ok (.istore_n 2, 1) := by decide +kernel
theorem dX0_standingOf_2 : decode cX0_standingOf 2 = .ok (.iconst 0, 1) := by decide +kernel
theorem dX0_standingOf_3 : decode cX0_standingOf 3 = .ok (.istore_n 3, 1) := by decide +kernel
theorem dX0_standingOf_4 : decode cX0_standingOf 4 = .ok (.iload_n 3, 1) := by decide +kernel
theorem dX0_standingOf_5 : decode cX0_standingOf 5 = .ok (.aload_n 0, 1) := by decide +kernel
theorem dX0_standingOf_6 : decode cX0_standingOf 6 = .ok (.getfield 58, 3) := by decide +kernel
theorem dX0_standingOf_9 : decode cX0_standingOf 9 = .ok (.if_icmp .ge 37, 3) := by decide +kernel
theorem dX0_standingOf_12 : decode cX0_standingOf 12 = .ok (.aload_n 0, 1) := by decide +kernel
theorem dX0_standingOf_13 : decode cX0_standingOf 13 = .ok (.getfield 19, 3) := by decide +kernel
theorem dX0_standingOf_16 : decode cX0_standingOf 16 = .ok (.iload_n 3, 1) := by decide +kernel
theorem dX0_standingOf_17 : decode cX0_standingOf 17 = .ok (.aaload, 1) := by decide +kernel
theorem dX0_standingOf_18 : decode cX0_standingOf 18 = .ok (.getfield 77, 3) := by decide +kernel
theorem dX0_standingOf_21 : decode cX0_standingOf 21 = .ok (.iload_n 1, 1) := by decide +kernel
theorem dX0_standingOf_22 : decode cX0_standingOf 22 = .ok (.if_icmp .ne 18, 3) := by decide +kernel
theorem dX0_standingOf_25 : decode cX0_standingOf 25 = .ok (.aload_n 0, 1) := by decide +kernel
theorem dX0_standingOf_26 : decode cX0_standingOf 26 = .ok (.getfield 19, 3) := by decide +kernel
theorem dX0_standingOf_29 : decode cX0_standingOf 29 = .ok (.iload_n 3, 1) := by decide +kernel
theorem dX0_standingOf_30 : decode cX0_standingOf 30 = .ok (.aaload, 1) := by decide +kernel
theorem dX0_standingOf_31 : decode cX0_standingOf 31 = .ok (.getfield 96, 3) := by decide +kernel
theorem dX0_standingOf_34 : decode cX0_standingOf 34 = .ok (.ifCond .ne 6, 3) := by decide +kernel
theorem dX0_standingOf_37 : decode cX0_standingOf 37 = .ok (.iinc 2 1, 3) := by decide +kernel
theorem dX0_standingOf_40 : decode cX0_standingOf 40 = .ok (.iinc 3 1, 3) := by decide +kernel
theorem dX0_standingOf_43 : decode cX0_standingOf 43 = .ok (.goto (-39), 3) := by decide +kernel
theorem dX0_standingOf_46 : decode cX0_standingOf 46 = .ok (.iload_n 2, 1) := by decide +kernel
theorem dX0_standingOf_47 : decode cX0_standingOf 47 = .ok (.ireturn, 1) := by decide +kernel
set_option maxHeartbeats 4000000 in
set_option maxRecDepth 100000 in
theorem lp_sX0_standingOf {p : Program} {l : Launch} {e : Env} {R : Room} {s : State} {m : MethodId} {args : Array Value} {below : List Frame} {meth : Method} {c : Code} {Q : State → Prop} {A : Nat → Prop} {cells slots : Nat} {dC : Nat → ClassId} {dI : Nat → Nat → Nat} (h0 : Nat) (re : Nat) (amonths : Int32) (afull : Int32) (alean : Int32) (alines : Int32) (ahasMoon : Int32) (amoonStart : Int32) (amoonStep : Int32) (aplaceCount : Int32) (areportCount : Int32) (adeedCount : Int32) (pl : Nat) (de : Nat) (kre : ClassId) (ra : Nat → Nat) (r_place : Nat → Int32) (r_kind : Nat → Int32) (r_month : Nat → Int32) (r_day : Nat → Int32) (r_known : Nat → Int32) (r_struck : Nat → Int32) (p1 : Int32) (gamonths : gi amonths 0 24) (gafull : gi afull 0 5) (galean : gi alean 0 5) (gahasMoon : gi ahasMoon 0 1) (gaplaceCount : gi aplaceCount 0 6) (gareportCount : gi areportCount 0 24) (gadeedCount : gi adeedCount 0 8) (gr_place : ga r_place 24 0 5) (gr_month : ga r_month 24 0 23) (gr_struck : ga r_struck 24 0 1) (hx : p.tables.exec = Jvm.exec) (hb : c.code = cX0_standingOf) (hml : c.maxLocals = 4) (hown : s.vm.findClass RX0 = some m.cls) (hts : ∀ w ∈ ((.code yX0_standingOf cX0_standingOf 4 (some .int) :: wsGA) : List Cond), w.before args s = true) (hK : va_K (dC, dI) vwCl [(kre, .object RX7)] s) (hz : nzA s) (hF0 : va_P (dC, dI) vwCl (gz_fam 24 ra 7 (fun i => [.int (r_place i), .int (r_kind i), .int (r_month i), .int (r_day i), .int (r_known i), .int (r_struck i)])) s.heap) (hFA0 : gz_ap A (gz_fam 24 ra 7 (fun i => [.int (r_place i), .int (r_kind i), .int (r_month i), .int (r_day i), .int (r_known i), .int (r_struck i)]))) (hRf : 0 ≤ R.frames) (hRl : 0 ≤ R.locals) (hRc : cells ≤ R.cells) (hRs : slots ≤ R.slots) (kr47 : ∀ (v : Int32) (H : Heap) (locs : List Loc) (ls : Array Slot), va_P (dC, dI) vwCl [(h0, .inr (0, [.int amonths, .int afull, .int alean, .int alines, .int ahasMoon, .int amoonStart, .int amoonStep, .int aplaceCount, .int areportCount, .int adeedCount, .ref pl, .ref re, .ref de])), (re, .inl (kre, 24, .inr (.inr (.inr (.inr (fun i => some (ra i)))))))] H → va_S A s.heap H locs → lv_has ls 4 [] → W p l e R s m args below meth c H locs cells slots Q (F0 m 47 ls [.int v])) : ∀ z : Nat, (∀ (v2 : Int32) (v3 : Int32) (H : Heap) (locs : List Loc) (ls : Array Slot), gi v3 0 24 → 49 + (-2) * v3.toInt < (z : Int) → va_P (dC, dI) vwCl [(h0, .inr (0, [.int amonths, .int afull, .int alean, .int alines, .int ahasMoon, .int amoonStart, .int amoonStep, .int aplaceCount, .int areportCount, .int adeedCount, .ref pl, .ref re, .ref de])), (re, .inl (kre, 24, .inr (.inr (.inr (.inr (fun i => some (ra i)))))))] H → va_S A s.heap H locs → lv_has ls 4 [(0, .ref h0), (1, .int p1), (2, .int v2), (3, .int v3)] → W p l e R s m args below meth c H locs cells slots Q (F0 m 4 ls [])) := by
  intro z
  induction z with
  | zero =>
    intro v2 v3 H locs ls gv3 hmu hP hS hl
    exact absurd hmu (by have hv31 := gv3.1; have hv32 := gv3.2; omega)
  | succ z ih =>
      intro v2 v3 H locs ls gv3 hmu hP hS hl
      refine lv_iload_n hx hb dX0_standingOf_4 rfl (lv_at hl 3 rfl) ?_
      refine lv_aload_n hx hb dX0_standingOf_5 rfl (lv_at hl 0 rfl) ?_
      refine va_get (D := (dC, dI)) (ci := 0) (v := .int areportCount) (C := RX0) (T := TX0) (N := 13) hx hb hts (fun w h => List.mem_cons_of_mem _ (jnGA_X0 w h)) hown hK hP 0 rfl rfl 8 (by decide) (hts _ (List.mem_cons_of_mem _ mGA_160)) (fun _ h9 => h9) rfl dX0_standingOf_6 ?_
      refine lv_icmp_ge (tgt := 46) hx hb dX0_standingOf_9 (by decide) (fun c_547 => ?_) (fun c_547 => ?_)
      · refine lv_iload_n hx hb dX0_standingOf_46 rfl (lv_at hl 2 rfl) ?_
        exact kr47 v2 _ _ _ hP hS (lv_sub hl [] rfl)
      · have g_548 : gi v3 0 23 := gi_lt_l (Int32.not_le.mp c_547) gv3 gareportCount (by decide)
        have g_549 : gi areportCount 1 24 := gi_lt_r (Int32.not_le.mp c_547) gv3 gareportCount (by decide)
        refine lv_aload_n hx hb dX0_standingOf_12 rfl (lv_at hl 0 rfl) ?_
        refine va_get (D := (dC, dI)) (ci := 0) (v := .ref re) (C := RX0) (T := TX0) (N := 13) hx hb hts (fun w h => List.mem_cons_of_mem _ (jnGA_X0 w h)) hown hK hP 0 rfl rfl 11 (by decide) (hts _ (List.mem_cons_of_mem _ mGA_72)) (fun _ h9 => h9) rfl dX0_standingOf_13 ?_
        refine lv_iload_n hx hb dX0_standingOf_16 rfl (lv_at hl 3 rfl) ?_
        refine va_aldq hx hb hK hP 1 0 rfl rfl (gi_in g_548 (by decide)) dX0_standingOf_17 ?_
        refine W.eq (g2 := F0 m 18 ls [.ref (ra v3.toNatClampNeg)]) rfl ?_
        refine va_get (D := (dC, dI)) (ci := 7) (v := .int (r_place v3.toNatClampNeg)) (C := RX7) (T := TX7) (N := 6) hx hb hts (fun w h => List.mem_cons_of_mem _ (jnGA_X7 w h)) hown hK (gz_ro hF0 hFA0 hS) (v3.toNatClampNeg) (gz_fam_at (gz_clt (gi_in (n := 24) g_548 (by decide)))) rfl 0 (by decide) (hts _ (List.mem_cons_of_mem _ mGA_317)) (fun _ h9 => h9) rfl dX0_standingOf_18 ?_
        refine lv_topi (fun x_550 ex_550 => ?_)
        have gx_550 : gi x_550 0 5 := ga_at gr_place (gi_in (n := 24) g_548 (by decide)) ex_550
        refine lv_iload_n hx hb dX0_standingOf_21 rfl (lv_at hl 1 rfl) ?_
        refine lv_icmp_ne (tgt := 40) hx hb dX0_standingOf_22 (by decide) (fun c_551 => ?_) (fun c_551 => ?_)
        · obtain ⟨x_552, ex_552⟩ : ∃ y : Int32, y = v3 + 1 := ⟨_, rfl⟩
          have gx_552 : gi x_552 1 24 := gi_add ex_552 g_548 (gi_c 1 1 (by decide)) (by decide)
          refine lv_iinc (v := x_552) (lv' := [(3, .int x_552), (0, .ref h0), (1, .int p1), (2, .int v2)]) hx hb dX0_standingOf_40 hl (k := 3) rfl (by rw [ex_552]; rfl) (by decide) rfl (fun ls hl => ?_)
          refine lv_goto (tgt := 4) hx hb dX0_standingOf_43 (by decide) ?_
          exact ih v2 x_552 _ _ _ (gi_w gx_552 (by decide)) (by have av3 := gv3.1; have bv3 := gv3.2; have qgx_552 := gx_552.1; have rgx_552 := gx_552.2; have igx_552 : x_552.toInt = v3.toInt + 1 := (by have hc1 : (1 : Int32).toInt = 1 := (by decide); have h9 := gi_addI ex_552 (by have h1 := g_548.1; have h2 := (gi_c 1 1 (by decide)).1; have h3 := g_548.2; have h4 := (gi_c 1 1 (by decide)).2; omega) (by have h1 := g_548.1; have h2 := (gi_c 1 1 (by decide)).1; have h3 := g_548.2; have h4 := (gi_c 1 1 (by decide)).2; omega); rw [hc1] at h9; exact h9); have qgv3 := g_548.1; have rgv3 := g_548.2; omega) hP hS (lv_sub hl [1, 2, 3, 0] rfl)
        · have g_553 : gi p1 0 5 := gi_eq c_551.symm gx_550
          refine lv_aload_n hx hb dX0_standingOf_25 rfl (lv_at hl 0 rfl) ?_
          refine va_get (D := (dC, dI)) (ci := 0) (v := .ref re) (C := RX0) (T := TX0) (N := 13) hx hb hts (fun w h => List.mem_cons_of_mem _ (jnGA_X0 w h)) hown hK hP 0 rfl rfl 11 (by decide) (hts _ (List.mem_cons_of_mem _ mGA_72)) (fun _ h9 => h9) rfl dX0_standingOf_26 ?_
          refine lv_iload_n hx hb dX0_standingOf_29 rfl (lv_at hl 3 rfl) ?_
          refine va_aldq hx hb hK hP 1 0 rfl rfl (gi_in g_548 (by decide)) dX0_standingOf_30 ?_
          refine W.eq (g2 := F0 m 31 ls [.ref (ra v3.toNatClampNeg)]) rfl ?_
          refine va_get (D := (dC, dI)) (ci := 7) (v := .int (r_struck v3.toNatClampNeg)) (C := RX7) (T := TX7) (N := 6) hx hb hts (fun w h => List.mem_cons_of_mem _ (jnGA_X7 w h)) hown hK (gz_ro hF0 hFA0 hS) (v3.toNatClampNeg) (gz_fam_at (gz_clt (gi_in (n := 24) g_548 (by decide)))) rfl 5 (by decide) (hts _ (List.mem_cons_of_mem _ mGA_322)) (fun _ h9 => h9) rfl dX0_standingOf_31 ?_
          refine lv_topi (fun x_554 ex_554 => ?_)
          have gx_554 : gi x_554 0 1 := ga_at gr_struck (gi_in (n := 24) g_548 (by decide)) ex_554
          refine lv_if_ne (tgt := 40) hx hb dX0_standingOf_34 (by decide) (fun c_555 => ?_) (fun c_555 => ?_)
          · have g_556 : gi x_554 1 1 := gi_ne_lo c_555 gx_554 (gi_c 0 0 (by decide)) (by decide)
            obtain ⟨x_557, ex_557⟩ : ∃ y : Int32, y = v3 + 1 := ⟨_, rfl⟩
            have gx_557 : gi x_557 1 24 := gi_add ex_557 g_548 (gi_c 1 1 (by decide)) (by decide)
            refine lv_iinc (v := x_557) (lv' := [(3, .int x_557), (0, .ref h0), (1, .int p1), (2, .int v2)]) hx hb dX0_standingOf_40 hl (k := 3) rfl (by rw [ex_557]; rfl) (by decide) rfl (fun ls hl => ?_)
            refine lv_goto (tgt := 4) hx hb dX0_standingOf_43 (by decide) ?_
            exact ih v2 x_557 _ _ _ (gi_w gx_557 (by decide)) (by have av3 := gv3.1; have bv3 := gv3.2; have qgx_557 := gx_557.1; have rgx_557 := gx_557.2; have igx_557 : x_557.toInt = v3.toInt + 1 := (by have hc1 : (1 : Int32).toInt = 1 := (by decide); have h9 := gi_addI ex_557 (by have h1 := g_548.1; have h2 := (gi_c 1 1 (by decide)).1; have h3 := g_548.2; have h4 := (gi_c 1 1 (by decide)).2; omega) (by have h1 := g_548.1; have h2 := (gi_c 1 1 (by decide)).1; have h3 := g_548.2; have h4 := (gi_c 1 1 (by decide)).2; omega); rw [hc1] at h9; exact h9); have qgv3 := g_548.1; have rgv3 := g_548.2; omega) hP hS (lv_sub hl [1, 2, 3, 0] rfl)
          · have g_558 : gi x_554 0 0 := gi_eq c_555 (gi_c 0 0 (by decide))
            obtain ⟨x_559, ex_559⟩ : ∃ y : Int32, y = v2 + 1 := ⟨_, rfl⟩
            refine lv_iinc (v := x_559) (lv' := [(2, .int x_559), (0, .ref h0), (1, .int p1), (3, .int v3)]) hx hb dX0_standingOf_37 hl (k := 2) rfl (by rw [ex_559]; rfl) (by decide) rfl (fun ls hl => ?_)
            obtain ⟨x_560, ex_560⟩ : ∃ y : Int32, y = v3 + 1 := ⟨_, rfl⟩
            have gx_560 : gi x_560 1 24 := gi_add ex_560 g_548 (gi_c 1 1 (by decide)) (by decide)
            refine lv_iinc (v := x_560) (lv' := [(3, .int x_560), (2, .int x_559), (0, .ref h0), (1, .int p1)]) hx hb dX0_standingOf_40 hl (k := 3) rfl (by rw [ex_560]; rfl) (by decide) rfl (fun ls hl => ?_)
            refine lv_goto (tgt := 4) hx hb dX0_standingOf_43 (by decide) ?_
            exact ih x_559 x_560 _ _ _ (gi_w gx_560 (by decide)) (by have av3 := gv3.1; have bv3 := gv3.2; have qgx_560 := gx_560.1; have rgx_560 := gx_560.2; have igx_560 : x_560.toInt = v3.toInt + 1 := (by have hc1 : (1 : Int32).toInt = 1 := (by decide); have h9 := gi_addI ex_560 (by have h1 := g_548.1; have h2 := (gi_c 1 1 (by decide)).1; have h3 := g_548.2; have h4 := (gi_c 1 1 (by decide)).2; omega) (by have h1 := g_548.1; have h2 := (gi_c 1 1 (by decide)).1; have h3 := g_548.2; have h4 := (gi_c 1 1 (by decide)).2; omega); rw [hc1] at h9; exact h9); have qgv3 := g_548.1; have rgv3 := g_548.2; omega) hP hS (lv_sub hl [2, 3, 1, 0] rfl)
set_option maxHeartbeats 4000000 in
set_option maxRecDepth 100000 in
theorem sX0_standingOf (l : Launch) (dC : Nat → ClassId) (dI : Nat → Nat → Nat) (h0 : Nat) (re : Nat) (amonths : Int32) (afull : Int32) (alean : Int32) (alines : Int32) (ahasMoon : Int32) (amoonStart : Int32) (amoonStep : Int32) (aplaceCount : Int32) (areportCount : Int32) (adeedCount : Int32) (pl : Nat) (de : Nat) (kre : ClassId) (ra : Nat → Nat) (r_place : Nat → Int32) (r_kind : Nat → Int32) (r_month : Nat → Int32) (r_day : Nat → Int32) (r_known : Nat → Int32) (r_struck : Nat → Int32) (p1 : Int32) (gamonths : gi amonths 0 24) (gafull : gi afull 0 5) (galean : gi alean 0 5) (gahasMoon : gi ahasMoon 0 1) (gaplaceCount : gi aplaceCount 0 6) (gareportCount : gi areportCount 0 24) (gadeedCount : gi adeedCount 0 8) (gr_place : ga r_place 24 0 5) (gr_month : ga r_month 24 0 23) (gr_struck : ga r_struck 24 0 1) : Met l yX0_standingOf (.code yX0_standingOf cX0_standingOf 4 (some .int) :: wsGA) ({ frames := 0, cells := 0, slots := 0, locals := 0 }) (va_Pc [.ref h0, .int p1] (fun U => va_P (dC, dI) vwCl [(h0, .inr (0, [.int amonths, .int afull, .int alean, .int alines, .int ahasMoon, .int amoonStart, .int amoonStep, .int aplaceCount, .int areportCount, .int adeedCount, .ref pl, .ref re, .ref de])), (re, .inl (kre, 24, .inr (.inr (.inr (.inr (fun i => some (ra i)))))))] U.heap ∧ va_K (dC, dI) vwCl [(kre, .object RX7)] U ∧ nzA U ∧ va_P (dC, dI) vwCl (gz_fam 24 ra 7 (fun i => [.int (r_place i), .int (r_kind i), .int (r_month i), .int (r_day i), .int (r_known i), .int (r_struck i)])) U.heap)) (va_Qi (fun (r : Int32) (u : Unit) => gi r (-2147483648) 2147483647) (fun _ _ => True) (fun _ => False)) 0 0 (fun _ => False) := by
  refine Met.ofW (cc := cX0_standingOf) (maxL := 4) (ret := (some .int)) (by decide) rfl ?_
  intro p e s m args below meth c s₁ B hml hv
  obtain ⟨rfl, hP, hK, hz, hF0⟩ := hv
  have hx := B.exec
  have hb := B.bytes
  have hr := B.returns
  have hts := atoms_spec (ws := (.code yX0_standingOf cX0_standingOf 4 (some .int) :: wsGA)) B.pre
  have hown : s.vm.findClass RX0 = some m.cls := findClass_of_methodNamed B.named
  have hlocks := B.notSynchronized
  have hS : va_S (fun _ => False) s.heap s.heap [] := va_S.rf
  have hFA0 : gz_ap (fun _ => False) (gz_fam 24 ra 7 (fun i => [.int (r_place i), .int (r_kind i), .int (r_month i), .int (r_day i), .int (r_known i), .int (r_struck i)])) := gz_ap0
  have hl := lv_entry ([.ref h0, .int p1]) (n := 4) (Nat.le_of_ble_eq_true rfl)
  rw [lg_entry_eq]
  generalize (lg_sl ([.ref h0, .int p1]) ++ List.replicate (4 - (lg_sl ([.ref h0, .int p1])).length) Slot.unset).toArray = ls at hl ⊢
  have hl : lv_has ls 4 [(0, .ref h0), (1, .int p1)] := hl
  refine lv_iconst (v := 0) hx hb dX0_standingOf_0 (by decide) ?_
  refine lv_istore_n (lv' := [(2, .int 0), (0, .ref h0), (1, .int p1)]) hx hb dX0_standingOf_1 rfl hl (by decide) rfl (fun ls hl => ?_)
  refine lv_iconst (v := 0) hx hb dX0_standingOf_2 (by decide) ?_
  refine lv_istore_n (lv' := [(3, .int 0), (2, .int 0), (0, .ref h0), (1, .int p1)]) hx hb dX0_standingOf_3 rfl hl (by decide) rfl (fun ls hl => ?_)
  refine (lp_sX0_standingOf h0 re amonths afull alean alines ahasMoon amoonStart amoonStep aplaceCount areportCount adeedCount pl de kre ra r_place r_kind r_month r_day r_known r_struck p1 gamonths gafull galean gahasMoon gaplaceCount gareportCount gadeedCount gr_place gr_month gr_struck hx hb hml hown hts hK hz hF0 hFA0 (Nat.le_of_ble_eq_true rfl) (Nat.le_of_ble_eq_true rfl) (Nat.zero_le _) (Nat.zero_le _) (fun v H locs ls hP hS hl => ?_) 62) 0 0 _ _ _ (gi_w (gi_c 0 0 (by decide)) (by decide)) (by have k0 : (0 : Int32).toInt = 0 := (by decide); omega) hP hS (lv_sub hl [2, 3, 1, 0] rfl)
  · skip
    exact W.iret (v := v) hx hb hr (fun t ht hW => ⟨⟨v, (), rfl, (gi_any v), trivial⟩, hS.F ht⟩) hS.2.2 dX0_standingOf_47
theorem dX0_standing_0 : decode cX0_standing 0 = .ok (.iconst 0, 1) := by decide +kernel
theorem dX0_standing_1 : decode cX0_standing 1 = .ok (.istore_n 1, 1) := by decide +kernel
theorem dX0_standing_2 : decode cX0_standing 2 = .ok (.iconst 0, 1) := by decide +kernel
theorem dX0_standing_3 : decode cX0_standing 3 = .ok (.istore_n 2, 1) := by decide +kernel
theorem dX0_standing_4 : decode cX0_standing 4 = .ok (.iload_n 2, 1) := by decide +kernel
theorem dX0_standing_5 : decode cX0_standing 5 = .ok (.aload_n 0, 1) := by decide +kernel
theorem dX0_standing_6 : decode cX0_standing 6 = .ok (.getfield 55, 3) := by decide +kernel
theorem dX0_standing_9 : decode cX0_standing 9 = .ok (.if_icmp .ge 17, 3) := by decide +kernel
theorem dX0_standing_12 : decode cX0_standing 12 = .ok (.iload_n 1, 1) := by decide +kernel
theorem dX0_standing_13 : decode cX0_standing 13 = .ok (.aload_n 0, 1) := by decide +kernel
theorem dX0_standing_14 : decode cX0_standing 14 = .ok (.iload_n 2, 1) := by decide +kernel
theorem dX0_standing_15 : decode cX0_standing 15 = .ok (.invokevirtual 107, 3) := by decide +kernel
theorem dX0_standing_18 : decode cX0_standing 18 = .ok (.iadd, 1) := by decide +kernel
theorem dX0_standing_19 : decode cX0_standing 19 = .ok (.istore_n 1, 1) := by decide +kernel
theorem dX0_standing_20 : decode cX0_standing 20 = .ok (.iinc 2 1, 3) := by decide +kernel
theorem dX0_standing_23 : decode cX0_standing 23 = .ok (.goto (-19), 3) := by decide +kernel
theorem dX0_standing_26 : decode cX0_standing 26 = .ok (.iload_n 1, 1) := by decide +kernel
theorem dX0_standing_27 : decode cX0_standing 27 = .ok (.ireturn, 1) := by decide +kernel
set_option maxHeartbeats 4000000 in
set_option maxRecDepth 100000 in
theorem lp_sX0_standing {p : Program} {l : Launch} {e : Env} {R : Room} {s : State} {m : MethodId} {args : Array Value} {below : List Frame} {meth : Method} {c : Code} {Q : State → Prop} {A : Nat → Prop} {cells slots : Nat} {dC : Nat → ClassId} {dI : Nat → Nat → Nat} (h0 : Nat) (re : Nat) (amonths : Int32) (afull : Int32) (alean : Int32) (alines : Int32) (ahasMoon : Int32) (amoonStart : Int32) (amoonStep : Int32) (aplaceCount : Int32) (areportCount : Int32) (adeedCount : Int32) (pl : Nat) (de : Nat) (kre : ClassId) (ra : Nat → Nat) (r_place : Nat → Int32) (r_kind : Nat → Int32) (r_month : Nat → Int32) (r_day : Nat → Int32) (r_known : Nat → Int32) (r_struck : Nat → Int32) (gamonths : gi amonths 0 24) (gafull : gi afull 0 5) (galean : gi alean 0 5) (gahasMoon : gi ahasMoon 0 1) (gaplaceCount : gi aplaceCount 0 6) (gareportCount : gi areportCount 0 24) (gadeedCount : gi adeedCount 0 8) (gr_place : ga r_place 24 0 5) (gr_month : ga r_month 24 0 23) (gr_struck : ga r_struck 24 0 1) (hx : p.tables.exec = Jvm.exec) (hb : c.code = cX0_standing) (hml : c.maxLocals = 3) (hown : s.vm.findClass RX0 = some m.cls) (hts : ∀ w ∈ ((.code yX0_standing cX0_standing 3 (some .int) :: wsGA) : List Cond), w.before args s = true) (hK : va_K (dC, dI) vwCl [(kre, .object RX7)] s) (hz : nzA s) (hF0 : va_P (dC, dI) vwCl (gz_fam 24 ra 7 (fun i => [.int (r_place i), .int (r_kind i), .int (r_month i), .int (r_day i), .int (r_known i), .int (r_struck i)])) s.heap) (hFA0 : gz_ap A (gz_fam 24 ra 7 (fun i => [.int (r_place i), .int (r_kind i), .int (r_month i), .int (r_day i), .int (r_known i), .int (r_struck i)]))) (hRf : 1 ≤ R.frames) (hRl : 23 ≤ R.locals) (hRc : cells ≤ R.cells) (hRs : slots ≤ R.slots) (kr27 : ∀ (v : Int32) (H : Heap) (locs : List Loc) (ls : Array Slot), va_P (dC, dI) vwCl [(h0, .inr (0, [.int amonths, .int afull, .int alean, .int alines, .int ahasMoon, .int amoonStart, .int amoonStep, .int aplaceCount, .int areportCount, .int adeedCount, .ref pl, .ref re, .ref de])), (re, .inl (kre, 24, .inr (.inr (.inr (.inr (fun i => some (ra i)))))))] H → va_S A s.heap H locs → lv_has ls 3 [] → W p l e R s m args below meth c H locs cells slots Q (F0 m 27 ls [.int v])) : ∀ z : Nat, (∀ (v1 : Int32) (v2 : Int32) (H : Heap) (locs : List Loc) (ls : Array Slot), gi v2 0 6 → 13 + (-2) * v2.toInt < (z : Int) → va_P (dC, dI) vwCl [(h0, .inr (0, [.int amonths, .int afull, .int alean, .int alines, .int ahasMoon, .int amoonStart, .int amoonStep, .int aplaceCount, .int areportCount, .int adeedCount, .ref pl, .ref re, .ref de])), (re, .inl (kre, 24, .inr (.inr (.inr (.inr (fun i => some (ra i)))))))] H → va_S A s.heap H locs → lv_has ls 3 [(0, .ref h0), (1, .int v1), (2, .int v2)] → W p l e R s m args below meth c H locs cells slots Q (F0 m 4 ls [])) := by
  intro z
  induction z with
  | zero =>
    intro v1 v2 H locs ls gv2 hmu hP hS hl
    exact absurd hmu (by have hv21 := gv2.1; have hv22 := gv2.2; omega)
  | succ z ih =>
      intro v1 v2 H locs ls gv2 hmu hP hS hl
      refine lv_iload_n hx hb dX0_standing_4 rfl (lv_at hl 2 rfl) ?_
      refine lv_aload_n hx hb dX0_standing_5 rfl (lv_at hl 0 rfl) ?_
      refine va_get (D := (dC, dI)) (ci := 0) (v := .int aplaceCount) (C := RX0) (T := TX0) (N := 13) hx hb hts (fun w h => List.mem_cons_of_mem _ (jnGA_X0 w h)) hown hK hP 0 rfl rfl 7 (by decide) (hts _ (List.mem_cons_of_mem _ mGA_159)) (fun _ h9 => h9) rfl dX0_standing_6 ?_
      refine lv_icmp_ge (tgt := 26) hx hb dX0_standing_9 (by decide) (fun c_43 => ?_) (fun c_43 => ?_)
      · refine lv_iload_n hx hb dX0_standing_26 rfl (lv_at hl 1 rfl) ?_
        exact kr27 v1 _ _ _ hP hS (lv_sub hl [] rfl)
      · have g_44 : gi v2 0 5 := gi_lt_l (Int32.not_le.mp c_43) gv2 gaplaceCount (by decide)
        have g_45 : gi aplaceCount 1 6 := gi_lt_r (Int32.not_le.mp c_43) gv2 gaplaceCount (by decide)
        refine lv_iload_n hx hb dX0_standing_12 rfl (lv_at hl 1 rfl) ?_
        refine lv_aload_n hx hb dX0_standing_13 rfl (lv_at hl 0 rfl) ?_
        refine lv_iload_n hx hb dX0_standing_14 rfl (lv_at hl 2 rfl) ?_
        have hPc := hP.sub (ws' := [(h0, .inr (0, [.int amonths, .int afull, .int alean, .int alines, .int ahasMoon, .int amoonStart, .int amoonStep, .int aplaceCount, .int areportCount, .int adeedCount, .ref pl, .ref re, .ref de])), (re, .inl (kre, 24, .inr (.inr (.inr (.inr (fun i => some (ra i)))))))]) [0, 1] rfl
        have hKc := hK.sub (tys' := [(kre, .object RX7)]) [0] rfl
        refine va_calli (va_runV (As := [.int v2]) (rest := [.int v1]) ⟨hx, hb, hml, hown, hts⟩ (sX0_standingOf l dC dI h0 re amonths afull alean alines ahasMoon amoonStart amoonStep aplaceCount areportCount adeedCount pl de kre ra r_place r_kind r_month r_day r_known r_struck v2 gamonths gafull galean gahasMoon (gi_w g_45 (by decide)) gareportCount gadeedCount gr_place gr_month gr_struck) (cwV 1 hts (gz_gV mGA_906 mGA_375 mGA_376 mGA_13 mGA_377 goodGA) rfl rfl rfl (by decide +kernel) ⟨Nat.le_trans (Nat.le_of_ble_eq_true rfl) hRf, Nat.le_trans (Nat.le_of_ble_eq_true rfl) hRl⟩) ⟨fun a U g mk q => by obtain ⟨q0, qP, qK, qZ, qF0⟩ := q; exact ⟨q0, qP, va_K.moved (u := U) (U := U.calling g mk a) (Vm.Alike.refl U.vm) qK, nzA_same (u := U) (U := U.calling g mk a) rfl qZ, qF0⟩, va_recv hKc hPc (ci := 0) (q0 := 0) rfl rfl, fun U hU hW => ⟨rfl, by rw [hU]; exact hPc, va_K.moved hW.alike hKc, nzA_warm hW hz, by rw [hU]; exact gz_ro hF0 hFA0 hS⟩⟩ rfl rfl hl.1 rfl (lv_room (Nat.le_of_ble_eq_true rfl)) dX0_standing_15 ⟨hRc, hRs⟩) hS (fun q _ h => h.elim) (fun q h => h.elim) (fun r_46 u t H1 locs ht hvm hw hB hz1 hk1 hS => ?_)
        have hP := gz_keep hP hk1
        generalize H1 = H at hP hS ⊢
        refine lv_iadd hx hb dX0_standing_18 ?_
        refine lv_topi (fun x_47 ex_47 => ?_)
        refine lv_istore_n (lv' := [(1, .int x_47), (0, .ref h0), (2, .int v2)]) hx hb dX0_standing_19 rfl hl (by decide) rfl (fun ls hl => ?_)
        obtain ⟨x_48, ex_48⟩ : ∃ y : Int32, y = v2 + 1 := ⟨_, rfl⟩
        have gx_48 : gi x_48 1 6 := gi_add ex_48 g_44 (gi_c 1 1 (by decide)) (by decide)
        refine lv_iinc (v := x_48) (lv' := [(2, .int x_48), (1, .int x_47), (0, .ref h0)]) hx hb dX0_standing_20 hl (k := 2) rfl (by rw [ex_48]; rfl) (by decide) rfl (fun ls hl => ?_)
        refine lv_goto (tgt := 4) hx hb dX0_standing_23 (by decide) ?_
        exact ih x_47 x_48 _ _ _ (gi_w gx_48 (by decide)) (by have av2 := gv2.1; have bv2 := gv2.2; have qgx_48 := gx_48.1; have rgx_48 := gx_48.2; have igx_48 : x_48.toInt = v2.toInt + 1 := (by have hc1 : (1 : Int32).toInt = 1 := (by decide); have h9 := gi_addI ex_48 (by have h1 := g_44.1; have h2 := (gi_c 1 1 (by decide)).1; have h3 := g_44.2; have h4 := (gi_c 1 1 (by decide)).2; omega) (by have h1 := g_44.1; have h2 := (gi_c 1 1 (by decide)).1; have h3 := g_44.2; have h4 := (gi_c 1 1 (by decide)).2; omega); rw [hc1] at h9; exact h9); have qgv2 := g_44.1; have rgv2 := g_44.2; omega) hP hS (lv_sub hl [2, 1, 0] rfl)
set_option maxHeartbeats 4000000 in
set_option maxRecDepth 100000 in
theorem sX0_standing (l : Launch) (dC : Nat → ClassId) (dI : Nat → Nat → Nat) (h0 : Nat) (re : Nat) (amonths : Int32) (afull : Int32) (alean : Int32) (alines : Int32) (ahasMoon : Int32) (amoonStart : Int32) (amoonStep : Int32) (aplaceCount : Int32) (areportCount : Int32) (adeedCount : Int32) (pl : Nat) (de : Nat) (kre : ClassId) (ra : Nat → Nat) (r_place : Nat → Int32) (r_kind : Nat → Int32) (r_month : Nat → Int32) (r_day : Nat → Int32) (r_known : Nat → Int32) (r_struck : Nat → Int32) (gamonths : gi amonths 0 24) (gafull : gi afull 0 5) (galean : gi alean 0 5) (gahasMoon : gi ahasMoon 0 1) (gaplaceCount : gi aplaceCount 0 6) (gareportCount : gi areportCount 0 24) (gadeedCount : gi adeedCount 0 8) (gr_place : ga r_place 24 0 5) (gr_month : ga r_month 24 0 23) (gr_struck : ga r_struck 24 0 1) : Met l yX0_standing (.code yX0_standing cX0_standing 3 (some .int) :: wsGA) ({ frames := 1, cells := 0, slots := 0, locals := 23 }) (va_Pc [.ref h0] (fun U => va_P (dC, dI) vwCl [(h0, .inr (0, [.int amonths, .int afull, .int alean, .int alines, .int ahasMoon, .int amoonStart, .int amoonStep, .int aplaceCount, .int areportCount, .int adeedCount, .ref pl, .ref re, .ref de])), (re, .inl (kre, 24, .inr (.inr (.inr (.inr (fun i => some (ra i)))))))] U.heap ∧ va_K (dC, dI) vwCl [(kre, .object RX7)] U ∧ nzA U ∧ va_P (dC, dI) vwCl (gz_fam 24 ra 7 (fun i => [.int (r_place i), .int (r_kind i), .int (r_month i), .int (r_day i), .int (r_known i), .int (r_struck i)])) U.heap)) (va_Qi (fun (r : Int32) (u : Unit) => gi r (-2147483648) 2147483647) (fun _ _ => True) (fun _ => False)) 0 0 (fun _ => False) := by
  refine Met.ofW (cc := cX0_standing) (maxL := 3) (ret := (some .int)) (by decide) rfl ?_
  intro p e s m args below meth c s₁ B hml hv
  obtain ⟨rfl, hP, hK, hz, hF0⟩ := hv
  have hx := B.exec
  have hb := B.bytes
  have hr := B.returns
  have hts := atoms_spec (ws := (.code yX0_standing cX0_standing 3 (some .int) :: wsGA)) B.pre
  have hown : s.vm.findClass RX0 = some m.cls := findClass_of_methodNamed B.named
  have hlocks := B.notSynchronized
  have hS : va_S (fun _ => False) s.heap s.heap [] := va_S.rf
  have hFA0 : gz_ap (fun _ => False) (gz_fam 24 ra 7 (fun i => [.int (r_place i), .int (r_kind i), .int (r_month i), .int (r_day i), .int (r_known i), .int (r_struck i)])) := gz_ap0
  have hl := lv_entry ([.ref h0]) (n := 3) (Nat.le_of_ble_eq_true rfl)
  rw [lg_entry_eq]
  generalize (lg_sl ([.ref h0]) ++ List.replicate (3 - (lg_sl ([.ref h0])).length) Slot.unset).toArray = ls at hl ⊢
  have hl : lv_has ls 3 [(0, .ref h0)] := hl
  refine lv_iconst (v := 0) hx hb dX0_standing_0 (by decide) ?_
  refine lv_istore_n (lv' := [(1, .int 0), (0, .ref h0)]) hx hb dX0_standing_1 rfl hl (by decide) rfl (fun ls hl => ?_)
  refine lv_iconst (v := 0) hx hb dX0_standing_2 (by decide) ?_
  refine lv_istore_n (lv' := [(2, .int 0), (1, .int 0), (0, .ref h0)]) hx hb dX0_standing_3 rfl hl (by decide) rfl (fun ls hl => ?_)
  refine (lp_sX0_standing h0 re amonths afull alean alines ahasMoon amoonStart amoonStep aplaceCount areportCount adeedCount pl de kre ra r_place r_kind r_month r_day r_known r_struck gamonths gafull galean gahasMoon gaplaceCount gareportCount gadeedCount gr_place gr_month gr_struck hx hb hml hown hts hK hz hF0 hFA0 (Nat.le_of_ble_eq_true rfl) (Nat.le_of_ble_eq_true rfl) (Nat.zero_le _) (Nat.zero_le _) (fun v H locs ls hP hS hl => ?_) 26) 0 0 _ _ _ (gi_w (gi_c 0 0 (by decide)) (by decide)) (by have k0 : (0 : Int32).toInt = 0 := (by decide); omega) hP hS (lv_sub hl [2, 1, 0] rfl)
  · skip
    exact W.iret (v := v) hx hb hr (fun t ht hW => ⟨⟨v, (), rfl, (gi_any v), trivial⟩, hS.F ht⟩) hS.2.2 dX0_standing_27
theorem dX0_knownBits_0 : decode cX0_knownBits 0 = .ok (.iconst 0, 1) := by decide +kernel
theorem dX0_knownBits_1 : decode cX0_knownBits 1 = .ok (.istore_n 2, 1) := by decide +kernel
theorem dX0_knownBits_2 : decode cX0_knownBits 2 = .ok (.iconst 0, 1) := by decide +kernel
theorem dX0_knownBits_3 : decode cX0_knownBits 3 = .ok (.istore_n 3, 1) := by decide +kernel
theorem dX0_knownBits_4 : decode cX0_knownBits 4 = .ok (.iload_n 3, 1) := by decide +kernel
theorem dX0_knownBits_5 : decode cX0_knownBits 5 = .ok (.aload_n 0, 1) := by decide +kernel
theorem dX0_knownBits_6 : decode cX0_knownBits 6 = .ok (.getfield 58, 3) := by decide +kernel
theorem dX0_knownBits_9 : decode cX0_knownBits 9 = .ok (.if_icmp .ge 28, 3) := by decide +kernel
theorem dX0_knownBits_12 : decode cX0_knownBits 12 = .ok (.aload_n 0, 1) := by decide +kernel
theorem dX0_knownBits_13 : decode cX0_knownBits 13 = .ok (.getfield 19, 3) := by decide +kernel
theorem dX0_knownBits_16 : decode cX0_knownBits 16 = .ok (.iload_n 3, 1) := by decide +kernel
theorem dX0_knownBits_17 : decode cX0_knownBits 17 = .ok (.aaload, 1) := by decide +kernel
theorem dX0_knownBits_18 : decode cX0_knownBits 18 = .ok (.iload_n 1, 1) := by decide +kernel
theorem dX0_knownBits_19 : decode cX0_knownBits 19 = .ok (.invokevirtual 111, 3) := by decide +kernel
theorem dX0_knownBits_22 : decode cX0_knownBits 22 = .ok (.ifCond .eq 9, 3) := by decide +kernel
theorem dX0_knownBits_25 : decode cX0_knownBits 25 = .ok (.iload_n 2, 1) := by decide +kernel
theorem dX0_knownBits_26 : decode cX0_knownBits 26 = .ok (.iconst 1, 1) := by decide +kernel
theorem dX0_knownBits_27 : decode cX0_knownBits 27 = .ok (.iload_n 3, 1) := by decide +kernel
theorem dX0_knownBits_28 : decode cX0_knownBits 28 = .ok (.ishl, 1) := by decide +kernel
theorem dX0_knownBits_29 : decode cX0_knownBits 29 = .ok (.ior, 1) := by decide +kernel
theorem dX0_knownBits_30 : decode cX0_knownBits 30 = .ok (.istore_n 2, 1) := by decide +kernel
theorem dX0_knownBits_31 : decode cX0_knownBits 31 = .ok (.iinc 3 1, 3) := by decide +kernel
theorem dX0_knownBits_34 : decode cX0_knownBits 34 = .ok (.goto (-30), 3) := by decide +kernel
theorem dX0_knownBits_37 : decode cX0_knownBits 37 = .ok (.iload_n 2, 1) := by decide +kernel
theorem dX0_knownBits_38 : decode cX0_knownBits 38 = .ok (.ireturn, 1) := by decide +kernel
set_option maxHeartbeats 4000000 in
set_option maxRecDepth 100000 in
theorem lp_sX0_knownBits {p : Program} {l : Launch} {e : Env} {R : Room} {s : State} {m : MethodId} {args : Array Value} {below : List Frame} {meth : Method} {c : Code} {Q : State → Prop} {A : Nat → Prop} {cells slots : Nat} {dC : Nat → ClassId} {dI : Nat → Nat → Nat} (h0 : Nat) (re : Nat) (amonths : Int32) (afull : Int32) (alean : Int32) (alines : Int32) (ahasMoon : Int32) (amoonStart : Int32) (amoonStep : Int32) (aplaceCount : Int32) (areportCount : Int32) (adeedCount : Int32) (pl : Nat) (de : Nat) (kre : ClassId) (ra : Nat → Nat) (r_place : Nat → Int32) (r_kind : Nat → Int32) (r_month : Nat → Int32) (r_day : Nat → Int32) (r_known : Nat → Int32) (r_struck : Nat → Int32) (p1 : Int32) (gamonths : gi amonths 0 24) (gafull : gi afull 0 5) (galean : gi alean 0 5) (gahasMoon : gi ahasMoon 0 1) (gaplaceCount : gi aplaceCount 0 6) (gareportCount : gi areportCount 0 24) (gadeedCount : gi adeedCount 0 8) (gr_place : ga r_place 24 0 5) (gr_month : ga r_month 24 0 23) (gr_struck : ga r_struck 24 0 1) (hx : p.tables.exec = Jvm.exec) (hb : c.code = cX0_knownBits) (hml : c.maxLocals = 4) (hown : s.vm.findClass RX0 = some m.cls) (hts : ∀ w ∈ ((.code yX0_knownBits cX0_knownBits 4 (some .int) :: wsGA) : List Cond), w.before args s = true) (hK : va_K (dC, dI) vwCl [(kre, .object RX7)] s) (hz : nzA s) (hF0 : va_P (dC, dI) vwCl (gz_fam 24 ra 7 (fun i => [.int (r_place i), .int (r_kind i), .int (r_month i), .int (r_day i), .int (r_known i), .int (r_struck i)])) s.heap) (hFA0 : gz_ap A (gz_fam 24 ra 7 (fun i => [.int (r_place i), .int (r_kind i), .int (r_month i), .int (r_day i), .int (r_known i), .int (r_struck i)]))) (hRf : 1 ≤ R.frames) (hRl : 21 ≤ R.locals) (hRc : cells ≤ R.cells) (hRs : slots ≤ R.slots) (kr38 : ∀ (v : Int32) (H : Heap) (locs : List Loc) (ls : Array Slot), va_P (dC, dI) vwCl [(h0, .inr (0, [.int amonths, .int afull, .int alean, .int alines, .int ahasMoon, .int amoonStart, .int amoonStep, .int aplaceCount, .int areportCount, .int adeedCount, .ref pl, .ref re, .ref de])), (re, .inl (kre, 24, .inr (.inr (.inr (.inr (fun i => some (ra i)))))))] H → va_S A s.heap H locs → lv_has ls 4 [] → W p l e R s m args below meth c H locs cells slots Q (F0 m 38 ls [.int v])) : ∀ z : Nat, (∀ (v2 : Int32) (v3 : Int32) (H : Heap) (locs : List Loc) (ls : Array Slot), gi v3 0 24 → 49 + (-2) * v3.toInt < (z : Int) → va_P (dC, dI) vwCl [(h0, .inr (0, [.int amonths, .int afull, .int alean, .int alines, .int ahasMoon, .int amoonStart, .int amoonStep, .int aplaceCount, .int areportCount, .int adeedCount, .ref pl, .ref re, .ref de])), (re, .inl (kre, 24, .inr (.inr (.inr (.inr (fun i => some (ra i)))))))] H → va_S A s.heap H locs → lv_has ls 4 [(0, .ref h0), (1, .int p1), (2, .int v2), (3, .int v3)] → W p l e R s m args below meth c H locs cells slots Q (F0 m 4 ls [])) := by
  intro z
  induction z with
  | zero =>
    intro v2 v3 H locs ls gv3 hmu hP hS hl
    exact absurd hmu (by have hv31 := gv3.1; have hv32 := gv3.2; omega)
  | succ z ih =>
      intro v2 v3 H locs ls gv3 hmu hP hS hl
      refine lv_iload_n hx hb dX0_knownBits_4 rfl (lv_at hl 3 rfl) ?_
      refine lv_aload_n hx hb dX0_knownBits_5 rfl (lv_at hl 0 rfl) ?_
      refine va_get (D := (dC, dI)) (ci := 0) (v := .int areportCount) (C := RX0) (T := TX0) (N := 13) hx hb hts (fun w h => List.mem_cons_of_mem _ (jnGA_X0 w h)) hown hK hP 0 rfl rfl 8 (by decide) (hts _ (List.mem_cons_of_mem _ mGA_160)) (fun _ h9 => h9) rfl dX0_knownBits_6 ?_
      refine lv_icmp_ge (tgt := 37) hx hb dX0_knownBits_9 (by decide) (fun c_166 => ?_) (fun c_166 => ?_)
      · refine lv_iload_n hx hb dX0_knownBits_37 rfl (lv_at hl 2 rfl) ?_
        exact kr38 v2 _ _ _ hP hS (lv_sub hl [] rfl)
      · have g_167 : gi v3 0 23 := gi_lt_l (Int32.not_le.mp c_166) gv3 gareportCount (by decide)
        have g_168 : gi areportCount 1 24 := gi_lt_r (Int32.not_le.mp c_166) gv3 gareportCount (by decide)
        refine lv_aload_n hx hb dX0_knownBits_12 rfl (lv_at hl 0 rfl) ?_
        refine va_get (D := (dC, dI)) (ci := 0) (v := .ref re) (C := RX0) (T := TX0) (N := 13) hx hb hts (fun w h => List.mem_cons_of_mem _ (jnGA_X0 w h)) hown hK hP 0 rfl rfl 11 (by decide) (hts _ (List.mem_cons_of_mem _ mGA_72)) (fun _ h9 => h9) rfl dX0_knownBits_13 ?_
        refine lv_iload_n hx hb dX0_knownBits_16 rfl (lv_at hl 3 rfl) ?_
        refine va_aldq hx hb hK hP 1 0 rfl rfl (gi_in g_167 (by decide)) dX0_knownBits_17 ?_
        refine W.eq (g2 := F0 m 18 ls [.ref (ra v3.toNatClampNeg)]) rfl ?_
        refine lv_iload_n hx hb dX0_knownBits_18 rfl (lv_at hl 1 rfl) ?_
        have hPc : va_P (dC, dI) vwCl [((ra v3.toNatClampNeg), .inr (7, [.int (r_place v3.toNatClampNeg), .int (r_kind v3.toNatClampNeg), .int (r_month v3.toNatClampNeg), .int (r_day v3.toNatClampNeg), .int (r_known v3.toNatClampNeg), .int (r_struck v3.toNatClampNeg)]))] H := (gz_fam1 (gz_ro hF0 hFA0 hS) (gz_clt (gi_in (n := 24) g_167 (by decide))))
        have hKc := hK.sub (tys' := []) [] rfl
        refine va_calli (va_runV (As := [.int p1]) (rest := []) ⟨hx, hb, hml, hown, hts⟩ (sX7_isKnownBy l dC dI (ra v3.toNatClampNeg) (r_place v3.toNatClampNeg) (r_kind v3.toNatClampNeg) (r_month v3.toNatClampNeg) (r_day v3.toNatClampNeg) (r_known v3.toNatClampNeg) (r_struck v3.toNatClampNeg) p1 (ga_ix gr_place (gi_in (n := 24) g_167 (by decide))) (ga_ix gr_month (gi_in (n := 24) g_167 (by decide))) (ga_ix gr_struck (gi_in (n := 24) g_167 (by decide)))) (cwV 1 hts (gz_gV mGA_437 mGA_438 mGA_439 mGA_78 mGA_440 goodGA) rfl rfl rfl (by decide +kernel) ⟨Nat.le_trans (Nat.le_of_ble_eq_true rfl) hRf, Nat.le_trans (Nat.le_of_ble_eq_true rfl) hRl⟩) ⟨fun a U g mk q => by obtain ⟨q0, qP, qK, qZ⟩ := q; exact ⟨q0, qP, va_K.moved (u := U) (U := U.calling g mk a) (Vm.Alike.refl U.vm) qK, nzA_same (u := U) (U := U.calling g mk a) rfl qZ⟩, va_recv hKc hPc (ci := 7) (q0 := 0) rfl rfl, fun U hU hW => ⟨rfl, by rw [hU]; exact hPc, va_K.moved hW.alike hKc, nzA_warm hW hz⟩⟩ rfl rfl hl.1 rfl (lv_room (Nat.le_of_ble_eq_true rfl)) dX0_knownBits_19 ⟨hRc, hRs⟩) hS (fun q _ h => h.elim) (fun q h => h.elim) (fun r_169 u t H1 locs ht hvm hw hB hz1 hk1 hS => ?_)
        have hP := gz_keep hP hk1
        generalize H1 = H at hP hS ⊢
        have gr_169 : gi r_169 0 1 := hw
        refine lv_if_eq (tgt := 31) hx hb dX0_knownBits_22 (by decide) (fun c_170 => ?_) (fun c_170 => ?_)
        · have g_171 : gi r_169 0 0 := gi_eq c_170 (gi_c 0 0 (by decide))
          obtain ⟨x_172, ex_172⟩ : ∃ y : Int32, y = v3 + 1 := ⟨_, rfl⟩
          have gx_172 : gi x_172 1 24 := gi_add ex_172 g_167 (gi_c 1 1 (by decide)) (by decide)
          refine lv_iinc (v := x_172) (lv' := [(3, .int x_172), (0, .ref h0), (1, .int p1), (2, .int v2)]) hx hb dX0_knownBits_31 hl (k := 3) rfl (by rw [ex_172]; rfl) (by decide) rfl (fun ls hl => ?_)
          refine lv_goto (tgt := 4) hx hb dX0_knownBits_34 (by decide) ?_
          exact ih v2 x_172 _ _ _ (gi_w gx_172 (by decide)) (by have av3 := gv3.1; have bv3 := gv3.2; have qgx_172 := gx_172.1; have rgx_172 := gx_172.2; have igx_172 : x_172.toInt = v3.toInt + 1 := (by have hc1 : (1 : Int32).toInt = 1 := (by decide); have h9 := gi_addI ex_172 (by have h1 := g_167.1; have h2 := (gi_c 1 1 (by decide)).1; have h3 := g_167.2; have h4 := (gi_c 1 1 (by decide)).2; omega) (by have h1 := g_167.1; have h2 := (gi_c 1 1 (by decide)).1; have h3 := g_167.2; have h4 := (gi_c 1 1 (by decide)).2; omega); rw [hc1] at h9; exact h9); have qgv3 := g_167.1; have rgv3 := g_167.2; omega) hP hS (lv_sub hl [1, 2, 3, 0] rfl)
        · have g_173 : gi r_169 1 1 := gi_ne_lo c_170 gr_169 (gi_c 0 0 (by decide)) (by decide)
          refine lv_iload_n hx hb dX0_knownBits_25 rfl (lv_at hl 2 rfl) ?_
          refine lv_iconst (v := 1) hx hb dX0_knownBits_26 (by decide) ?_
          refine lv_iload_n hx hb dX0_knownBits_27 rfl (lv_at hl 3 rfl) ?_
          refine lv_ishl hx hb dX0_knownBits_28 ?_
          refine lv_topi (fun x_174 ex_174 => ?_)
          refine lv_ior hx hb dX0_knownBits_29 ?_
          refine lv_topi (fun x_175 ex_175 => ?_)
          refine lv_istore_n (lv' := [(2, .int x_175), (0, .ref h0), (1, .int p1), (3, .int v3)]) hx hb dX0_knownBits_30 rfl hl (by decide) rfl (fun ls hl => ?_)
          obtain ⟨x_176, ex_176⟩ : ∃ y : Int32, y = v3 + 1 := ⟨_, rfl⟩
          have gx_176 : gi x_176 1 24 := gi_add ex_176 g_167 (gi_c 1 1 (by decide)) (by decide)
          refine lv_iinc (v := x_176) (lv' := [(3, .int x_176), (2, .int x_175), (0, .ref h0), (1, .int p1)]) hx hb dX0_knownBits_31 hl (k := 3) rfl (by rw [ex_176]; rfl) (by decide) rfl (fun ls hl => ?_)
          refine lv_goto (tgt := 4) hx hb dX0_knownBits_34 (by decide) ?_
          exact ih x_175 x_176 _ _ _ (gi_w gx_176 (by decide)) (by have av3 := gv3.1; have bv3 := gv3.2; have qgx_176 := gx_176.1; have rgx_176 := gx_176.2; have igx_176 : x_176.toInt = v3.toInt + 1 := (by have hc1 : (1 : Int32).toInt = 1 := (by decide); have h9 := gi_addI ex_176 (by have h1 := g_167.1; have h2 := (gi_c 1 1 (by decide)).1; have h3 := g_167.2; have h4 := (gi_c 1 1 (by decide)).2; omega) (by have h1 := g_167.1; have h2 := (gi_c 1 1 (by decide)).1; have h3 := g_167.2; have h4 := (gi_c 1 1 (by decide)).2; omega); rw [hc1] at h9; exact h9); have qgv3 := g_167.1; have rgv3 := g_167.2; omega) hP hS (lv_sub hl [2, 3, 1, 0] rfl)
set_option maxHeartbeats 4000000 in
set_option maxRecDepth 100000 in
theorem sX0_knownBits (l : Launch) (dC : Nat → ClassId) (dI : Nat → Nat → Nat) (h0 : Nat) (re : Nat) (amonths : Int32) (afull : Int32) (alean : Int32) (alines : Int32) (ahasMoon : Int32) (amoonStart : Int32) (amoonStep : Int32) (aplaceCount : Int32) (areportCount : Int32) (adeedCount : Int32) (pl : Nat) (de : Nat) (kre : ClassId) (ra : Nat → Nat) (r_place : Nat → Int32) (r_kind : Nat → Int32) (r_month : Nat → Int32) (r_day : Nat → Int32) (r_known : Nat → Int32) (r_struck : Nat → Int32) (p1 : Int32) (gamonths : gi amonths 0 24) (gafull : gi afull 0 5) (galean : gi alean 0 5) (gahasMoon : gi ahasMoon 0 1) (gaplaceCount : gi aplaceCount 0 6) (gareportCount : gi areportCount 0 24) (gadeedCount : gi adeedCount 0 8) (gr_place : ga r_place 24 0 5) (gr_month : ga r_month 24 0 23) (gr_struck : ga r_struck 24 0 1) : Met l yX0_knownBits (.code yX0_knownBits cX0_knownBits 4 (some .int) :: wsGA) ({ frames := 1, cells := 0, slots := 0, locals := 21 }) (va_Pc [.ref h0, .int p1] (fun U => va_P (dC, dI) vwCl [(h0, .inr (0, [.int amonths, .int afull, .int alean, .int alines, .int ahasMoon, .int amoonStart, .int amoonStep, .int aplaceCount, .int areportCount, .int adeedCount, .ref pl, .ref re, .ref de])), (re, .inl (kre, 24, .inr (.inr (.inr (.inr (fun i => some (ra i)))))))] U.heap ∧ va_K (dC, dI) vwCl [(kre, .object RX7)] U ∧ nzA U ∧ va_P (dC, dI) vwCl (gz_fam 24 ra 7 (fun i => [.int (r_place i), .int (r_kind i), .int (r_month i), .int (r_day i), .int (r_known i), .int (r_struck i)])) U.heap)) (va_Qi (fun (r : Int32) (u : Unit) => gi r (-2147483648) 2147483647) (fun _ _ => True) (fun _ => False)) 0 0 (fun _ => False) := by
  refine Met.ofW (cc := cX0_knownBits) (maxL := 4) (ret := (some .int)) (by decide) rfl ?_
  intro p e s m args below meth c s₁ B hml hv
  obtain ⟨rfl, hP, hK, hz, hF0⟩ := hv
  have hx := B.exec
  have hb := B.bytes
  have hr := B.returns
  have hts := atoms_spec (ws := (.code yX0_knownBits cX0_knownBits 4 (some .int) :: wsGA)) B.pre
  have hown : s.vm.findClass RX0 = some m.cls := findClass_of_methodNamed B.named
  have hlocks := B.notSynchronized
  have hS : va_S (fun _ => False) s.heap s.heap [] := va_S.rf
  have hFA0 : gz_ap (fun _ => False) (gz_fam 24 ra 7 (fun i => [.int (r_place i), .int (r_kind i), .int (r_month i), .int (r_day i), .int (r_known i), .int (r_struck i)])) := gz_ap0
  have hl := lv_entry ([.ref h0, .int p1]) (n := 4) (Nat.le_of_ble_eq_true rfl)
  rw [lg_entry_eq]
  generalize (lg_sl ([.ref h0, .int p1]) ++ List.replicate (4 - (lg_sl ([.ref h0, .int p1])).length) Slot.unset).toArray = ls at hl ⊢
  have hl : lv_has ls 4 [(0, .ref h0), (1, .int p1)] := hl
  refine lv_iconst (v := 0) hx hb dX0_knownBits_0 (by decide) ?_
  refine lv_istore_n (lv' := [(2, .int 0), (0, .ref h0), (1, .int p1)]) hx hb dX0_knownBits_1 rfl hl (by decide) rfl (fun ls hl => ?_)
  refine lv_iconst (v := 0) hx hb dX0_knownBits_2 (by decide) ?_
  refine lv_istore_n (lv' := [(3, .int 0), (2, .int 0), (0, .ref h0), (1, .int p1)]) hx hb dX0_knownBits_3 rfl hl (by decide) rfl (fun ls hl => ?_)
  refine (lp_sX0_knownBits h0 re amonths afull alean alines ahasMoon amoonStart amoonStep aplaceCount areportCount adeedCount pl de kre ra r_place r_kind r_month r_day r_known r_struck p1 gamonths gafull galean gahasMoon gaplaceCount gareportCount gadeedCount gr_place gr_month gr_struck hx hb hml hown hts hK hz hF0 hFA0 (Nat.le_of_ble_eq_true rfl) (Nat.le_of_ble_eq_true rfl) (Nat.zero_le _) (Nat.zero_le _) (fun v H locs ls hP hS hl => ?_) 62) 0 0 _ _ _ (gi_w (gi_c 0 0 (by decide)) (by decide)) (by have k0 : (0 : Int32).toInt = 0 := (by decide); omega) hP hS (lv_sub hl [2, 3, 1, 0] rfl)
  · skip
    exact W.iret (v := v) hx hb hr (fun t ht hW => ⟨⟨v, (), rfl, (gi_any v), trivial⟩, hS.F ht⟩) hS.2.2 dX0_knownBits_38
theorem dX0_latestNews_0 : decode cX0_latestNews 0 = .ok (.iconst (-1), 1) := by decide +kernel
theorem dX0_latestNews_1 : decode cX0_latestNews 1 = .ok (.istore_n 2, 1) := by decide +kernel
theorem dX0_latestNews_2 : decode cX0_latestNews 2 = .ok (.iconst 0, 1) := by decide +kernel
theorem dX0_latestNews_3 : decode cX0_latestNews 3 = .ok (.istore_n 3, 1) := by decide +kernel
theorem dX0_latestNews_4 : decode cX0_latestNews 4 = .ok (.iload_n 3, 1) := by decide +kernel
theorem dX0_latestNews_5 : decode cX0_latestNews 5 = .ok (.aload_n 0, 1) := by decide +kernel
theorem dX0_latestNews_6 : decode cX0_latestNews 6 = .ok (.getfield 58, 3) := by decide +kernel
theorem dX0_latestNews_9 : decode cX0_latestNews 9 = .ok (.if_icmp .ge 36, 3) := by decide +kernel
theorem dX0_latestNews_12 : decode cX0_latestNews 12 = .ok (.aload_n 0, 1) := by decide +kernel
theorem dX0_latestNews_13 : decode cX0_latestNews 13 = .ok (.getfield 19, 3) := by decide +kernel
theorem dX0_latestNews_16 : decode cX0_latestNews 16 = .ok (.iload_n 3, 1) := by decide +kernel
theorem dX0_latestNews_17 : decode cX0_latestNews 17 = .ok (.aaload, 1) := by decide +kernel
theorem dX0_latestNews_18 : decode cX0_latestNews 18 = .ok (.iload_n 1, 1) := by decide +kernel
theorem dX0_latestNews_19 : decode cX0_latestNews 19 = .ok (.invokevirtual 111, 3) := by decide +kernel
theorem dX0_latestNews_22 : decode cX0_latestNews 22 = .ok (.ifCond .eq 17, 3) := by decide +kernel
theorem dX0_latestNews_25 : decode cX0_latestNews 25 = .ok (.iload_n 2, 1) := by decide +kernel
theorem dX0_latestNews_26 : decode cX0_latestNews 26 = .ok (.aload_n 0, 1) := by decide +kernel
theorem dX0_latestNews_27 : decode cX0_latestNews 27 = .ok (.getfield 19, 3) := by decide +kernel
theorem dX0_latestNews_30 : decode cX0_latestNews 30 = .ok (.iload_n 3, 1) := by decide +kernel
theorem dX0_latestNews_31 : decode cX0_latestNews 31 = .ok (.aaload, 1) := by decide +kernel
theorem dX0_latestNews_32 : decode cX0_latestNews 32 = .ok (.getfield 89, 3) := by decide +kernel
theorem dX0_latestNews_35 : decode cX0_latestNews 35 = .ok (.invokestatic 115, 3) := by decide +kernel
theorem dX0_latestNews_38 : decode cX0_latestNews 38 = .ok (.istore_n 2, 1) := by decide +kernel
theorem dX0_latestNews_39 : decode cX0_latestNews 39 = .ok (.iinc 3 1, 3) := by decide +kernel
theorem dX0_latestNews_42 : decode cX0_latestNews 42 = .ok (.goto (-38), 3) := by decide +kernel
theorem dX0_latestNews_45 : decode cX0_latestNews 45 = .ok (.iload_n 2, 1) := by decide +kernel
theorem dX0_latestNews_46 : decode cX0_latestNews 46 = .ok (.ireturn, 1) := by decide +kernel
set_option maxHeartbeats 4000000 in
set_option maxRecDepth 100000 in
theorem lp_sX0_latestNews {p : Program} {l : Launch} {e : Env} {R : Room} {s : State} {m : MethodId} {args : Array Value} {below : List Frame} {meth : Method} {c : Code} {Q : State → Prop} {A : Nat → Prop} {cells slots : Nat} {dC : Nat → ClassId} {dI : Nat → Nat → Nat} (h0 : Nat) (re : Nat) (amonths : Int32) (afull : Int32) (alean : Int32) (alines : Int32) (ahasMoon : Int32) (amoonStart : Int32) (amoonStep : Int32) (aplaceCount : Int32) (areportCount : Int32) (adeedCount : Int32) (pl : Nat) (de : Nat) (kre : ClassId) (ra : Nat → Nat) (r_place : Nat → Int32) (r_kind : Nat → Int32) (r_month : Nat → Int32) (r_day : Nat → Int32) (r_known : Nat → Int32) (r_struck : Nat → Int32) (p1 : Int32) (gamonths : gi amonths 0 24) (gafull : gi afull 0 5) (galean : gi alean 0 5) (gahasMoon : gi ahasMoon 0 1) (gaplaceCount : gi aplaceCount 0 6) (gareportCount : gi areportCount 0 24) (gadeedCount : gi adeedCount 0 8) (gr_place : ga r_place 24 0 5) (gr_month : ga r_month 24 0 23) (gr_struck : ga r_struck 24 0 1) (hx : p.tables.exec = Jvm.exec) (hb : c.code = cX0_latestNews) (hml : c.maxLocals = 4) (hown : s.vm.findClass RX0 = some m.cls) (hts : ∀ w ∈ ((.code yX0_latestNews cX0_latestNews 4 (some .int) :: wsGA) : List Cond), w.before args s = true) (hK : va_K (dC, dI) vwCl [(kre, .object RX7)] s) (hz : nzA s) (hF0 : va_P (dC, dI) vwCl (gz_fam 24 ra 7 (fun i => [.int (r_place i), .int (r_kind i), .int (r_month i), .int (r_day i), .int (r_known i), .int (r_struck i)])) s.heap) (hFA0 : gz_ap A (gz_fam 24 ra 7 (fun i => [.int (r_place i), .int (r_kind i), .int (r_month i), .int (r_day i), .int (r_known i), .int (r_struck i)]))) (hRf : 1 ≤ R.frames) (hRl : 21 ≤ R.locals) (hRc : cells ≤ R.cells) (hRs : slots ≤ R.slots) (kr46 : ∀ (v : Int32) (H : Heap) (locs : List Loc) (ls : Array Slot), gi v (-1) 2147483647 → va_P (dC, dI) vwCl [(h0, .inr (0, [.int amonths, .int afull, .int alean, .int alines, .int ahasMoon, .int amoonStart, .int amoonStep, .int aplaceCount, .int areportCount, .int adeedCount, .ref pl, .ref re, .ref de])), (re, .inl (kre, 24, .inr (.inr (.inr (.inr (fun i => some (ra i)))))))] H → va_S A s.heap H locs → lv_has ls 4 [] → W p l e R s m args below meth c H locs cells slots Q (F0 m 46 ls [.int v])) : ∀ z : Nat, (∀ (v2 : Int32) (v3 : Int32) (H : Heap) (locs : List Loc) (ls : Array Slot), gi v2 (-1) 2147483647 → gi v3 0 24 → 49 + (-2) * v3.toInt < (z : Int) → va_P (dC, dI) vwCl [(h0, .inr (0, [.int amonths, .int afull, .int alean, .int alines, .int ahasMoon, .int amoonStart, .int amoonStep, .int aplaceCount, .int areportCount, .int adeedCount, .ref pl, .ref re, .ref de])), (re, .inl (kre, 24, .inr (.inr (.inr (.inr (fun i => some (ra i)))))))] H → va_S A s.heap H locs → lv_has ls 4 [(0, .ref h0), (1, .int p1), (2, .int v2), (3, .int v3)] → W p l e R s m args below meth c H locs cells slots Q (F0 m 4 ls [])) := by
  intro z
  induction z with
  | zero =>
    intro v2 v3 H locs ls gv2 gv3 hmu hP hS hl
    exact absurd hmu (by have hv31 := gv3.1; have hv32 := gv3.2; omega)
  | succ z ih =>
      intro v2 v3 H locs ls gv2 gv3 hmu hP hS hl
      refine lv_iload_n hx hb dX0_latestNews_4 rfl (lv_at hl 3 rfl) ?_
      refine lv_aload_n hx hb dX0_latestNews_5 rfl (lv_at hl 0 rfl) ?_
      refine va_get (D := (dC, dI)) (ci := 0) (v := .int areportCount) (C := RX0) (T := TX0) (N := 13) hx hb hts (fun w h => List.mem_cons_of_mem _ (jnGA_X0 w h)) hown hK hP 0 rfl rfl 8 (by decide) (hts _ (List.mem_cons_of_mem _ mGA_160)) (fun _ h9 => h9) rfl dX0_latestNews_6 ?_
      refine lv_icmp_ge (tgt := 45) hx hb dX0_latestNews_9 (by decide) (fun c_166 => ?_) (fun c_166 => ?_)
      · refine lv_iload_n hx hb dX0_latestNews_45 rfl (lv_at hl 2 rfl) ?_
        exact kr46 v2 _ _ _ gv2 hP hS (lv_sub hl [] rfl)
      · have g_167 : gi v3 0 23 := gi_lt_l (Int32.not_le.mp c_166) gv3 gareportCount (by decide)
        have g_168 : gi areportCount 1 24 := gi_lt_r (Int32.not_le.mp c_166) gv3 gareportCount (by decide)
        refine lv_aload_n hx hb dX0_latestNews_12 rfl (lv_at hl 0 rfl) ?_
        refine va_get (D := (dC, dI)) (ci := 0) (v := .ref re) (C := RX0) (T := TX0) (N := 13) hx hb hts (fun w h => List.mem_cons_of_mem _ (jnGA_X0 w h)) hown hK hP 0 rfl rfl 11 (by decide) (hts _ (List.mem_cons_of_mem _ mGA_72)) (fun _ h9 => h9) rfl dX0_latestNews_13 ?_
        refine lv_iload_n hx hb dX0_latestNews_16 rfl (lv_at hl 3 rfl) ?_
        refine va_aldq hx hb hK hP 1 0 rfl rfl (gi_in g_167 (by decide)) dX0_latestNews_17 ?_
        refine W.eq (g2 := F0 m 18 ls [.ref (ra v3.toNatClampNeg)]) rfl ?_
        refine lv_iload_n hx hb dX0_latestNews_18 rfl (lv_at hl 1 rfl) ?_
        have hPc : va_P (dC, dI) vwCl [((ra v3.toNatClampNeg), .inr (7, [.int (r_place v3.toNatClampNeg), .int (r_kind v3.toNatClampNeg), .int (r_month v3.toNatClampNeg), .int (r_day v3.toNatClampNeg), .int (r_known v3.toNatClampNeg), .int (r_struck v3.toNatClampNeg)]))] H := (gz_fam1 (gz_ro hF0 hFA0 hS) (gz_clt (gi_in (n := 24) g_167 (by decide))))
        have hKc := hK.sub (tys' := []) [] rfl
        refine va_calli (va_runV (As := [.int p1]) (rest := []) ⟨hx, hb, hml, hown, hts⟩ (sX7_isKnownBy l dC dI (ra v3.toNatClampNeg) (r_place v3.toNatClampNeg) (r_kind v3.toNatClampNeg) (r_month v3.toNatClampNeg) (r_day v3.toNatClampNeg) (r_known v3.toNatClampNeg) (r_struck v3.toNatClampNeg) p1 (ga_ix gr_place (gi_in (n := 24) g_167 (by decide))) (ga_ix gr_month (gi_in (n := 24) g_167 (by decide))) (ga_ix gr_struck (gi_in (n := 24) g_167 (by decide)))) (cwV 1 hts (gz_gV mGA_437 mGA_438 mGA_439 mGA_78 mGA_440 goodGA) rfl rfl rfl (by decide +kernel) ⟨Nat.le_trans (Nat.le_of_ble_eq_true rfl) hRf, Nat.le_trans (Nat.le_of_ble_eq_true rfl) hRl⟩) ⟨fun a U g mk q => by obtain ⟨q0, qP, qK, qZ⟩ := q; exact ⟨q0, qP, va_K.moved (u := U) (U := U.calling g mk a) (Vm.Alike.refl U.vm) qK, nzA_same (u := U) (U := U.calling g mk a) rfl qZ⟩, va_recv hKc hPc (ci := 7) (q0 := 0) rfl rfl, fun U hU hW => ⟨rfl, by rw [hU]; exact hPc, va_K.moved hW.alike hKc, nzA_warm hW hz⟩⟩ rfl rfl hl.1 rfl (lv_room (Nat.le_of_ble_eq_true rfl)) dX0_latestNews_19 ⟨hRc, hRs⟩) hS (fun q _ h => h.elim) (fun q h => h.elim) (fun r_169 u t H1 locs ht hvm hw hB hz1 hk1 hS => ?_)
        have hP := gz_keep hP hk1
        generalize H1 = H at hP hS ⊢
        have gr_169 : gi r_169 0 1 := hw
        refine lv_if_eq (tgt := 39) hx hb dX0_latestNews_22 (by decide) (fun c_170 => ?_) (fun c_170 => ?_)
        · have g_171 : gi r_169 0 0 := gi_eq c_170 (gi_c 0 0 (by decide))
          obtain ⟨x_172, ex_172⟩ : ∃ y : Int32, y = v3 + 1 := ⟨_, rfl⟩
          have gx_172 : gi x_172 1 24 := gi_add ex_172 g_167 (gi_c 1 1 (by decide)) (by decide)
          refine lv_iinc (v := x_172) (lv' := [(3, .int x_172), (0, .ref h0), (1, .int p1), (2, .int v2)]) hx hb dX0_latestNews_39 hl (k := 3) rfl (by rw [ex_172]; rfl) (by decide) rfl (fun ls hl => ?_)
          refine lv_goto (tgt := 4) hx hb dX0_latestNews_42 (by decide) ?_
          exact ih v2 x_172 _ _ _ gv2 (gi_w gx_172 (by decide)) (by have av3 := gv3.1; have bv3 := gv3.2; have qgx_172 := gx_172.1; have rgx_172 := gx_172.2; have igx_172 : x_172.toInt = v3.toInt + 1 := (by have hc1 : (1 : Int32).toInt = 1 := (by decide); have h9 := gi_addI ex_172 (by have h1 := g_167.1; have h2 := (gi_c 1 1 (by decide)).1; have h3 := g_167.2; have h4 := (gi_c 1 1 (by decide)).2; omega) (by have h1 := g_167.1; have h2 := (gi_c 1 1 (by decide)).1; have h3 := g_167.2; have h4 := (gi_c 1 1 (by decide)).2; omega); rw [hc1] at h9; exact h9); have qgv3 := g_167.1; have rgv3 := g_167.2; omega) hP hS (lv_sub hl [1, 2, 3, 0] rfl)
        · have g_173 : gi r_169 1 1 := gi_ne_lo c_170 gr_169 (gi_c 0 0 (by decide)) (by decide)
          refine lv_iload_n hx hb dX0_latestNews_25 rfl (lv_at hl 2 rfl) ?_
          refine lv_aload_n hx hb dX0_latestNews_26 rfl (lv_at hl 0 rfl) ?_
          refine va_get (D := (dC, dI)) (ci := 0) (v := .ref re) (C := RX0) (T := TX0) (N := 13) hx hb hts (fun w h => List.mem_cons_of_mem _ (jnGA_X0 w h)) hown hK hP 0 rfl rfl 11 (by decide) (hts _ (List.mem_cons_of_mem _ mGA_72)) (fun _ h9 => h9) rfl dX0_latestNews_27 ?_
          refine lv_iload_n hx hb dX0_latestNews_30 rfl (lv_at hl 3 rfl) ?_
          refine va_aldq hx hb hK hP 1 0 rfl rfl (gi_in g_167 (by decide)) dX0_latestNews_31 ?_
          refine W.eq (g2 := F0 m 32 ls [.ref (ra v3.toNatClampNeg), .int v2]) rfl ?_
          refine va_get (D := (dC, dI)) (ci := 7) (v := .int (r_known v3.toNatClampNeg)) (C := RX7) (T := TX7) (N := 6) hx hb hts (fun w h => List.mem_cons_of_mem _ (jnGA_X7 w h)) hown hK (gz_ro hF0 hFA0 hS) (v3.toNatClampNeg) (gz_fam_at (gz_clt (gi_in (n := 24) g_167 (by decide)))) rfl 4 (by decide) (hts _ (List.mem_cons_of_mem _ mGA_321)) (fun _ h9 => h9) rfl dX0_latestNews_32 ?_
          refine lv_topi (fun x_174 ex_174 => ?_)
          refine va_mmax (own := RX0) hx hb (by rw [hml]; exact hl.1.symm) hown (hts _ (List.mem_cons_of_mem _ mGA_436)) (hts _ (List.mem_cons_of_mem _ mGA_344)) (hts _ (List.mem_cons_of_mem _ mGA_269)) (hts _ (List.mem_cons_of_mem _ mGA_345)) (Nat.le_trans (Nat.le_of_ble_eq_true rfl) hRf) (Nat.le_trans (Nat.le_of_ble_eq_true rfl) hRl) hRc hRs dX0_latestNews_35 ?_
          refine lv_topi (fun x_175 ex_175 => ?_)
          have gx_175 : gi x_175 (-1) 2147483647 := gi_max ex_175 gv2 (gi_any x_174) (by decide)
          refine lv_istore_n (lv' := [(2, .int x_175), (0, .ref h0), (1, .int p1), (3, .int v3)]) hx hb dX0_latestNews_38 rfl hl (by decide) rfl (fun ls hl => ?_)
          obtain ⟨x_176, ex_176⟩ : ∃ y : Int32, y = v3 + 1 := ⟨_, rfl⟩
          have gx_176 : gi x_176 1 24 := gi_add ex_176 g_167 (gi_c 1 1 (by decide)) (by decide)
          refine lv_iinc (v := x_176) (lv' := [(3, .int x_176), (2, .int x_175), (0, .ref h0), (1, .int p1)]) hx hb dX0_latestNews_39 hl (k := 3) rfl (by rw [ex_176]; rfl) (by decide) rfl (fun ls hl => ?_)
          refine lv_goto (tgt := 4) hx hb dX0_latestNews_42 (by decide) ?_
          exact ih x_175 x_176 _ _ _ gx_175 (gi_w gx_176 (by decide)) (by have av3 := gv3.1; have bv3 := gv3.2; have qgx_176 := gx_176.1; have rgx_176 := gx_176.2; have igx_176 : x_176.toInt = v3.toInt + 1 := (by have hc1 : (1 : Int32).toInt = 1 := (by decide); have h9 := gi_addI ex_176 (by have h1 := g_167.1; have h2 := (gi_c 1 1 (by decide)).1; have h3 := g_167.2; have h4 := (gi_c 1 1 (by decide)).2; omega) (by have h1 := g_167.1; have h2 := (gi_c 1 1 (by decide)).1; have h3 := g_167.2; have h4 := (gi_c 1 1 (by decide)).2; omega); rw [hc1] at h9; exact h9); have qgv3 := g_167.1; have rgv3 := g_167.2; omega) hP hS (lv_sub hl [2, 3, 1, 0] rfl)
set_option maxHeartbeats 4000000 in
set_option maxRecDepth 100000 in
theorem sX0_latestNews (l : Launch) (dC : Nat → ClassId) (dI : Nat → Nat → Nat) (h0 : Nat) (re : Nat) (amonths : Int32) (afull : Int32) (alean : Int32) (alines : Int32) (ahasMoon : Int32) (amoonStart : Int32) (amoonStep : Int32) (aplaceCount : Int32) (areportCount : Int32) (adeedCount : Int32) (pl : Nat) (de : Nat) (kre : ClassId) (ra : Nat → Nat) (r_place : Nat → Int32) (r_kind : Nat → Int32) (r_month : Nat → Int32) (r_day : Nat → Int32) (r_known : Nat → Int32) (r_struck : Nat → Int32) (p1 : Int32) (gamonths : gi amonths 0 24) (gafull : gi afull 0 5) (galean : gi alean 0 5) (gahasMoon : gi ahasMoon 0 1) (gaplaceCount : gi aplaceCount 0 6) (gareportCount : gi areportCount 0 24) (gadeedCount : gi adeedCount 0 8) (gr_place : ga r_place 24 0 5) (gr_month : ga r_month 24 0 23) (gr_struck : ga r_struck 24 0 1) : Met l yX0_latestNews (.code yX0_latestNews cX0_latestNews 4 (some .int) :: wsGA) ({ frames := 1, cells := 0, slots := 0, locals := 21 }) (va_Pc [.ref h0, .int p1] (fun U => va_P (dC, dI) vwCl [(h0, .inr (0, [.int amonths, .int afull, .int alean, .int alines, .int ahasMoon, .int amoonStart, .int amoonStep, .int aplaceCount, .int areportCount, .int adeedCount, .ref pl, .ref re, .ref de])), (re, .inl (kre, 24, .inr (.inr (.inr (.inr (fun i => some (ra i)))))))] U.heap ∧ va_K (dC, dI) vwCl [(kre, .object RX7)] U ∧ nzA U ∧ va_P (dC, dI) vwCl (gz_fam 24 ra 7 (fun i => [.int (r_place i), .int (r_kind i), .int (r_month i), .int (r_day i), .int (r_known i), .int (r_struck i)])) U.heap)) (va_Qi (fun (r : Int32) (u : Unit) => gi r (-1) 2147483647) (fun _ _ => True) (fun _ => False)) 0 0 (fun _ => False) := by
  refine Met.ofW (cc := cX0_latestNews) (maxL := 4) (ret := (some .int)) (by decide) rfl ?_
  intro p e s m args below meth c s₁ B hml hv
  obtain ⟨rfl, hP, hK, hz, hF0⟩ := hv
  have hx := B.exec
  have hb := B.bytes
  have hr := B.returns
  have hts := atoms_spec (ws := (.code yX0_latestNews cX0_latestNews 4 (some .int) :: wsGA)) B.pre
  have hown : s.vm.findClass RX0 = some m.cls := findClass_of_methodNamed B.named
  have hlocks := B.notSynchronized
  have hS : va_S (fun _ => False) s.heap s.heap [] := va_S.rf
  have hFA0 : gz_ap (fun _ => False) (gz_fam 24 ra 7 (fun i => [.int (r_place i), .int (r_kind i), .int (r_month i), .int (r_day i), .int (r_known i), .int (r_struck i)])) := gz_ap0
  have hl := lv_entry ([.ref h0, .int p1]) (n := 4) (Nat.le_of_ble_eq_true rfl)
  rw [lg_entry_eq]
  generalize (lg_sl ([.ref h0, .int p1]) ++ List.replicate (4 - (lg_sl ([.ref h0, .int p1])).length) Slot.unset).toArray = ls at hl ⊢
  have hl : lv_has ls 4 [(0, .ref h0), (1, .int p1)] := hl
  refine lv_iconst (v := (-1)) hx hb dX0_latestNews_0 (by decide) ?_
  refine lv_istore_n (lv' := [(2, .int (-1)), (0, .ref h0), (1, .int p1)]) hx hb dX0_latestNews_1 rfl hl (by decide) rfl (fun ls hl => ?_)
  refine lv_iconst (v := 0) hx hb dX0_latestNews_2 (by decide) ?_
  refine lv_istore_n (lv' := [(3, .int 0), (2, .int (-1)), (0, .ref h0), (1, .int p1)]) hx hb dX0_latestNews_3 rfl hl (by decide) rfl (fun ls hl => ?_)
  refine (lp_sX0_latestNews h0 re amonths afull alean alines ahasMoon amoonStart amoonStep aplaceCount areportCount adeedCount pl de kre ra r_place r_kind r_month r_day r_known r_struck p1 gamonths gafull galean gahasMoon gaplaceCount gareportCount gadeedCount gr_place gr_month gr_struck hx hb hml hown hts hK hz hF0 hFA0 (Nat.le_of_ble_eq_true rfl) (Nat.le_of_ble_eq_true rfl) (Nat.zero_le _) (Nat.zero_le _) (fun v H locs ls gv hP hS hl => ?_) 62) (-1) 0 _ _ _ (gi_w (gi_c (-1) (-1) (by decide)) (by decide)) (gi_w (gi_c 0 0 (by decide)) (by decide)) (by have k0 : (0 : Int32).toInt = 0 := (by decide); omega) hP hS (lv_sub hl [2, 3, 1, 0] rfl)
  · skip
    exact W.iret (v := v) hx hb hr (fun t ht hW => ⟨⟨v, (), rfl, gv, trivial⟩, hS.F ht⟩) hS.2.2 dX0_latestNews_46
theorem dX0_newsBehind_0 : decode cX0_newsBehind 0 = .ok (.sipush 1000, 3) := by decide +kernel
theorem dX0_newsBehind_3 : decode cX0_newsBehind 3 = .ok (.istore_n 2, 1) := by decide +kernel
theorem dX0_newsBehind_4 : decode cX0_newsBehind 4 = .ok (.iconst 0, 1) := by decide +kernel
theorem dX0_newsBehind_5 : decode cX0_newsBehind 5 = .ok (.istore_n 3, 1) := by decide +kernel
theorem dX0_newsBehind_6 : decode cX0_newsBehind 6 = .ok (.iload_n 3, 1) := by decide +kernel
theorem dX0_newsBehind_7 : decode cX0_newsBehind 7 = .ok (.aload_n 0, 1) := by decide +kernel
theorem dX0_newsBehind_8 : decode cX0_newsBehind 8 = .ok (.getfield 58, 3) := by decide +kernel
theorem dX0_newsBehind_11 : decode cX0_newsBehind 11 = .ok (.if_icmp .ge 48, 3) := by decide +kernel
theorem dX0_newsBehind_14 : decode cX0_newsBehind 14 = .ok (.aload_n 0, 1) := by decide +kernel
theorem dX0_newsBehind_15 : decode cX0_newsBehind 15 = .ok (.getfield 19, 3) := by decide +kernel
theorem dX0_newsBehind_18 : decode cX0_newsBehind 18 = .ok (.iload_n 3, 1) := by decide +kernel
theorem dX0_newsBehind_19 : decode cX0_newsBehind 19 = .ok (.aaload, 1) := by decide +kernel
theorem dX0_newsBehind_20 : decode cX0_newsBehind 20 = .ok (.getfield 96, 3) := by decide +kernel
theorem dX0_newsBehind_23 : decode cX0_newsBehind 23 = .ok (.ifCond .ne 30, 3) := by decide +kernel
theorem dX0_newsBehind_26 : decode cX0_newsBehind 26 = .ok (.aload_n 0, 1) := by decide +kernel
theorem dX0_newsBehind_27 : decode cX0_newsBehind 27 = .ok (.getfield 19, 3) := by decide +kernel
theorem dX0_newsBehind_30 : decode cX0_newsBehind 30 = .ok (.iload_n 3, 1) := by decide +kernel
theorem dX0_newsBehind_31 : decode cX0_newsBehind 31 = .ok (.aaload, 1) := by decide +kernel
theorem dX0_newsBehind_32 : decode cX0_newsBehind 32 = .ok (.getfield 89, 3) := by decide +kernel
theorem dX0_newsBehind_35 : decode cX0_newsBehind 35 = .ok (.iload_n 1, 1) := by decide +kernel
theorem dX0_newsBehind_36 : decode cX0_newsBehind 36 = .ok (.if_icmp .le 17, 3) := by decide +kernel
theorem dX0_newsBehind_39 : decode cX0_newsBehind 39 = .ok (.iload_n 2, 1) := by decide +kernel
theorem dX0_newsBehind_40 : decode cX0_newsBehind 40 = .ok (.aload_n 0, 1) := by decide +kernel
theorem dX0_newsBehind_41 : decode cX0_newsBehind 41 = .ok (.getfield 19, 3) := by decide +kernel
theorem dX0_newsBehind_44 : decode cX0_newsBehind 44 = .ok (.iload_n 3, 1) := by decide +kernel
theorem dX0_newsBehind_45 : decode cX0_newsBehind 45 = .ok (.aaload, 1) := by decide +kernel
theorem dX0_newsBehind_46 : decode cX0_newsBehind 46 = .ok (.getfield 89, 3) := by decide +kernel
theorem dX0_newsBehind_49 : decode cX0_newsBehind 49 = .ok (.invokestatic 121, 3) := by decide +kernel
theorem dX0_newsBehind_52 : decode cX0_newsBehind 52 = .ok (.istore_n 2, 1) := by decide +kernel
theorem dX0_newsBehind_53 : decode cX0_newsBehind 53 = .ok (.iinc 3 1, 3) := by decide +kernel
theorem dX0_newsBehind_56 : decode cX0_newsBehind 56 = .ok (.goto (-50), 3) := by decide +kernel
theorem dX0_newsBehind_59 : decode cX0_newsBehind 59 = .ok (.iload_n 2, 1) := by decide +kernel
theorem dX0_newsBehind_60 : decode cX0_newsBehind 60 = .ok (.ireturn, 1) := by decide +kernel
set_option maxHeartbeats 4000000 in
set_option maxRecDepth 100000 in
theorem lp_sX0_newsBehind {p : Program} {l : Launch} {e : Env} {R : Room} {s : State} {m : MethodId} {args : Array Value} {below : List Frame} {meth : Method} {c : Code} {Q : State → Prop} {A : Nat → Prop} {cells slots : Nat} {dC : Nat → ClassId} {dI : Nat → Nat → Nat} (h0 : Nat) (re : Nat) (amonths : Int32) (afull : Int32) (alean : Int32) (alines : Int32) (ahasMoon : Int32) (amoonStart : Int32) (amoonStep : Int32) (aplaceCount : Int32) (areportCount : Int32) (adeedCount : Int32) (pl : Nat) (de : Nat) (kre : ClassId) (ra : Nat → Nat) (r_place : Nat → Int32) (r_kind : Nat → Int32) (r_month : Nat → Int32) (r_day : Nat → Int32) (r_known : Nat → Int32) (r_struck : Nat → Int32) (p1 : Int32) (gamonths : gi amonths 0 24) (gafull : gi afull 0 5) (galean : gi alean 0 5) (gahasMoon : gi ahasMoon 0 1) (gaplaceCount : gi aplaceCount 0 6) (gareportCount : gi areportCount 0 24) (gadeedCount : gi adeedCount 0 8) (gr_place : ga r_place 24 0 5) (gr_month : ga r_month 24 0 23) (gr_struck : ga r_struck 24 0 1) (hx : p.tables.exec = Jvm.exec) (hb : c.code = cX0_newsBehind) (hml : c.maxLocals = 4) (hown : s.vm.findClass RX0 = some m.cls) (hts : ∀ w ∈ ((.code yX0_newsBehind cX0_newsBehind 4 (some .int) :: wsGA) : List Cond), w.before args s = true) (hK : va_K (dC, dI) vwCl [(kre, .object RX7)] s) (hz : nzA s) (hF0 : va_P (dC, dI) vwCl (gz_fam 24 ra 7 (fun i => [.int (r_place i), .int (r_kind i), .int (r_month i), .int (r_day i), .int (r_known i), .int (r_struck i)])) s.heap) (hFA0 : gz_ap A (gz_fam 24 ra 7 (fun i => [.int (r_place i), .int (r_kind i), .int (r_month i), .int (r_day i), .int (r_known i), .int (r_struck i)]))) (hRf : 1 ≤ R.frames) (hRl : 13 ≤ R.locals) (hRc : cells ≤ R.cells) (hRs : slots ≤ R.slots) (kr60 : ∀ (v : Int32) (H : Heap) (locs : List Loc) (ls : Array Slot), gi v (-2147483648) 1000 → va_P (dC, dI) vwCl [(h0, .inr (0, [.int amonths, .int afull, .int alean, .int alines, .int ahasMoon, .int amoonStart, .int amoonStep, .int aplaceCount, .int areportCount, .int adeedCount, .ref pl, .ref re, .ref de])), (re, .inl (kre, 24, .inr (.inr (.inr (.inr (fun i => some (ra i)))))))] H → va_S A s.heap H locs → lv_has ls 4 [] → W p l e R s m args below meth c H locs cells slots Q (F0 m 60 ls [.int v])) : ∀ z : Nat, (∀ (v2 : Int32) (v3 : Int32) (H : Heap) (locs : List Loc) (ls : Array Slot), gi v2 (-2147483648) 1000 → gi v3 0 24 → 49 + (-2) * v3.toInt < (z : Int) → va_P (dC, dI) vwCl [(h0, .inr (0, [.int amonths, .int afull, .int alean, .int alines, .int ahasMoon, .int amoonStart, .int amoonStep, .int aplaceCount, .int areportCount, .int adeedCount, .ref pl, .ref re, .ref de])), (re, .inl (kre, 24, .inr (.inr (.inr (.inr (fun i => some (ra i)))))))] H → va_S A s.heap H locs → lv_has ls 4 [(0, .ref h0), (1, .int p1), (2, .int v2), (3, .int v3)] → W p l e R s m args below meth c H locs cells slots Q (F0 m 6 ls [])) := by
  intro z
  induction z with
  | zero =>
    intro v2 v3 H locs ls gv2 gv3 hmu hP hS hl
    exact absurd hmu (by have hv31 := gv3.1; have hv32 := gv3.2; omega)
  | succ z ih =>
      intro v2 v3 H locs ls gv2 gv3 hmu hP hS hl
      refine lv_iload_n hx hb dX0_newsBehind_6 rfl (lv_at hl 3 rfl) ?_
      refine lv_aload_n hx hb dX0_newsBehind_7 rfl (lv_at hl 0 rfl) ?_
      refine va_get (D := (dC, dI)) (ci := 0) (v := .int areportCount) (C := RX0) (T := TX0) (N := 13) hx hb hts (fun w h => List.mem_cons_of_mem _ (jnGA_X0 w h)) hown hK hP 0 rfl rfl 8 (by decide) (hts _ (List.mem_cons_of_mem _ mGA_160)) (fun _ h9 => h9) rfl dX0_newsBehind_8 ?_
      refine lv_icmp_ge (tgt := 59) hx hb dX0_newsBehind_11 (by decide) (fun c_241 => ?_) (fun c_241 => ?_)
      · refine lv_iload_n hx hb dX0_newsBehind_59 rfl (lv_at hl 2 rfl) ?_
        exact kr60 v2 _ _ _ gv2 hP hS (lv_sub hl [] rfl)
      · have g_242 : gi v3 0 23 := gi_lt_l (Int32.not_le.mp c_241) gv3 gareportCount (by decide)
        have g_243 : gi areportCount 1 24 := gi_lt_r (Int32.not_le.mp c_241) gv3 gareportCount (by decide)
        refine lv_aload_n hx hb dX0_newsBehind_14 rfl (lv_at hl 0 rfl) ?_
        refine va_get (D := (dC, dI)) (ci := 0) (v := .ref re) (C := RX0) (T := TX0) (N := 13) hx hb hts (fun w h => List.mem_cons_of_mem _ (jnGA_X0 w h)) hown hK hP 0 rfl rfl 11 (by decide) (hts _ (List.mem_cons_of_mem _ mGA_72)) (fun _ h9 => h9) rfl dX0_newsBehind_15 ?_
        refine lv_iload_n hx hb dX0_newsBehind_18 rfl (lv_at hl 3 rfl) ?_
        refine va_aldq hx hb hK hP 1 0 rfl rfl (gi_in g_242 (by decide)) dX0_newsBehind_19 ?_
        refine W.eq (g2 := F0 m 20 ls [.ref (ra v3.toNatClampNeg)]) rfl ?_
        refine va_get (D := (dC, dI)) (ci := 7) (v := .int (r_struck v3.toNatClampNeg)) (C := RX7) (T := TX7) (N := 6) hx hb hts (fun w h => List.mem_cons_of_mem _ (jnGA_X7 w h)) hown hK (gz_ro hF0 hFA0 hS) (v3.toNatClampNeg) (gz_fam_at (gz_clt (gi_in (n := 24) g_242 (by decide)))) rfl 5 (by decide) (hts _ (List.mem_cons_of_mem _ mGA_322)) (fun _ h9 => h9) rfl dX0_newsBehind_20 ?_
        refine lv_topi (fun x_244 ex_244 => ?_)
        have gx_244 : gi x_244 0 1 := ga_at gr_struck (gi_in (n := 24) g_242 (by decide)) ex_244
        refine lv_if_ne (tgt := 53) hx hb dX0_newsBehind_23 (by decide) (fun c_245 => ?_) (fun c_245 => ?_)
        · have g_246 : gi x_244 1 1 := gi_ne_lo c_245 gx_244 (gi_c 0 0 (by decide)) (by decide)
          obtain ⟨x_247, ex_247⟩ : ∃ y : Int32, y = v3 + 1 := ⟨_, rfl⟩
          have gx_247 : gi x_247 1 24 := gi_add ex_247 g_242 (gi_c 1 1 (by decide)) (by decide)
          refine lv_iinc (v := x_247) (lv' := [(3, .int x_247), (0, .ref h0), (1, .int p1), (2, .int v2)]) hx hb dX0_newsBehind_53 hl (k := 3) rfl (by rw [ex_247]; rfl) (by decide) rfl (fun ls hl => ?_)
          refine lv_goto (tgt := 6) hx hb dX0_newsBehind_56 (by decide) ?_
          exact ih v2 x_247 _ _ _ gv2 (gi_w gx_247 (by decide)) (by have av3 := gv3.1; have bv3 := gv3.2; have qgx_247 := gx_247.1; have rgx_247 := gx_247.2; have igx_247 : x_247.toInt = v3.toInt + 1 := (by have hc1 : (1 : Int32).toInt = 1 := (by decide); have h9 := gi_addI ex_247 (by have h1 := g_242.1; have h2 := (gi_c 1 1 (by decide)).1; have h3 := g_242.2; have h4 := (gi_c 1 1 (by decide)).2; omega) (by have h1 := g_242.1; have h2 := (gi_c 1 1 (by decide)).1; have h3 := g_242.2; have h4 := (gi_c 1 1 (by decide)).2; omega); rw [hc1] at h9; exact h9); have qgv3 := g_242.1; have rgv3 := g_242.2; omega) hP hS (lv_sub hl [1, 2, 3, 0] rfl)
        · have g_248 : gi x_244 0 0 := gi_eq c_245 (gi_c 0 0 (by decide))
          refine lv_aload_n hx hb dX0_newsBehind_26 rfl (lv_at hl 0 rfl) ?_
          refine va_get (D := (dC, dI)) (ci := 0) (v := .ref re) (C := RX0) (T := TX0) (N := 13) hx hb hts (fun w h => List.mem_cons_of_mem _ (jnGA_X0 w h)) hown hK hP 0 rfl rfl 11 (by decide) (hts _ (List.mem_cons_of_mem _ mGA_72)) (fun _ h9 => h9) rfl dX0_newsBehind_27 ?_
          refine lv_iload_n hx hb dX0_newsBehind_30 rfl (lv_at hl 3 rfl) ?_
          refine va_aldq hx hb hK hP 1 0 rfl rfl (gi_in g_242 (by decide)) dX0_newsBehind_31 ?_
          refine W.eq (g2 := F0 m 32 ls [.ref (ra v3.toNatClampNeg)]) rfl ?_
          refine va_get (D := (dC, dI)) (ci := 7) (v := .int (r_known v3.toNatClampNeg)) (C := RX7) (T := TX7) (N := 6) hx hb hts (fun w h => List.mem_cons_of_mem _ (jnGA_X7 w h)) hown hK (gz_ro hF0 hFA0 hS) (v3.toNatClampNeg) (gz_fam_at (gz_clt (gi_in (n := 24) g_242 (by decide)))) rfl 4 (by decide) (hts _ (List.mem_cons_of_mem _ mGA_321)) (fun _ h9 => h9) rfl dX0_newsBehind_32 ?_
          refine lv_topi (fun x_249 ex_249 => ?_)
          refine lv_iload_n hx hb dX0_newsBehind_35 rfl (lv_at hl 1 rfl) ?_
          refine lv_icmp_le (tgt := 53) hx hb dX0_newsBehind_36 (by decide) (fun c_250 => ?_) (fun c_250 => ?_)
          · obtain ⟨x_251, ex_251⟩ : ∃ y : Int32, y = v3 + 1 := ⟨_, rfl⟩
            have gx_251 : gi x_251 1 24 := gi_add ex_251 g_242 (gi_c 1 1 (by decide)) (by decide)
            refine lv_iinc (v := x_251) (lv' := [(3, .int x_251), (0, .ref h0), (1, .int p1), (2, .int v2)]) hx hb dX0_newsBehind_53 hl (k := 3) rfl (by rw [ex_251]; rfl) (by decide) rfl (fun ls hl => ?_)
            refine lv_goto (tgt := 6) hx hb dX0_newsBehind_56 (by decide) ?_
            exact ih v2 x_251 _ _ _ gv2 (gi_w gx_251 (by decide)) (by have av3 := gv3.1; have bv3 := gv3.2; have qgx_251 := gx_251.1; have rgx_251 := gx_251.2; have igx_251 : x_251.toInt = v3.toInt + 1 := (by have hc1 : (1 : Int32).toInt = 1 := (by decide); have h9 := gi_addI ex_251 (by have h1 := g_242.1; have h2 := (gi_c 1 1 (by decide)).1; have h3 := g_242.2; have h4 := (gi_c 1 1 (by decide)).2; omega) (by have h1 := g_242.1; have h2 := (gi_c 1 1 (by decide)).1; have h3 := g_242.2; have h4 := (gi_c 1 1 (by decide)).2; omega); rw [hc1] at h9; exact h9); have qgv3 := g_242.1; have rgv3 := g_242.2; omega) hP hS (lv_sub hl [1, 2, 3, 0] rfl)
          · have g_252 : gi p1 (-2147483648) 2147483646 := gi_lt_l (Int32.not_le.mp c_250) (gi_any p1) (gi_any x_249) (by decide)
            have g_253 : gi x_249 (-2147483647) 2147483647 := gi_lt_r (Int32.not_le.mp c_250) (gi_any p1) (gi_any x_249) (by decide)
            refine lv_iload_n hx hb dX0_newsBehind_39 rfl (lv_at hl 2 rfl) ?_
            refine lv_aload_n hx hb dX0_newsBehind_40 rfl (lv_at hl 0 rfl) ?_
            refine va_get (D := (dC, dI)) (ci := 0) (v := .ref re) (C := RX0) (T := TX0) (N := 13) hx hb hts (fun w h => List.mem_cons_of_mem _ (jnGA_X0 w h)) hown hK hP 0 rfl rfl 11 (by decide) (hts _ (List.mem_cons_of_mem _ mGA_72)) (fun _ h9 => h9) rfl dX0_newsBehind_41 ?_
            refine lv_iload_n hx hb dX0_newsBehind_44 rfl (lv_at hl 3 rfl) ?_
            refine va_aldq hx hb hK hP 1 0 rfl rfl (gi_in g_242 (by decide)) dX0_newsBehind_45 ?_
            refine W.eq (g2 := F0 m 46 ls [.ref (ra v3.toNatClampNeg), .int v2]) rfl ?_
            refine va_get (D := (dC, dI)) (ci := 7) (v := .int (r_known v3.toNatClampNeg)) (C := RX7) (T := TX7) (N := 6) hx hb hts (fun w h => List.mem_cons_of_mem _ (jnGA_X7 w h)) hown hK (gz_ro hF0 hFA0 hS) (v3.toNatClampNeg) (gz_fam_at (gz_clt (gi_in (n := 24) g_242 (by decide)))) rfl 4 (by decide) (hts _ (List.mem_cons_of_mem _ mGA_321)) (fun _ h9 => h9) rfl dX0_newsBehind_46 ?_
            refine lv_topi (fun x_254 ex_254 => ?_)
            refine va_mmin (own := RX0) hx hb (by rw [hml]; exact hl.1.symm) hown (hts _ (List.mem_cons_of_mem _ mGA_718)) (hts _ (List.mem_cons_of_mem _ mGA_268)) (hts _ (List.mem_cons_of_mem _ mGA_269)) (hts _ (List.mem_cons_of_mem _ mGA_270)) (Nat.le_trans (Nat.le_of_ble_eq_true rfl) hRf) (Nat.le_trans (Nat.le_of_ble_eq_true rfl) hRl) hRc hRs dX0_newsBehind_49 ?_
            refine lv_topi (fun x_255 ex_255 => ?_)
            have gx_255 : gi x_255 (-2147483648) 1000 := gi_min ex_255 gv2 (gi_any x_254) (by decide)
            refine lv_istore_n (lv' := [(2, .int x_255), (0, .ref h0), (1, .int p1), (3, .int v3)]) hx hb dX0_newsBehind_52 rfl hl (by decide) rfl (fun ls hl => ?_)
            obtain ⟨x_256, ex_256⟩ : ∃ y : Int32, y = v3 + 1 := ⟨_, rfl⟩
            have gx_256 : gi x_256 1 24 := gi_add ex_256 g_242 (gi_c 1 1 (by decide)) (by decide)
            refine lv_iinc (v := x_256) (lv' := [(3, .int x_256), (2, .int x_255), (0, .ref h0), (1, .int p1)]) hx hb dX0_newsBehind_53 hl (k := 3) rfl (by rw [ex_256]; rfl) (by decide) rfl (fun ls hl => ?_)
            refine lv_goto (tgt := 6) hx hb dX0_newsBehind_56 (by decide) ?_
            exact ih x_255 x_256 _ _ _ gx_255 (gi_w gx_256 (by decide)) (by have av3 := gv3.1; have bv3 := gv3.2; have qgx_256 := gx_256.1; have rgx_256 := gx_256.2; have igx_256 : x_256.toInt = v3.toInt + 1 := (by have hc1 : (1 : Int32).toInt = 1 := (by decide); have h9 := gi_addI ex_256 (by have h1 := g_242.1; have h2 := (gi_c 1 1 (by decide)).1; have h3 := g_242.2; have h4 := (gi_c 1 1 (by decide)).2; omega) (by have h1 := g_242.1; have h2 := (gi_c 1 1 (by decide)).1; have h3 := g_242.2; have h4 := (gi_c 1 1 (by decide)).2; omega); rw [hc1] at h9; exact h9); have qgv3 := g_242.1; have rgv3 := g_242.2; omega) hP hS (lv_sub hl [2, 3, 1, 0] rfl)
set_option maxHeartbeats 4000000 in
set_option maxRecDepth 100000 in
theorem sX0_newsBehind (l : Launch) (dC : Nat → ClassId) (dI : Nat → Nat → Nat) (h0 : Nat) (re : Nat) (amonths : Int32) (afull : Int32) (alean : Int32) (alines : Int32) (ahasMoon : Int32) (amoonStart : Int32) (amoonStep : Int32) (aplaceCount : Int32) (areportCount : Int32) (adeedCount : Int32) (pl : Nat) (de : Nat) (kre : ClassId) (ra : Nat → Nat) (r_place : Nat → Int32) (r_kind : Nat → Int32) (r_month : Nat → Int32) (r_day : Nat → Int32) (r_known : Nat → Int32) (r_struck : Nat → Int32) (p1 : Int32) (gamonths : gi amonths 0 24) (gafull : gi afull 0 5) (galean : gi alean 0 5) (gahasMoon : gi ahasMoon 0 1) (gaplaceCount : gi aplaceCount 0 6) (gareportCount : gi areportCount 0 24) (gadeedCount : gi adeedCount 0 8) (gr_place : ga r_place 24 0 5) (gr_month : ga r_month 24 0 23) (gr_struck : ga r_struck 24 0 1) : Met l yX0_newsBehind (.code yX0_newsBehind cX0_newsBehind 4 (some .int) :: wsGA) ({ frames := 1, cells := 0, slots := 0, locals := 13 }) (va_Pc [.ref h0, .int p1] (fun U => va_P (dC, dI) vwCl [(h0, .inr (0, [.int amonths, .int afull, .int alean, .int alines, .int ahasMoon, .int amoonStart, .int amoonStep, .int aplaceCount, .int areportCount, .int adeedCount, .ref pl, .ref re, .ref de])), (re, .inl (kre, 24, .inr (.inr (.inr (.inr (fun i => some (ra i)))))))] U.heap ∧ va_K (dC, dI) vwCl [(kre, .object RX7)] U ∧ nzA U ∧ va_P (dC, dI) vwCl (gz_fam 24 ra 7 (fun i => [.int (r_place i), .int (r_kind i), .int (r_month i), .int (r_day i), .int (r_known i), .int (r_struck i)])) U.heap)) (va_Qi (fun (r : Int32) (u : Unit) => gi r (-2147483648) 1000) (fun _ _ => True) (fun _ => False)) 0 0 (fun _ => False) := by
  refine Met.ofW (cc := cX0_newsBehind) (maxL := 4) (ret := (some .int)) (by decide) rfl ?_
  intro p e s m args below meth c s₁ B hml hv
  obtain ⟨rfl, hP, hK, hz, hF0⟩ := hv
  have hx := B.exec
  have hb := B.bytes
  have hr := B.returns
  have hts := atoms_spec (ws := (.code yX0_newsBehind cX0_newsBehind 4 (some .int) :: wsGA)) B.pre
  have hown : s.vm.findClass RX0 = some m.cls := findClass_of_methodNamed B.named
  have hlocks := B.notSynchronized
  have hS : va_S (fun _ => False) s.heap s.heap [] := va_S.rf
  have hFA0 : gz_ap (fun _ => False) (gz_fam 24 ra 7 (fun i => [.int (r_place i), .int (r_kind i), .int (r_month i), .int (r_day i), .int (r_known i), .int (r_struck i)])) := gz_ap0
  have hl := lv_entry ([.ref h0, .int p1]) (n := 4) (Nat.le_of_ble_eq_true rfl)
  rw [lg_entry_eq]
  generalize (lg_sl ([.ref h0, .int p1]) ++ List.replicate (4 - (lg_sl ([.ref h0, .int p1])).length) Slot.unset).toArray = ls at hl ⊢
  have hl : lv_has ls 4 [(0, .ref h0), (1, .int p1)] := hl
  refine lv_sipush (v := 1000) hx hb dX0_newsBehind_0 (by decide) ?_
  refine lv_istore_n (lv' := [(2, .int 1000), (0, .ref h0), (1, .int p1)]) hx hb dX0_newsBehind_3 rfl hl (by decide) rfl (fun ls hl => ?_)
  refine lv_iconst (v := 0) hx hb dX0_newsBehind_4 (by decide) ?_
  refine lv_istore_n (lv' := [(3, .int 0), (2, .int 1000), (0, .ref h0), (1, .int p1)]) hx hb dX0_newsBehind_5 rfl hl (by decide) rfl (fun ls hl => ?_)
  refine (lp_sX0_newsBehind h0 re amonths afull alean alines ahasMoon amoonStart amoonStep aplaceCount areportCount adeedCount pl de kre ra r_place r_kind r_month r_day r_known r_struck p1 gamonths gafull galean gahasMoon gaplaceCount gareportCount gadeedCount gr_place gr_month gr_struck hx hb hml hown hts hK hz hF0 hFA0 (Nat.le_of_ble_eq_true rfl) (Nat.le_of_ble_eq_true rfl) (Nat.zero_le _) (Nat.zero_le _) (fun v H locs ls gv hP hS hl => ?_) 62) 1000 0 _ _ _ (gi_w (gi_c 1000 1000 (by decide)) (by decide)) (gi_w (gi_c 0 0 (by decide)) (by decide)) (by have k0 : (0 : Int32).toInt = 0 := (by decide); omega) hP hS (lv_sub hl [2, 3, 1, 0] rfl)
  · skip
    exact W.iret (v := v) hx hb hr (fun t ht hW => ⟨⟨v, (), rfl, gv, trivial⟩, hS.F ht⟩) hS.2.2 dX0_newsBehind_60
set_option maxHeartbeats 4000000 in
set_option maxRecDepth 100000 in
theorem lp_sX0_placeNamedF {p : Program} {l : Launch} {e : Env} {R : Room} {s : State} {m : MethodId} {args : Array Value} {below : List Frame} {meth : Method} {c : Code} {Q : State → Prop} {A : Nat → Prop} {cells slots : Nat} {dC : Nat → ClassId} {dI : Nat → Nat → Nat} {RES : Int32} (h0 : Nat) (pl : Nat) (amonths : Int32) (afull : Int32) (alean : Int32) (alines : Int32) (ahasMoon : Int32) (amoonStart : Int32) (amoonStep : Int32) (aplaceCount : Int32) (areportCount : Int32) (adeedCount : Int32) (re : Nat) (de : Nat) (kpl : ClassId) (pa : Nat → Nat) (p_name : Nat → Int32) (p_trust : Nat → Int32) (p1 : Int32) (gamonths : gi amonths 0 24) (gafull : gi afull 0 5) (galean : gi alean 0 5) (gahasMoon : gi ahasMoon 0 1) (gaplaceCount : gi aplaceCount 0 6) (gareportCount : gi areportCount 0 24) (gadeedCount : gi adeedCount 0 8) (hx : p.tables.exec = Jvm.exec) (hb : c.code = cX0_placeNamed) (hml : c.maxLocals = 3) (hown : s.vm.findClass RX0 = some m.cls) (hts : ∀ w ∈ ((.code yX0_placeNamed cX0_placeNamed 3 (some .int) :: wsGA) : List Cond), w.before args s = true) (hK : va_K (dC, dI) vwCl [(kpl, .object RX5)] s) (hz : nzA s) (hF0 : va_P (dC, dI) vwCl (gz_fam 6 pa 5 (fun i => [.int (p_name i), .int (p_trust i)])) s.heap) (hFA0 : gz_ap A (gz_fam 6 pa 5 (fun i => [.int (p_name i), .int (p_trust i)]))) (hRf : 0 ≤ R.frames) (hRl : 0 ≤ R.locals) (hRc : cells ≤ R.cells) (hRs : slots ≤ R.slots) (kr32 : ∀ (v : Int32) (H : Heap) (locs : List Loc) (ls : Array Slot), gi v (-1) (-1) → v.toInt = pnF p_name aplaceCount p1 → v = RES → va_P (dC, dI) vwCl [(h0, .inr (0, [.int amonths, .int afull, .int alean, .int alines, .int ahasMoon, .int amoonStart, .int amoonStep, .int aplaceCount, .int areportCount, .int adeedCount, .ref pl, .ref re, .ref de])), (pl, .inl (kpl, 6, .inr (.inr (.inr (.inr (fun i => some (pa i)))))))] H → va_S A s.heap H locs → lv_has ls 3 [] → W p l e R s m args below meth c H locs cells slots Q (F0 m 32 ls [.int v])) (kr24 : ∀ (v : Int32) (H : Heap) (locs : List Loc) (ls : Array Slot), gi v 0 5 → v.toInt = pnF p_name aplaceCount p1 → v = RES → va_P (dC, dI) vwCl [(h0, .inr (0, [.int amonths, .int afull, .int alean, .int alines, .int ahasMoon, .int amoonStart, .int amoonStep, .int aplaceCount, .int areportCount, .int adeedCount, .ref pl, .ref re, .ref de])), (pl, .inl (kpl, 6, .inr (.inr (.inr (.inr (fun i => some (pa i)))))))] H → va_S A s.heap H locs → lv_has ls 3 [] → W p l e R s m args below meth c H locs cells slots Q (F0 m 24 ls [.int v])) : ∀ z : Nat, (∀ (v2 : Int32) (H : Heap) (locs : List Loc) (ls : Array Slot), gi v2 0 6 → pnF p_name aplaceCount p1 = pnG p_name p1 (aplaceCount.toInt - v2.toInt).toNat (v2.toInt : Int).toNat → (lfX0_placeNamed aplaceCount p_name p1 z) v2 = RES → 13 + (-2) * v2.toInt < (z : Int) → va_P (dC, dI) vwCl [(h0, .inr (0, [.int amonths, .int afull, .int alean, .int alines, .int ahasMoon, .int amoonStart, .int amoonStep, .int aplaceCount, .int areportCount, .int adeedCount, .ref pl, .ref re, .ref de])), (pl, .inl (kpl, 6, .inr (.inr (.inr (.inr (fun i => some (pa i)))))))] H → va_S A s.heap H locs → lv_has ls 3 [(0, .ref h0), (1, .int p1), (2, .int v2)] → W p l e R s m args below meth c H locs cells slots Q (F0 m 2 ls [])) := by
  intro z
  induction z with
  | zero =>
    intro v2 H locs ls gv2 hinv0 hF hmu hP hS hl
    exact absurd hmu (by have hv21 := gv2.1; have hv22 := gv2.2; omega)
  | succ z ih =>
      intro v2 H locs ls gv2 hinv0 hF hmu hP hS hl
      have hF : dfX0_placeNamed_2 aplaceCount p_name p1 (lfX0_placeNamed aplaceCount p_name p1 z) v2 = RES := hF
      refine lv_iload_n hx hb dX0_placeNamed_2 rfl (lv_at hl 2 rfl) ?_
      refine lv_aload_n hx hb dX0_placeNamed_3 rfl (lv_at hl 0 rfl) ?_
      refine va_get (D := (dC, dI)) (ci := 0) (v := .int aplaceCount) (C := RX0) (T := TX0) (N := 13) hx hb hts (fun w h => List.mem_cons_of_mem _ (jnGA_X0 w h)) hown hK hP 0 rfl rfl 7 (by decide) (hts _ (List.mem_cons_of_mem _ mGA_159)) (fun _ h9 => h9) rfl dX0_placeNamed_4 ?_
      refine lv_icmp_ge (tgt := 31) hx hb dX0_placeNamed_7 (by decide) (fun c_71 => ?_) (fun c_71 => ?_)
      · have hF := gf_pos c_71 hF
        have hc_72 : aplaceCount.toInt ≤ v2.toInt := by have h9 := Int32.le_iff_toInt_le.mp c_71; exact h9
        refine lv_iconst (v := (-1)) hx hb dX0_placeNamed_31 (by decide) ?_
        exact kr32 (-1) _ _ _ (gi_c (-1) (-1) (by decide)) (show ((-1) : Int) = pnF p_name aplaceCount p1 from by rw [pn_end hinv0 (by have qgv2 := gv2.1; have rgv2 := gv2.2; have qgaplaceCount := gaplaceCount.1; have rgaplaceCount := gaplaceCount.2; omega)]) hF hP hS (lv_sub hl [] rfl)
      · have hF := gf_neg c_71 hF
        have hc_73 : v2.toInt < aplaceCount.toInt := by have h9 := Int32.lt_iff_toInt_lt.mp (Int32.not_le.mp c_71); exact h9
        have g_74 : gi v2 0 5 := gi_lt_l (Int32.not_le.mp c_71) gv2 gaplaceCount (by decide)
        have g_75 : gi aplaceCount 1 6 := gi_lt_r (Int32.not_le.mp c_71) gv2 gaplaceCount (by decide)
        refine lv_aload_n hx hb dX0_placeNamed_10 rfl (lv_at hl 0 rfl) ?_
        refine va_get (D := (dC, dI)) (ci := 0) (v := .ref pl) (C := RX0) (T := TX0) (N := 13) hx hb hts (fun w h => List.mem_cons_of_mem _ (jnGA_X0 w h)) hown hK hP 0 rfl rfl 10 (by decide) (hts _ (List.mem_cons_of_mem _ mGA_70)) (fun _ h9 => h9) rfl dX0_placeNamed_11 ?_
        refine lv_iload_n hx hb dX0_placeNamed_14 rfl (lv_at hl 2 rfl) ?_
        refine va_aldq hx hb hK hP 1 0 rfl rfl (gi_in g_74 (by decide)) dX0_placeNamed_15 ?_
        refine W.eq (g2 := F0 m 16 ls [.ref (pa v2.toNatClampNeg)]) rfl ?_
        refine va_get (D := (dC, dI)) (ci := 5) (v := .int (p_name v2.toNatClampNeg)) (C := RX5) (T := TX5) (N := 2) hx hb hts (fun w h => List.mem_cons_of_mem _ (jnGA_X5 w h)) hown hK (gz_ro hF0 hFA0 hS) (v2.toNatClampNeg) (gz_fam_at (gz_clt (gi_in (n := 6) g_74 (by decide)))) rfl 0 (by decide) (hts _ (List.mem_cons_of_mem _ mGA_302)) (fun _ h9 => h9) rfl dX0_placeNamed_16 ?_
        refine lv_topi (fun x_76 ex_76 => ?_)
        refine lv_iload_n hx hb dX0_placeNamed_19 rfl (lv_at hl 1 rfl) ?_
        refine lv_icmp_ne (tgt := 25) hx hb dX0_placeNamed_20 (by decide) (fun c_77 => ?_) (fun c_77 => ?_)
        · have hF := gf_neg (by rw [ex_76] at c_77; exact c_77) hF
          have hc_78 : x_76.toInt ≠ p1.toInt := fun h9 => c_77 (Int32.toInt_inj.mp (by exact h9))
          obtain ⟨x_79, ex_79⟩ : ∃ y : Int32, y = v2 + 1 := ⟨_, rfl⟩
          have gx_79 : gi x_79 1 6 := gi_add ex_79 g_74 (gi_c 1 1 (by decide)) (by decide)
          refine lv_iinc (v := x_79) (lv' := [(2, .int x_79), (0, .ref h0), (1, .int p1)]) hx hb dX0_placeNamed_25 hl (k := 2) rfl (by rw [ex_79]; rfl) (by decide) rfl (fun ls hl => ?_)
          refine lv_goto (tgt := 2) hx hb dX0_placeNamed_28 (by decide) ?_
          exact ih x_79 _ _ _ (gi_w gx_79 (by decide)) (show pnF p_name aplaceCount p1 = pnG p_name p1 (aplaceCount.toInt - x_79.toInt).toNat (x_79.toInt : Int).toNat from by exact pn_step hinv0 (by have qgv2 := g_74.1; have rgv2 := g_74.2; have qgaplaceCount := g_75.1; have rgaplaceCount := g_75.2; omega) (by have qgv2 := g_74.1; have rgv2 := g_74.2; have qgaplaceCount := g_75.1; have rgaplaceCount := g_75.2; omega) (fun h9 => c_77 (ex_76.trans h9)) (by have qgx_79 := gx_79.1; have rgx_79 := gx_79.2; have igx_79 : x_79.toInt = v2.toInt + 1 := (by have hc1 : (1 : Int32).toInt = 1 := (by decide); have h9 := gi_addI ex_79 (by have h1 := g_74.1; have h2 := (gi_c 1 1 (by decide)).1; have h3 := g_74.2; have h4 := (gi_c 1 1 (by decide)).2; omega) (by have h1 := g_74.1; have h2 := (gi_c 1 1 (by decide)).1; have h3 := g_74.2; have h4 := (gi_c 1 1 (by decide)).2; omega); rw [hc1] at h9; exact h9); have qgv2 := g_74.1; have rgv2 := g_74.2; have qgaplaceCount := g_75.1; have rgaplaceCount := g_75.2; omega)) (by rw [ex_79]; exact hF) (by have av2 := gv2.1; have bv2 := gv2.2; have qgx_79 := gx_79.1; have rgx_79 := gx_79.2; have igx_79 : x_79.toInt = v2.toInt + 1 := (by have hc1 : (1 : Int32).toInt = 1 := (by decide); have h9 := gi_addI ex_79 (by have h1 := g_74.1; have h2 := (gi_c 1 1 (by decide)).1; have h3 := g_74.2; have h4 := (gi_c 1 1 (by decide)).2; omega) (by have h1 := g_74.1; have h2 := (gi_c 1 1 (by decide)).1; have h3 := g_74.2; have h4 := (gi_c 1 1 (by decide)).2; omega); rw [hc1] at h9; exact h9); have qgv2 := g_74.1; have rgv2 := g_74.2; omega) hP hS (lv_sub hl [1, 2, 0] rfl)
        · have hF := gf_pos (by rw [ex_76] at c_77; exact c_77) hF
          have hc_80 : x_76.toInt = p1.toInt := by have h9 := congrArg Int32.toInt c_77; exact h9
          refine lv_iload_n hx hb dX0_placeNamed_23 rfl (lv_at hl 2 rfl) ?_
          exact kr24 v2 _ _ _ g_74 (show v2.toInt = pnF p_name aplaceCount p1 from by exact pn_hit hinv0 (by have qgv2 := g_74.1; have rgv2 := g_74.2; have qgaplaceCount := g_75.1; have rgaplaceCount := g_75.2; omega) (by have qgv2 := g_74.1; have rgv2 := g_74.2; have qgaplaceCount := g_75.1; have rgaplaceCount := g_75.2; omega) (ex_76.symm.trans c_77)) hF hP hS (lv_sub hl [] rfl)
set_option maxHeartbeats 4000000 in
set_option maxRecDepth 100000 in
theorem sX0_placeNamedF (l : Launch) (dC : Nat → ClassId) (dI : Nat → Nat → Nat) (h0 : Nat) (pl : Nat) (amonths : Int32) (afull : Int32) (alean : Int32) (alines : Int32) (ahasMoon : Int32) (amoonStart : Int32) (amoonStep : Int32) (aplaceCount : Int32) (areportCount : Int32) (adeedCount : Int32) (re : Nat) (de : Nat) (kpl : ClassId) (pa : Nat → Nat) (p_name : Nat → Int32) (p_trust : Nat → Int32) (p1 : Int32) (gamonths : gi amonths 0 24) (gafull : gi afull 0 5) (galean : gi alean 0 5) (gahasMoon : gi ahasMoon 0 1) (gaplaceCount : gi aplaceCount 0 6) (gareportCount : gi areportCount 0 24) (gadeedCount : gi adeedCount 0 8) : Met l yX0_placeNamed (.code yX0_placeNamed cX0_placeNamed 3 (some .int) :: wsGA) ({ frames := 0, cells := 0, slots := 0, locals := 0 }) (va_Pc [.ref h0, .int p1] (fun U => va_P (dC, dI) vwCl [(h0, .inr (0, [.int amonths, .int afull, .int alean, .int alines, .int ahasMoon, .int amoonStart, .int amoonStep, .int aplaceCount, .int areportCount, .int adeedCount, .ref pl, .ref re, .ref de])), (pl, .inl (kpl, 6, .inr (.inr (.inr (.inr (fun i => some (pa i)))))))] U.heap ∧ va_K (dC, dI) vwCl [(kpl, .object RX5)] U ∧ nzA U ∧ va_P (dC, dI) vwCl (gz_fam 6 pa 5 (fun i => [.int (p_name i), .int (p_trust i)])) U.heap)) (va_Qi (fun (r : Int32) (u : Unit) => (gi r (-1) 5 ∧ r.toInt = pnF p_name aplaceCount p1) ∧ r = fX0_placeNamed aplaceCount p_name p1) (fun _ _ => True) (fun _ => False)) 0 0 (fun _ => False) := by
  refine Met.ofW (cc := cX0_placeNamed) (maxL := 3) (ret := (some .int)) (by decide) rfl ?_
  intro p e s m args below meth c s₁ B hml hv
  obtain ⟨rfl, hP, hK, hz, hF0⟩ := hv
  have hx := B.exec
  have hb := B.bytes
  have hr := B.returns
  have hts := atoms_spec (ws := (.code yX0_placeNamed cX0_placeNamed 3 (some .int) :: wsGA)) B.pre
  have hown : s.vm.findClass RX0 = some m.cls := findClass_of_methodNamed B.named
  have hlocks := B.notSynchronized
  have hS : va_S (fun _ => False) s.heap s.heap [] := va_S.rf
  have hFA0 : gz_ap (fun _ => False) (gz_fam 6 pa 5 (fun i => [.int (p_name i), .int (p_trust i)])) := gz_ap0
  have hl := lv_entry ([.ref h0, .int p1]) (n := 3) (Nat.le_of_ble_eq_true rfl)
  rw [lg_entry_eq]
  generalize (lg_sl ([.ref h0, .int p1]) ++ List.replicate (3 - (lg_sl ([.ref h0, .int p1])).length) Slot.unset).toArray = ls at hl ⊢
  have hl : lv_has ls 3 [(0, .ref h0), (1, .int p1)] := hl
  obtain ⟨RES, hF⟩ : ∃ R9, fX0_placeNamed aplaceCount p_name p1 = R9 := ⟨_, rfl⟩
  have hR9 := hF
  refine lv_iconst (v := 0) hx hb dX0_placeNamed_0 (by decide) ?_
  refine lv_istore_n (lv' := [(2, .int 0), (0, .ref h0), (1, .int p1)]) hx hb dX0_placeNamed_1 rfl hl (by decide) rfl (fun ls hl => ?_)
  refine (lp_sX0_placeNamedF h0 pl amonths afull alean alines ahasMoon amoonStart amoonStep aplaceCount areportCount adeedCount re de kpl pa p_name p_trust p1 gamonths gafull galean gahasMoon gaplaceCount gareportCount gadeedCount hx hb hml hown hts hK hz hF0 hFA0 (Nat.le_of_ble_eq_true rfl) (Nat.le_of_ble_eq_true rfl) (Nat.zero_le _) (Nat.zero_le _) (fun v H locs ls gv hpx hF hP hS hl => ?_) (fun v H locs ls gv hpx hF hP hS hl => ?_) 1000000000) 0 _ _ _ (gi_w (gi_c 0 0 (by decide)) (by decide)) (show pnF p_name aplaceCount p1 = pnG p_name p1 (aplaceCount.toInt - (0 : Int)).toNat ((0 : Int) : Int).toNat from by exact pn_start _ _ _) hF (by have k0 : (0 : Int32).toInt = 0 := (by decide); omega) hP hS (lv_sub hl [1, 2, 0] rfl)
  · skip
    exact W.iret (v := v) hx hb hr (fun t ht hW => ⟨⟨v, (), rfl, ⟨⟨(gi_w gv (by decide)), hpx⟩, hF.trans hR9.symm⟩, trivial⟩, hS.F ht⟩) hS.2.2 dX0_placeNamed_32
  · skip
    exact W.iret (v := v) hx hb hr (fun t ht hW => ⟨⟨v, (), rfl, ⟨⟨(gi_w gv (by decide)), hpx⟩, hF.trans hR9.symm⟩, trivial⟩, hS.F ht⟩) hS.2.2 dX0_placeNamed_24
theorem dX0_addDeed_0 : decode cX0_addDeed 0 = .ok (.aload_n 0, 1) := by decide +kernel
theorem dX0_addDeed_1 : decode cX0_addDeed 1 = .ok (.getfield 61, 3) := by decide +kernel
theorem dX0_addDeed_4 : decode cX0_addDeed 4 = .ok (.bipush 8, 2) := by decide +kernel
theorem dX0_addDeed_6 : decode cX0_addDeed 6 = .ok (.if_icmp .ge 49, 3) := by decide +kernel
theorem dX0_addDeed_9 : decode cX0_addDeed 9 = .ok (.aload_n 0, 1) := by decide +kernel
theorem dX0_addDeed_10 : decode cX0_addDeed 10 = .ok (.getfield 25, 3) := by decide +kernel
theorem dX0_addDeed_13 : decode cX0_addDeed 13 = .ok (.aload_n 0, 1) := by decide +kernel
theorem dX0_addDeed_14 : decode cX0_addDeed 14 = .ok (.getfield 61, 3) := by decide +kernel
theorem dX0_addDeed_17 : decode cX0_addDeed 17 = .ok (.aaload, 1) := by decide +kernel
theorem dX0_addDeed_18 : decode cX0_addDeed 18 = .ok (.astore 5, 2) := by decide +kernel
theorem dX0_addDeed_20 : decode cX0_addDeed 20 = .ok (.aload 5, 2) := by decide +kernel
theorem dX0_addDeed_22 : decode cX0_addDeed 22 = .ok (.iload_n 1, 1) := by decide +kernel
theorem dX0_addDeed_23 : decode cX0_addDeed 23 = .ok (.putfield 99, 3) := by decide +kernel
theorem dX0_addDeed_26 : decode cX0_addDeed 26 = .ok (.aload 5, 2) := by decide +kernel
theorem dX0_addDeed_28 : decode cX0_addDeed 28 = .ok (.iload_n 2, 1) := by decide +kernel
theorem dX0_addDeed_29 : decode cX0_addDeed 29 = .ok (.putfield 100, 3) := by decide +kernel
theorem dX0_addDeed_32 : decode cX0_addDeed 32 = .ok (.aload 5, 2) := by decide +kernel
theorem dX0_addDeed_34 : decode cX0_addDeed 34 = .ok (.iload_n 3, 1) := by decide +kernel
theorem dX0_addDeed_35 : decode cX0_addDeed 35 = .ok (.putfield 101, 3) := by decide +kernel
theorem dX0_addDeed_38 : decode cX0_addDeed 38 = .ok (.aload 5, 2) := by decide +kernel
theorem dX0_addDeed_40 : decode cX0_addDeed 40 = .ok (.iload 4, 2) := by decide +kernel
theorem dX0_addDeed_42 : decode cX0_addDeed 42 = .ok (.putfield 104, 3) := by decide +kernel
theorem dX0_addDeed_45 : decode cX0_addDeed 45 = .ok (.aload_n 0, 1) := by decide +kernel
theorem dX0_addDeed_46 : decode cX0_addDeed 46 = .ok (.dup, 1) := by decide +kernel
theorem dX0_addDeed_47 : decode cX0_addDeed 47 = .ok (.getfield 61, 3) := by decide +kernel
theorem dX0_addDeed_50 : decode cX0_addDeed 50 = .ok (.iconst 1, 1) := by decide +kernel
theorem dX0_addDeed_51 : decode cX0_addDeed 51 = .ok (.iadd, 1) := by decide +kernel
theorem dX0_addDeed_52 : decode cX0_addDeed 52 = .ok (.putfield 61, 3) := by decide +kernel
theorem dX0_addDeed_55 : decode cX0_addDeed 55 = .ok (.return_, 1) := by decide +kernel
noncomputable def bfX0_addDeed_55 (adeedCount : Int32) (d_month : Nat → Int32) (d_day : Nat → Int32) (d_length : Nat → Int32) (d_inDays : Nat → Int32) (p1 : Int32) (p2 : Int32) (p3 : Int32) (p4 : Int32) (w0_9 : Int32) (z2_0 : Nat → Int32) (z2_1 : Nat → Int32) (z2_2 : Nat → Int32) (z2_3 : Nat → Int32) : Int32 × (Nat → Int32) × (Nat → Int32) × (Nat → Int32) × (Nat → Int32) := (w0_9, z2_0, z2_1, z2_2, z2_3)
noncomputable def fX0_addDeed (adeedCount : Int32) (d_month : Nat → Int32) (d_day : Nat → Int32) (d_length : Nat → Int32) (d_inDays : Nat → Int32) (p1 : Int32) (p2 : Int32) (p3 : Int32) (p4 : Int32) : Int32 × (Nat → Int32) × (Nat → Int32) × (Nat → Int32) × (Nat → Int32) := if (8 : Int32) ≤ adeedCount then (bfX0_addDeed_55 adeedCount d_month d_day d_length d_inDays p1 p2 p3 p4 adeedCount d_month d_day d_length d_inDays) else (bfX0_addDeed_55 adeedCount d_month d_day d_length d_inDays p1 p2 p3 p4 (adeedCount + (1 : Int32)) (upd d_month (adeedCount.toNatClampNeg) p1) (upd d_day (adeedCount.toNatClampNeg) p2) (upd d_length (adeedCount.toNatClampNeg) p3) (upd d_inDays (adeedCount.toNatClampNeg) p4))
set_option maxHeartbeats 4000000 in
set_option maxRecDepth 100000 in
theorem sX0_addDeed (l : Launch) (dC : Nat → ClassId) (dI : Nat → Nat → Nat) (sz : Nat) (h0 : Nat) (de : Nat) (da : Nat → Nat) (amonths : Int32) (afull : Int32) (alean : Int32) (alines : Int32) (ahasMoon : Int32) (amoonStart : Int32) (amoonStep : Int32) (aplaceCount : Int32) (areportCount : Int32) (adeedCount : Int32) (pl : Nat) (re : Nat) (kde : ClassId) (d_month : Nat → Int32) (d_day : Nat → Int32) (d_length : Nat → Int32) (d_inDays : Nat → Int32) (p1 : Int32) (p2 : Int32) (p3 : Int32) (p4 : Int32) (gamonths : gi amonths 0 24) (gafull : gi afull 0 5) (galean : gi alean 0 5) (gahasMoon : gi ahasMoon 0 1) (gaplaceCount : gi aplaceCount 0 6) (gareportCount : gi areportCount 0 24) (gadeedCount : gi adeedCount 0 8) (gd_month : ga d_month 8 0 23) (gd_length : ga d_length 8 0 600) (gd_inDays : ga d_inDays 8 0 1) (gp1 : gi p1 0 23) (gp3 : gi p3 0 600) (gp4 : gi p4 0 1) : Met l yX0_addDeed (.code yX0_addDeed cX0_addDeed 6 none :: wsGA) ({ frames := 0, cells := 0, slots := 0, locals := 0 }) (va_Pc [.ref h0, .int p1, .int p2, .int p3, .int p4] (fun U => U.heap.size = sz ∧ va_P (dC, dI) vwCl (([(h0, .inr (0, [.int amonths, .int afull, .int alean, .int alines, .int ahasMoon, .int amoonStart, .int amoonStep, .int aplaceCount, .int areportCount, .int adeedCount, .ref pl, .ref re, .ref de])), (de, .inl (kde, 8, .inr (.inr (.inr (.inr (fun i => some (da i)))))))] : va_W) ++ (gz_fam 8 da 2 (fun i => [.int (d_month i), .int (d_day i), .int (d_length i), .int (d_inDays i)]))) U.heap ∧ va_K (dC, dI) vwCl [(kde, .object RX2)] U ∧ va_D (fun _ => True) (([(h0, .inr (0, [.int amonths, .int afull, .int alean, .int alines, .int ahasMoon, .int amoonStart, .int amoonStep, .int aplaceCount, .int areportCount, .int adeedCount, .ref pl, .ref re, .ref de])), (de, .inl (kde, 8, .inr (.inr (.inr (.inr (fun i => some (da i)))))))] : va_W) ++ (gz_fam 8 da 2 (fun i => [.int (d_month i), .int (d_day i), .int (d_length i), .int (d_inDays i)]))) ∧ nzA U)) (va_Qv (fun (u : Unit) => True) (fun _ t => ∃ (w0_9 : Int32) (z2_0 : Nat → Int32) (z2_1 : Nat → Int32) (z2_2 : Nat → Int32) (z2_3 : Nat → Int32), gi w0_9 0 8 ∧ ga z2_0 8 0 23 ∧ ga z2_2 8 0 600 ∧ ga z2_3 8 0 1 ∧ (w0_9, z2_0, z2_1, z2_2, z2_3) = fX0_addDeed adeedCount d_month d_day d_length d_inDays p1 p2 p3 p4 ∧ va_P (dC, dI) vwCl (([(h0, .inr (0, [.int amonths, .int afull, .int alean, .int alines, .int ahasMoon, .int amoonStart, .int amoonStep, .int aplaceCount, .int areportCount, .int w0_9, .ref pl, .ref re, .ref de])), (de, .inl (kde, 8, .inr (.inr (.inr (.inr (fun i => some (da i)))))))] : va_W) ++ (gz_fam 8 da 2 (fun i => [.int (z2_0 i), .int (z2_1 i), .int (z2_2 i), .int (z2_3 i)]))) t.heap ∧ va_D (va_A (([(h0, .inr (0, [.int amonths, .int afull, .int alean, .int alines, .int ahasMoon, .int amoonStart, .int amoonStep, .int aplaceCount, .int areportCount, .int adeedCount, .ref pl, .ref re, .ref de])), (de, .inl (kde, 8, .inr (.inr (.inr (.inr (fun i => some (da i)))))))] : va_W) ++ (gz_fam 8 da 2 (fun i => [.int (d_month i), .int (d_day i), .int (d_length i), .int (d_inDays i)]))) sz) (([(h0, .inr (0, [.int amonths, .int afull, .int alean, .int alines, .int ahasMoon, .int amoonStart, .int amoonStep, .int aplaceCount, .int areportCount, .int w0_9, .ref pl, .ref re, .ref de])), (de, .inl (kde, 8, .inr (.inr (.inr (.inr (fun i => some (da i)))))))] : va_W) ++ (gz_fam 8 da 2 (fun i => [.int (z2_0 i), .int (z2_1 i), .int (z2_2 i), .int (z2_3 i)])))) (va_A (([(h0, .inr (0, [.int amonths, .int afull, .int alean, .int alines, .int ahasMoon, .int amoonStart, .int amoonStep, .int aplaceCount, .int areportCount, .int adeedCount, .ref pl, .ref re, .ref de])), (de, .inl (kde, 8, .inr (.inr (.inr (.inr (fun i => some (da i)))))))] : va_W) ++ (gz_fam 8 da 2 (fun i => [.int (d_month i), .int (d_day i), .int (d_length i), .int (d_inDays i)]))) sz)) 0 0 (va_A (([(h0, .inr (0, [.int amonths, .int afull, .int alean, .int alines, .int ahasMoon, .int amoonStart, .int amoonStep, .int aplaceCount, .int areportCount, .int adeedCount, .ref pl, .ref re, .ref de])), (de, .inl (kde, 8, .inr (.inr (.inr (.inr (fun i => some (da i)))))))] : va_W) ++ (gz_fam 8 da 2 (fun i => [.int (d_month i), .int (d_day i), .int (d_length i), .int (d_inDays i)]))) sz) := by
  refine Met.ofW (cc := cX0_addDeed) (maxL := 6) (ret := none) (by decide) rfl ?_
  intro p e s m args below meth c s₁ B hml hv
  obtain ⟨rfl, hsz, hP, hK, hD0, hz⟩ := hv
  have hx := B.exec
  have hb := B.bytes
  have hr := B.returns
  have hts := atoms_spec (ws := (.code yX0_addDeed cX0_addDeed 6 none :: wsGA)) B.pre
  have hown : s.vm.findClass RX0 = some m.cls := findClass_of_methodNamed B.named
  have hlocks := B.notSynchronized
  subst hsz
  have hD := hD0.self (sz := s.heap.size)
  generalize hAe : va_A (([(h0, .inr (0, [.int amonths, .int afull, .int alean, .int alines, .int ahasMoon, .int amoonStart, .int amoonStep, .int aplaceCount, .int areportCount, .int adeedCount, .ref pl, .ref re, .ref de])), (de, .inl (kde, 8, .inr (.inr (.inr (.inr (fun i => some (da i)))))))] : va_W) ++ (gz_fam 8 da 2 (fun i => [.int (d_month i), .int (d_day i), .int (d_length i), .int (d_inDays i)]))) s.heap.size = A at hD ⊢
  have hA : ∀ q : Nat, s.heap.size ≤ q → A q := fun q h => by rw [← hAe]; exact Or.inr h
  have hS : va_S A s.heap s.heap [] := va_S.rf
  have hl := lv_entry ([.ref h0, .int p1, .int p2, .int p3, .int p4]) (n := 6) (Nat.le_of_ble_eq_true rfl)
  rw [lg_entry_eq]
  generalize (lg_sl ([.ref h0, .int p1, .int p2, .int p3, .int p4]) ++ List.replicate (6 - (lg_sl ([.ref h0, .int p1, .int p2, .int p3, .int p4])).length) Slot.unset).toArray = ls at hl ⊢
  have hl : lv_has ls 6 [(0, .ref h0), (1, .int p1), (2, .int p2), (3, .int p3), (4, .int p4)] := hl
  obtain ⟨RES, hF⟩ : ∃ R9, fX0_addDeed adeedCount d_month d_day d_length d_inDays p1 p2 p3 p4 = R9 := ⟨_, rfl⟩
  have hR9 := hF
  refine lv_aload_n hx hb dX0_addDeed_0 rfl (lv_at hl 0 rfl) ?_
  refine va_get (D := (dC, dI)) (ci := 0) (v := .int adeedCount) (C := RX0) (T := TX0) (N := 13) hx hb hts (fun w h => List.mem_cons_of_mem _ (jnGA_X0 w h)) hown hK hP 0 rfl rfl 9 (by decide) (hts _ (List.mem_cons_of_mem _ mGA_161)) (fun _ h9 => h9) rfl dX0_addDeed_1 ?_
  refine lv_bipush (v := 8) hx hb dX0_addDeed_4 (by decide) ?_
  refine lv_icmp_ge (tgt := 55) hx hb dX0_addDeed_6 (by decide) (fun c_17 => ?_) (fun c_17 => ?_)
  · have hF := gf_pos c_17 hF
    have g_18 : gi adeedCount 8 8 := gi_le_r c_17 (gi_c 8 8 (by decide)) gadeedCount
    exact W.vret hx hb hr (fun t ht hW => ⟨⟨(), rfl, trivial, adeedCount, d_month, d_day, d_length, d_inDays, (gi_w g_18 (by decide)), gd_month, gd_length, gd_inDays, hF.trans hR9.symm, by rw [ht]; exact hP, hD⟩, hS.F ht⟩) hS.2.2 dX0_addDeed_55
  · have hF := gf_neg c_17 hF
    have g_19 : gi adeedCount 0 7 := gi_lt_l (Int32.not_le.mp c_17) gadeedCount (gi_c 8 8 (by decide)) (by decide)
    refine lv_aload_n hx hb dX0_addDeed_9 rfl (lv_at hl 0 rfl) ?_
    refine va_get (D := (dC, dI)) (ci := 0) (v := .ref de) (C := RX0) (T := TX0) (N := 13) hx hb hts (fun w h => List.mem_cons_of_mem _ (jnGA_X0 w h)) hown hK hP 0 rfl rfl 12 (by decide) (hts _ (List.mem_cons_of_mem _ mGA_74)) (fun _ h9 => h9) rfl dX0_addDeed_10 ?_
    refine lv_aload_n hx hb dX0_addDeed_13 rfl (lv_at hl 0 rfl) ?_
    refine va_get (D := (dC, dI)) (ci := 0) (v := .int adeedCount) (C := RX0) (T := TX0) (N := 13) hx hb hts (fun w h => List.mem_cons_of_mem _ (jnGA_X0 w h)) hown hK hP 0 rfl rfl 9 (by decide) (hts _ (List.mem_cons_of_mem _ mGA_161)) (fun _ h9 => h9) rfl dX0_addDeed_14 ?_
    refine va_aldq hx hb hK hP 1 0 rfl rfl (gi_in g_19 (by decide)) dX0_addDeed_17 ?_
    refine W.eq (g2 := F0 m 18 ls [.ref (da adeedCount.toNatClampNeg)]) rfl ?_
    refine lv_astore (lv' := [(5, .ref (da adeedCount.toNatClampNeg)), (0, .ref h0), (1, .int p1), (2, .int p2), (3, .int p3), (4, .int p4)]) hx hb dX0_addDeed_18 hl (by decide) rfl (fun ls hl => ?_)
    refine lv_aload hx hb dX0_addDeed_20 (lv_at hl 0 rfl) ?_
    refine lv_iload_n hx hb dX0_addDeed_22 rfl (lv_at hl 2 rfl) ?_
    refine va_put (D := (dC, dI)) (ci := 2) (v := .int p1) (ty := .int) (C := RX2) (T := TX2) (N := 4) hx hb hts (fun w h => List.mem_cons_of_mem _ (jnGA_X2 w h)) tyX2 tyX2_ok nmX2 hown hK hP hD hS (List.length [(h0, .inr (0, [.int amonths, .int afull, .int alean, .int alines, .int ahasMoon, .int amoonStart, .int amoonStep, .int aplaceCount, .int areportCount, .int adeedCount, .ref pl, .ref re, .ref de])), (de, .inl (kde, 8, .inr (.inr (.inr (.inr (fun i => some (da i)))))))] + adeedCount.toNatClampNeg) (gz_famW3 (X := [(h0, .inr (0, [.int amonths, .int afull, .int alean, .int alines, .int ahasMoon, .int amoonStart, .int amoonStep, .int aplaceCount, .int areportCount, .int adeedCount, .ref pl, .ref re, .ref de])), (de, .inl (kde, 8, .inr (.inr (.inr (.inr (fun i => some (da i)))))))]) ((List.append_nil _).symm) (gz_clt (gi_in (n := 8) g_19 (by decide)))) rfl 0 (by decide) (hts _ (List.mem_cons_of_mem _ mGA_332)) (fun _ h9 => h9) rfl (by decide +kernel) rfl rfl (Nat.le_of_ble_eq_true rfl) dX0_addDeed_23 (fun H locs hP hD hS => ?_)
    have hP : va_P (dC, dI) vwCl (([(h0, .inr (0, [.int amonths, .int afull, .int alean, .int alines, .int ahasMoon, .int amoonStart, .int amoonStep, .int aplaceCount, .int areportCount, .int adeedCount, .ref pl, .ref re, .ref de])), (de, .inl (kde, 8, .inr (.inr (.inr (.inr (fun i => some (da i)))))))] : va_W) ++ (gz_fam 8 da 2 (fun i => [.int ((upd d_month (adeedCount.toNatClampNeg) p1) i), .int (d_day i), .int (d_length i), .int (d_inDays i)]))) H := gz_famP (X := [(h0, .inr (0, [.int amonths, .int afull, .int alean, .int alines, .int ahasMoon, .int amoonStart, .int amoonStep, .int aplaceCount, .int areportCount, .int adeedCount, .ref pl, .ref re, .ref de])), (de, .inl (kde, 8, .inr (.inr (.inr (.inr (fun i => some (da i)))))))]) ((List.append_nil _).symm) ((List.append_nil _).symm) (gz_clt (gi_in (n := 8) g_19 (by decide))) (by simp [upd]) (fun i hi => by simp [upd, hi]) hP
    have hD : va_D A (([(h0, .inr (0, [.int amonths, .int afull, .int alean, .int alines, .int ahasMoon, .int amoonStart, .int amoonStep, .int aplaceCount, .int areportCount, .int adeedCount, .ref pl, .ref re, .ref de])), (de, .inl (kde, 8, .inr (.inr (.inr (.inr (fun i => some (da i)))))))] : va_W) ++ (gz_fam 8 da 2 (fun i => [.int ((upd d_month (adeedCount.toNatClampNeg) p1) i), .int (d_day i), .int (d_length i), .int (d_inDays i)]))) := gz_famD (X := [(h0, .inr (0, [.int amonths, .int afull, .int alean, .int alines, .int ahasMoon, .int amoonStart, .int amoonStep, .int aplaceCount, .int areportCount, .int adeedCount, .ref pl, .ref re, .ref de])), (de, .inl (kde, 8, .inr (.inr (.inr (.inr (fun i => some (da i)))))))]) ((List.append_nil _).symm) ((List.append_nil _).symm) (gz_clt (gi_in (n := 8) g_19 (by decide))) (by simp [upd]) (fun i hi => by simp [upd, hi]) hD
    have gf_20 : ga (upd d_month (adeedCount.toNatClampNeg) p1) 8 0 23 := ga_upd gd_month gp1
    generalize ef_20 : upd d_month (adeedCount.toNatClampNeg) p1 = f_20 at hP hD gf_20
    have hP : va_P (dC, dI) vwCl (([(h0, .inr (0, [.int amonths, .int afull, .int alean, .int alines, .int ahasMoon, .int amoonStart, .int amoonStep, .int aplaceCount, .int areportCount, .int adeedCount, .ref pl, .ref re, .ref de])), (de, .inl (kde, 8, .inr (.inr (.inr (.inr (fun i => some (da i)))))))] : va_W) ++ (gz_fam 8 da 2 (fun i => [.int (f_20 i), .int (d_day i), .int (d_length i), .int (d_inDays i)]))) H := hP
    have hD : va_D A (([(h0, .inr (0, [.int amonths, .int afull, .int alean, .int alines, .int ahasMoon, .int amoonStart, .int amoonStep, .int aplaceCount, .int areportCount, .int adeedCount, .ref pl, .ref re, .ref de])), (de, .inl (kde, 8, .inr (.inr (.inr (.inr (fun i => some (da i)))))))] : va_W) ++ (gz_fam 8 da 2 (fun i => [.int (f_20 i), .int (d_day i), .int (d_length i), .int (d_inDays i)]))) := hD
    refine lv_aload hx hb dX0_addDeed_26 (lv_at hl 0 rfl) ?_
    refine lv_iload_n hx hb dX0_addDeed_28 rfl (lv_at hl 3 rfl) ?_
    refine va_put (D := (dC, dI)) (ci := 2) (v := .int p2) (ty := .int) (C := RX2) (T := TX2) (N := 4) hx hb hts (fun w h => List.mem_cons_of_mem _ (jnGA_X2 w h)) tyX2 tyX2_ok nmX2 hown hK hP hD hS (List.length [(h0, .inr (0, [.int amonths, .int afull, .int alean, .int alines, .int ahasMoon, .int amoonStart, .int amoonStep, .int aplaceCount, .int areportCount, .int adeedCount, .ref pl, .ref re, .ref de])), (de, .inl (kde, 8, .inr (.inr (.inr (.inr (fun i => some (da i)))))))] + adeedCount.toNatClampNeg) (gz_famW3 (X := [(h0, .inr (0, [.int amonths, .int afull, .int alean, .int alines, .int ahasMoon, .int amoonStart, .int amoonStep, .int aplaceCount, .int areportCount, .int adeedCount, .ref pl, .ref re, .ref de])), (de, .inl (kde, 8, .inr (.inr (.inr (.inr (fun i => some (da i)))))))]) ((List.append_nil _).symm) (gz_clt (gi_in (n := 8) g_19 (by decide)))) rfl 1 (by decide) (hts _ (List.mem_cons_of_mem _ mGA_333)) (fun _ h9 => h9) rfl (by decide +kernel) rfl rfl (Nat.le_of_ble_eq_true rfl) dX0_addDeed_29 (fun H locs hP hD hS => ?_)
    have hP : va_P (dC, dI) vwCl (([(h0, .inr (0, [.int amonths, .int afull, .int alean, .int alines, .int ahasMoon, .int amoonStart, .int amoonStep, .int aplaceCount, .int areportCount, .int adeedCount, .ref pl, .ref re, .ref de])), (de, .inl (kde, 8, .inr (.inr (.inr (.inr (fun i => some (da i)))))))] : va_W) ++ (gz_fam 8 da 2 (fun i => [.int (f_20 i), .int ((upd d_day (adeedCount.toNatClampNeg) p2) i), .int (d_length i), .int (d_inDays i)]))) H := gz_famP (X := [(h0, .inr (0, [.int amonths, .int afull, .int alean, .int alines, .int ahasMoon, .int amoonStart, .int amoonStep, .int aplaceCount, .int areportCount, .int adeedCount, .ref pl, .ref re, .ref de])), (de, .inl (kde, 8, .inr (.inr (.inr (.inr (fun i => some (da i)))))))]) ((List.append_nil _).symm) ((List.append_nil _).symm) (gz_clt (gi_in (n := 8) g_19 (by decide))) (by simp [upd]) (fun i hi => by simp [upd, hi]) hP
    have hD : va_D A (([(h0, .inr (0, [.int amonths, .int afull, .int alean, .int alines, .int ahasMoon, .int amoonStart, .int amoonStep, .int aplaceCount, .int areportCount, .int adeedCount, .ref pl, .ref re, .ref de])), (de, .inl (kde, 8, .inr (.inr (.inr (.inr (fun i => some (da i)))))))] : va_W) ++ (gz_fam 8 da 2 (fun i => [.int (f_20 i), .int ((upd d_day (adeedCount.toNatClampNeg) p2) i), .int (d_length i), .int (d_inDays i)]))) := gz_famD (X := [(h0, .inr (0, [.int amonths, .int afull, .int alean, .int alines, .int ahasMoon, .int amoonStart, .int amoonStep, .int aplaceCount, .int areportCount, .int adeedCount, .ref pl, .ref re, .ref de])), (de, .inl (kde, 8, .inr (.inr (.inr (.inr (fun i => some (da i)))))))]) ((List.append_nil _).symm) ((List.append_nil _).symm) (gz_clt (gi_in (n := 8) g_19 (by decide))) (by simp [upd]) (fun i hi => by simp [upd, hi]) hD
    generalize ef_21 : upd d_day (adeedCount.toNatClampNeg) p2 = f_21 at hP hD
    have hP : va_P (dC, dI) vwCl (([(h0, .inr (0, [.int amonths, .int afull, .int alean, .int alines, .int ahasMoon, .int amoonStart, .int amoonStep, .int aplaceCount, .int areportCount, .int adeedCount, .ref pl, .ref re, .ref de])), (de, .inl (kde, 8, .inr (.inr (.inr (.inr (fun i => some (da i)))))))] : va_W) ++ (gz_fam 8 da 2 (fun i => [.int (f_20 i), .int (f_21 i), .int (d_length i), .int (d_inDays i)]))) H := hP
    have hD : va_D A (([(h0, .inr (0, [.int amonths, .int afull, .int alean, .int alines, .int ahasMoon, .int amoonStart, .int amoonStep, .int aplaceCount, .int areportCount, .int adeedCount, .ref pl, .ref re, .ref de])), (de, .inl (kde, 8, .inr (.inr (.inr (.inr (fun i => some (da i)))))))] : va_W) ++ (gz_fam 8 da 2 (fun i => [.int (f_20 i), .int (f_21 i), .int (d_length i), .int (d_inDays i)]))) := hD
    refine lv_aload hx hb dX0_addDeed_32 (lv_at hl 0 rfl) ?_
    refine lv_iload_n hx hb dX0_addDeed_34 rfl (lv_at hl 4 rfl) ?_
    refine va_put (D := (dC, dI)) (ci := 2) (v := .int p3) (ty := .int) (C := RX2) (T := TX2) (N := 4) hx hb hts (fun w h => List.mem_cons_of_mem _ (jnGA_X2 w h)) tyX2 tyX2_ok nmX2 hown hK hP hD hS (List.length [(h0, .inr (0, [.int amonths, .int afull, .int alean, .int alines, .int ahasMoon, .int amoonStart, .int amoonStep, .int aplaceCount, .int areportCount, .int adeedCount, .ref pl, .ref re, .ref de])), (de, .inl (kde, 8, .inr (.inr (.inr (.inr (fun i => some (da i)))))))] + adeedCount.toNatClampNeg) (gz_famW3 (X := [(h0, .inr (0, [.int amonths, .int afull, .int alean, .int alines, .int ahasMoon, .int amoonStart, .int amoonStep, .int aplaceCount, .int areportCount, .int adeedCount, .ref pl, .ref re, .ref de])), (de, .inl (kde, 8, .inr (.inr (.inr (.inr (fun i => some (da i)))))))]) ((List.append_nil _).symm) (gz_clt (gi_in (n := 8) g_19 (by decide)))) rfl 2 (by decide) (hts _ (List.mem_cons_of_mem _ mGA_334)) (fun _ h9 => h9) rfl (by decide +kernel) rfl rfl (Nat.le_of_ble_eq_true rfl) dX0_addDeed_35 (fun H locs hP hD hS => ?_)
    have hP : va_P (dC, dI) vwCl (([(h0, .inr (0, [.int amonths, .int afull, .int alean, .int alines, .int ahasMoon, .int amoonStart, .int amoonStep, .int aplaceCount, .int areportCount, .int adeedCount, .ref pl, .ref re, .ref de])), (de, .inl (kde, 8, .inr (.inr (.inr (.inr (fun i => some (da i)))))))] : va_W) ++ (gz_fam 8 da 2 (fun i => [.int (f_20 i), .int (f_21 i), .int ((upd d_length (adeedCount.toNatClampNeg) p3) i), .int (d_inDays i)]))) H := gz_famP (X := [(h0, .inr (0, [.int amonths, .int afull, .int alean, .int alines, .int ahasMoon, .int amoonStart, .int amoonStep, .int aplaceCount, .int areportCount, .int adeedCount, .ref pl, .ref re, .ref de])), (de, .inl (kde, 8, .inr (.inr (.inr (.inr (fun i => some (da i)))))))]) ((List.append_nil _).symm) ((List.append_nil _).symm) (gz_clt (gi_in (n := 8) g_19 (by decide))) (by simp [upd]) (fun i hi => by simp [upd, hi]) hP
    have hD : va_D A (([(h0, .inr (0, [.int amonths, .int afull, .int alean, .int alines, .int ahasMoon, .int amoonStart, .int amoonStep, .int aplaceCount, .int areportCount, .int adeedCount, .ref pl, .ref re, .ref de])), (de, .inl (kde, 8, .inr (.inr (.inr (.inr (fun i => some (da i)))))))] : va_W) ++ (gz_fam 8 da 2 (fun i => [.int (f_20 i), .int (f_21 i), .int ((upd d_length (adeedCount.toNatClampNeg) p3) i), .int (d_inDays i)]))) := gz_famD (X := [(h0, .inr (0, [.int amonths, .int afull, .int alean, .int alines, .int ahasMoon, .int amoonStart, .int amoonStep, .int aplaceCount, .int areportCount, .int adeedCount, .ref pl, .ref re, .ref de])), (de, .inl (kde, 8, .inr (.inr (.inr (.inr (fun i => some (da i)))))))]) ((List.append_nil _).symm) ((List.append_nil _).symm) (gz_clt (gi_in (n := 8) g_19 (by decide))) (by simp [upd]) (fun i hi => by simp [upd, hi]) hD
    have gf_22 : ga (upd d_length (adeedCount.toNatClampNeg) p3) 8 0 600 := ga_upd gd_length gp3
    generalize ef_22 : upd d_length (adeedCount.toNatClampNeg) p3 = f_22 at hP hD gf_22
    have hP : va_P (dC, dI) vwCl (([(h0, .inr (0, [.int amonths, .int afull, .int alean, .int alines, .int ahasMoon, .int amoonStart, .int amoonStep, .int aplaceCount, .int areportCount, .int adeedCount, .ref pl, .ref re, .ref de])), (de, .inl (kde, 8, .inr (.inr (.inr (.inr (fun i => some (da i)))))))] : va_W) ++ (gz_fam 8 da 2 (fun i => [.int (f_20 i), .int (f_21 i), .int (f_22 i), .int (d_inDays i)]))) H := hP
    have hD : va_D A (([(h0, .inr (0, [.int amonths, .int afull, .int alean, .int alines, .int ahasMoon, .int amoonStart, .int amoonStep, .int aplaceCount, .int areportCount, .int adeedCount, .ref pl, .ref re, .ref de])), (de, .inl (kde, 8, .inr (.inr (.inr (.inr (fun i => some (da i)))))))] : va_W) ++ (gz_fam 8 da 2 (fun i => [.int (f_20 i), .int (f_21 i), .int (f_22 i), .int (d_inDays i)]))) := hD
    refine lv_aload hx hb dX0_addDeed_38 (lv_at hl 0 rfl) ?_
    refine lv_iload hx hb dX0_addDeed_40 (lv_at hl 5 rfl) ?_
    refine va_put (D := (dC, dI)) (ci := 2) (v := .int p4) (ty := .boolean) (C := RX2) (T := TX2) (N := 4) hx hb hts (fun w h => List.mem_cons_of_mem _ (jnGA_X2 w h)) tyX2 tyX2_ok nmX2 hown hK hP hD hS (List.length [(h0, .inr (0, [.int amonths, .int afull, .int alean, .int alines, .int ahasMoon, .int amoonStart, .int amoonStep, .int aplaceCount, .int areportCount, .int adeedCount, .ref pl, .ref re, .ref de])), (de, .inl (kde, 8, .inr (.inr (.inr (.inr (fun i => some (da i)))))))] + adeedCount.toNatClampNeg) (gz_famW3 (X := [(h0, .inr (0, [.int amonths, .int afull, .int alean, .int alines, .int ahasMoon, .int amoonStart, .int amoonStep, .int aplaceCount, .int areportCount, .int adeedCount, .ref pl, .ref re, .ref de])), (de, .inl (kde, 8, .inr (.inr (.inr (.inr (fun i => some (da i)))))))]) ((List.append_nil _).symm) (gz_clt (gi_in (n := 8) g_19 (by decide)))) rfl 3 (by decide) (hts _ (List.mem_cons_of_mem _ mGA_335)) (fun _ h9 => h9) rfl (by decide +kernel) (gz_nb gp4) (gz_fb gp4) (Nat.le_of_ble_eq_true rfl) dX0_addDeed_42 (fun H locs hP hD hS => ?_)
    have hP : va_P (dC, dI) vwCl (([(h0, .inr (0, [.int amonths, .int afull, .int alean, .int alines, .int ahasMoon, .int amoonStart, .int amoonStep, .int aplaceCount, .int areportCount, .int adeedCount, .ref pl, .ref re, .ref de])), (de, .inl (kde, 8, .inr (.inr (.inr (.inr (fun i => some (da i)))))))] : va_W) ++ (gz_fam 8 da 2 (fun i => [.int (f_20 i), .int (f_21 i), .int (f_22 i), .int ((upd d_inDays (adeedCount.toNatClampNeg) p4) i)]))) H := gz_famP (X := [(h0, .inr (0, [.int amonths, .int afull, .int alean, .int alines, .int ahasMoon, .int amoonStart, .int amoonStep, .int aplaceCount, .int areportCount, .int adeedCount, .ref pl, .ref re, .ref de])), (de, .inl (kde, 8, .inr (.inr (.inr (.inr (fun i => some (da i)))))))]) ((List.append_nil _).symm) ((List.append_nil _).symm) (gz_clt (gi_in (n := 8) g_19 (by decide))) (by simp [upd]) (fun i hi => by simp [upd, hi]) hP
    have hD : va_D A (([(h0, .inr (0, [.int amonths, .int afull, .int alean, .int alines, .int ahasMoon, .int amoonStart, .int amoonStep, .int aplaceCount, .int areportCount, .int adeedCount, .ref pl, .ref re, .ref de])), (de, .inl (kde, 8, .inr (.inr (.inr (.inr (fun i => some (da i)))))))] : va_W) ++ (gz_fam 8 da 2 (fun i => [.int (f_20 i), .int (f_21 i), .int (f_22 i), .int ((upd d_inDays (adeedCount.toNatClampNeg) p4) i)]))) := gz_famD (X := [(h0, .inr (0, [.int amonths, .int afull, .int alean, .int alines, .int ahasMoon, .int amoonStart, .int amoonStep, .int aplaceCount, .int areportCount, .int adeedCount, .ref pl, .ref re, .ref de])), (de, .inl (kde, 8, .inr (.inr (.inr (.inr (fun i => some (da i)))))))]) ((List.append_nil _).symm) ((List.append_nil _).symm) (gz_clt (gi_in (n := 8) g_19 (by decide))) (by simp [upd]) (fun i hi => by simp [upd, hi]) hD
    have gf_23 : ga (upd d_inDays (adeedCount.toNatClampNeg) p4) 8 0 1 := ga_upd gd_inDays gp4
    generalize ef_23 : upd d_inDays (adeedCount.toNatClampNeg) p4 = f_23 at hP hD gf_23
    have hP : va_P (dC, dI) vwCl (([(h0, .inr (0, [.int amonths, .int afull, .int alean, .int alines, .int ahasMoon, .int amoonStart, .int amoonStep, .int aplaceCount, .int areportCount, .int adeedCount, .ref pl, .ref re, .ref de])), (de, .inl (kde, 8, .inr (.inr (.inr (.inr (fun i => some (da i)))))))] : va_W) ++ (gz_fam 8 da 2 (fun i => [.int (f_20 i), .int (f_21 i), .int (f_22 i), .int (f_23 i)]))) H := hP
    have hD : va_D A (([(h0, .inr (0, [.int amonths, .int afull, .int alean, .int alines, .int ahasMoon, .int amoonStart, .int amoonStep, .int aplaceCount, .int areportCount, .int adeedCount, .ref pl, .ref re, .ref de])), (de, .inl (kde, 8, .inr (.inr (.inr (.inr (fun i => some (da i)))))))] : va_W) ++ (gz_fam 8 da 2 (fun i => [.int (f_20 i), .int (f_21 i), .int (f_22 i), .int (f_23 i)]))) := hD
    refine lv_aload_n hx hb dX0_addDeed_45 rfl (lv_at hl 1 rfl) ?_
    refine lv_dup hx hb dX0_addDeed_46 rfl ?_
    refine va_get (D := (dC, dI)) (ci := 0) (v := .int adeedCount) (C := RX0) (T := TX0) (N := 13) hx hb hts (fun w h => List.mem_cons_of_mem _ (jnGA_X0 w h)) hown hK hP 0 rfl rfl 9 (by decide) (hts _ (List.mem_cons_of_mem _ mGA_161)) (fun _ h9 => h9) rfl dX0_addDeed_47 ?_
    refine lv_iconst (v := 1) hx hb dX0_addDeed_50 (by decide) ?_
    refine lv_iadd hx hb dX0_addDeed_51 ?_
    refine lv_topi (fun x_24 ex_24 => ?_)
    have gx_24 : gi x_24 1 8 := gi_add ex_24 g_19 (gi_c 1 1 (by decide)) (by decide)
    refine va_put (D := (dC, dI)) (ci := 0) (v := .int x_24) (ty := .int) (C := RX0) (T := TX0) (N := 13) hx hb hts (fun w h => List.mem_cons_of_mem _ (jnGA_X0 w h)) tyX0 tyX0_ok nmX0 hown hK hP hD hS 0 rfl rfl 9 (by decide) (hts _ (List.mem_cons_of_mem _ mGA_161)) (fun _ h9 => h9) rfl (by decide +kernel) rfl rfl (Nat.le_of_ble_eq_true rfl) dX0_addDeed_52 (fun H locs hP hD hS => ?_)
    have hP : va_P (dC, dI) vwCl (([(h0, .inr (0, [.int amonths, .int afull, .int alean, .int alines, .int ahasMoon, .int amoonStart, .int amoonStep, .int aplaceCount, .int areportCount, .int x_24, .ref pl, .ref re, .ref de])), (de, .inl (kde, 8, .inr (.inr (.inr (.inr (fun i => some (da i)))))))] : va_W) ++ (gz_fam 8 da 2 (fun i => [.int (f_20 i), .int (f_21 i), .int (f_22 i), .int (f_23 i)]))) H := hP
    have hD : va_D A (([(h0, .inr (0, [.int amonths, .int afull, .int alean, .int alines, .int ahasMoon, .int amoonStart, .int amoonStep, .int aplaceCount, .int areportCount, .int x_24, .ref pl, .ref re, .ref de])), (de, .inl (kde, 8, .inr (.inr (.inr (.inr (fun i => some (da i)))))))] : va_W) ++ (gz_fam 8 da 2 (fun i => [.int (f_20 i), .int (f_21 i), .int (f_22 i), .int (f_23 i)]))) := hD
    exact W.vret hx hb hr (fun t ht hW => ⟨⟨(), rfl, trivial, x_24, f_20, f_21, f_22, f_23, (gi_w gx_24 (by decide)), gf_20, gf_22, gf_23, by rw [ex_24, ← ef_23, ← ef_22, ← ef_21, ← ef_20]; exact hF.trans hR9.symm, by rw [ht]; exact hP, hD⟩, hS.F ht⟩) hS.2.2 dX0_addDeed_55
set_option maxHeartbeats 4000000 in
set_option maxRecDepth 100000 in
theorem sX0_addDeedR (l : Launch) (dC : Nat → ClassId) (dI : Nat → Nat → Nat) (sz : Nat) (h0 : Nat) (de : Nat) (da : Nat → Nat) (amonths : Int32) (afull : Int32) (alean : Int32) (alines : Int32) (ahasMoon : Int32) (amoonStart : Int32) (amoonStep : Int32) (aplaceCount : Int32) (areportCount : Int32) (adeedCount : Int32) (pl : Nat) (re : Nat) (kde : ClassId) (d_month : Nat → Int32) (d_day : Nat → Int32) (d_length : Nat → Int32) (d_inDays : Nat → Int32) (p1 : Int32) (p2 : Int32) (p3 : Int32) (p4 : Int32) (gamonths : gi amonths 0 24) (gafull : gi afull 0 5) (galean : gi alean 0 5) (gahasMoon : gi ahasMoon 0 1) (gaplaceCount : gi aplaceCount 0 6) (gareportCount : gi areportCount 0 24) (gadeedCount : gi adeedCount 0 8) (gd_month : ga d_month 8 0 23) (gd_length : ga d_length 8 0 600) (gd_inDays : ga d_inDays 8 0 1) (gp1 : gi p1 0 23) (gp3 : gi p3 0 600) (gp4 : gi p4 0 1) (hdc : ∀ j : Nat, j < 8 → ((d_inDays j).toInt ≠ 0 ∨ (d_month j).toInt + (d_length j).toInt ≤ 23)) (hpq0 : (p4.toInt ≠ 0 ∨ p1.toInt + p3.toInt ≤ 23)) : Met l yX0_addDeed (.code yX0_addDeed cX0_addDeed 6 none :: wsGA) ({ frames := 0, cells := 0, slots := 0, locals := 0 }) (va_Pc [.ref h0, .int p1, .int p2, .int p3, .int p4] (fun U => U.heap.size = sz ∧ va_P (dC, dI) vwCl (([(h0, .inr (0, [.int amonths, .int afull, .int alean, .int alines, .int ahasMoon, .int amoonStart, .int amoonStep, .int aplaceCount, .int areportCount, .int adeedCount, .ref pl, .ref re, .ref de])), (de, .inl (kde, 8, .inr (.inr (.inr (.inr (fun i => some (da i)))))))] : va_W) ++ (gz_fam 8 da 2 (fun i => [.int (d_month i), .int (d_day i), .int (d_length i), .int (d_inDays i)]))) U.heap ∧ va_K (dC, dI) vwCl [(kde, .object RX2)] U ∧ va_D (fun _ => True) (([(h0, .inr (0, [.int amonths, .int afull, .int alean, .int alines, .int ahasMoon, .int amoonStart, .int amoonStep, .int aplaceCount, .int areportCount, .int adeedCount, .ref pl, .ref re, .ref de])), (de, .inl (kde, 8, .inr (.inr (.inr (.inr (fun i => some (da i)))))))] : va_W) ++ (gz_fam 8 da 2 (fun i => [.int (d_month i), .int (d_day i), .int (d_length i), .int (d_inDays i)]))) ∧ nzA U)) (va_Qv (fun (u : Unit) => True) (fun _ t => ∃ (w0_9 : Int32) (z2_0 : Nat → Int32) (z2_1 : Nat → Int32) (z2_2 : Nat → Int32) (z2_3 : Nat → Int32), gi w0_9 0 8 ∧ ga z2_0 8 0 23 ∧ ga z2_2 8 0 600 ∧ ga z2_3 8 0 1 ∧ (∀ j : Nat, j < 8 → ((z2_3 j).toInt ≠ 0 ∨ (z2_0 j).toInt + (z2_2 j).toInt ≤ 23)) ∧ (w0_9, z2_0, z2_1, z2_2, z2_3) = fX0_addDeed adeedCount d_month d_day d_length d_inDays p1 p2 p3 p4 ∧ va_P (dC, dI) vwCl (([(h0, .inr (0, [.int amonths, .int afull, .int alean, .int alines, .int ahasMoon, .int amoonStart, .int amoonStep, .int aplaceCount, .int areportCount, .int w0_9, .ref pl, .ref re, .ref de])), (de, .inl (kde, 8, .inr (.inr (.inr (.inr (fun i => some (da i)))))))] : va_W) ++ (gz_fam 8 da 2 (fun i => [.int (z2_0 i), .int (z2_1 i), .int (z2_2 i), .int (z2_3 i)]))) t.heap ∧ va_D (va_A (([(h0, .inr (0, [.int amonths, .int afull, .int alean, .int alines, .int ahasMoon, .int amoonStart, .int amoonStep, .int aplaceCount, .int areportCount, .int adeedCount, .ref pl, .ref re, .ref de])), (de, .inl (kde, 8, .inr (.inr (.inr (.inr (fun i => some (da i)))))))] : va_W) ++ (gz_fam 8 da 2 (fun i => [.int (d_month i), .int (d_day i), .int (d_length i), .int (d_inDays i)]))) sz) (([(h0, .inr (0, [.int amonths, .int afull, .int alean, .int alines, .int ahasMoon, .int amoonStart, .int amoonStep, .int aplaceCount, .int areportCount, .int w0_9, .ref pl, .ref re, .ref de])), (de, .inl (kde, 8, .inr (.inr (.inr (.inr (fun i => some (da i)))))))] : va_W) ++ (gz_fam 8 da 2 (fun i => [.int (z2_0 i), .int (z2_1 i), .int (z2_2 i), .int (z2_3 i)])))) (va_A (([(h0, .inr (0, [.int amonths, .int afull, .int alean, .int alines, .int ahasMoon, .int amoonStart, .int amoonStep, .int aplaceCount, .int areportCount, .int adeedCount, .ref pl, .ref re, .ref de])), (de, .inl (kde, 8, .inr (.inr (.inr (.inr (fun i => some (da i)))))))] : va_W) ++ (gz_fam 8 da 2 (fun i => [.int (d_month i), .int (d_day i), .int (d_length i), .int (d_inDays i)]))) sz)) 0 0 (va_A (([(h0, .inr (0, [.int amonths, .int afull, .int alean, .int alines, .int ahasMoon, .int amoonStart, .int amoonStep, .int aplaceCount, .int areportCount, .int adeedCount, .ref pl, .ref re, .ref de])), (de, .inl (kde, 8, .inr (.inr (.inr (.inr (fun i => some (da i)))))))] : va_W) ++ (gz_fam 8 da 2 (fun i => [.int (d_month i), .int (d_day i), .int (d_length i), .int (d_inDays i)]))) sz) := by
  refine Met.ofW (cc := cX0_addDeed) (maxL := 6) (ret := none) (by decide) rfl ?_
  intro p e s m args below meth c s₁ B hml hv
  obtain ⟨rfl, hsz, hP, hK, hD0, hz⟩ := hv
  have hx := B.exec
  have hb := B.bytes
  have hr := B.returns
  have hts := atoms_spec (ws := (.code yX0_addDeed cX0_addDeed 6 none :: wsGA)) B.pre
  have hown : s.vm.findClass RX0 = some m.cls := findClass_of_methodNamed B.named
  have hlocks := B.notSynchronized
  subst hsz
  have hD := hD0.self (sz := s.heap.size)
  generalize hAe : va_A (([(h0, .inr (0, [.int amonths, .int afull, .int alean, .int alines, .int ahasMoon, .int amoonStart, .int amoonStep, .int aplaceCount, .int areportCount, .int adeedCount, .ref pl, .ref re, .ref de])), (de, .inl (kde, 8, .inr (.inr (.inr (.inr (fun i => some (da i)))))))] : va_W) ++ (gz_fam 8 da 2 (fun i => [.int (d_month i), .int (d_day i), .int (d_length i), .int (d_inDays i)]))) s.heap.size = A at hD ⊢
  have hA : ∀ q : Nat, s.heap.size ≤ q → A q := fun q h => by rw [← hAe]; exact Or.inr h
  have hS : va_S A s.heap s.heap [] := va_S.rf
  have hl := lv_entry ([.ref h0, .int p1, .int p2, .int p3, .int p4]) (n := 6) (Nat.le_of_ble_eq_true rfl)
  rw [lg_entry_eq]
  generalize (lg_sl ([.ref h0, .int p1, .int p2, .int p3, .int p4]) ++ List.replicate (6 - (lg_sl ([.ref h0, .int p1, .int p2, .int p3, .int p4])).length) Slot.unset).toArray = ls at hl ⊢
  have hl : lv_has ls 6 [(0, .ref h0), (1, .int p1), (2, .int p2), (3, .int p3), (4, .int p4)] := hl
  obtain ⟨RES, hF⟩ : ∃ R9, fX0_addDeed adeedCount d_month d_day d_length d_inDays p1 p2 p3 p4 = R9 := ⟨_, rfl⟩
  have hR9 := hF
  refine lv_aload_n hx hb dX0_addDeed_0 rfl (lv_at hl 0 rfl) ?_
  refine va_get (D := (dC, dI)) (ci := 0) (v := .int adeedCount) (C := RX0) (T := TX0) (N := 13) hx hb hts (fun w h => List.mem_cons_of_mem _ (jnGA_X0 w h)) hown hK hP 0 rfl rfl 9 (by decide) (hts _ (List.mem_cons_of_mem _ mGA_161)) (fun _ h9 => h9) rfl dX0_addDeed_1 ?_
  refine lv_bipush (v := 8) hx hb dX0_addDeed_4 (by decide) ?_
  refine lv_icmp_ge (tgt := 55) hx hb dX0_addDeed_6 (by decide) (fun c_21 => ?_) (fun c_21 => ?_)
  · have hF := gf_pos c_21 hF
    have hc_22 : 8 ≤ adeedCount.toInt := by have h9 := Int32.le_iff_toInt_le.mp c_21; rw [show (8 : Int32).toInt = 8 from by decide] at h9; exact h9
    have g_23 : gi adeedCount 8 8 := gi_le_r c_21 (gi_c 8 8 (by decide)) gadeedCount
    exact W.vret hx hb hr (fun t ht hW => ⟨⟨(), rfl, trivial, adeedCount, d_month, d_day, d_length, d_inDays, (gi_w g_23 (by decide)), gd_month, gd_length, gd_inDays, (show ∀ j : Nat, j < 8 → ((d_inDays j).toInt ≠ 0 ∨ (d_month j).toInt + (d_length j).toInt ≤ 23) from by exact hdc), hF.trans hR9.symm, by rw [ht]; exact hP, hD⟩, hS.F ht⟩) hS.2.2 dX0_addDeed_55
  · have hF := gf_neg c_21 hF
    have hc_24 : adeedCount.toInt < 8 := by have h9 := Int32.lt_iff_toInt_lt.mp (Int32.not_le.mp c_21); rw [show (8 : Int32).toInt = 8 from by decide] at h9; exact h9
    have g_25 : gi adeedCount 0 7 := gi_lt_l (Int32.not_le.mp c_21) gadeedCount (gi_c 8 8 (by decide)) (by decide)
    refine lv_aload_n hx hb dX0_addDeed_9 rfl (lv_at hl 0 rfl) ?_
    refine va_get (D := (dC, dI)) (ci := 0) (v := .ref de) (C := RX0) (T := TX0) (N := 13) hx hb hts (fun w h => List.mem_cons_of_mem _ (jnGA_X0 w h)) hown hK hP 0 rfl rfl 12 (by decide) (hts _ (List.mem_cons_of_mem _ mGA_74)) (fun _ h9 => h9) rfl dX0_addDeed_10 ?_
    refine lv_aload_n hx hb dX0_addDeed_13 rfl (lv_at hl 0 rfl) ?_
    refine va_get (D := (dC, dI)) (ci := 0) (v := .int adeedCount) (C := RX0) (T := TX0) (N := 13) hx hb hts (fun w h => List.mem_cons_of_mem _ (jnGA_X0 w h)) hown hK hP 0 rfl rfl 9 (by decide) (hts _ (List.mem_cons_of_mem _ mGA_161)) (fun _ h9 => h9) rfl dX0_addDeed_14 ?_
    refine va_aldq hx hb hK hP 1 0 rfl rfl (gi_in g_25 (by decide)) dX0_addDeed_17 ?_
    refine W.eq (g2 := F0 m 18 ls [.ref (da adeedCount.toNatClampNeg)]) rfl ?_
    refine lv_astore (lv' := [(5, .ref (da adeedCount.toNatClampNeg)), (0, .ref h0), (1, .int p1), (2, .int p2), (3, .int p3), (4, .int p4)]) hx hb dX0_addDeed_18 hl (by decide) rfl (fun ls hl => ?_)
    refine lv_aload hx hb dX0_addDeed_20 (lv_at hl 0 rfl) ?_
    refine lv_iload_n hx hb dX0_addDeed_22 rfl (lv_at hl 2 rfl) ?_
    refine va_put (D := (dC, dI)) (ci := 2) (v := .int p1) (ty := .int) (C := RX2) (T := TX2) (N := 4) hx hb hts (fun w h => List.mem_cons_of_mem _ (jnGA_X2 w h)) tyX2 tyX2_ok nmX2 hown hK hP hD hS (List.length [(h0, .inr (0, [.int amonths, .int afull, .int alean, .int alines, .int ahasMoon, .int amoonStart, .int amoonStep, .int aplaceCount, .int areportCount, .int adeedCount, .ref pl, .ref re, .ref de])), (de, .inl (kde, 8, .inr (.inr (.inr (.inr (fun i => some (da i)))))))] + adeedCount.toNatClampNeg) (gz_famW3 (X := [(h0, .inr (0, [.int amonths, .int afull, .int alean, .int alines, .int ahasMoon, .int amoonStart, .int amoonStep, .int aplaceCount, .int areportCount, .int adeedCount, .ref pl, .ref re, .ref de])), (de, .inl (kde, 8, .inr (.inr (.inr (.inr (fun i => some (da i)))))))]) ((List.append_nil _).symm) (gz_clt (gi_in (n := 8) g_25 (by decide)))) rfl 0 (by decide) (hts _ (List.mem_cons_of_mem _ mGA_332)) (fun _ h9 => h9) rfl (by decide +kernel) rfl rfl (Nat.le_of_ble_eq_true rfl) dX0_addDeed_23 (fun H locs hP hD hS => ?_)
    have hP : va_P (dC, dI) vwCl (([(h0, .inr (0, [.int amonths, .int afull, .int alean, .int alines, .int ahasMoon, .int amoonStart, .int amoonStep, .int aplaceCount, .int areportCount, .int adeedCount, .ref pl, .ref re, .ref de])), (de, .inl (kde, 8, .inr (.inr (.inr (.inr (fun i => some (da i)))))))] : va_W) ++ (gz_fam 8 da 2 (fun i => [.int ((upd d_month (adeedCount.toNatClampNeg) p1) i), .int (d_day i), .int (d_length i), .int (d_inDays i)]))) H := gz_famP (X := [(h0, .inr (0, [.int amonths, .int afull, .int alean, .int alines, .int ahasMoon, .int amoonStart, .int amoonStep, .int aplaceCount, .int areportCount, .int adeedCount, .ref pl, .ref re, .ref de])), (de, .inl (kde, 8, .inr (.inr (.inr (.inr (fun i => some (da i)))))))]) ((List.append_nil _).symm) ((List.append_nil _).symm) (gz_clt (gi_in (n := 8) g_25 (by decide))) (by simp [upd]) (fun i hi => by simp [upd, hi]) hP
    have hD : va_D A (([(h0, .inr (0, [.int amonths, .int afull, .int alean, .int alines, .int ahasMoon, .int amoonStart, .int amoonStep, .int aplaceCount, .int areportCount, .int adeedCount, .ref pl, .ref re, .ref de])), (de, .inl (kde, 8, .inr (.inr (.inr (.inr (fun i => some (da i)))))))] : va_W) ++ (gz_fam 8 da 2 (fun i => [.int ((upd d_month (adeedCount.toNatClampNeg) p1) i), .int (d_day i), .int (d_length i), .int (d_inDays i)]))) := gz_famD (X := [(h0, .inr (0, [.int amonths, .int afull, .int alean, .int alines, .int ahasMoon, .int amoonStart, .int amoonStep, .int aplaceCount, .int areportCount, .int adeedCount, .ref pl, .ref re, .ref de])), (de, .inl (kde, 8, .inr (.inr (.inr (.inr (fun i => some (da i)))))))]) ((List.append_nil _).symm) ((List.append_nil _).symm) (gz_clt (gi_in (n := 8) g_25 (by decide))) (by simp [upd]) (fun i hi => by simp [upd, hi]) hD
    have gf_26 : ga (upd d_month (adeedCount.toNatClampNeg) p1) 8 0 23 := ga_upd gd_month gp1
    generalize ef_26 : upd d_month (adeedCount.toNatClampNeg) p1 = f_26 at hP hD gf_26
    have hP : va_P (dC, dI) vwCl (([(h0, .inr (0, [.int amonths, .int afull, .int alean, .int alines, .int ahasMoon, .int amoonStart, .int amoonStep, .int aplaceCount, .int areportCount, .int adeedCount, .ref pl, .ref re, .ref de])), (de, .inl (kde, 8, .inr (.inr (.inr (.inr (fun i => some (da i)))))))] : va_W) ++ (gz_fam 8 da 2 (fun i => [.int (f_26 i), .int (d_day i), .int (d_length i), .int (d_inDays i)]))) H := hP
    have hD : va_D A (([(h0, .inr (0, [.int amonths, .int afull, .int alean, .int alines, .int ahasMoon, .int amoonStart, .int amoonStep, .int aplaceCount, .int areportCount, .int adeedCount, .ref pl, .ref re, .ref de])), (de, .inl (kde, 8, .inr (.inr (.inr (.inr (fun i => some (da i)))))))] : va_W) ++ (gz_fam 8 da 2 (fun i => [.int (f_26 i), .int (d_day i), .int (d_length i), .int (d_inDays i)]))) := hD
    refine lv_aload hx hb dX0_addDeed_26 (lv_at hl 0 rfl) ?_
    refine lv_iload_n hx hb dX0_addDeed_28 rfl (lv_at hl 3 rfl) ?_
    refine va_put (D := (dC, dI)) (ci := 2) (v := .int p2) (ty := .int) (C := RX2) (T := TX2) (N := 4) hx hb hts (fun w h => List.mem_cons_of_mem _ (jnGA_X2 w h)) tyX2 tyX2_ok nmX2 hown hK hP hD hS (List.length [(h0, .inr (0, [.int amonths, .int afull, .int alean, .int alines, .int ahasMoon, .int amoonStart, .int amoonStep, .int aplaceCount, .int areportCount, .int adeedCount, .ref pl, .ref re, .ref de])), (de, .inl (kde, 8, .inr (.inr (.inr (.inr (fun i => some (da i)))))))] + adeedCount.toNatClampNeg) (gz_famW3 (X := [(h0, .inr (0, [.int amonths, .int afull, .int alean, .int alines, .int ahasMoon, .int amoonStart, .int amoonStep, .int aplaceCount, .int areportCount, .int adeedCount, .ref pl, .ref re, .ref de])), (de, .inl (kde, 8, .inr (.inr (.inr (.inr (fun i => some (da i)))))))]) ((List.append_nil _).symm) (gz_clt (gi_in (n := 8) g_25 (by decide)))) rfl 1 (by decide) (hts _ (List.mem_cons_of_mem _ mGA_333)) (fun _ h9 => h9) rfl (by decide +kernel) rfl rfl (Nat.le_of_ble_eq_true rfl) dX0_addDeed_29 (fun H locs hP hD hS => ?_)
    have hP : va_P (dC, dI) vwCl (([(h0, .inr (0, [.int amonths, .int afull, .int alean, .int alines, .int ahasMoon, .int amoonStart, .int amoonStep, .int aplaceCount, .int areportCount, .int adeedCount, .ref pl, .ref re, .ref de])), (de, .inl (kde, 8, .inr (.inr (.inr (.inr (fun i => some (da i)))))))] : va_W) ++ (gz_fam 8 da 2 (fun i => [.int (f_26 i), .int ((upd d_day (adeedCount.toNatClampNeg) p2) i), .int (d_length i), .int (d_inDays i)]))) H := gz_famP (X := [(h0, .inr (0, [.int amonths, .int afull, .int alean, .int alines, .int ahasMoon, .int amoonStart, .int amoonStep, .int aplaceCount, .int areportCount, .int adeedCount, .ref pl, .ref re, .ref de])), (de, .inl (kde, 8, .inr (.inr (.inr (.inr (fun i => some (da i)))))))]) ((List.append_nil _).symm) ((List.append_nil _).symm) (gz_clt (gi_in (n := 8) g_25 (by decide))) (by simp [upd]) (fun i hi => by simp [upd, hi]) hP
    have hD : va_D A (([(h0, .inr (0, [.int amonths, .int afull, .int alean, .int alines, .int ahasMoon, .int amoonStart, .int amoonStep, .int aplaceCount, .int areportCount, .int adeedCount, .ref pl, .ref re, .ref de])), (de, .inl (kde, 8, .inr (.inr (.inr (.inr (fun i => some (da i)))))))] : va_W) ++ (gz_fam 8 da 2 (fun i => [.int (f_26 i), .int ((upd d_day (adeedCount.toNatClampNeg) p2) i), .int (d_length i), .int (d_inDays i)]))) := gz_famD (X := [(h0, .inr (0, [.int amonths, .int afull, .int alean, .int alines, .int ahasMoon, .int amoonStart, .int amoonStep, .int aplaceCount, .int areportCount, .int adeedCount, .ref pl, .ref re, .ref de])), (de, .inl (kde, 8, .inr (.inr (.inr (.inr (fun i => some (da i)))))))]) ((List.append_nil _).symm) ((List.append_nil _).symm) (gz_clt (gi_in (n := 8) g_25 (by decide))) (by simp [upd]) (fun i hi => by simp [upd, hi]) hD
    generalize ef_27 : upd d_day (adeedCount.toNatClampNeg) p2 = f_27 at hP hD
    have hP : va_P (dC, dI) vwCl (([(h0, .inr (0, [.int amonths, .int afull, .int alean, .int alines, .int ahasMoon, .int amoonStart, .int amoonStep, .int aplaceCount, .int areportCount, .int adeedCount, .ref pl, .ref re, .ref de])), (de, .inl (kde, 8, .inr (.inr (.inr (.inr (fun i => some (da i)))))))] : va_W) ++ (gz_fam 8 da 2 (fun i => [.int (f_26 i), .int (f_27 i), .int (d_length i), .int (d_inDays i)]))) H := hP
    have hD : va_D A (([(h0, .inr (0, [.int amonths, .int afull, .int alean, .int alines, .int ahasMoon, .int amoonStart, .int amoonStep, .int aplaceCount, .int areportCount, .int adeedCount, .ref pl, .ref re, .ref de])), (de, .inl (kde, 8, .inr (.inr (.inr (.inr (fun i => some (da i)))))))] : va_W) ++ (gz_fam 8 da 2 (fun i => [.int (f_26 i), .int (f_27 i), .int (d_length i), .int (d_inDays i)]))) := hD
    refine lv_aload hx hb dX0_addDeed_32 (lv_at hl 0 rfl) ?_
    refine lv_iload_n hx hb dX0_addDeed_34 rfl (lv_at hl 4 rfl) ?_
    refine va_put (D := (dC, dI)) (ci := 2) (v := .int p3) (ty := .int) (C := RX2) (T := TX2) (N := 4) hx hb hts (fun w h => List.mem_cons_of_mem _ (jnGA_X2 w h)) tyX2 tyX2_ok nmX2 hown hK hP hD hS (List.length [(h0, .inr (0, [.int amonths, .int afull, .int alean, .int alines, .int ahasMoon, .int amoonStart, .int amoonStep, .int aplaceCount, .int areportCount, .int adeedCount, .ref pl, .ref re, .ref de])), (de, .inl (kde, 8, .inr (.inr (.inr (.inr (fun i => some (da i)))))))] + adeedCount.toNatClampNeg) (gz_famW3 (X := [(h0, .inr (0, [.int amonths, .int afull, .int alean, .int alines, .int ahasMoon, .int amoonStart, .int amoonStep, .int aplaceCount, .int areportCount, .int adeedCount, .ref pl, .ref re, .ref de])), (de, .inl (kde, 8, .inr (.inr (.inr (.inr (fun i => some (da i)))))))]) ((List.append_nil _).symm) (gz_clt (gi_in (n := 8) g_25 (by decide)))) rfl 2 (by decide) (hts _ (List.mem_cons_of_mem _ mGA_334)) (fun _ h9 => h9) rfl (by decide +kernel) rfl rfl (Nat.le_of_ble_eq_true rfl) dX0_addDeed_35 (fun H locs hP hD hS => ?_)
    have hP : va_P (dC, dI) vwCl (([(h0, .inr (0, [.int amonths, .int afull, .int alean, .int alines, .int ahasMoon, .int amoonStart, .int amoonStep, .int aplaceCount, .int areportCount, .int adeedCount, .ref pl, .ref re, .ref de])), (de, .inl (kde, 8, .inr (.inr (.inr (.inr (fun i => some (da i)))))))] : va_W) ++ (gz_fam 8 da 2 (fun i => [.int (f_26 i), .int (f_27 i), .int ((upd d_length (adeedCount.toNatClampNeg) p3) i), .int (d_inDays i)]))) H := gz_famP (X := [(h0, .inr (0, [.int amonths, .int afull, .int alean, .int alines, .int ahasMoon, .int amoonStart, .int amoonStep, .int aplaceCount, .int areportCount, .int adeedCount, .ref pl, .ref re, .ref de])), (de, .inl (kde, 8, .inr (.inr (.inr (.inr (fun i => some (da i)))))))]) ((List.append_nil _).symm) ((List.append_nil _).symm) (gz_clt (gi_in (n := 8) g_25 (by decide))) (by simp [upd]) (fun i hi => by simp [upd, hi]) hP
    have hD : va_D A (([(h0, .inr (0, [.int amonths, .int afull, .int alean, .int alines, .int ahasMoon, .int amoonStart, .int amoonStep, .int aplaceCount, .int areportCount, .int adeedCount, .ref pl, .ref re, .ref de])), (de, .inl (kde, 8, .inr (.inr (.inr (.inr (fun i => some (da i)))))))] : va_W) ++ (gz_fam 8 da 2 (fun i => [.int (f_26 i), .int (f_27 i), .int ((upd d_length (adeedCount.toNatClampNeg) p3) i), .int (d_inDays i)]))) := gz_famD (X := [(h0, .inr (0, [.int amonths, .int afull, .int alean, .int alines, .int ahasMoon, .int amoonStart, .int amoonStep, .int aplaceCount, .int areportCount, .int adeedCount, .ref pl, .ref re, .ref de])), (de, .inl (kde, 8, .inr (.inr (.inr (.inr (fun i => some (da i)))))))]) ((List.append_nil _).symm) ((List.append_nil _).symm) (gz_clt (gi_in (n := 8) g_25 (by decide))) (by simp [upd]) (fun i hi => by simp [upd, hi]) hD
    have gf_28 : ga (upd d_length (adeedCount.toNatClampNeg) p3) 8 0 600 := ga_upd gd_length gp3
    generalize ef_28 : upd d_length (adeedCount.toNatClampNeg) p3 = f_28 at hP hD gf_28
    have hP : va_P (dC, dI) vwCl (([(h0, .inr (0, [.int amonths, .int afull, .int alean, .int alines, .int ahasMoon, .int amoonStart, .int amoonStep, .int aplaceCount, .int areportCount, .int adeedCount, .ref pl, .ref re, .ref de])), (de, .inl (kde, 8, .inr (.inr (.inr (.inr (fun i => some (da i)))))))] : va_W) ++ (gz_fam 8 da 2 (fun i => [.int (f_26 i), .int (f_27 i), .int (f_28 i), .int (d_inDays i)]))) H := hP
    have hD : va_D A (([(h0, .inr (0, [.int amonths, .int afull, .int alean, .int alines, .int ahasMoon, .int amoonStart, .int amoonStep, .int aplaceCount, .int areportCount, .int adeedCount, .ref pl, .ref re, .ref de])), (de, .inl (kde, 8, .inr (.inr (.inr (.inr (fun i => some (da i)))))))] : va_W) ++ (gz_fam 8 da 2 (fun i => [.int (f_26 i), .int (f_27 i), .int (f_28 i), .int (d_inDays i)]))) := hD
    refine lv_aload hx hb dX0_addDeed_38 (lv_at hl 0 rfl) ?_
    refine lv_iload hx hb dX0_addDeed_40 (lv_at hl 5 rfl) ?_
    refine va_put (D := (dC, dI)) (ci := 2) (v := .int p4) (ty := .boolean) (C := RX2) (T := TX2) (N := 4) hx hb hts (fun w h => List.mem_cons_of_mem _ (jnGA_X2 w h)) tyX2 tyX2_ok nmX2 hown hK hP hD hS (List.length [(h0, .inr (0, [.int amonths, .int afull, .int alean, .int alines, .int ahasMoon, .int amoonStart, .int amoonStep, .int aplaceCount, .int areportCount, .int adeedCount, .ref pl, .ref re, .ref de])), (de, .inl (kde, 8, .inr (.inr (.inr (.inr (fun i => some (da i)))))))] + adeedCount.toNatClampNeg) (gz_famW3 (X := [(h0, .inr (0, [.int amonths, .int afull, .int alean, .int alines, .int ahasMoon, .int amoonStart, .int amoonStep, .int aplaceCount, .int areportCount, .int adeedCount, .ref pl, .ref re, .ref de])), (de, .inl (kde, 8, .inr (.inr (.inr (.inr (fun i => some (da i)))))))]) ((List.append_nil _).symm) (gz_clt (gi_in (n := 8) g_25 (by decide)))) rfl 3 (by decide) (hts _ (List.mem_cons_of_mem _ mGA_335)) (fun _ h9 => h9) rfl (by decide +kernel) (gz_nb gp4) (gz_fb gp4) (Nat.le_of_ble_eq_true rfl) dX0_addDeed_42 (fun H locs hP hD hS => ?_)
    have hP : va_P (dC, dI) vwCl (([(h0, .inr (0, [.int amonths, .int afull, .int alean, .int alines, .int ahasMoon, .int amoonStart, .int amoonStep, .int aplaceCount, .int areportCount, .int adeedCount, .ref pl, .ref re, .ref de])), (de, .inl (kde, 8, .inr (.inr (.inr (.inr (fun i => some (da i)))))))] : va_W) ++ (gz_fam 8 da 2 (fun i => [.int (f_26 i), .int (f_27 i), .int (f_28 i), .int ((upd d_inDays (adeedCount.toNatClampNeg) p4) i)]))) H := gz_famP (X := [(h0, .inr (0, [.int amonths, .int afull, .int alean, .int alines, .int ahasMoon, .int amoonStart, .int amoonStep, .int aplaceCount, .int areportCount, .int adeedCount, .ref pl, .ref re, .ref de])), (de, .inl (kde, 8, .inr (.inr (.inr (.inr (fun i => some (da i)))))))]) ((List.append_nil _).symm) ((List.append_nil _).symm) (gz_clt (gi_in (n := 8) g_25 (by decide))) (by simp [upd]) (fun i hi => by simp [upd, hi]) hP
    have hD : va_D A (([(h0, .inr (0, [.int amonths, .int afull, .int alean, .int alines, .int ahasMoon, .int amoonStart, .int amoonStep, .int aplaceCount, .int areportCount, .int adeedCount, .ref pl, .ref re, .ref de])), (de, .inl (kde, 8, .inr (.inr (.inr (.inr (fun i => some (da i)))))))] : va_W) ++ (gz_fam 8 da 2 (fun i => [.int (f_26 i), .int (f_27 i), .int (f_28 i), .int ((upd d_inDays (adeedCount.toNatClampNeg) p4) i)]))) := gz_famD (X := [(h0, .inr (0, [.int amonths, .int afull, .int alean, .int alines, .int ahasMoon, .int amoonStart, .int amoonStep, .int aplaceCount, .int areportCount, .int adeedCount, .ref pl, .ref re, .ref de])), (de, .inl (kde, 8, .inr (.inr (.inr (.inr (fun i => some (da i)))))))]) ((List.append_nil _).symm) ((List.append_nil _).symm) (gz_clt (gi_in (n := 8) g_25 (by decide))) (by simp [upd]) (fun i hi => by simp [upd, hi]) hD
    have gf_29 : ga (upd d_inDays (adeedCount.toNatClampNeg) p4) 8 0 1 := ga_upd gd_inDays gp4
    generalize ef_29 : upd d_inDays (adeedCount.toNatClampNeg) p4 = f_29 at hP hD gf_29
    have hP : va_P (dC, dI) vwCl (([(h0, .inr (0, [.int amonths, .int afull, .int alean, .int alines, .int ahasMoon, .int amoonStart, .int amoonStep, .int aplaceCount, .int areportCount, .int adeedCount, .ref pl, .ref re, .ref de])), (de, .inl (kde, 8, .inr (.inr (.inr (.inr (fun i => some (da i)))))))] : va_W) ++ (gz_fam 8 da 2 (fun i => [.int (f_26 i), .int (f_27 i), .int (f_28 i), .int (f_29 i)]))) H := hP
    have hD : va_D A (([(h0, .inr (0, [.int amonths, .int afull, .int alean, .int alines, .int ahasMoon, .int amoonStart, .int amoonStep, .int aplaceCount, .int areportCount, .int adeedCount, .ref pl, .ref re, .ref de])), (de, .inl (kde, 8, .inr (.inr (.inr (.inr (fun i => some (da i)))))))] : va_W) ++ (gz_fam 8 da 2 (fun i => [.int (f_26 i), .int (f_27 i), .int (f_28 i), .int (f_29 i)]))) := hD
    refine lv_aload_n hx hb dX0_addDeed_45 rfl (lv_at hl 1 rfl) ?_
    refine lv_dup hx hb dX0_addDeed_46 rfl ?_
    refine va_get (D := (dC, dI)) (ci := 0) (v := .int adeedCount) (C := RX0) (T := TX0) (N := 13) hx hb hts (fun w h => List.mem_cons_of_mem _ (jnGA_X0 w h)) hown hK hP 0 rfl rfl 9 (by decide) (hts _ (List.mem_cons_of_mem _ mGA_161)) (fun _ h9 => h9) rfl dX0_addDeed_47 ?_
    refine lv_iconst (v := 1) hx hb dX0_addDeed_50 (by decide) ?_
    refine lv_iadd hx hb dX0_addDeed_51 ?_
    refine lv_topi (fun x_30 ex_30 => ?_)
    have gx_30 : gi x_30 1 8 := gi_add ex_30 g_25 (gi_c 1 1 (by decide)) (by decide)
    refine va_put (D := (dC, dI)) (ci := 0) (v := .int x_30) (ty := .int) (C := RX0) (T := TX0) (N := 13) hx hb hts (fun w h => List.mem_cons_of_mem _ (jnGA_X0 w h)) tyX0 tyX0_ok nmX0 hown hK hP hD hS 0 rfl rfl 9 (by decide) (hts _ (List.mem_cons_of_mem _ mGA_161)) (fun _ h9 => h9) rfl (by decide +kernel) rfl rfl (Nat.le_of_ble_eq_true rfl) dX0_addDeed_52 (fun H locs hP hD hS => ?_)
    have hP : va_P (dC, dI) vwCl (([(h0, .inr (0, [.int amonths, .int afull, .int alean, .int alines, .int ahasMoon, .int amoonStart, .int amoonStep, .int aplaceCount, .int areportCount, .int x_30, .ref pl, .ref re, .ref de])), (de, .inl (kde, 8, .inr (.inr (.inr (.inr (fun i => some (da i)))))))] : va_W) ++ (gz_fam 8 da 2 (fun i => [.int (f_26 i), .int (f_27 i), .int (f_28 i), .int (f_29 i)]))) H := hP
    have hD : va_D A (([(h0, .inr (0, [.int amonths, .int afull, .int alean, .int alines, .int ahasMoon, .int amoonStart, .int amoonStep, .int aplaceCount, .int areportCount, .int x_30, .ref pl, .ref re, .ref de])), (de, .inl (kde, 8, .inr (.inr (.inr (.inr (fun i => some (da i)))))))] : va_W) ++ (gz_fam 8 da 2 (fun i => [.int (f_26 i), .int (f_27 i), .int (f_28 i), .int (f_29 i)]))) := hD
    exact W.vret hx hb hr (fun t ht hW => ⟨⟨(), rfl, trivial, x_30, f_26, f_27, f_28, f_29, (gi_w gx_30 (by decide)), gf_26, gf_28, gf_29, (show ∀ j : Nat, j < 8 → ((f_29 j).toInt ≠ 0 ∨ (f_26 j).toInt + (f_28 j).toInt ≤ 23) from by rw [← ef_29, ← ef_26, ← ef_28]; exact gz_hddU hdc (by have qgp4 := gp4.1; have rgp4 := gp4.2; have qgp3 := gp3.1; have rgp3 := gp3.2; have qgp1 := gp1.1; have rgp1 := gp1.2; have qgadeedCount := g_25.1; have rgadeedCount := g_25.2; omega)), by rw [ex_30, ← ef_29, ← ef_28, ← ef_27, ← ef_26]; exact hF.trans hR9.symm, by rw [ht]; exact hP, hD⟩, hS.F ht⟩) hS.2.2 dX0_addDeed_55
theorem dX6_byteAt_0 : decode cX6_byteAt 0 = .ok (.iload_n 1, 1) := by decide +kernel
theorem dX6_byteAt_1 : decode cX6_byteAt 1 = .ok (.ifCond .lt 26, 3) := by decide +kernel
theorem dX6_byteAt_4 : decode cX6_byteAt 4 = .ok (.iload_n 1, 1) := by decide +kernel
theorem dX6_byteAt_5 : decode cX6_byteAt 5 = .ok (.aload_n 0, 1) := by decide +kernel
theorem dX6_byteAt_6 : decode cX6_byteAt 6 = .ok (.getfield 12, 3) := by decide +kernel
theorem dX6_byteAt_9 : decode cX6_byteAt 9 = .ok (.getfield 205, 3) := by decide +kernel
theorem dX6_byteAt_12 : decode cX6_byteAt 12 = .ok (.if_icmp .ge 15, 3) := by decide +kernel
theorem dX6_byteAt_15 : decode cX6_byteAt 15 = .ok (.aload_n 0, 1) := by decide +kernel
theorem dX6_byteAt_16 : decode cX6_byteAt 16 = .ok (.getfield 12, 3) := by decide +kernel
theorem dX6_byteAt_19 : decode cX6_byteAt 19 = .ok (.getfield 210, 3) := by decide +kernel
theorem dX6_byteAt_22 : decode cX6_byteAt 22 = .ok (.iload_n 1, 1) := by decide +kernel
theorem dX6_byteAt_23 : decode cX6_byteAt 23 = .ok (.baload, 1) := by decide +kernel
theorem dX6_byteAt_24 : decode cX6_byteAt 24 = .ok (.goto 4, 3) := by decide +kernel
theorem dX6_byteAt_27 : decode cX6_byteAt 27 = .ok (.iconst (-1), 1) := by decide +kernel
theorem dX6_byteAt_28 : decode cX6_byteAt 28 = .ok (.ireturn, 1) := by decide +kernel
noncomputable def bfX6_byteAt_28 (b_length : Int32) (fbt : Nat → Int32) (p1 : Int32) (s0 : Int32) : Int32 := s0
noncomputable def bfX6_byteAt_27 (b_length : Int32) (fbt : Nat → Int32) (p1 : Int32) : Int32 := bfX6_byteAt_28 b_length fbt p1 (-1 : Int32)
noncomputable def fX6_byteAt (b_length : Int32) (fbt : Nat → Int32) (p1 : Int32) : Int32 := if p1 < (0 : Int32) then (bfX6_byteAt_27 b_length fbt p1) else (if b_length ≤ p1 then (bfX6_byteAt_27 b_length fbt p1) else (bfX6_byteAt_28 b_length fbt p1 (fbt p1.toNatClampNeg)))
set_option maxHeartbeats 4000000 in
set_option maxRecDepth 100000 in
theorem sX6_byteAt (l : Launch) (dC : Nat → ClassId) (dI : Nat → Nat → Nat) (h0 : Nat) (tp : Nat) (bt : Nat) (dr : Nat) (q_faultKind : Int32) (q_faultPlace : Int32) (q_token : Int32) (q_start : Int32) (q_stop : Int32) (b_length : Int32) (kbt : ClassId) (fbt : Nat → Int32) (p1 : Int32) (gq_faultKind : gi q_faultKind 0 3) (gq_start : gi q_start 0 1600) (gq_stop : gi q_stop 0 1600) (gb_length : gi b_length 0 1600) : Met l yX6_byteAt (.code yX6_byteAt cX6_byteAt 2 (some .int) :: wsGA) ({ frames := 0, cells := 0, slots := 0, locals := 0 }) (va_Pc [.ref h0, .int p1] (fun U => va_P (dC, dI) vwCl [(h0, .inr (6, [.ref tp, .ref dr, .int q_faultKind, .int q_faultPlace, .int q_token, .int q_start, .int q_stop])), (tp, .inr (10, [.ref bt, .int b_length])), (bt, .inl (kbt, 1600, .inl fbt))] U.heap ∧ va_K (dC, dI) vwCl [(kbt, .byte)] U ∧ nzA U)) (va_Qi (fun (r : Int32) (u : Unit) => (gi r (-2147483648) 2147483647) ∧ r = fX6_byteAt b_length fbt p1) (fun _ _ => True) (fun _ => False)) 0 0 (fun _ => False) := by
  refine Met.ofW (cc := cX6_byteAt) (maxL := 2) (ret := (some .int)) (by decide) rfl ?_
  intro p e s m args below meth c s₁ B hml hv
  obtain ⟨rfl, hP, hK, hz⟩ := hv
  have hx := B.exec
  have hb := B.bytes
  have hr := B.returns
  have hts := atoms_spec (ws := (.code yX6_byteAt cX6_byteAt 2 (some .int) :: wsGA)) B.pre
  have hown : s.vm.findClass RX6 = some m.cls := findClass_of_methodNamed B.named
  have hlocks := B.notSynchronized
  have hS : va_S (fun _ => False) s.heap s.heap [] := va_S.rf
  have hl := lv_entry ([.ref h0, .int p1]) (n := 2) (Nat.le_of_ble_eq_true rfl)
  rw [lg_entry_eq]
  generalize (lg_sl ([.ref h0, .int p1]) ++ List.replicate (2 - (lg_sl ([.ref h0, .int p1])).length) Slot.unset).toArray = ls at hl ⊢
  have hl : lv_has ls 2 [(0, .ref h0), (1, .int p1)] := hl
  obtain ⟨RES, hF⟩ : ∃ R9, fX6_byteAt b_length fbt p1 = R9 := ⟨_, rfl⟩
  have hR9 := hF
  refine lv_iload_n hx hb dX6_byteAt_0 rfl (lv_at hl 1 rfl) ?_
  refine lv_if_lt (tgt := 27) hx hb dX6_byteAt_1 (by decide) (fun c_8 => ?_) (fun c_8 => ?_)
  · have hF := gf_pos c_8 hF
    have g_9 : gi p1 (-2147483648) (-1) := gi_lt_l c_8 (gi_any p1) (gi_c 0 0 (by decide)) (by decide)
    refine lv_iconst (v := (-1)) hx hb dX6_byteAt_27 (by decide) ?_
    exact W.iret (v := (-1)) hx hb hr (fun t ht hW => ⟨⟨(-1), (), rfl, ⟨(gi_any (-1)), hF.trans hR9.symm⟩, trivial⟩, hS.F ht⟩) hS.2.2 dX6_byteAt_28
  · have hF := gf_neg c_8 hF
    have g_10 : gi p1 0 2147483647 := gi_le_r (Int32.not_lt.mp c_8) (gi_c 0 0 (by decide)) (gi_any p1)
    refine lv_iload_n hx hb dX6_byteAt_4 rfl (lv_at hl 1 rfl) ?_
    refine lv_aload_n hx hb dX6_byteAt_5 rfl (lv_at hl 0 rfl) ?_
    refine va_get (D := (dC, dI)) (ci := 6) (v := .ref tp) (C := RX6) (T := TX6) (N := 7) hx hb hts (fun w h => List.mem_cons_of_mem _ (jnGA_X6 w h)) hown hK hP 0 rfl rfl 0 (by decide) (hts _ (List.mem_cons_of_mem _ mGA_52)) (fun _ h9 => h9) rfl dX6_byteAt_6 ?_
    refine va_get (D := (dC, dI)) (ci := 10) (v := .int b_length) (C := RX10) (T := TX10) (N := 2) hx hb hts (fun w h => List.mem_cons_of_mem _ (jnGA_X10 w h)) hown hK hP 1 rfl rfl 1 (by decide) (hts _ (List.mem_cons_of_mem _ mGA_166)) (fun _ h9 => h9) rfl dX6_byteAt_9 ?_
    refine lv_icmp_ge (tgt := 27) hx hb dX6_byteAt_12 (by decide) (fun c_11 => ?_) (fun c_11 => ?_)
    · have hF := gf_pos c_11 hF
      refine lv_iconst (v := (-1)) hx hb dX6_byteAt_27 (by decide) ?_
      exact W.iret (v := (-1)) hx hb hr (fun t ht hW => ⟨⟨(-1), (), rfl, ⟨(gi_any (-1)), hF.trans hR9.symm⟩, trivial⟩, hS.F ht⟩) hS.2.2 dX6_byteAt_28
    · have hF := gf_neg c_11 hF
      have g_12 : gi p1 0 1599 := gi_lt_l (Int32.not_le.mp c_11) g_10 gb_length (by decide)
      have g_13 : gi b_length 1 1600 := gi_lt_r (Int32.not_le.mp c_11) g_10 gb_length (by decide)
      refine lv_aload_n hx hb dX6_byteAt_15 rfl (lv_at hl 0 rfl) ?_
      refine va_get (D := (dC, dI)) (ci := 6) (v := .ref tp) (C := RX6) (T := TX6) (N := 7) hx hb hts (fun w h => List.mem_cons_of_mem _ (jnGA_X6 w h)) hown hK hP 0 rfl rfl 0 (by decide) (hts _ (List.mem_cons_of_mem _ mGA_52)) (fun _ h9 => h9) rfl dX6_byteAt_16 ?_
      refine va_get (D := (dC, dI)) (ci := 10) (v := .ref bt) (C := RX10) (T := TX10) (N := 2) hx hb hts (fun w h => List.mem_cons_of_mem _ (jnGA_X10 w h)) hown hK hP 1 rfl rfl 0 (by decide) (hts _ (List.mem_cons_of_mem _ mGA_171)) (fun _ h9 => h9) rfl dX6_byteAt_19 ?_
      refine lv_iload_n hx hb dX6_byteAt_22 rfl (lv_at hl 1 rfl) ?_
      refine va_bald hx hb hK hP 2 0 rfl rfl (gi_in g_12 (by decide)) dX6_byteAt_23 ?_
      refine lv_topi (fun x_14 ex_14 => ?_)
      refine lv_goto (tgt := 28) hx hb dX6_byteAt_24 (by decide) ?_
      exact W.iret (v := x_14) hx hb hr (fun t ht hW => ⟨⟨x_14, (), rfl, ⟨(gi_any x_14), by rw [ex_14]; exact hF.trans hR9.symm⟩, trivial⟩, hS.F ht⟩) hS.2.2 dX6_byteAt_28
theorem dX6_step_0 : decode cX6_step 0 = .ok (.aload_n 0, 1) := by decide +kernel
theorem dX6_step_1 : decode cX6_step 1 = .ok (.getfield 25, 3) := by decide +kernel
theorem dX6_step_4 : decode cX6_step 4 = .ok (.ifCond .eq 4, 3) := by decide +kernel
theorem dX6_step_7 : decode cX6_step 7 = .ok (.return_, 1) := by decide +kernel
theorem dX6_step_8 : decode cX6_step 8 = .ok (.aload_n 0, 1) := by decide +kernel
theorem dX6_step_9 : decode cX6_step 9 = .ok (.aload_n 0, 1) := by decide +kernel
theorem dX6_step_10 : decode cX6_step 10 = .ok (.getfield 38, 3) := by decide +kernel
theorem dX6_step_13 : decode cX6_step 13 = .ok (.putfield 35, 3) := by decide +kernel
theorem dX6_step_16 : decode cX6_step 16 = .ok (.aload_n 0, 1) := by decide +kernel
theorem dX6_step_17 : decode cX6_step 17 = .ok (.getfield 35, 3) := by decide +kernel
theorem dX6_step_20 : decode cX6_step 20 = .ok (.aload_n 0, 1) := by decide +kernel
theorem dX6_step_21 : decode cX6_step 21 = .ok (.getfield 12, 3) := by decide +kernel
theorem dX6_step_24 : decode cX6_step 24 = .ok (.getfield 205, 3) := by decide +kernel
theorem dX6_step_27 : decode cX6_step 27 = .ok (.if_icmp .ge 30, 3) := by decide +kernel
theorem dX6_step_30 : decode cX6_step 30 = .ok (.aload_n 0, 1) := by decide +kernel
theorem dX6_step_31 : decode cX6_step 31 = .ok (.aload_n 0, 1) := by decide +kernel
theorem dX6_step_32 : decode cX6_step 32 = .ok (.getfield 35, 3) := by decide +kernel
theorem dX6_step_35 : decode cX6_step 35 = .ok (.invokevirtual 181, 3) := by decide +kernel
theorem dX6_step_38 : decode cX6_step 38 = .ok (.invokestatic 207, 3) := by decide +kernel
theorem dX6_step_41 : decode cX6_step 41 = .ok (.ifCond .eq 16, 3) := by decide +kernel
theorem dX6_step_44 : decode cX6_step 44 = .ok (.aload_n 0, 1) := by decide +kernel
theorem dX6_step_45 : decode cX6_step 45 = .ok (.dup, 1) := by decide +kernel
theorem dX6_step_46 : decode cX6_step 46 = .ok (.getfield 35, 3) := by decide +kernel
theorem dX6_step_49 : decode cX6_step 49 = .ok (.iconst 1, 1) := by decide +kernel
theorem dX6_step_50 : decode cX6_step 50 = .ok (.iadd, 1) := by decide +kernel
theorem dX6_step_51 : decode cX6_step 51 = .ok (.putfield 35, 3) := by decide +kernel
theorem dX6_step_54 : decode cX6_step 54 = .ok (.goto (-38), 3) := by decide +kernel
theorem dX6_step_57 : decode cX6_step 57 = .ok (.aload_n 0, 1) := by decide +kernel
theorem dX6_step_58 : decode cX6_step 58 = .ok (.aload_n 0, 1) := by decide +kernel
theorem dX6_step_59 : decode cX6_step 59 = .ok (.getfield 35, 3) := by decide +kernel
theorem dX6_step_62 : decode cX6_step 62 = .ok (.putfield 38, 3) := by decide +kernel
theorem dX6_step_65 : decode cX6_step 65 = .ok (.aload_n 0, 1) := by decide +kernel
theorem dX6_step_66 : decode cX6_step 66 = .ok (.aload_n 0, 1) := by decide +kernel
theorem dX6_step_67 : decode cX6_step 67 = .ok (.getfield 35, 3) := by decide +kernel
theorem dX6_step_70 : decode cX6_step 70 = .ok (.invokevirtual 181, 3) := by decide +kernel
theorem dX6_step_73 : decode cX6_step 73 = .ok (.istore_n 1, 1) := by decide +kernel
theorem dX6_step_74 : decode cX6_step 74 = .ok (.aload_n 0, 1) := by decide +kernel
theorem dX6_step_75 : decode cX6_step 75 = .ok (.getfield 35, 3) := by decide +kernel
theorem dX6_step_78 : decode cX6_step 78 = .ok (.aload_n 0, 1) := by decide +kernel
theorem dX6_step_79 : decode cX6_step 79 = .ok (.getfield 12, 3) := by decide +kernel
theorem dX6_step_82 : decode cX6_step 82 = .ok (.getfield 205, 3) := by decide +kernel
theorem dX6_step_85 : decode cX6_step 85 = .ok (.if_icmp .lt 11, 3) := by decide +kernel
theorem dX6_step_88 : decode cX6_step 88 = .ok (.aload_n 0, 1) := by decide +kernel
theorem dX6_step_89 : decode cX6_step 89 = .ok (.iconst 0, 1) := by decide +kernel
theorem dX6_step_90 : decode cX6_step 90 = .ok (.putfield 32, 3) := by decide +kernel
theorem dX6_step_93 : decode cX6_step 93 = .ok (.goto 134, 3) := by decide +kernel
theorem dX6_step_96 : decode cX6_step 96 = .ok (.iload_n 1, 1) := by decide +kernel
theorem dX6_step_97 : decode cX6_step 97 = .ok (.invokestatic 184, 3) := by decide +kernel
theorem dX6_step_100 : decode cX6_step 100 = .ok (.ifCond .eq 49, 3) := by decide +kernel
theorem dX6_step_103 : decode cX6_step 103 = .ok (.aload_n 0, 1) := by decide +kernel
theorem dX6_step_104 : decode cX6_step 104 = .ok (.iconst 2, 1) := by decide +kernel
theorem dX6_step_105 : decode cX6_step 105 = .ok (.putfield 32, 3) := by decide +kernel
theorem dX6_step_108 : decode cX6_step 108 = .ok (.aload_n 0, 1) := by decide +kernel
theorem dX6_step_109 : decode cX6_step 109 = .ok (.getfield 38, 3) := by decide +kernel
theorem dX6_step_112 : decode cX6_step 112 = .ok (.aload_n 0, 1) := by decide +kernel
theorem dX6_step_113 : decode cX6_step 113 = .ok (.getfield 12, 3) := by decide +kernel
theorem dX6_step_116 : decode cX6_step 116 = .ok (.getfield 205, 3) := by decide +kernel
theorem dX6_step_119 : decode cX6_step 119 = .ok (.if_icmp .ge 108, 3) := by decide +kernel
theorem dX6_step_122 : decode cX6_step 122 = .ok (.aload_n 0, 1) := by decide +kernel
theorem dX6_step_123 : decode cX6_step 123 = .ok (.aload_n 0, 1) := by decide +kernel
theorem dX6_step_124 : decode cX6_step 124 = .ok (.getfield 38, 3) := by decide +kernel
theorem dX6_step_127 : decode cX6_step 127 = .ok (.invokevirtual 181, 3) := by decide +kernel
theorem dX6_step_130 : decode cX6_step 130 = .ok (.invokestatic 184, 3) := by decide +kernel
theorem dX6_step_133 : decode cX6_step 133 = .ok (.ifCond .eq 94, 3) := by decide +kernel
theorem dX6_step_136 : decode cX6_step 136 = .ok (.aload_n 0, 1) := by decide +kernel
theorem dX6_step_137 : decode cX6_step 137 = .ok (.dup, 1) := by decide +kernel
theorem dX6_step_138 : decode cX6_step 138 = .ok (.getfield 38, 3) := by decide +kernel
theorem dX6_step_141 : decode cX6_step 141 = .ok (.iconst 1, 1) := by decide +kernel
theorem dX6_step_142 : decode cX6_step 142 = .ok (.iadd, 1) := by decide +kernel
theorem dX6_step_143 : decode cX6_step 143 = .ok (.putfield 38, 3) := by decide +kernel
theorem dX6_step_146 : decode cX6_step 146 = .ok (.goto (-38), 3) := by decide +kernel
theorem dX6_step_149 : decode cX6_step 149 = .ok (.iload_n 1, 1) := by decide +kernel
theorem dX6_step_150 : decode cX6_step 150 = .ok (.invokestatic 188, 3) := by decide +kernel
theorem dX6_step_153 : decode cX6_step 153 = .ok (.ifCond .eq 49, 3) := by decide +kernel
theorem dX6_step_156 : decode cX6_step 156 = .ok (.aload_n 0, 1) := by decide +kernel
theorem dX6_step_157 : decode cX6_step 157 = .ok (.iconst 3, 1) := by decide +kernel
theorem dX6_step_158 : decode cX6_step 158 = .ok (.putfield 32, 3) := by decide +kernel
theorem dX6_step_161 : decode cX6_step 161 = .ok (.aload_n 0, 1) := by decide +kernel
theorem dX6_step_162 : decode cX6_step 162 = .ok (.getfield 38, 3) := by decide +kernel
theorem dX6_step_165 : decode cX6_step 165 = .ok (.aload_n 0, 1) := by decide +kernel
theorem dX6_step_166 : decode cX6_step 166 = .ok (.getfield 12, 3) := by decide +kernel
theorem dX6_step_169 : decode cX6_step 169 = .ok (.getfield 205, 3) := by decide +kernel
theorem dX6_step_172 : decode cX6_step 172 = .ok (.if_icmp .ge 55, 3) := by decide +kernel
theorem dX6_step_175 : decode cX6_step 175 = .ok (.aload_n 0, 1) := by decide +kernel
theorem dX6_step_176 : decode cX6_step 176 = .ok (.aload_n 0, 1) := by decide +kernel
theorem dX6_step_177 : decode cX6_step 177 = .ok (.getfield 38, 3) := by decide +kernel
theorem dX6_step_180 : decode cX6_step 180 = .ok (.invokevirtual 181, 3) := by decide +kernel
theorem dX6_step_183 : decode cX6_step 183 = .ok (.invokestatic 188, 3) := by decide +kernel
theorem dX6_step_186 : decode cX6_step 186 = .ok (.ifCond .eq 41, 3) := by decide +kernel
theorem dX6_step_189 : decode cX6_step 189 = .ok (.aload_n 0, 1) := by decide +kernel
theorem dX6_step_190 : decode cX6_step 190 = .ok (.dup, 1) := by decide +kernel
theorem dX6_step_191 : decode cX6_step 191 = .ok (.getfield 38, 3) := by decide +kernel
theorem dX6_step_194 : decode cX6_step 194 = .ok (.iconst 1, 1) := by decide +kernel
theorem dX6_step_195 : decode cX6_step 195 = .ok (.iadd, 1) := by decide +kernel
theorem dX6_step_196 : decode cX6_step 196 = .ok (.putfield 38, 3) := by decide +kernel
theorem dX6_step_199 : decode cX6_step 199 = .ok (.goto (-38), 3) := by decide +kernel
theorem dX6_step_202 : decode cX6_step 202 = .ok (.aload_n 0, 1) := by decide +kernel
theorem dX6_step_203 : decode cX6_step 203 = .ok (.iload_n 1, 1) := by decide +kernel
theorem dX6_step_204 : decode cX6_step 204 = .ok (.bipush 59, 2) := by decide +kernel
theorem dX6_step_206 : decode cX6_step 206 = .ok (.if_icmp .ne 7, 3) := by decide +kernel
theorem dX6_step_209 : decode cX6_step 209 = .ok (.iconst 4, 1) := by decide +kernel
theorem dX6_step_210 : decode cX6_step 210 = .ok (.goto 4, 3) := by decide +kernel
theorem dX6_step_213 : decode cX6_step 213 = .ok (.iconst 1, 1) := by decide +kernel
theorem dX6_step_214 : decode cX6_step 214 = .ok (.putfield 32, 3) := by decide +kernel
theorem dX6_step_217 : decode cX6_step 217 = .ok (.aload_n 0, 1) := by decide +kernel
theorem dX6_step_218 : decode cX6_step 218 = .ok (.dup, 1) := by decide +kernel
theorem dX6_step_219 : decode cX6_step 219 = .ok (.getfield 38, 3) := by decide +kernel
theorem dX6_step_222 : decode cX6_step 222 = .ok (.iconst 1, 1) := by decide +kernel
theorem dX6_step_223 : decode cX6_step 223 = .ok (.iadd, 1) := by decide +kernel
theorem dX6_step_224 : decode cX6_step 224 = .ok (.putfield 38, 3) := by decide +kernel
theorem dX6_step_227 : decode cX6_step 227 = .ok (.return_, 1) := by decide +kernel
noncomputable def bfX6_step_227 (q_faultKind : Int32) (q_token : Int32) (q_start : Int32) (q_stop : Int32) (b_length : Int32) (fbt : Nat → Int32) (K : (Int32 → (Int32 × Int32 × Int32)) × (Int32 → Int32 → Int32 → (Int32 × Int32 × Int32)) × (Int32 → Int32 → Int32 → (Int32 × Int32 × Int32))) (w0_4 : Int32) (w0_5 : Int32) (w0_6 : Int32) : Int32 × Int32 × Int32 := (w0_4, w0_5, w0_6)
noncomputable def bfX6_step_214 (q_faultKind : Int32) (q_token : Int32) (q_start : Int32) (q_stop : Int32) (b_length : Int32) (fbt : Nat → Int32) (K : (Int32 → (Int32 × Int32 × Int32)) × (Int32 → Int32 → Int32 → (Int32 × Int32 × Int32)) × (Int32 → Int32 → Int32 → (Int32 × Int32 × Int32))) (s0 : Int32) (w0_4 : Int32) (w0_5 : Int32) (w0_6 : Int32) : Int32 × Int32 × Int32 := bfX6_step_227 q_faultKind q_token q_start q_stop b_length fbt K s0 w0_5 (w0_6 + (1 : Int32))
noncomputable def bfX6_step_57 (q_faultKind : Int32) (q_token : Int32) (q_start : Int32) (q_stop : Int32) (b_length : Int32) (fbt : Nat → Int32) (K : (Int32 → (Int32 × Int32 × Int32)) × (Int32 → Int32 → Int32 → (Int32 × Int32 × Int32)) × (Int32 → Int32 → Int32 → (Int32 × Int32 × Int32))) (w0_4 : Int32) (w0_5 : Int32) (w0_6 : Int32) : Int32 × Int32 × Int32 := cal (fun o7 => if w0_5 < b_length then (cal (fun o8 => if o8 = (0 : Int32) then (cal (fun o9 => if o9 = (0 : Int32) then (if o7 = (59 : Int32) then (bfX6_step_214 q_faultKind q_token q_start q_stop b_length fbt K (4 : Int32) w0_4 w0_5 w0_5) else (bfX6_step_214 q_faultKind q_token q_start q_stop b_length fbt K (1 : Int32) w0_4 w0_5 w0_5)) else (K.2.2 (3 : Int32) w0_5 w0_5)) (fX6_isDigit o7)) else (K.2.1 (2 : Int32) w0_5 w0_5)) (fX6_isLetter o7)) else (bfX6_step_227 q_faultKind q_token q_start q_stop b_length fbt K (0 : Int32) w0_5 w0_5)) (fX6_byteAt b_length fbt w0_5)
noncomputable def dfX6_step_16 (q_faultKind : Int32) (q_token : Int32) (q_start : Int32) (q_stop : Int32) (b_length : Int32) (fbt : Nat → Int32) (K : (Int32 → (Int32 × Int32 × Int32)) × (Int32 → Int32 → Int32 → (Int32 × Int32 × Int32)) × (Int32 → Int32 → Int32 → (Int32 × Int32 × Int32))) (w0_5 : Int32) : Int32 × Int32 × Int32 := if b_length ≤ w0_5 then (bfX6_step_57 q_faultKind q_token q_start q_stop b_length fbt K q_token w0_5 q_stop) else (cal (fun o1 => cal (fun o2 => if o2 = (0 : Int32) then (bfX6_step_57 q_faultKind q_token q_start q_stop b_length fbt K q_token w0_5 q_stop) else (K.1 (w0_5 + (1 : Int32)))) (fX6_isBlank o1)) (fX6_byteAt b_length fbt w0_5))
noncomputable def dfX6_step_108 (q_faultKind : Int32) (q_token : Int32) (q_start : Int32) (q_stop : Int32) (b_length : Int32) (fbt : Nat → Int32) (K : (Int32 → (Int32 × Int32 × Int32)) × (Int32 → Int32 → Int32 → (Int32 × Int32 × Int32)) × (Int32 → Int32 → Int32 → (Int32 × Int32 × Int32))) (w0_4 : Int32) (w0_5 : Int32) (w0_6 : Int32) : Int32 × Int32 × Int32 := if b_length ≤ w0_6 then (bfX6_step_227 q_faultKind q_token q_start q_stop b_length fbt K w0_4 w0_5 w0_6) else (cal (fun o3 => cal (fun o4 => if o4 = (0 : Int32) then (bfX6_step_227 q_faultKind q_token q_start q_stop b_length fbt K w0_4 w0_5 w0_6) else (K.2.1 w0_4 w0_5 (w0_6 + (1 : Int32)))) (fX6_isLetter o3)) (fX6_byteAt b_length fbt w0_6))
noncomputable def dfX6_step_161 (q_faultKind : Int32) (q_token : Int32) (q_start : Int32) (q_stop : Int32) (b_length : Int32) (fbt : Nat → Int32) (K : (Int32 → (Int32 × Int32 × Int32)) × (Int32 → Int32 → Int32 → (Int32 × Int32 × Int32)) × (Int32 → Int32 → Int32 → (Int32 × Int32 × Int32))) (w0_4 : Int32) (w0_5 : Int32) (w0_6 : Int32) : Int32 × Int32 × Int32 := if b_length ≤ w0_6 then (bfX6_step_227 q_faultKind q_token q_start q_stop b_length fbt K w0_4 w0_5 w0_6) else (cal (fun o5 => cal (fun o6 => if o6 = (0 : Int32) then (bfX6_step_227 q_faultKind q_token q_start q_stop b_length fbt K w0_4 w0_5 w0_6) else (K.2.2 w0_4 w0_5 (w0_6 + (1 : Int32)))) (fX6_isDigit o5)) (fX6_byteAt b_length fbt w0_6))
noncomputable def lfX6_step (q_faultKind : Int32) (q_token : Int32) (q_start : Int32) (q_stop : Int32) (b_length : Int32) (fbt : Nat → Int32) (z : Nat) : (Int32 → (Int32 × Int32 × Int32)) × (Int32 → Int32 → Int32 → (Int32 × Int32 × Int32)) × (Int32 → Int32 → Int32 → (Int32 × Int32 × Int32)) := Nat.rec (motive := fun _ => (Int32 → (Int32 × Int32 × Int32)) × (Int32 → Int32 → Int32 → (Int32 × Int32 × Int32)) × (Int32 → Int32 → Int32 → (Int32 × Int32 × Int32))) ((fun _ => (0, 0, 0), fun _ _ _ => (0, 0, 0), fun _ _ _ => (0, 0, 0))) (fun _ K => (dfX6_step_16 q_faultKind q_token q_start q_stop b_length fbt K, dfX6_step_108 q_faultKind q_token q_start q_stop b_length fbt K, dfX6_step_161 q_faultKind q_token q_start q_stop b_length fbt K)) z
noncomputable def fX6_step (q_faultKind : Int32) (q_token : Int32) (q_start : Int32) (q_stop : Int32) (b_length : Int32) (fbt : Nat → Int32) : Int32 × Int32 × Int32 := if q_faultKind = (0 : Int32) then ((lfX6_step q_faultKind q_token q_start q_stop b_length fbt 1000000000).1 q_stop) else (q_token, q_start, q_stop)
set_option maxHeartbeats 4000000 in
set_option maxRecDepth 100000 in
theorem lp_sX6_step {p : Program} {l : Launch} {e : Env} {R : Room} {s : State} {m : MethodId} {args : Array Value} {below : List Frame} {meth : Method} {c : Code} {Q : State → Prop} {A : Nat → Prop} {cells slots : Nat} {dC : Nat → ClassId} {dI : Nat → Nat → Nat} {RES : Int32 × Int32 × Int32} (h0 : Nat) (tp : Nat) (bt : Nat) (dr : Nat) (q_faultKind : Int32) (q_faultPlace : Int32) (q_token : Int32) (q_start : Int32) (q_stop : Int32) (b_length : Int32) (kbt : ClassId) (fbt : Nat → Int32) (gq_faultKind : gi q_faultKind 0 3) (gq_start : gi q_start 0 1600) (gq_stop : gi q_stop 0 1600) (gb_length : gi b_length 0 1600) (hx : p.tables.exec = Jvm.exec) (hb : c.code = cX6_step) (hml : c.maxLocals = 2) (hown : s.vm.findClass RX6 = some m.cls) (hts : ∀ w ∈ ((.code yX6_step cX6_step 2 none :: wsGA) : List Cond), w.before args s = true) (hK : va_K (dC, dI) vwCl [(kbt, .byte)] s) (hz : nzA s) (hA : ∀ q : Nat, s.heap.size ≤ q → A q) (hRf : 1 ≤ R.frames) (hRl : 21 ≤ R.locals) (hRc : cells ≤ R.cells) (hRs : slots ≤ R.slots) (kr7 : ∀ (w0_4 : Int32) (w0_5 : Int32) (w0_6 : Int32) (H : Heap) (locs : List Loc) (ls : Array Slot), gi w0_5 0 1600 → gi w0_6 0 1600 → (w0_4, w0_5, w0_6) = RES → va_P (dC, dI) vwCl [(h0, .inr (6, [.ref tp, .ref dr, .int q_faultKind, .int q_faultPlace, .int w0_4, .int w0_5, .int w0_6])), (tp, .inr (10, [.ref bt, .int b_length])), (bt, .inl (kbt, 1600, .inl fbt))] H → va_D A [(h0, .inr (6, [.ref tp, .ref dr, .int q_faultKind, .int q_faultPlace, .int w0_4, .int w0_5, .int w0_6])), (tp, .inr (10, [.ref bt, .int b_length])), (bt, .inl (kbt, 1600, .inl fbt))] → va_S A s.heap H locs → lv_has ls 2 [] → W p l e R s m args below meth c H locs cells slots Q (F0 m 7 ls [])) (kr227 : ∀ (w0_4 : Int32) (w0_5 : Int32) (w0_6 : Int32) (H : Heap) (locs : List Loc) (ls : Array Slot), gi w0_5 0 1600 → gi w0_6 0 1600 → (w0_4, w0_5, w0_6) = RES → va_P (dC, dI) vwCl [(h0, .inr (6, [.ref tp, .ref dr, .int q_faultKind, .int q_faultPlace, .int w0_4, .int w0_5, .int w0_6])), (tp, .inr (10, [.ref bt, .int b_length])), (bt, .inl (kbt, 1600, .inl fbt))] H → va_D A [(h0, .inr (6, [.ref tp, .ref dr, .int q_faultKind, .int q_faultPlace, .int w0_4, .int w0_5, .int w0_6])), (tp, .inr (10, [.ref bt, .int b_length])), (bt, .inl (kbt, 1600, .inl fbt))] → va_S A s.heap H locs → lv_has ls 2 [] → W p l e R s m args below meth c H locs cells slots Q (F0 m 227 ls [])) : ∀ z : Nat, (∀ (w0_5 : Int32) (H : Heap) (locs : List Loc) (ls : Array Slot), gi w0_5 0 1600 → (lfX6_step q_faultKind q_token q_start q_stop b_length fbt z).1 w0_5 = RES → 9609 + (-2) * w0_5.toInt < (z : Int) → va_P (dC, dI) vwCl [(h0, .inr (6, [.ref tp, .ref dr, .int q_faultKind, .int q_faultPlace, .int q_token, .int w0_5, .int q_stop])), (tp, .inr (10, [.ref bt, .int b_length])), (bt, .inl (kbt, 1600, .inl fbt))] H → va_D A [(h0, .inr (6, [.ref tp, .ref dr, .int q_faultKind, .int q_faultPlace, .int q_token, .int w0_5, .int q_stop])), (tp, .inr (10, [.ref bt, .int b_length])), (bt, .inl (kbt, 1600, .inl fbt))] → va_S A s.heap H locs → lv_has ls 2 [(0, .ref h0)] → W p l e R s m args below meth c H locs cells slots Q (F0 m 16 ls [])) ∧ (∀ (v1 : Int32) (w0_4 : Int32) (w0_5 : Int32) (w0_6 : Int32) (H : Heap) (locs : List Loc) (ls : Array Slot), gi w0_5 0 1600 → gi w0_6 0 1600 → (lfX6_step q_faultKind q_token q_start q_stop b_length fbt z).2.1 w0_4 w0_5 w0_6 = RES → 6405 + (-2) * w0_6.toInt < (z : Int) → va_P (dC, dI) vwCl [(h0, .inr (6, [.ref tp, .ref dr, .int q_faultKind, .int q_faultPlace, .int w0_4, .int w0_5, .int w0_6])), (tp, .inr (10, [.ref bt, .int b_length])), (bt, .inl (kbt, 1600, .inl fbt))] H → va_D A [(h0, .inr (6, [.ref tp, .ref dr, .int q_faultKind, .int q_faultPlace, .int w0_4, .int w0_5, .int w0_6])), (tp, .inr (10, [.ref bt, .int b_length])), (bt, .inl (kbt, 1600, .inl fbt))] → va_S A s.heap H locs → lv_has ls 2 [(0, .ref h0), (1, .int v1)] → W p l e R s m args below meth c H locs cells slots Q (F0 m 108 ls [])) ∧ (∀ (v1 : Int32) (w0_4 : Int32) (w0_5 : Int32) (w0_6 : Int32) (H : Heap) (locs : List Loc) (ls : Array Slot), gi w0_5 0 1600 → gi w0_6 0 1600 → (lfX6_step q_faultKind q_token q_start q_stop b_length fbt z).2.2 w0_4 w0_5 w0_6 = RES → 3201 + (-2) * w0_6.toInt < (z : Int) → va_P (dC, dI) vwCl [(h0, .inr (6, [.ref tp, .ref dr, .int q_faultKind, .int q_faultPlace, .int w0_4, .int w0_5, .int w0_6])), (tp, .inr (10, [.ref bt, .int b_length])), (bt, .inl (kbt, 1600, .inl fbt))] H → va_D A [(h0, .inr (6, [.ref tp, .ref dr, .int q_faultKind, .int q_faultPlace, .int w0_4, .int w0_5, .int w0_6])), (tp, .inr (10, [.ref bt, .int b_length])), (bt, .inl (kbt, 1600, .inl fbt))] → va_S A s.heap H locs → lv_has ls 2 [(0, .ref h0), (1, .int v1)] → W p l e R s m args below meth c H locs cells slots Q (F0 m 161 ls [])) := by
  intro z
  induction z with
  | zero =>
    refine ⟨?_, ?_, ?_⟩
    · intro w0_5 H locs ls gw0_5 hF hmu hP hD hS hl
      exact absurd hmu (by have hw0_51 := gw0_5.1; have hw0_52 := gw0_5.2; omega)
    · intro v1 w0_4 w0_5 w0_6 H locs ls gw0_5 gw0_6 hF hmu hP hD hS hl
      exact absurd hmu (by have hw0_61 := gw0_6.1; have hw0_62 := gw0_6.2; omega)
    · intro v1 w0_4 w0_5 w0_6 H locs ls gw0_5 gw0_6 hF hmu hP hD hS hl
      exact absurd hmu (by have hw0_61 := gw0_6.1; have hw0_62 := gw0_6.2; omega)
  | succ z ih =>
    refine ⟨?_, ?_, ?_⟩
    · intro w0_5 H locs ls gw0_5 hF hmu hP hD hS hl
      have hF : dfX6_step_16 q_faultKind q_token q_start q_stop b_length fbt (lfX6_step q_faultKind q_token q_start q_stop b_length fbt z) w0_5 = RES := hF
      refine lv_aload_n hx hb dX6_step_16 rfl (lv_at hl 0 rfl) ?_
      refine va_get (D := (dC, dI)) (ci := 6) (v := .int w0_5) (C := RX6) (T := TX6) (N := 7) hx hb hts (fun w h => List.mem_cons_of_mem _ (jnGA_X6 w h)) hown hK hP 0 rfl rfl 5 (by decide) (hts _ (List.mem_cons_of_mem _ mGA_58)) (fun _ h9 => h9) rfl dX6_step_17 ?_
      refine lv_aload_n hx hb dX6_step_20 rfl (lv_at hl 0 rfl) ?_
      refine va_get (D := (dC, dI)) (ci := 6) (v := .ref tp) (C := RX6) (T := TX6) (N := 7) hx hb hts (fun w h => List.mem_cons_of_mem _ (jnGA_X6 w h)) hown hK hP 0 rfl rfl 0 (by decide) (hts _ (List.mem_cons_of_mem _ mGA_52)) (fun _ h9 => h9) rfl dX6_step_21 ?_
      refine va_get (D := (dC, dI)) (ci := 10) (v := .int b_length) (C := RX10) (T := TX10) (N := 2) hx hb hts (fun w h => List.mem_cons_of_mem _ (jnGA_X10 w h)) hown hK hP 1 rfl rfl 1 (by decide) (hts _ (List.mem_cons_of_mem _ mGA_166)) (fun _ h9 => h9) rfl dX6_step_24 ?_
      refine lv_icmp_ge (tgt := 57) hx hb dX6_step_27 (by decide) (fun c_127 => ?_) (fun c_127 => ?_)
      · have hF := gf_pos c_127 hF
        refine lv_aload_n hx hb dX6_step_57 rfl (lv_at hl 0 rfl) ?_
        refine lv_aload_n hx hb dX6_step_58 rfl (lv_at hl 0 rfl) ?_
        refine va_get (D := (dC, dI)) (ci := 6) (v := .int w0_5) (C := RX6) (T := TX6) (N := 7) hx hb hts (fun w h => List.mem_cons_of_mem _ (jnGA_X6 w h)) hown hK hP 0 rfl rfl 5 (by decide) (hts _ (List.mem_cons_of_mem _ mGA_58)) (fun _ h9 => h9) rfl dX6_step_59 ?_
        refine va_put (D := (dC, dI)) (ci := 6) (v := .int w0_5) (ty := .int) (C := RX6) (T := TX6) (N := 7) hx hb hts (fun w h => List.mem_cons_of_mem _ (jnGA_X6 w h)) tyX6 tyX6_ok nmX6 hown hK hP hD hS 0 rfl rfl 6 (by decide) (hts _ (List.mem_cons_of_mem _ mGA_59)) (fun _ h9 => h9) rfl (by decide +kernel) rfl rfl (Nat.le_of_ble_eq_true rfl) dX6_step_62 (fun H locs hP hD hS => ?_)
        have hP : va_P (dC, dI) vwCl [(h0, .inr (6, [.ref tp, .ref dr, .int q_faultKind, .int q_faultPlace, .int q_token, .int w0_5, .int w0_5])), (tp, .inr (10, [.ref bt, .int b_length])), (bt, .inl (kbt, 1600, .inl fbt))] H := hP
        have hD : va_D A [(h0, .inr (6, [.ref tp, .ref dr, .int q_faultKind, .int q_faultPlace, .int q_token, .int w0_5, .int w0_5])), (tp, .inr (10, [.ref bt, .int b_length])), (bt, .inl (kbt, 1600, .inl fbt))] := hD
        refine lv_aload_n hx hb dX6_step_65 rfl (lv_at hl 0 rfl) ?_
        refine lv_aload_n hx hb dX6_step_66 rfl (lv_at hl 0 rfl) ?_
        refine va_get (D := (dC, dI)) (ci := 6) (v := .int w0_5) (C := RX6) (T := TX6) (N := 7) hx hb hts (fun w h => List.mem_cons_of_mem _ (jnGA_X6 w h)) hown hK hP 0 rfl rfl 5 (by decide) (hts _ (List.mem_cons_of_mem _ mGA_58)) (fun _ h9 => h9) rfl dX6_step_67 ?_
        have hPc := hP.sub (ws' := [(h0, .inr (6, [.ref tp, .ref dr, .int q_faultKind, .int q_faultPlace, .int q_token, .int w0_5, .int w0_5])), (tp, .inr (10, [.ref bt, .int b_length])), (bt, .inl (kbt, 1600, .inl fbt))]) [0, 1, 2] rfl
        have hKc := hK.sub (tys' := [(kbt, .byte)]) [0] rfl
        refine va_calli (va_runV (As := [.int w0_5]) (rest := []) ⟨hx, hb, hml, hown, hts⟩ (sX6_byteAt l dC dI h0 tp bt dr q_faultKind q_faultPlace q_token w0_5 w0_5 b_length kbt fbt w0_5 gq_faultKind gw0_5 gw0_5 gb_length) (cwV 1 hts (gz_gV mGA_167 mGA_168 mGA_169 mGA_9 mGA_170 goodGA) rfl rfl rfl (by decide +kernel) ⟨Nat.le_trans (Nat.le_of_ble_eq_true rfl) hRf, Nat.le_trans (Nat.le_of_ble_eq_true rfl) hRl⟩) ⟨fun a U g mk q => by obtain ⟨q0, qP, qK, qZ⟩ := q; exact ⟨q0, qP, va_K.moved (u := U) (U := U.calling g mk a) (Vm.Alike.refl U.vm) qK, nzA_same (u := U) (U := U.calling g mk a) rfl qZ⟩, va_recv hKc hPc (ci := 6) (q0 := 0) rfl rfl, fun U hU hW => ⟨rfl, by rw [hU]; exact hPc, va_K.moved hW.alike hKc, nzA_warm hW hz⟩⟩ rfl rfl hl.1 rfl (lv_room (Nat.le_of_ble_eq_true rfl)) dX6_step_70 ⟨hRc, hRs⟩) hS (fun q _ h => h.elim) (fun q h => h.elim) (fun r_128 u t H1 locs ht hvm hw hB hz1 hk1 hS => ?_)
        obtain ⟨hw, hE⟩ := hw
        have hP := gz_keep hP hk1
        have hF := gf_call (a := r_128) hE hF
        generalize H1 = H at hP hS ⊢
        refine lv_istore_n (lv' := [(1, .int r_128), (0, .ref h0)]) hx hb dX6_step_73 rfl hl (by decide) rfl (fun ls hl => ?_)
        refine lv_aload_n hx hb dX6_step_74 rfl (lv_at hl 1 rfl) ?_
        refine va_get (D := (dC, dI)) (ci := 6) (v := .int w0_5) (C := RX6) (T := TX6) (N := 7) hx hb hts (fun w h => List.mem_cons_of_mem _ (jnGA_X6 w h)) hown hK hP 0 rfl rfl 5 (by decide) (hts _ (List.mem_cons_of_mem _ mGA_58)) (fun _ h9 => h9) rfl dX6_step_75 ?_
        refine lv_aload_n hx hb dX6_step_78 rfl (lv_at hl 1 rfl) ?_
        refine va_get (D := (dC, dI)) (ci := 6) (v := .ref tp) (C := RX6) (T := TX6) (N := 7) hx hb hts (fun w h => List.mem_cons_of_mem _ (jnGA_X6 w h)) hown hK hP 0 rfl rfl 0 (by decide) (hts _ (List.mem_cons_of_mem _ mGA_52)) (fun _ h9 => h9) rfl dX6_step_79 ?_
        refine va_get (D := (dC, dI)) (ci := 10) (v := .int b_length) (C := RX10) (T := TX10) (N := 2) hx hb hts (fun w h => List.mem_cons_of_mem _ (jnGA_X10 w h)) hown hK hP 1 rfl rfl 1 (by decide) (hts _ (List.mem_cons_of_mem _ mGA_166)) (fun _ h9 => h9) rfl dX6_step_82 ?_
        refine lv_icmp_lt (tgt := 96) hx hb dX6_step_85 (by decide) (fun c_129 => ?_) (fun c_129 => ?_)
        · have hF := gf_pos c_129 hF
          have g_130 : gi w0_5 0 1599 := gi_lt_l c_129 gw0_5 gb_length (by decide)
          have g_131 : gi b_length 0 1599 := gi_rel (Int32.le_iff_toInt_le.mp c_127) gb_length g_130
          have g_132 : gi b_length 1 1600 := gi_lt_r c_129 gw0_5 gb_length (by decide)
          refine lv_iload_n hx hb dX6_step_96 rfl (lv_at hl 0 rfl) ?_
          have hPc := hP.sub (ws' := []) [] rfl
          have hKc := hK.sub (tys' := []) [] rfl
          refine va_calli (va_runS (As := [.int r_128]) (rest := []) ⟨hx, hb, hml, hown, hts⟩ (sX6_isLetter l dC dI r_128) (cwS 1 hts (gz_gS mGA_175 mGA_176 mGA_9 mGA_177 goodGA) rfl rfl rfl (by decide +kernel) ⟨Nat.le_trans (Nat.le_of_ble_eq_true rfl) hRf, Nat.le_trans (Nat.le_of_ble_eq_true rfl) hRl⟩) ⟨fun a U g mk q => by obtain ⟨q0, qP, qK, qZ⟩ := q; exact ⟨q0, qP, va_K.moved (u := U) (U := U.calling g mk a) (Vm.Alike.refl U.vm) qK, nzA_same (u := U) (U := U.calling g mk a) rfl qZ⟩, fun U hU hW => ⟨rfl, by rw [hU]; exact hPc, va_K.moved hW.alike hKc, nzA_warm hW hz⟩⟩ rfl rfl hl.1 rfl (lv_room (Nat.le_of_ble_eq_true rfl)) dX6_step_97 ⟨hRc, hRs⟩) hS (fun q _ h => h.elim) (fun q h => h.elim) (fun r_133 u t H1 locs ht hvm hw hB hz1 hk1 hS => ?_)
          obtain ⟨hw, hE⟩ := hw
          have hP := gz_keep hP hk1
          have hF := gf_call (a := r_133) hE hF
          generalize H1 = H at hP hS ⊢
          have gr_133 : gi r_133 0 1 := hw
          refine lv_if_eq (tgt := 149) hx hb dX6_step_100 (by decide) (fun c_134 => ?_) (fun c_134 => ?_)
          · have hF := gf_pos c_134 hF
            have g_135 : gi r_133 0 0 := gi_eq c_134 (gi_c 0 0 (by decide))
            refine lv_iload_n hx hb dX6_step_149 rfl (lv_at hl 0 rfl) ?_
            have hPc := hP.sub (ws' := []) [] rfl
            have hKc := hK.sub (tys' := []) [] rfl
            refine va_calli (va_runS (As := [.int r_128]) (rest := []) ⟨hx, hb, hml, hown, hts⟩ (sX6_isDigit l dC dI r_128) (cwS 1 hts (gz_gS mGA_178 mGA_179 mGA_9 mGA_180 goodGA) rfl rfl rfl (by decide +kernel) ⟨Nat.le_trans (Nat.le_of_ble_eq_true rfl) hRf, Nat.le_trans (Nat.le_of_ble_eq_true rfl) hRl⟩) ⟨fun a U g mk q => by obtain ⟨q0, qP, qK, qZ⟩ := q; exact ⟨q0, qP, va_K.moved (u := U) (U := U.calling g mk a) (Vm.Alike.refl U.vm) qK, nzA_same (u := U) (U := U.calling g mk a) rfl qZ⟩, fun U hU hW => ⟨rfl, by rw [hU]; exact hPc, va_K.moved hW.alike hKc, nzA_warm hW hz⟩⟩ rfl rfl hl.1 rfl (lv_room (Nat.le_of_ble_eq_true rfl)) dX6_step_150 ⟨hRc, hRs⟩) hS (fun q _ h => h.elim) (fun q h => h.elim) (fun r_136 u t H1 locs ht hvm hw hB hz1 hk1 hS => ?_)
            obtain ⟨hw, hE⟩ := hw
            have hP := gz_keep hP hk1
            have hF := gf_call (a := r_136) hE hF
            generalize H1 = H at hP hS ⊢
            have gr_136 : gi r_136 0 1 := hw
            refine lv_if_eq (tgt := 202) hx hb dX6_step_153 (by decide) (fun c_137 => ?_) (fun c_137 => ?_)
            · have hF := gf_pos c_137 hF
              have g_138 : gi r_136 0 0 := gi_eq c_137 (gi_c 0 0 (by decide))
              refine lv_aload_n hx hb dX6_step_202 rfl (lv_at hl 1 rfl) ?_
              refine lv_iload_n hx hb dX6_step_203 rfl (lv_at hl 0 rfl) ?_
              refine lv_bipush (v := 59) hx hb dX6_step_204 (by decide) ?_
              refine lv_icmp_ne (tgt := 213) hx hb dX6_step_206 (by decide) (fun c_139 => ?_) (fun c_139 => ?_)
              · have hF := gf_neg c_139 hF
                refine lv_iconst (v := 1) hx hb dX6_step_213 (by decide) ?_
                refine va_put (D := (dC, dI)) (ci := 6) (v := .int 1) (ty := .int) (C := RX6) (T := TX6) (N := 7) hx hb hts (fun w h => List.mem_cons_of_mem _ (jnGA_X6 w h)) tyX6 tyX6_ok nmX6 hown hK hP hD hS 0 rfl rfl 4 (by decide) (hts _ (List.mem_cons_of_mem _ mGA_57)) (fun _ h9 => h9) rfl (by decide +kernel) rfl rfl (Nat.le_of_ble_eq_true rfl) dX6_step_214 (fun H locs hP hD hS => ?_)
                have hP : va_P (dC, dI) vwCl [(h0, .inr (6, [.ref tp, .ref dr, .int q_faultKind, .int q_faultPlace, .int 1, .int w0_5, .int w0_5])), (tp, .inr (10, [.ref bt, .int b_length])), (bt, .inl (kbt, 1600, .inl fbt))] H := hP
                have hD : va_D A [(h0, .inr (6, [.ref tp, .ref dr, .int q_faultKind, .int q_faultPlace, .int 1, .int w0_5, .int w0_5])), (tp, .inr (10, [.ref bt, .int b_length])), (bt, .inl (kbt, 1600, .inl fbt))] := hD
                refine lv_aload_n hx hb dX6_step_217 rfl (lv_at hl 1 rfl) ?_
                refine lv_dup hx hb dX6_step_218 rfl ?_
                refine va_get (D := (dC, dI)) (ci := 6) (v := .int w0_5) (C := RX6) (T := TX6) (N := 7) hx hb hts (fun w h => List.mem_cons_of_mem _ (jnGA_X6 w h)) hown hK hP 0 rfl rfl 6 (by decide) (hts _ (List.mem_cons_of_mem _ mGA_59)) (fun _ h9 => h9) rfl dX6_step_219 ?_
                refine lv_iconst (v := 1) hx hb dX6_step_222 (by decide) ?_
                refine lv_iadd hx hb dX6_step_223 ?_
                refine lv_topi (fun x_140 ex_140 => ?_)
                have gx_140 : gi x_140 1 1600 := gi_add ex_140 g_130 (gi_c 1 1 (by decide)) (by decide)
                refine va_put (D := (dC, dI)) (ci := 6) (v := .int x_140) (ty := .int) (C := RX6) (T := TX6) (N := 7) hx hb hts (fun w h => List.mem_cons_of_mem _ (jnGA_X6 w h)) tyX6 tyX6_ok nmX6 hown hK hP hD hS 0 rfl rfl 6 (by decide) (hts _ (List.mem_cons_of_mem _ mGA_59)) (fun _ h9 => h9) rfl (by decide +kernel) rfl rfl (Nat.le_of_ble_eq_true rfl) dX6_step_224 (fun H locs hP hD hS => ?_)
                have hP : va_P (dC, dI) vwCl [(h0, .inr (6, [.ref tp, .ref dr, .int q_faultKind, .int q_faultPlace, .int 1, .int w0_5, .int x_140])), (tp, .inr (10, [.ref bt, .int b_length])), (bt, .inl (kbt, 1600, .inl fbt))] H := hP
                have hD : va_D A [(h0, .inr (6, [.ref tp, .ref dr, .int q_faultKind, .int q_faultPlace, .int 1, .int w0_5, .int x_140])), (tp, .inr (10, [.ref bt, .int b_length])), (bt, .inl (kbt, 1600, .inl fbt))] := hD
                exact kr227 1 w0_5 x_140 _ _ _ (gi_w g_130 (by decide)) (gi_w gx_140 (by decide)) (by rw [ex_140]; exact hF) hP hD hS (lv_sub hl [] rfl)
              · have hF := gf_pos c_139 hF
                have g_141 : gi r_128 59 59 := gi_eq c_139 (gi_c 59 59 (by decide))
                refine lv_iconst (v := 4) hx hb dX6_step_209 (by decide) ?_
                refine lv_goto (tgt := 214) hx hb dX6_step_210 (by decide) ?_
                refine va_put (D := (dC, dI)) (ci := 6) (v := .int 4) (ty := .int) (C := RX6) (T := TX6) (N := 7) hx hb hts (fun w h => List.mem_cons_of_mem _ (jnGA_X6 w h)) tyX6 tyX6_ok nmX6 hown hK hP hD hS 0 rfl rfl 4 (by decide) (hts _ (List.mem_cons_of_mem _ mGA_57)) (fun _ h9 => h9) rfl (by decide +kernel) rfl rfl (Nat.le_of_ble_eq_true rfl) dX6_step_214 (fun H locs hP hD hS => ?_)
                have hP : va_P (dC, dI) vwCl [(h0, .inr (6, [.ref tp, .ref dr, .int q_faultKind, .int q_faultPlace, .int 4, .int w0_5, .int w0_5])), (tp, .inr (10, [.ref bt, .int b_length])), (bt, .inl (kbt, 1600, .inl fbt))] H := hP
                have hD : va_D A [(h0, .inr (6, [.ref tp, .ref dr, .int q_faultKind, .int q_faultPlace, .int 4, .int w0_5, .int w0_5])), (tp, .inr (10, [.ref bt, .int b_length])), (bt, .inl (kbt, 1600, .inl fbt))] := hD
                refine lv_aload_n hx hb dX6_step_217 rfl (lv_at hl 1 rfl) ?_
                refine lv_dup hx hb dX6_step_218 rfl ?_
                refine va_get (D := (dC, dI)) (ci := 6) (v := .int w0_5) (C := RX6) (T := TX6) (N := 7) hx hb hts (fun w h => List.mem_cons_of_mem _ (jnGA_X6 w h)) hown hK hP 0 rfl rfl 6 (by decide) (hts _ (List.mem_cons_of_mem _ mGA_59)) (fun _ h9 => h9) rfl dX6_step_219 ?_
                refine lv_iconst (v := 1) hx hb dX6_step_222 (by decide) ?_
                refine lv_iadd hx hb dX6_step_223 ?_
                refine lv_topi (fun x_142 ex_142 => ?_)
                have gx_142 : gi x_142 1 1600 := gi_add ex_142 g_130 (gi_c 1 1 (by decide)) (by decide)
                refine va_put (D := (dC, dI)) (ci := 6) (v := .int x_142) (ty := .int) (C := RX6) (T := TX6) (N := 7) hx hb hts (fun w h => List.mem_cons_of_mem _ (jnGA_X6 w h)) tyX6 tyX6_ok nmX6 hown hK hP hD hS 0 rfl rfl 6 (by decide) (hts _ (List.mem_cons_of_mem _ mGA_59)) (fun _ h9 => h9) rfl (by decide +kernel) rfl rfl (Nat.le_of_ble_eq_true rfl) dX6_step_224 (fun H locs hP hD hS => ?_)
                have hP : va_P (dC, dI) vwCl [(h0, .inr (6, [.ref tp, .ref dr, .int q_faultKind, .int q_faultPlace, .int 4, .int w0_5, .int x_142])), (tp, .inr (10, [.ref bt, .int b_length])), (bt, .inl (kbt, 1600, .inl fbt))] H := hP
                have hD : va_D A [(h0, .inr (6, [.ref tp, .ref dr, .int q_faultKind, .int q_faultPlace, .int 4, .int w0_5, .int x_142])), (tp, .inr (10, [.ref bt, .int b_length])), (bt, .inl (kbt, 1600, .inl fbt))] := hD
                exact kr227 4 w0_5 x_142 _ _ _ (gi_w g_130 (by decide)) (gi_w gx_142 (by decide)) (by rw [ex_142]; exact hF) hP hD hS (lv_sub hl [] rfl)
            · have hF := gf_neg c_137 hF
              have g_143 : gi r_136 1 1 := gi_ne_lo c_137 gr_136 (gi_c 0 0 (by decide)) (by decide)
              refine lv_aload_n hx hb dX6_step_156 rfl (lv_at hl 1 rfl) ?_
              refine lv_iconst (v := 3) hx hb dX6_step_157 (by decide) ?_
              refine va_put (D := (dC, dI)) (ci := 6) (v := .int 3) (ty := .int) (C := RX6) (T := TX6) (N := 7) hx hb hts (fun w h => List.mem_cons_of_mem _ (jnGA_X6 w h)) tyX6 tyX6_ok nmX6 hown hK hP hD hS 0 rfl rfl 4 (by decide) (hts _ (List.mem_cons_of_mem _ mGA_57)) (fun _ h9 => h9) rfl (by decide +kernel) rfl rfl (Nat.le_of_ble_eq_true rfl) dX6_step_158 (fun H locs hP hD hS => ?_)
              have hP : va_P (dC, dI) vwCl [(h0, .inr (6, [.ref tp, .ref dr, .int q_faultKind, .int q_faultPlace, .int 3, .int w0_5, .int w0_5])), (tp, .inr (10, [.ref bt, .int b_length])), (bt, .inl (kbt, 1600, .inl fbt))] H := hP
              have hD : va_D A [(h0, .inr (6, [.ref tp, .ref dr, .int q_faultKind, .int q_faultPlace, .int 3, .int w0_5, .int w0_5])), (tp, .inr (10, [.ref bt, .int b_length])), (bt, .inl (kbt, 1600, .inl fbt))] := hD
              exact ih.2.2 r_128 3 w0_5 w0_5 _ _ _ (gi_w g_130 (by decide)) (gi_w g_130 (by decide)) hF (by have aw0_5 := gw0_5.1; have bw0_5 := gw0_5.2; have qgw0_5 := g_130.1; have rgw0_5 := g_130.2; omega) hP hD hS (lv_sub hl [1, 0] rfl)
          · have hF := gf_neg c_134 hF
            have g_144 : gi r_133 1 1 := gi_ne_lo c_134 gr_133 (gi_c 0 0 (by decide)) (by decide)
            refine lv_aload_n hx hb dX6_step_103 rfl (lv_at hl 1 rfl) ?_
            refine lv_iconst (v := 2) hx hb dX6_step_104 (by decide) ?_
            refine va_put (D := (dC, dI)) (ci := 6) (v := .int 2) (ty := .int) (C := RX6) (T := TX6) (N := 7) hx hb hts (fun w h => List.mem_cons_of_mem _ (jnGA_X6 w h)) tyX6 tyX6_ok nmX6 hown hK hP hD hS 0 rfl rfl 4 (by decide) (hts _ (List.mem_cons_of_mem _ mGA_57)) (fun _ h9 => h9) rfl (by decide +kernel) rfl rfl (Nat.le_of_ble_eq_true rfl) dX6_step_105 (fun H locs hP hD hS => ?_)
            have hP : va_P (dC, dI) vwCl [(h0, .inr (6, [.ref tp, .ref dr, .int q_faultKind, .int q_faultPlace, .int 2, .int w0_5, .int w0_5])), (tp, .inr (10, [.ref bt, .int b_length])), (bt, .inl (kbt, 1600, .inl fbt))] H := hP
            have hD : va_D A [(h0, .inr (6, [.ref tp, .ref dr, .int q_faultKind, .int q_faultPlace, .int 2, .int w0_5, .int w0_5])), (tp, .inr (10, [.ref bt, .int b_length])), (bt, .inl (kbt, 1600, .inl fbt))] := hD
            exact ih.2.1 r_128 2 w0_5 w0_5 _ _ _ (gi_w g_130 (by decide)) (gi_w g_130 (by decide)) hF (by have aw0_5 := gw0_5.1; have bw0_5 := gw0_5.2; have qgw0_5 := g_130.1; have rgw0_5 := g_130.2; omega) hP hD hS (lv_sub hl [1, 0] rfl)
        · have hF := gf_neg c_129 hF
          refine lv_aload_n hx hb dX6_step_88 rfl (lv_at hl 1 rfl) ?_
          refine lv_iconst (v := 0) hx hb dX6_step_89 (by decide) ?_
          refine va_put (D := (dC, dI)) (ci := 6) (v := .int 0) (ty := .int) (C := RX6) (T := TX6) (N := 7) hx hb hts (fun w h => List.mem_cons_of_mem _ (jnGA_X6 w h)) tyX6 tyX6_ok nmX6 hown hK hP hD hS 0 rfl rfl 4 (by decide) (hts _ (List.mem_cons_of_mem _ mGA_57)) (fun _ h9 => h9) rfl (by decide +kernel) rfl rfl (Nat.le_of_ble_eq_true rfl) dX6_step_90 (fun H locs hP hD hS => ?_)
          have hP : va_P (dC, dI) vwCl [(h0, .inr (6, [.ref tp, .ref dr, .int q_faultKind, .int q_faultPlace, .int 0, .int w0_5, .int w0_5])), (tp, .inr (10, [.ref bt, .int b_length])), (bt, .inl (kbt, 1600, .inl fbt))] H := hP
          have hD : va_D A [(h0, .inr (6, [.ref tp, .ref dr, .int q_faultKind, .int q_faultPlace, .int 0, .int w0_5, .int w0_5])), (tp, .inr (10, [.ref bt, .int b_length])), (bt, .inl (kbt, 1600, .inl fbt))] := hD
          refine lv_goto (tgt := 227) hx hb dX6_step_93 (by decide) ?_
          exact kr227 0 w0_5 w0_5 _ _ _ gw0_5 gw0_5 hF hP hD hS (lv_sub hl [] rfl)
      · have hF := gf_neg c_127 hF
        have g_145 : gi w0_5 0 1599 := gi_lt_l (Int32.not_le.mp c_127) gw0_5 gb_length (by decide)
        have g_146 : gi b_length 1 1600 := gi_lt_r (Int32.not_le.mp c_127) gw0_5 gb_length (by decide)
        refine lv_aload_n hx hb dX6_step_30 rfl (lv_at hl 0 rfl) ?_
        refine lv_aload_n hx hb dX6_step_31 rfl (lv_at hl 0 rfl) ?_
        refine va_get (D := (dC, dI)) (ci := 6) (v := .int w0_5) (C := RX6) (T := TX6) (N := 7) hx hb hts (fun w h => List.mem_cons_of_mem _ (jnGA_X6 w h)) hown hK hP 0 rfl rfl 5 (by decide) (hts _ (List.mem_cons_of_mem _ mGA_58)) (fun _ h9 => h9) rfl dX6_step_32 ?_
        have hPc := hP.sub (ws' := [(h0, .inr (6, [.ref tp, .ref dr, .int q_faultKind, .int q_faultPlace, .int q_token, .int w0_5, .int q_stop])), (tp, .inr (10, [.ref bt, .int b_length])), (bt, .inl (kbt, 1600, .inl fbt))]) [0, 1, 2] rfl
        have hKc := hK.sub (tys' := [(kbt, .byte)]) [0] rfl
        refine va_calli (va_runV (As := [.int w0_5]) (rest := []) ⟨hx, hb, hml, hown, hts⟩ (sX6_byteAt l dC dI h0 tp bt dr q_faultKind q_faultPlace q_token w0_5 q_stop b_length kbt fbt w0_5 gq_faultKind (gi_w g_145 (by decide)) gq_stop (gi_w g_146 (by decide))) (cwV 1 hts (gz_gV mGA_167 mGA_168 mGA_169 mGA_9 mGA_170 goodGA) rfl rfl rfl (by decide +kernel) ⟨Nat.le_trans (Nat.le_of_ble_eq_true rfl) hRf, Nat.le_trans (Nat.le_of_ble_eq_true rfl) hRl⟩) ⟨fun a U g mk q => by obtain ⟨q0, qP, qK, qZ⟩ := q; exact ⟨q0, qP, va_K.moved (u := U) (U := U.calling g mk a) (Vm.Alike.refl U.vm) qK, nzA_same (u := U) (U := U.calling g mk a) rfl qZ⟩, va_recv hKc hPc (ci := 6) (q0 := 0) rfl rfl, fun U hU hW => ⟨rfl, by rw [hU]; exact hPc, va_K.moved hW.alike hKc, nzA_warm hW hz⟩⟩ rfl rfl hl.1 rfl (lv_room (Nat.le_of_ble_eq_true rfl)) dX6_step_35 ⟨hRc, hRs⟩) hS (fun q _ h => h.elim) (fun q h => h.elim) (fun r_147 u t H1 locs ht hvm hw hB hz1 hk1 hS => ?_)
        obtain ⟨hw, hE⟩ := hw
        have hP := gz_keep hP hk1
        have hF := gf_call (a := r_147) hE hF
        generalize H1 = H at hP hS ⊢
        have hPc := hP.sub (ws' := []) [] rfl
        have hKc := hK.sub (tys' := []) [] rfl
        refine va_calli (va_runS (As := [.int r_147]) (rest := []) ⟨hx, hb, hml, hown, hts⟩ (sX6_isBlank l dC dI r_147) (cwS 1 hts (gz_gS mGA_172 mGA_173 mGA_9 mGA_174 goodGA) rfl rfl rfl (by decide +kernel) ⟨Nat.le_trans (Nat.le_of_ble_eq_true rfl) hRf, Nat.le_trans (Nat.le_of_ble_eq_true rfl) hRl⟩) ⟨fun a U g mk q => by obtain ⟨q0, qP, qK, qZ⟩ := q; exact ⟨q0, qP, va_K.moved (u := U) (U := U.calling g mk a) (Vm.Alike.refl U.vm) qK, nzA_same (u := U) (U := U.calling g mk a) rfl qZ⟩, fun U hU hW => ⟨rfl, by rw [hU]; exact hPc, va_K.moved hW.alike hKc, nzA_warm hW hz⟩⟩ rfl rfl hl.1 rfl (lv_room (Nat.le_of_ble_eq_true rfl)) dX6_step_38 ⟨hRc, hRs⟩) hS (fun q _ h => h.elim) (fun q h => h.elim) (fun r_148 u t H1 locs ht hvm hw hB hz1 hk1 hS => ?_)
        obtain ⟨hw, hE⟩ := hw
        have hP := gz_keep hP hk1
        have hF := gf_call (a := r_148) hE hF
        generalize H1 = H at hP hS ⊢
        have gr_148 : gi r_148 0 1 := hw
        refine lv_if_eq (tgt := 57) hx hb dX6_step_41 (by decide) (fun c_149 => ?_) (fun c_149 => ?_)
        · have hF := gf_pos c_149 hF
          have g_150 : gi r_148 0 0 := gi_eq c_149 (gi_c 0 0 (by decide))
          refine lv_aload_n hx hb dX6_step_57 rfl (lv_at hl 0 rfl) ?_
          refine lv_aload_n hx hb dX6_step_58 rfl (lv_at hl 0 rfl) ?_
          refine va_get (D := (dC, dI)) (ci := 6) (v := .int w0_5) (C := RX6) (T := TX6) (N := 7) hx hb hts (fun w h => List.mem_cons_of_mem _ (jnGA_X6 w h)) hown hK hP 0 rfl rfl 5 (by decide) (hts _ (List.mem_cons_of_mem _ mGA_58)) (fun _ h9 => h9) rfl dX6_step_59 ?_
          refine va_put (D := (dC, dI)) (ci := 6) (v := .int w0_5) (ty := .int) (C := RX6) (T := TX6) (N := 7) hx hb hts (fun w h => List.mem_cons_of_mem _ (jnGA_X6 w h)) tyX6 tyX6_ok nmX6 hown hK hP hD hS 0 rfl rfl 6 (by decide) (hts _ (List.mem_cons_of_mem _ mGA_59)) (fun _ h9 => h9) rfl (by decide +kernel) rfl rfl (Nat.le_of_ble_eq_true rfl) dX6_step_62 (fun H locs hP hD hS => ?_)
          have hP : va_P (dC, dI) vwCl [(h0, .inr (6, [.ref tp, .ref dr, .int q_faultKind, .int q_faultPlace, .int q_token, .int w0_5, .int w0_5])), (tp, .inr (10, [.ref bt, .int b_length])), (bt, .inl (kbt, 1600, .inl fbt))] H := hP
          have hD : va_D A [(h0, .inr (6, [.ref tp, .ref dr, .int q_faultKind, .int q_faultPlace, .int q_token, .int w0_5, .int w0_5])), (tp, .inr (10, [.ref bt, .int b_length])), (bt, .inl (kbt, 1600, .inl fbt))] := hD
          refine lv_aload_n hx hb dX6_step_65 rfl (lv_at hl 0 rfl) ?_
          refine lv_aload_n hx hb dX6_step_66 rfl (lv_at hl 0 rfl) ?_
          refine va_get (D := (dC, dI)) (ci := 6) (v := .int w0_5) (C := RX6) (T := TX6) (N := 7) hx hb hts (fun w h => List.mem_cons_of_mem _ (jnGA_X6 w h)) hown hK hP 0 rfl rfl 5 (by decide) (hts _ (List.mem_cons_of_mem _ mGA_58)) (fun _ h9 => h9) rfl dX6_step_67 ?_
          have hPc := hP.sub (ws' := [(h0, .inr (6, [.ref tp, .ref dr, .int q_faultKind, .int q_faultPlace, .int q_token, .int w0_5, .int w0_5])), (tp, .inr (10, [.ref bt, .int b_length])), (bt, .inl (kbt, 1600, .inl fbt))]) [0, 1, 2] rfl
          have hKc := hK.sub (tys' := [(kbt, .byte)]) [0] rfl
          refine va_calli (va_runV (As := [.int w0_5]) (rest := []) ⟨hx, hb, hml, hown, hts⟩ (sX6_byteAt l dC dI h0 tp bt dr q_faultKind q_faultPlace q_token w0_5 w0_5 b_length kbt fbt w0_5 gq_faultKind (gi_w g_145 (by decide)) (gi_w g_145 (by decide)) (gi_w g_146 (by decide))) (cwV 1 hts (gz_gV mGA_167 mGA_168 mGA_169 mGA_9 mGA_170 goodGA) rfl rfl rfl (by decide +kernel) ⟨Nat.le_trans (Nat.le_of_ble_eq_true rfl) hRf, Nat.le_trans (Nat.le_of_ble_eq_true rfl) hRl⟩) ⟨fun a U g mk q => by obtain ⟨q0, qP, qK, qZ⟩ := q; exact ⟨q0, qP, va_K.moved (u := U) (U := U.calling g mk a) (Vm.Alike.refl U.vm) qK, nzA_same (u := U) (U := U.calling g mk a) rfl qZ⟩, va_recv hKc hPc (ci := 6) (q0 := 0) rfl rfl, fun U hU hW => ⟨rfl, by rw [hU]; exact hPc, va_K.moved hW.alike hKc, nzA_warm hW hz⟩⟩ rfl rfl hl.1 rfl (lv_room (Nat.le_of_ble_eq_true rfl)) dX6_step_70 ⟨hRc, hRs⟩) hS (fun q _ h => h.elim) (fun q h => h.elim) (fun r_151 u t H1 locs ht hvm hw hB hz1 hk1 hS => ?_)
          obtain ⟨hw, hE⟩ := hw
          have hP := gz_keep hP hk1
          have hF := gf_call (a := r_151) hE hF
          generalize H1 = H at hP hS ⊢
          refine lv_istore_n (lv' := [(1, .int r_151), (0, .ref h0)]) hx hb dX6_step_73 rfl hl (by decide) rfl (fun ls hl => ?_)
          refine lv_aload_n hx hb dX6_step_74 rfl (lv_at hl 1 rfl) ?_
          refine va_get (D := (dC, dI)) (ci := 6) (v := .int w0_5) (C := RX6) (T := TX6) (N := 7) hx hb hts (fun w h => List.mem_cons_of_mem _ (jnGA_X6 w h)) hown hK hP 0 rfl rfl 5 (by decide) (hts _ (List.mem_cons_of_mem _ mGA_58)) (fun _ h9 => h9) rfl dX6_step_75 ?_
          refine lv_aload_n hx hb dX6_step_78 rfl (lv_at hl 1 rfl) ?_
          refine va_get (D := (dC, dI)) (ci := 6) (v := .ref tp) (C := RX6) (T := TX6) (N := 7) hx hb hts (fun w h => List.mem_cons_of_mem _ (jnGA_X6 w h)) hown hK hP 0 rfl rfl 0 (by decide) (hts _ (List.mem_cons_of_mem _ mGA_52)) (fun _ h9 => h9) rfl dX6_step_79 ?_
          refine va_get (D := (dC, dI)) (ci := 10) (v := .int b_length) (C := RX10) (T := TX10) (N := 2) hx hb hts (fun w h => List.mem_cons_of_mem _ (jnGA_X10 w h)) hown hK hP 1 rfl rfl 1 (by decide) (hts _ (List.mem_cons_of_mem _ mGA_166)) (fun _ h9 => h9) rfl dX6_step_82 ?_
          refine lv_icmp_lt (tgt := 96) hx hb dX6_step_85 (by decide) (fun c_152 => ?_) (fun c_152 => ?_)
          · have hF := gf_pos c_152 hF
            refine lv_iload_n hx hb dX6_step_96 rfl (lv_at hl 0 rfl) ?_
            have hPc := hP.sub (ws' := []) [] rfl
            have hKc := hK.sub (tys' := []) [] rfl
            refine va_calli (va_runS (As := [.int r_151]) (rest := []) ⟨hx, hb, hml, hown, hts⟩ (sX6_isLetter l dC dI r_151) (cwS 1 hts (gz_gS mGA_175 mGA_176 mGA_9 mGA_177 goodGA) rfl rfl rfl (by decide +kernel) ⟨Nat.le_trans (Nat.le_of_ble_eq_true rfl) hRf, Nat.le_trans (Nat.le_of_ble_eq_true rfl) hRl⟩) ⟨fun a U g mk q => by obtain ⟨q0, qP, qK, qZ⟩ := q; exact ⟨q0, qP, va_K.moved (u := U) (U := U.calling g mk a) (Vm.Alike.refl U.vm) qK, nzA_same (u := U) (U := U.calling g mk a) rfl qZ⟩, fun U hU hW => ⟨rfl, by rw [hU]; exact hPc, va_K.moved hW.alike hKc, nzA_warm hW hz⟩⟩ rfl rfl hl.1 rfl (lv_room (Nat.le_of_ble_eq_true rfl)) dX6_step_97 ⟨hRc, hRs⟩) hS (fun q _ h => h.elim) (fun q h => h.elim) (fun r_153 u t H1 locs ht hvm hw hB hz1 hk1 hS => ?_)
            obtain ⟨hw, hE⟩ := hw
            have hP := gz_keep hP hk1
            have hF := gf_call (a := r_153) hE hF
            generalize H1 = H at hP hS ⊢
            have gr_153 : gi r_153 0 1 := hw
            refine lv_if_eq (tgt := 149) hx hb dX6_step_100 (by decide) (fun c_154 => ?_) (fun c_154 => ?_)
            · have hF := gf_pos c_154 hF
              have g_155 : gi r_153 0 0 := gi_eq c_154 (gi_c 0 0 (by decide))
              refine lv_iload_n hx hb dX6_step_149 rfl (lv_at hl 0 rfl) ?_
              have hPc := hP.sub (ws' := []) [] rfl
              have hKc := hK.sub (tys' := []) [] rfl
              refine va_calli (va_runS (As := [.int r_151]) (rest := []) ⟨hx, hb, hml, hown, hts⟩ (sX6_isDigit l dC dI r_151) (cwS 1 hts (gz_gS mGA_178 mGA_179 mGA_9 mGA_180 goodGA) rfl rfl rfl (by decide +kernel) ⟨Nat.le_trans (Nat.le_of_ble_eq_true rfl) hRf, Nat.le_trans (Nat.le_of_ble_eq_true rfl) hRl⟩) ⟨fun a U g mk q => by obtain ⟨q0, qP, qK, qZ⟩ := q; exact ⟨q0, qP, va_K.moved (u := U) (U := U.calling g mk a) (Vm.Alike.refl U.vm) qK, nzA_same (u := U) (U := U.calling g mk a) rfl qZ⟩, fun U hU hW => ⟨rfl, by rw [hU]; exact hPc, va_K.moved hW.alike hKc, nzA_warm hW hz⟩⟩ rfl rfl hl.1 rfl (lv_room (Nat.le_of_ble_eq_true rfl)) dX6_step_150 ⟨hRc, hRs⟩) hS (fun q _ h => h.elim) (fun q h => h.elim) (fun r_156 u t H1 locs ht hvm hw hB hz1 hk1 hS => ?_)
              obtain ⟨hw, hE⟩ := hw
              have hP := gz_keep hP hk1
              have hF := gf_call (a := r_156) hE hF
              generalize H1 = H at hP hS ⊢
              have gr_156 : gi r_156 0 1 := hw
              refine lv_if_eq (tgt := 202) hx hb dX6_step_153 (by decide) (fun c_157 => ?_) (fun c_157 => ?_)
              · have hF := gf_pos c_157 hF
                have g_158 : gi r_156 0 0 := gi_eq c_157 (gi_c 0 0 (by decide))
                refine lv_aload_n hx hb dX6_step_202 rfl (lv_at hl 1 rfl) ?_
                refine lv_iload_n hx hb dX6_step_203 rfl (lv_at hl 0 rfl) ?_
                refine lv_bipush (v := 59) hx hb dX6_step_204 (by decide) ?_
                refine lv_icmp_ne (tgt := 213) hx hb dX6_step_206 (by decide) (fun c_159 => ?_) (fun c_159 => ?_)
                · have hF := gf_neg c_159 hF
                  refine lv_iconst (v := 1) hx hb dX6_step_213 (by decide) ?_
                  refine va_put (D := (dC, dI)) (ci := 6) (v := .int 1) (ty := .int) (C := RX6) (T := TX6) (N := 7) hx hb hts (fun w h => List.mem_cons_of_mem _ (jnGA_X6 w h)) tyX6 tyX6_ok nmX6 hown hK hP hD hS 0 rfl rfl 4 (by decide) (hts _ (List.mem_cons_of_mem _ mGA_57)) (fun _ h9 => h9) rfl (by decide +kernel) rfl rfl (Nat.le_of_ble_eq_true rfl) dX6_step_214 (fun H locs hP hD hS => ?_)
                  have hP : va_P (dC, dI) vwCl [(h0, .inr (6, [.ref tp, .ref dr, .int q_faultKind, .int q_faultPlace, .int 1, .int w0_5, .int w0_5])), (tp, .inr (10, [.ref bt, .int b_length])), (bt, .inl (kbt, 1600, .inl fbt))] H := hP
                  have hD : va_D A [(h0, .inr (6, [.ref tp, .ref dr, .int q_faultKind, .int q_faultPlace, .int 1, .int w0_5, .int w0_5])), (tp, .inr (10, [.ref bt, .int b_length])), (bt, .inl (kbt, 1600, .inl fbt))] := hD
                  refine lv_aload_n hx hb dX6_step_217 rfl (lv_at hl 1 rfl) ?_
                  refine lv_dup hx hb dX6_step_218 rfl ?_
                  refine va_get (D := (dC, dI)) (ci := 6) (v := .int w0_5) (C := RX6) (T := TX6) (N := 7) hx hb hts (fun w h => List.mem_cons_of_mem _ (jnGA_X6 w h)) hown hK hP 0 rfl rfl 6 (by decide) (hts _ (List.mem_cons_of_mem _ mGA_59)) (fun _ h9 => h9) rfl dX6_step_219 ?_
                  refine lv_iconst (v := 1) hx hb dX6_step_222 (by decide) ?_
                  refine lv_iadd hx hb dX6_step_223 ?_
                  refine lv_topi (fun x_160 ex_160 => ?_)
                  have gx_160 : gi x_160 1 1600 := gi_add ex_160 g_145 (gi_c 1 1 (by decide)) (by decide)
                  refine va_put (D := (dC, dI)) (ci := 6) (v := .int x_160) (ty := .int) (C := RX6) (T := TX6) (N := 7) hx hb hts (fun w h => List.mem_cons_of_mem _ (jnGA_X6 w h)) tyX6 tyX6_ok nmX6 hown hK hP hD hS 0 rfl rfl 6 (by decide) (hts _ (List.mem_cons_of_mem _ mGA_59)) (fun _ h9 => h9) rfl (by decide +kernel) rfl rfl (Nat.le_of_ble_eq_true rfl) dX6_step_224 (fun H locs hP hD hS => ?_)
                  have hP : va_P (dC, dI) vwCl [(h0, .inr (6, [.ref tp, .ref dr, .int q_faultKind, .int q_faultPlace, .int 1, .int w0_5, .int x_160])), (tp, .inr (10, [.ref bt, .int b_length])), (bt, .inl (kbt, 1600, .inl fbt))] H := hP
                  have hD : va_D A [(h0, .inr (6, [.ref tp, .ref dr, .int q_faultKind, .int q_faultPlace, .int 1, .int w0_5, .int x_160])), (tp, .inr (10, [.ref bt, .int b_length])), (bt, .inl (kbt, 1600, .inl fbt))] := hD
                  exact kr227 1 w0_5 x_160 _ _ _ (gi_w g_145 (by decide)) (gi_w gx_160 (by decide)) (by rw [ex_160]; exact hF) hP hD hS (lv_sub hl [] rfl)
                · have hF := gf_pos c_159 hF
                  have g_161 : gi r_151 59 59 := gi_eq c_159 (gi_c 59 59 (by decide))
                  refine lv_iconst (v := 4) hx hb dX6_step_209 (by decide) ?_
                  refine lv_goto (tgt := 214) hx hb dX6_step_210 (by decide) ?_
                  refine va_put (D := (dC, dI)) (ci := 6) (v := .int 4) (ty := .int) (C := RX6) (T := TX6) (N := 7) hx hb hts (fun w h => List.mem_cons_of_mem _ (jnGA_X6 w h)) tyX6 tyX6_ok nmX6 hown hK hP hD hS 0 rfl rfl 4 (by decide) (hts _ (List.mem_cons_of_mem _ mGA_57)) (fun _ h9 => h9) rfl (by decide +kernel) rfl rfl (Nat.le_of_ble_eq_true rfl) dX6_step_214 (fun H locs hP hD hS => ?_)
                  have hP : va_P (dC, dI) vwCl [(h0, .inr (6, [.ref tp, .ref dr, .int q_faultKind, .int q_faultPlace, .int 4, .int w0_5, .int w0_5])), (tp, .inr (10, [.ref bt, .int b_length])), (bt, .inl (kbt, 1600, .inl fbt))] H := hP
                  have hD : va_D A [(h0, .inr (6, [.ref tp, .ref dr, .int q_faultKind, .int q_faultPlace, .int 4, .int w0_5, .int w0_5])), (tp, .inr (10, [.ref bt, .int b_length])), (bt, .inl (kbt, 1600, .inl fbt))] := hD
                  refine lv_aload_n hx hb dX6_step_217 rfl (lv_at hl 1 rfl) ?_
                  refine lv_dup hx hb dX6_step_218 rfl ?_
                  refine va_get (D := (dC, dI)) (ci := 6) (v := .int w0_5) (C := RX6) (T := TX6) (N := 7) hx hb hts (fun w h => List.mem_cons_of_mem _ (jnGA_X6 w h)) hown hK hP 0 rfl rfl 6 (by decide) (hts _ (List.mem_cons_of_mem _ mGA_59)) (fun _ h9 => h9) rfl dX6_step_219 ?_
                  refine lv_iconst (v := 1) hx hb dX6_step_222 (by decide) ?_
                  refine lv_iadd hx hb dX6_step_223 ?_
                  refine lv_topi (fun x_162 ex_162 => ?_)
                  have gx_162 : gi x_162 1 1600 := gi_add ex_162 g_145 (gi_c 1 1 (by decide)) (by decide)
                  refine va_put (D := (dC, dI)) (ci := 6) (v := .int x_162) (ty := .int) (C := RX6) (T := TX6) (N := 7) hx hb hts (fun w h => List.mem_cons_of_mem _ (jnGA_X6 w h)) tyX6 tyX6_ok nmX6 hown hK hP hD hS 0 rfl rfl 6 (by decide) (hts _ (List.mem_cons_of_mem _ mGA_59)) (fun _ h9 => h9) rfl (by decide +kernel) rfl rfl (Nat.le_of_ble_eq_true rfl) dX6_step_224 (fun H locs hP hD hS => ?_)
                  have hP : va_P (dC, dI) vwCl [(h0, .inr (6, [.ref tp, .ref dr, .int q_faultKind, .int q_faultPlace, .int 4, .int w0_5, .int x_162])), (tp, .inr (10, [.ref bt, .int b_length])), (bt, .inl (kbt, 1600, .inl fbt))] H := hP
                  have hD : va_D A [(h0, .inr (6, [.ref tp, .ref dr, .int q_faultKind, .int q_faultPlace, .int 4, .int w0_5, .int x_162])), (tp, .inr (10, [.ref bt, .int b_length])), (bt, .inl (kbt, 1600, .inl fbt))] := hD
                  exact kr227 4 w0_5 x_162 _ _ _ (gi_w g_145 (by decide)) (gi_w gx_162 (by decide)) (by rw [ex_162]; exact hF) hP hD hS (lv_sub hl [] rfl)
              · have hF := gf_neg c_157 hF
                have g_163 : gi r_156 1 1 := gi_ne_lo c_157 gr_156 (gi_c 0 0 (by decide)) (by decide)
                refine lv_aload_n hx hb dX6_step_156 rfl (lv_at hl 1 rfl) ?_
                refine lv_iconst (v := 3) hx hb dX6_step_157 (by decide) ?_
                refine va_put (D := (dC, dI)) (ci := 6) (v := .int 3) (ty := .int) (C := RX6) (T := TX6) (N := 7) hx hb hts (fun w h => List.mem_cons_of_mem _ (jnGA_X6 w h)) tyX6 tyX6_ok nmX6 hown hK hP hD hS 0 rfl rfl 4 (by decide) (hts _ (List.mem_cons_of_mem _ mGA_57)) (fun _ h9 => h9) rfl (by decide +kernel) rfl rfl (Nat.le_of_ble_eq_true rfl) dX6_step_158 (fun H locs hP hD hS => ?_)
                have hP : va_P (dC, dI) vwCl [(h0, .inr (6, [.ref tp, .ref dr, .int q_faultKind, .int q_faultPlace, .int 3, .int w0_5, .int w0_5])), (tp, .inr (10, [.ref bt, .int b_length])), (bt, .inl (kbt, 1600, .inl fbt))] H := hP
                have hD : va_D A [(h0, .inr (6, [.ref tp, .ref dr, .int q_faultKind, .int q_faultPlace, .int 3, .int w0_5, .int w0_5])), (tp, .inr (10, [.ref bt, .int b_length])), (bt, .inl (kbt, 1600, .inl fbt))] := hD
                exact ih.2.2 r_151 3 w0_5 w0_5 _ _ _ (gi_w g_145 (by decide)) (gi_w g_145 (by decide)) hF (by have aw0_5 := gw0_5.1; have bw0_5 := gw0_5.2; have qgw0_5 := g_145.1; have rgw0_5 := g_145.2; omega) hP hD hS (lv_sub hl [1, 0] rfl)
            · have hF := gf_neg c_154 hF
              have g_164 : gi r_153 1 1 := gi_ne_lo c_154 gr_153 (gi_c 0 0 (by decide)) (by decide)
              refine lv_aload_n hx hb dX6_step_103 rfl (lv_at hl 1 rfl) ?_
              refine lv_iconst (v := 2) hx hb dX6_step_104 (by decide) ?_
              refine va_put (D := (dC, dI)) (ci := 6) (v := .int 2) (ty := .int) (C := RX6) (T := TX6) (N := 7) hx hb hts (fun w h => List.mem_cons_of_mem _ (jnGA_X6 w h)) tyX6 tyX6_ok nmX6 hown hK hP hD hS 0 rfl rfl 4 (by decide) (hts _ (List.mem_cons_of_mem _ mGA_57)) (fun _ h9 => h9) rfl (by decide +kernel) rfl rfl (Nat.le_of_ble_eq_true rfl) dX6_step_105 (fun H locs hP hD hS => ?_)
              have hP : va_P (dC, dI) vwCl [(h0, .inr (6, [.ref tp, .ref dr, .int q_faultKind, .int q_faultPlace, .int 2, .int w0_5, .int w0_5])), (tp, .inr (10, [.ref bt, .int b_length])), (bt, .inl (kbt, 1600, .inl fbt))] H := hP
              have hD : va_D A [(h0, .inr (6, [.ref tp, .ref dr, .int q_faultKind, .int q_faultPlace, .int 2, .int w0_5, .int w0_5])), (tp, .inr (10, [.ref bt, .int b_length])), (bt, .inl (kbt, 1600, .inl fbt))] := hD
              exact ih.2.1 r_151 2 w0_5 w0_5 _ _ _ (gi_w g_145 (by decide)) (gi_w g_145 (by decide)) hF (by have aw0_5 := gw0_5.1; have bw0_5 := gw0_5.2; have qgw0_5 := g_145.1; have rgw0_5 := g_145.2; omega) hP hD hS (lv_sub hl [1, 0] rfl)
          · have hF := gf_neg c_152 hF
            have g_165 : gi b_length 1 1599 := gi_le_l (Int32.not_lt.mp c_152) g_146 g_145
            have g_166 : gi w0_5 1 1599 := gi_le_r (Int32.not_lt.mp c_152) g_146 g_145
            refine lv_aload_n hx hb dX6_step_88 rfl (lv_at hl 1 rfl) ?_
            refine lv_iconst (v := 0) hx hb dX6_step_89 (by decide) ?_
            refine va_put (D := (dC, dI)) (ci := 6) (v := .int 0) (ty := .int) (C := RX6) (T := TX6) (N := 7) hx hb hts (fun w h => List.mem_cons_of_mem _ (jnGA_X6 w h)) tyX6 tyX6_ok nmX6 hown hK hP hD hS 0 rfl rfl 4 (by decide) (hts _ (List.mem_cons_of_mem _ mGA_57)) (fun _ h9 => h9) rfl (by decide +kernel) rfl rfl (Nat.le_of_ble_eq_true rfl) dX6_step_90 (fun H locs hP hD hS => ?_)
            have hP : va_P (dC, dI) vwCl [(h0, .inr (6, [.ref tp, .ref dr, .int q_faultKind, .int q_faultPlace, .int 0, .int w0_5, .int w0_5])), (tp, .inr (10, [.ref bt, .int b_length])), (bt, .inl (kbt, 1600, .inl fbt))] H := hP
            have hD : va_D A [(h0, .inr (6, [.ref tp, .ref dr, .int q_faultKind, .int q_faultPlace, .int 0, .int w0_5, .int w0_5])), (tp, .inr (10, [.ref bt, .int b_length])), (bt, .inl (kbt, 1600, .inl fbt))] := hD
            refine lv_goto (tgt := 227) hx hb dX6_step_93 (by decide) ?_
            exact kr227 0 w0_5 w0_5 _ _ _ (gi_w g_166 (by decide)) (gi_w g_166 (by decide)) hF hP hD hS (lv_sub hl [] rfl)
        · have hF := gf_neg c_149 hF
          have g_167 : gi r_148 1 1 := gi_ne_lo c_149 gr_148 (gi_c 0 0 (by decide)) (by decide)
          refine lv_aload_n hx hb dX6_step_44 rfl (lv_at hl 0 rfl) ?_
          refine lv_dup hx hb dX6_step_45 rfl ?_
          refine va_get (D := (dC, dI)) (ci := 6) (v := .int w0_5) (C := RX6) (T := TX6) (N := 7) hx hb hts (fun w h => List.mem_cons_of_mem _ (jnGA_X6 w h)) hown hK hP 0 rfl rfl 5 (by decide) (hts _ (List.mem_cons_of_mem _ mGA_58)) (fun _ h9 => h9) rfl dX6_step_46 ?_
          refine lv_iconst (v := 1) hx hb dX6_step_49 (by decide) ?_
          refine lv_iadd hx hb dX6_step_50 ?_
          refine lv_topi (fun x_168 ex_168 => ?_)
          have gx_168 : gi x_168 1 1600 := gi_add ex_168 g_145 (gi_c 1 1 (by decide)) (by decide)
          refine va_put (D := (dC, dI)) (ci := 6) (v := .int x_168) (ty := .int) (C := RX6) (T := TX6) (N := 7) hx hb hts (fun w h => List.mem_cons_of_mem _ (jnGA_X6 w h)) tyX6 tyX6_ok nmX6 hown hK hP hD hS 0 rfl rfl 5 (by decide) (hts _ (List.mem_cons_of_mem _ mGA_58)) (fun _ h9 => h9) rfl (by decide +kernel) rfl rfl (Nat.le_of_ble_eq_true rfl) dX6_step_51 (fun H locs hP hD hS => ?_)
          have hP : va_P (dC, dI) vwCl [(h0, .inr (6, [.ref tp, .ref dr, .int q_faultKind, .int q_faultPlace, .int q_token, .int x_168, .int q_stop])), (tp, .inr (10, [.ref bt, .int b_length])), (bt, .inl (kbt, 1600, .inl fbt))] H := hP
          have hD : va_D A [(h0, .inr (6, [.ref tp, .ref dr, .int q_faultKind, .int q_faultPlace, .int q_token, .int x_168, .int q_stop])), (tp, .inr (10, [.ref bt, .int b_length])), (bt, .inl (kbt, 1600, .inl fbt))] := hD
          refine lv_goto (tgt := 16) hx hb dX6_step_54 (by decide) ?_
          exact ih.1 x_168 _ _ _ (gi_w gx_168 (by decide)) (by rw [ex_168]; exact hF) (by have aw0_5 := gw0_5.1; have bw0_5 := gw0_5.2; have qgx_168 := gx_168.1; have rgx_168 := gx_168.2; have igx_168 : x_168.toInt = w0_5.toInt + 1 := (by have hc1 : (1 : Int32).toInt = 1 := (by decide); have h9 := gi_addI ex_168 (by have h1 := g_145.1; have h2 := (gi_c 1 1 (by decide)).1; have h3 := g_145.2; have h4 := (gi_c 1 1 (by decide)).2; omega) (by have h1 := g_145.1; have h2 := (gi_c 1 1 (by decide)).1; have h3 := g_145.2; have h4 := (gi_c 1 1 (by decide)).2; omega); rw [hc1] at h9; exact h9); have qgw0_5 := g_145.1; have rgw0_5 := g_145.2; omega) hP hD hS (lv_sub hl [0] rfl)
    · intro v1 w0_4 w0_5 w0_6 H locs ls gw0_5 gw0_6 hF hmu hP hD hS hl
      have hF : dfX6_step_108 q_faultKind q_token q_start q_stop b_length fbt (lfX6_step q_faultKind q_token q_start q_stop b_length fbt z) w0_4 w0_5 w0_6 = RES := hF
      refine lv_aload_n hx hb dX6_step_108 rfl (lv_at hl 0 rfl) ?_
      refine va_get (D := (dC, dI)) (ci := 6) (v := .int w0_6) (C := RX6) (T := TX6) (N := 7) hx hb hts (fun w h => List.mem_cons_of_mem _ (jnGA_X6 w h)) hown hK hP 0 rfl rfl 6 (by decide) (hts _ (List.mem_cons_of_mem _ mGA_59)) (fun _ h9 => h9) rfl dX6_step_109 ?_
      refine lv_aload_n hx hb dX6_step_112 rfl (lv_at hl 0 rfl) ?_
      refine va_get (D := (dC, dI)) (ci := 6) (v := .ref tp) (C := RX6) (T := TX6) (N := 7) hx hb hts (fun w h => List.mem_cons_of_mem _ (jnGA_X6 w h)) hown hK hP 0 rfl rfl 0 (by decide) (hts _ (List.mem_cons_of_mem _ mGA_52)) (fun _ h9 => h9) rfl dX6_step_113 ?_
      refine va_get (D := (dC, dI)) (ci := 10) (v := .int b_length) (C := RX10) (T := TX10) (N := 2) hx hb hts (fun w h => List.mem_cons_of_mem _ (jnGA_X10 w h)) hown hK hP 1 rfl rfl 1 (by decide) (hts _ (List.mem_cons_of_mem _ mGA_166)) (fun _ h9 => h9) rfl dX6_step_116 ?_
      refine lv_icmp_ge (tgt := 227) hx hb dX6_step_119 (by decide) (fun c_169 => ?_) (fun c_169 => ?_)
      · have hF := gf_pos c_169 hF
        exact kr227 w0_4 w0_5 w0_6 _ _ _ gw0_5 gw0_6 hF hP hD hS (lv_sub hl [] rfl)
      · have hF := gf_neg c_169 hF
        have g_170 : gi w0_6 0 1599 := gi_lt_l (Int32.not_le.mp c_169) gw0_6 gb_length (by decide)
        have g_171 : gi b_length 1 1600 := gi_lt_r (Int32.not_le.mp c_169) gw0_6 gb_length (by decide)
        refine lv_aload_n hx hb dX6_step_122 rfl (lv_at hl 0 rfl) ?_
        refine lv_aload_n hx hb dX6_step_123 rfl (lv_at hl 0 rfl) ?_
        refine va_get (D := (dC, dI)) (ci := 6) (v := .int w0_6) (C := RX6) (T := TX6) (N := 7) hx hb hts (fun w h => List.mem_cons_of_mem _ (jnGA_X6 w h)) hown hK hP 0 rfl rfl 6 (by decide) (hts _ (List.mem_cons_of_mem _ mGA_59)) (fun _ h9 => h9) rfl dX6_step_124 ?_
        have hPc := hP.sub (ws' := [(h0, .inr (6, [.ref tp, .ref dr, .int q_faultKind, .int q_faultPlace, .int w0_4, .int w0_5, .int w0_6])), (tp, .inr (10, [.ref bt, .int b_length])), (bt, .inl (kbt, 1600, .inl fbt))]) [0, 1, 2] rfl
        have hKc := hK.sub (tys' := [(kbt, .byte)]) [0] rfl
        refine va_calli (va_runV (As := [.int w0_6]) (rest := []) ⟨hx, hb, hml, hown, hts⟩ (sX6_byteAt l dC dI h0 tp bt dr q_faultKind q_faultPlace w0_4 w0_5 w0_6 b_length kbt fbt w0_6 gq_faultKind gw0_5 (gi_w g_170 (by decide)) (gi_w g_171 (by decide))) (cwV 1 hts (gz_gV mGA_167 mGA_168 mGA_169 mGA_9 mGA_170 goodGA) rfl rfl rfl (by decide +kernel) ⟨Nat.le_trans (Nat.le_of_ble_eq_true rfl) hRf, Nat.le_trans (Nat.le_of_ble_eq_true rfl) hRl⟩) ⟨fun a U g mk q => by obtain ⟨q0, qP, qK, qZ⟩ := q; exact ⟨q0, qP, va_K.moved (u := U) (U := U.calling g mk a) (Vm.Alike.refl U.vm) qK, nzA_same (u := U) (U := U.calling g mk a) rfl qZ⟩, va_recv hKc hPc (ci := 6) (q0 := 0) rfl rfl, fun U hU hW => ⟨rfl, by rw [hU]; exact hPc, va_K.moved hW.alike hKc, nzA_warm hW hz⟩⟩ rfl rfl hl.1 rfl (lv_room (Nat.le_of_ble_eq_true rfl)) dX6_step_127 ⟨hRc, hRs⟩) hS (fun q _ h => h.elim) (fun q h => h.elim) (fun r_172 u t H1 locs ht hvm hw hB hz1 hk1 hS => ?_)
        obtain ⟨hw, hE⟩ := hw
        have hP := gz_keep hP hk1
        have hF := gf_call (a := r_172) hE hF
        generalize H1 = H at hP hS ⊢
        have hPc := hP.sub (ws' := []) [] rfl
        have hKc := hK.sub (tys' := []) [] rfl
        refine va_calli (va_runS (As := [.int r_172]) (rest := []) ⟨hx, hb, hml, hown, hts⟩ (sX6_isLetter l dC dI r_172) (cwS 1 hts (gz_gS mGA_175 mGA_176 mGA_9 mGA_177 goodGA) rfl rfl rfl (by decide +kernel) ⟨Nat.le_trans (Nat.le_of_ble_eq_true rfl) hRf, Nat.le_trans (Nat.le_of_ble_eq_true rfl) hRl⟩) ⟨fun a U g mk q => by obtain ⟨q0, qP, qK, qZ⟩ := q; exact ⟨q0, qP, va_K.moved (u := U) (U := U.calling g mk a) (Vm.Alike.refl U.vm) qK, nzA_same (u := U) (U := U.calling g mk a) rfl qZ⟩, fun U hU hW => ⟨rfl, by rw [hU]; exact hPc, va_K.moved hW.alike hKc, nzA_warm hW hz⟩⟩ rfl rfl hl.1 rfl (lv_room (Nat.le_of_ble_eq_true rfl)) dX6_step_130 ⟨hRc, hRs⟩) hS (fun q _ h => h.elim) (fun q h => h.elim) (fun r_173 u t H1 locs ht hvm hw hB hz1 hk1 hS => ?_)
        obtain ⟨hw, hE⟩ := hw
        have hP := gz_keep hP hk1
        have hF := gf_call (a := r_173) hE hF
        generalize H1 = H at hP hS ⊢
        have gr_173 : gi r_173 0 1 := hw
        refine lv_if_eq (tgt := 227) hx hb dX6_step_133 (by decide) (fun c_174 => ?_) (fun c_174 => ?_)
        · have hF := gf_pos c_174 hF
          have g_175 : gi r_173 0 0 := gi_eq c_174 (gi_c 0 0 (by decide))
          exact kr227 w0_4 w0_5 w0_6 _ _ _ gw0_5 (gi_w g_170 (by decide)) hF hP hD hS (lv_sub hl [] rfl)
        · have hF := gf_neg c_174 hF
          have g_176 : gi r_173 1 1 := gi_ne_lo c_174 gr_173 (gi_c 0 0 (by decide)) (by decide)
          refine lv_aload_n hx hb dX6_step_136 rfl (lv_at hl 0 rfl) ?_
          refine lv_dup hx hb dX6_step_137 rfl ?_
          refine va_get (D := (dC, dI)) (ci := 6) (v := .int w0_6) (C := RX6) (T := TX6) (N := 7) hx hb hts (fun w h => List.mem_cons_of_mem _ (jnGA_X6 w h)) hown hK hP 0 rfl rfl 6 (by decide) (hts _ (List.mem_cons_of_mem _ mGA_59)) (fun _ h9 => h9) rfl dX6_step_138 ?_
          refine lv_iconst (v := 1) hx hb dX6_step_141 (by decide) ?_
          refine lv_iadd hx hb dX6_step_142 ?_
          refine lv_topi (fun x_177 ex_177 => ?_)
          have gx_177 : gi x_177 1 1600 := gi_add ex_177 g_170 (gi_c 1 1 (by decide)) (by decide)
          refine va_put (D := (dC, dI)) (ci := 6) (v := .int x_177) (ty := .int) (C := RX6) (T := TX6) (N := 7) hx hb hts (fun w h => List.mem_cons_of_mem _ (jnGA_X6 w h)) tyX6 tyX6_ok nmX6 hown hK hP hD hS 0 rfl rfl 6 (by decide) (hts _ (List.mem_cons_of_mem _ mGA_59)) (fun _ h9 => h9) rfl (by decide +kernel) rfl rfl (Nat.le_of_ble_eq_true rfl) dX6_step_143 (fun H locs hP hD hS => ?_)
          have hP : va_P (dC, dI) vwCl [(h0, .inr (6, [.ref tp, .ref dr, .int q_faultKind, .int q_faultPlace, .int w0_4, .int w0_5, .int x_177])), (tp, .inr (10, [.ref bt, .int b_length])), (bt, .inl (kbt, 1600, .inl fbt))] H := hP
          have hD : va_D A [(h0, .inr (6, [.ref tp, .ref dr, .int q_faultKind, .int q_faultPlace, .int w0_4, .int w0_5, .int x_177])), (tp, .inr (10, [.ref bt, .int b_length])), (bt, .inl (kbt, 1600, .inl fbt))] := hD
          refine lv_goto (tgt := 108) hx hb dX6_step_146 (by decide) ?_
          exact ih.2.1 v1 w0_4 w0_5 x_177 _ _ _ gw0_5 (gi_w gx_177 (by decide)) (by rw [ex_177]; exact hF) (by have aw0_6 := gw0_6.1; have bw0_6 := gw0_6.2; have qgx_177 := gx_177.1; have rgx_177 := gx_177.2; have igx_177 : x_177.toInt = w0_6.toInt + 1 := (by have hc1 : (1 : Int32).toInt = 1 := (by decide); have h9 := gi_addI ex_177 (by have h1 := g_170.1; have h2 := (gi_c 1 1 (by decide)).1; have h3 := g_170.2; have h4 := (gi_c 1 1 (by decide)).2; omega) (by have h1 := g_170.1; have h2 := (gi_c 1 1 (by decide)).1; have h3 := g_170.2; have h4 := (gi_c 1 1 (by decide)).2; omega); rw [hc1] at h9; exact h9); have qgw0_6 := g_170.1; have rgw0_6 := g_170.2; omega) hP hD hS (lv_sub hl [0, 1] rfl)
    · intro v1 w0_4 w0_5 w0_6 H locs ls gw0_5 gw0_6 hF hmu hP hD hS hl
      have hF : dfX6_step_161 q_faultKind q_token q_start q_stop b_length fbt (lfX6_step q_faultKind q_token q_start q_stop b_length fbt z) w0_4 w0_5 w0_6 = RES := hF
      refine lv_aload_n hx hb dX6_step_161 rfl (lv_at hl 0 rfl) ?_
      refine va_get (D := (dC, dI)) (ci := 6) (v := .int w0_6) (C := RX6) (T := TX6) (N := 7) hx hb hts (fun w h => List.mem_cons_of_mem _ (jnGA_X6 w h)) hown hK hP 0 rfl rfl 6 (by decide) (hts _ (List.mem_cons_of_mem _ mGA_59)) (fun _ h9 => h9) rfl dX6_step_162 ?_
      refine lv_aload_n hx hb dX6_step_165 rfl (lv_at hl 0 rfl) ?_
      refine va_get (D := (dC, dI)) (ci := 6) (v := .ref tp) (C := RX6) (T := TX6) (N := 7) hx hb hts (fun w h => List.mem_cons_of_mem _ (jnGA_X6 w h)) hown hK hP 0 rfl rfl 0 (by decide) (hts _ (List.mem_cons_of_mem _ mGA_52)) (fun _ h9 => h9) rfl dX6_step_166 ?_
      refine va_get (D := (dC, dI)) (ci := 10) (v := .int b_length) (C := RX10) (T := TX10) (N := 2) hx hb hts (fun w h => List.mem_cons_of_mem _ (jnGA_X10 w h)) hown hK hP 1 rfl rfl 1 (by decide) (hts _ (List.mem_cons_of_mem _ mGA_166)) (fun _ h9 => h9) rfl dX6_step_169 ?_
      refine lv_icmp_ge (tgt := 227) hx hb dX6_step_172 (by decide) (fun c_178 => ?_) (fun c_178 => ?_)
      · have hF := gf_pos c_178 hF
        exact kr227 w0_4 w0_5 w0_6 _ _ _ gw0_5 gw0_6 hF hP hD hS (lv_sub hl [] rfl)
      · have hF := gf_neg c_178 hF
        have g_179 : gi w0_6 0 1599 := gi_lt_l (Int32.not_le.mp c_178) gw0_6 gb_length (by decide)
        have g_180 : gi b_length 1 1600 := gi_lt_r (Int32.not_le.mp c_178) gw0_6 gb_length (by decide)
        refine lv_aload_n hx hb dX6_step_175 rfl (lv_at hl 0 rfl) ?_
        refine lv_aload_n hx hb dX6_step_176 rfl (lv_at hl 0 rfl) ?_
        refine va_get (D := (dC, dI)) (ci := 6) (v := .int w0_6) (C := RX6) (T := TX6) (N := 7) hx hb hts (fun w h => List.mem_cons_of_mem _ (jnGA_X6 w h)) hown hK hP 0 rfl rfl 6 (by decide) (hts _ (List.mem_cons_of_mem _ mGA_59)) (fun _ h9 => h9) rfl dX6_step_177 ?_
        have hPc := hP.sub (ws' := [(h0, .inr (6, [.ref tp, .ref dr, .int q_faultKind, .int q_faultPlace, .int w0_4, .int w0_5, .int w0_6])), (tp, .inr (10, [.ref bt, .int b_length])), (bt, .inl (kbt, 1600, .inl fbt))]) [0, 1, 2] rfl
        have hKc := hK.sub (tys' := [(kbt, .byte)]) [0] rfl
        refine va_calli (va_runV (As := [.int w0_6]) (rest := []) ⟨hx, hb, hml, hown, hts⟩ (sX6_byteAt l dC dI h0 tp bt dr q_faultKind q_faultPlace w0_4 w0_5 w0_6 b_length kbt fbt w0_6 gq_faultKind gw0_5 (gi_w g_179 (by decide)) (gi_w g_180 (by decide))) (cwV 1 hts (gz_gV mGA_167 mGA_168 mGA_169 mGA_9 mGA_170 goodGA) rfl rfl rfl (by decide +kernel) ⟨Nat.le_trans (Nat.le_of_ble_eq_true rfl) hRf, Nat.le_trans (Nat.le_of_ble_eq_true rfl) hRl⟩) ⟨fun a U g mk q => by obtain ⟨q0, qP, qK, qZ⟩ := q; exact ⟨q0, qP, va_K.moved (u := U) (U := U.calling g mk a) (Vm.Alike.refl U.vm) qK, nzA_same (u := U) (U := U.calling g mk a) rfl qZ⟩, va_recv hKc hPc (ci := 6) (q0 := 0) rfl rfl, fun U hU hW => ⟨rfl, by rw [hU]; exact hPc, va_K.moved hW.alike hKc, nzA_warm hW hz⟩⟩ rfl rfl hl.1 rfl (lv_room (Nat.le_of_ble_eq_true rfl)) dX6_step_180 ⟨hRc, hRs⟩) hS (fun q _ h => h.elim) (fun q h => h.elim) (fun r_181 u t H1 locs ht hvm hw hB hz1 hk1 hS => ?_)
        obtain ⟨hw, hE⟩ := hw
        have hP := gz_keep hP hk1
        have hF := gf_call (a := r_181) hE hF
        generalize H1 = H at hP hS ⊢
        have hPc := hP.sub (ws' := []) [] rfl
        have hKc := hK.sub (tys' := []) [] rfl
        refine va_calli (va_runS (As := [.int r_181]) (rest := []) ⟨hx, hb, hml, hown, hts⟩ (sX6_isDigit l dC dI r_181) (cwS 1 hts (gz_gS mGA_178 mGA_179 mGA_9 mGA_180 goodGA) rfl rfl rfl (by decide +kernel) ⟨Nat.le_trans (Nat.le_of_ble_eq_true rfl) hRf, Nat.le_trans (Nat.le_of_ble_eq_true rfl) hRl⟩) ⟨fun a U g mk q => by obtain ⟨q0, qP, qK, qZ⟩ := q; exact ⟨q0, qP, va_K.moved (u := U) (U := U.calling g mk a) (Vm.Alike.refl U.vm) qK, nzA_same (u := U) (U := U.calling g mk a) rfl qZ⟩, fun U hU hW => ⟨rfl, by rw [hU]; exact hPc, va_K.moved hW.alike hKc, nzA_warm hW hz⟩⟩ rfl rfl hl.1 rfl (lv_room (Nat.le_of_ble_eq_true rfl)) dX6_step_183 ⟨hRc, hRs⟩) hS (fun q _ h => h.elim) (fun q h => h.elim) (fun r_182 u t H1 locs ht hvm hw hB hz1 hk1 hS => ?_)
        obtain ⟨hw, hE⟩ := hw
        have hP := gz_keep hP hk1
        have hF := gf_call (a := r_182) hE hF
        generalize H1 = H at hP hS ⊢
        have gr_182 : gi r_182 0 1 := hw
        refine lv_if_eq (tgt := 227) hx hb dX6_step_186 (by decide) (fun c_183 => ?_) (fun c_183 => ?_)
        · have hF := gf_pos c_183 hF
          have g_184 : gi r_182 0 0 := gi_eq c_183 (gi_c 0 0 (by decide))
          exact kr227 w0_4 w0_5 w0_6 _ _ _ gw0_5 (gi_w g_179 (by decide)) hF hP hD hS (lv_sub hl [] rfl)
        · have hF := gf_neg c_183 hF
          have g_185 : gi r_182 1 1 := gi_ne_lo c_183 gr_182 (gi_c 0 0 (by decide)) (by decide)
          refine lv_aload_n hx hb dX6_step_189 rfl (lv_at hl 0 rfl) ?_
          refine lv_dup hx hb dX6_step_190 rfl ?_
          refine va_get (D := (dC, dI)) (ci := 6) (v := .int w0_6) (C := RX6) (T := TX6) (N := 7) hx hb hts (fun w h => List.mem_cons_of_mem _ (jnGA_X6 w h)) hown hK hP 0 rfl rfl 6 (by decide) (hts _ (List.mem_cons_of_mem _ mGA_59)) (fun _ h9 => h9) rfl dX6_step_191 ?_
          refine lv_iconst (v := 1) hx hb dX6_step_194 (by decide) ?_
          refine lv_iadd hx hb dX6_step_195 ?_
          refine lv_topi (fun x_186 ex_186 => ?_)
          have gx_186 : gi x_186 1 1600 := gi_add ex_186 g_179 (gi_c 1 1 (by decide)) (by decide)
          refine va_put (D := (dC, dI)) (ci := 6) (v := .int x_186) (ty := .int) (C := RX6) (T := TX6) (N := 7) hx hb hts (fun w h => List.mem_cons_of_mem _ (jnGA_X6 w h)) tyX6 tyX6_ok nmX6 hown hK hP hD hS 0 rfl rfl 6 (by decide) (hts _ (List.mem_cons_of_mem _ mGA_59)) (fun _ h9 => h9) rfl (by decide +kernel) rfl rfl (Nat.le_of_ble_eq_true rfl) dX6_step_196 (fun H locs hP hD hS => ?_)
          have hP : va_P (dC, dI) vwCl [(h0, .inr (6, [.ref tp, .ref dr, .int q_faultKind, .int q_faultPlace, .int w0_4, .int w0_5, .int x_186])), (tp, .inr (10, [.ref bt, .int b_length])), (bt, .inl (kbt, 1600, .inl fbt))] H := hP
          have hD : va_D A [(h0, .inr (6, [.ref tp, .ref dr, .int q_faultKind, .int q_faultPlace, .int w0_4, .int w0_5, .int x_186])), (tp, .inr (10, [.ref bt, .int b_length])), (bt, .inl (kbt, 1600, .inl fbt))] := hD
          refine lv_goto (tgt := 161) hx hb dX6_step_199 (by decide) ?_
          exact ih.2.2 v1 w0_4 w0_5 x_186 _ _ _ gw0_5 (gi_w gx_186 (by decide)) (by rw [ex_186]; exact hF) (by have aw0_6 := gw0_6.1; have bw0_6 := gw0_6.2; have qgx_186 := gx_186.1; have rgx_186 := gx_186.2; have igx_186 : x_186.toInt = w0_6.toInt + 1 := (by have hc1 : (1 : Int32).toInt = 1 := (by decide); have h9 := gi_addI ex_186 (by have h1 := g_179.1; have h2 := (gi_c 1 1 (by decide)).1; have h3 := g_179.2; have h4 := (gi_c 1 1 (by decide)).2; omega) (by have h1 := g_179.1; have h2 := (gi_c 1 1 (by decide)).1; have h3 := g_179.2; have h4 := (gi_c 1 1 (by decide)).2; omega); rw [hc1] at h9; exact h9); have qgw0_6 := g_179.1; have rgw0_6 := g_179.2; omega) hP hD hS (lv_sub hl [0, 1] rfl)
set_option maxHeartbeats 4000000 in
set_option maxRecDepth 100000 in
theorem sX6_step (l : Launch) (dC : Nat → ClassId) (dI : Nat → Nat → Nat) (sz : Nat) (h0 : Nat) (tp : Nat) (bt : Nat) (dr : Nat) (q_faultKind : Int32) (q_faultPlace : Int32) (q_token : Int32) (q_start : Int32) (q_stop : Int32) (b_length : Int32) (kbt : ClassId) (fbt : Nat → Int32) (gq_faultKind : gi q_faultKind 0 3) (gq_start : gi q_start 0 1600) (gq_stop : gi q_stop 0 1600) (gb_length : gi b_length 0 1600) : Met l yX6_step (.code yX6_step cX6_step 2 none :: wsGA) ({ frames := 1, cells := 0, slots := 0, locals := 21 }) (va_Pc [.ref h0] (fun U => U.heap.size = sz ∧ va_P (dC, dI) vwCl [(h0, .inr (6, [.ref tp, .ref dr, .int q_faultKind, .int q_faultPlace, .int q_token, .int q_start, .int q_stop])), (tp, .inr (10, [.ref bt, .int b_length])), (bt, .inl (kbt, 1600, .inl fbt))] U.heap ∧ va_K (dC, dI) vwCl [(kbt, .byte)] U ∧ va_D (fun _ => True) [(h0, .inr (6, [.ref tp, .ref dr, .int q_faultKind, .int q_faultPlace, .int q_token, .int q_start, .int q_stop])), (tp, .inr (10, [.ref bt, .int b_length])), (bt, .inl (kbt, 1600, .inl fbt))] ∧ nzA U)) (va_Qv (fun (u : Unit) => True) (fun _ t => ∃ (w0_4 : Int32) (w0_5 : Int32) (w0_6 : Int32), gi w0_5 0 1600 ∧ gi w0_6 0 1600 ∧ (w0_4, w0_5, w0_6) = fX6_step q_faultKind q_token q_start q_stop b_length fbt ∧ va_P (dC, dI) vwCl [(h0, .inr (6, [.ref tp, .ref dr, .int q_faultKind, .int q_faultPlace, .int w0_4, .int w0_5, .int w0_6])), (tp, .inr (10, [.ref bt, .int b_length])), (bt, .inl (kbt, 1600, .inl fbt))] t.heap ∧ va_D (va_A [(h0, .inr (6, [.ref tp, .ref dr, .int q_faultKind, .int q_faultPlace, .int q_token, .int q_start, .int q_stop])), (tp, .inr (10, [.ref bt, .int b_length])), (bt, .inl (kbt, 1600, .inl fbt))] sz) [(h0, .inr (6, [.ref tp, .ref dr, .int q_faultKind, .int q_faultPlace, .int w0_4, .int w0_5, .int w0_6])), (tp, .inr (10, [.ref bt, .int b_length])), (bt, .inl (kbt, 1600, .inl fbt))]) (va_A [(h0, .inr (6, [.ref tp, .ref dr, .int q_faultKind, .int q_faultPlace, .int q_token, .int q_start, .int q_stop])), (tp, .inr (10, [.ref bt, .int b_length])), (bt, .inl (kbt, 1600, .inl fbt))] sz)) 0 0 (va_A [(h0, .inr (6, [.ref tp, .ref dr, .int q_faultKind, .int q_faultPlace, .int q_token, .int q_start, .int q_stop])), (tp, .inr (10, [.ref bt, .int b_length])), (bt, .inl (kbt, 1600, .inl fbt))] sz) := by
  refine Met.ofW (cc := cX6_step) (maxL := 2) (ret := none) (by decide) rfl ?_
  intro p e s m args below meth c s₁ B hml hv
  obtain ⟨rfl, hsz, hP, hK, hD0, hz⟩ := hv
  have hx := B.exec
  have hb := B.bytes
  have hr := B.returns
  have hts := atoms_spec (ws := (.code yX6_step cX6_step 2 none :: wsGA)) B.pre
  have hown : s.vm.findClass RX6 = some m.cls := findClass_of_methodNamed B.named
  have hlocks := B.notSynchronized
  subst hsz
  have hD := hD0.self (sz := s.heap.size)
  generalize hAe : va_A [(h0, .inr (6, [.ref tp, .ref dr, .int q_faultKind, .int q_faultPlace, .int q_token, .int q_start, .int q_stop])), (tp, .inr (10, [.ref bt, .int b_length])), (bt, .inl (kbt, 1600, .inl fbt))] s.heap.size = A at hD ⊢
  have hA : ∀ q : Nat, s.heap.size ≤ q → A q := fun q h => by rw [← hAe]; exact Or.inr h
  have hS : va_S A s.heap s.heap [] := va_S.rf
  have hl := lv_entry ([.ref h0]) (n := 2) (Nat.le_of_ble_eq_true rfl)
  rw [lg_entry_eq]
  generalize (lg_sl ([.ref h0]) ++ List.replicate (2 - (lg_sl ([.ref h0])).length) Slot.unset).toArray = ls at hl ⊢
  have hl : lv_has ls 2 [(0, .ref h0)] := hl
  obtain ⟨RES, hF⟩ : ∃ R9, fX6_step q_faultKind q_token q_start q_stop b_length fbt = R9 := ⟨_, rfl⟩
  have hR9 := hF
  refine lv_aload_n hx hb dX6_step_0 rfl (lv_at hl 0 rfl) ?_
  refine va_get (D := (dC, dI)) (ci := 6) (v := .int q_faultKind) (C := RX6) (T := TX6) (N := 7) hx hb hts (fun w h => List.mem_cons_of_mem _ (jnGA_X6 w h)) hown hK hP 0 rfl rfl 2 (by decide) (hts _ (List.mem_cons_of_mem _ mGA_55)) (fun _ h9 => h9) rfl dX6_step_1 ?_
  refine lv_if_eq (tgt := 8) hx hb dX6_step_4 (by decide) (fun c_187 => ?_) (fun c_187 => ?_)
  · have hF := gf_pos c_187 hF
    have g_188 : gi q_faultKind 0 0 := gi_eq c_187 (gi_c 0 0 (by decide))
    refine lv_aload_n hx hb dX6_step_8 rfl (lv_at hl 0 rfl) ?_
    refine lv_aload_n hx hb dX6_step_9 rfl (lv_at hl 0 rfl) ?_
    refine va_get (D := (dC, dI)) (ci := 6) (v := .int q_stop) (C := RX6) (T := TX6) (N := 7) hx hb hts (fun w h => List.mem_cons_of_mem _ (jnGA_X6 w h)) hown hK hP 0 rfl rfl 6 (by decide) (hts _ (List.mem_cons_of_mem _ mGA_59)) (fun _ h9 => h9) rfl dX6_step_10 ?_
    refine va_put (D := (dC, dI)) (ci := 6) (v := .int q_stop) (ty := .int) (C := RX6) (T := TX6) (N := 7) hx hb hts (fun w h => List.mem_cons_of_mem _ (jnGA_X6 w h)) tyX6 tyX6_ok nmX6 hown hK hP hD hS 0 rfl rfl 5 (by decide) (hts _ (List.mem_cons_of_mem _ mGA_58)) (fun _ h9 => h9) rfl (by decide +kernel) rfl rfl (Nat.le_of_ble_eq_true rfl) dX6_step_13 (fun H locs hP hD hS => ?_)
    have hP : va_P (dC, dI) vwCl [(h0, .inr (6, [.ref tp, .ref dr, .int q_faultKind, .int q_faultPlace, .int q_token, .int q_stop, .int q_stop])), (tp, .inr (10, [.ref bt, .int b_length])), (bt, .inl (kbt, 1600, .inl fbt))] H := hP
    have hD : va_D A [(h0, .inr (6, [.ref tp, .ref dr, .int q_faultKind, .int q_faultPlace, .int q_token, .int q_stop, .int q_stop])), (tp, .inr (10, [.ref bt, .int b_length])), (bt, .inl (kbt, 1600, .inl fbt))] := hD
    refine (lp_sX6_step h0 tp bt dr q_faultKind q_faultPlace q_token q_start q_stop b_length kbt fbt gq_faultKind gq_start gq_stop gb_length hx hb hml hown hts hK hz hA (Nat.le_of_ble_eq_true rfl) (Nat.le_of_ble_eq_true rfl) (Nat.zero_le _) (Nat.zero_le _) (fun w0_4 w0_5 w0_6 H locs ls gw0_5 gw0_6 hF hP hD hS hl => ?_) (fun w0_4 w0_5 w0_6 H locs ls gw0_5 gw0_6 hF hP hD hS hl => ?_) 1000000000).1 q_stop _ _ _ gq_stop hF (by have qgq_stop := gq_stop.1; have rgq_stop := gq_stop.2; omega) hP hD hS (lv_sub hl [0] rfl)
    · skip
      exact W.vret hx hb hr (fun t ht hW => ⟨⟨(), rfl, trivial, w0_4, w0_5, w0_6, gw0_5, gw0_6, hF.trans hR9.symm, by rw [ht]; exact hP, hD⟩, hS.F ht⟩) hS.2.2 dX6_step_7
    · skip
      exact W.vret hx hb hr (fun t ht hW => ⟨⟨(), rfl, trivial, w0_4, w0_5, w0_6, gw0_5, gw0_6, hF.trans hR9.symm, by rw [ht]; exact hP, hD⟩, hS.F ht⟩) hS.2.2 dX6_step_227
  · have hF := gf_neg c_187 hF
    have g_189 : gi q_faultKind 1 3 := gi_ne_lo c_187 gq_faultKind (gi_c 0 0 (by decide)) (by decide)
    exact W.vret hx hb hr (fun t ht hW => ⟨⟨(), rfl, trivial, q_token, q_start, q_stop, gq_start, gq_stop, hF.trans hR9.symm, by rw [ht]; exact hP, hD⟩, hS.F ht⟩) hS.2.2 dX6_step_7
theorem dX6_nameHere_0 : decode cX6_nameHere 0 = .ok (.iconst 0, 1) := by decide +kernel
theorem dX6_nameHere_1 : decode cX6_nameHere 1 = .ok (.istore_n 1, 1) := by decide +kernel
theorem dX6_nameHere_2 : decode cX6_nameHere 2 = .ok (.iconst 0, 1) := by decide +kernel
theorem dX6_nameHere_3 : decode cX6_nameHere 3 = .ok (.istore_n 2, 1) := by decide +kernel
theorem dX6_nameHere_4 : decode cX6_nameHere 4 = .ok (.iload_n 2, 1) := by decide +kernel
theorem dX6_nameHere_5 : decode cX6_nameHere 5 = .ok (.bipush 6, 2) := by decide +kernel
theorem dX6_nameHere_7 : decode cX6_nameHere 7 = .ok (.if_icmp .ge 60, 3) := by decide +kernel
theorem dX6_nameHere_10 : decode cX6_nameHere 10 = .ok (.aload_n 0, 1) := by decide +kernel
theorem dX6_nameHere_11 : decode cX6_nameHere 11 = .ok (.getfield 35, 3) := by decide +kernel
theorem dX6_nameHere_14 : decode cX6_nameHere 14 = .ok (.iload_n 2, 1) := by decide +kernel
theorem dX6_nameHere_15 : decode cX6_nameHere 15 = .ok (.iadd, 1) := by decide +kernel
theorem dX6_nameHere_16 : decode cX6_nameHere 16 = .ok (.aload_n 0, 1) := by decide +kernel
theorem dX6_nameHere_17 : decode cX6_nameHere 17 = .ok (.getfield 38, 3) := by decide +kernel
theorem dX6_nameHere_20 : decode cX6_nameHere 20 = .ok (.if_icmp .ge 16, 3) := by decide +kernel
theorem dX6_nameHere_23 : decode cX6_nameHere 23 = .ok (.aload_n 0, 1) := by decide +kernel
theorem dX6_nameHere_24 : decode cX6_nameHere 24 = .ok (.aload_n 0, 1) := by decide +kernel
theorem dX6_nameHere_25 : decode cX6_nameHere 25 = .ok (.getfield 35, 3) := by decide +kernel
theorem dX6_nameHere_28 : decode cX6_nameHere 28 = .ok (.iload_n 2, 1) := by decide +kernel
theorem dX6_nameHere_29 : decode cX6_nameHere 29 = .ok (.iadd, 1) := by decide +kernel
theorem dX6_nameHere_30 : decode cX6_nameHere 30 = .ok (.invokevirtual 181, 3) := by decide +kernel
theorem dX6_nameHere_33 : decode cX6_nameHere 33 = .ok (.goto 4, 3) := by decide +kernel
theorem dX6_nameHere_36 : decode cX6_nameHere 36 = .ok (.iconst (-1), 1) := by decide +kernel
theorem dX6_nameHere_37 : decode cX6_nameHere 37 = .ok (.istore_n 3, 1) := by decide +kernel
theorem dX6_nameHere_38 : decode cX6_nameHere 38 = .ok (.iload_n 1, 1) := by decide +kernel
theorem dX6_nameHere_39 : decode cX6_nameHere 39 = .ok (.bipush 27, 2) := by decide +kernel
theorem dX6_nameHere_41 : decode cX6_nameHere 41 = .ok (.imul, 1) := by decide +kernel
theorem dX6_nameHere_42 : decode cX6_nameHere 42 = .ok (.iload_n 3, 1) := by decide +kernel
theorem dX6_nameHere_43 : decode cX6_nameHere 43 = .ok (.invokestatic 184, 3) := by decide +kernel
theorem dX6_nameHere_46 : decode cX6_nameHere 46 = .ok (.ifCond .eq 12, 3) := by decide +kernel
theorem dX6_nameHere_49 : decode cX6_nameHere 49 = .ok (.iload_n 3, 1) := by decide +kernel
theorem dX6_nameHere_50 : decode cX6_nameHere 50 = .ok (.bipush 97, 2) := by decide +kernel
theorem dX6_nameHere_52 : decode cX6_nameHere 52 = .ok (.isub, 1) := by decide +kernel
theorem dX6_nameHere_53 : decode cX6_nameHere 53 = .ok (.iconst 1, 1) := by decide +kernel
theorem dX6_nameHere_54 : decode cX6_nameHere 54 = .ok (.iadd, 1) := by decide +kernel
theorem dX6_nameHere_55 : decode cX6_nameHere 55 = .ok (.goto 4, 3) := by decide +kernel
theorem dX6_nameHere_58 : decode cX6_nameHere 58 = .ok (.iconst 0, 1) := by decide +kernel
theorem dX6_nameHere_59 : decode cX6_nameHere 59 = .ok (.iadd, 1) := by decide +kernel
theorem dX6_nameHere_60 : decode cX6_nameHere 60 = .ok (.istore_n 1, 1) := by decide +kernel
theorem dX6_nameHere_61 : decode cX6_nameHere 61 = .ok (.iinc 2 1, 3) := by decide +kernel
theorem dX6_nameHere_64 : decode cX6_nameHere 64 = .ok (.goto (-60), 3) := by decide +kernel
theorem dX6_nameHere_67 : decode cX6_nameHere 67 = .ok (.iload_n 1, 1) := by decide +kernel
theorem dX6_nameHere_68 : decode cX6_nameHere 68 = .ok (.ireturn, 1) := by decide +kernel
noncomputable def bfX6_nameHere_59 (q_start : Int32) (q_stop : Int32) (b_length : Int32) (fbt : Nat → Int32) (K : (Int32 → Int32 → Int32)) (v2 : Int32) (s0 : Int32) (s1 : Int32) : Int32 := K (s1 + s0) (v2 + (1 : Int32))
noncomputable def bfX6_nameHere_37 (q_start : Int32) (q_stop : Int32) (b_length : Int32) (fbt : Nat → Int32) (K : (Int32 → Int32 → Int32)) (v1 : Int32) (v2 : Int32) (s0 : Int32) : Int32 := cal (fun o2 => if o2 = (0 : Int32) then (bfX6_nameHere_59 q_start q_stop b_length fbt K v2 (0 : Int32) (v1 * (27 : Int32))) else (bfX6_nameHere_59 q_start q_stop b_length fbt K v2 ((s0 - (97 : Int32)) + (1 : Int32)) (v1 * (27 : Int32)))) (fX6_isLetter s0)
noncomputable def dfX6_nameHere_4 (q_start : Int32) (q_stop : Int32) (b_length : Int32) (fbt : Nat → Int32) (K : (Int32 → Int32 → Int32)) (v1 : Int32) (v2 : Int32) : Int32 := if (6 : Int32) ≤ v2 then v1 else (if q_stop ≤ (q_start + v2) then (bfX6_nameHere_37 q_start q_stop b_length fbt K v1 v2 (-1 : Int32)) else (cal (fun o1 => bfX6_nameHere_37 q_start q_stop b_length fbt K v1 v2 o1) (fX6_byteAt b_length fbt (q_start + v2))))
noncomputable def lfX6_nameHere (q_start : Int32) (q_stop : Int32) (b_length : Int32) (fbt : Nat → Int32) (z : Nat) : (Int32 → Int32 → Int32) := Nat.rec (motive := fun _ => (Int32 → Int32 → Int32)) (fun _ _ => (0)) (fun _ K => dfX6_nameHere_4 q_start q_stop b_length fbt K) z
noncomputable def fX6_nameHere (q_start : Int32) (q_stop : Int32) (b_length : Int32) (fbt : Nat → Int32) : Int32 := (lfX6_nameHere q_start q_stop b_length fbt 1000000000) (0 : Int32) (0 : Int32)
set_option maxHeartbeats 4000000 in
set_option maxRecDepth 100000 in
theorem lp_sX6_nameHere {p : Program} {l : Launch} {e : Env} {R : Room} {s : State} {m : MethodId} {args : Array Value} {below : List Frame} {meth : Method} {c : Code} {Q : State → Prop} {A : Nat → Prop} {cells slots : Nat} {dC : Nat → ClassId} {dI : Nat → Nat → Nat} {RES : Int32} (h0 : Nat) (tp : Nat) (bt : Nat) (dr : Nat) (q_faultKind : Int32) (q_faultPlace : Int32) (q_token : Int32) (q_start : Int32) (q_stop : Int32) (b_length : Int32) (kbt : ClassId) (fbt : Nat → Int32) (gq_faultKind : gi q_faultKind 0 3) (gq_start : gi q_start 0 1600) (gq_stop : gi q_stop 0 1600) (gb_length : gi b_length 0 1600) (hx : p.tables.exec = Jvm.exec) (hb : c.code = cX6_nameHere) (hml : c.maxLocals = 4) (hown : s.vm.findClass RX6 = some m.cls) (hts : ∀ w ∈ ((.code yX6_nameHere cX6_nameHere 4 (some .int) :: wsGA) : List Cond), w.before args s = true) (hK : va_K (dC, dI) vwCl [(kbt, .byte)] s) (hz : nzA s) (hRf : 1 ≤ R.frames) (hRl : 21 ≤ R.locals) (hRc : cells ≤ R.cells) (hRs : slots ≤ R.slots) (kr68 : ∀ (v : Int32) (H : Heap) (locs : List Loc) (ls : Array Slot), v = RES → va_P (dC, dI) vwCl [(h0, .inr (6, [.ref tp, .ref dr, .int q_faultKind, .int q_faultPlace, .int q_token, .int q_start, .int q_stop])), (tp, .inr (10, [.ref bt, .int b_length])), (bt, .inl (kbt, 1600, .inl fbt))] H → va_S A s.heap H locs → lv_has ls 4 [] → W p l e R s m args below meth c H locs cells slots Q (F0 m 68 ls [.int v])) : ∀ z : Nat, (∀ (v1 : Int32) (v2 : Int32) (H : Heap) (locs : List Loc) (ls : Array Slot), gi v2 0 6 → (lfX6_nameHere q_start q_stop b_length fbt z) v1 v2 = RES → 13 + (-2) * v2.toInt < (z : Int) → va_P (dC, dI) vwCl [(h0, .inr (6, [.ref tp, .ref dr, .int q_faultKind, .int q_faultPlace, .int q_token, .int q_start, .int q_stop])), (tp, .inr (10, [.ref bt, .int b_length])), (bt, .inl (kbt, 1600, .inl fbt))] H → va_S A s.heap H locs → lv_has ls 4 [(0, .ref h0), (1, .int v1), (2, .int v2)] → W p l e R s m args below meth c H locs cells slots Q (F0 m 4 ls [])) := by
  intro z
  induction z with
  | zero =>
    intro v1 v2 H locs ls gv2 hF hmu hP hS hl
    exact absurd hmu (by have hv21 := gv2.1; have hv22 := gv2.2; omega)
  | succ z ih =>
      intro v1 v2 H locs ls gv2 hF hmu hP hS hl
      have hF : dfX6_nameHere_4 q_start q_stop b_length fbt (lfX6_nameHere q_start q_stop b_length fbt z) v1 v2 = RES := hF
      refine lv_iload_n hx hb dX6_nameHere_4 rfl (lv_at hl 2 rfl) ?_
      refine lv_bipush (v := 6) hx hb dX6_nameHere_5 (by decide) ?_
      refine lv_icmp_ge (tgt := 67) hx hb dX6_nameHere_7 (by decide) (fun c_192 => ?_) (fun c_192 => ?_)
      · have hF := gf_pos c_192 hF
        have g_193 : gi v2 6 6 := gi_le_r c_192 (gi_c 6 6 (by decide)) gv2
        refine lv_iload_n hx hb dX6_nameHere_67 rfl (lv_at hl 1 rfl) ?_
        exact kr68 v1 _ _ _ hF hP hS (lv_sub hl [] rfl)
      · have hF := gf_neg c_192 hF
        have g_194 : gi v2 0 5 := gi_lt_l (Int32.not_le.mp c_192) gv2 (gi_c 6 6 (by decide)) (by decide)
        refine lv_aload_n hx hb dX6_nameHere_10 rfl (lv_at hl 0 rfl) ?_
        refine va_get (D := (dC, dI)) (ci := 6) (v := .int q_start) (C := RX6) (T := TX6) (N := 7) hx hb hts (fun w h => List.mem_cons_of_mem _ (jnGA_X6 w h)) hown hK hP 0 rfl rfl 5 (by decide) (hts _ (List.mem_cons_of_mem _ mGA_58)) (fun _ h9 => h9) rfl dX6_nameHere_11 ?_
        refine lv_iload_n hx hb dX6_nameHere_14 rfl (lv_at hl 2 rfl) ?_
        refine lv_iadd hx hb dX6_nameHere_15 ?_
        refine lv_topi (fun x_195 ex_195 => ?_)
        have gx_195 : gi x_195 0 1605 := gi_add ex_195 gq_start g_194 (by decide)
        refine lv_aload_n hx hb dX6_nameHere_16 rfl (lv_at hl 0 rfl) ?_
        refine va_get (D := (dC, dI)) (ci := 6) (v := .int q_stop) (C := RX6) (T := TX6) (N := 7) hx hb hts (fun w h => List.mem_cons_of_mem _ (jnGA_X6 w h)) hown hK hP 0 rfl rfl 6 (by decide) (hts _ (List.mem_cons_of_mem _ mGA_59)) (fun _ h9 => h9) rfl dX6_nameHere_17 ?_
        refine lv_icmp_ge (tgt := 36) hx hb dX6_nameHere_20 (by decide) (fun c_196 => ?_) (fun c_196 => ?_)
        · have hF := gf_pos (by rw [ex_195] at c_196; exact c_196) hF
          refine lv_iconst (v := (-1)) hx hb dX6_nameHere_36 (by decide) ?_
          refine lv_istore_n (lv' := [(3, .int (-1)), (0, .ref h0), (1, .int v1), (2, .int v2)]) hx hb dX6_nameHere_37 rfl hl (by decide) rfl (fun ls hl => ?_)
          refine lv_iload_n hx hb dX6_nameHere_38 rfl (lv_at hl 2 rfl) ?_
          refine lv_bipush (v := 27) hx hb dX6_nameHere_39 (by decide) ?_
          refine lv_imul hx hb dX6_nameHere_41 ?_
          refine lv_topi (fun x_197 ex_197 => ?_)
          refine lv_iload_n hx hb dX6_nameHere_42 rfl (lv_at hl 0 rfl) ?_
          have hPc := hP.sub (ws' := []) [] rfl
          have hKc := hK.sub (tys' := []) [] rfl
          refine va_calli (va_runS (As := [.int (-1)]) (rest := [.int x_197]) ⟨hx, hb, hml, hown, hts⟩ (sX6_isLetter l dC dI (-1)) (cwS 1 hts (gz_gS mGA_175 mGA_176 mGA_9 mGA_177 goodGA) rfl rfl rfl (by decide +kernel) ⟨Nat.le_trans (Nat.le_of_ble_eq_true rfl) hRf, Nat.le_trans (Nat.le_of_ble_eq_true rfl) hRl⟩) ⟨fun a U g mk q => by obtain ⟨q0, qP, qK, qZ⟩ := q; exact ⟨q0, qP, va_K.moved (u := U) (U := U.calling g mk a) (Vm.Alike.refl U.vm) qK, nzA_same (u := U) (U := U.calling g mk a) rfl qZ⟩, fun U hU hW => ⟨rfl, by rw [hU]; exact hPc, va_K.moved hW.alike hKc, nzA_warm hW hz⟩⟩ rfl rfl hl.1 rfl (lv_room (Nat.le_of_ble_eq_true rfl)) dX6_nameHere_43 ⟨hRc, hRs⟩) hS (fun q _ h => h.elim) (fun q h => h.elim) (fun r_198 u t H1 locs ht hvm hw hB hz1 hk1 hS => ?_)
          obtain ⟨hw, hE⟩ := hw
          have hP := gz_keep hP hk1
          have hF := gf_call (a := r_198) hE hF
          generalize H1 = H at hP hS ⊢
          have gr_198 : gi r_198 0 1 := hw
          refine lv_if_eq (tgt := 58) hx hb dX6_nameHere_46 (by decide) (fun c_199 => ?_) (fun c_199 => ?_)
          · have hF := gf_pos c_199 hF
            have g_200 : gi r_198 0 0 := gi_eq c_199 (gi_c 0 0 (by decide))
            refine lv_iconst (v := 0) hx hb dX6_nameHere_58 (by decide) ?_
            refine lv_iadd hx hb dX6_nameHere_59 ?_
            refine lv_topi (fun x_201 ex_201 => ?_)
            refine lv_istore_n (lv' := [(1, .int x_201), (3, .int (-1)), (0, .ref h0), (2, .int v2)]) hx hb dX6_nameHere_60 rfl hl (by decide) rfl (fun ls hl => ?_)
            obtain ⟨x_202, ex_202⟩ : ∃ y : Int32, y = v2 + 1 := ⟨_, rfl⟩
            have gx_202 : gi x_202 1 6 := gi_add ex_202 g_194 (gi_c 1 1 (by decide)) (by decide)
            refine lv_iinc (v := x_202) (lv' := [(2, .int x_202), (1, .int x_201), (3, .int (-1)), (0, .ref h0)]) hx hb dX6_nameHere_61 hl (k := 3) rfl (by rw [ex_202]; rfl) (by decide) rfl (fun ls hl => ?_)
            refine lv_goto (tgt := 4) hx hb dX6_nameHere_64 (by decide) ?_
            exact ih x_201 x_202 _ _ _ (gi_w gx_202 (by decide)) (by rw [ex_202, ex_201, ex_197]; exact hF) (by have av2 := gv2.1; have bv2 := gv2.2; have qgx_202 := gx_202.1; have rgx_202 := gx_202.2; have igx_202 : x_202.toInt = v2.toInt + 1 := (by have hc1 : (1 : Int32).toInt = 1 := (by decide); have h9 := gi_addI ex_202 (by have h1 := g_194.1; have h2 := (gi_c 1 1 (by decide)).1; have h3 := g_194.2; have h4 := (gi_c 1 1 (by decide)).2; omega) (by have h1 := g_194.1; have h2 := (gi_c 1 1 (by decide)).1; have h3 := g_194.2; have h4 := (gi_c 1 1 (by decide)).2; omega); rw [hc1] at h9; exact h9); have qgv2 := g_194.1; have rgv2 := g_194.2; omega) hP hS (lv_sub hl [3, 1, 0] rfl)
          · have hF := gf_neg c_199 hF
            have g_203 : gi r_198 1 1 := gi_ne_lo c_199 gr_198 (gi_c 0 0 (by decide)) (by decide)
            refine lv_iload_n hx hb dX6_nameHere_49 rfl (lv_at hl 0 rfl) ?_
            refine lv_bipush (v := 97) hx hb dX6_nameHere_50 (by decide) ?_
            refine lv_isub hx hb dX6_nameHere_52 ?_
            refine gz_topi (y := (-98)) (by decide) ?_
            refine lv_iconst (v := 1) hx hb dX6_nameHere_53 (by decide) ?_
            refine lv_iadd hx hb dX6_nameHere_54 ?_
            refine gz_topi (y := (-97)) (by decide) ?_
            refine lv_goto (tgt := 59) hx hb dX6_nameHere_55 (by decide) ?_
            refine lv_iadd hx hb dX6_nameHere_59 ?_
            refine lv_topi (fun x_204 ex_204 => ?_)
            refine lv_istore_n (lv' := [(1, .int x_204), (3, .int (-1)), (0, .ref h0), (2, .int v2)]) hx hb dX6_nameHere_60 rfl hl (by decide) rfl (fun ls hl => ?_)
            obtain ⟨x_205, ex_205⟩ : ∃ y : Int32, y = v2 + 1 := ⟨_, rfl⟩
            have gx_205 : gi x_205 1 6 := gi_add ex_205 g_194 (gi_c 1 1 (by decide)) (by decide)
            refine lv_iinc (v := x_205) (lv' := [(2, .int x_205), (1, .int x_204), (3, .int (-1)), (0, .ref h0)]) hx hb dX6_nameHere_61 hl (k := 3) rfl (by rw [ex_205]; rfl) (by decide) rfl (fun ls hl => ?_)
            refine lv_goto (tgt := 4) hx hb dX6_nameHere_64 (by decide) ?_
            exact ih x_204 x_205 _ _ _ (gi_w gx_205 (by decide)) (by rw [ex_205, ex_204, ex_197]; exact hF) (by have av2 := gv2.1; have bv2 := gv2.2; have qgx_205 := gx_205.1; have rgx_205 := gx_205.2; have igx_205 : x_205.toInt = v2.toInt + 1 := (by have hc1 : (1 : Int32).toInt = 1 := (by decide); have h9 := gi_addI ex_205 (by have h1 := g_194.1; have h2 := (gi_c 1 1 (by decide)).1; have h3 := g_194.2; have h4 := (gi_c 1 1 (by decide)).2; omega) (by have h1 := g_194.1; have h2 := (gi_c 1 1 (by decide)).1; have h3 := g_194.2; have h4 := (gi_c 1 1 (by decide)).2; omega); rw [hc1] at h9; exact h9); have qgv2 := g_194.1; have rgv2 := g_194.2; omega) hP hS (lv_sub hl [3, 1, 0] rfl)
        · have hF := gf_neg (by rw [ex_195] at c_196; exact c_196) hF
          have g_206 : gi x_195 0 1599 := gi_lt_l (Int32.not_le.mp c_196) gx_195 gq_stop (by decide)
          have g_207 : gi q_stop 1 1600 := gi_lt_r (Int32.not_le.mp c_196) gx_195 gq_stop (by decide)
          refine lv_aload_n hx hb dX6_nameHere_23 rfl (lv_at hl 0 rfl) ?_
          refine lv_aload_n hx hb dX6_nameHere_24 rfl (lv_at hl 0 rfl) ?_
          refine va_get (D := (dC, dI)) (ci := 6) (v := .int q_start) (C := RX6) (T := TX6) (N := 7) hx hb hts (fun w h => List.mem_cons_of_mem _ (jnGA_X6 w h)) hown hK hP 0 rfl rfl 5 (by decide) (hts _ (List.mem_cons_of_mem _ mGA_58)) (fun _ h9 => h9) rfl dX6_nameHere_25 ?_
          refine lv_iload_n hx hb dX6_nameHere_28 rfl (lv_at hl 2 rfl) ?_
          refine lv_iadd hx hb dX6_nameHere_29 ?_
          refine lv_topi (fun x_208 ex_208 => ?_)
          have gx_208 : gi x_208 0 1605 := gi_add ex_208 gq_start g_194 (by decide)
          have hPc := hP.sub (ws' := [(h0, .inr (6, [.ref tp, .ref dr, .int q_faultKind, .int q_faultPlace, .int q_token, .int q_start, .int q_stop])), (tp, .inr (10, [.ref bt, .int b_length])), (bt, .inl (kbt, 1600, .inl fbt))]) [0, 1, 2] rfl
          have hKc := hK.sub (tys' := [(kbt, .byte)]) [0] rfl
          refine va_calli (va_runV (As := [.int x_208]) (rest := []) ⟨hx, hb, hml, hown, hts⟩ (sX6_byteAt l dC dI h0 tp bt dr q_faultKind q_faultPlace q_token q_start q_stop b_length kbt fbt x_208 gq_faultKind gq_start (gi_w g_207 (by decide)) gb_length) (cwV 1 hts (gz_gV mGA_167 mGA_168 mGA_169 mGA_9 mGA_170 goodGA) rfl rfl rfl (by decide +kernel) ⟨Nat.le_trans (Nat.le_of_ble_eq_true rfl) hRf, Nat.le_trans (Nat.le_of_ble_eq_true rfl) hRl⟩) ⟨fun a U g mk q => by obtain ⟨q0, qP, qK, qZ⟩ := q; exact ⟨q0, qP, va_K.moved (u := U) (U := U.calling g mk a) (Vm.Alike.refl U.vm) qK, nzA_same (u := U) (U := U.calling g mk a) rfl qZ⟩, va_recv hKc hPc (ci := 6) (q0 := 0) rfl rfl, fun U hU hW => ⟨rfl, by rw [hU]; exact hPc, va_K.moved hW.alike hKc, nzA_warm hW hz⟩⟩ rfl rfl hl.1 rfl (lv_room (Nat.le_of_ble_eq_true rfl)) dX6_nameHere_30 ⟨hRc, hRs⟩) hS (fun q _ h => h.elim) (fun q h => h.elim) (fun r_209 u t H1 locs ht hvm hw hB hz1 hk1 hS => ?_)
          obtain ⟨hw, hE⟩ := hw
          have hP := gz_keep hP hk1
          have hF := gf_call (a := r_209) (by rw [ex_208] at hE; exact hE) hF
          generalize H1 = H at hP hS ⊢
          refine lv_goto (tgt := 37) hx hb dX6_nameHere_33 (by decide) ?_
          refine lv_istore_n (lv' := [(3, .int r_209), (0, .ref h0), (1, .int v1), (2, .int v2)]) hx hb dX6_nameHere_37 rfl hl (by decide) rfl (fun ls hl => ?_)
          refine lv_iload_n hx hb dX6_nameHere_38 rfl (lv_at hl 2 rfl) ?_
          refine lv_bipush (v := 27) hx hb dX6_nameHere_39 (by decide) ?_
          refine lv_imul hx hb dX6_nameHere_41 ?_
          refine lv_topi (fun x_210 ex_210 => ?_)
          refine lv_iload_n hx hb dX6_nameHere_42 rfl (lv_at hl 0 rfl) ?_
          have hPc := hP.sub (ws' := []) [] rfl
          have hKc := hK.sub (tys' := []) [] rfl
          refine va_calli (va_runS (As := [.int r_209]) (rest := [.int x_210]) ⟨hx, hb, hml, hown, hts⟩ (sX6_isLetter l dC dI r_209) (cwS 1 hts (gz_gS mGA_175 mGA_176 mGA_9 mGA_177 goodGA) rfl rfl rfl (by decide +kernel) ⟨Nat.le_trans (Nat.le_of_ble_eq_true rfl) hRf, Nat.le_trans (Nat.le_of_ble_eq_true rfl) hRl⟩) ⟨fun a U g mk q => by obtain ⟨q0, qP, qK, qZ⟩ := q; exact ⟨q0, qP, va_K.moved (u := U) (U := U.calling g mk a) (Vm.Alike.refl U.vm) qK, nzA_same (u := U) (U := U.calling g mk a) rfl qZ⟩, fun U hU hW => ⟨rfl, by rw [hU]; exact hPc, va_K.moved hW.alike hKc, nzA_warm hW hz⟩⟩ rfl rfl hl.1 rfl (lv_room (Nat.le_of_ble_eq_true rfl)) dX6_nameHere_43 ⟨hRc, hRs⟩) hS (fun q _ h => h.elim) (fun q h => h.elim) (fun r_211 u t H1 locs ht hvm hw hB hz1 hk1 hS => ?_)
          obtain ⟨hw, hE⟩ := hw
          have hP := gz_keep hP hk1
          have hF := gf_call (a := r_211) hE hF
          generalize H1 = H at hP hS ⊢
          have gr_211 : gi r_211 0 1 := hw
          refine lv_if_eq (tgt := 58) hx hb dX6_nameHere_46 (by decide) (fun c_212 => ?_) (fun c_212 => ?_)
          · have hF := gf_pos c_212 hF
            have g_213 : gi r_211 0 0 := gi_eq c_212 (gi_c 0 0 (by decide))
            refine lv_iconst (v := 0) hx hb dX6_nameHere_58 (by decide) ?_
            refine lv_iadd hx hb dX6_nameHere_59 ?_
            refine lv_topi (fun x_214 ex_214 => ?_)
            refine lv_istore_n (lv' := [(1, .int x_214), (3, .int r_209), (0, .ref h0), (2, .int v2)]) hx hb dX6_nameHere_60 rfl hl (by decide) rfl (fun ls hl => ?_)
            obtain ⟨x_215, ex_215⟩ : ∃ y : Int32, y = v2 + 1 := ⟨_, rfl⟩
            have gx_215 : gi x_215 1 6 := gi_add ex_215 g_194 (gi_c 1 1 (by decide)) (by decide)
            refine lv_iinc (v := x_215) (lv' := [(2, .int x_215), (1, .int x_214), (3, .int r_209), (0, .ref h0)]) hx hb dX6_nameHere_61 hl (k := 3) rfl (by rw [ex_215]; rfl) (by decide) rfl (fun ls hl => ?_)
            refine lv_goto (tgt := 4) hx hb dX6_nameHere_64 (by decide) ?_
            exact ih x_214 x_215 _ _ _ (gi_w gx_215 (by decide)) (by rw [ex_215, ex_214, ex_210]; exact hF) (by have av2 := gv2.1; have bv2 := gv2.2; have qgx_215 := gx_215.1; have rgx_215 := gx_215.2; have igx_215 : x_215.toInt = v2.toInt + 1 := (by have hc1 : (1 : Int32).toInt = 1 := (by decide); have h9 := gi_addI ex_215 (by have h1 := g_194.1; have h2 := (gi_c 1 1 (by decide)).1; have h3 := g_194.2; have h4 := (gi_c 1 1 (by decide)).2; omega) (by have h1 := g_194.1; have h2 := (gi_c 1 1 (by decide)).1; have h3 := g_194.2; have h4 := (gi_c 1 1 (by decide)).2; omega); rw [hc1] at h9; exact h9); have qgv2 := g_194.1; have rgv2 := g_194.2; omega) hP hS (lv_sub hl [3, 1, 0] rfl)
          · have hF := gf_neg c_212 hF
            have g_216 : gi r_211 1 1 := gi_ne_lo c_212 gr_211 (gi_c 0 0 (by decide)) (by decide)
            refine lv_iload_n hx hb dX6_nameHere_49 rfl (lv_at hl 0 rfl) ?_
            refine lv_bipush (v := 97) hx hb dX6_nameHere_50 (by decide) ?_
            refine lv_isub hx hb dX6_nameHere_52 ?_
            refine lv_topi (fun x_217 ex_217 => ?_)
            refine lv_iconst (v := 1) hx hb dX6_nameHere_53 (by decide) ?_
            refine lv_iadd hx hb dX6_nameHere_54 ?_
            refine lv_topi (fun x_218 ex_218 => ?_)
            refine lv_goto (tgt := 59) hx hb dX6_nameHere_55 (by decide) ?_
            refine lv_iadd hx hb dX6_nameHere_59 ?_
            refine lv_topi (fun x_219 ex_219 => ?_)
            refine lv_istore_n (lv' := [(1, .int x_219), (3, .int r_209), (0, .ref h0), (2, .int v2)]) hx hb dX6_nameHere_60 rfl hl (by decide) rfl (fun ls hl => ?_)
            obtain ⟨x_220, ex_220⟩ : ∃ y : Int32, y = v2 + 1 := ⟨_, rfl⟩
            have gx_220 : gi x_220 1 6 := gi_add ex_220 g_194 (gi_c 1 1 (by decide)) (by decide)
            refine lv_iinc (v := x_220) (lv' := [(2, .int x_220), (1, .int x_219), (3, .int r_209), (0, .ref h0)]) hx hb dX6_nameHere_61 hl (k := 3) rfl (by rw [ex_220]; rfl) (by decide) rfl (fun ls hl => ?_)
            refine lv_goto (tgt := 4) hx hb dX6_nameHere_64 (by decide) ?_
            exact ih x_219 x_220 _ _ _ (gi_w gx_220 (by decide)) (by rw [ex_220, ex_219, ex_218, ex_217, ex_210]; exact hF) (by have av2 := gv2.1; have bv2 := gv2.2; have qgx_220 := gx_220.1; have rgx_220 := gx_220.2; have igx_220 : x_220.toInt = v2.toInt + 1 := (by have hc1 : (1 : Int32).toInt = 1 := (by decide); have h9 := gi_addI ex_220 (by have h1 := g_194.1; have h2 := (gi_c 1 1 (by decide)).1; have h3 := g_194.2; have h4 := (gi_c 1 1 (by decide)).2; omega) (by have h1 := g_194.1; have h2 := (gi_c 1 1 (by decide)).1; have h3 := g_194.2; have h4 := (gi_c 1 1 (by decide)).2; omega); rw [hc1] at h9; exact h9); have qgv2 := g_194.1; have rgv2 := g_194.2; omega) hP hS (lv_sub hl [3, 1, 0] rfl)
set_option maxHeartbeats 4000000 in
set_option maxRecDepth 100000 in
theorem sX6_nameHere (l : Launch) (dC : Nat → ClassId) (dI : Nat → Nat → Nat) (h0 : Nat) (tp : Nat) (bt : Nat) (dr : Nat) (q_faultKind : Int32) (q_faultPlace : Int32) (q_token : Int32) (q_start : Int32) (q_stop : Int32) (b_length : Int32) (kbt : ClassId) (fbt : Nat → Int32) (gq_faultKind : gi q_faultKind 0 3) (gq_start : gi q_start 0 1600) (gq_stop : gi q_stop 0 1600) (gb_length : gi b_length 0 1600) : Met l yX6_nameHere (.code yX6_nameHere cX6_nameHere 4 (some .int) :: wsGA) ({ frames := 1, cells := 0, slots := 0, locals := 21 }) (va_Pc [.ref h0] (fun U => va_P (dC, dI) vwCl [(h0, .inr (6, [.ref tp, .ref dr, .int q_faultKind, .int q_faultPlace, .int q_token, .int q_start, .int q_stop])), (tp, .inr (10, [.ref bt, .int b_length])), (bt, .inl (kbt, 1600, .inl fbt))] U.heap ∧ va_K (dC, dI) vwCl [(kbt, .byte)] U ∧ nzA U)) (va_Qi (fun (r : Int32) (u : Unit) => (gi r (-2147483648) 2147483647) ∧ r = fX6_nameHere q_start q_stop b_length fbt) (fun _ _ => True) (fun _ => False)) 0 0 (fun _ => False) := by
  refine Met.ofW (cc := cX6_nameHere) (maxL := 4) (ret := (some .int)) (by decide) rfl ?_
  intro p e s m args below meth c s₁ B hml hv
  obtain ⟨rfl, hP, hK, hz⟩ := hv
  have hx := B.exec
  have hb := B.bytes
  have hr := B.returns
  have hts := atoms_spec (ws := (.code yX6_nameHere cX6_nameHere 4 (some .int) :: wsGA)) B.pre
  have hown : s.vm.findClass RX6 = some m.cls := findClass_of_methodNamed B.named
  have hlocks := B.notSynchronized
  have hS : va_S (fun _ => False) s.heap s.heap [] := va_S.rf
  have hl := lv_entry ([.ref h0]) (n := 4) (Nat.le_of_ble_eq_true rfl)
  rw [lg_entry_eq]
  generalize (lg_sl ([.ref h0]) ++ List.replicate (4 - (lg_sl ([.ref h0])).length) Slot.unset).toArray = ls at hl ⊢
  have hl : lv_has ls 4 [(0, .ref h0)] := hl
  obtain ⟨RES, hF⟩ : ∃ R9, fX6_nameHere q_start q_stop b_length fbt = R9 := ⟨_, rfl⟩
  have hR9 := hF
  refine lv_iconst (v := 0) hx hb dX6_nameHere_0 (by decide) ?_
  refine lv_istore_n (lv' := [(1, .int 0), (0, .ref h0)]) hx hb dX6_nameHere_1 rfl hl (by decide) rfl (fun ls hl => ?_)
  refine lv_iconst (v := 0) hx hb dX6_nameHere_2 (by decide) ?_
  refine lv_istore_n (lv' := [(2, .int 0), (1, .int 0), (0, .ref h0)]) hx hb dX6_nameHere_3 rfl hl (by decide) rfl (fun ls hl => ?_)
  refine (lp_sX6_nameHere h0 tp bt dr q_faultKind q_faultPlace q_token q_start q_stop b_length kbt fbt gq_faultKind gq_start gq_stop gb_length hx hb hml hown hts hK hz (Nat.le_of_ble_eq_true rfl) (Nat.le_of_ble_eq_true rfl) (Nat.zero_le _) (Nat.zero_le _) (fun v H locs ls hF hP hS hl => ?_) 1000000000) 0 0 _ _ _ (gi_w (gi_c 0 0 (by decide)) (by decide)) hF (by have k0 : (0 : Int32).toInt = 0 := (by decide); omega) hP hS (lv_sub hl [2, 1, 0] rfl)
  · skip
    exact W.iret (v := v) hx hb hr (fun t ht hW => ⟨⟨v, (), rfl, ⟨(gi_any v), hF.trans hR9.symm⟩, trivial⟩, hS.F ht⟩) hS.2.2 dX6_nameHere_68
theorem dX6_valueHere_0 : decode cX6_valueHere 0 = .ok (.iconst 0, 1) := by decide +kernel
theorem dX6_valueHere_1 : decode cX6_valueHere 1 = .ok (.istore_n 1, 1) := by decide +kernel
theorem dX6_valueHere_2 : decode cX6_valueHere 2 = .ok (.aload_n 0, 1) := by decide +kernel
theorem dX6_valueHere_3 : decode cX6_valueHere 3 = .ok (.getfield 35, 3) := by decide +kernel
theorem dX6_valueHere_6 : decode cX6_valueHere 6 = .ok (.istore_n 2, 1) := by decide +kernel
theorem dX6_valueHere_7 : decode cX6_valueHere 7 = .ok (.iload_n 2, 1) := by decide +kernel
theorem dX6_valueHere_8 : decode cX6_valueHere 8 = .ok (.aload_n 0, 1) := by decide +kernel
theorem dX6_valueHere_9 : decode cX6_valueHere 9 = .ok (.getfield 38, 3) := by decide +kernel
theorem dX6_valueHere_12 : decode cX6_valueHere 12 = .ok (.if_icmp .ge 41, 3) := by decide +kernel
theorem dX6_valueHere_15 : decode cX6_valueHere 15 = .ok (.aload_n 0, 1) := by decide +kernel
theorem dX6_valueHere_16 : decode cX6_valueHere 16 = .ok (.iload_n 2, 1) := by decide +kernel
theorem dX6_valueHere_17 : decode cX6_valueHere 17 = .ok (.invokevirtual 181, 3) := by decide +kernel
theorem dX6_valueHere_20 : decode cX6_valueHere 20 = .ok (.istore_n 3, 1) := by decide +kernel
theorem dX6_valueHere_21 : decode cX6_valueHere 21 = .ok (.iload_n 3, 1) := by decide +kernel
theorem dX6_valueHere_22 : decode cX6_valueHere 22 = .ok (.invokestatic 188, 3) := by decide +kernel
theorem dX6_valueHere_25 : decode cX6_valueHere 25 = .ok (.ifCond .eq 20, 3) := by decide +kernel
theorem dX6_valueHere_28 : decode cX6_valueHere 28 = .ok (.iload_n 1, 1) := by decide +kernel
theorem dX6_valueHere_29 : decode cX6_valueHere 29 = .ok (.bipush 10, 2) := by decide +kernel
theorem dX6_valueHere_31 : decode cX6_valueHere 31 = .ok (.imul, 1) := by decide +kernel
theorem dX6_valueHere_32 : decode cX6_valueHere 32 = .ok (.iload_n 3, 1) := by decide +kernel
theorem dX6_valueHere_33 : decode cX6_valueHere 33 = .ok (.iadd, 1) := by decide +kernel
theorem dX6_valueHere_34 : decode cX6_valueHere 34 = .ok (.bipush 48, 2) := by decide +kernel
theorem dX6_valueHere_36 : decode cX6_valueHere 36 = .ok (.isub, 1) := by decide +kernel
theorem dX6_valueHere_37 : decode cX6_valueHere 37 = .ok (.ldc 163, 2) := by decide +kernel
theorem dX6_valueHere_39 : decode cX6_valueHere 39 = .ok (.invokestatic 191, 3) := by decide +kernel
theorem dX6_valueHere_42 : decode cX6_valueHere 42 = .ok (.goto 4, 3) := by decide +kernel
theorem dX6_valueHere_45 : decode cX6_valueHere 45 = .ok (.iload_n 1, 1) := by decide +kernel
theorem dX6_valueHere_46 : decode cX6_valueHere 46 = .ok (.istore_n 1, 1) := by decide +kernel
theorem dX6_valueHere_47 : decode cX6_valueHere 47 = .ok (.iinc 2 1, 3) := by decide +kernel
theorem dX6_valueHere_50 : decode cX6_valueHere 50 = .ok (.goto (-43), 3) := by decide +kernel
theorem dX6_valueHere_53 : decode cX6_valueHere 53 = .ok (.iload_n 1, 1) := by decide +kernel
theorem dX6_valueHere_54 : decode cX6_valueHere 54 = .ok (.ireturn, 1) := by decide +kernel
noncomputable def bfX6_valueHere_46 (q_start : Int32) (q_stop : Int32) (b_length : Int32) (fbt : Nat → Int32) (K : (Int32 → Int32 → Int32)) (v2 : Int32) (s0 : Int32) : Int32 := K s0 (v2 + (1 : Int32))
noncomputable def dfX6_valueHere_7 (q_start : Int32) (q_stop : Int32) (b_length : Int32) (fbt : Nat → Int32) (K : (Int32 → Int32 → Int32)) (v1 : Int32) (v2 : Int32) : Int32 := if q_stop ≤ v2 then v1 else (cal (fun o1 => cal (fun o2 => if o2 = (0 : Int32) then (bfX6_valueHere_46 q_start q_stop b_length fbt K v2 v1) else (bfX6_valueHere_46 q_start q_stop b_length fbt K v2 (if (1000000 : Int32) < (((v1 * (10 : Int32)) + o1) - (48 : Int32)) then (1000000 : Int32) else (((v1 * (10 : Int32)) + o1) - (48 : Int32))))) (fX6_isDigit o1)) (fX6_byteAt b_length fbt v2))
noncomputable def lfX6_valueHere (q_start : Int32) (q_stop : Int32) (b_length : Int32) (fbt : Nat → Int32) (z : Nat) : (Int32 → Int32 → Int32) := Nat.rec (motive := fun _ => (Int32 → Int32 → Int32)) (fun _ _ => (0)) (fun _ K => dfX6_valueHere_7 q_start q_stop b_length fbt K) z
noncomputable def fX6_valueHere (q_start : Int32) (q_stop : Int32) (b_length : Int32) (fbt : Nat → Int32) : Int32 := (lfX6_valueHere q_start q_stop b_length fbt 1000000000) (0 : Int32) q_start
set_option maxHeartbeats 4000000 in
set_option maxRecDepth 100000 in
theorem lp_sX6_valueHere {p : Program} {l : Launch} {e : Env} {R : Room} {s : State} {m : MethodId} {args : Array Value} {below : List Frame} {meth : Method} {c : Code} {Q : State → Prop} {A : Nat → Prop} {cells slots : Nat} {dC : Nat → ClassId} {dI : Nat → Nat → Nat} {RES : Int32} (h0 : Nat) (tp : Nat) (bt : Nat) (dr : Nat) (q_faultKind : Int32) (q_faultPlace : Int32) (q_token : Int32) (q_start : Int32) (q_stop : Int32) (b_length : Int32) (kbt : ClassId) (fbt : Nat → Int32) (gq_faultKind : gi q_faultKind 0 3) (gq_start : gi q_start 0 1600) (gq_stop : gi q_stop 0 1600) (gb_length : gi b_length 0 1600) (hx : p.tables.exec = Jvm.exec) (hb : c.code = cX6_valueHere) (hml : c.maxLocals = 4) (hown : s.vm.findClass RX6 = some m.cls) (hts : ∀ w ∈ ((.code yX6_valueHere cX6_valueHere 4 (some .int) :: wsGA) : List Cond), w.before args s = true) (hK : va_K (dC, dI) vwCl [(kbt, .byte)] s) (hz : nzA s) (hRf : 1 ≤ R.frames) (hRl : 21 ≤ R.locals) (hRc : cells ≤ R.cells) (hRs : slots ≤ R.slots) (kr54 : ∀ (v : Int32) (H : Heap) (locs : List Loc) (ls : Array Slot), v = RES → va_P (dC, dI) vwCl [(h0, .inr (6, [.ref tp, .ref dr, .int q_faultKind, .int q_faultPlace, .int q_token, .int q_start, .int q_stop])), (tp, .inr (10, [.ref bt, .int b_length])), (bt, .inl (kbt, 1600, .inl fbt))] H → va_S A s.heap H locs → lv_has ls 4 [] → W p l e R s m args below meth c H locs cells slots Q (F0 m 54 ls [.int v])) : ∀ z : Nat, (∀ (v1 : Int32) (v2 : Int32) (H : Heap) (locs : List Loc) (ls : Array Slot), gi v2 0 1600 → (lfX6_valueHere q_start q_stop b_length fbt z) v1 v2 = RES → 3201 + (-2) * v2.toInt < (z : Int) → va_P (dC, dI) vwCl [(h0, .inr (6, [.ref tp, .ref dr, .int q_faultKind, .int q_faultPlace, .int q_token, .int q_start, .int q_stop])), (tp, .inr (10, [.ref bt, .int b_length])), (bt, .inl (kbt, 1600, .inl fbt))] H → va_S A s.heap H locs → lv_has ls 4 [(0, .ref h0), (1, .int v1), (2, .int v2)] → W p l e R s m args below meth c H locs cells slots Q (F0 m 7 ls [])) := by
  intro z
  induction z with
  | zero =>
    intro v1 v2 H locs ls gv2 hF hmu hP hS hl
    exact absurd hmu (by have hv21 := gv2.1; have hv22 := gv2.2; omega)
  | succ z ih =>
      intro v1 v2 H locs ls gv2 hF hmu hP hS hl
      have hF : dfX6_valueHere_7 q_start q_stop b_length fbt (lfX6_valueHere q_start q_stop b_length fbt z) v1 v2 = RES := hF
      refine lv_iload_n hx hb dX6_valueHere_7 rfl (lv_at hl 2 rfl) ?_
      refine lv_aload_n hx hb dX6_valueHere_8 rfl (lv_at hl 0 rfl) ?_
      refine va_get (D := (dC, dI)) (ci := 6) (v := .int q_stop) (C := RX6) (T := TX6) (N := 7) hx hb hts (fun w h => List.mem_cons_of_mem _ (jnGA_X6 w h)) hown hK hP 0 rfl rfl 6 (by decide) (hts _ (List.mem_cons_of_mem _ mGA_59)) (fun _ h9 => h9) rfl dX6_valueHere_9 ?_
      refine lv_icmp_ge (tgt := 53) hx hb dX6_valueHere_12 (by decide) (fun c_29 => ?_) (fun c_29 => ?_)
      · have hF := gf_pos c_29 hF
        refine lv_iload_n hx hb dX6_valueHere_53 rfl (lv_at hl 1 rfl) ?_
        exact kr54 v1 _ _ _ hF hP hS (lv_sub hl [] rfl)
      · have hF := gf_neg c_29 hF
        have g_30 : gi v2 0 1599 := gi_lt_l (Int32.not_le.mp c_29) gv2 gq_stop (by decide)
        have g_31 : gi q_stop 1 1600 := gi_lt_r (Int32.not_le.mp c_29) gv2 gq_stop (by decide)
        refine lv_aload_n hx hb dX6_valueHere_15 rfl (lv_at hl 0 rfl) ?_
        refine lv_iload_n hx hb dX6_valueHere_16 rfl (lv_at hl 2 rfl) ?_
        have hPc := hP.sub (ws' := [(h0, .inr (6, [.ref tp, .ref dr, .int q_faultKind, .int q_faultPlace, .int q_token, .int q_start, .int q_stop])), (tp, .inr (10, [.ref bt, .int b_length])), (bt, .inl (kbt, 1600, .inl fbt))]) [0, 1, 2] rfl
        have hKc := hK.sub (tys' := [(kbt, .byte)]) [0] rfl
        refine va_calli (va_runV (As := [.int v2]) (rest := []) ⟨hx, hb, hml, hown, hts⟩ (sX6_byteAt l dC dI h0 tp bt dr q_faultKind q_faultPlace q_token q_start q_stop b_length kbt fbt v2 gq_faultKind gq_start (gi_w g_31 (by decide)) gb_length) (cwV 1 hts (gz_gV mGA_167 mGA_168 mGA_169 mGA_9 mGA_170 goodGA) rfl rfl rfl (by decide +kernel) ⟨Nat.le_trans (Nat.le_of_ble_eq_true rfl) hRf, Nat.le_trans (Nat.le_of_ble_eq_true rfl) hRl⟩) ⟨fun a U g mk q => by obtain ⟨q0, qP, qK, qZ⟩ := q; exact ⟨q0, qP, va_K.moved (u := U) (U := U.calling g mk a) (Vm.Alike.refl U.vm) qK, nzA_same (u := U) (U := U.calling g mk a) rfl qZ⟩, va_recv hKc hPc (ci := 6) (q0 := 0) rfl rfl, fun U hU hW => ⟨rfl, by rw [hU]; exact hPc, va_K.moved hW.alike hKc, nzA_warm hW hz⟩⟩ rfl rfl hl.1 rfl (lv_room (Nat.le_of_ble_eq_true rfl)) dX6_valueHere_17 ⟨hRc, hRs⟩) hS (fun q _ h => h.elim) (fun q h => h.elim) (fun r_32 u t H1 locs ht hvm hw hB hz1 hk1 hS => ?_)
        obtain ⟨hw, hE⟩ := hw
        have hP := gz_keep hP hk1
        have hF := gf_call (a := r_32) hE hF
        generalize H1 = H at hP hS ⊢
        refine lv_istore_n (lv' := [(3, .int r_32), (0, .ref h0), (1, .int v1), (2, .int v2)]) hx hb dX6_valueHere_20 rfl hl (by decide) rfl (fun ls hl => ?_)
        refine lv_iload_n hx hb dX6_valueHere_21 rfl (lv_at hl 0 rfl) ?_
        have hPc := hP.sub (ws' := []) [] rfl
        have hKc := hK.sub (tys' := []) [] rfl
        refine va_calli (va_runS (As := [.int r_32]) (rest := []) ⟨hx, hb, hml, hown, hts⟩ (sX6_isDigit l dC dI r_32) (cwS 1 hts (gz_gS mGA_178 mGA_179 mGA_9 mGA_180 goodGA) rfl rfl rfl (by decide +kernel) ⟨Nat.le_trans (Nat.le_of_ble_eq_true rfl) hRf, Nat.le_trans (Nat.le_of_ble_eq_true rfl) hRl⟩) ⟨fun a U g mk q => by obtain ⟨q0, qP, qK, qZ⟩ := q; exact ⟨q0, qP, va_K.moved (u := U) (U := U.calling g mk a) (Vm.Alike.refl U.vm) qK, nzA_same (u := U) (U := U.calling g mk a) rfl qZ⟩, fun U hU hW => ⟨rfl, by rw [hU]; exact hPc, va_K.moved hW.alike hKc, nzA_warm hW hz⟩⟩ rfl rfl hl.1 rfl (lv_room (Nat.le_of_ble_eq_true rfl)) dX6_valueHere_22 ⟨hRc, hRs⟩) hS (fun q _ h => h.elim) (fun q h => h.elim) (fun r_33 u t H1 locs ht hvm hw hB hz1 hk1 hS => ?_)
        obtain ⟨hw, hE⟩ := hw
        have hP := gz_keep hP hk1
        have hF := gf_call (a := r_33) hE hF
        generalize H1 = H at hP hS ⊢
        have gr_33 : gi r_33 0 1 := hw
        refine lv_if_eq (tgt := 45) hx hb dX6_valueHere_25 (by decide) (fun c_34 => ?_) (fun c_34 => ?_)
        · have hF := gf_pos c_34 hF
          have g_35 : gi r_33 0 0 := gi_eq c_34 (gi_c 0 0 (by decide))
          refine lv_iload_n hx hb dX6_valueHere_45 rfl (lv_at hl 2 rfl) ?_
          refine lv_istore_n (lv' := [(1, .int v1), (3, .int r_32), (0, .ref h0), (2, .int v2)]) hx hb dX6_valueHere_46 rfl hl (by decide) rfl (fun ls hl => ?_)
          obtain ⟨x_36, ex_36⟩ : ∃ y : Int32, y = v2 + 1 := ⟨_, rfl⟩
          have gx_36 : gi x_36 1 1600 := gi_add ex_36 g_30 (gi_c 1 1 (by decide)) (by decide)
          refine lv_iinc (v := x_36) (lv' := [(2, .int x_36), (1, .int v1), (3, .int r_32), (0, .ref h0)]) hx hb dX6_valueHere_47 hl (k := 3) rfl (by rw [ex_36]; rfl) (by decide) rfl (fun ls hl => ?_)
          refine lv_goto (tgt := 7) hx hb dX6_valueHere_50 (by decide) ?_
          exact ih v1 x_36 _ _ _ (gi_w gx_36 (by decide)) (by rw [ex_36]; exact hF) (by have av2 := gv2.1; have bv2 := gv2.2; have qgx_36 := gx_36.1; have rgx_36 := gx_36.2; have igx_36 : x_36.toInt = v2.toInt + 1 := (by have hc1 : (1 : Int32).toInt = 1 := (by decide); have h9 := gi_addI ex_36 (by have h1 := g_30.1; have h2 := (gi_c 1 1 (by decide)).1; have h3 := g_30.2; have h4 := (gi_c 1 1 (by decide)).2; omega) (by have h1 := g_30.1; have h2 := (gi_c 1 1 (by decide)).1; have h3 := g_30.2; have h4 := (gi_c 1 1 (by decide)).2; omega); rw [hc1] at h9; exact h9); have qgv2 := g_30.1; have rgv2 := g_30.2; omega) hP hS (lv_sub hl [3, 1, 0] rfl)
        · have hF := gf_neg c_34 hF
          have g_37 : gi r_33 1 1 := gi_ne_lo c_34 gr_33 (gi_c 0 0 (by decide)) (by decide)
          refine lv_iload_n hx hb dX6_valueHere_28 rfl (lv_at hl 2 rfl) ?_
          refine lv_bipush (v := 10) hx hb dX6_valueHere_29 (by decide) ?_
          refine lv_imul hx hb dX6_valueHere_31 ?_
          refine lv_topi (fun x_38 ex_38 => ?_)
          refine lv_iload_n hx hb dX6_valueHere_32 rfl (lv_at hl 0 rfl) ?_
          refine lv_iadd hx hb dX6_valueHere_33 ?_
          refine lv_topi (fun x_39 ex_39 => ?_)
          refine lv_bipush (v := 48) hx hb dX6_valueHere_34 (by decide) ?_
          refine lv_isub hx hb dX6_valueHere_36 ?_
          refine lv_topi (fun x_40 ex_40 => ?_)
          refine lv_ldc (own := RX6) (v := 1000000) hx hb hown (hts _ (List.mem_cons_of_mem _ mGA_266)) dX6_valueHere_37 ?_
          refine va_mmin (own := RX6) hx hb (by rw [hml]; exact hl.1.symm) hown (hts _ (List.mem_cons_of_mem _ mGA_267)) (hts _ (List.mem_cons_of_mem _ mGA_268)) (hts _ (List.mem_cons_of_mem _ mGA_269)) (hts _ (List.mem_cons_of_mem _ mGA_270)) (Nat.le_trans (Nat.le_of_ble_eq_true rfl) hRf) (Nat.le_trans (Nat.le_of_ble_eq_true rfl) hRl) hRc hRs dX6_valueHere_39 ?_
          refine lv_topi (fun x_41 ex_41 => ?_)
          have gx_41 : gi x_41 (-2147483648) 1000000 := gi_min ex_41 (gi_any x_40) (gi_c 1000000 1000000 (by decide)) (by decide)
          refine lv_goto (tgt := 46) hx hb dX6_valueHere_42 (by decide) ?_
          refine lv_istore_n (lv' := [(1, .int x_41), (3, .int r_32), (0, .ref h0), (2, .int v2)]) hx hb dX6_valueHere_46 rfl hl (by decide) rfl (fun ls hl => ?_)
          obtain ⟨x_42, ex_42⟩ : ∃ y : Int32, y = v2 + 1 := ⟨_, rfl⟩
          have gx_42 : gi x_42 1 1600 := gi_add ex_42 g_30 (gi_c 1 1 (by decide)) (by decide)
          refine lv_iinc (v := x_42) (lv' := [(2, .int x_42), (1, .int x_41), (3, .int r_32), (0, .ref h0)]) hx hb dX6_valueHere_47 hl (k := 3) rfl (by rw [ex_42]; rfl) (by decide) rfl (fun ls hl => ?_)
          refine lv_goto (tgt := 7) hx hb dX6_valueHere_50 (by decide) ?_
          exact ih x_41 x_42 _ _ _ (gi_w gx_42 (by decide)) (by rw [ex_42, ex_41, ex_40, ex_39, ex_38]; exact hF) (by have av2 := gv2.1; have bv2 := gv2.2; have qgx_42 := gx_42.1; have rgx_42 := gx_42.2; have igx_42 : x_42.toInt = v2.toInt + 1 := (by have hc1 : (1 : Int32).toInt = 1 := (by decide); have h9 := gi_addI ex_42 (by have h1 := g_30.1; have h2 := (gi_c 1 1 (by decide)).1; have h3 := g_30.2; have h4 := (gi_c 1 1 (by decide)).2; omega) (by have h1 := g_30.1; have h2 := (gi_c 1 1 (by decide)).1; have h3 := g_30.2; have h4 := (gi_c 1 1 (by decide)).2; omega); rw [hc1] at h9; exact h9); have qgv2 := g_30.1; have rgv2 := g_30.2; omega) hP hS (lv_sub hl [3, 1, 0] rfl)
set_option maxHeartbeats 4000000 in
set_option maxRecDepth 100000 in
theorem sX6_valueHere (l : Launch) (dC : Nat → ClassId) (dI : Nat → Nat → Nat) (h0 : Nat) (tp : Nat) (bt : Nat) (dr : Nat) (q_faultKind : Int32) (q_faultPlace : Int32) (q_token : Int32) (q_start : Int32) (q_stop : Int32) (b_length : Int32) (kbt : ClassId) (fbt : Nat → Int32) (gq_faultKind : gi q_faultKind 0 3) (gq_start : gi q_start 0 1600) (gq_stop : gi q_stop 0 1600) (gb_length : gi b_length 0 1600) : Met l yX6_valueHere (.code yX6_valueHere cX6_valueHere 4 (some .int) :: wsGA) ({ frames := 1, cells := 0, slots := 0, locals := 21 }) (va_Pc [.ref h0] (fun U => va_P (dC, dI) vwCl [(h0, .inr (6, [.ref tp, .ref dr, .int q_faultKind, .int q_faultPlace, .int q_token, .int q_start, .int q_stop])), (tp, .inr (10, [.ref bt, .int b_length])), (bt, .inl (kbt, 1600, .inl fbt))] U.heap ∧ va_K (dC, dI) vwCl [(kbt, .byte)] U ∧ nzA U)) (va_Qi (fun (r : Int32) (u : Unit) => (gi r (-2147483648) 2147483647) ∧ r = fX6_valueHere q_start q_stop b_length fbt) (fun _ _ => True) (fun _ => False)) 0 0 (fun _ => False) := by
  refine Met.ofW (cc := cX6_valueHere) (maxL := 4) (ret := (some .int)) (by decide) rfl ?_
  intro p e s m args below meth c s₁ B hml hv
  obtain ⟨rfl, hP, hK, hz⟩ := hv
  have hx := B.exec
  have hb := B.bytes
  have hr := B.returns
  have hts := atoms_spec (ws := (.code yX6_valueHere cX6_valueHere 4 (some .int) :: wsGA)) B.pre
  have hown : s.vm.findClass RX6 = some m.cls := findClass_of_methodNamed B.named
  have hlocks := B.notSynchronized
  have hS : va_S (fun _ => False) s.heap s.heap [] := va_S.rf
  have hl := lv_entry ([.ref h0]) (n := 4) (Nat.le_of_ble_eq_true rfl)
  rw [lg_entry_eq]
  generalize (lg_sl ([.ref h0]) ++ List.replicate (4 - (lg_sl ([.ref h0])).length) Slot.unset).toArray = ls at hl ⊢
  have hl : lv_has ls 4 [(0, .ref h0)] := hl
  obtain ⟨RES, hF⟩ : ∃ R9, fX6_valueHere q_start q_stop b_length fbt = R9 := ⟨_, rfl⟩
  have hR9 := hF
  refine lv_iconst (v := 0) hx hb dX6_valueHere_0 (by decide) ?_
  refine lv_istore_n (lv' := [(1, .int 0), (0, .ref h0)]) hx hb dX6_valueHere_1 rfl hl (by decide) rfl (fun ls hl => ?_)
  refine lv_aload_n hx hb dX6_valueHere_2 rfl (lv_at hl 1 rfl) ?_
  refine va_get (D := (dC, dI)) (ci := 6) (v := .int q_start) (C := RX6) (T := TX6) (N := 7) hx hb hts (fun w h => List.mem_cons_of_mem _ (jnGA_X6 w h)) hown hK hP 0 rfl rfl 5 (by decide) (hts _ (List.mem_cons_of_mem _ mGA_58)) (fun _ h9 => h9) rfl dX6_valueHere_3 ?_
  refine lv_istore_n (lv' := [(2, .int q_start), (1, .int 0), (0, .ref h0)]) hx hb dX6_valueHere_6 rfl hl (by decide) rfl (fun ls hl => ?_)
  refine (lp_sX6_valueHere h0 tp bt dr q_faultKind q_faultPlace q_token q_start q_stop b_length kbt fbt gq_faultKind gq_start gq_stop gb_length hx hb hml hown hts hK hz (Nat.le_of_ble_eq_true rfl) (Nat.le_of_ble_eq_true rfl) (Nat.zero_le _) (Nat.zero_le _) (fun v H locs ls hF hP hS hl => ?_) 1000000000) 0 q_start _ _ _ gq_start hF (by have qgq_start := gq_start.1; have rgq_start := gq_start.2; omega) hP hS (lv_sub hl [2, 1, 0] rfl)
  · skip
    exact W.iret (v := v) hx hb hr (fun t ht hW => ⟨⟨v, (), rfl, ⟨(gi_any v), hF.trans hR9.symm⟩, trivial⟩, hS.F ht⟩) hS.2.2 dX6_valueHere_54
