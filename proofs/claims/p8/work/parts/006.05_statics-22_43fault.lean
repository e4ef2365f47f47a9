theorem dX11_dayOf_0 : decode cX11_dayOf 0 = .ok (.bipush 29, 2) := by decide +kernel
theorem dX11_dayOf_2 : decode cX11_dayOf 2 = .ok (.iload_n 0, 1) := by decide +kernel
theorem dX11_dayOf_3 : decode cX11_dayOf 3 = .ok (.imul, 1) := by decide +kernel
theorem dX11_dayOf_4 : decode cX11_dayOf 4 = .ok (.iload_n 1, 1) := by decide +kernel
theorem dX11_dayOf_5 : decode cX11_dayOf 5 = .ok (.iadd, 1) := by decide +kernel
theorem dX11_dayOf_6 : decode cX11_dayOf 6 = .ok (.ireturn, 1) := by decide +kernel
set_option maxHeartbeats 4000000 in
set_option maxRecDepth 100000 in
theorem sX11_dayOf (l : Launch) (dC : Nat → ClassId) (dI : Nat → Nat → Nat) (p0 : Int32) (p1 : Int32)  : Met l yX11_dayOf (.code yX11_dayOf cX11_dayOf 2 (some .int) :: wsGA) ({ frames := 0, cells := 0, slots := 0, locals := 0 }) (va_Pc [.int p0, .int p1] (fun U => va_P (dC, dI) vwCl [] U.heap ∧ va_K (dC, dI) vwCl [] U ∧ nzA U)) (va_Qi (fun (r : Int32) (u : Unit) => gi r (-2147483648) 2147483647) (fun _ _ => True) (fun _ => False)) 0 0 (fun _ => False) := by
  refine Met.ofW (cc := cX11_dayOf) (maxL := 2) (ret := (some .int)) (by decide) rfl ?_
  intro p e s m args below meth c s₁ B hml hv
  obtain ⟨rfl, hP, hK, hz⟩ := hv
  have hx := B.exec
  have hb := B.bytes
  have hr := B.returns
  have hts := atoms_spec (ws := (.code yX11_dayOf cX11_dayOf 2 (some .int) :: wsGA)) B.pre
  have hown : s.vm.findClass RX11 = some m.cls := findClass_of_methodNamed B.named
  have hlocks := B.notSynchronized
  have hS : va_S (fun _ => False) s.heap s.heap [] := va_S.rf
  have hl := lv_entry ([.int p0, .int p1]) (n := 2) (Nat.le_of_ble_eq_true rfl)
  rw [lg_entry_eq]
  generalize (lg_sl ([.int p0, .int p1]) ++ List.replicate (2 - (lg_sl ([.int p0, .int p1])).length) Slot.unset).toArray = ls at hl ⊢
  have hl : lv_has ls 2 [(0, .int p0), (1, .int p1)] := hl
  refine lv_bipush (v := 29) hx hb dX11_dayOf_0 (by decide) ?_
  refine lv_iload_n hx hb dX11_dayOf_2 rfl (lv_at hl 0 rfl) ?_
  refine lv_imul hx hb dX11_dayOf_3 ?_
  refine lv_topi (fun x_3 ex_3 => ?_)
  refine lv_iload_n hx hb dX11_dayOf_4 rfl (lv_at hl 1 rfl) ?_
  refine lv_iadd hx hb dX11_dayOf_5 ?_
  refine lv_topi (fun x_4 ex_4 => ?_)
  exact W.iret (v := x_4) hx hb hr (fun t ht hW => ⟨⟨x_4, (), rfl, (gi_any x_4), trivial⟩, hS.F ht⟩) hS.2.2 dX11_dayOf_6
theorem dX11_anchorOf_0 : decode cX11_anchorOf 0 = .ok (.iload_n 1, 1) := by decide +kernel
theorem dX11_anchorOf_1 : decode cX11_anchorOf 1 = .ok (.bipush 30, 2) := by decide +kernel
theorem dX11_anchorOf_3 : decode cX11_anchorOf 3 = .ok (.if_icmp .ne 9, 3) := by decide +kernel
theorem dX11_anchorOf_6 : decode cX11_anchorOf 6 = .ok (.iload_n 0, 1) := by decide +kernel
theorem dX11_anchorOf_7 : decode cX11_anchorOf 7 = .ok (.iconst 1, 1) := by decide +kernel
theorem dX11_anchorOf_8 : decode cX11_anchorOf 8 = .ok (.iadd, 1) := by decide +kernel
theorem dX11_anchorOf_9 : decode cX11_anchorOf 9 = .ok (.goto 4, 3) := by decide +kernel
theorem dX11_anchorOf_12 : decode cX11_anchorOf 12 = .ok (.iload_n 0, 1) := by decide +kernel
theorem dX11_anchorOf_13 : decode cX11_anchorOf 13 = .ok (.ireturn, 1) := by decide +kernel
set_option maxHeartbeats 4000000 in
set_option maxRecDepth 100000 in
theorem sX11_anchorOf (l : Launch) (dC : Nat → ClassId) (dI : Nat → Nat → Nat) (p0 : Int32) (p1 : Int32) (gp0 : gi p0 0 23) : Met l yX11_anchorOf (.code yX11_anchorOf cX11_anchorOf 2 (some .int) :: wsGA) ({ frames := 0, cells := 0, slots := 0, locals := 0 }) (va_Pc [.int p0, .int p1] (fun U => va_P (dC, dI) vwCl [] U.heap ∧ va_K (dC, dI) vwCl [] U ∧ nzA U)) (va_Qi (fun (r : Int32) (u : Unit) => gi r 0 24) (fun _ _ => True) (fun _ => False)) 0 0 (fun _ => False) := by
  refine Met.ofW (cc := cX11_anchorOf) (maxL := 2) (ret := (some .int)) (by decide) rfl ?_
  intro p e s m args below meth c s₁ B hml hv
  obtain ⟨rfl, hP, hK, hz⟩ := hv
  have hx := B.exec
  have hb := B.bytes
  have hr := B.returns
  have hts := atoms_spec (ws := (.code yX11_anchorOf cX11_anchorOf 2 (some .int) :: wsGA)) B.pre
  have hown : s.vm.findClass RX11 = some m.cls := findClass_of_methodNamed B.named
  have hlocks := B.notSynchronized
  have hS : va_S (fun _ => False) s.heap s.heap [] := va_S.rf
  have hl := lv_entry ([.int p0, .int p1]) (n := 2) (Nat.le_of_ble_eq_true rfl)
  rw [lg_entry_eq]
  generalize (lg_sl ([.int p0, .int p1]) ++ List.replicate (2 - (lg_sl ([.int p0, .int p1])).length) Slot.unset).toArray = ls at hl ⊢
  have hl : lv_has ls 2 [(0, .int p0), (1, .int p1)] := hl
  refine lv_iload_n hx hb dX11_anchorOf_0 rfl (lv_at hl 1 rfl) ?_
  refine lv_bipush (v := 30) hx hb dX11_anchorOf_1 (by decide) ?_
  refine lv_icmp_ne (tgt := 12) hx hb dX11_anchorOf_3 (by decide) (fun c_4 => ?_) (fun c_4 => ?_)
  · refine lv_iload_n hx hb dX11_anchorOf_12 rfl (lv_at hl 0 rfl) ?_
    exact W.iret (v := p0) hx hb hr (fun t ht hW => ⟨⟨p0, (), rfl, (gi_w gp0 (by decide)), trivial⟩, hS.F ht⟩) hS.2.2 dX11_anchorOf_13
  · have g_5 : gi p1 30 30 := gi_eq c_4 (gi_c 30 30 (by decide))
    refine lv_iload_n hx hb dX11_anchorOf_6 rfl (lv_at hl 0 rfl) ?_
    refine lv_iconst (v := 1) hx hb dX11_anchorOf_7 (by decide) ?_
    refine lv_iadd hx hb dX11_anchorOf_8 ?_
    refine lv_topi (fun x_6 ex_6 => ?_)
    have gx_6 : gi x_6 1 24 := gi_add ex_6 gp0 (gi_c 1 1 (by decide)) (by decide)
    refine lv_goto (tgt := 13) hx hb dX11_anchorOf_9 (by decide) ?_
    exact W.iret (v := x_6) hx hb hr (fun t ht hW => ⟨⟨x_6, (), rfl, (gi_w gx_6 (by decide)), trivial⟩, hS.F ht⟩) hS.2.2 dX11_anchorOf_13
theorem dX11_offsetOf_0 : decode cX11_offsetOf 0 = .ok (.iload_n 0, 1) := by decide +kernel
theorem dX11_offsetOf_1 : decode cX11_offsetOf 1 = .ok (.bipush 30, 2) := by decide +kernel
theorem dX11_offsetOf_3 : decode cX11_offsetOf 3 = .ok (.if_icmp .ne 7, 3) := by decide +kernel
theorem dX11_offsetOf_6 : decode cX11_offsetOf 6 = .ok (.iconst (-1), 1) := by decide +kernel
theorem dX11_offsetOf_7 : decode cX11_offsetOf 7 = .ok (.goto 6, 3) := by decide +kernel
theorem dX11_offsetOf_10 : decode cX11_offsetOf 10 = .ok (.iload_n 0, 1) := by decide +kernel
theorem dX11_offsetOf_11 : decode cX11_offsetOf 11 = .ok (.iconst 1, 1) := by decide +kernel
theorem dX11_offsetOf_12 : decode cX11_offsetOf 12 = .ok (.isub, 1) := by decide +kernel
theorem dX11_offsetOf_13 : decode cX11_offsetOf 13 = .ok (.ireturn, 1) := by decide +kernel
set_option maxHeartbeats 4000000 in
set_option maxRecDepth 100000 in
theorem sX11_offsetOf (l : Launch) (dC : Nat → ClassId) (dI : Nat → Nat → Nat) (p0 : Int32)  : Met l yX11_offsetOf (.code yX11_offsetOf cX11_offsetOf 1 (some .int) :: wsGA) ({ frames := 0, cells := 0, slots := 0, locals := 0 }) (va_Pc [.int p0] (fun U => va_P (dC, dI) vwCl [] U.heap ∧ va_K (dC, dI) vwCl [] U ∧ nzA U)) (va_Qi (fun (r : Int32) (u : Unit) => gi r (-2147483648) 2147483647) (fun _ _ => True) (fun _ => False)) 0 0 (fun _ => False) := by
  refine Met.ofW (cc := cX11_offsetOf) (maxL := 1) (ret := (some .int)) (by decide) rfl ?_
  intro p e s m args below meth c s₁ B hml hv
  obtain ⟨rfl, hP, hK, hz⟩ := hv
  have hx := B.exec
  have hb := B.bytes
  have hr := B.returns
  have hts := atoms_spec (ws := (.code yX11_offsetOf cX11_offsetOf 1 (some .int) :: wsGA)) B.pre
  have hown : s.vm.findClass RX11 = some m.cls := findClass_of_methodNamed B.named
  have hlocks := B.notSynchronized
  have hS : va_S (fun _ => False) s.heap s.heap [] := va_S.rf
  have hl := lv_entry ([.int p0]) (n := 1) (Nat.le_of_ble_eq_true rfl)
  rw [lg_entry_eq]
  generalize (lg_sl ([.int p0]) ++ List.replicate (1 - (lg_sl ([.int p0])).length) Slot.unset).toArray = ls at hl ⊢
  have hl : lv_has ls 1 [(0, .int p0)] := hl
  refine lv_iload_n hx hb dX11_offsetOf_0 rfl (lv_at hl 0 rfl) ?_
  refine lv_bipush (v := 30) hx hb dX11_offsetOf_1 (by decide) ?_
  refine lv_icmp_ne (tgt := 10) hx hb dX11_offsetOf_3 (by decide) (fun c_4 => ?_) (fun c_4 => ?_)
  · refine lv_iload_n hx hb dX11_offsetOf_10 rfl (lv_at hl 0 rfl) ?_
    refine lv_iconst (v := 1) hx hb dX11_offsetOf_11 (by decide) ?_
    refine lv_isub hx hb dX11_offsetOf_12 ?_
    refine lv_topi (fun x_5 ex_5 => ?_)
    exact W.iret (v := x_5) hx hb hr (fun t ht hW => ⟨⟨x_5, (), rfl, (gi_any x_5), trivial⟩, hS.F ht⟩) hS.2.2 dX11_offsetOf_13
  · have g_6 : gi p0 30 30 := gi_eq c_4 (gi_c 30 30 (by decide))
    refine lv_iconst (v := (-1)) hx hb dX11_offsetOf_6 (by decide) ?_
    refine lv_goto (tgt := 13) hx hb dX11_offsetOf_7 (by decide) ?_
    exact W.iret (v := (-1)) hx hb hr (fun t ht hW => ⟨⟨(-1), (), rfl, (gi_any (-1)), trivial⟩, hS.F ht⟩) hS.2.2 dX11_offsetOf_13
theorem dX11_runWithFull_0 : decode cX11_runWithFull 0 = .ok (.iload_n 0, 1) := by decide +kernel
theorem dX11_runWithFull_1 : decode cX11_runWithFull 1 = .ok (.ifCond .eq 8, 3) := by decide +kernel
theorem dX11_runWithFull_4 : decode cX11_runWithFull 4 = .ok (.iload_n 0, 1) := by decide +kernel
theorem dX11_runWithFull_5 : decode cX11_runWithFull 5 = .ok (.iload_n 1, 1) := by decide +kernel
theorem dX11_runWithFull_6 : decode cX11_runWithFull 6 = .ok (.if_icmp .le 5, 3) := by decide +kernel
theorem dX11_runWithFull_9 : decode cX11_runWithFull 9 = .ok (.iconst 1, 1) := by decide +kernel
theorem dX11_runWithFull_10 : decode cX11_runWithFull 10 = .ok (.ireturn, 1) := by decide +kernel
theorem dX11_runWithFull_11 : decode cX11_runWithFull 11 = .ok (.iload_n 0, 1) := by decide +kernel
theorem dX11_runWithFull_12 : decode cX11_runWithFull 12 = .ok (.iload_n 1, 1) := by decide +kernel
theorem dX11_runWithFull_13 : decode cX11_runWithFull 13 = .ok (.if_icmp .ge 9, 3) := by decide +kernel
theorem dX11_runWithFull_16 : decode cX11_runWithFull 16 = .ok (.iload_n 0, 1) := by decide +kernel
theorem dX11_runWithFull_17 : decode cX11_runWithFull 17 = .ok (.iconst 1, 1) := by decide +kernel
theorem dX11_runWithFull_18 : decode cX11_runWithFull 18 = .ok (.iadd, 1) := by decide +kernel
theorem dX11_runWithFull_19 : decode cX11_runWithFull 19 = .ok (.goto 4, 3) := by decide +kernel
theorem dX11_runWithFull_22 : decode cX11_runWithFull 22 = .ok (.iconst 0, 1) := by decide +kernel
theorem dX11_runWithFull_23 : decode cX11_runWithFull 23 = .ok (.ireturn, 1) := by decide +kernel
set_option maxHeartbeats 4000000 in
set_option maxRecDepth 100000 in
theorem sX11_runWithFull (l : Launch) (dC : Nat → ClassId) (dI : Nat → Nat → Nat) (p0 : Int32) (p1 : Int32) (gp0 : gi p0 0 10) (gp1 : gi p1 0 5) : Met l yX11_runWithFull (.code yX11_runWithFull cX11_runWithFull 2 (some .int) :: wsGA) ({ frames := 0, cells := 0, slots := 0, locals := 0 }) (va_Pc [.int p0, .int p1] (fun U => va_P (dC, dI) vwCl [] U.heap ∧ va_K (dC, dI) vwCl [] U ∧ nzA U)) (va_Qi (fun (r : Int32) (u : Unit) => gi r 0 5) (fun _ _ => True) (fun _ => False)) 0 0 (fun _ => False) := by
  refine Met.ofW (cc := cX11_runWithFull) (maxL := 2) (ret := (some .int)) (by decide) rfl ?_
  intro p e s m args below meth c s₁ B hml hv
  obtain ⟨rfl, hP, hK, hz⟩ := hv
  have hx := B.exec
  have hb := B.bytes
  have hr := B.returns
  have hts := atoms_spec (ws := (.code yX11_runWithFull cX11_runWithFull 2 (some .int) :: wsGA)) B.pre
  have hown : s.vm.findClass RX11 = some m.cls := findClass_of_methodNamed B.named
  have hlocks := B.notSynchronized
  have hS : va_S (fun _ => False) s.heap s.heap [] := va_S.rf
  have hl := lv_entry ([.int p0, .int p1]) (n := 2) (Nat.le_of_ble_eq_true rfl)
  rw [lg_entry_eq]
  generalize (lg_sl ([.int p0, .int p1]) ++ List.replicate (2 - (lg_sl ([.int p0, .int p1])).length) Slot.unset).toArray = ls at hl ⊢
  have hl : lv_has ls 2 [(0, .int p0), (1, .int p1)] := hl
  refine lv_iload_n hx hb dX11_runWithFull_0 rfl (lv_at hl 0 rfl) ?_
  refine lv_if_eq (tgt := 9) hx hb dX11_runWithFull_1 (by decide) (fun c_11 => ?_) (fun c_11 => ?_)
  · have g_12 : gi p0 0 0 := gi_eq c_11 (gi_c 0 0 (by decide))
    refine lv_iconst (v := 1) hx hb dX11_runWithFull_9 (by decide) ?_
    exact W.iret (v := 1) hx hb hr (fun t ht hW => ⟨⟨1, (), rfl, (gi_w (gi_c 1 1 (by decide)) (by decide)), trivial⟩, hS.F ht⟩) hS.2.2 dX11_runWithFull_10
  · have g_13 : gi p0 1 10 := gi_ne_lo c_11 gp0 (gi_c 0 0 (by decide)) (by decide)
    refine lv_iload_n hx hb dX11_runWithFull_4 rfl (lv_at hl 0 rfl) ?_
    refine lv_iload_n hx hb dX11_runWithFull_5 rfl (lv_at hl 1 rfl) ?_
    refine lv_icmp_le (tgt := 11) hx hb dX11_runWithFull_6 (by decide) (fun c_14 => ?_) (fun c_14 => ?_)
    · have g_15 : gi p0 1 5 := gi_le_l c_14 g_13 gp1
      have g_16 : gi p1 1 5 := gi_le_r c_14 g_13 gp1
      refine lv_iload_n hx hb dX11_runWithFull_11 rfl (lv_at hl 0 rfl) ?_
      refine lv_iload_n hx hb dX11_runWithFull_12 rfl (lv_at hl 1 rfl) ?_
      refine lv_icmp_ge (tgt := 22) hx hb dX11_runWithFull_13 (by decide) (fun c_17 => ?_) (fun c_17 => ?_)
      · refine lv_iconst (v := 0) hx hb dX11_runWithFull_22 (by decide) ?_
        exact W.iret (v := 0) hx hb hr (fun t ht hW => ⟨⟨0, (), rfl, (gi_w (gi_c 0 0 (by decide)) (by decide)), trivial⟩, hS.F ht⟩) hS.2.2 dX11_runWithFull_23
      · have g_18 : gi p0 1 4 := gi_lt_l (Int32.not_le.mp c_17) g_15 g_16 (by decide)
        have g_19 : gi p1 2 5 := gi_lt_r (Int32.not_le.mp c_17) g_15 g_16 (by decide)
        refine lv_iload_n hx hb dX11_runWithFull_16 rfl (lv_at hl 0 rfl) ?_
        refine lv_iconst (v := 1) hx hb dX11_runWithFull_17 (by decide) ?_
        refine lv_iadd hx hb dX11_runWithFull_18 ?_
        refine lv_topi (fun x_20 ex_20 => ?_)
        have gx_20 : gi x_20 2 5 := gi_add ex_20 g_18 (gi_c 1 1 (by decide)) (by decide)
        refine lv_goto (tgt := 23) hx hb dX11_runWithFull_19 (by decide) ?_
        exact W.iret (v := x_20) hx hb hr (fun t ht hW => ⟨⟨x_20, (), rfl, (gi_w gx_20 (by decide)), trivial⟩, hS.F ht⟩) hS.2.2 dX11_runWithFull_23
    · refine lv_iconst (v := 1) hx hb dX11_runWithFull_9 (by decide) ?_
      exact W.iret (v := 1) hx hb hr (fun t ht hW => ⟨⟨1, (), rfl, (gi_w (gi_c 1 1 (by decide)) (by decide)), trivial⟩, hS.F ht⟩) hS.2.2 dX11_runWithFull_10
theorem dX11_runWithLean_0 : decode cX11_runWithLean 0 = .ok (.iload_n 0, 1) := by decide +kernel
theorem dX11_runWithLean_1 : decode cX11_runWithLean 1 = .ok (.iload_n 1, 1) := by decide +kernel
theorem dX11_runWithLean_2 : decode cX11_runWithLean 2 = .ok (.if_icmp .gt 7, 3) := by decide +kernel
theorem dX11_runWithLean_5 : decode cX11_runWithLean 5 = .ok (.iload_n 1, 1) := by decide +kernel
theorem dX11_runWithLean_6 : decode cX11_runWithLean 6 = .ok (.iconst 1, 1) := by decide +kernel
theorem dX11_runWithLean_7 : decode cX11_runWithLean 7 = .ok (.iadd, 1) := by decide +kernel
theorem dX11_runWithLean_8 : decode cX11_runWithLean 8 = .ok (.ireturn, 1) := by decide +kernel
theorem dX11_runWithLean_9 : decode cX11_runWithLean 9 = .ok (.iload_n 0, 1) := by decide +kernel
theorem dX11_runWithLean_10 : decode cX11_runWithLean 10 = .ok (.iload_n 1, 1) := by decide +kernel
theorem dX11_runWithLean_11 : decode cX11_runWithLean 11 = .ok (.iload_n 2, 1) := by decide +kernel
theorem dX11_runWithLean_12 : decode cX11_runWithLean 12 = .ok (.iadd, 1) := by decide +kernel
theorem dX11_runWithLean_13 : decode cX11_runWithLean 13 = .ok (.if_icmp .ge 9, 3) := by decide +kernel
theorem dX11_runWithLean_16 : decode cX11_runWithLean 16 = .ok (.iload_n 0, 1) := by decide +kernel
theorem dX11_runWithLean_17 : decode cX11_runWithLean 17 = .ok (.iconst 1, 1) := by decide +kernel
theorem dX11_runWithLean_18 : decode cX11_runWithLean 18 = .ok (.iadd, 1) := by decide +kernel
theorem dX11_runWithLean_19 : decode cX11_runWithLean 19 = .ok (.goto 4, 3) := by decide +kernel
theorem dX11_runWithLean_22 : decode cX11_runWithLean 22 = .ok (.iconst 0, 1) := by decide +kernel
theorem dX11_runWithLean_23 : decode cX11_runWithLean 23 = .ok (.ireturn, 1) := by decide +kernel
set_option maxHeartbeats 4000000 in
set_option maxRecDepth 100000 in
theorem sX11_runWithLean (l : Launch) (dC : Nat → ClassId) (dI : Nat → Nat → Nat) (p0 : Int32) (p1 : Int32) (p2 : Int32) (gp0 : gi p0 0 10) (gp1 : gi p1 0 5) (gp2 : gi p2 0 5) : Met l yX11_runWithLean (.code yX11_runWithLean cX11_runWithLean 3 (some .int) :: wsGA) ({ frames := 0, cells := 0, slots := 0, locals := 0 }) (va_Pc [.int p0, .int p1, .int p2] (fun U => va_P (dC, dI) vwCl [] U.heap ∧ va_K (dC, dI) vwCl [] U ∧ nzA U)) (va_Qi (fun (r : Int32) (u : Unit) => gi r 0 10) (fun _ _ => True) (fun _ => False)) 0 0 (fun _ => False) := by
  refine Met.ofW (cc := cX11_runWithLean) (maxL := 3) (ret := (some .int)) (by decide) rfl ?_
  intro p e s m args below meth c s₁ B hml hv
  obtain ⟨rfl, hP, hK, hz⟩ := hv
  have hx := B.exec
  have hb := B.bytes
  have hr := B.returns
  have hts := atoms_spec (ws := (.code yX11_runWithLean cX11_runWithLean 3 (some .int) :: wsGA)) B.pre
  have hown : s.vm.findClass RX11 = some m.cls := findClass_of_methodNamed B.named
  have hlocks := B.notSynchronized
  have hS : va_S (fun _ => False) s.heap s.heap [] := va_S.rf
  have hl := lv_entry ([.int p0, .int p1, .int p2]) (n := 3) (Nat.le_of_ble_eq_true rfl)
  rw [lg_entry_eq]
  generalize (lg_sl ([.int p0, .int p1, .int p2]) ++ List.replicate (3 - (lg_sl ([.int p0, .int p1, .int p2])).length) Slot.unset).toArray = ls at hl ⊢
  have hl : lv_has ls 3 [(0, .int p0), (1, .int p1), (2, .int p2)] := hl
  refine lv_iload_n hx hb dX11_runWithLean_0 rfl (lv_at hl 0 rfl) ?_
  refine lv_iload_n hx hb dX11_runWithLean_1 rfl (lv_at hl 1 rfl) ?_
  refine lv_icmp_gt (tgt := 9) hx hb dX11_runWithLean_2 (by decide) (fun c_10 => ?_) (fun c_10 => ?_)
  · have g_11 : gi p0 1 10 := gi_lt_r c_10 gp1 gp0 (by decide)
    refine lv_iload_n hx hb dX11_runWithLean_9 rfl (lv_at hl 0 rfl) ?_
    refine lv_iload_n hx hb dX11_runWithLean_10 rfl (lv_at hl 1 rfl) ?_
    refine lv_iload_n hx hb dX11_runWithLean_11 rfl (lv_at hl 2 rfl) ?_
    refine lv_iadd hx hb dX11_runWithLean_12 ?_
    refine lv_topi (fun x_12 ex_12 => ?_)
    have gx_12 : gi x_12 0 10 := gi_add ex_12 gp1 gp2 (by decide)
    refine lv_icmp_ge (tgt := 22) hx hb dX11_runWithLean_13 (by decide) (fun c_13 => ?_) (fun c_13 => ?_)
    · refine lv_iconst (v := 0) hx hb dX11_runWithLean_22 (by decide) ?_
      exact W.iret (v := 0) hx hb hr (fun t ht hW => ⟨⟨0, (), rfl, (gi_w (gi_c 0 0 (by decide)) (by decide)), trivial⟩, hS.F ht⟩) hS.2.2 dX11_runWithLean_23
    · have g_14 : gi p0 1 9 := gi_lt_l (Int32.not_le.mp c_13) g_11 gx_12 (by decide)
      have g_15 : gi x_12 2 10 := gi_lt_r (Int32.not_le.mp c_13) g_11 gx_12 (by decide)
      refine lv_iload_n hx hb dX11_runWithLean_16 rfl (lv_at hl 0 rfl) ?_
      refine lv_iconst (v := 1) hx hb dX11_runWithLean_17 (by decide) ?_
      refine lv_iadd hx hb dX11_runWithLean_18 ?_
      refine lv_topi (fun x_16 ex_16 => ?_)
      have gx_16 : gi x_16 2 10 := gi_add ex_16 g_14 (gi_c 1 1 (by decide)) (by decide)
      refine lv_goto (tgt := 23) hx hb dX11_runWithLean_19 (by decide) ?_
      exact W.iret (v := x_16) hx hb hr (fun t ht hW => ⟨⟨x_16, (), rfl, (gi_w gx_16 (by decide)), trivial⟩, hS.F ht⟩) hS.2.2 dX11_runWithLean_23
  · have g_17 : gi p0 0 5 := gi_le_l (Int32.not_lt.mp c_10) gp0 gp1
    refine lv_iload_n hx hb dX11_runWithLean_5 rfl (lv_at hl 1 rfl) ?_
    refine lv_iconst (v := 1) hx hb dX11_runWithLean_6 (by decide) ?_
    refine lv_iadd hx hb dX11_runWithLean_7 ?_
    refine lv_topi (fun x_18 ex_18 => ?_)
    have gx_18 : gi x_18 1 6 := gi_add ex_18 gp1 (gi_c 1 1 (by decide)) (by decide)
    exact W.iret (v := x_18) hx hb hr (fun t ht hW => ⟨⟨x_18, (), rfl, (gi_w gx_18 (by decide)), trivial⟩, hS.F ht⟩) hS.2.2 dX11_runWithLean_8
theorem dX11_firstRun_0 : decode cX11_firstRun 0 = .ok (.iload_n 0, 1) := by decide +kernel
theorem dX11_firstRun_1 : decode cX11_firstRun 1 = .ok (.ifCond .ne 7, 3) := by decide +kernel
theorem dX11_firstRun_4 : decode cX11_firstRun 4 = .ok (.iconst 0, 1) := by decide +kernel
theorem dX11_firstRun_5 : decode cX11_firstRun 5 = .ok (.goto 4, 3) := by decide +kernel
theorem dX11_firstRun_8 : decode cX11_firstRun 8 = .ok (.iconst 1, 1) := by decide +kernel
theorem dX11_firstRun_9 : decode cX11_firstRun 9 = .ok (.ireturn, 1) := by decide +kernel
set_option maxHeartbeats 4000000 in
set_option maxRecDepth 100000 in
theorem sX11_firstRun (l : Launch) (dC : Nat → ClassId) (dI : Nat → Nat → Nat) (p0 : Int32) (gp0 : gi p0 0 24) : Met l yX11_firstRun (.code yX11_firstRun cX11_firstRun 1 (some .int) :: wsGA) ({ frames := 0, cells := 0, slots := 0, locals := 0 }) (va_Pc [.int p0] (fun U => va_P (dC, dI) vwCl [] U.heap ∧ va_K (dC, dI) vwCl [] U ∧ nzA U)) (va_Qi (fun (r : Int32) (u : Unit) => gi r 0 1) (fun _ _ => True) (fun _ => False)) 0 0 (fun _ => False) := by
  refine Met.ofW (cc := cX11_firstRun) (maxL := 1) (ret := (some .int)) (by decide) rfl ?_
  intro p e s m args below meth c s₁ B hml hv
  obtain ⟨rfl, hP, hK, hz⟩ := hv
  have hx := B.exec
  have hb := B.bytes
  have hr := B.returns
  have hts := atoms_spec (ws := (.code yX11_firstRun cX11_firstRun 1 (some .int) :: wsGA)) B.pre
  have hown : s.vm.findClass RX11 = some m.cls := findClass_of_methodNamed B.named
  have hlocks := B.notSynchronized
  have hS : va_S (fun _ => False) s.heap s.heap [] := va_S.rf
  have hl := lv_entry ([.int p0]) (n := 1) (Nat.le_of_ble_eq_true rfl)
  rw [lg_entry_eq]
  generalize (lg_sl ([.int p0]) ++ List.replicate (1 - (lg_sl ([.int p0])).length) Slot.unset).toArray = ls at hl ⊢
  have hl : lv_has ls 1 [(0, .int p0)] := hl
  refine lv_iload_n hx hb dX11_firstRun_0 rfl (lv_at hl 0 rfl) ?_
  refine lv_if_ne (tgt := 8) hx hb dX11_firstRun_1 (by decide) (fun c_4 => ?_) (fun c_4 => ?_)
  · have g_5 : gi p0 1 24 := gi_ne_lo c_4 gp0 (gi_c 0 0 (by decide)) (by decide)
    refine lv_iconst (v := 1) hx hb dX11_firstRun_8 (by decide) ?_
    exact W.iret (v := 1) hx hb hr (fun t ht hW => ⟨⟨1, (), rfl, (gi_w (gi_c 1 1 (by decide)) (by decide)), trivial⟩, hS.F ht⟩) hS.2.2 dX11_firstRun_9
  · have g_6 : gi p0 0 0 := gi_eq c_4 (gi_c 0 0 (by decide))
    refine lv_iconst (v := 0) hx hb dX11_firstRun_4 (by decide) ?_
    refine lv_goto (tgt := 9) hx hb dX11_firstRun_5 (by decide) ?_
    exact W.iret (v := 0) hx hb hr (fun t ht hW => ⟨⟨0, (), rfl, (gi_w (gi_c 0 0 (by decide)) (by decide)), trivial⟩, hS.F ht⟩) hS.2.2 dX11_firstRun_9
theorem dX11_lastRun_0 : decode cX11_lastRun 0 = .ok (.iload_n 0, 1) := by decide +kernel
theorem dX11_lastRun_1 : decode cX11_lastRun 1 = .ok (.ifCond .ne 7, 3) := by decide +kernel
theorem dX11_lastRun_4 : decode cX11_lastRun 4 = .ok (.iconst 0, 1) := by decide +kernel
theorem dX11_lastRun_5 : decode cX11_lastRun 5 = .ok (.goto 6, 3) := by decide +kernel
theorem dX11_lastRun_8 : decode cX11_lastRun 8 = .ok (.iload_n 1, 1) := by decide +kernel
theorem dX11_lastRun_9 : decode cX11_lastRun 9 = .ok (.iload_n 2, 1) := by decide +kernel
theorem dX11_lastRun_10 : decode cX11_lastRun 10 = .ok (.iadd, 1) := by decide +kernel
theorem dX11_lastRun_11 : decode cX11_lastRun 11 = .ok (.ireturn, 1) := by decide +kernel
set_option maxHeartbeats 4000000 in
set_option maxRecDepth 100000 in
theorem sX11_lastRun (l : Launch) (dC : Nat → ClassId) (dI : Nat → Nat → Nat) (p0 : Int32) (p1 : Int32) (p2 : Int32) (gp0 : gi p0 0 24) (gp1 : gi p1 0 5) (gp2 : gi p2 0 5) : Met l yX11_lastRun (.code yX11_lastRun cX11_lastRun 3 (some .int) :: wsGA) ({ frames := 0, cells := 0, slots := 0, locals := 0 }) (va_Pc [.int p0, .int p1, .int p2] (fun U => va_P (dC, dI) vwCl [] U.heap ∧ va_K (dC, dI) vwCl [] U ∧ nzA U)) (va_Qi (fun (r : Int32) (u : Unit) => gi r 0 10) (fun _ _ => True) (fun _ => False)) 0 0 (fun _ => False) := by
  refine Met.ofW (cc := cX11_lastRun) (maxL := 3) (ret := (some .int)) (by decide) rfl ?_
  intro p e s m args below meth c s₁ B hml hv
  obtain ⟨rfl, hP, hK, hz⟩ := hv
  have hx := B.exec
  have hb := B.bytes
  have hr := B.returns
  have hts := atoms_spec (ws := (.code yX11_lastRun cX11_lastRun 3 (some .int) :: wsGA)) B.pre
  have hown : s.vm.findClass RX11 = some m.cls := findClass_of_methodNamed B.named
  have hlocks := B.notSynchronized
  have hS : va_S (fun _ => False) s.heap s.heap [] := va_S.rf
  have hl := lv_entry ([.int p0, .int p1, .int p2]) (n := 3) (Nat.le_of_ble_eq_true rfl)
  rw [lg_entry_eq]
  generalize (lg_sl ([.int p0, .int p1, .int p2]) ++ List.replicate (3 - (lg_sl ([.int p0, .int p1, .int p2])).length) Slot.unset).toArray = ls at hl ⊢
  have hl : lv_has ls 3 [(0, .int p0), (1, .int p1), (2, .int p2)] := hl
  refine lv_iload_n hx hb dX11_lastRun_0 rfl (lv_at hl 0 rfl) ?_
  refine lv_if_ne (tgt := 8) hx hb dX11_lastRun_1 (by decide) (fun c_5 => ?_) (fun c_5 => ?_)
  · have g_6 : gi p0 1 24 := gi_ne_lo c_5 gp0 (gi_c 0 0 (by decide)) (by decide)
    refine lv_iload_n hx hb dX11_lastRun_8 rfl (lv_at hl 1 rfl) ?_
    refine lv_iload_n hx hb dX11_lastRun_9 rfl (lv_at hl 2 rfl) ?_
    refine lv_iadd hx hb dX11_lastRun_10 ?_
    refine lv_topi (fun x_7 ex_7 => ?_)
    have gx_7 : gi x_7 0 10 := gi_add ex_7 gp1 gp2 (by decide)
    exact W.iret (v := x_7) hx hb hr (fun t ht hW => ⟨⟨x_7, (), rfl, gx_7, trivial⟩, hS.F ht⟩) hS.2.2 dX11_lastRun_11
  · have g_8 : gi p0 0 0 := gi_eq c_5 (gi_c 0 0 (by decide))
    refine lv_iconst (v := 0) hx hb dX11_lastRun_4 (by decide) ?_
    refine lv_goto (tgt := 11) hx hb dX11_lastRun_5 (by decide) ?_
    exact W.iret (v := 0) hx hb hr (fun t ht hW => ⟨⟨0, (), rfl, (gi_w (gi_c 0 0 (by decide)) (by decide)), trivial⟩, hS.F ht⟩) hS.2.2 dX11_lastRun_11
theorem dX11_cell_0 : decode cX11_cell 0 = .ok (.iload_n 0, 1) := by decide +kernel
theorem dX11_cell_1 : decode cX11_cell 1 = .ok (.iload_n 0, 1) := by decide +kernel
theorem dX11_cell_2 : decode cX11_cell 2 = .ok (.iconst 1, 1) := by decide +kernel
theorem dX11_cell_3 : decode cX11_cell 3 = .ok (.iadd, 1) := by decide +kernel
theorem dX11_cell_4 : decode cX11_cell 4 = .ok (.imul, 1) := by decide +kernel
theorem dX11_cell_5 : decode cX11_cell 5 = .ok (.iconst 2, 1) := by decide +kernel
theorem dX11_cell_6 : decode cX11_cell 6 = .ok (.idiv, 1) := by decide +kernel
theorem dX11_cell_7 : decode cX11_cell 7 = .ok (.iload_n 1, 1) := by decide +kernel
theorem dX11_cell_8 : decode cX11_cell 8 = .ok (.iadd, 1) := by decide +kernel
theorem dX11_cell_9 : decode cX11_cell 9 = .ok (.ireturn, 1) := by decide +kernel
set_option maxHeartbeats 4000000 in
set_option maxRecDepth 100000 in
theorem sX11_cell0 (l : Launch) (dC : Nat → ClassId) (dI : Nat → Nat → Nat) (p0 : Int32) (p1 : Int32) (gp0 : gi p0 0 24) (gp1 : gi p1 0 0) : Met l yX11_cell (.code yX11_cell cX11_cell 2 (some .int) :: wsGA) ({ frames := 0, cells := 0, slots := 0, locals := 0 }) (va_Pc [.int p0, .int p1] (fun U => va_P (dC, dI) vwCl [] U.heap ∧ va_K (dC, dI) vwCl [] U ∧ nzA U)) (va_Qi (fun (r : Int32) (u : Unit) => gi r 0 300) (fun _ _ => True) (fun _ => False)) 0 0 (fun _ => False) := by
  refine Met.ofW (cc := cX11_cell) (maxL := 2) (ret := (some .int)) (by decide) rfl ?_
  intro p e s m args below meth c s₁ B hml hv
  obtain ⟨rfl, hP, hK, hz⟩ := hv
  have hx := B.exec
  have hb := B.bytes
  have hr := B.returns
  have hts := atoms_spec (ws := (.code yX11_cell cX11_cell 2 (some .int) :: wsGA)) B.pre
  have hown : s.vm.findClass RX11 = some m.cls := findClass_of_methodNamed B.named
  have hlocks := B.notSynchronized
  have hS : va_S (fun _ => False) s.heap s.heap [] := va_S.rf
  have hl := lv_entry ([.int p0, .int p1]) (n := 2) (Nat.le_of_ble_eq_true rfl)
  rw [lg_entry_eq]
  generalize (lg_sl ([.int p0, .int p1]) ++ List.replicate (2 - (lg_sl ([.int p0, .int p1])).length) Slot.unset).toArray = ls at hl ⊢
  have hl : lv_has ls 2 [(0, .int p0), (1, .int p1)] := hl
  refine lv_iload_n hx hb dX11_cell_0 rfl (lv_at hl 0 rfl) ?_
  refine lv_iload_n hx hb dX11_cell_1 rfl (lv_at hl 0 rfl) ?_
  refine lv_iconst (v := 1) hx hb dX11_cell_2 (by decide) ?_
  refine lv_iadd hx hb dX11_cell_3 ?_
  refine lv_topi (fun x_5 ex_5 => ?_)
  have gx_5 : gi x_5 1 25 := gi_add ex_5 gp0 (gi_c 1 1 (by decide)) (by decide)
  refine lv_imul hx hb dX11_cell_4 ?_
  refine lv_topi (fun x_6 ex_6 => ?_)
  have gx_6 : gi x_6 0 600 := gi_mul ex_6 gp0 gx_5 (by decide)
  refine lv_iconst (v := 2) hx hb dX11_cell_5 (by decide) ?_
  refine lv_idiv hx hb dX11_cell_6 (by decide) ?_
  refine lv_topi (fun x_7 ex_7 => ?_)
  have gx_7 : gi x_7 0 300 := gi_div ex_7 gx_6 (gi_c 2 2 (by decide)) (by decide)
  refine lv_iload_n hx hb dX11_cell_7 rfl (lv_at hl 1 rfl) ?_
  refine lv_iadd hx hb dX11_cell_8 ?_
  refine lv_topi (fun x_8 ex_8 => ?_)
  have gx_8 : gi x_8 0 300 := gi_add ex_8 gx_7 gp1 (by decide)
  exact W.iret (v := x_8) hx hb hr (fun t ht hW => ⟨⟨x_8, (), rfl, gx_8, trivial⟩, hS.F ht⟩) hS.2.2 dX11_cell_9
set_option maxHeartbeats 4000000 in
set_option maxRecDepth 100000 in
theorem sX11_cell (l : Launch) (dC : Nat → ClassId) (dI : Nat → Nat → Nat) (p0 : Int32) (p1 : Int32) (gp0 : gi p0 0 24) (gp1 : gi p1 0 24) : Met l yX11_cell (.code yX11_cell cX11_cell 2 (some .int) :: wsGA) ({ frames := 0, cells := 0, slots := 0, locals := 0 }) (va_Pc [.int p0, .int p1] (fun U => va_P (dC, dI) vwCl [] U.heap ∧ va_K (dC, dI) vwCl [] U ∧ nzA U)) (va_Qi (fun (r : Int32) (u : Unit) => gi r 0 324) (fun _ _ => True) (fun _ => False)) 0 0 (fun _ => False) := by
  refine Met.ofW (cc := cX11_cell) (maxL := 2) (ret := (some .int)) (by decide) rfl ?_
  intro p e s m args below meth c s₁ B hml hv
  obtain ⟨rfl, hP, hK, hz⟩ := hv
  have hx := B.exec
  have hb := B.bytes
  have hr := B.returns
  have hts := atoms_spec (ws := (.code yX11_cell cX11_cell 2 (some .int) :: wsGA)) B.pre
  have hown : s.vm.findClass RX11 = some m.cls := findClass_of_methodNamed B.named
  have hlocks := B.notSynchronized
  have hS : va_S (fun _ => False) s.heap s.heap [] := va_S.rf
  have hl := lv_entry ([.int p0, .int p1]) (n := 2) (Nat.le_of_ble_eq_true rfl)
  rw [lg_entry_eq]
  generalize (lg_sl ([.int p0, .int p1]) ++ List.replicate (2 - (lg_sl ([.int p0, .int p1])).length) Slot.unset).toArray = ls at hl ⊢
  have hl : lv_has ls 2 [(0, .int p0), (1, .int p1)] := hl
  refine lv_iload_n hx hb dX11_cell_0 rfl (lv_at hl 0 rfl) ?_
  refine lv_iload_n hx hb dX11_cell_1 rfl (lv_at hl 0 rfl) ?_
  refine lv_iconst (v := 1) hx hb dX11_cell_2 (by decide) ?_
  refine lv_iadd hx hb dX11_cell_3 ?_
  refine lv_topi (fun x_5 ex_5 => ?_)
  have gx_5 : gi x_5 1 25 := gi_add ex_5 gp0 (gi_c 1 1 (by decide)) (by decide)
  refine lv_imul hx hb dX11_cell_4 ?_
  refine lv_topi (fun x_6 ex_6 => ?_)
  have gx_6 : gi x_6 0 600 := gi_mul ex_6 gp0 gx_5 (by decide)
  refine lv_iconst (v := 2) hx hb dX11_cell_5 (by decide) ?_
  refine lv_idiv hx hb dX11_cell_6 (by decide) ?_
  refine lv_topi (fun x_7 ex_7 => ?_)
  have gx_7 : gi x_7 0 300 := gi_div ex_7 gx_6 (gi_c 2 2 (by decide)) (by decide)
  refine lv_iload_n hx hb dX11_cell_7 rfl (lv_at hl 1 rfl) ?_
  refine lv_iadd hx hb dX11_cell_8 ?_
  refine lv_topi (fun x_8 ex_8 => ?_)
  have gx_8 : gi x_8 0 324 := gi_add ex_8 gx_7 gp1 (by decide)
  exact W.iret (v := x_8) hx hb hr (fun t ht hW => ⟨⟨x_8, (), rfl, gx_8, trivial⟩, hS.F ht⟩) hS.2.2 dX11_cell_9
theorem dX11_spot_0 : decode cX11_spot 0 = .ok (.iload_n 0, 1) := by decide +kernel
theorem dX11_spot_1 : decode cX11_spot 1 = .ok (.iload_n 1, 1) := by decide +kernel
theorem dX11_spot_2 : decode cX11_spot 2 = .ok (.invokestatic 425, 3) := by decide +kernel
theorem dX11_spot_5 : decode cX11_spot 5 = .ok (.bipush 11, 2) := by decide +kernel
theorem dX11_spot_7 : decode cX11_spot 7 = .ok (.imul, 1) := by decide +kernel
theorem dX11_spot_8 : decode cX11_spot 8 = .ok (.iload_n 2, 1) := by decide +kernel
theorem dX11_spot_9 : decode cX11_spot 9 = .ok (.iadd, 1) := by decide +kernel
theorem dX11_spot_10 : decode cX11_spot 10 = .ok (.ireturn, 1) := by decide +kernel
set_option maxHeartbeats 4000000 in
set_option maxRecDepth 100000 in
theorem sX11_spot00 (l : Launch) (dC : Nat → ClassId) (dI : Nat → Nat → Nat) (p0 : Int32) (p1 : Int32) (p2 : Int32) (gp0 : gi p0 0 24) (gp1 : gi p1 0 0) (gp2 : gi p2 0 0) : Met l yX11_spot (.code yX11_spot cX11_spot 3 (some .int) :: wsGA) ({ frames := 1, cells := 0, slots := 0, locals := 21 }) (va_Pc [.int p0, .int p1, .int p2] (fun U => va_P (dC, dI) vwCl [] U.heap ∧ va_K (dC, dI) vwCl [] U ∧ nzA U)) (va_Qi (fun (r : Int32) (u : Unit) => gi r 0 3300) (fun _ _ => True) (fun _ => False)) 0 0 (fun _ => False) := by
  refine Met.ofW (cc := cX11_spot) (maxL := 3) (ret := (some .int)) (by decide) rfl ?_
  intro p e s m args below meth c s₁ B hml hv
  obtain ⟨rfl, hP, hK, hz⟩ := hv
  have hx := B.exec
  have hb := B.bytes
  have hr := B.returns
  have hts := atoms_spec (ws := (.code yX11_spot cX11_spot 3 (some .int) :: wsGA)) B.pre
  have hown : s.vm.findClass RX11 = some m.cls := findClass_of_methodNamed B.named
  have hlocks := B.notSynchronized
  have hS : va_S (fun _ => False) s.heap s.heap [] := va_S.rf
  have hl := lv_entry ([.int p0, .int p1, .int p2]) (n := 3) (Nat.le_of_ble_eq_true rfl)
  rw [lg_entry_eq]
  generalize (lg_sl ([.int p0, .int p1, .int p2]) ++ List.replicate (3 - (lg_sl ([.int p0, .int p1, .int p2])).length) Slot.unset).toArray = ls at hl ⊢
  have hl : lv_has ls 3 [(0, .int p0), (1, .int p1), (2, .int p2)] := hl
  refine lv_iload_n hx hb dX11_spot_0 rfl (lv_at hl 0 rfl) ?_
  refine lv_iload_n hx hb dX11_spot_1 rfl (lv_at hl 1 rfl) ?_
  have hPc := hP.sub (ws' := []) [] rfl
  have hKc := hK.sub (tys' := []) [] rfl
  refine va_calli (va_runS (As := [.int p0, .int p1]) (rest := []) ⟨hx, hb, hml, hown, hts⟩ (sX11_cell0 l dC dI p0 p1 gp0 gp1) (cwS 2 hts (gz_gS mGA_583 mGA_584 mGA_1 mGA_585 goodGA) rfl rfl rfl (by decide +kernel) ⟨Nat.le_of_ble_eq_true rfl, Nat.le_of_ble_eq_true rfl⟩) ⟨bl_I (bl_a bl_P (bl_a bl_K bl_nz)), fun U hU hW => ⟨rfl, by rw [hU]; exact hPc, va_K.moved hW.alike hKc, nzA_warm hW hz⟩⟩ rfl rfl hl.1 rfl (lv_room (Nat.le_of_ble_eq_true rfl)) dX11_spot_2 ⟨Nat.zero_le _, Nat.zero_le _⟩) hS (fun q _ h => h.elim) (fun q h => h.elim) (fun r_4 u t H1 locs ht hvm hw hB hz1 hk1 hS => ?_)
  have hP := gz_keep hP hk1
  generalize H1 = H at hP hS ⊢
  have gr_4 : gi r_4 0 300 := hw
  refine lv_bipush (v := 11) hx hb dX11_spot_5 (by decide) ?_
  refine lv_imul hx hb dX11_spot_7 ?_
  refine lv_topi (fun x_5 ex_5 => ?_)
  have gx_5 : gi x_5 0 3300 := gi_mul ex_5 gr_4 (gi_c 11 11 (by decide)) (by decide)
  refine lv_iload_n hx hb dX11_spot_8 rfl (lv_at hl 2 rfl) ?_
  refine lv_iadd hx hb dX11_spot_9 ?_
  refine lv_topi (fun x_6 ex_6 => ?_)
  have gx_6 : gi x_6 0 3300 := gi_add ex_6 gx_5 gp2 (by decide)
  exact W.iret (v := x_6) hx hb hr (fun t ht hW => ⟨⟨x_6, (), rfl, gx_6, trivial⟩, hS.F ht⟩) hS.2.2 dX11_spot_10
set_option maxHeartbeats 4000000 in
set_option maxRecDepth 100000 in
theorem sX11_spot0 (l : Launch) (dC : Nat → ClassId) (dI : Nat → Nat → Nat) (p0 : Int32) (p1 : Int32) (p2 : Int32) (gp0 : gi p0 0 24) (gp1 : gi p1 0 24) (gp2 : gi p2 0 0) : Met l yX11_spot (.code yX11_spot cX11_spot 3 (some .int) :: wsGA) ({ frames := 1, cells := 0, slots := 0, locals := 21 }) (va_Pc [.int p0, .int p1, .int p2] (fun U => va_P (dC, dI) vwCl [] U.heap ∧ va_K (dC, dI) vwCl [] U ∧ nzA U)) (va_Qi (fun (r : Int32) (u : Unit) => gi r 0 3564) (fun _ _ => True) (fun _ => False)) 0 0 (fun _ => False) := by
  refine Met.ofW (cc := cX11_spot) (maxL := 3) (ret := (some .int)) (by decide) rfl ?_
  intro p e s m args below meth c s₁ B hml hv
  obtain ⟨rfl, hP, hK, hz⟩ := hv
  have hx := B.exec
  have hb := B.bytes
  have hr := B.returns
  have hts := atoms_spec (ws := (.code yX11_spot cX11_spot 3 (some .int) :: wsGA)) B.pre
  have hown : s.vm.findClass RX11 = some m.cls := findClass_of_methodNamed B.named
  have hlocks := B.notSynchronized
  have hS : va_S (fun _ => False) s.heap s.heap [] := va_S.rf
  have hl := lv_entry ([.int p0, .int p1, .int p2]) (n := 3) (Nat.le_of_ble_eq_true rfl)
  rw [lg_entry_eq]
  generalize (lg_sl ([.int p0, .int p1, .int p2]) ++ List.replicate (3 - (lg_sl ([.int p0, .int p1, .int p2])).length) Slot.unset).toArray = ls at hl ⊢
  have hl : lv_has ls 3 [(0, .int p0), (1, .int p1), (2, .int p2)] := hl
  refine lv_iload_n hx hb dX11_spot_0 rfl (lv_at hl 0 rfl) ?_
  refine lv_iload_n hx hb dX11_spot_1 rfl (lv_at hl 1 rfl) ?_
  have hPc := hP.sub (ws' := []) [] rfl
  have hKc := hK.sub (tys' := []) [] rfl
  refine va_calli (va_runS (As := [.int p0, .int p1]) (rest := []) ⟨hx, hb, hml, hown, hts⟩ (sX11_cell l dC dI p0 p1 gp0 gp1) (cwS 2 hts (gz_gS mGA_583 mGA_584 mGA_1 mGA_585 goodGA) rfl rfl rfl (by decide +kernel) ⟨Nat.le_of_ble_eq_true rfl, Nat.le_of_ble_eq_true rfl⟩) ⟨bl_I (bl_a bl_P (bl_a bl_K bl_nz)), fun U hU hW => ⟨rfl, by rw [hU]; exact hPc, va_K.moved hW.alike hKc, nzA_warm hW hz⟩⟩ rfl rfl hl.1 rfl (lv_room (Nat.le_of_ble_eq_true rfl)) dX11_spot_2 ⟨Nat.zero_le _, Nat.zero_le _⟩) hS (fun q _ h => h.elim) (fun q h => h.elim) (fun r_4 u t H1 locs ht hvm hw hB hz1 hk1 hS => ?_)
  have hP := gz_keep hP hk1
  generalize H1 = H at hP hS ⊢
  have gr_4 : gi r_4 0 324 := hw
  refine lv_bipush (v := 11) hx hb dX11_spot_5 (by decide) ?_
  refine lv_imul hx hb dX11_spot_7 ?_
  refine lv_topi (fun x_5 ex_5 => ?_)
  have gx_5 : gi x_5 0 3564 := gi_mul ex_5 gr_4 (gi_c 11 11 (by decide)) (by decide)
  refine lv_iload_n hx hb dX11_spot_8 rfl (lv_at hl 2 rfl) ?_
  refine lv_iadd hx hb dX11_spot_9 ?_
  refine lv_topi (fun x_6 ex_6 => ?_)
  have gx_6 : gi x_6 0 3564 := gi_add ex_6 gx_5 gp2 (by decide)
  exact W.iret (v := x_6) hx hb hr (fun t ht hW => ⟨⟨x_6, (), rfl, gx_6, trivial⟩, hS.F ht⟩) hS.2.2 dX11_spot_10
set_option maxHeartbeats 4000000 in
set_option maxRecDepth 100000 in
theorem sX11_spot (l : Launch) (dC : Nat → ClassId) (dI : Nat → Nat → Nat) (p0 : Int32) (p1 : Int32) (p2 : Int32) (gp0 : gi p0 0 24) (gp1 : gi p1 0 24) (gp2 : gi p2 0 10) : Met l yX11_spot (.code yX11_spot cX11_spot 3 (some .int) :: wsGA) ({ frames := 1, cells := 0, slots := 0, locals := 21 }) (va_Pc [.int p0, .int p1, .int p2] (fun U => va_P (dC, dI) vwCl [] U.heap ∧ va_K (dC, dI) vwCl [] U ∧ nzA U)) (va_Qi (fun (r : Int32) (u : Unit) => gi r 0 3574) (fun _ _ => True) (fun _ => False)) 0 0 (fun _ => False) := by
  refine Met.ofW (cc := cX11_spot) (maxL := 3) (ret := (some .int)) (by decide) rfl ?_
  intro p e s m args below meth c s₁ B hml hv
  obtain ⟨rfl, hP, hK, hz⟩ := hv
  have hx := B.exec
  have hb := B.bytes
  have hr := B.returns
  have hts := atoms_spec (ws := (.code yX11_spot cX11_spot 3 (some .int) :: wsGA)) B.pre
  have hown : s.vm.findClass RX11 = some m.cls := findClass_of_methodNamed B.named
  have hlocks := B.notSynchronized
  have hS : va_S (fun _ => False) s.heap s.heap [] := va_S.rf
  have hl := lv_entry ([.int p0, .int p1, .int p2]) (n := 3) (Nat.le_of_ble_eq_true rfl)
  rw [lg_entry_eq]
  generalize (lg_sl ([.int p0, .int p1, .int p2]) ++ List.replicate (3 - (lg_sl ([.int p0, .int p1, .int p2])).length) Slot.unset).toArray = ls at hl ⊢
  have hl : lv_has ls 3 [(0, .int p0), (1, .int p1), (2, .int p2)] := hl
  refine lv_iload_n hx hb dX11_spot_0 rfl (lv_at hl 0 rfl) ?_
  refine lv_iload_n hx hb dX11_spot_1 rfl (lv_at hl 1 rfl) ?_
  have hPc := hP.sub (ws' := []) [] rfl
  have hKc := hK.sub (tys' := []) [] rfl
  refine va_calli (va_runS (As := [.int p0, .int p1]) (rest := []) ⟨hx, hb, hml, hown, hts⟩ (sX11_cell l dC dI p0 p1 gp0 gp1) (cwS 2 hts (gz_gS mGA_583 mGA_584 mGA_1 mGA_585 goodGA) rfl rfl rfl (by decide +kernel) ⟨Nat.le_of_ble_eq_true rfl, Nat.le_of_ble_eq_true rfl⟩) ⟨bl_I (bl_a bl_P (bl_a bl_K bl_nz)), fun U hU hW => ⟨rfl, by rw [hU]; exact hPc, va_K.moved hW.alike hKc, nzA_warm hW hz⟩⟩ rfl rfl hl.1 rfl (lv_room (Nat.le_of_ble_eq_true rfl)) dX11_spot_2 ⟨Nat.zero_le _, Nat.zero_le _⟩) hS (fun q _ h => h.elim) (fun q h => h.elim) (fun r_4 u t H1 locs ht hvm hw hB hz1 hk1 hS => ?_)
  have hP := gz_keep hP hk1
  generalize H1 = H at hP hS ⊢
  have gr_4 : gi r_4 0 324 := hw
  refine lv_bipush (v := 11) hx hb dX11_spot_5 (by decide) ?_
  refine lv_imul hx hb dX11_spot_7 ?_
  refine lv_topi (fun x_5 ex_5 => ?_)
  have gx_5 : gi x_5 0 3564 := gi_mul ex_5 gr_4 (gi_c 11 11 (by decide)) (by decide)
  refine lv_iload_n hx hb dX11_spot_8 rfl (lv_at hl 2 rfl) ?_
  refine lv_iadd hx hb dX11_spot_9 ?_
  refine lv_topi (fun x_6 ex_6 => ?_)
  have gx_6 : gi x_6 0 3574 := gi_add ex_6 gx_5 gp2 (by decide)
  exact W.iret (v := x_6) hx hb hr (fun t ht hW => ⟨⟨x_6, (), rfl, gx_6, trivial⟩, hS.F ht⟩) hS.2.2 dX11_spot_10
theorem dX11_isEither_0 : decode cX11_isEither 0 = .ok (.iload_n 0, 1) := by decide +kernel
theorem dX11_isEither_1 : decode cX11_isEither 1 = .ok (.ifCond .eq 8, 3) := by decide +kernel
theorem dX11_isEither_4 : decode cX11_isEither 4 = .ok (.iload_n 0, 1) := by decide +kernel
theorem dX11_isEither_5 : decode cX11_isEither 5 = .ok (.iconst 1, 1) := by decide +kernel
theorem dX11_isEither_6 : decode cX11_isEither 6 = .ok (.if_icmp .ne 7, 3) := by decide +kernel
theorem dX11_isEither_9 : decode cX11_isEither 9 = .ok (.iconst 1, 1) := by decide +kernel
theorem dX11_isEither_10 : decode cX11_isEither 10 = .ok (.goto 4, 3) := by decide +kernel
theorem dX11_isEither_13 : decode cX11_isEither 13 = .ok (.iconst 0, 1) := by decide +kernel
theorem dX11_isEither_14 : decode cX11_isEither 14 = .ok (.ireturn, 1) := by decide +kernel
set_option maxHeartbeats 4000000 in
set_option maxRecDepth 100000 in
theorem sX11_isEither (l : Launch) (dC : Nat → ClassId) (dI : Nat → Nat → Nat) (p0 : Int32)  : Met l yX11_isEither (.code yX11_isEither cX11_isEither 1 (some .boolean) :: wsGA) ({ frames := 0, cells := 0, slots := 0, locals := 0 }) (va_Pc [.int p0] (fun U => va_P (dC, dI) vwCl [] U.heap ∧ va_K (dC, dI) vwCl [] U ∧ nzA U)) (va_Qi (fun (r : Int32) (u : Unit) => gi r 0 1) (fun _ _ => True) (fun _ => False)) 0 0 (fun _ => False) := by
  refine Met.ofW (cc := cX11_isEither) (maxL := 1) (ret := (some .boolean)) (by decide) rfl ?_
  intro p e s m args below meth c s₁ B hml hv
  obtain ⟨rfl, hP, hK, hz⟩ := hv
  have hx := B.exec
  have hb := B.bytes
  have hr := B.returns
  have hts := atoms_spec (ws := (.code yX11_isEither cX11_isEither 1 (some .boolean) :: wsGA)) B.pre
  have hown : s.vm.findClass RX11 = some m.cls := findClass_of_methodNamed B.named
  have hlocks := B.notSynchronized
  have hS : va_S (fun _ => False) s.heap s.heap [] := va_S.rf
  have hl := lv_entry ([.int p0]) (n := 1) (Nat.le_of_ble_eq_true rfl)
  rw [lg_entry_eq]
  generalize (lg_sl ([.int p0]) ++ List.replicate (1 - (lg_sl ([.int p0])).length) Slot.unset).toArray = ls at hl ⊢
  have hl : lv_has ls 1 [(0, .int p0)] := hl
  refine lv_iload_n hx hb dX11_isEither_0 rfl (lv_at hl 0 rfl) ?_
  refine lv_if_eq (tgt := 9) hx hb dX11_isEither_1 (by decide) (fun c_5 => ?_) (fun c_5 => ?_)
  · have g_6 : gi p0 0 0 := gi_eq c_5 (gi_c 0 0 (by decide))
    refine lv_iconst (v := 1) hx hb dX11_isEither_9 (by decide) ?_
    refine lv_goto (tgt := 14) hx hb dX11_isEither_10 (by decide) ?_
    exact W.zret (v := 1) hx hb hr (by decide) (fun t ht hW => ⟨⟨1, (), rfl, (gi_w (gi_c 1 1 (by decide)) (by decide)), trivial⟩, hS.F ht⟩) hS.2.2 dX11_isEither_14
  · refine lv_iload_n hx hb dX11_isEither_4 rfl (lv_at hl 0 rfl) ?_
    refine lv_iconst (v := 1) hx hb dX11_isEither_5 (by decide) ?_
    refine lv_icmp_ne (tgt := 13) hx hb dX11_isEither_6 (by decide) (fun c_7 => ?_) (fun c_7 => ?_)
    · refine lv_iconst (v := 0) hx hb dX11_isEither_13 (by decide) ?_
      exact W.zret (v := 0) hx hb hr (by decide) (fun t ht hW => ⟨⟨0, (), rfl, (gi_w (gi_c 0 0 (by decide)) (by decide)), trivial⟩, hS.F ht⟩) hS.2.2 dX11_isEither_14
    · have g_8 : gi p0 1 1 := gi_eq c_7 (gi_c 1 1 (by decide))
      refine lv_iconst (v := 1) hx hb dX11_isEither_9 (by decide) ?_
      refine lv_goto (tgt := 14) hx hb dX11_isEither_10 (by decide) ?_
      exact W.zret (v := 1) hx hb hr (by decide) (fun t ht hW => ⟨⟨1, (), rfl, (gi_w (gi_c 1 1 (by decide)) (by decide)), trivial⟩, hS.F ht⟩) hS.2.2 dX11_isEither_14
theorem dX6_isLetter_0 : decode cX6_isLetter 0 = .ok (.iload_n 0, 1) := by decide +kernel
theorem dX6_isLetter_1 : decode cX6_isLetter 1 = .ok (.bipush 97, 2) := by decide +kernel
theorem dX6_isLetter_3 : decode cX6_isLetter 3 = .ok (.if_icmp .lt 13, 3) := by decide +kernel
theorem dX6_isLetter_6 : decode cX6_isLetter 6 = .ok (.iload_n 0, 1) := by decide +kernel
theorem dX6_isLetter_7 : decode cX6_isLetter 7 = .ok (.bipush 122, 2) := by decide +kernel
theorem dX6_isLetter_9 : decode cX6_isLetter 9 = .ok (.if_icmp .gt 7, 3) := by decide +kernel
theorem dX6_isLetter_12 : decode cX6_isLetter 12 = .ok (.iconst 1, 1) := by decide +kernel
theorem dX6_isLetter_13 : decode cX6_isLetter 13 = .ok (.goto 4, 3) := by decide +kernel
theorem dX6_isLetter_16 : decode cX6_isLetter 16 = .ok (.iconst 0, 1) := by decide +kernel
theorem dX6_isLetter_17 : decode cX6_isLetter 17 = .ok (.ireturn, 1) := by decide +kernel
noncomputable def bfX6_isLetter_17 (p0 : Int32) (s0 : Int32) : Int32 := s0
noncomputable def bfX6_isLetter_16 (p0 : Int32) : Int32 := bfX6_isLetter_17 p0 (0 : Int32)
noncomputable def fX6_isLetter (p0 : Int32) : Int32 := if p0 < (97 : Int32) then (bfX6_isLetter_16 p0) else (if (122 : Int32) < p0 then (bfX6_isLetter_16 p0) else (bfX6_isLetter_17 p0 (1 : Int32)))
set_option maxHeartbeats 4000000 in
set_option maxRecDepth 100000 in
theorem sX6_isLetter (l : Launch) (dC : Nat → ClassId) (dI : Nat → Nat → Nat) (p0 : Int32)  : Met l yX6_isLetter (.code yX6_isLetter cX6_isLetter 1 (some .boolean) :: wsGA) ({ frames := 0, cells := 0, slots := 0, locals := 0 }) (va_Pc [.int p0] (fun U => va_P (dC, dI) vwCl [] U.heap ∧ va_K (dC, dI) vwCl [] U ∧ nzA U)) (va_Qi (fun (r : Int32) (u : Unit) => (gi r 0 1) ∧ r = fX6_isLetter p0) (fun _ _ => True) (fun _ => False)) 0 0 (fun _ => False) := by
  refine Met.ofW (cc := cX6_isLetter) (maxL := 1) (ret := (some .boolean)) (by decide) rfl ?_
  intro p e s m args below meth c s₁ B hml hv
  obtain ⟨rfl, hP, hK, hz⟩ := hv
  have hx := B.exec
  have hb := B.bytes
  have hr := B.returns
  have hts := atoms_spec (ws := (.code yX6_isLetter cX6_isLetter 1 (some .boolean) :: wsGA)) B.pre
  have hown : s.vm.findClass RX6 = some m.cls := findClass_of_methodNamed B.named
  have hlocks := B.notSynchronized
  have hS : va_S (fun _ => False) s.heap s.heap [] := va_S.rf
  have hl := lv_entry ([.int p0]) (n := 1) (Nat.le_of_ble_eq_true rfl)
  rw [lg_entry_eq]
  generalize (lg_sl ([.int p0]) ++ List.replicate (1 - (lg_sl ([.int p0])).length) Slot.unset).toArray = ls at hl ⊢
  have hl : lv_has ls 1 [(0, .int p0)] := hl
  obtain ⟨RES, hF⟩ : ∃ R9, fX6_isLetter p0 = R9 := ⟨_, rfl⟩
  have hR9 := hF
  refine lv_iload_n hx hb dX6_isLetter_0 rfl (lv_at hl 0 rfl) ?_
  refine lv_bipush (v := 97) hx hb dX6_isLetter_1 (by decide) ?_
  refine lv_icmp_lt (tgt := 16) hx hb dX6_isLetter_3 (by decide) (fun c_7 => ?_) (fun c_7 => ?_)
  · have hF := gf_pos c_7 hF
    have g_8 : gi p0 (-2147483648) 96 := gi_lt_l c_7 (gi_any p0) (gi_c 97 97 (by decide)) (by decide)
    refine lv_iconst (v := 0) hx hb dX6_isLetter_16 (by decide) ?_
    exact W.zret (v := 0) hx hb hr (by decide) (fun t ht hW => ⟨⟨0, (), rfl, ⟨(gi_w (gi_c 0 0 (by decide)) (by decide)), hF.trans hR9.symm⟩, trivial⟩, hS.F ht⟩) hS.2.2 dX6_isLetter_17
  · have hF := gf_neg c_7 hF
    have g_9 : gi p0 97 2147483647 := gi_le_r (Int32.not_lt.mp c_7) (gi_c 97 97 (by decide)) (gi_any p0)
    refine lv_iload_n hx hb dX6_isLetter_6 rfl (lv_at hl 0 rfl) ?_
    refine lv_bipush (v := 122) hx hb dX6_isLetter_7 (by decide) ?_
    refine lv_icmp_gt (tgt := 16) hx hb dX6_isLetter_9 (by decide) (fun c_10 => ?_) (fun c_10 => ?_)
    · have hF := gf_pos c_10 hF
      have g_11 : gi p0 123 2147483647 := gi_lt_r c_10 (gi_c 122 122 (by decide)) g_9 (by decide)
      refine lv_iconst (v := 0) hx hb dX6_isLetter_16 (by decide) ?_
      exact W.zret (v := 0) hx hb hr (by decide) (fun t ht hW => ⟨⟨0, (), rfl, ⟨(gi_w (gi_c 0 0 (by decide)) (by decide)), hF.trans hR9.symm⟩, trivial⟩, hS.F ht⟩) hS.2.2 dX6_isLetter_17
    · have hF := gf_neg c_10 hF
      have g_12 : gi p0 97 122 := gi_le_l (Int32.not_lt.mp c_10) g_9 (gi_c 122 122 (by decide))
      refine lv_iconst (v := 1) hx hb dX6_isLetter_12 (by decide) ?_
      refine lv_goto (tgt := 17) hx hb dX6_isLetter_13 (by decide) ?_
      exact W.zret (v := 1) hx hb hr (by decide) (fun t ht hW => ⟨⟨1, (), rfl, ⟨(gi_w (gi_c 1 1 (by decide)) (by decide)), hF.trans hR9.symm⟩, trivial⟩, hS.F ht⟩) hS.2.2 dX6_isLetter_17
theorem dX6_isDigit_0 : decode cX6_isDigit 0 = .ok (.iload_n 0, 1) := by decide +kernel
theorem dX6_isDigit_1 : decode cX6_isDigit 1 = .ok (.bipush 48, 2) := by decide +kernel
theorem dX6_isDigit_3 : decode cX6_isDigit 3 = .ok (.if_icmp .lt 13, 3) := by decide +kernel
theorem dX6_isDigit_6 : decode cX6_isDigit 6 = .ok (.iload_n 0, 1) := by decide +kernel
theorem dX6_isDigit_7 : decode cX6_isDigit 7 = .ok (.bipush 57, 2) := by decide +kernel
theorem dX6_isDigit_9 : decode cX6_isDigit 9 = .ok (.if_icmp .gt 7, 3) := by decide +kernel
theorem dX6_isDigit_12 : decode cX6_isDigit 12 = .ok (.iconst 1, 1) := by decide +kernel
theorem dX6_isDigit_13 : decode cX6_isDigit 13 = .ok (.goto 4, 3) := by decide +kernel
theorem dX6_isDigit_16 : decode cX6_isDigit 16 = .ok (.iconst 0, 1) := by decide +kernel
theorem dX6_isDigit_17 : decode cX6_isDigit 17 = .ok (.ireturn, 1) := by decide +kernel
noncomputable def bfX6_isDigit_17 (p0 : Int32) (s0 : Int32) : Int32 := s0
noncomputable def bfX6_isDigit_16 (p0 : Int32) : Int32 := bfX6_isDigit_17 p0 (0 : Int32)
noncomputable def fX6_isDigit (p0 : Int32) : Int32 := if p0 < (48 : Int32) then (bfX6_isDigit_16 p0) else (if (57 : Int32) < p0 then (bfX6_isDigit_16 p0) else (bfX6_isDigit_17 p0 (1 : Int32)))
set_option maxHeartbeats 4000000 in
set_option maxRecDepth 100000 in
theorem sX6_isDigit (l : Launch) (dC : Nat → ClassId) (dI : Nat → Nat → Nat) (p0 : Int32)  : Met l yX6_isDigit (.code yX6_isDigit cX6_isDigit 1 (some .boolean) :: wsGA) ({ frames := 0, cells := 0, slots := 0, locals := 0 }) (va_Pc [.int p0] (fun U => va_P (dC, dI) vwCl [] U.heap ∧ va_K (dC, dI) vwCl [] U ∧ nzA U)) (va_Qi (fun (r : Int32) (u : Unit) => (gi r 0 1) ∧ r = fX6_isDigit p0) (fun _ _ => True) (fun _ => False)) 0 0 (fun _ => False) := by
  refine Met.ofW (cc := cX6_isDigit) (maxL := 1) (ret := (some .boolean)) (by decide) rfl ?_
  intro p e s m args below meth c s₁ B hml hv
  obtain ⟨rfl, hP, hK, hz⟩ := hv
  have hx := B.exec
  have hb := B.bytes
  have hr := B.returns
  have hts := atoms_spec (ws := (.code yX6_isDigit cX6_isDigit 1 (some .boolean) :: wsGA)) B.pre
  have hown : s.vm.findClass RX6 = some m.cls := findClass_of_methodNamed B.named
  have hlocks := B.notSynchronized
  have hS : va_S (fun _ => False) s.heap s.heap [] := va_S.rf
  have hl := lv_entry ([.int p0]) (n := 1) (Nat.le_of_ble_eq_true rfl)
  rw [lg_entry_eq]
  generalize (lg_sl ([.int p0]) ++ List.replicate (1 - (lg_sl ([.int p0])).length) Slot.unset).toArray = ls at hl ⊢
  have hl : lv_has ls 1 [(0, .int p0)] := hl
  obtain ⟨RES, hF⟩ : ∃ R9, fX6_isDigit p0 = R9 := ⟨_, rfl⟩
  have hR9 := hF
  refine lv_iload_n hx hb dX6_isDigit_0 rfl (lv_at hl 0 rfl) ?_
  refine lv_bipush (v := 48) hx hb dX6_isDigit_1 (by decide) ?_
  refine lv_icmp_lt (tgt := 16) hx hb dX6_isDigit_3 (by decide) (fun c_7 => ?_) (fun c_7 => ?_)
  · have hF := gf_pos c_7 hF
    have g_8 : gi p0 (-2147483648) 47 := gi_lt_l c_7 (gi_any p0) (gi_c 48 48 (by decide)) (by decide)
    refine lv_iconst (v := 0) hx hb dX6_isDigit_16 (by decide) ?_
    exact W.zret (v := 0) hx hb hr (by decide) (fun t ht hW => ⟨⟨0, (), rfl, ⟨(gi_w (gi_c 0 0 (by decide)) (by decide)), hF.trans hR9.symm⟩, trivial⟩, hS.F ht⟩) hS.2.2 dX6_isDigit_17
  · have hF := gf_neg c_7 hF
    have g_9 : gi p0 48 2147483647 := gi_le_r (Int32.not_lt.mp c_7) (gi_c 48 48 (by decide)) (gi_any p0)
    refine lv_iload_n hx hb dX6_isDigit_6 rfl (lv_at hl 0 rfl) ?_
    refine lv_bipush (v := 57) hx hb dX6_isDigit_7 (by decide) ?_
    refine lv_icmp_gt (tgt := 16) hx hb dX6_isDigit_9 (by decide) (fun c_10 => ?_) (fun c_10 => ?_)
    · have hF := gf_pos c_10 hF
      have g_11 : gi p0 58 2147483647 := gi_lt_r c_10 (gi_c 57 57 (by decide)) g_9 (by decide)
      refine lv_iconst (v := 0) hx hb dX6_isDigit_16 (by decide) ?_
      exact W.zret (v := 0) hx hb hr (by decide) (fun t ht hW => ⟨⟨0, (), rfl, ⟨(gi_w (gi_c 0 0 (by decide)) (by decide)), hF.trans hR9.symm⟩, trivial⟩, hS.F ht⟩) hS.2.2 dX6_isDigit_17
    · have hF := gf_neg c_10 hF
      have g_12 : gi p0 48 57 := gi_le_l (Int32.not_lt.mp c_10) g_9 (gi_c 57 57 (by decide))
      refine lv_iconst (v := 1) hx hb dX6_isDigit_12 (by decide) ?_
      refine lv_goto (tgt := 17) hx hb dX6_isDigit_13 (by decide) ?_
      exact W.zret (v := 1) hx hb hr (by decide) (fun t ht hW => ⟨⟨1, (), rfl, ⟨(gi_w (gi_c 1 1 (by decide)) (by decide)), hF.trans hR9.symm⟩, trivial⟩, hS.F ht⟩) hS.2.2 dX6_isDigit_17
theorem dX6_isBlank_0 : decode cX6_isBlank 0 = .ok (.iload_n 0, 1) := by decide +kernel
theorem dX6_isBlank_1 : decode cX6_isBlank 1 = .ok (.bipush 32, 2) := by decide +kernel
theorem dX6_isBlank_3 : decode cX6_isBlank 3 = .ok (.if_icmp .eq 9, 3) := by decide +kernel
theorem dX6_isBlank_6 : decode cX6_isBlank 6 = .ok (.iload_n 0, 1) := by decide +kernel
theorem dX6_isBlank_7 : decode cX6_isBlank 7 = .ok (.bipush 10, 2) := by decide +kernel
theorem dX6_isBlank_9 : decode cX6_isBlank 9 = .ok (.if_icmp .ne 7, 3) := by decide +kernel
theorem dX6_isBlank_12 : decode cX6_isBlank 12 = .ok (.iconst 1, 1) := by decide +kernel
theorem dX6_isBlank_13 : decode cX6_isBlank 13 = .ok (.goto 4, 3) := by decide +kernel
theorem dX6_isBlank_16 : decode cX6_isBlank 16 = .ok (.iconst 0, 1) := by decide +kernel
theorem dX6_isBlank_17 : decode cX6_isBlank 17 = .ok (.ireturn, 1) := by decide +kernel
noncomputable def bfX6_isBlank_17 (p0 : Int32) (s0 : Int32) : Int32 := s0
noncomputable def bfX6_isBlank_12 (p0 : Int32) : Int32 := bfX6_isBlank_17 p0 (1 : Int32)
noncomputable def fX6_isBlank (p0 : Int32) : Int32 := if p0 = (32 : Int32) then (bfX6_isBlank_12 p0) else (if p0 = (10 : Int32) then (bfX6_isBlank_12 p0) else (bfX6_isBlank_17 p0 (0 : Int32)))
set_option maxHeartbeats 4000000 in
set_option maxRecDepth 100000 in
theorem sX6_isBlank (l : Launch) (dC : Nat → ClassId) (dI : Nat → Nat → Nat) (p0 : Int32)  : Met l yX6_isBlank (.code yX6_isBlank cX6_isBlank 1 (some .boolean) :: wsGA) ({ frames := 0, cells := 0, slots := 0, locals := 0 }) (va_Pc [.int p0] (fun U => va_P (dC, dI) vwCl [] U.heap ∧ va_K (dC, dI) vwCl [] U ∧ nzA U)) (va_Qi (fun (r : Int32) (u : Unit) => (gi r 0 1) ∧ r = fX6_isBlank p0) (fun _ _ => True) (fun _ => False)) 0 0 (fun _ => False) := by
  refine Met.ofW (cc := cX6_isBlank) (maxL := 1) (ret := (some .boolean)) (by decide) rfl ?_
  intro p e s m args below meth c s₁ B hml hv
  obtain ⟨rfl, hP, hK, hz⟩ := hv
  have hx := B.exec
  have hb := B.bytes
  have hr := B.returns
  have hts := atoms_spec (ws := (.code yX6_isBlank cX6_isBlank 1 (some .boolean) :: wsGA)) B.pre
  have hown : s.vm.findClass RX6 = some m.cls := findClass_of_methodNamed B.named
  have hlocks := B.notSynchronized
  have hS : va_S (fun _ => False) s.heap s.heap [] := va_S.rf
  have hl := lv_entry ([.int p0]) (n := 1) (Nat.le_of_ble_eq_true rfl)
  rw [lg_entry_eq]
  generalize (lg_sl ([.int p0]) ++ List.replicate (1 - (lg_sl ([.int p0])).length) Slot.unset).toArray = ls at hl ⊢
  have hl : lv_has ls 1 [(0, .int p0)] := hl
  obtain ⟨RES, hF⟩ : ∃ R9, fX6_isBlank p0 = R9 := ⟨_, rfl⟩
  have hR9 := hF
  refine lv_iload_n hx hb dX6_isBlank_0 rfl (lv_at hl 0 rfl) ?_
  refine lv_bipush (v := 32) hx hb dX6_isBlank_1 (by decide) ?_
  refine lv_icmp_eq (tgt := 12) hx hb dX6_isBlank_3 (by decide) (fun c_5 => ?_) (fun c_5 => ?_)
  · have hF := gf_pos c_5 hF
    have g_6 : gi p0 32 32 := gi_eq c_5 (gi_c 32 32 (by decide))
    refine lv_iconst (v := 1) hx hb dX6_isBlank_12 (by decide) ?_
    refine lv_goto (tgt := 17) hx hb dX6_isBlank_13 (by decide) ?_
    exact W.zret (v := 1) hx hb hr (by decide) (fun t ht hW => ⟨⟨1, (), rfl, ⟨(gi_w (gi_c 1 1 (by decide)) (by decide)), hF.trans hR9.symm⟩, trivial⟩, hS.F ht⟩) hS.2.2 dX6_isBlank_17
  · have hF := gf_neg c_5 hF
    refine lv_iload_n hx hb dX6_isBlank_6 rfl (lv_at hl 0 rfl) ?_
    refine lv_bipush (v := 10) hx hb dX6_isBlank_7 (by decide) ?_
    refine lv_icmp_ne (tgt := 16) hx hb dX6_isBlank_9 (by decide) (fun c_7 => ?_) (fun c_7 => ?_)
    · have hF := gf_neg c_7 hF
      refine lv_iconst (v := 0) hx hb dX6_isBlank_16 (by decide) ?_
      exact W.zret (v := 0) hx hb hr (by decide) (fun t ht hW => ⟨⟨0, (), rfl, ⟨(gi_w (gi_c 0 0 (by decide)) (by decide)), hF.trans hR9.symm⟩, trivial⟩, hS.F ht⟩) hS.2.2 dX6_isBlank_17
    · have hF := gf_pos c_7 hF
      have g_8 : gi p0 10 10 := gi_eq c_7 (gi_c 10 10 (by decide))
      refine lv_iconst (v := 1) hx hb dX6_isBlank_12 (by decide) ?_
      refine lv_goto (tgt := 17) hx hb dX6_isBlank_13 (by decide) ?_
      exact W.zret (v := 1) hx hb hr (by decide) (fun t ht hW => ⟨⟨1, (), rfl, ⟨(gi_w (gi_c 1 1 (by decide)) (by decide)), hF.trans hR9.symm⟩, trivial⟩, hS.F ht⟩) hS.2.2 dX6_isBlank_17
theorem dX3_allows_0 : decode cX3_allows 0 = .ok (.aload_n 0, 1) := by decide +kernel
theorem dX3_allows_1 : decode cX3_allows 1 = .ok (.getfield 9, 3) := by decide +kernel
theorem dX3_allows_4 : decode cX3_allows 4 = .ok (.iload_n 1, 1) := by decide +kernel
theorem dX3_allows_5 : decode cX3_allows 5 = .ok (.iaload, 1) := by decide +kernel
theorem dX3_allows_6 : decode cX3_allows 6 = .ok (.iload_n 2, 1) := by decide +kernel
theorem dX3_allows_7 : decode cX3_allows 7 = .ok (.ishr, 1) := by decide +kernel
theorem dX3_allows_8 : decode cX3_allows 8 = .ok (.iconst 1, 1) := by decide +kernel
theorem dX3_allows_9 : decode cX3_allows 9 = .ok (.iand, 1) := by decide +kernel
theorem dX3_allows_10 : decode cX3_allows 10 = .ok (.ifCond .eq 7, 3) := by decide +kernel
theorem dX3_allows_13 : decode cX3_allows 13 = .ok (.iconst 1, 1) := by decide +kernel
theorem dX3_allows_14 : decode cX3_allows 14 = .ok (.goto 4, 3) := by decide +kernel
theorem dX3_allows_17 : decode cX3_allows 17 = .ok (.iconst 0, 1) := by decide +kernel
theorem dX3_allows_18 : decode cX3_allows 18 = .ok (.ireturn, 1) := by decide +kernel
set_option maxHeartbeats 4000000 in
set_option maxRecDepth 100000 in
theorem sX3_allows (l : Launch) (dC : Nat → ClassId) (dI : Nat → Nat → Nat) (h0 : Nat) (al : Nat) (months : Int32) (full : Int32) (lean : Int32) (on : Nat) (kal : ClassId) (fal : Nat → Int32) (p0 : Int32) (p1 : Int32) (gmonths : gi months 0 24) (gfull : gi full 0 5) (glean : gi lean 0 5) (gp0 : gi p0 0 24) : Met l yX3_allows (.code yX3_allows cX3_allows 3 (some .boolean) :: wsGA) ({ frames := 0, cells := 0, slots := 0, locals := 0 }) (va_Pc [.ref h0, .int p0, .int p1] (fun U => va_P (dC, dI) vwCl [(h0, .inr (3, [.int months, .int full, .int lean, .ref al, .ref on])), (al, .inl (kal, 25, .inl fal))] U.heap ∧ va_K (dC, dI) vwCl [(kal, .int)] U ∧ nzA U)) (va_Qi (fun (r : Int32) (u : Unit) => gi r 0 1) (fun _ _ => True) (fun _ => False)) 0 0 (fun _ => False) := by
  refine Met.ofW (cc := cX3_allows) (maxL := 3) (ret := (some .boolean)) (by decide) rfl ?_
  intro p e s m args below meth c s₁ B hml hv
  obtain ⟨rfl, hP, hK, hz⟩ := hv
  have hx := B.exec
  have hb := B.bytes
  have hr := B.returns
  have hts := atoms_spec (ws := (.code yX3_allows cX3_allows 3 (some .boolean) :: wsGA)) B.pre
  have hown : s.vm.findClass RX3 = some m.cls := findClass_of_methodNamed B.named
  have hlocks := B.notSynchronized
  have hS : va_S (fun _ => False) s.heap s.heap [] := va_S.rf
  have hl := lv_entry ([.ref h0, .int p0, .int p1]) (n := 3) (Nat.le_of_ble_eq_true rfl)
  rw [lg_entry_eq]
  generalize (lg_sl ([.ref h0, .int p0, .int p1]) ++ List.replicate (3 - (lg_sl ([.ref h0, .int p0, .int p1])).length) Slot.unset).toArray = ls at hl ⊢
  have hl : lv_has ls 3 [(0, .ref h0), (1, .int p0), (2, .int p1)] := hl
  refine lv_aload_n hx hb dX3_allows_0 rfl (lv_at hl 0 rfl) ?_
  refine va_get (D := (dC, dI)) (ci := 3) (v := .ref al) (C := RX3) (T := TX3) (N := 5) hx hb hts (fun w h => List.mem_cons_of_mem _ (jnGA_X3 w h)) hown hK hP 0 rfl rfl 3 (by decide) (hts _ (List.mem_cons_of_mem _ mGA_94)) (fun _ h9 => h9) rfl dX3_allows_1 ?_
  refine lv_iload_n hx hb dX3_allows_4 rfl (lv_at hl 1 rfl) ?_
  refine va_iald hx hb hK hP 1 0 rfl rfl (gi_in gp0 (by decide)) dX3_allows_5 ?_
  refine lv_topi (fun x_7 ex_7 => ?_)
  refine lv_iload_n hx hb dX3_allows_6 rfl (lv_at hl 2 rfl) ?_
  refine lv_ishr hx hb dX3_allows_7 ?_
  refine lv_topi (fun x_8 ex_8 => ?_)
  refine lv_iconst (v := 1) hx hb dX3_allows_8 (by decide) ?_
  refine lv_iand hx hb dX3_allows_9 ?_
  refine lv_topi (fun x_9 ex_9 => ?_)
  have gx_9 : gi x_9 0 1 := gi_and1 ex_9
  refine lv_if_eq (tgt := 17) hx hb dX3_allows_10 (by decide) (fun c_10 => ?_) (fun c_10 => ?_)
  · have g_11 : gi x_9 0 0 := gi_eq c_10 (gi_c 0 0 (by decide))
    refine lv_iconst (v := 0) hx hb dX3_allows_17 (by decide) ?_
    exact W.zret (v := 0) hx hb hr (by decide) (fun t ht hW => ⟨⟨0, (), rfl, (gi_w (gi_c 0 0 (by decide)) (by decide)), trivial⟩, hS.F ht⟩) hS.2.2 dX3_allows_18
  · have g_12 : gi x_9 1 1 := gi_ne_lo c_10 gx_9 (gi_c 0 0 (by decide)) (by decide)
    refine lv_iconst (v := 1) hx hb dX3_allows_13 (by decide) ?_
    refine lv_goto (tgt := 18) hx hb dX3_allows_14 (by decide) ?_
    exact W.zret (v := 1) hx hb hr (by decide) (fun t ht hW => ⟨⟨1, (), rfl, (gi_w (gi_c 1 1 (by decide)) (by decide)), trivial⟩, hS.F ht⟩) hS.2.2 dX3_allows_18
theorem dX3_fits_0 : decode cX3_fits 0 = .ok (.iconst 1, 1) := by decide +kernel
theorem dX3_fits_1 : decode cX3_fits 1 = .ok (.istore_n 1, 1) := by decide +kernel
theorem dX3_fits_2 : decode cX3_fits 2 = .ok (.iload_n 1, 1) := by decide +kernel
theorem dX3_fits_3 : decode cX3_fits 3 = .ok (.aload_n 0, 1) := by decide +kernel
theorem dX3_fits_4 : decode cX3_fits 4 = .ok (.getfield 28, 3) := by decide +kernel
theorem dX3_fits_7 : decode cX3_fits 7 = .ok (.aload_n 0, 1) := by decide +kernel
theorem dX3_fits_8 : decode cX3_fits 8 = .ok (.getfield 32, 3) := by decide +kernel
theorem dX3_fits_11 : decode cX3_fits 11 = .ok (.iadd, 1) := by decide +kernel
theorem dX3_fits_12 : decode cX3_fits 12 = .ok (.if_icmp .gt 32, 3) := by decide +kernel
theorem dX3_fits_15 : decode cX3_fits 15 = .ok (.aload_n 0, 1) := by decide +kernel
theorem dX3_fits_16 : decode cX3_fits 16 = .ok (.getfield 15, 3) := by decide +kernel
theorem dX3_fits_19 : decode cX3_fits 19 = .ok (.aload_n 0, 1) := by decide +kernel
theorem dX3_fits_20 : decode cX3_fits 20 = .ok (.getfield 24, 3) := by decide +kernel
theorem dX3_fits_23 : decode cX3_fits 23 = .ok (.bipush 11, 2) := by decide +kernel
theorem dX3_fits_25 : decode cX3_fits 25 = .ok (.imul, 1) := by decide +kernel
theorem dX3_fits_26 : decode cX3_fits 26 = .ok (.iload_n 1, 1) := by decide +kernel
theorem dX3_fits_27 : decode cX3_fits 27 = .ok (.iadd, 1) := by decide +kernel
theorem dX3_fits_28 : decode cX3_fits 28 = .ok (.aload_n 0, 1) := by decide +kernel
theorem dX3_fits_29 : decode cX3_fits 29 = .ok (.getfield 9, 3) := by decide +kernel
theorem dX3_fits_32 : decode cX3_fits 32 = .ok (.aload_n 0, 1) := by decide +kernel
theorem dX3_fits_33 : decode cX3_fits 33 = .ok (.getfield 24, 3) := by decide +kernel
theorem dX3_fits_36 : decode cX3_fits 36 = .ok (.iaload, 1) := by decide +kernel
theorem dX3_fits_37 : decode cX3_fits 37 = .ok (.iastore, 1) := by decide +kernel
theorem dX3_fits_38 : decode cX3_fits 38 = .ok (.iinc 1 1, 3) := by decide +kernel
theorem dX3_fits_41 : decode cX3_fits 41 = .ok (.goto (-39), 3) := by decide +kernel
theorem dX3_fits_44 : decode cX3_fits 44 = .ok (.aload_n 0, 1) := by decide +kernel
theorem dX3_fits_45 : decode cX3_fits 45 = .ok (.getfield 24, 3) := by decide +kernel
theorem dX3_fits_48 : decode cX3_fits 48 = .ok (.iconst 1, 1) := by decide +kernel
theorem dX3_fits_49 : decode cX3_fits 49 = .ok (.isub, 1) := by decide +kernel
theorem dX3_fits_50 : decode cX3_fits 50 = .ok (.istore_n 1, 1) := by decide +kernel
theorem dX3_fits_51 : decode cX3_fits 51 = .ok (.iload_n 1, 1) := by decide +kernel
theorem dX3_fits_52 : decode cX3_fits 52 = .ok (.ifCond .lt 106, 3) := by decide +kernel
theorem dX3_fits_55 : decode cX3_fits 55 = .ok (.iload_n 1, 1) := by decide +kernel
theorem dX3_fits_56 : decode cX3_fits 56 = .ok (.iconst 1, 1) := by decide +kernel
theorem dX3_fits_57 : decode cX3_fits 57 = .ok (.iadd, 1) := by decide +kernel
theorem dX3_fits_58 : decode cX3_fits 58 = .ok (.bipush 11, 2) := by decide +kernel
theorem dX3_fits_60 : decode cX3_fits 60 = .ok (.imul, 1) := by decide +kernel
theorem dX3_fits_61 : decode cX3_fits 61 = .ok (.istore_n 2, 1) := by decide +kernel
theorem dX3_fits_62 : decode cX3_fits 62 = .ok (.iload_n 1, 1) := by decide +kernel
theorem dX3_fits_63 : decode cX3_fits 63 = .ok (.invokestatic 48, 3) := by decide +kernel
theorem dX3_fits_66 : decode cX3_fits 66 = .ok (.istore_n 3, 1) := by decide +kernel
theorem dX3_fits_67 : decode cX3_fits 67 = .ok (.iload_n 3, 1) := by decide +kernel
theorem dX3_fits_68 : decode cX3_fits 68 = .ok (.iload_n 1, 1) := by decide +kernel
theorem dX3_fits_69 : decode cX3_fits 69 = .ok (.aload_n 0, 1) := by decide +kernel
theorem dX3_fits_70 : decode cX3_fits 70 = .ok (.getfield 28, 3) := by decide +kernel
theorem dX3_fits_73 : decode cX3_fits 73 = .ok (.aload_n 0, 1) := by decide +kernel
theorem dX3_fits_74 : decode cX3_fits 74 = .ok (.getfield 32, 3) := by decide +kernel
theorem dX3_fits_77 : decode cX3_fits 77 = .ok (.invokestatic 52, 3) := by decide +kernel
theorem dX3_fits_80 : decode cX3_fits 80 = .ok (.if_icmp .gt 72, 3) := by decide +kernel
theorem dX3_fits_83 : decode cX3_fits 83 = .ok (.aload_n 0, 1) := by decide +kernel
theorem dX3_fits_84 : decode cX3_fits 84 = .ok (.getfield 15, 3) := by decide +kernel
theorem dX3_fits_87 : decode cX3_fits 87 = .ok (.iload_n 2, 1) := by decide +kernel
theorem dX3_fits_88 : decode cX3_fits 88 = .ok (.iload_n 3, 1) := by decide +kernel
theorem dX3_fits_89 : decode cX3_fits 89 = .ok (.aload_n 0, 1) := by decide +kernel
theorem dX3_fits_90 : decode cX3_fits 90 = .ok (.getfield 28, 3) := by decide +kernel
theorem dX3_fits_93 : decode cX3_fits 93 = .ok (.invokestatic 56, 3) := by decide +kernel
theorem dX3_fits_96 : decode cX3_fits 96 = .ok (.iadd, 1) := by decide +kernel
theorem dX3_fits_97 : decode cX3_fits 97 = .ok (.iaload, 1) := by decide +kernel
theorem dX3_fits_98 : decode cX3_fits 98 = .ok (.iconst 1, 1) := by decide +kernel
theorem dX3_fits_99 : decode cX3_fits 99 = .ok (.ishr, 1) := by decide +kernel
theorem dX3_fits_100 : decode cX3_fits 100 = .ok (.istore 4, 2) := by decide +kernel
theorem dX3_fits_102 : decode cX3_fits 102 = .ok (.aload_n 0, 1) := by decide +kernel
theorem dX3_fits_103 : decode cX3_fits 103 = .ok (.getfield 15, 3) := by decide +kernel
theorem dX3_fits_106 : decode cX3_fits 106 = .ok (.iload_n 2, 1) := by decide +kernel
theorem dX3_fits_107 : decode cX3_fits 107 = .ok (.iload_n 3, 1) := by decide +kernel
theorem dX3_fits_108 : decode cX3_fits 108 = .ok (.aload_n 0, 1) := by decide +kernel
theorem dX3_fits_109 : decode cX3_fits 109 = .ok (.getfield 28, 3) := by decide +kernel
theorem dX3_fits_112 : decode cX3_fits 112 = .ok (.aload_n 0, 1) := by decide +kernel
theorem dX3_fits_113 : decode cX3_fits 113 = .ok (.getfield 32, 3) := by decide +kernel
theorem dX3_fits_116 : decode cX3_fits 116 = .ok (.invokestatic 60, 3) := by decide +kernel
theorem dX3_fits_119 : decode cX3_fits 119 = .ok (.iadd, 1) := by decide +kernel
theorem dX3_fits_120 : decode cX3_fits 120 = .ok (.iaload, 1) := by decide +kernel
theorem dX3_fits_121 : decode cX3_fits 121 = .ok (.istore 5, 2) := by decide +kernel
theorem dX3_fits_123 : decode cX3_fits 123 = .ok (.aload_n 0, 1) := by decide +kernel
theorem dX3_fits_124 : decode cX3_fits 124 = .ok (.getfield 15, 3) := by decide +kernel
theorem dX3_fits_127 : decode cX3_fits 127 = .ok (.iload_n 1, 1) := by decide +kernel
theorem dX3_fits_128 : decode cX3_fits 128 = .ok (.bipush 11, 2) := by decide +kernel
theorem dX3_fits_130 : decode cX3_fits 130 = .ok (.imul, 1) := by decide +kernel
theorem dX3_fits_131 : decode cX3_fits 131 = .ok (.iload_n 3, 1) := by decide +kernel
theorem dX3_fits_132 : decode cX3_fits 132 = .ok (.iadd, 1) := by decide +kernel
theorem dX3_fits_133 : decode cX3_fits 133 = .ok (.aload_n 0, 1) := by decide +kernel
theorem dX3_fits_134 : decode cX3_fits 134 = .ok (.getfield 9, 3) := by decide +kernel
theorem dX3_fits_137 : decode cX3_fits 137 = .ok (.iload_n 1, 1) := by decide +kernel
theorem dX3_fits_138 : decode cX3_fits 138 = .ok (.iaload, 1) := by decide +kernel
theorem dX3_fits_139 : decode cX3_fits 139 = .ok (.iload 4, 2) := by decide +kernel
theorem dX3_fits_141 : decode cX3_fits 141 = .ok (.iload 5, 2) := by decide +kernel
theorem dX3_fits_143 : decode cX3_fits 143 = .ok (.ior, 1) := by decide +kernel
theorem dX3_fits_144 : decode cX3_fits 144 = .ok (.iand, 1) := by decide +kernel
theorem dX3_fits_145 : decode cX3_fits 145 = .ok (.iastore, 1) := by decide +kernel
theorem dX3_fits_146 : decode cX3_fits 146 = .ok (.iinc 3 1, 3) := by decide +kernel
theorem dX3_fits_149 : decode cX3_fits 149 = .ok (.goto (-82), 3) := by decide +kernel
theorem dX3_fits_152 : decode cX3_fits 152 = .ok (.iinc 1 (-1), 3) := by decide +kernel
theorem dX3_fits_155 : decode cX3_fits 155 = .ok (.goto (-104), 3) := by decide +kernel
theorem dX3_fits_158 : decode cX3_fits 158 = .ok (.aload_n 0, 1) := by decide +kernel
theorem dX3_fits_159 : decode cX3_fits 159 = .ok (.getfield 15, 3) := by decide +kernel
theorem dX3_fits_162 : decode cX3_fits 162 = .ok (.iconst 0, 1) := by decide +kernel
theorem dX3_fits_163 : decode cX3_fits 163 = .ok (.iaload, 1) := by decide +kernel
theorem dX3_fits_164 : decode cX3_fits 164 = .ok (.iconst 1, 1) := by decide +kernel
theorem dX3_fits_165 : decode cX3_fits 165 = .ok (.iand, 1) := by decide +kernel
theorem dX3_fits_166 : decode cX3_fits 166 = .ok (.ifCond .eq 7, 3) := by decide +kernel
theorem dX3_fits_169 : decode cX3_fits 169 = .ok (.iconst 1, 1) := by decide +kernel
theorem dX3_fits_170 : decode cX3_fits 170 = .ok (.goto 4, 3) := by decide +kernel
theorem dX3_fits_173 : decode cX3_fits 173 = .ok (.iconst 0, 1) := by decide +kernel
theorem dX3_fits_174 : decode cX3_fits 174 = .ok (.ireturn, 1) := by decide +kernel
set_option maxHeartbeats 4000000 in
set_option maxRecDepth 100000 in
theorem lp_sX3_fits {p : Program} {l : Launch} {e : Env} {R : Room} {s : State} {m : MethodId} {args : Array Value} {below : List Frame} {meth : Method} {c : Code} {Q : State → Prop} {A : Nat → Prop} {cells slots : Nat} {dC : Nat → ClassId} {dI : Nat → Nat → Nat} (h0 : Nat) (al : Nat) (on : Nat) (months : Int32) (full : Int32) (lean : Int32) (kal : ClassId) (fal : Nat → Int32) (kon : ClassId) (fon : Nat → Int32) (gmonths : gi months 0 24) (gfull : gi full 0 5) (glean : gi lean 0 5) (hx : p.tables.exec = Jvm.exec) (hb : c.code = cX3_fits) (hml : c.maxLocals = 6) (hown : s.vm.findClass RX3 = some m.cls) (hts : ∀ w ∈ ((.code yX3_fits cX3_fits 6 (some .boolean) :: wsGA) : List Cond), w.before args s = true) (hK : va_K (dC, dI) vwCl [(kal, .int), (kon, .int)] s) (hz : nzA s) (hA : ∀ q : Nat, s.heap.size ≤ q → A q) (hRf : 1 ≤ R.frames) (hRl : 22 ≤ R.locals) (hRc : cells ≤ R.cells) (hRs : slots ≤ R.slots) (kr174 : ∀ (v : Int32) (z2 : Nat → Int32) (H : Heap) (locs : List Loc) (ls : Array Slot), gi v 0 1 → va_P (dC, dI) vwCl [(h0, .inr (3, [.int months, .int full, .int lean, .ref al, .ref on])), (al, .inl (kal, 25, .inl fal)), (on, .inl (kon, 275, .inl z2))] H → va_D A [(h0, .inr (3, [.int months, .int full, .int lean, .ref al, .ref on])), (al, .inl (kal, 25, .inl fal)), (on, .inl (kon, 275, .inl z2))] → va_S A s.heap H locs → lv_has ls 6 [] → W p l e R s m args below meth c H locs cells slots Q (F0 m 174 ls [.int v])) : ∀ z : Nat, (∀ (v1 : Int32) (z2 : Nat → Int32) (H : Heap) (locs : List Loc) (ls : Array Slot), gi v1 1 11 → 751 + (-2) * v1.toInt < (z : Int) → va_P (dC, dI) vwCl [(h0, .inr (3, [.int months, .int full, .int lean, .ref al, .ref on])), (al, .inl (kal, 25, .inl fal)), (on, .inl (kon, 275, .inl z2))] H → va_D A [(h0, .inr (3, [.int months, .int full, .int lean, .ref al, .ref on])), (al, .inl (kal, 25, .inl fal)), (on, .inl (kon, 275, .inl z2))] → va_S A s.heap H locs → lv_has ls 6 [(0, .ref h0), (1, .int v1)] → W p l e R s m args below meth c H locs cells slots Q (F0 m 2 ls [])) ∧ (∀ (v1 : Int32) (z2 : Nat → Int32) (H : Heap) (locs : List Loc) (ls : Array Slot), gi v1 (-1) 23 → 29 + 28 * v1.toInt < (z : Int) → va_P (dC, dI) vwCl [(h0, .inr (3, [.int months, .int full, .int lean, .ref al, .ref on])), (al, .inl (kal, 25, .inl fal)), (on, .inl (kon, 275, .inl z2))] H → va_D A [(h0, .inr (3, [.int months, .int full, .int lean, .ref al, .ref on])), (al, .inl (kal, 25, .inl fal)), (on, .inl (kon, 275, .inl z2))] → va_S A s.heap H locs → lv_has ls 6 [(0, .ref h0), (1, .int v1)] → W p l e R s m args below meth c H locs cells slots Q (F0 m 51 ls [])) ∧ (∀ (v1 : Int32) (v2 : Int32) (v3 : Int32) (z2 : Nat → Int32) (H : Heap) (locs : List Loc) (ls : Array Slot), gi v1 0 23 → gi v2 11 264 → gi v3 0 11 → 24 + 28 * v1.toInt + (-2) * v3.toInt < (z : Int) → va_P (dC, dI) vwCl [(h0, .inr (3, [.int months, .int full, .int lean, .ref al, .ref on])), (al, .inl (kal, 25, .inl fal)), (on, .inl (kon, 275, .inl z2))] H → va_D A [(h0, .inr (3, [.int months, .int full, .int lean, .ref al, .ref on])), (al, .inl (kal, 25, .inl fal)), (on, .inl (kon, 275, .inl z2))] → va_S A s.heap H locs → lv_has ls 6 [(0, .ref h0), (1, .int v1), (2, .int v2), (3, .int v3)] → W p l e R s m args below meth c H locs cells slots Q (F0 m 67 ls [])) := by
  intro z
  induction z with
  | zero =>
    refine ⟨?_, ?_, ?_⟩
    · intro v1 z2 H locs ls gv1 hmu hP hD hS hl
      exact absurd hmu (by have hv11 := gv1.1; have hv12 := gv1.2; omega)
    · intro v1 z2 H locs ls gv1 hmu hP hD hS hl
      exact absurd hmu (by have hv11 := gv1.1; have hv12 := gv1.2; omega)
    · intro v1 v2 v3 z2 H locs ls gv1 gv2 gv3 hmu hP hD hS hl
      exact absurd hmu (by have hv11 := gv1.1; have hv12 := gv1.2; have hv31 := gv3.1; have hv32 := gv3.2; omega)
  | succ z ih =>
    refine ⟨?_, ?_, ?_⟩
    · intro v1 z2 H locs ls gv1 hmu hP hD hS hl
      refine lv_iload_n hx hb dX3_fits_2 rfl (lv_at hl 1 rfl) ?_
      refine lv_aload_n hx hb dX3_fits_3 rfl (lv_at hl 0 rfl) ?_
      refine va_get (D := (dC, dI)) (ci := 3) (v := .int full) (C := RX3) (T := TX3) (N := 5) hx hb hts (fun w h => List.mem_cons_of_mem _ (jnGA_X3 w h)) hown hK hP 0 rfl rfl 1 (by decide) (hts _ (List.mem_cons_of_mem _ mGA_479)) (fun _ h9 => h9) rfl dX3_fits_4 ?_
      refine lv_aload_n hx hb dX3_fits_7 rfl (lv_at hl 0 rfl) ?_
      refine va_get (D := (dC, dI)) (ci := 3) (v := .int lean) (C := RX3) (T := TX3) (N := 5) hx hb hts (fun w h => List.mem_cons_of_mem _ (jnGA_X3 w h)) hown hK hP 0 rfl rfl 2 (by decide) (hts _ (List.mem_cons_of_mem _ mGA_481)) (fun _ h9 => h9) rfl dX3_fits_8 ?_
      refine lv_iadd hx hb dX3_fits_11 ?_
      refine lv_topi (fun x_401 ex_401 => ?_)
      have gx_401 : gi x_401 0 10 := gi_add ex_401 gfull glean (by decide)
      refine lv_icmp_gt (tgt := 44) hx hb dX3_fits_12 (by decide) (fun c_402 => ?_) (fun c_402 => ?_)
      · refine lv_aload_n hx hb dX3_fits_44 rfl (lv_at hl 0 rfl) ?_
        refine va_get (D := (dC, dI)) (ci := 3) (v := .int months) (C := RX3) (T := TX3) (N := 5) hx hb hts (fun w h => List.mem_cons_of_mem _ (jnGA_X3 w h)) hown hK hP 0 rfl rfl 0 (by decide) (hts _ (List.mem_cons_of_mem _ mGA_477)) (fun _ h9 => h9) rfl dX3_fits_45 ?_
        refine lv_iconst (v := 1) hx hb dX3_fits_48 (by decide) ?_
        refine lv_isub hx hb dX3_fits_49 ?_
        refine lv_topi (fun x_403 ex_403 => ?_)
        have gx_403 : gi x_403 (-1) 23 := gi_sub ex_403 gmonths (gi_c 1 1 (by decide)) (by decide)
        refine lv_istore_n (lv' := [(1, .int x_403), (0, .ref h0)]) hx hb dX3_fits_50 rfl hl (by decide) rfl (fun ls hl => ?_)
        exact ih.2.1 x_403 z2 _ _ _ gx_403 (by have av1 := gv1.1; have bv1 := gv1.2; have qgx_403 := gx_403.1; have rgx_403 := gx_403.2; have igx_403 : x_403.toInt = months.toInt - 1 := (by have hc1 : (1 : Int32).toInt = 1 := (by decide); have h9 := gi_subI ex_403 (by have h1 := gmonths.1; have h2 := (gi_c 1 1 (by decide)).1; have h3 := gmonths.2; have h4 := (gi_c 1 1 (by decide)).2; omega) (by have h1 := gmonths.1; have h2 := (gi_c 1 1 (by decide)).1; have h3 := gmonths.2; have h4 := (gi_c 1 1 (by decide)).2; omega); rw [hc1] at h9; exact h9); have qgmonths := gmonths.1; have rgmonths := gmonths.2; omega) hP hD hS (lv_sub hl [1, 0] rfl)
      · have g_404 : gi v1 1 10 := gi_le_l (Int32.not_lt.mp c_402) gv1 gx_401
        have g_405 : gi x_401 1 10 := gi_le_r (Int32.not_lt.mp c_402) gv1 gx_401
        refine lv_aload_n hx hb dX3_fits_15 rfl (lv_at hl 0 rfl) ?_
        refine va_get (D := (dC, dI)) (ci := 3) (v := .ref on) (C := RX3) (T := TX3) (N := 5) hx hb hts (fun w h => List.mem_cons_of_mem _ (jnGA_X3 w h)) hown hK hP 0 rfl rfl 4 (by decide) (hts _ (List.mem_cons_of_mem _ mGA_95)) (fun _ h9 => h9) rfl dX3_fits_16 ?_
        refine lv_aload_n hx hb dX3_fits_19 rfl (lv_at hl 0 rfl) ?_
        refine va_get (D := (dC, dI)) (ci := 3) (v := .int months) (C := RX3) (T := TX3) (N := 5) hx hb hts (fun w h => List.mem_cons_of_mem _ (jnGA_X3 w h)) hown hK hP 0 rfl rfl 0 (by decide) (hts _ (List.mem_cons_of_mem _ mGA_477)) (fun _ h9 => h9) rfl dX3_fits_20 ?_
        refine lv_bipush (v := 11) hx hb dX3_fits_23 (by decide) ?_
        refine lv_imul hx hb dX3_fits_25 ?_
        refine lv_topi (fun x_406 ex_406 => ?_)
        have gx_406 : gi x_406 0 264 := gi_mul ex_406 gmonths (gi_c 11 11 (by decide)) (by decide)
        refine lv_iload_n hx hb dX3_fits_26 rfl (lv_at hl 1 rfl) ?_
        refine lv_iadd hx hb dX3_fits_27 ?_
        refine lv_topi (fun x_407 ex_407 => ?_)
        have gx_407 : gi x_407 1 274 := gi_add ex_407 gx_406 g_404 (by decide)
        refine lv_aload_n hx hb dX3_fits_28 rfl (lv_at hl 0 rfl) ?_
        refine va_get (D := (dC, dI)) (ci := 3) (v := .ref al) (C := RX3) (T := TX3) (N := 5) hx hb hts (fun w h => List.mem_cons_of_mem _ (jnGA_X3 w h)) hown hK hP 0 rfl rfl 3 (by decide) (hts _ (List.mem_cons_of_mem _ mGA_94)) (fun _ h9 => h9) rfl dX3_fits_29 ?_
        refine lv_aload_n hx hb dX3_fits_32 rfl (lv_at hl 0 rfl) ?_
        refine va_get (D := (dC, dI)) (ci := 3) (v := .int months) (C := RX3) (T := TX3) (N := 5) hx hb hts (fun w h => List.mem_cons_of_mem _ (jnGA_X3 w h)) hown hK hP 0 rfl rfl 0 (by decide) (hts _ (List.mem_cons_of_mem _ mGA_477)) (fun _ h9 => h9) rfl dX3_fits_33 ?_
        refine va_iald hx hb hK hP 1 0 rfl rfl (gi_in gmonths (by decide)) dX3_fits_36 ?_
        refine lv_topi (fun x_408 ex_408 => ?_)
        refine va_iast hx hb hK hP hD hS 2 1 rfl rfl (gi_in gx_407 (by decide)) dX3_fits_37 (fun H locs hP hD hS => ?_)
        have hP : va_P (dC, dI) vwCl [(h0, .inr (3, [.int months, .int full, .int lean, .ref al, .ref on])), (al, .inl (kal, 25, .inl fal)), (on, .inl (kon, 275, .inl (upd z2 (x_407 : Int32).toNatClampNeg x_408)))] H := hP
        have hD : va_D A [(h0, .inr (3, [.int months, .int full, .int lean, .ref al, .ref on])), (al, .inl (kal, 25, .inl fal)), (on, .inl (kon, 275, .inl (upd z2 (x_407 : Int32).toNatClampNeg x_408)))] := hD
        generalize upd z2 (x_407 : Int32).toNatClampNeg x_408 = f_409 at hP hD
        obtain ⟨x_410, ex_410⟩ : ∃ y : Int32, y = v1 + 1 := ⟨_, rfl⟩
        have gx_410 : gi x_410 2 11 := gi_add ex_410 g_404 (gi_c 1 1 (by decide)) (by decide)
        refine lv_iinc (v := x_410) (lv' := [(1, .int x_410), (0, .ref h0)]) hx hb dX3_fits_38 hl (k := 1) rfl (by rw [ex_410]; rfl) (by decide) rfl (fun ls hl => ?_)
        refine lv_goto (tgt := 2) hx hb dX3_fits_41 (by decide) ?_
        exact ih.1 x_410 f_409 _ _ _ (gi_w gx_410 (by decide)) (by have av1 := gv1.1; have bv1 := gv1.2; have qgx_410 := gx_410.1; have rgx_410 := gx_410.2; have igx_410 : x_410.toInt = v1.toInt + 1 := (by have hc1 : (1 : Int32).toInt = 1 := (by decide); have h9 := gi_addI ex_410 (by have h1 := g_404.1; have h2 := (gi_c 1 1 (by decide)).1; have h3 := g_404.2; have h4 := (gi_c 1 1 (by decide)).2; omega) (by have h1 := g_404.1; have h2 := (gi_c 1 1 (by decide)).1; have h3 := g_404.2; have h4 := (gi_c 1 1 (by decide)).2; omega); rw [hc1] at h9; exact h9); have qgv1 := g_404.1; have rgv1 := g_404.2; omega) hP hD hS (lv_sub hl [1, 0] rfl)
    · intro v1 z2 H locs ls gv1 hmu hP hD hS hl
      refine lv_iload_n hx hb dX3_fits_51 rfl (lv_at hl 1 rfl) ?_
      refine lv_if_lt (tgt := 158) hx hb dX3_fits_52 (by decide) (fun c_411 => ?_) (fun c_411 => ?_)
      · have g_412 : gi v1 (-1) (-1) := gi_lt_l c_411 gv1 (gi_c 0 0 (by decide)) (by decide)
        refine lv_aload_n hx hb dX3_fits_158 rfl (lv_at hl 0 rfl) ?_
        refine va_get (D := (dC, dI)) (ci := 3) (v := .ref on) (C := RX3) (T := TX3) (N := 5) hx hb hts (fun w h => List.mem_cons_of_mem _ (jnGA_X3 w h)) hown hK hP 0 rfl rfl 4 (by decide) (hts _ (List.mem_cons_of_mem _ mGA_95)) (fun _ h9 => h9) rfl dX3_fits_159 ?_
        refine lv_iconst (v := 0) hx hb dX3_fits_162 (by decide) ?_
        refine va_iald hx hb hK hP 2 1 rfl rfl (gi_in (gi_c 0 0 (by decide)) (by decide)) dX3_fits_163 ?_
        refine lv_topi (fun x_413 ex_413 => ?_)
        refine lv_iconst (v := 1) hx hb dX3_fits_164 (by decide) ?_
        refine lv_iand hx hb dX3_fits_165 ?_
        refine lv_topi (fun x_414 ex_414 => ?_)
        have gx_414 : gi x_414 0 1 := gi_and1 ex_414
        refine lv_if_eq (tgt := 173) hx hb dX3_fits_166 (by decide) (fun c_415 => ?_) (fun c_415 => ?_)
        · have g_416 : gi x_414 0 0 := gi_eq c_415 (gi_c 0 0 (by decide))
          refine lv_iconst (v := 0) hx hb dX3_fits_173 (by decide) ?_
          exact kr174 0 z2 _ _ _ (gi_w (gi_c 0 0 (by decide)) (by decide)) hP hD hS (lv_sub hl [] rfl)
        · have g_417 : gi x_414 1 1 := gi_ne_lo c_415 gx_414 (gi_c 0 0 (by decide)) (by decide)
          refine lv_iconst (v := 1) hx hb dX3_fits_169 (by decide) ?_
          refine lv_goto (tgt := 174) hx hb dX3_fits_170 (by decide) ?_
          exact kr174 1 z2 _ _ _ (gi_w (gi_c 1 1 (by decide)) (by decide)) hP hD hS (lv_sub hl [] rfl)
      · have g_418 : gi v1 0 23 := gi_le_r (Int32.not_lt.mp c_411) (gi_c 0 0 (by decide)) gv1
        refine lv_iload_n hx hb dX3_fits_55 rfl (lv_at hl 1 rfl) ?_
        refine lv_iconst (v := 1) hx hb dX3_fits_56 (by decide) ?_
        refine lv_iadd hx hb dX3_fits_57 ?_
        refine lv_topi (fun x_419 ex_419 => ?_)
        have gx_419 : gi x_419 1 24 := gi_add ex_419 g_418 (gi_c 1 1 (by decide)) (by decide)
        refine lv_bipush (v := 11) hx hb dX3_fits_58 (by decide) ?_
        refine lv_imul hx hb dX3_fits_60 ?_
        refine lv_topi (fun x_420 ex_420 => ?_)
        have gx_420 : gi x_420 11 264 := gi_mul ex_420 gx_419 (gi_c 11 11 (by decide)) (by decide)
        refine lv_istore_n (lv' := [(2, .int x_420), (0, .ref h0), (1, .int v1)]) hx hb dX3_fits_61 rfl hl (by decide) rfl (fun ls hl => ?_)
        refine lv_iload_n hx hb dX3_fits_62 rfl (lv_at hl 2 rfl) ?_
        have hPc := hP.sub (ws' := []) [] rfl
        have hKc := hK.sub (tys' := []) [] rfl
        refine va_calli (va_runSN (As := [.int v1]) (rest := []) ⟨hx, hb, hml, hown, hts⟩ (sX11_firstRun l dC dI v1 (gi_w g_418 (by decide))) (⟨va_cnB 1 hts (gz_gP mGA_504 goodGA) rfl rfl rfl (nzA_X3_48 hz) (hts _ (List.mem_cons_of_mem _ mGA_1)) (by decide +kernel) ⟨Nat.le_trans (Nat.le_of_ble_eq_true rfl) hRf, Nat.le_trans (Nat.le_of_ble_eq_true rfl) hRl⟩, (hts _ (List.mem_cons_of_mem _ mGA_503)), trivial⟩) ⟨bl_I (bl_a bl_P (bl_a bl_K bl_nz)), fun U hU hW => ⟨rfl, by rw [hU]; exact hPc, va_K.moved hW.alike hKc, nzA_warm hW hz⟩⟩ rfl rfl hl.1 rfl (lv_room (Nat.le_of_ble_eq_true rfl)) dX3_fits_63 ⟨hRc, hRs⟩) hS (fun q _ h => h.elim) (fun q h => h.elim) (fun r_421 u t H1 locs ht hvm hw hB hz1 hk1 hS => ?_)
        have hP := gz_keep hP hk1
        generalize H1 = H at hP hS ⊢
        have gr_421 : gi r_421 0 1 := hw
        refine lv_istore_n (lv' := [(3, .int r_421), (2, .int x_420), (0, .ref h0), (1, .int v1)]) hx hb dX3_fits_66 rfl hl (by decide) rfl (fun ls hl => ?_)
        exact ih.2.2 v1 x_420 r_421 z2 _ _ _ g_418 gx_420 (gi_w gr_421 (by decide)) (by have av1 := gv1.1; have bv1 := gv1.2; have qgv1 := g_418.1; have rgv1 := g_418.2; have qgr_421 := gr_421.1; have rgr_421 := gr_421.2; omega) hP hD hS (lv_sub hl [2, 3, 1, 0] rfl)
    · intro v1 v2 v3 z2 H locs ls gv1 gv2 gv3 hmu hP hD hS hl
      refine lv_iload_n hx hb dX3_fits_67 rfl (lv_at hl 3 rfl) ?_
      refine lv_iload_n hx hb dX3_fits_68 rfl (lv_at hl 1 rfl) ?_
      refine lv_aload_n hx hb dX3_fits_69 rfl (lv_at hl 0 rfl) ?_
      refine va_get (D := (dC, dI)) (ci := 3) (v := .int full) (C := RX3) (T := TX3) (N := 5) hx hb hts (fun w h => List.mem_cons_of_mem _ (jnGA_X3 w h)) hown hK hP 0 rfl rfl 1 (by decide) (hts _ (List.mem_cons_of_mem _ mGA_479)) (fun _ h9 => h9) rfl dX3_fits_70 ?_
      refine lv_aload_n hx hb dX3_fits_73 rfl (lv_at hl 0 rfl) ?_
      refine va_get (D := (dC, dI)) (ci := 3) (v := .int lean) (C := RX3) (T := TX3) (N := 5) hx hb hts (fun w h => List.mem_cons_of_mem _ (jnGA_X3 w h)) hown hK hP 0 rfl rfl 2 (by decide) (hts _ (List.mem_cons_of_mem _ mGA_481)) (fun _ h9 => h9) rfl dX3_fits_74 ?_
      have hPc := hP.sub (ws' := []) [] rfl
      have hKc := hK.sub (tys' := []) [] rfl
      refine va_calli (va_runSN (As := [.int v1, .int full, .int lean]) (rest := [.int v3]) ⟨hx, hb, hml, hown, hts⟩ (sX11_lastRun l dC dI v1 full lean (gi_w gv1 (by decide)) gfull glean) (⟨va_cnB 3 hts (gz_gP mGA_506 goodGA) rfl rfl rfl (nzA_X3_52 hz) (hts _ (List.mem_cons_of_mem _ mGA_1)) (by decide +kernel) ⟨Nat.le_trans (Nat.le_of_ble_eq_true rfl) hRf, Nat.le_trans (Nat.le_of_ble_eq_true rfl) hRl⟩, (hts _ (List.mem_cons_of_mem _ mGA_505)), trivial⟩) ⟨bl_I (bl_a bl_P (bl_a bl_K bl_nz)), fun U hU hW => ⟨rfl, by rw [hU]; exact hPc, va_K.moved hW.alike hKc, nzA_warm hW hz⟩⟩ rfl rfl hl.1 rfl (lv_room (Nat.le_of_ble_eq_true rfl)) dX3_fits_77 ⟨hRc, hRs⟩) hS (fun q _ h => h.elim) (fun q h => h.elim) (fun r_422 u t H1 locs ht hvm hw hB hz1 hk1 hS => ?_)
      have hP := gz_keep hP hk1
      generalize H1 = H at hP hS ⊢
      have gr_422 : gi r_422 0 10 := hw
      refine lv_icmp_gt (tgt := 152) hx hb dX3_fits_80 (by decide) (fun c_423 => ?_) (fun c_423 => ?_)
      · have g_424 : gi v3 1 11 := gi_lt_r c_423 gr_422 gv3 (by decide)
        obtain ⟨x_425, ex_425⟩ : ∃ y : Int32, y = v1 + (-1) := ⟨_, rfl⟩
        have gx_425 : gi x_425 (-1) 22 := gi_add ex_425 gv1 (gi_c (-1) (-1) (by decide)) (by decide)
        refine lv_iinc (v := x_425) (lv' := [(1, .int x_425), (0, .ref h0), (2, .int v2), (3, .int v3)]) hx hb dX3_fits_152 hl (k := 1) rfl (by rw [ex_425]; rfl) (by decide) rfl (fun ls hl => ?_)
        refine lv_goto (tgt := 51) hx hb dX3_fits_155 (by decide) ?_
        exact ih.2.1 x_425 z2 _ _ _ (gi_w gx_425 (by decide)) (by have av1 := gv1.1; have bv1 := gv1.2; have av3 := gv3.1; have bv3 := gv3.2; have qgx_425 := gx_425.1; have rgx_425 := gx_425.2; have igx_425 : x_425.toInt = v1.toInt + (-1) := (by have hcm1 : ((-1) : Int32).toInt = (-1) := (by decide); have h9 := gi_addI ex_425 (by have h1 := gv1.1; have h2 := (gi_c (-1) (-1) (by decide)).1; have h3 := gv1.2; have h4 := (gi_c (-1) (-1) (by decide)).2; omega) (by have h1 := gv1.1; have h2 := (gi_c (-1) (-1) (by decide)).1; have h3 := gv1.2; have h4 := (gi_c (-1) (-1) (by decide)).2; omega); rw [hcm1] at h9; exact h9); have qgv1 := gv1.1; have rgv1 := gv1.2; omega) hP hD hS (lv_sub hl [1, 0] rfl)
      · have g_426 : gi v3 0 10 := gi_le_l (Int32.not_lt.mp c_423) gv3 gr_422
        refine lv_aload_n hx hb dX3_fits_83 rfl (lv_at hl 0 rfl) ?_
        refine va_get (D := (dC, dI)) (ci := 3) (v := .ref on) (C := RX3) (T := TX3) (N := 5) hx hb hts (fun w h => List.mem_cons_of_mem _ (jnGA_X3 w h)) hown hK hP 0 rfl rfl 4 (by decide) (hts _ (List.mem_cons_of_mem _ mGA_95)) (fun _ h9 => h9) rfl dX3_fits_84 ?_
        refine lv_iload_n hx hb dX3_fits_87 rfl (lv_at hl 2 rfl) ?_
        refine lv_iload_n hx hb dX3_fits_88 rfl (lv_at hl 3 rfl) ?_
        refine lv_aload_n hx hb dX3_fits_89 rfl (lv_at hl 0 rfl) ?_
        refine va_get (D := (dC, dI)) (ci := 3) (v := .int full) (C := RX3) (T := TX3) (N := 5) hx hb hts (fun w h => List.mem_cons_of_mem _ (jnGA_X3 w h)) hown hK hP 0 rfl rfl 1 (by decide) (hts _ (List.mem_cons_of_mem _ mGA_479)) (fun _ h9 => h9) rfl dX3_fits_90 ?_
        have hPc := hP.sub (ws' := []) [] rfl
        have hKc := hK.sub (tys' := []) [] rfl
        refine va_calli (va_runSN (As := [.int v3, .int full]) (rest := [.int v2, .ref on]) ⟨hx, hb, hml, hown, hts⟩ (sX11_runWithFull l dC dI v3 full g_426 gfull) (⟨va_cnB 2 hts (gz_gP mGA_508 goodGA) rfl rfl rfl (nzA_X3_56 hz) (hts _ (List.mem_cons_of_mem _ mGA_1)) (by decide +kernel) ⟨Nat.le_trans (Nat.le_of_ble_eq_true rfl) hRf, Nat.le_trans (Nat.le_of_ble_eq_true rfl) hRl⟩, (hts _ (List.mem_cons_of_mem _ mGA_507)), trivial⟩) ⟨bl_I (bl_a bl_P (bl_a bl_K bl_nz)), fun U hU hW => ⟨rfl, by rw [hU]; exact hPc, va_K.moved hW.alike hKc, nzA_warm hW hz⟩⟩ rfl rfl hl.1 rfl (lv_room (Nat.le_of_ble_eq_true rfl)) dX3_fits_93 ⟨hRc, hRs⟩) hS (fun q _ h => h.elim) (fun q h => h.elim) (fun r_427 u t H1 locs ht hvm hw hB hz1 hk1 hS => ?_)
        have hP := gz_keep hP hk1
        generalize H1 = H at hP hS ⊢
        have gr_427 : gi r_427 0 5 := hw
        refine lv_iadd hx hb dX3_fits_96 ?_
        refine lv_topi (fun x_428 ex_428 => ?_)
        have gx_428 : gi x_428 11 269 := gi_add ex_428 gv2 gr_427 (by decide)
        refine va_iald hx hb hK hP 2 1 rfl rfl (gi_in gx_428 (by decide)) dX3_fits_97 ?_
        refine lv_topi (fun x_429 ex_429 => ?_)
        refine lv_iconst (v := 1) hx hb dX3_fits_98 (by decide) ?_
        refine lv_ishr hx hb dX3_fits_99 ?_
        refine lv_topi (fun x_430 ex_430 => ?_)
        refine lv_istore (lv' := [(4, .int x_430), (0, .ref h0), (1, .int v1), (2, .int v2), (3, .int v3)]) hx hb dX3_fits_100 hl (by decide) rfl (fun ls hl => ?_)
        refine lv_aload_n hx hb dX3_fits_102 rfl (lv_at hl 1 rfl) ?_
        refine va_get (D := (dC, dI)) (ci := 3) (v := .ref on) (C := RX3) (T := TX3) (N := 5) hx hb hts (fun w h => List.mem_cons_of_mem _ (jnGA_X3 w h)) hown hK hP 0 rfl rfl 4 (by decide) (hts _ (List.mem_cons_of_mem _ mGA_95)) (fun _ h9 => h9) rfl dX3_fits_103 ?_
        refine lv_iload_n hx hb dX3_fits_106 rfl (lv_at hl 3 rfl) ?_
        refine lv_iload_n hx hb dX3_fits_107 rfl (lv_at hl 4 rfl) ?_
        refine lv_aload_n hx hb dX3_fits_108 rfl (lv_at hl 1 rfl) ?_
        refine va_get (D := (dC, dI)) (ci := 3) (v := .int full) (C := RX3) (T := TX3) (N := 5) hx hb hts (fun w h => List.mem_cons_of_mem _ (jnGA_X3 w h)) hown hK hP 0 rfl rfl 1 (by decide) (hts _ (List.mem_cons_of_mem _ mGA_479)) (fun _ h9 => h9) rfl dX3_fits_109 ?_
        refine lv_aload_n hx hb dX3_fits_112 rfl (lv_at hl 1 rfl) ?_
        refine va_get (D := (dC, dI)) (ci := 3) (v := .int lean) (C := RX3) (T := TX3) (N := 5) hx hb hts (fun w h => List.mem_cons_of_mem _ (jnGA_X3 w h)) hown hK hP 0 rfl rfl 2 (by decide) (hts _ (List.mem_cons_of_mem _ mGA_481)) (fun _ h9 => h9) rfl dX3_fits_113 ?_
        have hPc := hP.sub (ws' := []) [] rfl
        have hKc := hK.sub (tys' := []) [] rfl
        refine va_calli (va_runSN (As := [.int v3, .int full, .int lean]) (rest := [.int v2, .ref on]) ⟨hx, hb, hml, hown, hts⟩ (sX11_runWithLean l dC dI v3 full lean g_426 gfull glean) (⟨va_cnB 3 hts (gz_gP mGA_510 goodGA) rfl rfl rfl (nzA_X3_60 hz) (hts _ (List.mem_cons_of_mem _ mGA_1)) (by decide +kernel) ⟨Nat.le_trans (Nat.le_of_ble_eq_true rfl) hRf, Nat.le_trans (Nat.le_of_ble_eq_true rfl) hRl⟩, (hts _ (List.mem_cons_of_mem _ mGA_509)), trivial⟩) ⟨bl_I (bl_a bl_P (bl_a bl_K bl_nz)), fun U hU hW => ⟨rfl, by rw [hU]; exact hPc, va_K.moved hW.alike hKc, nzA_warm hW hz⟩⟩ rfl rfl hl.1 rfl (lv_room (Nat.le_of_ble_eq_true rfl)) dX3_fits_116 ⟨hRc, hRs⟩) hS (fun q _ h => h.elim) (fun q h => h.elim) (fun r_431 u t H1 locs ht hvm hw hB hz1 hk1 hS => ?_)
        have hP := gz_keep hP hk1
        generalize H1 = H at hP hS ⊢
        have gr_431 : gi r_431 0 10 := hw
        refine lv_iadd hx hb dX3_fits_119 ?_
        refine lv_topi (fun x_432 ex_432 => ?_)
        have gx_432 : gi x_432 11 274 := gi_add ex_432 gv2 gr_431 (by decide)
        refine va_iald hx hb hK hP 2 1 rfl rfl (gi_in gx_432 (by decide)) dX3_fits_120 ?_
        refine lv_topi (fun x_433 ex_433 => ?_)
        refine lv_istore (lv' := [(5, .int x_433), (4, .int x_430), (0, .ref h0), (1, .int v1), (2, .int v2), (3, .int v3)]) hx hb dX3_fits_121 hl (by decide) rfl (fun ls hl => ?_)
        refine lv_aload_n hx hb dX3_fits_123 rfl (lv_at hl 2 rfl) ?_
        refine va_get (D := (dC, dI)) (ci := 3) (v := .ref on) (C := RX3) (T := TX3) (N := 5) hx hb hts (fun w h => List.mem_cons_of_mem _ (jnGA_X3 w h)) hown hK hP 0 rfl rfl 4 (by decide) (hts _ (List.mem_cons_of_mem _ mGA_95)) (fun _ h9 => h9) rfl dX3_fits_124 ?_
        refine lv_iload_n hx hb dX3_fits_127 rfl (lv_at hl 3 rfl) ?_
        refine lv_bipush (v := 11) hx hb dX3_fits_128 (by decide) ?_
        refine lv_imul hx hb dX3_fits_130 ?_
        refine lv_topi (fun x_434 ex_434 => ?_)
        have gx_434 : gi x_434 0 253 := gi_mul ex_434 gv1 (gi_c 11 11 (by decide)) (by decide)
        refine lv_iload_n hx hb dX3_fits_131 rfl (lv_at hl 5 rfl) ?_
        refine lv_iadd hx hb dX3_fits_132 ?_
        refine lv_topi (fun x_435 ex_435 => ?_)
        have gx_435 : gi x_435 0 263 := gi_add ex_435 gx_434 g_426 (by decide)
        refine lv_aload_n hx hb dX3_fits_133 rfl (lv_at hl 2 rfl) ?_
        refine va_get (D := (dC, dI)) (ci := 3) (v := .ref al) (C := RX3) (T := TX3) (N := 5) hx hb hts (fun w h => List.mem_cons_of_mem _ (jnGA_X3 w h)) hown hK hP 0 rfl rfl 3 (by decide) (hts _ (List.mem_cons_of_mem _ mGA_94)) (fun _ h9 => h9) rfl dX3_fits_134 ?_
        refine lv_iload_n hx hb dX3_fits_137 rfl (lv_at hl 3 rfl) ?_
        refine va_iald hx hb hK hP 1 0 rfl rfl (gi_in gv1 (by decide)) dX3_fits_138 ?_
        refine lv_topi (fun x_436 ex_436 => ?_)
        refine lv_iload hx hb dX3_fits_139 (lv_at hl 1 rfl) ?_
        refine lv_iload hx hb dX3_fits_141 (lv_at hl 0 rfl) ?_
        refine lv_ior hx hb dX3_fits_143 ?_
        refine lv_topi (fun x_437 ex_437 => ?_)
        refine lv_iand hx hb dX3_fits_144 ?_
        refine lv_topi (fun x_438 ex_438 => ?_)
        refine va_iast hx hb hK hP hD hS 2 1 rfl rfl (gi_in gx_435 (by decide)) dX3_fits_145 (fun H locs hP hD hS => ?_)
        have hP : va_P (dC, dI) vwCl [(h0, .inr (3, [.int months, .int full, .int lean, .ref al, .ref on])), (al, .inl (kal, 25, .inl fal)), (on, .inl (kon, 275, .inl (upd z2 (x_435 : Int32).toNatClampNeg x_438)))] H := hP
        have hD : va_D A [(h0, .inr (3, [.int months, .int full, .int lean, .ref al, .ref on])), (al, .inl (kal, 25, .inl fal)), (on, .inl (kon, 275, .inl (upd z2 (x_435 : Int32).toNatClampNeg x_438)))] := hD
        generalize upd z2 (x_435 : Int32).toNatClampNeg x_438 = f_439 at hP hD
        obtain ⟨x_440, ex_440⟩ : ∃ y : Int32, y = v3 + 1 := ⟨_, rfl⟩
        have gx_440 : gi x_440 1 11 := gi_add ex_440 g_426 (gi_c 1 1 (by decide)) (by decide)
        refine lv_iinc (v := x_440) (lv' := [(3, .int x_440), (5, .int x_433), (4, .int x_430), (0, .ref h0), (1, .int v1), (2, .int v2)]) hx hb dX3_fits_146 hl (k := 5) rfl (by rw [ex_440]; rfl) (by decide) rfl (fun ls hl => ?_)
        refine lv_goto (tgt := 67) hx hb dX3_fits_149 (by decide) ?_
        exact ih.2.2 v1 v2 x_440 f_439 _ _ _ gv1 gv2 (gi_w gx_440 (by decide)) (by have av1 := gv1.1; have bv1 := gv1.2; have av3 := gv3.1; have bv3 := gv3.2; have qgx_440 := gx_440.1; have rgx_440 := gx_440.2; have igx_440 : x_440.toInt = v3.toInt + 1 := (by have hc1 : (1 : Int32).toInt = 1 := (by decide); have h9 := gi_addI ex_440 (by have h1 := g_426.1; have h2 := (gi_c 1 1 (by decide)).1; have h3 := g_426.2; have h4 := (gi_c 1 1 (by decide)).2; omega) (by have h1 := g_426.1; have h2 := (gi_c 1 1 (by decide)).1; have h3 := g_426.2; have h4 := (gi_c 1 1 (by decide)).2; omega); rw [hc1] at h9; exact h9); have qgv3 := g_426.1; have rgv3 := g_426.2; have qgv1 := gv1.1; have rgv1 := gv1.2; omega) hP hD hS (lv_sub hl [3, 4, 5, 0] rfl)
abbrev pb_sX3_fits (dC : Nat → ClassId) (dI : Nat → Nat → Nat) (A9 : Nat → Prop) (h0 : Nat) (al : Nat) (on : Nat) (months : Int32) (full : Int32) (lean : Int32) (kal : ClassId) (fal : Nat → Int32) (kon : ClassId) (fon : Nat → Int32) (z2 : Nat → Int32) (t : State) : Prop := va_P (dC, dI) vwCl [(h0, .inr (3, [.int months, .int full, .int lean, .ref al, .ref on])), (al, .inl (kal, 25, .inl fal)), (on, .inl (kon, 275, .inl z2))] t.heap ∧ va_D A9 [(h0, .inr (3, [.int months, .int full, .int lean, .ref al, .ref on])), (al, .inl (kal, 25, .inl fal)), (on, .inl (kon, 275, .inl z2))]
set_option maxHeartbeats 4000000 in
set_option maxRecDepth 100000 in
theorem sX3_fits (l : Launch) (dC : Nat → ClassId) (dI : Nat → Nat → Nat) (sz : Nat) (h0 : Nat) (al : Nat) (on : Nat) (months : Int32) (full : Int32) (lean : Int32) (kal : ClassId) (fal : Nat → Int32) (kon : ClassId) (fon : Nat → Int32) (gmonths : gi months 0 24) (gfull : gi full 0 5) (glean : gi lean 0 5) : Met l yX3_fits (.code yX3_fits cX3_fits 6 (some .boolean) :: wsGA) ({ frames := 1, cells := 0, slots := 0, locals := 22 }) (va_Pc [.ref h0] (fun U => U.heap.size = sz ∧ va_P (dC, dI) vwCl [(h0, .inr (3, [.int months, .int full, .int lean, .ref al, .ref on])), (al, .inl (kal, 25, .inl fal)), (on, .inl (kon, 275, .inl fon))] U.heap ∧ va_K (dC, dI) vwCl [(kal, .int), (kon, .int)] U ∧ va_D (fun _ => True) [(h0, .inr (3, [.int months, .int full, .int lean, .ref al, .ref on])), (al, .inl (kal, 25, .inl fal)), (on, .inl (kon, 275, .inl fon))] ∧ nzA U)) (va_Qi (fun (r : Int32) (u : Unit) => gi r 0 1) (fun _ t => ∃ (z2 : Nat → Int32), pb_sX3_fits dC dI (va_A [(h0, .inr (3, [.int months, .int full, .int lean, .ref al, .ref on])), (al, .inl (kal, 25, .inl fal)), (on, .inl (kon, 275, .inl fon))] sz) h0 al on months full lean kal fal kon fon z2 t) (va_A [(h0, .inr (3, [.int months, .int full, .int lean, .ref al, .ref on])), (al, .inl (kal, 25, .inl fal)), (on, .inl (kon, 275, .inl fon))] sz)) 0 0 (va_A [(h0, .inr (3, [.int months, .int full, .int lean, .ref al, .ref on])), (al, .inl (kal, 25, .inl fal)), (on, .inl (kon, 275, .inl fon))] sz) := by
  refine Met.ofW (cc := cX3_fits) (maxL := 6) (ret := (some .boolean)) (by decide) rfl ?_
  intro p e s m args below meth c s₁ B hml hv
  obtain ⟨rfl, hsz, hP, hK, hD0, hz⟩ := hv
  have hx := B.exec
  have hb := B.bytes
  have hr := B.returns
  have hts := atoms_spec (ws := (.code yX3_fits cX3_fits 6 (some .boolean) :: wsGA)) B.pre
  have hown : s.vm.findClass RX3 = some m.cls := findClass_of_methodNamed B.named
  have hlocks := B.notSynchronized
  subst hsz
  have hD := hD0.self (sz := s.heap.size)
  generalize hAe : va_A [(h0, .inr (3, [.int months, .int full, .int lean, .ref al, .ref on])), (al, .inl (kal, 25, .inl fal)), (on, .inl (kon, 275, .inl fon))] s.heap.size = A at hD ⊢
  have hA : ∀ q : Nat, s.heap.size ≤ q → A q := fun q h => by rw [← hAe]; exact Or.inr h
  have hS : va_S A s.heap s.heap [] := va_S.rf
  have hl := lv_entry ([.ref h0]) (n := 6) (Nat.le_of_ble_eq_true rfl)
  rw [lg_entry_eq]
  generalize (lg_sl ([.ref h0]) ++ List.replicate (6 - (lg_sl ([.ref h0])).length) Slot.unset).toArray = ls at hl ⊢
  have hl : lv_has ls 6 [(0, .ref h0)] := hl
  refine lv_iconst (v := 1) hx hb dX3_fits_0 (by decide) ?_
  refine lv_istore_n (lv' := [(1, .int 1), (0, .ref h0)]) hx hb dX3_fits_1 rfl hl (by decide) rfl (fun ls hl => ?_)
  refine (lp_sX3_fits h0 al on months full lean kal fal kon fon gmonths gfull glean hx hb hml hown hts hK hz hA (Nat.le_of_ble_eq_true rfl) (Nat.le_of_ble_eq_true rfl) (Nat.zero_le _) (Nat.zero_le _) (fun v z2 H locs ls gv hP hD hS hl => ?_) 762).1 1 fon _ _ _ (gi_w (gi_c 1 1 (by decide)) (by decide)) (by have k1 : (1 : Int32).toInt = 1 := (by decide); omega) hP hD hS (lv_sub hl [1, 0] rfl)
  · skip
    exact W.zret (v := v) hx hb hr (gz_nb gv) (fun t ht hW => ⟨⟨v, (), rfl, gv, z2, by rw [ht]; exact hP, hD⟩, hS.F ht⟩) hS.2.2 dX3_fits_174
theorem dX3_beginsInto_0 : decode cX3_beginsInto 0 = .ok (.iconst 0, 1) := by decide +kernel
theorem dX3_beginsInto_1 : decode cX3_beginsInto 1 = .ok (.istore_n 2, 1) := by decide +kernel
theorem dX3_beginsInto_2 : decode cX3_beginsInto 2 = .ok (.iconst 0, 1) := by decide +kernel
theorem dX3_beginsInto_3 : decode cX3_beginsInto 3 = .ok (.istore_n 3, 1) := by decide +kernel
theorem dX3_beginsInto_4 : decode cX3_beginsInto 4 = .ok (.aload_n 1, 1) := by decide +kernel
theorem dX3_beginsInto_5 : decode cX3_beginsInto 5 = .ok (.iconst 0, 1) := by decide +kernel
theorem dX3_beginsInto_6 : decode cX3_beginsInto 6 = .ok (.iconst 0, 1) := by decide +kernel
theorem dX3_beginsInto_7 : decode cX3_beginsInto 7 = .ok (.iastore, 1) := by decide +kernel
theorem dX3_beginsInto_8 : decode cX3_beginsInto 8 = .ok (.iconst 0, 1) := by decide +kernel
theorem dX3_beginsInto_9 : decode cX3_beginsInto 9 = .ok (.istore 4, 2) := by decide +kernel
theorem dX3_beginsInto_11 : decode cX3_beginsInto 11 = .ok (.iload 4, 2) := by decide +kernel
theorem dX3_beginsInto_13 : decode cX3_beginsInto 13 = .ok (.aload_n 0, 1) := by decide +kernel
theorem dX3_beginsInto_14 : decode cX3_beginsInto 14 = .ok (.getfield 24, 3) := by decide +kernel
theorem dX3_beginsInto_17 : decode cX3_beginsInto 17 = .ok (.if_icmp .ge 79, 3) := by decide +kernel
theorem dX3_beginsInto_20 : decode cX3_beginsInto 20 = .ok (.iload_n 3, 1) := by decide +kernel
theorem dX3_beginsInto_21 : decode cX3_beginsInto 21 = .ok (.aload_n 0, 1) := by decide +kernel
theorem dX3_beginsInto_22 : decode cX3_beginsInto 22 = .ok (.getfield 28, 3) := by decide +kernel
theorem dX3_beginsInto_25 : decode cX3_beginsInto 25 = .ok (.invokestatic 56, 3) := by decide +kernel
theorem dX3_beginsInto_28 : decode cX3_beginsInto 28 = .ok (.istore 5, 2) := by decide +kernel
theorem dX3_beginsInto_30 : decode cX3_beginsInto 30 = .ok (.aload_n 0, 1) := by decide +kernel
theorem dX3_beginsInto_31 : decode cX3_beginsInto 31 = .ok (.getfield 15, 3) := by decide +kernel
theorem dX3_beginsInto_34 : decode cX3_beginsInto 34 = .ok (.iload 4, 2) := by decide +kernel
theorem dX3_beginsInto_36 : decode cX3_beginsInto 36 = .ok (.iconst 1, 1) := by decide +kernel
theorem dX3_beginsInto_37 : decode cX3_beginsInto 37 = .ok (.iadd, 1) := by decide +kernel
theorem dX3_beginsInto_38 : decode cX3_beginsInto 38 = .ok (.bipush 11, 2) := by decide +kernel
theorem dX3_beginsInto_40 : decode cX3_beginsInto 40 = .ok (.imul, 1) := by decide +kernel
theorem dX3_beginsInto_41 : decode cX3_beginsInto 41 = .ok (.iload 5, 2) := by decide +kernel
theorem dX3_beginsInto_43 : decode cX3_beginsInto 43 = .ok (.iadd, 1) := by decide +kernel
theorem dX3_beginsInto_44 : decode cX3_beginsInto 44 = .ok (.iaload, 1) := by decide +kernel
theorem dX3_beginsInto_45 : decode cX3_beginsInto 45 = .ok (.iload_n 2, 1) := by decide +kernel
theorem dX3_beginsInto_46 : decode cX3_beginsInto 46 = .ok (.iconst 1, 1) := by decide +kernel
theorem dX3_beginsInto_47 : decode cX3_beginsInto 47 = .ok (.iadd, 1) := by decide +kernel
theorem dX3_beginsInto_48 : decode cX3_beginsInto 48 = .ok (.ishr, 1) := by decide +kernel
theorem dX3_beginsInto_49 : decode cX3_beginsInto 49 = .ok (.iconst 1, 1) := by decide +kernel
theorem dX3_beginsInto_50 : decode cX3_beginsInto 50 = .ok (.iand, 1) := by decide +kernel
theorem dX3_beginsInto_51 : decode cX3_beginsInto 51 = .ok (.ifCond .eq 12, 3) := by decide +kernel
theorem dX3_beginsInto_54 : decode cX3_beginsInto 54 = .ok (.iload 5, 2) := by decide +kernel
theorem dX3_beginsInto_56 : decode cX3_beginsInto 56 = .ok (.istore_n 3, 1) := by decide +kernel
theorem dX3_beginsInto_57 : decode cX3_beginsInto 57 = .ok (.iinc 2 1, 3) := by decide +kernel
theorem dX3_beginsInto_60 : decode cX3_beginsInto 60 = .ok (.goto 16, 3) := by decide +kernel
theorem dX3_beginsInto_63 : decode cX3_beginsInto 63 = .ok (.iload_n 3, 1) := by decide +kernel
theorem dX3_beginsInto_64 : decode cX3_beginsInto 64 = .ok (.aload_n 0, 1) := by decide +kernel
theorem dX3_beginsInto_65 : decode cX3_beginsInto 65 = .ok (.getfield 28, 3) := by decide +kernel
theorem dX3_beginsInto_68 : decode cX3_beginsInto 68 = .ok (.aload_n 0, 1) := by decide +kernel
theorem dX3_beginsInto_69 : decode cX3_beginsInto 69 = .ok (.getfield 32, 3) := by decide +kernel
theorem dX3_beginsInto_72 : decode cX3_beginsInto 72 = .ok (.invokestatic 60, 3) := by decide +kernel
theorem dX3_beginsInto_75 : decode cX3_beginsInto 75 = .ok (.istore_n 3, 1) := by decide +kernel
theorem dX3_beginsInto_76 : decode cX3_beginsInto 76 = .ok (.aload_n 1, 1) := by decide +kernel
theorem dX3_beginsInto_77 : decode cX3_beginsInto 77 = .ok (.iload 4, 2) := by decide +kernel
theorem dX3_beginsInto_79 : decode cX3_beginsInto 79 = .ok (.iconst 1, 1) := by decide +kernel
theorem dX3_beginsInto_80 : decode cX3_beginsInto 80 = .ok (.iadd, 1) := by decide +kernel
theorem dX3_beginsInto_81 : decode cX3_beginsInto 81 = .ok (.iload 4, 2) := by decide +kernel
theorem dX3_beginsInto_83 : decode cX3_beginsInto 83 = .ok (.iconst 1, 1) := by decide +kernel
theorem dX3_beginsInto_84 : decode cX3_beginsInto 84 = .ok (.iadd, 1) := by decide +kernel
theorem dX3_beginsInto_85 : decode cX3_beginsInto 85 = .ok (.iload_n 2, 1) := by decide +kernel
theorem dX3_beginsInto_86 : decode cX3_beginsInto 86 = .ok (.invokestatic 63, 3) := by decide +kernel
theorem dX3_beginsInto_89 : decode cX3_beginsInto 89 = .ok (.iastore, 1) := by decide +kernel
theorem dX3_beginsInto_90 : decode cX3_beginsInto 90 = .ok (.iinc 4 1, 3) := by decide +kernel
theorem dX3_beginsInto_93 : decode cX3_beginsInto 93 = .ok (.goto (-82), 3) := by decide +kernel
theorem dX3_beginsInto_96 : decode cX3_beginsInto 96 = .ok (.return_, 1) := by decide +kernel
set_option maxHeartbeats 4000000 in
set_option maxRecDepth 100000 in
theorem lp_sX3_beginsInto {p : Program} {l : Launch} {e : Env} {R : Room} {s : State} {m : MethodId} {args : Array Value} {below : List Frame} {meth : Method} {c : Code} {Q : State → Prop} {A : Nat → Prop} {cells slots : Nat} {dC : Nat → ClassId} {dI : Nat → Nat → Nat} (h0 : Nat) (al : Nat) (on : Nat) (bg : Nat) (months : Int32) (full : Int32) (lean : Int32) (kal : ClassId) (fal : Nat → Int32) (kon : ClassId) (fon : Nat → Int32) (kbg : ClassId) (fbg : Nat → Int32) (gmonths : gi months 0 24) (gfull : gi full 0 5) (glean : gi lean 0 5) (hx : p.tables.exec = Jvm.exec) (hb : c.code = cX3_beginsInto) (hml : c.maxLocals = 6) (hown : s.vm.findClass RX3 = some m.cls) (hts : ∀ w ∈ ((.code yX3_beginsInto cX3_beginsInto 6 none :: wsGA) : List Cond), w.before args s = true) (hK : va_K (dC, dI) vwCl [(kal, .int), (kon, .int), (kbg, .int)] s) (hz : nzA s) (hA : ∀ q : Nat, s.heap.size ≤ q → A q) (hRf : 1 ≤ R.frames) (hRl : 22 ≤ R.locals) (hRc : cells ≤ R.cells) (hRs : slots ≤ R.slots) (kr96 : ∀ (z3 : Nat → Int32) (H : Heap) (locs : List Loc) (ls : Array Slot), va_P (dC, dI) vwCl [(h0, .inr (3, [.int months, .int full, .int lean, .ref al, .ref on])), (al, .inl (kal, 25, .inl fal)), (on, .inl (kon, 275, .inl fon)), (bg, .inl (kbg, 25, .inl z3))] H → va_D A [(h0, .inr (3, [.int months, .int full, .int lean, .ref al, .ref on])), (al, .inl (kal, 25, .inl fal)), (on, .inl (kon, 275, .inl fon)), (bg, .inl (kbg, 25, .inl z3))] → va_S A s.heap H locs → lv_has ls 6 [] → W p l e R s m args below meth c H locs cells slots Q (F0 m 96 ls [])) : ∀ z : Nat, (∀ (v2 : Int32) (v3 : Int32) (v4 : Int32) (z3 : Nat → Int32) (H : Heap) (locs : List Loc) (ls : Array Slot), gi v3 0 10 → gi v4 0 24 → 49 + (-2) * v4.toInt < (z : Int) → va_P (dC, dI) vwCl [(h0, .inr (3, [.int months, .int full, .int lean, .ref al, .ref on])), (al, .inl (kal, 25, .inl fal)), (on, .inl (kon, 275, .inl fon)), (bg, .inl (kbg, 25, .inl z3))] H → va_D A [(h0, .inr (3, [.int months, .int full, .int lean, .ref al, .ref on])), (al, .inl (kal, 25, .inl fal)), (on, .inl (kon, 275, .inl fon)), (bg, .inl (kbg, 25, .inl z3))] → va_S A s.heap H locs → lv_has ls 6 [(0, .ref h0), (1, .ref bg), (2, .int v2), (3, .int v3), (4, .int v4)] → W p l e R s m args below meth c H locs cells slots Q (F0 m 11 ls [])) := by
  intro z
  induction z with
  | zero =>
    intro v2 v3 v4 z3 H locs ls gv3 gv4 hmu hP hD hS hl
    exact absurd hmu (by have hv41 := gv4.1; have hv42 := gv4.2; omega)
  | succ z ih =>
      intro v2 v3 v4 z3 H locs ls gv3 gv4 hmu hP hD hS hl
      refine lv_iload hx hb dX3_beginsInto_11 (lv_at hl 4 rfl) ?_
      refine lv_aload_n hx hb dX3_beginsInto_13 rfl (lv_at hl 0 rfl) ?_
      refine va_get (D := (dC, dI)) (ci := 3) (v := .int months) (C := RX3) (T := TX3) (N := 5) hx hb hts (fun w h => List.mem_cons_of_mem _ (jnGA_X3 w h)) hown hK hP 0 rfl rfl 0 (by decide) (hts _ (List.mem_cons_of_mem _ mGA_477)) (fun _ h9 => h9) rfl dX3_beginsInto_14 ?_
      refine lv_icmp_ge (tgt := 96) hx hb dX3_beginsInto_17 (by decide) (fun c_1054 => ?_) (fun c_1054 => ?_)
      · exact kr96 z3 _ _ _ hP hD hS (lv_sub hl [] rfl)
      · have g_1055 : gi v4 0 23 := gi_lt_l (Int32.not_le.mp c_1054) gv4 gmonths (by decide)
        have g_1056 : gi months 1 24 := gi_lt_r (Int32.not_le.mp c_1054) gv4 gmonths (by decide)
        refine lv_iload_n hx hb dX3_beginsInto_20 rfl (lv_at hl 3 rfl) ?_
        refine lv_aload_n hx hb dX3_beginsInto_21 rfl (lv_at hl 0 rfl) ?_
        refine va_get (D := (dC, dI)) (ci := 3) (v := .int full) (C := RX3) (T := TX3) (N := 5) hx hb hts (fun w h => List.mem_cons_of_mem _ (jnGA_X3 w h)) hown hK hP 0 rfl rfl 1 (by decide) (hts _ (List.mem_cons_of_mem _ mGA_479)) (fun _ h9 => h9) rfl dX3_beginsInto_22 ?_
        have hPc := hP.sub (ws' := []) [] rfl
        have hKc := hK.sub (tys' := []) [] rfl
        refine va_calli (va_runSN (As := [.int v3, .int full]) (rest := []) ⟨hx, hb, hml, hown, hts⟩ (sX11_runWithFull l dC dI v3 full gv3 gfull) (⟨va_cnB 2 hts (gz_gP mGA_508 goodGA) rfl rfl rfl (nzA_X3_56 hz) (hts _ (List.mem_cons_of_mem _ mGA_1)) (by decide +kernel) ⟨Nat.le_trans (Nat.le_of_ble_eq_true rfl) hRf, Nat.le_trans (Nat.le_of_ble_eq_true rfl) hRl⟩, (hts _ (List.mem_cons_of_mem _ mGA_507)), trivial⟩) ⟨bl_I (bl_a bl_P (bl_a bl_K bl_nz)), fun U hU hW => ⟨rfl, by rw [hU]; exact hPc, va_K.moved hW.alike hKc, nzA_warm hW hz⟩⟩ rfl rfl hl.1 rfl (lv_room (Nat.le_of_ble_eq_true rfl)) dX3_beginsInto_25 ⟨hRc, hRs⟩) hS (fun q _ h => h.elim) (fun q h => h.elim) (fun r_1057 u t H1 locs ht hvm hw hB hz1 hk1 hS => ?_)
        have hP := gz_keep hP hk1
        generalize H1 = H at hP hS ⊢
        have gr_1057 : gi r_1057 0 5 := hw
        refine lv_istore (lv' := [(5, .int r_1057), (0, .ref h0), (1, .ref bg), (2, .int v2), (3, .int v3), (4, .int v4)]) hx hb dX3_beginsInto_28 hl (by decide) rfl (fun ls hl => ?_)
        refine lv_aload_n hx hb dX3_beginsInto_30 rfl (lv_at hl 1 rfl) ?_
        refine va_get (D := (dC, dI)) (ci := 3) (v := .ref on) (C := RX3) (T := TX3) (N := 5) hx hb hts (fun w h => List.mem_cons_of_mem _ (jnGA_X3 w h)) hown hK hP 0 rfl rfl 4 (by decide) (hts _ (List.mem_cons_of_mem _ mGA_95)) (fun _ h9 => h9) rfl dX3_beginsInto_31 ?_
        refine lv_iload hx hb dX3_beginsInto_34 (lv_at hl 5 rfl) ?_
        refine lv_iconst (v := 1) hx hb dX3_beginsInto_36 (by decide) ?_
        refine lv_iadd hx hb dX3_beginsInto_37 ?_
        refine lv_topi (fun x_1058 ex_1058 => ?_)
        have gx_1058 : gi x_1058 1 24 := gi_add ex_1058 g_1055 (gi_c 1 1 (by decide)) (by decide)
        refine lv_bipush (v := 11) hx hb dX3_beginsInto_38 (by decide) ?_
        refine lv_imul hx hb dX3_beginsInto_40 ?_
        refine lv_topi (fun x_1059 ex_1059 => ?_)
        have gx_1059 : gi x_1059 11 264 := gi_mul ex_1059 gx_1058 (gi_c 11 11 (by decide)) (by decide)
        refine lv_iload hx hb dX3_beginsInto_41 (lv_at hl 0 rfl) ?_
        refine lv_iadd hx hb dX3_beginsInto_43 ?_
        refine lv_topi (fun x_1060 ex_1060 => ?_)
        have gx_1060 : gi x_1060 11 269 := gi_add ex_1060 gx_1059 gr_1057 (by decide)
        refine va_iald hx hb hK hP 2 1 rfl rfl (gi_in gx_1060 (by decide)) dX3_beginsInto_44 ?_
        refine lv_topi (fun x_1061 ex_1061 => ?_)
        refine lv_iload_n hx hb dX3_beginsInto_45 rfl (lv_at hl 3 rfl) ?_
        refine lv_iconst (v := 1) hx hb dX3_beginsInto_46 (by decide) ?_
        refine lv_iadd hx hb dX3_beginsInto_47 ?_
        refine lv_topi (fun x_1062 ex_1062 => ?_)
        refine lv_ishr hx hb dX3_beginsInto_48 ?_
        refine lv_topi (fun x_1063 ex_1063 => ?_)
        refine lv_iconst (v := 1) hx hb dX3_beginsInto_49 (by decide) ?_
        refine lv_iand hx hb dX3_beginsInto_50 ?_
        refine lv_topi (fun x_1064 ex_1064 => ?_)
        have gx_1064 : gi x_1064 0 1 := gi_and1 ex_1064
        refine lv_if_eq (tgt := 63) hx hb dX3_beginsInto_51 (by decide) (fun c_1065 => ?_) (fun c_1065 => ?_)
        · have g_1066 : gi x_1064 0 0 := gi_eq c_1065 (gi_c 0 0 (by decide))
          refine lv_iload_n hx hb dX3_beginsInto_63 rfl (lv_at hl 4 rfl) ?_
          refine lv_aload_n hx hb dX3_beginsInto_64 rfl (lv_at hl 1 rfl) ?_
          refine va_get (D := (dC, dI)) (ci := 3) (v := .int full) (C := RX3) (T := TX3) (N := 5) hx hb hts (fun w h => List.mem_cons_of_mem _ (jnGA_X3 w h)) hown hK hP 0 rfl rfl 1 (by decide) (hts _ (List.mem_cons_of_mem _ mGA_479)) (fun _ h9 => h9) rfl dX3_beginsInto_65 ?_
          refine lv_aload_n hx hb dX3_beginsInto_68 rfl (lv_at hl 1 rfl) ?_
          refine va_get (D := (dC, dI)) (ci := 3) (v := .int lean) (C := RX3) (T := TX3) (N := 5) hx hb hts (fun w h => List.mem_cons_of_mem _ (jnGA_X3 w h)) hown hK hP 0 rfl rfl 2 (by decide) (hts _ (List.mem_cons_of_mem _ mGA_481)) (fun _ h9 => h9) rfl dX3_beginsInto_69 ?_
          have hPc := hP.sub (ws' := []) [] rfl
          have hKc := hK.sub (tys' := []) [] rfl
          refine va_calli (va_runSN (As := [.int v3, .int full, .int lean]) (rest := []) ⟨hx, hb, hml, hown, hts⟩ (sX11_runWithLean l dC dI v3 full lean gv3 gfull glean) (⟨va_cnB 3 hts (gz_gP mGA_510 goodGA) rfl rfl rfl (nzA_X3_60 hz) (hts _ (List.mem_cons_of_mem _ mGA_1)) (by decide +kernel) ⟨Nat.le_trans (Nat.le_of_ble_eq_true rfl) hRf, Nat.le_trans (Nat.le_of_ble_eq_true rfl) hRl⟩, (hts _ (List.mem_cons_of_mem _ mGA_509)), trivial⟩) ⟨bl_I (bl_a bl_P (bl_a bl_K bl_nz)), fun U hU hW => ⟨rfl, by rw [hU]; exact hPc, va_K.moved hW.alike hKc, nzA_warm hW hz⟩⟩ rfl rfl hl.1 rfl (lv_room (Nat.le_of_ble_eq_true rfl)) dX3_beginsInto_72 ⟨hRc, hRs⟩) hS (fun q _ h => h.elim) (fun q h => h.elim) (fun r_1067 u t H1 locs ht hvm hw hB hz1 hk1 hS => ?_)
          have hP := gz_keep hP hk1
          generalize H1 = H at hP hS ⊢
          have gr_1067 : gi r_1067 0 10 := hw
          refine lv_istore_n (lv' := [(3, .int r_1067), (5, .int r_1057), (0, .ref h0), (1, .ref bg), (2, .int v2), (4, .int v4)]) hx hb dX3_beginsInto_75 rfl hl (by decide) rfl (fun ls hl => ?_)
          refine lv_aload_n hx hb dX3_beginsInto_76 rfl (lv_at hl 3 rfl) ?_
          refine lv_iload hx hb dX3_beginsInto_77 (lv_at hl 5 rfl) ?_
          refine lv_iconst (v := 1) hx hb dX3_beginsInto_79 (by decide) ?_
          refine lv_iadd hx hb dX3_beginsInto_80 ?_
          refine lv_topi (fun x_1068 ex_1068 => ?_)
          have gx_1068 : gi x_1068 1 24 := gi_add ex_1068 g_1055 (gi_c 1 1 (by decide)) (by decide)
          refine lv_iload hx hb dX3_beginsInto_81 (lv_at hl 5 rfl) ?_
          refine lv_iconst (v := 1) hx hb dX3_beginsInto_83 (by decide) ?_
          refine lv_iadd hx hb dX3_beginsInto_84 ?_
          refine lv_topi (fun x_1069 ex_1069 => ?_)
          have gx_1069 : gi x_1069 1 24 := gi_add ex_1069 g_1055 (gi_c 1 1 (by decide)) (by decide)
          refine lv_iload_n hx hb dX3_beginsInto_85 rfl (lv_at hl 4 rfl) ?_
          have hPc := hP.sub (ws' := []) [] rfl
          have hKc := hK.sub (tys' := []) [] rfl
          refine va_calli (va_runSN (As := [.int x_1069, .int v2]) (rest := [.int x_1068, .ref bg]) ⟨hx, hb, hml, hown, hts⟩ (sX11_dayOf l dC dI x_1069 v2) (⟨va_cnB 2 hts (gz_gP mGA_516 goodGA) rfl rfl rfl (nzA_X3_63 hz) (hts _ (List.mem_cons_of_mem _ mGA_1)) (by decide +kernel) ⟨Nat.le_trans (Nat.le_of_ble_eq_true rfl) hRf, Nat.le_trans (Nat.le_of_ble_eq_true rfl) hRl⟩, (hts _ (List.mem_cons_of_mem _ mGA_515)), trivial⟩) ⟨bl_I (bl_a bl_P (bl_a bl_K bl_nz)), fun U hU hW => ⟨rfl, by rw [hU]; exact hPc, va_K.moved hW.alike hKc, nzA_warm hW hz⟩⟩ rfl rfl hl.1 rfl (lv_room (Nat.le_of_ble_eq_true rfl)) dX3_beginsInto_86 ⟨hRc, hRs⟩) hS (fun q _ h => h.elim) (fun q h => h.elim) (fun r_1070 u t H1 locs ht hvm hw hB hz1 hk1 hS => ?_)
          have hP := gz_keep hP hk1
          generalize H1 = H at hP hS ⊢
          refine va_iast hx hb hK hP hD hS 3 2 rfl rfl (gi_in gx_1068 (by decide)) dX3_beginsInto_89 (fun H locs hP hD hS => ?_)
          have hP : va_P (dC, dI) vwCl [(h0, .inr (3, [.int months, .int full, .int lean, .ref al, .ref on])), (al, .inl (kal, 25, .inl fal)), (on, .inl (kon, 275, .inl fon)), (bg, .inl (kbg, 25, .inl (upd z3 (x_1068 : Int32).toNatClampNeg r_1070)))] H := hP
          have hD : va_D A [(h0, .inr (3, [.int months, .int full, .int lean, .ref al, .ref on])), (al, .inl (kal, 25, .inl fal)), (on, .inl (kon, 275, .inl fon)), (bg, .inl (kbg, 25, .inl (upd z3 (x_1068 : Int32).toNatClampNeg r_1070)))] := hD
          generalize upd z3 (x_1068 : Int32).toNatClampNeg r_1070 = f_1071 at hP hD
          obtain ⟨x_1072, ex_1072⟩ : ∃ y : Int32, y = v4 + 1 := ⟨_, rfl⟩
          have gx_1072 : gi x_1072 1 24 := gi_add ex_1072 g_1055 (gi_c 1 1 (by decide)) (by decide)
          refine lv_iinc (v := x_1072) (lv' := [(4, .int x_1072), (3, .int r_1067), (5, .int r_1057), (0, .ref h0), (1, .ref bg), (2, .int v2)]) hx hb dX3_beginsInto_90 hl (k := 5) rfl (by rw [ex_1072]; rfl) (by decide) rfl (fun ls hl => ?_)
          refine lv_goto (tgt := 11) hx hb dX3_beginsInto_93 (by decide) ?_
          exact ih v2 r_1067 x_1072 f_1071 _ _ _ gr_1067 (gi_w gx_1072 (by decide)) (by have av4 := gv4.1; have bv4 := gv4.2; have qgx_1072 := gx_1072.1; have rgx_1072 := gx_1072.2; have igx_1072 : x_1072.toInt = v4.toInt + 1 := (by have hc1 : (1 : Int32).toInt = 1 := (by decide); have h9 := gi_addI ex_1072 (by have h1 := g_1055.1; have h2 := (gi_c 1 1 (by decide)).1; have h3 := g_1055.2; have h4 := (gi_c 1 1 (by decide)).2; omega) (by have h1 := g_1055.1; have h2 := (gi_c 1 1 (by decide)).1; have h3 := g_1055.2; have h4 := (gi_c 1 1 (by decide)).2; omega); rw [hc1] at h9; exact h9); have qgv4 := g_1055.1; have rgv4 := g_1055.2; omega) hP hD hS (lv_sub hl [3, 4, 5, 1, 0] rfl)
        · have g_1073 : gi x_1064 1 1 := gi_ne_lo c_1065 gx_1064 (gi_c 0 0 (by decide)) (by decide)
          refine lv_iload hx hb dX3_beginsInto_54 (lv_at hl 0 rfl) ?_
          refine lv_istore_n (lv' := [(3, .int r_1057), (5, .int r_1057), (0, .ref h0), (1, .ref bg), (2, .int v2), (4, .int v4)]) hx hb dX3_beginsInto_56 rfl hl (by decide) rfl (fun ls hl => ?_)
          obtain ⟨x_1074, ex_1074⟩ : ∃ y : Int32, y = v2 + 1 := ⟨_, rfl⟩
          refine lv_iinc (v := x_1074) (lv' := [(2, .int x_1074), (3, .int r_1057), (5, .int r_1057), (0, .ref h0), (1, .ref bg), (4, .int v4)]) hx hb dX3_beginsInto_57 hl (k := 4) rfl (by rw [ex_1074]; rfl) (by decide) rfl (fun ls hl => ?_)
          refine lv_goto (tgt := 76) hx hb dX3_beginsInto_60 (by decide) ?_
          refine lv_aload_n hx hb dX3_beginsInto_76 rfl (lv_at hl 4 rfl) ?_
          refine lv_iload hx hb dX3_beginsInto_77 (lv_at hl 5 rfl) ?_
          refine lv_iconst (v := 1) hx hb dX3_beginsInto_79 (by decide) ?_
          refine lv_iadd hx hb dX3_beginsInto_80 ?_
          refine lv_topi (fun x_1075 ex_1075 => ?_)
          have gx_1075 : gi x_1075 1 24 := gi_add ex_1075 g_1055 (gi_c 1 1 (by decide)) (by decide)
          refine lv_iload hx hb dX3_beginsInto_81 (lv_at hl 5 rfl) ?_
          refine lv_iconst (v := 1) hx hb dX3_beginsInto_83 (by decide) ?_
          refine lv_iadd hx hb dX3_beginsInto_84 ?_
          refine lv_topi (fun x_1076 ex_1076 => ?_)
          have gx_1076 : gi x_1076 1 24 := gi_add ex_1076 g_1055 (gi_c 1 1 (by decide)) (by decide)
          refine lv_iload_n hx hb dX3_beginsInto_85 rfl (lv_at hl 0 rfl) ?_
          have hPc := hP.sub (ws' := []) [] rfl
          have hKc := hK.sub (tys' := []) [] rfl
          refine va_calli (va_runSN (As := [.int x_1076, .int x_1074]) (rest := [.int x_1075, .ref bg]) ⟨hx, hb, hml, hown, hts⟩ (sX11_dayOf l dC dI x_1076 x_1074) (⟨va_cnB 2 hts (gz_gP mGA_516 goodGA) rfl rfl rfl (nzA_X3_63 hz) (hts _ (List.mem_cons_of_mem _ mGA_1)) (by decide +kernel) ⟨Nat.le_trans (Nat.le_of_ble_eq_true rfl) hRf, Nat.le_trans (Nat.le_of_ble_eq_true rfl) hRl⟩, (hts _ (List.mem_cons_of_mem _ mGA_515)), trivial⟩) ⟨bl_I (bl_a bl_P (bl_a bl_K bl_nz)), fun U hU hW => ⟨rfl, by rw [hU]; exact hPc, va_K.moved hW.alike hKc, nzA_warm hW hz⟩⟩ rfl rfl hl.1 rfl (lv_room (Nat.le_of_ble_eq_true rfl)) dX3_beginsInto_86 ⟨hRc, hRs⟩) hS (fun q _ h => h.elim) (fun q h => h.elim) (fun r_1077 u t H1 locs ht hvm hw hB hz1 hk1 hS => ?_)
          have hP := gz_keep hP hk1
          generalize H1 = H at hP hS ⊢
          refine va_iast hx hb hK hP hD hS 3 2 rfl rfl (gi_in gx_1075 (by decide)) dX3_beginsInto_89 (fun H locs hP hD hS => ?_)
          have hP : va_P (dC, dI) vwCl [(h0, .inr (3, [.int months, .int full, .int lean, .ref al, .ref on])), (al, .inl (kal, 25, .inl fal)), (on, .inl (kon, 275, .inl fon)), (bg, .inl (kbg, 25, .inl (upd z3 (x_1075 : Int32).toNatClampNeg r_1077)))] H := hP
          have hD : va_D A [(h0, .inr (3, [.int months, .int full, .int lean, .ref al, .ref on])), (al, .inl (kal, 25, .inl fal)), (on, .inl (kon, 275, .inl fon)), (bg, .inl (kbg, 25, .inl (upd z3 (x_1075 : Int32).toNatClampNeg r_1077)))] := hD
          generalize upd z3 (x_1075 : Int32).toNatClampNeg r_1077 = f_1078 at hP hD
          obtain ⟨x_1079, ex_1079⟩ : ∃ y : Int32, y = v4 + 1 := ⟨_, rfl⟩
          have gx_1079 : gi x_1079 1 24 := gi_add ex_1079 g_1055 (gi_c 1 1 (by decide)) (by decide)
          refine lv_iinc (v := x_1079) (lv' := [(4, .int x_1079), (2, .int x_1074), (3, .int r_1057), (5, .int r_1057), (0, .ref h0), (1, .ref bg)]) hx hb dX3_beginsInto_90 hl (k := 5) rfl (by rw [ex_1079]; rfl) (by decide) rfl (fun ls hl => ?_)
          refine lv_goto (tgt := 11) hx hb dX3_beginsInto_93 (by decide) ?_
          exact ih x_1074 r_1057 x_1079 f_1078 _ _ _ (gi_w gr_1057 (by decide)) (gi_w gx_1079 (by decide)) (by have av4 := gv4.1; have bv4 := gv4.2; have qgx_1079 := gx_1079.1; have rgx_1079 := gx_1079.2; have igx_1079 : x_1079.toInt = v4.toInt + 1 := (by have hc1 : (1 : Int32).toInt = 1 := (by decide); have h9 := gi_addI ex_1079 (by have h1 := g_1055.1; have h2 := (gi_c 1 1 (by decide)).1; have h3 := g_1055.2; have h4 := (gi_c 1 1 (by decide)).2; omega) (by have h1 := g_1055.1; have h2 := (gi_c 1 1 (by decide)).1; have h3 := g_1055.2; have h4 := (gi_c 1 1 (by decide)).2; omega); rw [hc1] at h9; exact h9); have qgv4 := g_1055.1; have rgv4 := g_1055.2; omega) hP hD hS (lv_sub hl [4, 5, 1, 2, 0] rfl)
abbrev pb_sX3_beginsInto (dC : Nat → ClassId) (dI : Nat → Nat → Nat) (A9 : Nat → Prop) (h0 : Nat) (al : Nat) (on : Nat) (bg : Nat) (months : Int32) (full : Int32) (lean : Int32) (kal : ClassId) (fal : Nat → Int32) (kon : ClassId) (fon : Nat → Int32) (kbg : ClassId) (fbg : Nat → Int32) (z3 : Nat → Int32) (t : State) : Prop := va_P (dC, dI) vwCl [(h0, .inr (3, [.int months, .int full, .int lean, .ref al, .ref on])), (al, .inl (kal, 25, .inl fal)), (on, .inl (kon, 275, .inl fon)), (bg, .inl (kbg, 25, .inl z3))] t.heap ∧ va_D A9 [(h0, .inr (3, [.int months, .int full, .int lean, .ref al, .ref on])), (al, .inl (kal, 25, .inl fal)), (on, .inl (kon, 275, .inl fon)), (bg, .inl (kbg, 25, .inl z3))]
set_option maxHeartbeats 4000000 in
set_option maxRecDepth 100000 in
theorem sX3_beginsInto (l : Launch) (dC : Nat → ClassId) (dI : Nat → Nat → Nat) (sz : Nat) (h0 : Nat) (al : Nat) (on : Nat) (bg : Nat) (months : Int32) (full : Int32) (lean : Int32) (kal : ClassId) (fal : Nat → Int32) (kon : ClassId) (fon : Nat → Int32) (kbg : ClassId) (fbg : Nat → Int32) (gmonths : gi months 0 24) (gfull : gi full 0 5) (glean : gi lean 0 5) : Met l yX3_beginsInto (.code yX3_beginsInto cX3_beginsInto 6 none :: wsGA) ({ frames := 1, cells := 0, slots := 0, locals := 22 }) (va_Pc [.ref h0, .ref bg] (fun U => U.heap.size = sz ∧ va_P (dC, dI) vwCl [(h0, .inr (3, [.int months, .int full, .int lean, .ref al, .ref on])), (al, .inl (kal, 25, .inl fal)), (on, .inl (kon, 275, .inl fon)), (bg, .inl (kbg, 25, .inl fbg))] U.heap ∧ va_K (dC, dI) vwCl [(kal, .int), (kon, .int), (kbg, .int)] U ∧ va_D (fun _ => True) [(h0, .inr (3, [.int months, .int full, .int lean, .ref al, .ref on])), (al, .inl (kal, 25, .inl fal)), (on, .inl (kon, 275, .inl fon)), (bg, .inl (kbg, 25, .inl fbg))] ∧ nzA U)) (va_Qv (fun (u : Unit) => True) (fun _ t => ∃ (z3 : Nat → Int32), pb_sX3_beginsInto dC dI (va_A [(h0, .inr (3, [.int months, .int full, .int lean, .ref al, .ref on])), (al, .inl (kal, 25, .inl fal)), (on, .inl (kon, 275, .inl fon)), (bg, .inl (kbg, 25, .inl fbg))] sz) h0 al on bg months full lean kal fal kon fon kbg fbg z3 t) (va_A [(h0, .inr (3, [.int months, .int full, .int lean, .ref al, .ref on])), (al, .inl (kal, 25, .inl fal)), (on, .inl (kon, 275, .inl fon)), (bg, .inl (kbg, 25, .inl fbg))] sz)) 0 0 (va_A [(h0, .inr (3, [.int months, .int full, .int lean, .ref al, .ref on])), (al, .inl (kal, 25, .inl fal)), (on, .inl (kon, 275, .inl fon)), (bg, .inl (kbg, 25, .inl fbg))] sz) := by
  refine Met.ofW (cc := cX3_beginsInto) (maxL := 6) (ret := none) (by decide) rfl ?_
  intro p e s m args below meth c s₁ B hml hv
  obtain ⟨rfl, hsz, hP, hK, hD0, hz⟩ := hv
  have hx := B.exec
  have hb := B.bytes
  have hr := B.returns
  have hts := atoms_spec (ws := (.code yX3_beginsInto cX3_beginsInto 6 none :: wsGA)) B.pre
  have hown : s.vm.findClass RX3 = some m.cls := findClass_of_methodNamed B.named
  have hlocks := B.notSynchronized
  subst hsz
  have hD := hD0.self (sz := s.heap.size)
  generalize hAe : va_A [(h0, .inr (3, [.int months, .int full, .int lean, .ref al, .ref on])), (al, .inl (kal, 25, .inl fal)), (on, .inl (kon, 275, .inl fon)), (bg, .inl (kbg, 25, .inl fbg))] s.heap.size = A at hD ⊢
  have hA : ∀ q : Nat, s.heap.size ≤ q → A q := fun q h => by rw [← hAe]; exact Or.inr h
  have hS : va_S A s.heap s.heap [] := va_S.rf
  have hl := lv_entry ([.ref h0, .ref bg]) (n := 6) (Nat.le_of_ble_eq_true rfl)
  rw [lg_entry_eq]
  generalize (lg_sl ([.ref h0, .ref bg]) ++ List.replicate (6 - (lg_sl ([.ref h0, .ref bg])).length) Slot.unset).toArray = ls at hl ⊢
  have hl : lv_has ls 6 [(0, .ref h0), (1, .ref bg)] := hl
  refine lv_iconst (v := 0) hx hb dX3_beginsInto_0 (by decide) ?_
  refine lv_istore_n (lv' := [(2, .int 0), (0, .ref h0), (1, .ref bg)]) hx hb dX3_beginsInto_1 rfl hl (by decide) rfl (fun ls hl => ?_)
  refine lv_iconst (v := 0) hx hb dX3_beginsInto_2 (by decide) ?_
  refine lv_istore_n (lv' := [(3, .int 0), (2, .int 0), (0, .ref h0), (1, .ref bg)]) hx hb dX3_beginsInto_3 rfl hl (by decide) rfl (fun ls hl => ?_)
  refine lv_aload_n hx hb dX3_beginsInto_4 rfl (lv_at hl 3 rfl) ?_
  refine lv_iconst (v := 0) hx hb dX3_beginsInto_5 (by decide) ?_
  refine lv_iconst (v := 0) hx hb dX3_beginsInto_6 (by decide) ?_
  refine va_iast hx hb hK hP hD hS 3 2 rfl rfl (gi_in (gi_c 0 0 (by decide)) (by decide)) dX3_beginsInto_7 (fun H locs hP hD hS => ?_)
  have hP : va_P (dC, dI) vwCl [(h0, .inr (3, [.int months, .int full, .int lean, .ref al, .ref on])), (al, .inl (kal, 25, .inl fal)), (on, .inl (kon, 275, .inl fon)), (bg, .inl (kbg, 25, .inl (upd fbg (0 : Int32).toNatClampNeg 0)))] H := hP
  have hD : va_D A [(h0, .inr (3, [.int months, .int full, .int lean, .ref al, .ref on])), (al, .inl (kal, 25, .inl fal)), (on, .inl (kon, 275, .inl fon)), (bg, .inl (kbg, 25, .inl (upd fbg (0 : Int32).toNatClampNeg 0)))] := hD
  generalize upd fbg (0 : Int32).toNatClampNeg 0 = f_1080 at hP hD
  refine lv_iconst (v := 0) hx hb dX3_beginsInto_8 (by decide) ?_
  refine lv_istore (lv' := [(4, .int 0), (3, .int 0), (2, .int 0), (0, .ref h0), (1, .ref bg)]) hx hb dX3_beginsInto_9 hl (by decide) rfl (fun ls hl => ?_)
  refine (lp_sX3_beginsInto h0 al on bg months full lean kal fal kon fon kbg fbg gmonths gfull glean hx hb hml hown hts hK hz hA (Nat.le_of_ble_eq_true rfl) (Nat.le_of_ble_eq_true rfl) (Nat.zero_le _) (Nat.zero_le _) (fun z3 H locs ls hP hD hS hl => ?_) 62) 0 0 0 f_1080 _ _ _ (gi_w (gi_c 0 0 (by decide)) (by decide)) (gi_w (gi_c 0 0 (by decide)) (by decide)) (by have k0 : (0 : Int32).toInt = 0 := (by decide); omega) hP hD hS (lv_sub hl [3, 4, 2, 1, 0] rfl)
  · skip
    exact W.vret hx hb hr (fun t ht hW => ⟨⟨(), rfl, trivial, z3, by rw [ht]; exact hP, hD⟩, hS.F ht⟩) hS.2.2 dX3_beginsInto_96
theorem dX3_open_0 : decode cX3_open 0 = .ok (.aload_n 0, 1) := by decide +kernel
theorem dX3_open_1 : decode cX3_open 1 = .ok (.aload_n 1, 1) := by decide +kernel
theorem dX3_open_2 : decode cX3_open 2 = .ok (.getfield 18, 3) := by decide +kernel
theorem dX3_open_5 : decode cX3_open 5 = .ok (.putfield 24, 3) := by decide +kernel
theorem dX3_open_8 : decode cX3_open 8 = .ok (.aload_n 0, 1) := by decide +kernel
theorem dX3_open_9 : decode cX3_open 9 = .ok (.aload_n 1, 1) := by decide +kernel
theorem dX3_open_10 : decode cX3_open 10 = .ok (.getfield 25, 3) := by decide +kernel
theorem dX3_open_13 : decode cX3_open 13 = .ok (.putfield 28, 3) := by decide +kernel
theorem dX3_open_16 : decode cX3_open 16 = .ok (.aload_n 0, 1) := by decide +kernel
theorem dX3_open_17 : decode cX3_open 17 = .ok (.aload_n 1, 1) := by decide +kernel
theorem dX3_open_18 : decode cX3_open 18 = .ok (.getfield 29, 3) := by decide +kernel
theorem dX3_open_21 : decode cX3_open 21 = .ok (.putfield 32, 3) := by decide +kernel
theorem dX3_open_24 : decode cX3_open 24 = .ok (.iconst 0, 1) := by decide +kernel
theorem dX3_open_25 : decode cX3_open 25 = .ok (.istore_n 2, 1) := by decide +kernel
theorem dX3_open_26 : decode cX3_open 26 = .ok (.iload_n 2, 1) := by decide +kernel
theorem dX3_open_27 : decode cX3_open 27 = .ok (.aload_n 0, 1) := by decide +kernel
theorem dX3_open_28 : decode cX3_open 28 = .ok (.getfield 24, 3) := by decide +kernel
theorem dX3_open_31 : decode cX3_open 31 = .ok (.if_icmp .gt 20, 3) := by decide +kernel
theorem dX3_open_34 : decode cX3_open 34 = .ok (.aload_n 0, 1) := by decide +kernel
theorem dX3_open_35 : decode cX3_open 35 = .ok (.getfield 9, 3) := by decide +kernel
theorem dX3_open_38 : decode cX3_open 38 = .ok (.iload_n 2, 1) := by decide +kernel
theorem dX3_open_39 : decode cX3_open 39 = .ok (.iconst 2, 1) := by decide +kernel
theorem dX3_open_40 : decode cX3_open 40 = .ok (.iload_n 2, 1) := by decide +kernel
theorem dX3_open_41 : decode cX3_open 41 = .ok (.ishl, 1) := by decide +kernel
theorem dX3_open_42 : decode cX3_open 42 = .ok (.iconst 1, 1) := by decide +kernel
theorem dX3_open_43 : decode cX3_open 43 = .ok (.isub, 1) := by decide +kernel
theorem dX3_open_44 : decode cX3_open 44 = .ok (.iastore, 1) := by decide +kernel
theorem dX3_open_45 : decode cX3_open 45 = .ok (.iinc 2 1, 3) := by decide +kernel
theorem dX3_open_48 : decode cX3_open 48 = .ok (.goto (-22), 3) := by decide +kernel
theorem dX3_open_51 : decode cX3_open 51 = .ok (.return_, 1) := by decide +kernel
set_option maxHeartbeats 4000000 in
set_option maxRecDepth 100000 in
theorem lp_sX3_open {p : Program} {l : Launch} {e : Env} {R : Room} {s : State} {m : MethodId} {args : Array Value} {below : List Frame} {meth : Method} {c : Code} {Q : State → Prop} {A : Nat → Prop} {cells slots : Nat} {dC : Nat → ClassId} {dI : Nat → Nat → Nat} (h0 : Nat) (al : Nat) (am : Nat) (months : Int32) (full : Int32) (lean : Int32) (on : Nat) (kal : ClassId) (fal : Nat → Int32) (amonths : Int32) (afull : Int32) (alean : Int32) (alines : Int32) (ahasMoon : Int32) (amoonStart : Int32) (amoonStep : Int32) (aplaceCount : Int32) (areportCount : Int32) (adeedCount : Int32) (aplaces : Nat) (areports : Nat) (adeeds : Nat) (gmonths : gi months 0 24) (gfull : gi full 0 5) (glean : gi lean 0 5) (gamonths : gi amonths 0 24) (gafull : gi afull 0 5) (galean : gi alean 0 5) (gahasMoon : gi ahasMoon 0 1) (gaplaceCount : gi aplaceCount 0 6) (gareportCount : gi areportCount 0 24) (gadeedCount : gi adeedCount 0 8) (hx : p.tables.exec = Jvm.exec) (hb : c.code = cX3_open) (hml : c.maxLocals = 3) (hown : s.vm.findClass RX3 = some m.cls) (hts : ∀ w ∈ ((.code yX3_open cX3_open 3 none :: wsGA) : List Cond), w.before args s = true) (hK : va_K (dC, dI) vwCl [(kal, .int)] s) (hz : nzA s) (hR : va_P (dC, dI) vwCl [(am, .inr (0, [.int amonths, .int afull, .int alean, .int alines, .int ahasMoon, .int amoonStart, .int amoonStep, .int aplaceCount, .int areportCount, .int adeedCount, .ref aplaces, .ref areports, .ref adeeds]))] s.heap) (hRA : gz_ap A [(am, .inr (0, [.int amonths, .int afull, .int alean, .int alines, .int ahasMoon, .int amoonStart, .int amoonStep, .int aplaceCount, .int areportCount, .int adeedCount, .ref aplaces, .ref areports, .ref adeeds]))]) (hA : ∀ q : Nat, s.heap.size ≤ q → A q) (hRf : 0 ≤ R.frames) (hRl : 0 ≤ R.locals) (hRc : cells ≤ R.cells) (hRs : slots ≤ R.slots) (kr51 : ∀ (w0_0 : Int32) (w0_1 : Int32) (w0_2 : Int32) (z1 : Nat → Int32) (H : Heap) (locs : List Loc) (ls : Array Slot), gi w0_0 0 24 → gi w0_1 0 5 → gi w0_2 0 5 → va_P (dC, dI) vwCl [(h0, .inr (3, [.int w0_0, .int w0_1, .int w0_2, .ref al, .ref on])), (al, .inl (kal, 25, .inl z1))] H → va_D A [(h0, .inr (3, [.int w0_0, .int w0_1, .int w0_2, .ref al, .ref on])), (al, .inl (kal, 25, .inl z1))] → va_S A s.heap H locs → lv_has ls 3 [] → W p l e R s m args below meth c H locs cells slots Q (F0 m 51 ls [])) : ∀ z : Nat, (∀ (v2 : Int32) (w0_0 : Int32) (w0_1 : Int32) (w0_2 : Int32) (z1 : Nat → Int32) (H : Heap) (locs : List Loc) (ls : Array Slot), gi v2 0 25 → gi w0_0 0 24 → gi w0_1 0 5 → gi w0_2 0 5 → 51 + (-2) * v2.toInt < (z : Int) → va_P (dC, dI) vwCl [(h0, .inr (3, [.int w0_0, .int w0_1, .int w0_2, .ref al, .ref on])), (al, .inl (kal, 25, .inl z1))] H → va_D A [(h0, .inr (3, [.int w0_0, .int w0_1, .int w0_2, .ref al, .ref on])), (al, .inl (kal, 25, .inl z1))] → va_S A s.heap H locs → lv_has ls 3 [(0, .ref h0), (1, .ref am), (2, .int v2)] → W p l e R s m args below meth c H locs cells slots Q (F0 m 26 ls [])) := by
  intro z
  induction z with
  | zero =>
    intro v2 w0_0 w0_1 w0_2 z1 H locs ls gv2 gw0_0 gw0_1 gw0_2 hmu hP hD hS hl
    exact absurd hmu (by have hv21 := gv2.1; have hv22 := gv2.2; omega)
  | succ z ih =>
      intro v2 w0_0 w0_1 w0_2 z1 H locs ls gv2 gw0_0 gw0_1 gw0_2 hmu hP hD hS hl
      refine lv_iload_n hx hb dX3_open_26 rfl (lv_at hl 2 rfl) ?_
      refine lv_aload_n hx hb dX3_open_27 rfl (lv_at hl 0 rfl) ?_
      refine va_get (D := (dC, dI)) (ci := 3) (v := .int w0_0) (C := RX3) (T := TX3) (N := 5) hx hb hts (fun w h => List.mem_cons_of_mem _ (jnGA_X3 w h)) hown hK hP 0 rfl rfl 0 (by decide) (hts _ (List.mem_cons_of_mem _ mGA_477)) (fun _ h9 => h9) rfl dX3_open_28 ?_
      refine lv_icmp_gt (tgt := 51) hx hb dX3_open_31 (by decide) (fun c_111 => ?_) (fun c_111 => ?_)
      · have g_112 : gi v2 1 25 := gi_lt_r c_111 gw0_0 gv2 (by decide)
        exact kr51 w0_0 w0_1 w0_2 z1 _ _ _ gw0_0 gw0_1 gw0_2 hP hD hS (lv_sub hl [] rfl)
      · have g_113 : gi v2 0 24 := gi_le_l (Int32.not_lt.mp c_111) gv2 gw0_0
        refine lv_aload_n hx hb dX3_open_34 rfl (lv_at hl 0 rfl) ?_
        refine va_get (D := (dC, dI)) (ci := 3) (v := .ref al) (C := RX3) (T := TX3) (N := 5) hx hb hts (fun w h => List.mem_cons_of_mem _ (jnGA_X3 w h)) hown hK hP 0 rfl rfl 3 (by decide) (hts _ (List.mem_cons_of_mem _ mGA_94)) (fun _ h9 => h9) rfl dX3_open_35 ?_
        refine lv_iload_n hx hb dX3_open_38 rfl (lv_at hl 2 rfl) ?_
        refine lv_iconst (v := 2) hx hb dX3_open_39 (by decide) ?_
        refine lv_iload_n hx hb dX3_open_40 rfl (lv_at hl 2 rfl) ?_
        refine lv_ishl hx hb dX3_open_41 ?_
        refine lv_topi (fun x_114 ex_114 => ?_)
        refine lv_iconst (v := 1) hx hb dX3_open_42 (by decide) ?_
        refine lv_isub hx hb dX3_open_43 ?_
        refine lv_topi (fun x_115 ex_115 => ?_)
        refine va_iast hx hb hK hP hD hS 1 0 rfl rfl (gi_in g_113 (by decide)) dX3_open_44 (fun H locs hP hD hS => ?_)
        have hP : va_P (dC, dI) vwCl [(h0, .inr (3, [.int w0_0, .int w0_1, .int w0_2, .ref al, .ref on])), (al, .inl (kal, 25, .inl (upd z1 (v2 : Int32).toNatClampNeg x_115)))] H := hP
        have hD : va_D A [(h0, .inr (3, [.int w0_0, .int w0_1, .int w0_2, .ref al, .ref on])), (al, .inl (kal, 25, .inl (upd z1 (v2 : Int32).toNatClampNeg x_115)))] := hD
        generalize upd z1 (v2 : Int32).toNatClampNeg x_115 = f_116 at hP hD
        obtain ⟨x_117, ex_117⟩ : ∃ y : Int32, y = v2 + 1 := ⟨_, rfl⟩
        have gx_117 : gi x_117 1 25 := gi_add ex_117 g_113 (gi_c 1 1 (by decide)) (by decide)
        refine lv_iinc (v := x_117) (lv' := [(2, .int x_117), (0, .ref h0), (1, .ref am)]) hx hb dX3_open_45 hl (k := 2) rfl (by rw [ex_117]; rfl) (by decide) rfl (fun ls hl => ?_)
        refine lv_goto (tgt := 26) hx hb dX3_open_48 (by decide) ?_
        exact ih x_117 w0_0 w0_1 w0_2 f_116 _ _ _ (gi_w gx_117 (by decide)) gw0_0 gw0_1 gw0_2 (by have av2 := gv2.1; have bv2 := gv2.2; have qgx_117 := gx_117.1; have rgx_117 := gx_117.2; have igx_117 : x_117.toInt = v2.toInt + 1 := (by have hc1 : (1 : Int32).toInt = 1 := (by decide); have h9 := gi_addI ex_117 (by have h1 := g_113.1; have h2 := (gi_c 1 1 (by decide)).1; have h3 := g_113.2; have h4 := (gi_c 1 1 (by decide)).2; omega) (by have h1 := g_113.1; have h2 := (gi_c 1 1 (by decide)).1; have h3 := g_113.2; have h4 := (gi_c 1 1 (by decide)).2; omega); rw [hc1] at h9; exact h9); have qgv2 := g_113.1; have rgv2 := g_113.2; omega) hP hD hS (lv_sub hl [1, 2, 0] rfl)
abbrev pb_sX3_open (dC : Nat → ClassId) (dI : Nat → Nat → Nat) (A9 : Nat → Prop) (h0 : Nat) (al : Nat) (am : Nat) (months : Int32) (full : Int32) (lean : Int32) (on : Nat) (kal : ClassId) (fal : Nat → Int32) (amonths : Int32) (afull : Int32) (alean : Int32) (alines : Int32) (ahasMoon : Int32) (amoonStart : Int32) (amoonStep : Int32) (aplaceCount : Int32) (areportCount : Int32) (adeedCount : Int32) (aplaces : Nat) (areports : Nat) (adeeds : Nat) (w0_0 : Int32) (w0_1 : Int32) (w0_2 : Int32) (z1 : Nat → Int32) (t : State) : Prop := gi w0_0 0 24 ∧ gi w0_1 0 5 ∧ gi w0_2 0 5 ∧ va_P (dC, dI) vwCl [(h0, .inr (3, [.int w0_0, .int w0_1, .int w0_2, .ref al, .ref on])), (al, .inl (kal, 25, .inl z1))] t.heap ∧ va_D A9 [(h0, .inr (3, [.int w0_0, .int w0_1, .int w0_2, .ref al, .ref on])), (al, .inl (kal, 25, .inl z1))]
set_option maxHeartbeats 4000000 in
set_option maxRecDepth 100000 in
theorem sX3_open (l : Launch) (dC : Nat → ClassId) (dI : Nat → Nat → Nat) (sz : Nat) (h0 : Nat) (al : Nat) (am : Nat) (months : Int32) (full : Int32) (lean : Int32) (on : Nat) (kal : ClassId) (fal : Nat → Int32) (amonths : Int32) (afull : Int32) (alean : Int32) (alines : Int32) (ahasMoon : Int32) (amoonStart : Int32) (amoonStep : Int32) (aplaceCount : Int32) (areportCount : Int32) (adeedCount : Int32) (aplaces : Nat) (areports : Nat) (adeeds : Nat) (gmonths : gi months 0 24) (gfull : gi full 0 5) (glean : gi lean 0 5) (gamonths : gi amonths 0 24) (gafull : gi afull 0 5) (galean : gi alean 0 5) (gahasMoon : gi ahasMoon 0 1) (gaplaceCount : gi aplaceCount 0 6) (gareportCount : gi areportCount 0 24) (gadeedCount : gi adeedCount 0 8) : Met l yX3_open (.code yX3_open cX3_open 3 none :: wsGA) ({ frames := 0, cells := 0, slots := 0, locals := 0 }) (va_Pc [.ref h0, .ref am] (fun U => U.heap.size = sz ∧ va_P (dC, dI) vwCl [(h0, .inr (3, [.int months, .int full, .int lean, .ref al, .ref on])), (al, .inl (kal, 25, .inl fal))] U.heap ∧ va_K (dC, dI) vwCl [(kal, .int)] U ∧ va_D (fun _ => True) [(h0, .inr (3, [.int months, .int full, .int lean, .ref al, .ref on])), (al, .inl (kal, 25, .inl fal))] ∧ nzA U ∧ va_P (dC, dI) vwCl [(am, .inr (0, [.int amonths, .int afull, .int alean, .int alines, .int ahasMoon, .int amoonStart, .int amoonStep, .int aplaceCount, .int areportCount, .int adeedCount, .ref aplaces, .ref areports, .ref adeeds]))] U.heap ∧ gz_ap (va_A [(h0, .inr (3, [.int months, .int full, .int lean, .ref al, .ref on])), (al, .inl (kal, 25, .inl fal))] sz) [(am, .inr (0, [.int amonths, .int afull, .int alean, .int alines, .int ahasMoon, .int amoonStart, .int amoonStep, .int aplaceCount, .int areportCount, .int adeedCount, .ref aplaces, .ref areports, .ref adeeds]))])) (va_Qv (fun (u : Unit) => True) (fun _ t => ∃ (w0_0 : Int32) (w0_1 : Int32) (w0_2 : Int32) (z1 : Nat → Int32), pb_sX3_open dC dI (va_A [(h0, .inr (3, [.int months, .int full, .int lean, .ref al, .ref on])), (al, .inl (kal, 25, .inl fal))] sz) h0 al am months full lean on kal fal amonths afull alean alines ahasMoon amoonStart amoonStep aplaceCount areportCount adeedCount aplaces areports adeeds w0_0 w0_1 w0_2 z1 t) (va_A [(h0, .inr (3, [.int months, .int full, .int lean, .ref al, .ref on])), (al, .inl (kal, 25, .inl fal))] sz)) 0 0 (va_A [(h0, .inr (3, [.int months, .int full, .int lean, .ref al, .ref on])), (al, .inl (kal, 25, .inl fal))] sz) := by
  refine Met.ofW (cc := cX3_open) (maxL := 3) (ret := none) (by decide) rfl ?_
  intro p e s m args below meth c s₁ B hml hv
  obtain ⟨rfl, hsz, hP, hK, hD0, hz, hR, hRA⟩ := hv
  have hx := B.exec
  have hb := B.bytes
  have hr := B.returns
  have hts := atoms_spec (ws := (.code yX3_open cX3_open 3 none :: wsGA)) B.pre
  have hown : s.vm.findClass RX3 = some m.cls := findClass_of_methodNamed B.named
  have hlocks := B.notSynchronized
  subst hsz
  have hD := hD0.self (sz := s.heap.size)
  generalize hAe : va_A [(h0, .inr (3, [.int months, .int full, .int lean, .ref al, .ref on])), (al, .inl (kal, 25, .inl fal))] s.heap.size = A at hD hRA ⊢
  have hA : ∀ q : Nat, s.heap.size ≤ q → A q := fun q h => by rw [← hAe]; exact Or.inr h
  have hS : va_S A s.heap s.heap [] := va_S.rf
  have hl := lv_entry ([.ref h0, .ref am]) (n := 3) (Nat.le_of_ble_eq_true rfl)
  rw [lg_entry_eq]
  generalize (lg_sl ([.ref h0, .ref am]) ++ List.replicate (3 - (lg_sl ([.ref h0, .ref am])).length) Slot.unset).toArray = ls at hl ⊢
  have hl : lv_has ls 3 [(0, .ref h0), (1, .ref am)] := hl
  refine lv_aload_n hx hb dX3_open_0 rfl (lv_at hl 0 rfl) ?_
  refine lv_aload_n hx hb dX3_open_1 rfl (lv_at hl 1 rfl) ?_
  refine va_get (D := (dC, dI)) (ci := 0) (v := .int amonths) (C := RX0) (T := TX0) (N := 13) hx hb hts (fun w h => List.mem_cons_of_mem _ (jnGA_X0 w h)) hown hK (gz_ro hR hRA hS) 0 rfl rfl 0 (by decide) (hts _ (List.mem_cons_of_mem _ mGA_476)) (fun _ h9 => h9) rfl dX3_open_2 ?_
  refine va_put (D := (dC, dI)) (ci := 3) (v := .int amonths) (ty := .int) (C := RX3) (T := TX3) (N := 5) hx hb hts (fun w h => List.mem_cons_of_mem _ (jnGA_X3 w h)) tyX3 tyX3_ok nmX3 hown hK hP hD hS 0 rfl rfl 0 (by decide) (hts _ (List.mem_cons_of_mem _ mGA_477)) (fun _ h9 => h9) rfl (by decide +kernel) rfl rfl (Nat.le_of_ble_eq_true rfl) dX3_open_5 (fun H locs hP hD hS => ?_)
  have hP : va_P (dC, dI) vwCl [(h0, .inr (3, [.int amonths, .int full, .int lean, .ref al, .ref on])), (al, .inl (kal, 25, .inl fal))] H := hP
  have hD : va_D A [(h0, .inr (3, [.int amonths, .int full, .int lean, .ref al, .ref on])), (al, .inl (kal, 25, .inl fal))] := hD
  refine lv_aload_n hx hb dX3_open_8 rfl (lv_at hl 0 rfl) ?_
  refine lv_aload_n hx hb dX3_open_9 rfl (lv_at hl 1 rfl) ?_
  refine va_get (D := (dC, dI)) (ci := 0) (v := .int afull) (C := RX0) (T := TX0) (N := 13) hx hb hts (fun w h => List.mem_cons_of_mem _ (jnGA_X0 w h)) hown hK (gz_ro hR hRA hS) 0 rfl rfl 1 (by decide) (hts _ (List.mem_cons_of_mem _ mGA_478)) (fun _ h9 => h9) rfl dX3_open_10 ?_
  refine va_put (D := (dC, dI)) (ci := 3) (v := .int afull) (ty := .int) (C := RX3) (T := TX3) (N := 5) hx hb hts (fun w h => List.mem_cons_of_mem _ (jnGA_X3 w h)) tyX3 tyX3_ok nmX3 hown hK hP hD hS 0 rfl rfl 1 (by decide) (hts _ (List.mem_cons_of_mem _ mGA_479)) (fun _ h9 => h9) rfl (by decide +kernel) rfl rfl (Nat.le_of_ble_eq_true rfl) dX3_open_13 (fun H locs hP hD hS => ?_)
  have hP : va_P (dC, dI) vwCl [(h0, .inr (3, [.int amonths, .int afull, .int lean, .ref al, .ref on])), (al, .inl (kal, 25, .inl fal))] H := hP
  have hD : va_D A [(h0, .inr (3, [.int amonths, .int afull, .int lean, .ref al, .ref on])), (al, .inl (kal, 25, .inl fal))] := hD
  refine lv_aload_n hx hb dX3_open_16 rfl (lv_at hl 0 rfl) ?_
  refine lv_aload_n hx hb dX3_open_17 rfl (lv_at hl 1 rfl) ?_
  refine va_get (D := (dC, dI)) (ci := 0) (v := .int alean) (C := RX0) (T := TX0) (N := 13) hx hb hts (fun w h => List.mem_cons_of_mem _ (jnGA_X0 w h)) hown hK (gz_ro hR hRA hS) 0 rfl rfl 2 (by decide) (hts _ (List.mem_cons_of_mem _ mGA_480)) (fun _ h9 => h9) rfl dX3_open_18 ?_
  refine va_put (D := (dC, dI)) (ci := 3) (v := .int alean) (ty := .int) (C := RX3) (T := TX3) (N := 5) hx hb hts (fun w h => List.mem_cons_of_mem _ (jnGA_X3 w h)) tyX3 tyX3_ok nmX3 hown hK hP hD hS 0 rfl rfl 2 (by decide) (hts _ (List.mem_cons_of_mem _ mGA_481)) (fun _ h9 => h9) rfl (by decide +kernel) rfl rfl (Nat.le_of_ble_eq_true rfl) dX3_open_21 (fun H locs hP hD hS => ?_)
  have hP : va_P (dC, dI) vwCl [(h0, .inr (3, [.int amonths, .int afull, .int alean, .ref al, .ref on])), (al, .inl (kal, 25, .inl fal))] H := hP
  have hD : va_D A [(h0, .inr (3, [.int amonths, .int afull, .int alean, .ref al, .ref on])), (al, .inl (kal, 25, .inl fal))] := hD
  refine lv_iconst (v := 0) hx hb dX3_open_24 (by decide) ?_
  refine lv_istore_n (lv' := [(2, .int 0), (0, .ref h0), (1, .ref am)]) hx hb dX3_open_25 rfl hl (by decide) rfl (fun ls hl => ?_)
  refine (lp_sX3_open h0 al am months full lean on kal fal amonths afull alean alines ahasMoon amoonStart amoonStep aplaceCount areportCount adeedCount aplaces areports adeeds gmonths gfull glean gamonths gafull galean gahasMoon gaplaceCount gareportCount gadeedCount hx hb hml hown hts hK hz hR hRA hA (Nat.le_of_ble_eq_true rfl) (Nat.le_of_ble_eq_true rfl) (Nat.zero_le _) (Nat.zero_le _) (fun w0_0 w0_1 w0_2 z1 H locs ls gw0_0 gw0_1 gw0_2 hP hD hS hl => ?_) 64) 0 amonths afull alean fal _ _ _ (gi_w (gi_c 0 0 (by decide)) (by decide)) gamonths gafull galean (by have k0 : (0 : Int32).toInt = 0 := (by decide); omega) hP hD hS (lv_sub hl [1, 2, 0] rfl)
  · skip
    exact W.vret hx hb hr (fun t ht hW => ⟨⟨(), rfl, trivial, w0_0, w0_1, w0_2, z1, gw0_0, gw0_1, gw0_2, by rw [ht]; exact hP, hD⟩, hS.F ht⟩) hS.2.2 dX3_open_51
theorem dX3_rightFor_0 : decode cX3_rightFor 0 = .ok (.iconst 2, 1) := by decide +kernel
theorem dX3_rightFor_1 : decode cX3_rightFor 1 = .ok (.aload_n 0, 1) := by decide +kernel
theorem dX3_rightFor_2 : decode cX3_rightFor 2 = .ok (.getfield 33, 3) := by decide +kernel
theorem dX3_rightFor_5 : decode cX3_rightFor 5 = .ok (.ishl, 1) := by decide +kernel
theorem dX3_rightFor_6 : decode cX3_rightFor 6 = .ok (.iconst 1, 1) := by decide +kernel
theorem dX3_rightFor_7 : decode cX3_rightFor 7 = .ok (.isub, 1) := by decide +kernel
theorem dX3_rightFor_8 : decode cX3_rightFor 8 = .ok (.istore_n 1, 1) := by decide +kernel
theorem dX3_rightFor_9 : decode cX3_rightFor 9 = .ok (.aload_n 0, 1) := by decide +kernel
theorem dX3_rightFor_10 : decode cX3_rightFor 10 = .ok (.getfield 38, 3) := by decide +kernel
theorem dX3_rightFor_13 : decode cX3_rightFor 13 = .ok (.iconst 1, 1) := by decide +kernel
theorem dX3_rightFor_14 : decode cX3_rightFor 14 = .ok (.iadd, 1) := by decide +kernel
theorem dX3_rightFor_15 : decode cX3_rightFor 15 = .ok (.bipush 29, 2) := by decide +kernel
theorem dX3_rightFor_17 : decode cX3_rightFor 17 = .ok (.aload_n 0, 1) := by decide +kernel
theorem dX3_rightFor_18 : decode cX3_rightFor 18 = .ok (.getfield 33, 3) := by decide +kernel
theorem dX3_rightFor_21 : decode cX3_rightFor 21 = .ok (.imul, 1) := by decide +kernel
theorem dX3_rightFor_22 : decode cX3_rightFor 22 = .ok (.isub, 1) := by decide +kernel
theorem dX3_rightFor_23 : decode cX3_rightFor 23 = .ok (.istore_n 2, 1) := by decide +kernel
theorem dX3_rightFor_24 : decode cX3_rightFor 24 = .ok (.aload_n 0, 1) := by decide +kernel
theorem dX3_rightFor_25 : decode cX3_rightFor 25 = .ok (.getfield 41, 3) := by decide +kernel
theorem dX3_rightFor_28 : decode cX3_rightFor 28 = .ok (.iconst 2, 1) := by decide +kernel
theorem dX3_rightFor_29 : decode cX3_rightFor 29 = .ok (.if_icmp .eq 15, 3) := by decide +kernel
theorem dX3_rightFor_32 : decode cX3_rightFor 32 = .ok (.aload_n 0, 1) := by decide +kernel
theorem dX3_rightFor_33 : decode cX3_rightFor 33 = .ok (.getfield 41, 3) := by decide +kernel
theorem dX3_rightFor_36 : decode cX3_rightFor 36 = .ok (.iconst 1, 1) := by decide +kernel
theorem dX3_rightFor_37 : decode cX3_rightFor 37 = .ok (.if_icmp .ne 9, 3) := by decide +kernel
theorem dX3_rightFor_40 : decode cX3_rightFor 40 = .ok (.iload_n 2, 1) := by decide +kernel
theorem dX3_rightFor_41 : decode cX3_rightFor 41 = .ok (.ifCond .ge 5, 3) := by decide +kernel
theorem dX3_rightFor_44 : decode cX3_rightFor 44 = .ok (.iload_n 1, 1) := by decide +kernel
theorem dX3_rightFor_45 : decode cX3_rightFor 45 = .ok (.ireturn, 1) := by decide +kernel
theorem dX3_rightFor_46 : decode cX3_rightFor 46 = .ok (.iload_n 2, 1) := by decide +kernel
theorem dX3_rightFor_47 : decode cX3_rightFor 47 = .ok (.ifCond .lt 11, 3) := by decide +kernel
theorem dX3_rightFor_50 : decode cX3_rightFor 50 = .ok (.iload_n 2, 1) := by decide +kernel
theorem dX3_rightFor_51 : decode cX3_rightFor 51 = .ok (.aload_n 0, 1) := by decide +kernel
theorem dX3_rightFor_52 : decode cX3_rightFor 52 = .ok (.getfield 33, 3) := by decide +kernel
theorem dX3_rightFor_55 : decode cX3_rightFor 55 = .ok (.if_icmp .le 5, 3) := by decide +kernel
theorem dX3_rightFor_58 : decode cX3_rightFor 58 = .ok (.iconst 0, 1) := by decide +kernel
theorem dX3_rightFor_59 : decode cX3_rightFor 59 = .ok (.ireturn, 1) := by decide +kernel
theorem dX3_rightFor_60 : decode cX3_rightFor 60 = .ok (.aload_n 0, 1) := by decide +kernel
theorem dX3_rightFor_61 : decode cX3_rightFor 61 = .ok (.getfield 41, 3) := by decide +kernel
theorem dX3_rightFor_64 : decode cX3_rightFor 64 = .ok (.ifCond .ne 9, 3) := by decide +kernel
theorem dX3_rightFor_67 : decode cX3_rightFor 67 = .ok (.iconst 1, 1) := by decide +kernel
theorem dX3_rightFor_68 : decode cX3_rightFor 68 = .ok (.iload_n 2, 1) := by decide +kernel
theorem dX3_rightFor_69 : decode cX3_rightFor 69 = .ok (.ishl, 1) := by decide +kernel
theorem dX3_rightFor_70 : decode cX3_rightFor 70 = .ok (.goto 9, 3) := by decide +kernel
theorem dX3_rightFor_73 : decode cX3_rightFor 73 = .ok (.iload_n 1, 1) := by decide +kernel
theorem dX3_rightFor_74 : decode cX3_rightFor 74 = .ok (.bipush (-2), 2) := by decide +kernel
theorem dX3_rightFor_76 : decode cX3_rightFor 76 = .ok (.iload_n 2, 1) := by decide +kernel
theorem dX3_rightFor_77 : decode cX3_rightFor 77 = .ok (.ishl, 1) := by decide +kernel
theorem dX3_rightFor_78 : decode cX3_rightFor 78 = .ok (.iand, 1) := by decide +kernel
theorem dX3_rightFor_79 : decode cX3_rightFor 79 = .ok (.ireturn, 1) := by decide +kernel
set_option maxHeartbeats 4000000 in
set_option maxRecDepth 100000 in
theorem sX3_rightFor (l : Launch) (dC : Nat → ClassId) (dI : Nat → Nat → Nat) (rp : Nat) (qplace : Int32) (qkind : Int32) (qmonth : Int32) (qday : Int32) (qknown : Int32) (qstruck : Int32) (gqplace : gi qplace 0 5) (gqmonth : gi qmonth 0 23) (gqstruck : gi qstruck 0 1) : Met l yX3_rightFor (.code yX3_rightFor cX3_rightFor 3 (some .int) :: wsGA) ({ frames := 0, cells := 0, slots := 0, locals := 0 }) (va_Pc [.ref rp] (fun U => va_P (dC, dI) vwCl [(rp, .inr (7, [.int qplace, .int qkind, .int qmonth, .int qday, .int qknown, .int qstruck]))] U.heap ∧ va_K (dC, dI) vwCl [] U ∧ nzA U)) (va_Qi (fun (r : Int32) (u : Unit) => gi r (-2147483648) 2147483647) (fun _ _ => True) (fun _ => False)) 0 0 (fun _ => False) := by
  refine Met.ofW (cc := cX3_rightFor) (maxL := 3) (ret := (some .int)) (by decide) rfl ?_
  intro p e s m args below meth c s₁ B hml hv
  obtain ⟨rfl, hP, hK, hz⟩ := hv
  have hx := B.exec
  have hb := B.bytes
  have hr := B.returns
  have hts := atoms_spec (ws := (.code yX3_rightFor cX3_rightFor 3 (some .int) :: wsGA)) B.pre
  have hown : s.vm.findClass RX3 = some m.cls := findClass_of_methodNamed B.named
  have hlocks := B.notSynchronized
  have hS : va_S (fun _ => False) s.heap s.heap [] := va_S.rf
  have hl := lv_entry ([.ref rp]) (n := 3) (Nat.le_of_ble_eq_true rfl)
  rw [lg_entry_eq]
  generalize (lg_sl ([.ref rp]) ++ List.replicate (3 - (lg_sl ([.ref rp])).length) Slot.unset).toArray = ls at hl ⊢
  have hl : lv_has ls 3 [(0, .ref rp)] := hl
  refine lv_iconst (v := 2) hx hb dX3_rightFor_0 (by decide) ?_
  refine lv_aload_n hx hb dX3_rightFor_1 rfl (lv_at hl 0 rfl) ?_
  refine va_get (D := (dC, dI)) (ci := 7) (v := .int qmonth) (C := RX7) (T := TX7) (N := 6) hx hb hts (fun w h => List.mem_cons_of_mem _ (jnGA_X7 w h)) hown hK hP 0 rfl rfl 2 (by decide) (hts _ (List.mem_cons_of_mem _ mGA_493)) (fun _ h9 => h9) rfl dX3_rightFor_2 ?_
  refine lv_ishl hx hb dX3_rightFor_5 ?_
  refine lv_topi (fun x_31 ex_31 => ?_)
  refine lv_iconst (v := 1) hx hb dX3_rightFor_6 (by decide) ?_
  refine lv_isub hx hb dX3_rightFor_7 ?_
  refine lv_topi (fun x_32 ex_32 => ?_)
  refine lv_istore_n (lv' := [(1, .int x_32), (0, .ref rp)]) hx hb dX3_rightFor_8 rfl hl (by decide) rfl (fun ls hl => ?_)
  refine lv_aload_n hx hb dX3_rightFor_9 rfl (lv_at hl 1 rfl) ?_
  refine va_get (D := (dC, dI)) (ci := 7) (v := .int qday) (C := RX7) (T := TX7) (N := 6) hx hb hts (fun w h => List.mem_cons_of_mem _ (jnGA_X7 w h)) hown hK hP 0 rfl rfl 3 (by decide) (hts _ (List.mem_cons_of_mem _ mGA_497)) (fun _ h9 => h9) rfl dX3_rightFor_10 ?_
  refine lv_iconst (v := 1) hx hb dX3_rightFor_13 (by decide) ?_
  refine lv_iadd hx hb dX3_rightFor_14 ?_
  refine lv_topi (fun x_33 ex_33 => ?_)
  refine lv_bipush (v := 29) hx hb dX3_rightFor_15 (by decide) ?_
  refine lv_aload_n hx hb dX3_rightFor_17 rfl (lv_at hl 1 rfl) ?_
  refine va_get (D := (dC, dI)) (ci := 7) (v := .int qmonth) (C := RX7) (T := TX7) (N := 6) hx hb hts (fun w h => List.mem_cons_of_mem _ (jnGA_X7 w h)) hown hK hP 0 rfl rfl 2 (by decide) (hts _ (List.mem_cons_of_mem _ mGA_493)) (fun _ h9 => h9) rfl dX3_rightFor_18 ?_
  refine lv_imul hx hb dX3_rightFor_21 ?_
  refine lv_topi (fun x_34 ex_34 => ?_)
  have gx_34 : gi x_34 0 667 := gi_mul ex_34 (gi_c 29 29 (by decide)) gqmonth (by decide)
  refine lv_isub hx hb dX3_rightFor_22 ?_
  refine lv_topi (fun x_35 ex_35 => ?_)
  refine lv_istore_n (lv' := [(2, .int x_35), (1, .int x_32), (0, .ref rp)]) hx hb dX3_rightFor_23 rfl hl (by decide) rfl (fun ls hl => ?_)
  refine lv_aload_n hx hb dX3_rightFor_24 rfl (lv_at hl 2 rfl) ?_
  refine va_get (D := (dC, dI)) (ci := 7) (v := .int qkind) (C := RX7) (T := TX7) (N := 6) hx hb hts (fun w h => List.mem_cons_of_mem _ (jnGA_X7 w h)) hown hK hP 0 rfl rfl 1 (by decide) (hts _ (List.mem_cons_of_mem _ mGA_498)) (fun _ h9 => h9) rfl dX3_rightFor_25 ?_
  refine lv_iconst (v := 2) hx hb dX3_rightFor_28 (by decide) ?_
  refine lv_icmp_eq (tgt := 44) hx hb dX3_rightFor_29 (by decide) (fun c_36 => ?_) (fun c_36 => ?_)
  · have g_37 : gi qkind 2 2 := gi_eq c_36 (gi_c 2 2 (by decide))
    refine lv_iload_n hx hb dX3_rightFor_44 rfl (lv_at hl 1 rfl) ?_
    exact W.iret (v := x_32) hx hb hr (fun t ht hW => ⟨⟨x_32, (), rfl, (gi_any x_32), trivial⟩, hS.F ht⟩) hS.2.2 dX3_rightFor_45
  · refine lv_aload_n hx hb dX3_rightFor_32 rfl (lv_at hl 2 rfl) ?_
    refine va_get (D := (dC, dI)) (ci := 7) (v := .int qkind) (C := RX7) (T := TX7) (N := 6) hx hb hts (fun w h => List.mem_cons_of_mem _ (jnGA_X7 w h)) hown hK hP 0 rfl rfl 1 (by decide) (hts _ (List.mem_cons_of_mem _ mGA_498)) (fun _ h9 => h9) rfl dX3_rightFor_33 ?_
    refine lv_iconst (v := 1) hx hb dX3_rightFor_36 (by decide) ?_
    refine lv_icmp_ne (tgt := 46) hx hb dX3_rightFor_37 (by decide) (fun c_38 => ?_) (fun c_38 => ?_)
    · refine lv_iload_n hx hb dX3_rightFor_46 rfl (lv_at hl 0 rfl) ?_
      refine lv_if_lt (tgt := 58) hx hb dX3_rightFor_47 (by decide) (fun c_39 => ?_) (fun c_39 => ?_)
      · have g_40 : gi x_35 (-2147483648) (-1) := gi_lt_l c_39 (gi_any x_35) (gi_c 0 0 (by decide)) (by decide)
        refine lv_iconst (v := 0) hx hb dX3_rightFor_58 (by decide) ?_
        exact W.iret (v := 0) hx hb hr (fun t ht hW => ⟨⟨0, (), rfl, (gi_any 0), trivial⟩, hS.F ht⟩) hS.2.2 dX3_rightFor_59
      · have g_41 : gi x_35 0 2147483647 := gi_le_r (Int32.not_lt.mp c_39) (gi_c 0 0 (by decide)) (gi_any x_35)
        refine lv_iload_n hx hb dX3_rightFor_50 rfl (lv_at hl 0 rfl) ?_
        refine lv_aload_n hx hb dX3_rightFor_51 rfl (lv_at hl 2 rfl) ?_
        refine va_get (D := (dC, dI)) (ci := 7) (v := .int qmonth) (C := RX7) (T := TX7) (N := 6) hx hb hts (fun w h => List.mem_cons_of_mem _ (jnGA_X7 w h)) hown hK hP 0 rfl rfl 2 (by decide) (hts _ (List.mem_cons_of_mem _ mGA_493)) (fun _ h9 => h9) rfl dX3_rightFor_52 ?_
        refine lv_icmp_le (tgt := 60) hx hb dX3_rightFor_55 (by decide) (fun c_42 => ?_) (fun c_42 => ?_)
        · have g_43 : gi x_35 0 23 := gi_le_l c_42 g_41 gqmonth
          refine lv_aload_n hx hb dX3_rightFor_60 rfl (lv_at hl 2 rfl) ?_
          refine va_get (D := (dC, dI)) (ci := 7) (v := .int qkind) (C := RX7) (T := TX7) (N := 6) hx hb hts (fun w h => List.mem_cons_of_mem _ (jnGA_X7 w h)) hown hK hP 0 rfl rfl 1 (by decide) (hts _ (List.mem_cons_of_mem _ mGA_498)) (fun _ h9 => h9) rfl dX3_rightFor_61 ?_
          refine lv_if_ne (tgt := 73) hx hb dX3_rightFor_64 (by decide) (fun c_44 => ?_) (fun c_44 => ?_)
          · refine lv_iload_n hx hb dX3_rightFor_73 rfl (lv_at hl 1 rfl) ?_
            refine lv_bipush (v := (-2)) hx hb dX3_rightFor_74 (by decide) ?_
            refine lv_iload_n hx hb dX3_rightFor_76 rfl (lv_at hl 0 rfl) ?_
            refine lv_ishl hx hb dX3_rightFor_77 ?_
            refine lv_topi (fun x_45 ex_45 => ?_)
            refine lv_iand hx hb dX3_rightFor_78 ?_
            refine lv_topi (fun x_46 ex_46 => ?_)
            exact W.iret (v := x_46) hx hb hr (fun t ht hW => ⟨⟨x_46, (), rfl, (gi_any x_46), trivial⟩, hS.F ht⟩) hS.2.2 dX3_rightFor_79
          · have g_47 : gi qkind 0 0 := gi_eq c_44 (gi_c 0 0 (by decide))
            refine lv_iconst (v := 1) hx hb dX3_rightFor_67 (by decide) ?_
            refine lv_iload_n hx hb dX3_rightFor_68 rfl (lv_at hl 0 rfl) ?_
            refine lv_ishl hx hb dX3_rightFor_69 ?_
            refine lv_topi (fun x_48 ex_48 => ?_)
            refine lv_goto (tgt := 79) hx hb dX3_rightFor_70 (by decide) ?_
            exact W.iret (v := x_48) hx hb hr (fun t ht hW => ⟨⟨x_48, (), rfl, (gi_any x_48), trivial⟩, hS.F ht⟩) hS.2.2 dX3_rightFor_79
        · have g_49 : gi x_35 1 2147483647 := gi_lt_r (Int32.not_le.mp c_42) gqmonth g_41 (by decide)
          refine lv_iconst (v := 0) hx hb dX3_rightFor_58 (by decide) ?_
          exact W.iret (v := 0) hx hb hr (fun t ht hW => ⟨⟨0, (), rfl, (gi_any 0), trivial⟩, hS.F ht⟩) hS.2.2 dX3_rightFor_59
    · have g_50 : gi qkind 1 1 := gi_eq c_38 (gi_c 1 1 (by decide))
      refine lv_iload_n hx hb dX3_rightFor_40 rfl (lv_at hl 0 rfl) ?_
      refine lv_if_ge (tgt := 46) hx hb dX3_rightFor_41 (by decide) (fun c_51 => ?_) (fun c_51 => ?_)
      · have g_52 : gi x_35 0 2147483647 := gi_le_r c_51 (gi_c 0 0 (by decide)) (gi_any x_35)
        refine lv_iload_n hx hb dX3_rightFor_46 rfl (lv_at hl 0 rfl) ?_
        refine lv_if_lt (tgt := 58) hx hb dX3_rightFor_47 (by decide) (fun c_53 => absurd c_53 (gi_no_lt g_52 (gi_c 0 0 (by decide)) (by decide))) (fun c_53 => ?_)
        refine lv_iload_n hx hb dX3_rightFor_50 rfl (lv_at hl 0 rfl) ?_
        refine lv_aload_n hx hb dX3_rightFor_51 rfl (lv_at hl 2 rfl) ?_
        refine va_get (D := (dC, dI)) (ci := 7) (v := .int qmonth) (C := RX7) (T := TX7) (N := 6) hx hb hts (fun w h => List.mem_cons_of_mem _ (jnGA_X7 w h)) hown hK hP 0 rfl rfl 2 (by decide) (hts _ (List.mem_cons_of_mem _ mGA_493)) (fun _ h9 => h9) rfl dX3_rightFor_52 ?_
        refine lv_icmp_le (tgt := 60) hx hb dX3_rightFor_55 (by decide) (fun c_54 => ?_) (fun c_54 => ?_)
        · have g_55 : gi x_35 0 23 := gi_le_l c_54 g_52 gqmonth
          refine lv_aload_n hx hb dX3_rightFor_60 rfl (lv_at hl 2 rfl) ?_
          refine va_get (D := (dC, dI)) (ci := 7) (v := .int qkind) (C := RX7) (T := TX7) (N := 6) hx hb hts (fun w h => List.mem_cons_of_mem _ (jnGA_X7 w h)) hown hK hP 0 rfl rfl 1 (by decide) (hts _ (List.mem_cons_of_mem _ mGA_498)) (fun _ h9 => h9) rfl dX3_rightFor_61 ?_
          refine lv_if_ne (tgt := 73) hx hb dX3_rightFor_64 (by decide) (fun c_56 => ?_) (fun c_56 => absurd c_56 (gi_no_eq g_50 (gi_c 0 0 (by decide)) (by decide)))
          refine lv_iload_n hx hb dX3_rightFor_73 rfl (lv_at hl 1 rfl) ?_
          refine lv_bipush (v := (-2)) hx hb dX3_rightFor_74 (by decide) ?_
          refine lv_iload_n hx hb dX3_rightFor_76 rfl (lv_at hl 0 rfl) ?_
          refine lv_ishl hx hb dX3_rightFor_77 ?_
          refine lv_topi (fun x_57 ex_57 => ?_)
          refine lv_iand hx hb dX3_rightFor_78 ?_
          refine lv_topi (fun x_58 ex_58 => ?_)
          exact W.iret (v := x_58) hx hb hr (fun t ht hW => ⟨⟨x_58, (), rfl, (gi_any x_58), trivial⟩, hS.F ht⟩) hS.2.2 dX3_rightFor_79
        · have g_59 : gi x_35 1 2147483647 := gi_lt_r (Int32.not_le.mp c_54) gqmonth g_52 (by decide)
          refine lv_iconst (v := 0) hx hb dX3_rightFor_58 (by decide) ?_
          exact W.iret (v := 0) hx hb hr (fun t ht hW => ⟨⟨0, (), rfl, (gi_any 0), trivial⟩, hS.F ht⟩) hS.2.2 dX3_rightFor_59
      · have g_60 : gi x_35 (-2147483648) (-1) := gi_lt_l (Int32.not_le.mp c_51) (gi_any x_35) (gi_c 0 0 (by decide)) (by decide)
        refine lv_iload_n hx hb dX3_rightFor_44 rfl (lv_at hl 1 rfl) ?_
        exact W.iret (v := x_32) hx hb hr (fun t ht hW => ⟨⟨x_32, (), rfl, (gi_any x_32), trivial⟩, hS.F ht⟩) hS.2.2 dX3_rightFor_45
theorem dX3_narrow_0 : decode cX3_narrow 0 = .ok (.aload_n 0, 1) := by decide +kernel
theorem dX3_narrow_1 : decode cX3_narrow 1 = .ok (.getfield 9, 3) := by decide +kernel
theorem dX3_narrow_4 : decode cX3_narrow 4 = .ok (.aload_n 1, 1) := by decide +kernel
theorem dX3_narrow_5 : decode cX3_narrow 5 = .ok (.getfield 33, 3) := by decide +kernel
theorem dX3_narrow_8 : decode cX3_narrow 8 = .ok (.dup2, 1) := by decide +kernel
theorem dX3_narrow_9 : decode cX3_narrow 9 = .ok (.iaload, 1) := by decide +kernel
theorem dX3_narrow_10 : decode cX3_narrow 10 = .ok (.aload_n 1, 1) := by decide +kernel
theorem dX3_narrow_11 : decode cX3_narrow 11 = .ok (.invokestatic 44, 3) := by decide +kernel
theorem dX3_narrow_14 : decode cX3_narrow 14 = .ok (.iand, 1) := by decide +kernel
theorem dX3_narrow_15 : decode cX3_narrow 15 = .ok (.iastore, 1) := by decide +kernel
theorem dX3_narrow_16 : decode cX3_narrow 16 = .ok (.return_, 1) := by decide +kernel
abbrev pb_sX3_narrow (dC : Nat → ClassId) (dI : Nat → Nat → Nat) (A9 : Nat → Prop) (h0 : Nat) (al : Nat) (rp : Nat) (months : Int32) (full : Int32) (lean : Int32) (on : Nat) (kal : ClassId) (fal : Nat → Int32) (qplace : Int32) (qkind : Int32) (qmonth : Int32) (qday : Int32) (qknown : Int32) (qstruck : Int32) (z1 : Nat → Int32) (t : State) : Prop := va_P (dC, dI) vwCl [(h0, .inr (3, [.int months, .int full, .int lean, .ref al, .ref on])), (al, .inl (kal, 25, .inl z1))] t.heap ∧ va_D A9 [(h0, .inr (3, [.int months, .int full, .int lean, .ref al, .ref on])), (al, .inl (kal, 25, .inl z1))]
set_option maxHeartbeats 4000000 in
set_option maxRecDepth 100000 in
theorem sX3_narrow (l : Launch) (dC : Nat → ClassId) (dI : Nat → Nat → Nat) (sz : Nat) (h0 : Nat) (al : Nat) (rp : Nat) (months : Int32) (full : Int32) (lean : Int32) (on : Nat) (kal : ClassId) (fal : Nat → Int32) (qplace : Int32) (qkind : Int32) (qmonth : Int32) (qday : Int32) (qknown : Int32) (qstruck : Int32) (gmonths : gi months 0 24) (gfull : gi full 0 5) (glean : gi lean 0 5) (gqplace : gi qplace 0 5) (gqmonth : gi qmonth 0 23) (gqstruck : gi qstruck 0 1) : Met l yX3_narrow (.code yX3_narrow cX3_narrow 2 none :: wsGA) ({ frames := 1, cells := 0, slots := 0, locals := 22 }) (va_Pc [.ref h0, .ref rp] (fun U => U.heap.size = sz ∧ va_P (dC, dI) vwCl [(h0, .inr (3, [.int months, .int full, .int lean, .ref al, .ref on])), (al, .inl (kal, 25, .inl fal))] U.heap ∧ va_K (dC, dI) vwCl [(kal, .int)] U ∧ va_D (fun _ => True) [(h0, .inr (3, [.int months, .int full, .int lean, .ref al, .ref on])), (al, .inl (kal, 25, .inl fal))] ∧ nzA U ∧ va_P (dC, dI) vwCl [(rp, .inr (7, [.int qplace, .int qkind, .int qmonth, .int qday, .int qknown, .int qstruck]))] U.heap ∧ gz_ap (va_A [(h0, .inr (3, [.int months, .int full, .int lean, .ref al, .ref on])), (al, .inl (kal, 25, .inl fal))] sz) [(rp, .inr (7, [.int qplace, .int qkind, .int qmonth, .int qday, .int qknown, .int qstruck]))])) (va_Qv (fun (u : Unit) => True) (fun _ t => ∃ (z1 : Nat → Int32), pb_sX3_narrow dC dI (va_A [(h0, .inr (3, [.int months, .int full, .int lean, .ref al, .ref on])), (al, .inl (kal, 25, .inl fal))] sz) h0 al rp months full lean on kal fal qplace qkind qmonth qday qknown qstruck z1 t) (va_A [(h0, .inr (3, [.int months, .int full, .int lean, .ref al, .ref on])), (al, .inl (kal, 25, .inl fal))] sz)) 0 0 (va_A [(h0, .inr (3, [.int months, .int full, .int lean, .ref al, .ref on])), (al, .inl (kal, 25, .inl fal))] sz) := by
  refine Met.ofW (cc := cX3_narrow) (maxL := 2) (ret := none) (by decide) rfl ?_
  intro p e s m args below meth c s₁ B hml hv
  obtain ⟨rfl, hsz, hP, hK, hD0, hz, hR, hRA⟩ := hv
  have hx := B.exec
  have hb := B.bytes
  have hr := B.returns
  have hts := atoms_spec (ws := (.code yX3_narrow cX3_narrow 2 none :: wsGA)) B.pre
  have hown : s.vm.findClass RX3 = some m.cls := findClass_of_methodNamed B.named
  have hlocks := B.notSynchronized
  subst hsz
  have hD := hD0.self (sz := s.heap.size)
  generalize hAe : va_A [(h0, .inr (3, [.int months, .int full, .int lean, .ref al, .ref on])), (al, .inl (kal, 25, .inl fal))] s.heap.size = A at hD hRA ⊢
  have hA : ∀ q : Nat, s.heap.size ≤ q → A q := fun q h => by rw [← hAe]; exact Or.inr h
  have hS : va_S A s.heap s.heap [] := va_S.rf
  have hl := lv_entry ([.ref h0, .ref rp]) (n := 2) (Nat.le_of_ble_eq_true rfl)
  rw [lg_entry_eq]
  generalize (lg_sl ([.ref h0, .ref rp]) ++ List.replicate (2 - (lg_sl ([.ref h0, .ref rp])).length) Slot.unset).toArray = ls at hl ⊢
  have hl : lv_has ls 2 [(0, .ref h0), (1, .ref rp)] := hl
  refine lv_aload_n hx hb dX3_narrow_0 rfl (lv_at hl 0 rfl) ?_
  refine va_get (D := (dC, dI)) (ci := 3) (v := .ref al) (C := RX3) (T := TX3) (N := 5) hx hb hts (fun w h => List.mem_cons_of_mem _ (jnGA_X3 w h)) hown hK hP 0 rfl rfl 3 (by decide) (hts _ (List.mem_cons_of_mem _ mGA_94)) (fun _ h9 => h9) rfl dX3_narrow_1 ?_
  refine lv_aload_n hx hb dX3_narrow_4 rfl (lv_at hl 1 rfl) ?_
  refine va_get (D := (dC, dI)) (ci := 7) (v := .int qmonth) (C := RX7) (T := TX7) (N := 6) hx hb hts (fun w h => List.mem_cons_of_mem _ (jnGA_X7 w h)) hown hK (gz_ro hR hRA hS) 0 rfl rfl 2 (by decide) (hts _ (List.mem_cons_of_mem _ mGA_493)) (fun _ h9 => h9) rfl dX3_narrow_5 ?_
  refine lv_dup2_11 hx hb dX3_narrow_8 rfl rfl ?_
  refine va_iald hx hb hK hP 1 0 rfl rfl (gi_in gqmonth (by decide)) dX3_narrow_9 ?_
  refine lv_topi (fun x_9 ex_9 => ?_)
  refine lv_aload_n hx hb dX3_narrow_10 rfl (lv_at hl 1 rfl) ?_
  have hPc : va_P (dC, dI) vwCl [(rp, .inr (7, [.int qplace, .int qkind, .int qmonth, .int qday, .int qknown, .int qstruck]))] s.heap := ((gz_ro hR hRA hS).sub [0] rfl)
  have hKc := hK.sub (tys' := []) [] rfl
  refine va_calli (va_runS (As := [.ref rp]) (rest := [.int x_9, .int qmonth, .ref al]) ⟨hx, hb, hml, hown, hts⟩ (sX3_rightFor l dC dI rp qplace qkind qmonth qday qknown qstruck gqplace gqmonth gqstruck) (cwS 1 hts (gz_gS mGA_494 mGA_495 mGA_18 mGA_496 goodGA) rfl rfl rfl (by decide +kernel) ⟨Nat.le_of_ble_eq_true rfl, Nat.le_of_ble_eq_true rfl⟩) ⟨bl_I (bl_a bl_P (bl_a bl_K bl_nz)), fun U hU hW => ⟨rfl, by rw [hU]; exact hPc, va_K.moved hW.alike hKc, nzA_warm hW hz⟩⟩ rfl rfl hl.1 rfl (lv_room (Nat.le_of_ble_eq_true rfl)) dX3_narrow_11 ⟨Nat.zero_le _, Nat.zero_le _⟩) hS (fun q _ h => h.elim) (fun q h => h.elim) (fun r_10 u t H1 locs ht hvm hw hB hz1 hk1 hS => ?_)
  have hP := gz_keep hP hk1
  generalize H1 = H at hP hS ⊢
  refine lv_iand hx hb dX3_narrow_14 ?_
  refine lv_topi (fun x_11 ex_11 => ?_)
  refine va_iast hx hb hK hP hD hS 1 0 rfl rfl (gi_in gqmonth (by decide)) dX3_narrow_15 (fun H locs hP hD hS => ?_)
  have hP : va_P (dC, dI) vwCl [(h0, .inr (3, [.int months, .int full, .int lean, .ref al, .ref on])), (al, .inl (kal, 25, .inl (upd fal (qmonth : Int32).toNatClampNeg x_11)))] H := hP
  have hD : va_D A [(h0, .inr (3, [.int months, .int full, .int lean, .ref al, .ref on])), (al, .inl (kal, 25, .inl (upd fal (qmonth : Int32).toNatClampNeg x_11)))] := hD
  generalize upd fal (qmonth : Int32).toNatClampNeg x_11 = f_12 at hP hD
  exact W.vret hx hb hr (fun t ht hW => ⟨⟨(), rfl, trivial, f_12, by rw [ht]; exact hP, hD⟩, hS.F ht⟩) hS.2.2 dX3_narrow_16
theorem dX7_isKnownBy_0 : decode cX7_isKnownBy 0 = .ok (.aload_n 0, 1) := by decide +kernel
theorem dX7_isKnownBy_1 : decode cX7_isKnownBy 1 = .ok (.getfield 7, 3) := by decide +kernel
theorem dX7_isKnownBy_4 : decode cX7_isKnownBy 4 = .ok (.ifCond .ne 15, 3) := by decide +kernel
theorem dX7_isKnownBy_7 : decode cX7_isKnownBy 7 = .ok (.aload_n 0, 1) := by decide +kernel
theorem dX7_isKnownBy_8 : decode cX7_isKnownBy 8 = .ok (.getfield 13, 3) := by decide +kernel
theorem dX7_isKnownBy_11 : decode cX7_isKnownBy 11 = .ok (.iload_n 1, 1) := by decide +kernel
theorem dX7_isKnownBy_12 : decode cX7_isKnownBy 12 = .ok (.if_icmp .gt 7, 3) := by decide +kernel
theorem dX7_isKnownBy_15 : decode cX7_isKnownBy 15 = .ok (.iconst 1, 1) := by decide +kernel
theorem dX7_isKnownBy_16 : decode cX7_isKnownBy 16 = .ok (.goto 4, 3) := by decide +kernel
theorem dX7_isKnownBy_19 : decode cX7_isKnownBy 19 = .ok (.iconst 0, 1) := by decide +kernel
theorem dX7_isKnownBy_20 : decode cX7_isKnownBy 20 = .ok (.ireturn, 1) := by decide +kernel
noncomputable def bfX7_isKnownBy_20 (known : Int32) (struck : Int32) (p0 : Int32) (s0 : Int32) : Int32 := s0
noncomputable def bfX7_isKnownBy_19 (known : Int32) (struck : Int32) (p0 : Int32) : Int32 := bfX7_isKnownBy_20 known struck p0 (0 : Int32)
noncomputable def fX7_isKnownBy (known : Int32) (struck : Int32) (p0 : Int32) : Int32 := if struck = (0 : Int32) then (if p0 < known then (bfX7_isKnownBy_19 known struck p0) else (bfX7_isKnownBy_20 known struck p0 (1 : Int32))) else (bfX7_isKnownBy_19 known struck p0)
set_option maxHeartbeats 4000000 in
set_option maxRecDepth 100000 in
theorem sX7_isKnownBy (l : Launch) (dC : Nat → ClassId) (dI : Nat → Nat → Nat) (h0 : Nat) (place : Int32) (kind : Int32) (month : Int32) (day : Int32) (known : Int32) (struck : Int32) (p0 : Int32) (gplace : gi place 0 5) (gmonth : gi month 0 23) (gstruck : gi struck 0 1) : Met l yX7_isKnownBy (.code yX7_isKnownBy cX7_isKnownBy 2 (some .boolean) :: wsGA) ({ frames := 0, cells := 0, slots := 0, locals := 0 }) (va_Pc [.ref h0, .int p0] (fun U => va_P (dC, dI) vwCl [(h0, .inr (7, [.int place, .int kind, .int month, .int day, .int known, .int struck]))] U.heap ∧ va_K (dC, dI) vwCl [] U ∧ nzA U)) (va_Qi (fun (r : Int32) (u : Unit) => (gi r 0 1) ∧ r = fX7_isKnownBy known struck p0) (fun _ _ => True) (fun _ => False)) 0 0 (fun _ => False) := by
  refine Met.ofW (cc := cX7_isKnownBy) (maxL := 2) (ret := (some .boolean)) (by decide) rfl ?_
  intro p e s m args below meth c s₁ B hml hv
  obtain ⟨rfl, hP, hK, hz⟩ := hv
  have hx := B.exec
  have hb := B.bytes
  have hr := B.returns
  have hts := atoms_spec (ws := (.code yX7_isKnownBy cX7_isKnownBy 2 (some .boolean) :: wsGA)) B.pre
  have hown : s.vm.findClass RX7 = some m.cls := findClass_of_methodNamed B.named
  have hlocks := B.notSynchronized
  have hS : va_S (fun _ => False) s.heap s.heap [] := va_S.rf
  have hl := lv_entry ([.ref h0, .int p0]) (n := 2) (Nat.le_of_ble_eq_true rfl)
  rw [lg_entry_eq]
  generalize (lg_sl ([.ref h0, .int p0]) ++ List.replicate (2 - (lg_sl ([.ref h0, .int p0])).length) Slot.unset).toArray = ls at hl ⊢
  have hl : lv_has ls 2 [(0, .ref h0), (1, .int p0)] := hl
  obtain ⟨RES, hF⟩ : ∃ R9, fX7_isKnownBy known struck p0 = R9 := ⟨_, rfl⟩
  have hR9 := hF
  refine lv_aload_n hx hb dX7_isKnownBy_0 rfl (lv_at hl 0 rfl) ?_
  refine va_get (D := (dC, dI)) (ci := 7) (v := .int struck) (C := RX7) (T := TX7) (N := 6) hx hb hts (fun w h => List.mem_cons_of_mem _ (jnGA_X7 w h)) hown hK hP 0 rfl rfl 5 (by decide) (hts _ (List.mem_cons_of_mem _ mGA_441)) (fun _ h9 => h9) rfl dX7_isKnownBy_1 ?_
  refine lv_if_ne (tgt := 19) hx hb dX7_isKnownBy_4 (by decide) (fun c_7 => ?_) (fun c_7 => ?_)
  · have hF := gf_neg c_7 hF
    have g_8 : gi struck 1 1 := gi_ne_lo c_7 gstruck (gi_c 0 0 (by decide)) (by decide)
    refine lv_iconst (v := 0) hx hb dX7_isKnownBy_19 (by decide) ?_
    exact W.zret (v := 0) hx hb hr (by decide) (fun t ht hW => ⟨⟨0, (), rfl, ⟨(gi_w (gi_c 0 0 (by decide)) (by decide)), hF.trans hR9.symm⟩, trivial⟩, hS.F ht⟩) hS.2.2 dX7_isKnownBy_20
  · have hF := gf_pos c_7 hF
    have g_9 : gi struck 0 0 := gi_eq c_7 (gi_c 0 0 (by decide))
    refine lv_aload_n hx hb dX7_isKnownBy_7 rfl (lv_at hl 0 rfl) ?_
    refine va_get (D := (dC, dI)) (ci := 7) (v := .int known) (C := RX7) (T := TX7) (N := 6) hx hb hts (fun w h => List.mem_cons_of_mem _ (jnGA_X7 w h)) hown hK hP 0 rfl rfl 4 (by decide) (hts _ (List.mem_cons_of_mem _ mGA_442)) (fun _ h9 => h9) rfl dX7_isKnownBy_8 ?_
    refine lv_iload_n hx hb dX7_isKnownBy_11 rfl (lv_at hl 1 rfl) ?_
    refine lv_icmp_gt (tgt := 19) hx hb dX7_isKnownBy_12 (by decide) (fun c_10 => ?_) (fun c_10 => ?_)
    · have hF := gf_pos c_10 hF
      have g_11 : gi p0 (-2147483648) 2147483646 := gi_lt_l c_10 (gi_any p0) (gi_any known) (by decide)
      have g_12 : gi known (-2147483647) 2147483647 := gi_lt_r c_10 (gi_any p0) (gi_any known) (by decide)
      refine lv_iconst (v := 0) hx hb dX7_isKnownBy_19 (by decide) ?_
      exact W.zret (v := 0) hx hb hr (by decide) (fun t ht hW => ⟨⟨0, (), rfl, ⟨(gi_w (gi_c 0 0 (by decide)) (by decide)), hF.trans hR9.symm⟩, trivial⟩, hS.F ht⟩) hS.2.2 dX7_isKnownBy_20
    · have hF := gf_neg c_10 hF
      refine lv_iconst (v := 1) hx hb dX7_isKnownBy_15 (by decide) ?_
      refine lv_goto (tgt := 20) hx hb dX7_isKnownBy_16 (by decide) ?_
      exact W.zret (v := 1) hx hb hr (by decide) (fun t ht hW => ⟨⟨1, (), rfl, ⟨(gi_w (gi_c 1 1 (by decide)) (by decide)), hF.trans hR9.symm⟩, trivial⟩, hS.F ht⟩) hS.2.2 dX7_isKnownBy_20
theorem dX4_changesAt_0 : decode cX4_changesAt 0 = .ok (.aload_n 0, 1) := by decide +kernel
theorem dX4_changesAt_1 : decode cX4_changesAt 1 = .ok (.getfield 15, 3) := by decide +kernel
theorem dX4_changesAt_4 : decode cX4_changesAt 4 = .ok (.iload_n 1, 1) := by decide +kernel
theorem dX4_changesAt_5 : decode cX4_changesAt 5 = .ok (.bipush 25, 2) := by decide +kernel
theorem dX4_changesAt_7 : decode cX4_changesAt 7 = .ok (.imul, 1) := by decide +kernel
theorem dX4_changesAt_8 : decode cX4_changesAt 8 = .ok (.iload_n 2, 1) := by decide +kernel
theorem dX4_changesAt_9 : decode cX4_changesAt 9 = .ok (.iadd, 1) := by decide +kernel
theorem dX4_changesAt_10 : decode cX4_changesAt 10 = .ok (.iaload, 1) := by decide +kernel
theorem dX4_changesAt_11 : decode cX4_changesAt 11 = .ok (.aload_n 0, 1) := by decide +kernel
theorem dX4_changesAt_12 : decode cX4_changesAt 12 = .ok (.getfield 15, 3) := by decide +kernel
theorem dX4_changesAt_15 : decode cX4_changesAt 15 = .ok (.iload_n 1, 1) := by decide +kernel
theorem dX4_changesAt_16 : decode cX4_changesAt 16 = .ok (.iconst 1, 1) := by decide +kernel
theorem dX4_changesAt_17 : decode cX4_changesAt 17 = .ok (.isub, 1) := by decide +kernel
theorem dX4_changesAt_18 : decode cX4_changesAt 18 = .ok (.bipush 25, 2) := by decide +kernel
theorem dX4_changesAt_20 : decode cX4_changesAt 20 = .ok (.imul, 1) := by decide +kernel
theorem dX4_changesAt_21 : decode cX4_changesAt 21 = .ok (.iload_n 2, 1) := by decide +kernel
theorem dX4_changesAt_22 : decode cX4_changesAt 22 = .ok (.iadd, 1) := by decide +kernel
theorem dX4_changesAt_23 : decode cX4_changesAt 23 = .ok (.iaload, 1) := by decide +kernel
theorem dX4_changesAt_24 : decode cX4_changesAt 24 = .ok (.if_icmp .eq 7, 3) := by decide +kernel
theorem dX4_changesAt_27 : decode cX4_changesAt 27 = .ok (.iconst 1, 1) := by decide +kernel
theorem dX4_changesAt_28 : decode cX4_changesAt 28 = .ok (.goto 4, 3) := by decide +kernel
theorem dX4_changesAt_31 : decode cX4_changesAt 31 = .ok (.iconst 0, 1) := by decide +kernel
theorem dX4_changesAt_32 : decode cX4_changesAt 32 = .ok (.ireturn, 1) := by decide +kernel
set_option maxHeartbeats 4000000 in
set_option maxRecDepth 100000 in
theorem sX4_changesAt (l : Launch) (dC : Nat → ClassId) (dI : Nat → Nat → Nat) (h0 : Nat) (hb_ : Nat) (si : Nat) (eras : Int32) (khb_ : ClassId) (fhb_ : Nat → Int32) (p0 : Int32) (p1 : Int32) (geras : gi eras 0 25) (gp0 : gi p0 1 24) (gp1 : gi p1 0 24) : Met l yX4_changesAt (.code yX4_changesAt cX4_changesAt 3 (some .boolean) :: wsGA) ({ frames := 0, cells := 0, slots := 0, locals := 0 }) (va_Pc [.ref h0, .int p0, .int p1] (fun U => va_P (dC, dI) vwCl [(h0, .inr (4, [.ref si, .ref hb_, .int eras])), (hb_, .inl (khb_, 625, .inl fhb_))] U.heap ∧ va_K (dC, dI) vwCl [(khb_, .int)] U ∧ nzA U)) (va_Qi (fun (r : Int32) (u : Unit) => gi r 0 1) (fun _ _ => True) (fun _ => False)) 0 0 (fun _ => False) := by
  refine Met.ofW (cc := cX4_changesAt) (maxL := 3) (ret := (some .boolean)) (by decide) rfl ?_
  intro p e s m args below meth c s₁ B hml hv
  obtain ⟨rfl, hP, hK, hz⟩ := hv
  have hx := B.exec
  have hb := B.bytes
  have hr := B.returns
  have hts := atoms_spec (ws := (.code yX4_changesAt cX4_changesAt 3 (some .boolean) :: wsGA)) B.pre
  have hown : s.vm.findClass RX4 = some m.cls := findClass_of_methodNamed B.named
  have hlocks := B.notSynchronized
  have hS : va_S (fun _ => False) s.heap s.heap [] := va_S.rf
  have hl := lv_entry ([.ref h0, .int p0, .int p1]) (n := 3) (Nat.le_of_ble_eq_true rfl)
  rw [lg_entry_eq]
  generalize (lg_sl ([.ref h0, .int p0, .int p1]) ++ List.replicate (3 - (lg_sl ([.ref h0, .int p0, .int p1])).length) Slot.unset).toArray = ls at hl ⊢
  have hl : lv_has ls 3 [(0, .ref h0), (1, .int p0), (2, .int p1)] := hl
  refine lv_aload_n hx hb dX4_changesAt_0 rfl (lv_at hl 0 rfl) ?_
  refine va_get (D := (dC, dI)) (ci := 4) (v := .ref hb_) (C := RX4) (T := TX4) (N := 3) hx hb hts (fun w h => List.mem_cons_of_mem _ (jnGA_X4 w h)) hown hK hP 0 rfl rfl 1 (by decide) (hts _ (List.mem_cons_of_mem _ mGA_123)) (fun _ h9 => h9) rfl dX4_changesAt_1 ?_
  refine lv_iload_n hx hb dX4_changesAt_4 rfl (lv_at hl 1 rfl) ?_
  refine lv_bipush (v := 25) hx hb dX4_changesAt_5 (by decide) ?_
  refine lv_imul hx hb dX4_changesAt_7 ?_
  refine lv_topi (fun x_9 ex_9 => ?_)
  have gx_9 : gi x_9 25 600 := gi_mul ex_9 gp0 (gi_c 25 25 (by decide)) (by decide)
  refine lv_iload_n hx hb dX4_changesAt_8 rfl (lv_at hl 2 rfl) ?_
  refine lv_iadd hx hb dX4_changesAt_9 ?_
  refine lv_topi (fun x_10 ex_10 => ?_)
  have gx_10 : gi x_10 25 624 := gi_add ex_10 gx_9 gp1 (by decide)
  refine va_iald hx hb hK hP 1 0 rfl rfl (gi_in gx_10 (by decide)) dX4_changesAt_10 ?_
  refine lv_topi (fun x_11 ex_11 => ?_)
  refine lv_aload_n hx hb dX4_changesAt_11 rfl (lv_at hl 0 rfl) ?_
  refine va_get (D := (dC, dI)) (ci := 4) (v := .ref hb_) (C := RX4) (T := TX4) (N := 3) hx hb hts (fun w h => List.mem_cons_of_mem _ (jnGA_X4 w h)) hown hK hP 0 rfl rfl 1 (by decide) (hts _ (List.mem_cons_of_mem _ mGA_123)) (fun _ h9 => h9) rfl dX4_changesAt_12 ?_
  refine lv_iload_n hx hb dX4_changesAt_15 rfl (lv_at hl 1 rfl) ?_
  refine lv_iconst (v := 1) hx hb dX4_changesAt_16 (by decide) ?_
  refine lv_isub hx hb dX4_changesAt_17 ?_
  refine lv_topi (fun x_12 ex_12 => ?_)
  have gx_12 : gi x_12 0 23 := gi_sub ex_12 gp0 (gi_c 1 1 (by decide)) (by decide)
  refine lv_bipush (v := 25) hx hb dX4_changesAt_18 (by decide) ?_
  refine lv_imul hx hb dX4_changesAt_20 ?_
  refine lv_topi (fun x_13 ex_13 => ?_)
  have gx_13 : gi x_13 0 575 := gi_mul ex_13 gx_12 (gi_c 25 25 (by decide)) (by decide)
  refine lv_iload_n hx hb dX4_changesAt_21 rfl (lv_at hl 2 rfl) ?_
  refine lv_iadd hx hb dX4_changesAt_22 ?_
  refine lv_topi (fun x_14 ex_14 => ?_)
  have gx_14 : gi x_14 0 599 := gi_add ex_14 gx_13 gp1 (by decide)
  refine va_iald hx hb hK hP 1 0 rfl rfl (gi_in gx_14 (by decide)) dX4_changesAt_23 ?_
  refine lv_topi (fun x_15 ex_15 => ?_)
  refine lv_icmp_eq (tgt := 31) hx hb dX4_changesAt_24 (by decide) (fun c_16 => ?_) (fun c_16 => ?_)
  · refine lv_iconst (v := 0) hx hb dX4_changesAt_31 (by decide) ?_
    exact W.zret (v := 0) hx hb hr (by decide) (fun t ht hW => ⟨⟨0, (), rfl, (gi_w (gi_c 0 0 (by decide)) (by decide)), trivial⟩, hS.F ht⟩) hS.2.2 dX4_changesAt_32
  · refine lv_iconst (v := 1) hx hb dX4_changesAt_27 (by decide) ?_
    refine lv_goto (tgt := 32) hx hb dX4_changesAt_28 (by decide) ?_
    exact W.zret (v := 1) hx hb hr (by decide) (fun t ht hW => ⟨⟨1, (), rfl, (gi_w (gi_c 1 1 (by decide)) (by decide)), trivial⟩, hS.F ht⟩) hS.2.2 dX4_changesAt_32
theorem dX4_changesOf_0 : decode cX4_changesOf 0 = .ok (.iconst 0, 1) := by decide +kernel
theorem dX4_changesOf_1 : decode cX4_changesOf 1 = .ok (.istore_n 2, 1) := by decide +kernel
theorem dX4_changesOf_2 : decode cX4_changesOf 2 = .ok (.iconst 1, 1) := by decide +kernel
theorem dX4_changesOf_3 : decode cX4_changesOf 3 = .ok (.istore_n 3, 1) := by decide +kernel
theorem dX4_changesOf_4 : decode cX4_changesOf 4 = .ok (.iload_n 3, 1) := by decide +kernel
theorem dX4_changesOf_5 : decode cX4_changesOf 5 = .ok (.aload_n 0, 1) := by decide +kernel
theorem dX4_changesOf_6 : decode cX4_changesOf 6 = .ok (.getfield 18, 3) := by decide +kernel
theorem dX4_changesOf_9 : decode cX4_changesOf 9 = .ok (.if_icmp .ge 21, 3) := by decide +kernel
theorem dX4_changesOf_12 : decode cX4_changesOf 12 = .ok (.aload_n 0, 1) := by decide +kernel
theorem dX4_changesOf_13 : decode cX4_changesOf 13 = .ok (.iload_n 3, 1) := by decide +kernel
theorem dX4_changesOf_14 : decode cX4_changesOf 14 = .ok (.iload_n 1, 1) := by decide +kernel
theorem dX4_changesOf_15 : decode cX4_changesOf 15 = .ok (.invokevirtual 41, 3) := by decide +kernel
theorem dX4_changesOf_18 : decode cX4_changesOf 18 = .ok (.ifCond .eq 6, 3) := by decide +kernel
theorem dX4_changesOf_21 : decode cX4_changesOf 21 = .ok (.iinc 2 1, 3) := by decide +kernel
theorem dX4_changesOf_24 : decode cX4_changesOf 24 = .ok (.iinc 3 1, 3) := by decide +kernel
theorem dX4_changesOf_27 : decode cX4_changesOf 27 = .ok (.goto (-23), 3) := by decide +kernel
theorem dX4_changesOf_30 : decode cX4_changesOf 30 = .ok (.iload_n 2, 1) := by decide +kernel
theorem dX4_changesOf_31 : decode cX4_changesOf 31 = .ok (.ireturn, 1) := by decide +kernel
set_option maxHeartbeats 4000000 in
set_option maxRecDepth 100000 in
theorem lp_sX4_changesOf {p : Program} {l : Launch} {e : Env} {R : Room} {s : State} {m : MethodId} {args : Array Value} {below : List Frame} {meth : Method} {c : Code} {Q : State → Prop} {A : Nat → Prop} {cells slots : Nat} {dC : Nat → ClassId} {dI : Nat → Nat → Nat} (h0 : Nat) (hb_ : Nat) (si : Nat) (eras : Int32) (khb_ : ClassId) (fhb_ : Nat → Int32) (p0 : Int32) (geras : gi eras 0 25) (gp0 : gi p0 0 24) (hx : p.tables.exec = Jvm.exec) (hb : c.code = cX4_changesOf) (hml : c.maxLocals = 4) (hown : s.vm.findClass RX4 = some m.cls) (hts : ∀ w ∈ ((.code yX4_changesOf cX4_changesOf 4 (some .int) :: wsGA) : List Cond), w.before args s = true) (hK : va_K (dC, dI) vwCl [(khb_, .int)] s) (hz : nzA s) (hRf : 1 ≤ R.frames) (hRl : 22 ≤ R.locals) (hRc : cells ≤ R.cells) (hRs : slots ≤ R.slots) (kr31 : ∀ (v : Int32) (H : Heap) (locs : List Loc) (ls : Array Slot), va_P (dC, dI) vwCl [(h0, .inr (4, [.ref si, .ref hb_, .int eras])), (hb_, .inl (khb_, 625, .inl fhb_))] H → va_S A s.heap H locs → lv_has ls 4 [] → W p l e R s m args below meth c H locs cells slots Q (F0 m 31 ls [.int v])) : ∀ z : Nat, (∀ (v2 : Int32) (v3 : Int32) (H : Heap) (locs : List Loc) (ls : Array Slot), gi v3 1 25 → 51 + (-2) * v3.toInt < (z : Int) → va_P (dC, dI) vwCl [(h0, .inr (4, [.ref si, .ref hb_, .int eras])), (hb_, .inl (khb_, 625, .inl fhb_))] H → va_S A s.heap H locs → lv_has ls 4 [(0, .ref h0), (1, .int p0), (2, .int v2), (3, .int v3)] → W p l e R s m args below meth c H locs cells slots Q (F0 m 4 ls [])) := by
  intro z
  induction z with
  | zero =>
    intro v2 v3 H locs ls gv3 hmu hP hS hl
    exact absurd hmu (by have hv31 := gv3.1; have hv32 := gv3.2; omega)
  | succ z ih =>
      intro v2 v3 H locs ls gv3 hmu hP hS hl
      refine lv_iload_n hx hb dX4_changesOf_4 rfl (lv_at hl 3 rfl) ?_
      refine lv_aload_n hx hb dX4_changesOf_5 rfl (lv_at hl 0 rfl) ?_
      refine va_get (D := (dC, dI)) (ci := 4) (v := .int eras) (C := RX4) (T := TX4) (N := 3) hx hb hts (fun w h => List.mem_cons_of_mem _ (jnGA_X4 w h)) hown hK hP 0 rfl rfl 2 (by decide) (hts _ (List.mem_cons_of_mem _ mGA_124)) (fun _ h9 => h9) rfl dX4_changesOf_6 ?_
      refine lv_icmp_ge (tgt := 30) hx hb dX4_changesOf_9 (by decide) (fun c_391 => ?_) (fun c_391 => ?_)
      · refine lv_iload_n hx hb dX4_changesOf_30 rfl (lv_at hl 2 rfl) ?_
        exact kr31 v2 _ _ _ hP hS (lv_sub hl [] rfl)
      · have g_392 : gi v3 1 24 := gi_lt_l (Int32.not_le.mp c_391) gv3 geras (by decide)
        have g_393 : gi eras 2 25 := gi_lt_r (Int32.not_le.mp c_391) gv3 geras (by decide)
        refine lv_aload_n hx hb dX4_changesOf_12 rfl (lv_at hl 0 rfl) ?_
        refine lv_iload_n hx hb dX4_changesOf_13 rfl (lv_at hl 3 rfl) ?_
        refine lv_iload_n hx hb dX4_changesOf_14 rfl (lv_at hl 1 rfl) ?_
        have hPc := hP.sub (ws' := [(h0, .inr (4, [.ref si, .ref hb_, .int eras])), (hb_, .inl (khb_, 625, .inl fhb_))]) [0, 1] rfl
        have hKc := hK.sub (tys' := [(khb_, .int)]) [0] rfl
        refine va_calli (va_runV (As := [.int v3, .int p0]) (rest := []) ⟨hx, hb, hml, hown, hts⟩ (sX4_changesAt l dC dI h0 hb_ si eras khb_ fhb_ v3 p0 (gi_w g_393 (by decide)) g_392 gp0) (cwV 2 hts (gz_gV mGA_723 mGA_724 mGA_725 mGA_35 mGA_726 goodGA) rfl rfl rfl (by decide +kernel) ⟨Nat.le_trans (Nat.le_of_ble_eq_true rfl) hRf, Nat.le_trans (Nat.le_of_ble_eq_true rfl) hRl⟩) ⟨bl_I (bl_a bl_P (bl_a bl_K bl_nz)), va_recv hKc hPc (ci := 4) (q0 := 0) rfl rfl, fun U hU hW => ⟨rfl, by rw [hU]; exact hPc, va_K.moved hW.alike hKc, nzA_warm hW hz⟩⟩ rfl rfl hl.1 rfl (lv_room (Nat.le_of_ble_eq_true rfl)) dX4_changesOf_15 ⟨hRc, hRs⟩) hS (fun q _ h => h.elim) (fun q h => h.elim) (fun r_394 u t H1 locs ht hvm hw hB hz1 hk1 hS => ?_)
        have hP := gz_keep hP hk1
        generalize H1 = H at hP hS ⊢
        have gr_394 : gi r_394 0 1 := hw
        refine lv_if_eq (tgt := 24) hx hb dX4_changesOf_18 (by decide) (fun c_395 => ?_) (fun c_395 => ?_)
        · have g_396 : gi r_394 0 0 := gi_eq c_395 (gi_c 0 0 (by decide))
          obtain ⟨x_397, ex_397⟩ : ∃ y : Int32, y = v3 + 1 := ⟨_, rfl⟩
          have gx_397 : gi x_397 2 25 := gi_add ex_397 g_392 (gi_c 1 1 (by decide)) (by decide)
          refine lv_iinc (v := x_397) (lv' := [(3, .int x_397), (0, .ref h0), (1, .int p0), (2, .int v2)]) hx hb dX4_changesOf_24 hl (k := 3) rfl (by rw [ex_397]; rfl) (by decide) rfl (fun ls hl => ?_)
          refine lv_goto (tgt := 4) hx hb dX4_changesOf_27 (by decide) ?_
          exact ih v2 x_397 _ _ _ (gi_w gx_397 (by decide)) (by have av3 := gv3.1; have bv3 := gv3.2; have qgx_397 := gx_397.1; have rgx_397 := gx_397.2; have igx_397 : x_397.toInt = v3.toInt + 1 := (by have hc1 : (1 : Int32).toInt = 1 := (by decide); have h9 := gi_addI ex_397 (by have h1 := g_392.1; have h2 := (gi_c 1 1 (by decide)).1; have h3 := g_392.2; have h4 := (gi_c 1 1 (by decide)).2; omega) (by have h1 := g_392.1; have h2 := (gi_c 1 1 (by decide)).1; have h3 := g_392.2; have h4 := (gi_c 1 1 (by decide)).2; omega); rw [hc1] at h9; exact h9); have qgv3 := g_392.1; have rgv3 := g_392.2; omega) hP hS (lv_sub hl [1, 2, 3, 0] rfl)
        · have g_398 : gi r_394 1 1 := gi_ne_lo c_395 gr_394 (gi_c 0 0 (by decide)) (by decide)
          obtain ⟨x_399, ex_399⟩ : ∃ y : Int32, y = v2 + 1 := ⟨_, rfl⟩
          refine lv_iinc (v := x_399) (lv' := [(2, .int x_399), (0, .ref h0), (1, .int p0), (3, .int v3)]) hx hb dX4_changesOf_21 hl (k := 2) rfl (by rw [ex_399]; rfl) (by decide) rfl (fun ls hl => ?_)
          obtain ⟨x_400, ex_400⟩ : ∃ y : Int32, y = v3 + 1 := ⟨_, rfl⟩
          have gx_400 : gi x_400 2 25 := gi_add ex_400 g_392 (gi_c 1 1 (by decide)) (by decide)
          refine lv_iinc (v := x_400) (lv' := [(3, .int x_400), (2, .int x_399), (0, .ref h0), (1, .int p0)]) hx hb dX4_changesOf_24 hl (k := 3) rfl (by rw [ex_400]; rfl) (by decide) rfl (fun ls hl => ?_)
          refine lv_goto (tgt := 4) hx hb dX4_changesOf_27 (by decide) ?_
          exact ih x_399 x_400 _ _ _ (gi_w gx_400 (by decide)) (by have av3 := gv3.1; have bv3 := gv3.2; have qgx_400 := gx_400.1; have rgx_400 := gx_400.2; have igx_400 : x_400.toInt = v3.toInt + 1 := (by have hc1 : (1 : Int32).toInt = 1 := (by decide); have h9 := gi_addI ex_400 (by have h1 := g_392.1; have h2 := (gi_c 1 1 (by decide)).1; have h3 := g_392.2; have h4 := (gi_c 1 1 (by decide)).2; omega) (by have h1 := g_392.1; have h2 := (gi_c 1 1 (by decide)).1; have h3 := g_392.2; have h4 := (gi_c 1 1 (by decide)).2; omega); rw [hc1] at h9; exact h9); have qgv3 := g_392.1; have rgv3 := g_392.2; omega) hP hS (lv_sub hl [2, 3, 1, 0] rfl)
set_option maxHeartbeats 4000000 in
set_option maxRecDepth 100000 in
theorem sX4_changesOf (l : Launch) (dC : Nat → ClassId) (dI : Nat → Nat → Nat) (h0 : Nat) (hb_ : Nat) (si : Nat) (eras : Int32) (khb_ : ClassId) (fhb_ : Nat → Int32) (p0 : Int32) (geras : gi eras 0 25) (gp0 : gi p0 0 24) : Met l yX4_changesOf (.code yX4_changesOf cX4_changesOf 4 (some .int) :: wsGA) ({ frames := 1, cells := 0, slots := 0, locals := 22 }) (va_Pc [.ref h0, .int p0] (fun U => va_P (dC, dI) vwCl [(h0, .inr (4, [.ref si, .ref hb_, .int eras])), (hb_, .inl (khb_, 625, .inl fhb_))] U.heap ∧ va_K (dC, dI) vwCl [(khb_, .int)] U ∧ nzA U)) (va_Qi (fun (r : Int32) (u : Unit) => gi r (-2147483648) 2147483647) (fun _ _ => True) (fun _ => False)) 0 0 (fun _ => False) := by
  refine Met.ofW (cc := cX4_changesOf) (maxL := 4) (ret := (some .int)) (by decide) rfl ?_
  intro p e s m args below meth c s₁ B hml hv
  obtain ⟨rfl, hP, hK, hz⟩ := hv
  have hx := B.exec
  have hb := B.bytes
  have hr := B.returns
  have hts := atoms_spec (ws := (.code yX4_changesOf cX4_changesOf 4 (some .int) :: wsGA)) B.pre
  have hown : s.vm.findClass RX4 = some m.cls := findClass_of_methodNamed B.named
  have hlocks := B.notSynchronized
  have hS : va_S (fun _ => False) s.heap s.heap [] := va_S.rf
  have hl := lv_entry ([.ref h0, .int p0]) (n := 4) (Nat.le_of_ble_eq_true rfl)
  rw [lg_entry_eq]
  generalize (lg_sl ([.ref h0, .int p0]) ++ List.replicate (4 - (lg_sl ([.ref h0, .int p0])).length) Slot.unset).toArray = ls at hl ⊢
  have hl : lv_has ls 4 [(0, .ref h0), (1, .int p0)] := hl
  refine lv_iconst (v := 0) hx hb dX4_changesOf_0 (by decide) ?_
  refine lv_istore_n (lv' := [(2, .int 0), (0, .ref h0), (1, .int p0)]) hx hb dX4_changesOf_1 rfl hl (by decide) rfl (fun ls hl => ?_)
  refine lv_iconst (v := 1) hx hb dX4_changesOf_2 (by decide) ?_
  refine lv_istore_n (lv' := [(3, .int 1), (2, .int 0), (0, .ref h0), (1, .int p0)]) hx hb dX4_changesOf_3 rfl hl (by decide) rfl (fun ls hl => ?_)
  refine (lp_sX4_changesOf h0 hb_ si eras khb_ fhb_ p0 geras gp0 hx hb hml hown hts hK hz (Nat.le_of_ble_eq_true rfl) (Nat.le_of_ble_eq_true rfl) (Nat.zero_le _) (Nat.zero_le _) (fun v H locs ls hP hS hl => ?_) 62) 0 1 _ _ _ (gi_w (gi_c 1 1 (by decide)) (by decide)) (by have k1 : (1 : Int32).toInt = 1 := (by decide); omega) hP hS (lv_sub hl [2, 3, 1, 0] rfl)
  · skip
    exact W.iret (v := v) hx hb hr (fun t ht hW => ⟨⟨v, (), rfl, (gi_any v), trivial⟩, hS.F ht⟩) hS.2.2 dX4_changesOf_31
theorem dX4_lastChangeOf_0 : decode cX4_lastChangeOf 0 = .ok (.aload_n 0, 1) := by decide +kernel
theorem dX4_lastChangeOf_1 : decode cX4_lastChangeOf 1 = .ok (.getfield 18, 3) := by decide +kernel
theorem dX4_lastChangeOf_4 : decode cX4_lastChangeOf 4 = .ok (.iconst 1, 1) := by decide +kernel
theorem dX4_lastChangeOf_5 : decode cX4_lastChangeOf 5 = .ok (.isub, 1) := by decide +kernel
theorem dX4_lastChangeOf_6 : decode cX4_lastChangeOf 6 = .ok (.istore_n 2, 1) := by decide +kernel
theorem dX4_lastChangeOf_7 : decode cX4_lastChangeOf 7 = .ok (.iload_n 2, 1) := by decide +kernel
theorem dX4_lastChangeOf_8 : decode cX4_lastChangeOf 8 = .ok (.iconst 1, 1) := by decide +kernel
theorem dX4_lastChangeOf_9 : decode cX4_lastChangeOf 9 = .ok (.if_icmp .lt 25, 3) := by decide +kernel
theorem dX4_lastChangeOf_12 : decode cX4_lastChangeOf 12 = .ok (.aload_n 0, 1) := by decide +kernel
theorem dX4_lastChangeOf_13 : decode cX4_lastChangeOf 13 = .ok (.iload_n 2, 1) := by decide +kernel
theorem dX4_lastChangeOf_14 : decode cX4_lastChangeOf 14 = .ok (.iload_n 1, 1) := by decide +kernel
theorem dX4_lastChangeOf_15 : decode cX4_lastChangeOf 15 = .ok (.invokevirtual 41, 3) := by decide +kernel
theorem dX4_lastChangeOf_18 : decode cX4_lastChangeOf 18 = .ok (.ifCond .eq 10, 3) := by decide +kernel
theorem dX4_lastChangeOf_21 : decode cX4_lastChangeOf 21 = .ok (.aload_n 0, 1) := by decide +kernel
theorem dX4_lastChangeOf_22 : decode cX4_lastChangeOf 22 = .ok (.getfield 11, 3) := by decide +kernel
theorem dX4_lastChangeOf_25 : decode cX4_lastChangeOf 25 = .ok (.iload_n 2, 1) := by decide +kernel
theorem dX4_lastChangeOf_26 : decode cX4_lastChangeOf 26 = .ok (.iaload, 1) := by decide +kernel
theorem dX4_lastChangeOf_27 : decode cX4_lastChangeOf 27 = .ok (.ireturn, 1) := by decide +kernel
theorem dX4_lastChangeOf_28 : decode cX4_lastChangeOf 28 = .ok (.iinc 2 (-1), 3) := by decide +kernel
theorem dX4_lastChangeOf_31 : decode cX4_lastChangeOf 31 = .ok (.goto (-24), 3) := by decide +kernel
theorem dX4_lastChangeOf_34 : decode cX4_lastChangeOf 34 = .ok (.iconst 0, 1) := by decide +kernel
theorem dX4_lastChangeOf_35 : decode cX4_lastChangeOf 35 = .ok (.ireturn, 1) := by decide +kernel
set_option maxHeartbeats 4000000 in
set_option maxRecDepth 100000 in
theorem lp_sX4_lastChangeOf {p : Program} {l : Launch} {e : Env} {R : Room} {s : State} {m : MethodId} {args : Array Value} {below : List Frame} {meth : Method} {c : Code} {Q : State → Prop} {A : Nat → Prop} {cells slots : Nat} {dC : Nat → ClassId} {dI : Nat → Nat → Nat} (h0 : Nat) (si : Nat) (hb_ : Nat) (eras : Int32) (ksi : ClassId) (fsi : Nat → Int32) (khb_ : ClassId) (fhb_ : Nat → Int32) (p0 : Int32) (geras : gi eras 0 25) (gp0 : gi p0 0 24) (hx : p.tables.exec = Jvm.exec) (hb : c.code = cX4_lastChangeOf) (hml : c.maxLocals = 3) (hown : s.vm.findClass RX4 = some m.cls) (hts : ∀ w ∈ ((.code yX4_lastChangeOf cX4_lastChangeOf 3 (some .int) :: wsGA) : List Cond), w.before args s = true) (hK : va_K (dC, dI) vwCl [(ksi, .int), (khb_, .int)] s) (hz : nzA s) (hRf : 1 ≤ R.frames) (hRl : 22 ≤ R.locals) (hRc : cells ≤ R.cells) (hRs : slots ≤ R.slots) (kr35 : ∀ (v : Int32) (H : Heap) (locs : List Loc) (ls : Array Slot), gi v 0 0 → va_P (dC, dI) vwCl [(h0, .inr (4, [.ref si, .ref hb_, .int eras])), (si, .inl (ksi, 25, .inl fsi)), (hb_, .inl (khb_, 625, .inl fhb_))] H → va_S A s.heap H locs → lv_has ls 3 [] → W p l e R s m args below meth c H locs cells slots Q (F0 m 35 ls [.int v])) (kr27 : ∀ (v : Int32) (H : Heap) (locs : List Loc) (ls : Array Slot), va_P (dC, dI) vwCl [(h0, .inr (4, [.ref si, .ref hb_, .int eras])), (si, .inl (ksi, 25, .inl fsi)), (hb_, .inl (khb_, 625, .inl fhb_))] H → va_S A s.heap H locs → lv_has ls 3 [] → W p l e R s m args below meth c H locs cells slots Q (F0 m 27 ls [.int v])) : ∀ z : Nat, (∀ (v2 : Int32) (H : Heap) (locs : List Loc) (ls : Array Slot), gi v2 (-1) 24 → 3 + 2 * v2.toInt < (z : Int) → va_P (dC, dI) vwCl [(h0, .inr (4, [.ref si, .ref hb_, .int eras])), (si, .inl (ksi, 25, .inl fsi)), (hb_, .inl (khb_, 625, .inl fhb_))] H → va_S A s.heap H locs → lv_has ls 3 [(0, .ref h0), (1, .int p0), (2, .int v2)] → W p l e R s m args below meth c H locs cells slots Q (F0 m 7 ls [])) := by
  intro z
  induction z with
  | zero =>
    intro v2 H locs ls gv2 hmu hP hS hl
    exact absurd hmu (by have hv21 := gv2.1; have hv22 := gv2.2; omega)
  | succ z ih =>
      intro v2 H locs ls gv2 hmu hP hS hl
      refine lv_iload_n hx hb dX4_lastChangeOf_7 rfl (lv_at hl 2 rfl) ?_
      refine lv_iconst (v := 1) hx hb dX4_lastChangeOf_8 (by decide) ?_
      refine lv_icmp_lt (tgt := 34) hx hb dX4_lastChangeOf_9 (by decide) (fun c_21 => ?_) (fun c_21 => ?_)
      · have g_22 : gi v2 (-1) 0 := gi_lt_l c_21 gv2 (gi_c 1 1 (by decide)) (by decide)
        refine lv_iconst (v := 0) hx hb dX4_lastChangeOf_34 (by decide) ?_
        exact kr35 0 _ _ _ (gi_c 0 0 (by decide)) hP hS (lv_sub hl [] rfl)
      · have g_23 : gi v2 1 24 := gi_le_r (Int32.not_lt.mp c_21) (gi_c 1 1 (by decide)) gv2
        refine lv_aload_n hx hb dX4_lastChangeOf_12 rfl (lv_at hl 0 rfl) ?_
        refine lv_iload_n hx hb dX4_lastChangeOf_13 rfl (lv_at hl 2 rfl) ?_
        refine lv_iload_n hx hb dX4_lastChangeOf_14 rfl (lv_at hl 1 rfl) ?_
        have hPc := hP.sub (ws' := [(h0, .inr (4, [.ref si, .ref hb_, .int eras])), (hb_, .inl (khb_, 625, .inl fhb_))]) [0, 2] rfl
        have hKc := hK.sub (tys' := [(khb_, .int)]) [1] rfl
        refine va_calli (va_runV (As := [.int v2, .int p0]) (rest := []) ⟨hx, hb, hml, hown, hts⟩ (sX4_changesAt l dC dI h0 hb_ si eras khb_ fhb_ v2 p0 geras g_23 gp0) (cwV 2 hts (gz_gV mGA_723 mGA_724 mGA_725 mGA_35 mGA_726 goodGA) rfl rfl rfl (by decide +kernel) ⟨Nat.le_trans (Nat.le_of_ble_eq_true rfl) hRf, Nat.le_trans (Nat.le_of_ble_eq_true rfl) hRl⟩) ⟨bl_I (bl_a bl_P (bl_a bl_K bl_nz)), va_recv hKc hPc (ci := 4) (q0 := 0) rfl rfl, fun U hU hW => ⟨rfl, by rw [hU]; exact hPc, va_K.moved hW.alike hKc, nzA_warm hW hz⟩⟩ rfl rfl hl.1 rfl (lv_room (Nat.le_of_ble_eq_true rfl)) dX4_lastChangeOf_15 ⟨hRc, hRs⟩) hS (fun q _ h => h.elim) (fun q h => h.elim) (fun r_24 u t H1 locs ht hvm hw hB hz1 hk1 hS => ?_)
        have hP := gz_keep hP hk1
        generalize H1 = H at hP hS ⊢
        have gr_24 : gi r_24 0 1 := hw
        refine lv_if_eq (tgt := 28) hx hb dX4_lastChangeOf_18 (by decide) (fun c_25 => ?_) (fun c_25 => ?_)
        · have g_26 : gi r_24 0 0 := gi_eq c_25 (gi_c 0 0 (by decide))
          obtain ⟨x_27, ex_27⟩ : ∃ y : Int32, y = v2 + (-1) := ⟨_, rfl⟩
          have gx_27 : gi x_27 0 23 := gi_add ex_27 g_23 (gi_c (-1) (-1) (by decide)) (by decide)
          refine lv_iinc (v := x_27) (lv' := [(2, .int x_27), (0, .ref h0), (1, .int p0)]) hx hb dX4_lastChangeOf_28 hl (k := 2) rfl (by rw [ex_27]; rfl) (by decide) rfl (fun ls hl => ?_)
          refine lv_goto (tgt := 7) hx hb dX4_lastChangeOf_31 (by decide) ?_
          exact ih x_27 _ _ _ (gi_w gx_27 (by decide)) (by have av2 := gv2.1; have bv2 := gv2.2; have qgx_27 := gx_27.1; have rgx_27 := gx_27.2; have igx_27 : x_27.toInt = v2.toInt + (-1) := (by have hcm1 : ((-1) : Int32).toInt = (-1) := (by decide); have h9 := gi_addI ex_27 (by have h1 := g_23.1; have h2 := (gi_c (-1) (-1) (by decide)).1; have h3 := g_23.2; have h4 := (gi_c (-1) (-1) (by decide)).2; omega) (by have h1 := g_23.1; have h2 := (gi_c (-1) (-1) (by decide)).1; have h3 := g_23.2; have h4 := (gi_c (-1) (-1) (by decide)).2; omega); rw [hcm1] at h9; exact h9); have qgv2 := g_23.1; have rgv2 := g_23.2; omega) hP hS (lv_sub hl [1, 2, 0] rfl)
        · have g_28 : gi r_24 1 1 := gi_ne_lo c_25 gr_24 (gi_c 0 0 (by decide)) (by decide)
          refine lv_aload_n hx hb dX4_lastChangeOf_21 rfl (lv_at hl 0 rfl) ?_
          refine va_get (D := (dC, dI)) (ci := 4) (v := .ref si) (C := RX4) (T := TX4) (N := 3) hx hb hts (fun w h => List.mem_cons_of_mem _ (jnGA_X4 w h)) hown hK hP 0 rfl rfl 0 (by decide) (hts _ (List.mem_cons_of_mem _ mGA_122)) (fun _ h9 => h9) rfl dX4_lastChangeOf_22 ?_
          refine lv_iload_n hx hb dX4_lastChangeOf_25 rfl (lv_at hl 2 rfl) ?_
          refine va_iald hx hb hK hP 1 0 rfl rfl (gi_in g_23 (by decide)) dX4_lastChangeOf_26 ?_
          refine lv_topi (fun x_29 ex_29 => ?_)
          exact kr27 x_29 _ _ _ hP hS (lv_sub hl [] rfl)
set_option maxHeartbeats 4000000 in
set_option maxRecDepth 100000 in
theorem sX4_lastChangeOf (l : Launch) (dC : Nat → ClassId) (dI : Nat → Nat → Nat) (h0 : Nat) (si : Nat) (hb_ : Nat) (eras : Int32) (ksi : ClassId) (fsi : Nat → Int32) (khb_ : ClassId) (fhb_ : Nat → Int32) (p0 : Int32) (geras : gi eras 0 25) (gp0 : gi p0 0 24) : Met l yX4_lastChangeOf (.code yX4_lastChangeOf cX4_lastChangeOf 3 (some .int) :: wsGA) ({ frames := 1, cells := 0, slots := 0, locals := 22 }) (va_Pc [.ref h0, .int p0] (fun U => va_P (dC, dI) vwCl [(h0, .inr (4, [.ref si, .ref hb_, .int eras])), (si, .inl (ksi, 25, .inl fsi)), (hb_, .inl (khb_, 625, .inl fhb_))] U.heap ∧ va_K (dC, dI) vwCl [(ksi, .int), (khb_, .int)] U ∧ nzA U)) (va_Qi (fun (r : Int32) (u : Unit) => gi r (-2147483648) 2147483647) (fun _ _ => True) (fun _ => False)) 0 0 (fun _ => False) := by
  refine Met.ofW (cc := cX4_lastChangeOf) (maxL := 3) (ret := (some .int)) (by decide) rfl ?_
  intro p e s m args below meth c s₁ B hml hv
  obtain ⟨rfl, hP, hK, hz⟩ := hv
  have hx := B.exec
  have hb := B.bytes
  have hr := B.returns
  have hts := atoms_spec (ws := (.code yX4_lastChangeOf cX4_lastChangeOf 3 (some .int) :: wsGA)) B.pre
  have hown : s.vm.findClass RX4 = some m.cls := findClass_of_methodNamed B.named
  have hlocks := B.notSynchronized
  have hS : va_S (fun _ => False) s.heap s.heap [] := va_S.rf
  have hl := lv_entry ([.ref h0, .int p0]) (n := 3) (Nat.le_of_ble_eq_true rfl)
  rw [lg_entry_eq]
  generalize (lg_sl ([.ref h0, .int p0]) ++ List.replicate (3 - (lg_sl ([.ref h0, .int p0])).length) Slot.unset).toArray = ls at hl ⊢
  have hl : lv_has ls 3 [(0, .ref h0), (1, .int p0)] := hl
  refine lv_aload_n hx hb dX4_lastChangeOf_0 rfl (lv_at hl 0 rfl) ?_
  refine va_get (D := (dC, dI)) (ci := 4) (v := .int eras) (C := RX4) (T := TX4) (N := 3) hx hb hts (fun w h => List.mem_cons_of_mem _ (jnGA_X4 w h)) hown hK hP 0 rfl rfl 2 (by decide) (hts _ (List.mem_cons_of_mem _ mGA_124)) (fun _ h9 => h9) rfl dX4_lastChangeOf_1 ?_
  refine lv_iconst (v := 1) hx hb dX4_lastChangeOf_4 (by decide) ?_
  refine lv_isub hx hb dX4_lastChangeOf_5 ?_
  refine lv_topi (fun x_30 ex_30 => ?_)
  have gx_30 : gi x_30 (-1) 24 := gi_sub ex_30 geras (gi_c 1 1 (by decide)) (by decide)
  refine lv_istore_n (lv' := [(2, .int x_30), (0, .ref h0), (1, .int p0)]) hx hb dX4_lastChangeOf_6 rfl hl (by decide) rfl (fun ls hl => ?_)
  refine (lp_sX4_lastChangeOf h0 si hb_ eras ksi fsi khb_ fhb_ p0 geras gp0 hx hb hml hown hts hK hz (Nat.le_of_ble_eq_true rfl) (Nat.le_of_ble_eq_true rfl) (Nat.zero_le _) (Nat.zero_le _) (fun v H locs ls gv hP hS hl => ?_) (fun v H locs ls hP hS hl => ?_) 64) x_30 _ _ _ gx_30 (by have qgx_30 := gx_30.1; have rgx_30 := gx_30.2; have igx_30 : x_30.toInt = eras.toInt - 1 := (by have hc1 : (1 : Int32).toInt = 1 := (by decide); have h9 := gi_subI ex_30 (by have h1 := geras.1; have h2 := (gi_c 1 1 (by decide)).1; have h3 := geras.2; have h4 := (gi_c 1 1 (by decide)).2; omega) (by have h1 := geras.1; have h2 := (gi_c 1 1 (by decide)).1; have h3 := geras.2; have h4 := (gi_c 1 1 (by decide)).2; omega); rw [hc1] at h9; exact h9); have qgeras := geras.1; have rgeras := geras.2; omega) hP hS (lv_sub hl [1, 2, 0] rfl)
  · skip
    exact W.iret (v := v) hx hb hr (fun t ht hW => ⟨⟨v, (), rfl, (gi_any v), trivial⟩, hS.F ht⟩) hS.2.2 dX4_lastChangeOf_35
  · skip
    exact W.iret (v := v) hx hb hr (fun t ht hW => ⟨⟨v, (), rfl, (gi_any v), trivial⟩, hS.F ht⟩) hS.2.2 dX4_lastChangeOf_27
theorem dX1_lengthOf_0 : decode cX1_lengthOf 0 = .ok (.aload_n 0, 1) := by decide +kernel
theorem dX1_lengthOf_1 : decode cX1_lengthOf 1 = .ok (.getfield 29, 3) := by decide +kernel
theorem dX1_lengthOf_4 : decode cX1_lengthOf 4 = .ok (.iload_n 1, 1) := by decide +kernel
theorem dX1_lengthOf_5 : decode cX1_lengthOf 5 = .ok (.iconst 1, 1) := by decide +kernel
theorem dX1_lengthOf_6 : decode cX1_lengthOf 6 = .ok (.iadd, 1) := by decide +kernel
theorem dX1_lengthOf_7 : decode cX1_lengthOf 7 = .ok (.iaload, 1) := by decide +kernel
theorem dX1_lengthOf_8 : decode cX1_lengthOf 8 = .ok (.aload_n 0, 1) := by decide +kernel
theorem dX1_lengthOf_9 : decode cX1_lengthOf 9 = .ok (.getfield 29, 3) := by decide +kernel
theorem dX1_lengthOf_12 : decode cX1_lengthOf 12 = .ok (.iload_n 1, 1) := by decide +kernel
theorem dX1_lengthOf_13 : decode cX1_lengthOf 13 = .ok (.iaload, 1) := by decide +kernel
theorem dX1_lengthOf_14 : decode cX1_lengthOf 14 = .ok (.isub, 1) := by decide +kernel
theorem dX1_lengthOf_15 : decode cX1_lengthOf 15 = .ok (.ireturn, 1) := by decide +kernel
set_option maxHeartbeats 4000000 in
set_option maxRecDepth 100000 in
theorem sX1_lengthOf (l : Launch) (dC : Nat → ClassId) (dI : Nat → Nat → Nat) (h0 : Nat) (cb : Nat) (frame : Nat) (verdicts : Nat) (queue : Nat) (turns : Nat) (queueLength : Int32) (takenBits : Int32) (kcb : ClassId) (fcb : Nat → Int32) (p0 : Int32) (gqueueLength : gi queueLength 0 24) (gp0 : gi p0 0 23) : Met l yX1_lengthOf (.code yX1_lengthOf cX1_lengthOf 2 (some .int) :: wsGA) ({ frames := 0, cells := 0, slots := 0, locals := 0 }) (va_Pc [.ref h0, .int p0] (fun U => va_P (dC, dI) vwCl [(h0, .inr (1, [.ref frame, .ref verdicts, .ref queue, .ref turns, .ref cb, .int queueLength, .int takenBits])), (cb, .inl (kcb, 25, .inl fcb))] U.heap ∧ va_K (dC, dI) vwCl [(kcb, .int)] U ∧ nzA U)) (va_Qi (fun (r : Int32) (u : Unit) => gi r (-2147483648) 2147483647) (fun _ _ => True) (fun _ => False)) 0 0 (fun _ => False) := by
  refine Met.ofW (cc := cX1_lengthOf) (maxL := 2) (ret := (some .int)) (by decide) rfl ?_
  intro p e s m args below meth c s₁ B hml hv
  obtain ⟨rfl, hP, hK, hz⟩ := hv
  have hx := B.exec
  have hb := B.bytes
  have hr := B.returns
  have hts := atoms_spec (ws := (.code yX1_lengthOf cX1_lengthOf 2 (some .int) :: wsGA)) B.pre
  have hown : s.vm.findClass RX1 = some m.cls := findClass_of_methodNamed B.named
  have hlocks := B.notSynchronized
  have hS : va_S (fun _ => False) s.heap s.heap [] := va_S.rf
  have hl := lv_entry ([.ref h0, .int p0]) (n := 2) (Nat.le_of_ble_eq_true rfl)
  rw [lg_entry_eq]
  generalize (lg_sl ([.ref h0, .int p0]) ++ List.replicate (2 - (lg_sl ([.ref h0, .int p0])).length) Slot.unset).toArray = ls at hl ⊢
  have hl : lv_has ls 2 [(0, .ref h0), (1, .int p0)] := hl
  refine lv_aload_n hx hb dX1_lengthOf_0 rfl (lv_at hl 0 rfl) ?_
  refine va_get (D := (dC, dI)) (ci := 1) (v := .ref cb) (C := RX1) (T := TX1) (N := 7) hx hb hts (fun w h => List.mem_cons_of_mem _ (jnGA_X1 w h)) hown hK hP 0 rfl rfl 4 (by decide) (hts _ (List.mem_cons_of_mem _ mGA_105)) (fun _ h9 => h9) rfl dX1_lengthOf_1 ?_
  refine lv_iload_n hx hb dX1_lengthOf_4 rfl (lv_at hl 1 rfl) ?_
  refine lv_iconst (v := 1) hx hb dX1_lengthOf_5 (by decide) ?_
  refine lv_iadd hx hb dX1_lengthOf_6 ?_
  refine lv_topi (fun x_5 ex_5 => ?_)
  have gx_5 : gi x_5 1 24 := gi_add ex_5 gp0 (gi_c 1 1 (by decide)) (by decide)
  refine va_iald hx hb hK hP 1 0 rfl rfl (gi_in gx_5 (by decide)) dX1_lengthOf_7 ?_
  refine lv_topi (fun x_6 ex_6 => ?_)
  refine lv_aload_n hx hb dX1_lengthOf_8 rfl (lv_at hl 0 rfl) ?_
  refine va_get (D := (dC, dI)) (ci := 1) (v := .ref cb) (C := RX1) (T := TX1) (N := 7) hx hb hts (fun w h => List.mem_cons_of_mem _ (jnGA_X1 w h)) hown hK hP 0 rfl rfl 4 (by decide) (hts _ (List.mem_cons_of_mem _ mGA_105)) (fun _ h9 => h9) rfl dX1_lengthOf_9 ?_
  refine lv_iload_n hx hb dX1_lengthOf_12 rfl (lv_at hl 1 rfl) ?_
  refine va_iald hx hb hK hP 1 0 rfl rfl (gi_in gp0 (by decide)) dX1_lengthOf_13 ?_
  refine lv_topi (fun x_7 ex_7 => ?_)
  refine lv_isub hx hb dX1_lengthOf_14 ?_
  refine lv_topi (fun x_8 ex_8 => ?_)
  exact W.iret (v := x_8) hx hb hr (fun t ht hW => ⟨⟨x_8, (), rfl, (gi_any x_8), trivial⟩, hS.F ht⟩) hS.2.2 dX1_lengthOf_15
theorem dX0_wipe_0 : decode cX0_wipe 0 = .ok (.aload_n 0, 1) := by decide +kernel
theorem dX0_wipe_1 : decode cX0_wipe 1 = .ok (.iconst 0, 1) := by decide +kernel
theorem dX0_wipe_2 : decode cX0_wipe 2 = .ok (.putfield 32, 3) := by decide +kernel
theorem dX0_wipe_5 : decode cX0_wipe 5 = .ok (.aload_n 0, 1) := by decide +kernel
theorem dX0_wipe_6 : decode cX0_wipe 6 = .ok (.iconst 0, 1) := by decide +kernel
theorem dX0_wipe_7 : decode cX0_wipe 7 = .ok (.putfield 36, 3) := by decide +kernel
theorem dX0_wipe_10 : decode cX0_wipe 10 = .ok (.aload_n 0, 1) := by decide +kernel
theorem dX0_wipe_11 : decode cX0_wipe 11 = .ok (.iconst 0, 1) := by decide +kernel
theorem dX0_wipe_12 : decode cX0_wipe 12 = .ok (.putfield 39, 3) := by decide +kernel
theorem dX0_wipe_15 : decode cX0_wipe 15 = .ok (.aload_n 0, 1) := by decide +kernel
theorem dX0_wipe_16 : decode cX0_wipe 16 = .ok (.iconst 0, 1) := by decide +kernel
theorem dX0_wipe_17 : decode cX0_wipe 17 = .ok (.putfield 42, 3) := by decide +kernel
theorem dX0_wipe_20 : decode cX0_wipe 20 = .ok (.aload_n 0, 1) := by decide +kernel
theorem dX0_wipe_21 : decode cX0_wipe 21 = .ok (.iconst 0, 1) := by decide +kernel
theorem dX0_wipe_22 : decode cX0_wipe 22 = .ok (.putfield 45, 3) := by decide +kernel
theorem dX0_wipe_25 : decode cX0_wipe 25 = .ok (.aload_n 0, 1) := by decide +kernel
theorem dX0_wipe_26 : decode cX0_wipe 26 = .ok (.iconst 0, 1) := by decide +kernel
theorem dX0_wipe_27 : decode cX0_wipe 27 = .ok (.putfield 49, 3) := by decide +kernel
theorem dX0_wipe_30 : decode cX0_wipe 30 = .ok (.aload_n 0, 1) := by decide +kernel
theorem dX0_wipe_31 : decode cX0_wipe 31 = .ok (.iconst 0, 1) := by decide +kernel
theorem dX0_wipe_32 : decode cX0_wipe 32 = .ok (.putfield 52, 3) := by decide +kernel
theorem dX0_wipe_35 : decode cX0_wipe 35 = .ok (.aload_n 0, 1) := by decide +kernel
theorem dX0_wipe_36 : decode cX0_wipe 36 = .ok (.iconst 0, 1) := by decide +kernel
theorem dX0_wipe_37 : decode cX0_wipe 37 = .ok (.putfield 55, 3) := by decide +kernel
theorem dX0_wipe_40 : decode cX0_wipe 40 = .ok (.aload_n 0, 1) := by decide +kernel
theorem dX0_wipe_41 : decode cX0_wipe 41 = .ok (.iconst 0, 1) := by decide +kernel
theorem dX0_wipe_42 : decode cX0_wipe 42 = .ok (.putfield 58, 3) := by decide +kernel
theorem dX0_wipe_45 : decode cX0_wipe 45 = .ok (.aload_n 0, 1) := by decide +kernel
theorem dX0_wipe_46 : decode cX0_wipe 46 = .ok (.iconst 0, 1) := by decide +kernel
theorem dX0_wipe_47 : decode cX0_wipe 47 = .ok (.putfield 61, 3) := by decide +kernel
theorem dX0_wipe_50 : decode cX0_wipe 50 = .ok (.return_, 1) := by decide +kernel
noncomputable def fX0_wipe : Int32 × Int32 × Int32 × Int32 × Int32 × Int32 × Int32 × Int32 × Int32 × Int32 := ((0 : Int32), (0 : Int32), (0 : Int32), (0 : Int32), (0 : Int32), (0 : Int32), (0 : Int32), (0 : Int32), (0 : Int32), (0 : Int32))
abbrev pb_sX0_wipe (dC : Nat → ClassId) (dI : Nat → Nat → Nat) (A9 : Nat → Prop) (h0 : Nat) (months : Int32) (full : Int32) (lean : Int32) (lines : Int32) (hasMoon : Int32) (moonStart : Int32) (moonStep : Int32) (placeCount : Int32) (reportCount : Int32) (deedCount : Int32) (places : Nat) (reports : Nat) (deeds : Nat) (w0_0 : Int32) (w0_1 : Int32) (w0_2 : Int32) (w0_3 : Int32) (w0_4 : Int32) (w0_5 : Int32) (w0_6 : Int32) (w0_7 : Int32) (w0_8 : Int32) (w0_9 : Int32) (t : State) : Prop := gi w0_0 0 24 ∧ gi w0_1 0 5 ∧ gi w0_2 0 5 ∧ gi w0_4 0 1 ∧ gi w0_7 0 6 ∧ gi w0_8 0 24 ∧ gi w0_9 0 8 ∧ (w0_0, w0_1, w0_2, w0_3, w0_4, w0_5, w0_6, w0_7, w0_8, w0_9) = fX0_wipe ∧ va_P (dC, dI) vwCl [(h0, .inr (0, [.int w0_0, .int w0_1, .int w0_2, .int w0_3, .int w0_4, .int w0_5, .int w0_6, .int w0_7, .int w0_8, .int w0_9, .ref places, .ref reports, .ref deeds]))] t.heap ∧ va_D A9 [(h0, .inr (0, [.int w0_0, .int w0_1, .int w0_2, .int w0_3, .int w0_4, .int w0_5, .int w0_6, .int w0_7, .int w0_8, .int w0_9, .ref places, .ref reports, .ref deeds]))]
set_option maxHeartbeats 4000000 in
set_option maxRecDepth 100000 in
theorem sX0_wipe (l : Launch) (dC : Nat → ClassId) (dI : Nat → Nat → Nat) (sz : Nat) (h0 : Nat) (months : Int32) (full : Int32) (lean : Int32) (lines : Int32) (hasMoon : Int32) (moonStart : Int32) (moonStep : Int32) (placeCount : Int32) (reportCount : Int32) (deedCount : Int32) (places : Nat) (reports : Nat) (deeds : Nat) (gmonths : gi months 0 24) (gfull : gi full 0 5) (glean : gi lean 0 5) (ghasMoon : gi hasMoon 0 1) (gplaceCount : gi placeCount 0 6) (greportCount : gi reportCount 0 24) (gdeedCount : gi deedCount 0 8) : Met l yX0_wipe (.code yX0_wipe cX0_wipe 1 none :: wsGA) ({ frames := 0, cells := 0, slots := 0, locals := 0 }) (va_Pc [.ref h0] (fun U => U.heap.size = sz ∧ va_P (dC, dI) vwCl [(h0, .inr (0, [.int months, .int full, .int lean, .int lines, .int hasMoon, .int moonStart, .int moonStep, .int placeCount, .int reportCount, .int deedCount, .ref places, .ref reports, .ref deeds]))] U.heap ∧ va_K (dC, dI) vwCl [] U ∧ va_D (fun _ => True) [(h0, .inr (0, [.int months, .int full, .int lean, .int lines, .int hasMoon, .int moonStart, .int moonStep, .int placeCount, .int reportCount, .int deedCount, .ref places, .ref reports, .ref deeds]))] ∧ nzA U)) (va_Qv (fun (u : Unit) => True) (fun _ t => ∃ (w0_0 : Int32) (w0_1 : Int32) (w0_2 : Int32) (w0_3 : Int32) (w0_4 : Int32) (w0_5 : Int32) (w0_6 : Int32) (w0_7 : Int32) (w0_8 : Int32) (w0_9 : Int32), pb_sX0_wipe dC dI (va_A [(h0, .inr (0, [.int months, .int full, .int lean, .int lines, .int hasMoon, .int moonStart, .int moonStep, .int placeCount, .int reportCount, .int deedCount, .ref places, .ref reports, .ref deeds]))] sz) h0 months full lean lines hasMoon moonStart moonStep placeCount reportCount deedCount places reports deeds w0_0 w0_1 w0_2 w0_3 w0_4 w0_5 w0_6 w0_7 w0_8 w0_9 t) (va_A [(h0, .inr (0, [.int months, .int full, .int lean, .int lines, .int hasMoon, .int moonStart, .int moonStep, .int placeCount, .int reportCount, .int deedCount, .ref places, .ref reports, .ref deeds]))] sz)) 0 0 (va_A [(h0, .inr (0, [.int months, .int full, .int lean, .int lines, .int hasMoon, .int moonStart, .int moonStep, .int placeCount, .int reportCount, .int deedCount, .ref places, .ref reports, .ref deeds]))] sz) := by
  refine Met.ofW (cc := cX0_wipe) (maxL := 1) (ret := none) (by decide) rfl ?_
  intro p e s m args below meth c s₁ B hml hv
  obtain ⟨rfl, hsz, hP, hK, hD0, hz⟩ := hv
  have hx := B.exec
  have hb := B.bytes
  have hr := B.returns
  have hts := atoms_spec (ws := (.code yX0_wipe cX0_wipe 1 none :: wsGA)) B.pre
  have hown : s.vm.findClass RX0 = some m.cls := findClass_of_methodNamed B.named
  have hlocks := B.notSynchronized
  subst hsz
  have hD := hD0.self (sz := s.heap.size)
  generalize hAe : va_A [(h0, .inr (0, [.int months, .int full, .int lean, .int lines, .int hasMoon, .int moonStart, .int moonStep, .int placeCount, .int reportCount, .int deedCount, .ref places, .ref reports, .ref deeds]))] s.heap.size = A at hD ⊢
  have hA : ∀ q : Nat, s.heap.size ≤ q → A q := fun q h => by rw [← hAe]; exact Or.inr h
  have hS : va_S A s.heap s.heap [] := va_S.rf
  have hl := lv_entry ([.ref h0]) (n := 1) (Nat.le_of_ble_eq_true rfl)
  rw [lg_entry_eq]
  generalize (lg_sl ([.ref h0]) ++ List.replicate (1 - (lg_sl ([.ref h0])).length) Slot.unset).toArray = ls at hl ⊢
  have hl : lv_has ls 1 [(0, .ref h0)] := hl
  obtain ⟨RES, hF⟩ : ∃ R9, fX0_wipe = R9 := ⟨_, rfl⟩
  have hR9 := hF
  refine lv_aload_n hx hb dX0_wipe_0 rfl (lv_at hl 0 rfl) ?_
  refine lv_iconst (v := 0) hx hb dX0_wipe_1 (by decide) ?_
  refine va_put (D := (dC, dI)) (ci := 0) (v := .int 0) (ty := .int) (C := RX0) (T := TX0) (N := 13) hx hb hts (fun w h => List.mem_cons_of_mem _ (jnGA_X0 w h)) tyX0 tyX0_ok nmX0 hown hK hP hD hS 0 rfl rfl 0 (by decide) (hts _ (List.mem_cons_of_mem _ mGA_152)) (fun _ h9 => h9) rfl (by decide +kernel) rfl rfl (Nat.le_of_ble_eq_true rfl) dX0_wipe_2 (fun H locs hP hD hS => ?_)
  have hP : va_P (dC, dI) vwCl [(h0, .inr (0, [.int 0, .int full, .int lean, .int lines, .int hasMoon, .int moonStart, .int moonStep, .int placeCount, .int reportCount, .int deedCount, .ref places, .ref reports, .ref deeds]))] H := hP
  have hD : va_D A [(h0, .inr (0, [.int 0, .int full, .int lean, .int lines, .int hasMoon, .int moonStart, .int moonStep, .int placeCount, .int reportCount, .int deedCount, .ref places, .ref reports, .ref deeds]))] := hD
  refine lv_aload_n hx hb dX0_wipe_5 rfl (lv_at hl 0 rfl) ?_
  refine lv_iconst (v := 0) hx hb dX0_wipe_6 (by decide) ?_
  refine va_put (D := (dC, dI)) (ci := 0) (v := .int 0) (ty := .int) (C := RX0) (T := TX0) (N := 13) hx hb hts (fun w h => List.mem_cons_of_mem _ (jnGA_X0 w h)) tyX0 tyX0_ok nmX0 hown hK hP hD hS 0 rfl rfl 1 (by decide) (hts _ (List.mem_cons_of_mem _ mGA_153)) (fun _ h9 => h9) rfl (by decide +kernel) rfl rfl (Nat.le_of_ble_eq_true rfl) dX0_wipe_7 (fun H locs hP hD hS => ?_)
  have hP : va_P (dC, dI) vwCl [(h0, .inr (0, [.int 0, .int 0, .int lean, .int lines, .int hasMoon, .int moonStart, .int moonStep, .int placeCount, .int reportCount, .int deedCount, .ref places, .ref reports, .ref deeds]))] H := hP
  have hD : va_D A [(h0, .inr (0, [.int 0, .int 0, .int lean, .int lines, .int hasMoon, .int moonStart, .int moonStep, .int placeCount, .int reportCount, .int deedCount, .ref places, .ref reports, .ref deeds]))] := hD
  refine lv_aload_n hx hb dX0_wipe_10 rfl (lv_at hl 0 rfl) ?_
  refine lv_iconst (v := 0) hx hb dX0_wipe_11 (by decide) ?_
  refine va_put (D := (dC, dI)) (ci := 0) (v := .int 0) (ty := .int) (C := RX0) (T := TX0) (N := 13) hx hb hts (fun w h => List.mem_cons_of_mem _ (jnGA_X0 w h)) tyX0 tyX0_ok nmX0 hown hK hP hD hS 0 rfl rfl 2 (by decide) (hts _ (List.mem_cons_of_mem _ mGA_154)) (fun _ h9 => h9) rfl (by decide +kernel) rfl rfl (Nat.le_of_ble_eq_true rfl) dX0_wipe_12 (fun H locs hP hD hS => ?_)
  have hP : va_P (dC, dI) vwCl [(h0, .inr (0, [.int 0, .int 0, .int 0, .int lines, .int hasMoon, .int moonStart, .int moonStep, .int placeCount, .int reportCount, .int deedCount, .ref places, .ref reports, .ref deeds]))] H := hP
  have hD : va_D A [(h0, .inr (0, [.int 0, .int 0, .int 0, .int lines, .int hasMoon, .int moonStart, .int moonStep, .int placeCount, .int reportCount, .int deedCount, .ref places, .ref reports, .ref deeds]))] := hD
  refine lv_aload_n hx hb dX0_wipe_15 rfl (lv_at hl 0 rfl) ?_
  refine lv_iconst (v := 0) hx hb dX0_wipe_16 (by decide) ?_
  refine va_put (D := (dC, dI)) (ci := 0) (v := .int 0) (ty := .int) (C := RX0) (T := TX0) (N := 13) hx hb hts (fun w h => List.mem_cons_of_mem _ (jnGA_X0 w h)) tyX0 tyX0_ok nmX0 hown hK hP hD hS 0 rfl rfl 3 (by decide) (hts _ (List.mem_cons_of_mem _ mGA_155)) (fun _ h9 => h9) rfl (by decide +kernel) rfl rfl (Nat.le_of_ble_eq_true rfl) dX0_wipe_17 (fun H locs hP hD hS => ?_)
  have hP : va_P (dC, dI) vwCl [(h0, .inr (0, [.int 0, .int 0, .int 0, .int 0, .int hasMoon, .int moonStart, .int moonStep, .int placeCount, .int reportCount, .int deedCount, .ref places, .ref reports, .ref deeds]))] H := hP
  have hD : va_D A [(h0, .inr (0, [.int 0, .int 0, .int 0, .int 0, .int hasMoon, .int moonStart, .int moonStep, .int placeCount, .int reportCount, .int deedCount, .ref places, .ref reports, .ref deeds]))] := hD
  refine lv_aload_n hx hb dX0_wipe_20 rfl (lv_at hl 0 rfl) ?_
  refine lv_iconst (v := 0) hx hb dX0_wipe_21 (by decide) ?_
  refine va_put (D := (dC, dI)) (ci := 0) (v := .int 0) (ty := .boolean) (C := RX0) (T := TX0) (N := 13) hx hb hts (fun w h => List.mem_cons_of_mem _ (jnGA_X0 w h)) tyX0 tyX0_ok nmX0 hown hK hP hD hS 0 rfl rfl 4 (by decide) (hts _ (List.mem_cons_of_mem _ mGA_156)) (fun _ h9 => h9) rfl (by decide +kernel) rfl rfl (Nat.le_of_ble_eq_true rfl) dX0_wipe_22 (fun H locs hP hD hS => ?_)
  have hP : va_P (dC, dI) vwCl [(h0, .inr (0, [.int 0, .int 0, .int 0, .int 0, .int 0, .int moonStart, .int moonStep, .int placeCount, .int reportCount, .int deedCount, .ref places, .ref reports, .ref deeds]))] H := hP
  have hD : va_D A [(h0, .inr (0, [.int 0, .int 0, .int 0, .int 0, .int 0, .int moonStart, .int moonStep, .int placeCount, .int reportCount, .int deedCount, .ref places, .ref reports, .ref deeds]))] := hD
  refine lv_aload_n hx hb dX0_wipe_25 rfl (lv_at hl 0 rfl) ?_
  refine lv_iconst (v := 0) hx hb dX0_wipe_26 (by decide) ?_
  refine va_put (D := (dC, dI)) (ci := 0) (v := .int 0) (ty := .int) (C := RX0) (T := TX0) (N := 13) hx hb hts (fun w h => List.mem_cons_of_mem _ (jnGA_X0 w h)) tyX0 tyX0_ok nmX0 hown hK hP hD hS 0 rfl rfl 5 (by decide) (hts _ (List.mem_cons_of_mem _ mGA_157)) (fun _ h9 => h9) rfl (by decide +kernel) rfl rfl (Nat.le_of_ble_eq_true rfl) dX0_wipe_27 (fun H locs hP hD hS => ?_)
  have hP : va_P (dC, dI) vwCl [(h0, .inr (0, [.int 0, .int 0, .int 0, .int 0, .int 0, .int 0, .int moonStep, .int placeCount, .int reportCount, .int deedCount, .ref places, .ref reports, .ref deeds]))] H := hP
  have hD : va_D A [(h0, .inr (0, [.int 0, .int 0, .int 0, .int 0, .int 0, .int 0, .int moonStep, .int placeCount, .int reportCount, .int deedCount, .ref places, .ref reports, .ref deeds]))] := hD
  refine lv_aload_n hx hb dX0_wipe_30 rfl (lv_at hl 0 rfl) ?_
  refine lv_iconst (v := 0) hx hb dX0_wipe_31 (by decide) ?_
  refine va_put (D := (dC, dI)) (ci := 0) (v := .int 0) (ty := .int) (C := RX0) (T := TX0) (N := 13) hx hb hts (fun w h => List.mem_cons_of_mem _ (jnGA_X0 w h)) tyX0 tyX0_ok nmX0 hown hK hP hD hS 0 rfl rfl 6 (by decide) (hts _ (List.mem_cons_of_mem _ mGA_158)) (fun _ h9 => h9) rfl (by decide +kernel) rfl rfl (Nat.le_of_ble_eq_true rfl) dX0_wipe_32 (fun H locs hP hD hS => ?_)
  have hP : va_P (dC, dI) vwCl [(h0, .inr (0, [.int 0, .int 0, .int 0, .int 0, .int 0, .int 0, .int 0, .int placeCount, .int reportCount, .int deedCount, .ref places, .ref reports, .ref deeds]))] H := hP
  have hD : va_D A [(h0, .inr (0, [.int 0, .int 0, .int 0, .int 0, .int 0, .int 0, .int 0, .int placeCount, .int reportCount, .int deedCount, .ref places, .ref reports, .ref deeds]))] := hD
  refine lv_aload_n hx hb dX0_wipe_35 rfl (lv_at hl 0 rfl) ?_
  refine lv_iconst (v := 0) hx hb dX0_wipe_36 (by decide) ?_
  refine va_put (D := (dC, dI)) (ci := 0) (v := .int 0) (ty := .int) (C := RX0) (T := TX0) (N := 13) hx hb hts (fun w h => List.mem_cons_of_mem _ (jnGA_X0 w h)) tyX0 tyX0_ok nmX0 hown hK hP hD hS 0 rfl rfl 7 (by decide) (hts _ (List.mem_cons_of_mem _ mGA_159)) (fun _ h9 => h9) rfl (by decide +kernel) rfl rfl (Nat.le_of_ble_eq_true rfl) dX0_wipe_37 (fun H locs hP hD hS => ?_)
  have hP : va_P (dC, dI) vwCl [(h0, .inr (0, [.int 0, .int 0, .int 0, .int 0, .int 0, .int 0, .int 0, .int 0, .int reportCount, .int deedCount, .ref places, .ref reports, .ref deeds]))] H := hP
  have hD : va_D A [(h0, .inr (0, [.int 0, .int 0, .int 0, .int 0, .int 0, .int 0, .int 0, .int 0, .int reportCount, .int deedCount, .ref places, .ref reports, .ref deeds]))] := hD
  refine lv_aload_n hx hb dX0_wipe_40 rfl (lv_at hl 0 rfl) ?_
  refine lv_iconst (v := 0) hx hb dX0_wipe_41 (by decide) ?_
  refine va_put (D := (dC, dI)) (ci := 0) (v := .int 0) (ty := .int) (C := RX0) (T := TX0) (N := 13) hx hb hts (fun w h => List.mem_cons_of_mem _ (jnGA_X0 w h)) tyX0 tyX0_ok nmX0 hown hK hP hD hS 0 rfl rfl 8 (by decide) (hts _ (List.mem_cons_of_mem _ mGA_160)) (fun _ h9 => h9) rfl (by decide +kernel) rfl rfl (Nat.le_of_ble_eq_true rfl) dX0_wipe_42 (fun H locs hP hD hS => ?_)
  have hP : va_P (dC, dI) vwCl [(h0, .inr (0, [.int 0, .int 0, .int 0, .int 0, .int 0, .int 0, .int 0, .int 0, .int 0, .int deedCount, .ref places, .ref reports, .ref deeds]))] H := hP
  have hD : va_D A [(h0, .inr (0, [.int 0, .int 0, .int 0, .int 0, .int 0, .int 0, .int 0, .int 0, .int 0, .int deedCount, .ref places, .ref reports, .ref deeds]))] := hD
  refine lv_aload_n hx hb dX0_wipe_45 rfl (lv_at hl 0 rfl) ?_
  refine lv_iconst (v := 0) hx hb dX0_wipe_46 (by decide) ?_
  refine va_put (D := (dC, dI)) (ci := 0) (v := .int 0) (ty := .int) (C := RX0) (T := TX0) (N := 13) hx hb hts (fun w h => List.mem_cons_of_mem _ (jnGA_X0 w h)) tyX0 tyX0_ok nmX0 hown hK hP hD hS 0 rfl rfl 9 (by decide) (hts _ (List.mem_cons_of_mem _ mGA_161)) (fun _ h9 => h9) rfl (by decide +kernel) rfl rfl (Nat.le_of_ble_eq_true rfl) dX0_wipe_47 (fun H locs hP hD hS => ?_)
  have hP : va_P (dC, dI) vwCl [(h0, .inr (0, [.int 0, .int 0, .int 0, .int 0, .int 0, .int 0, .int 0, .int 0, .int 0, .int 0, .ref places, .ref reports, .ref deeds]))] H := hP
  have hD : va_D A [(h0, .inr (0, [.int 0, .int 0, .int 0, .int 0, .int 0, .int 0, .int 0, .int 0, .int 0, .int 0, .ref places, .ref reports, .ref deeds]))] := hD
  exact W.vret hx hb hr (fun t ht hW => ⟨⟨(), rfl, trivial, 0, 0, 0, 0, 0, 0, 0, 0, 0, 0, (gi_w (gi_c 0 0 (by decide)) (by decide)), (gi_w (gi_c 0 0 (by decide)) (by decide)), (gi_w (gi_c 0 0 (by decide)) (by decide)), (gi_w (gi_c 0 0 (by decide)) (by decide)), (gi_w (gi_c 0 0 (by decide)) (by decide)), (gi_w (gi_c 0 0 (by decide)) (by decide)), (gi_w (gi_c 0 0 (by decide)) (by decide)), hF.trans hR9.symm, by rw [ht]; exact hP, hD⟩, hS.F ht⟩) hS.2.2 dX0_wipe_50
theorem dX0_setMoon_0 : decode cX0_setMoon 0 = .ok (.aload_n 0, 1) := by decide +kernel
theorem dX0_setMoon_1 : decode cX0_setMoon 1 = .ok (.iconst 1, 1) := by decide +kernel
theorem dX0_setMoon_2 : decode cX0_setMoon 2 = .ok (.putfield 45, 3) := by decide +kernel
theorem dX0_setMoon_5 : decode cX0_setMoon 5 = .ok (.aload_n 0, 1) := by decide +kernel
theorem dX0_setMoon_6 : decode cX0_setMoon 6 = .ok (.iload_n 1, 1) := by decide +kernel
theorem dX0_setMoon_7 : decode cX0_setMoon 7 = .ok (.putfield 49, 3) := by decide +kernel
theorem dX0_setMoon_10 : decode cX0_setMoon 10 = .ok (.aload_n 0, 1) := by decide +kernel
theorem dX0_setMoon_11 : decode cX0_setMoon 11 = .ok (.iload_n 2, 1) := by decide +kernel
theorem dX0_setMoon_12 : decode cX0_setMoon 12 = .ok (.putfield 52, 3) := by decide +kernel
theorem dX0_setMoon_15 : decode cX0_setMoon 15 = .ok (.return_, 1) := by decide +kernel
noncomputable def fX0_setMoon (p0 : Int32) (p1 : Int32) : Int32 × Int32 × Int32 := ((1 : Int32), p0, p1)
abbrev pb_sX0_setMoon (dC : Nat → ClassId) (dI : Nat → Nat → Nat) (A9 : Nat → Prop) (h0 : Nat) (months : Int32) (full : Int32) (lean : Int32) (lines : Int32) (hasMoon : Int32) (moonStart : Int32) (moonStep : Int32) (placeCount : Int32) (reportCount : Int32) (deedCount : Int32) (places : Nat) (reports : Nat) (deeds : Nat) (p0 : Int32) (p1 : Int32) (w0_4 : Int32) (w0_5 : Int32) (w0_6 : Int32) (t : State) : Prop := gi w0_4 0 1 ∧ (w0_4, w0_5, w0_6) = fX0_setMoon p0 p1 ∧ va_P (dC, dI) vwCl [(h0, .inr (0, [.int months, .int full, .int lean, .int lines, .int w0_4, .int w0_5, .int w0_6, .int placeCount, .int reportCount, .int deedCount, .ref places, .ref reports, .ref deeds]))] t.heap ∧ va_D A9 [(h0, .inr (0, [.int months, .int full, .int lean, .int lines, .int w0_4, .int w0_5, .int w0_6, .int placeCount, .int reportCount, .int deedCount, .ref places, .ref reports, .ref deeds]))]
set_option maxHeartbeats 4000000 in
set_option maxRecDepth 100000 in
theorem sX0_setMoon (l : Launch) (dC : Nat → ClassId) (dI : Nat → Nat → Nat) (sz : Nat) (h0 : Nat) (months : Int32) (full : Int32) (lean : Int32) (lines : Int32) (hasMoon : Int32) (moonStart : Int32) (moonStep : Int32) (placeCount : Int32) (reportCount : Int32) (deedCount : Int32) (places : Nat) (reports : Nat) (deeds : Nat) (p0 : Int32) (p1 : Int32) (gmonths : gi months 0 24) (gfull : gi full 0 5) (glean : gi lean 0 5) (ghasMoon : gi hasMoon 0 1) (gplaceCount : gi placeCount 0 6) (greportCount : gi reportCount 0 24) (gdeedCount : gi deedCount 0 8) : Met l yX0_setMoon (.code yX0_setMoon cX0_setMoon 3 none :: wsGA) ({ frames := 0, cells := 0, slots := 0, locals := 0 }) (va_Pc [.ref h0, .int p0, .int p1] (fun U => U.heap.size = sz ∧ va_P (dC, dI) vwCl [(h0, .inr (0, [.int months, .int full, .int lean, .int lines, .int hasMoon, .int moonStart, .int moonStep, .int placeCount, .int reportCount, .int deedCount, .ref places, .ref reports, .ref deeds]))] U.heap ∧ va_K (dC, dI) vwCl [] U ∧ va_D (fun _ => True) [(h0, .inr (0, [.int months, .int full, .int lean, .int lines, .int hasMoon, .int moonStart, .int moonStep, .int placeCount, .int reportCount, .int deedCount, .ref places, .ref reports, .ref deeds]))] ∧ nzA U)) (va_Qv (fun (u : Unit) => True) (fun _ t => ∃ (w0_4 : Int32) (w0_5 : Int32) (w0_6 : Int32), pb_sX0_setMoon dC dI (va_A [(h0, .inr (0, [.int months, .int full, .int lean, .int lines, .int hasMoon, .int moonStart, .int moonStep, .int placeCount, .int reportCount, .int deedCount, .ref places, .ref reports, .ref deeds]))] sz) h0 months full lean lines hasMoon moonStart moonStep placeCount reportCount deedCount places reports deeds p0 p1 w0_4 w0_5 w0_6 t) (va_A [(h0, .inr (0, [.int months, .int full, .int lean, .int lines, .int hasMoon, .int moonStart, .int moonStep, .int placeCount, .int reportCount, .int deedCount, .ref places, .ref reports, .ref deeds]))] sz)) 0 0 (va_A [(h0, .inr (0, [.int months, .int full, .int lean, .int lines, .int hasMoon, .int moonStart, .int moonStep, .int placeCount, .int reportCount, .int deedCount, .ref places, .ref reports, .ref deeds]))] sz) := by
  refine Met.ofW (cc := cX0_setMoon) (maxL := 3) (ret := none) (by decide) rfl ?_
  intro p e s m args below meth c s₁ B hml hv
  obtain ⟨rfl, hsz, hP, hK, hD0, hz⟩ := hv
  have hx := B.exec
  have hb := B.bytes
  have hr := B.returns
  have hts := atoms_spec (ws := (.code yX0_setMoon cX0_setMoon 3 none :: wsGA)) B.pre
  have hown : s.vm.findClass RX0 = some m.cls := findClass_of_methodNamed B.named
  have hlocks := B.notSynchronized
  subst hsz
  have hD := hD0.self (sz := s.heap.size)
  generalize hAe : va_A [(h0, .inr (0, [.int months, .int full, .int lean, .int lines, .int hasMoon, .int moonStart, .int moonStep, .int placeCount, .int reportCount, .int deedCount, .ref places, .ref reports, .ref deeds]))] s.heap.size = A at hD ⊢
  have hA : ∀ q : Nat, s.heap.size ≤ q → A q := fun q h => by rw [← hAe]; exact Or.inr h
  have hS : va_S A s.heap s.heap [] := va_S.rf
  have hl := lv_entry ([.ref h0, .int p0, .int p1]) (n := 3) (Nat.le_of_ble_eq_true rfl)
  rw [lg_entry_eq]
  generalize (lg_sl ([.ref h0, .int p0, .int p1]) ++ List.replicate (3 - (lg_sl ([.ref h0, .int p0, .int p1])).length) Slot.unset).toArray = ls at hl ⊢
  have hl : lv_has ls 3 [(0, .ref h0), (1, .int p0), (2, .int p1)] := hl
  obtain ⟨RES, hF⟩ : ∃ R9, fX0_setMoon p0 p1 = R9 := ⟨_, rfl⟩
  have hR9 := hF
  refine lv_aload_n hx hb dX0_setMoon_0 rfl (lv_at hl 0 rfl) ?_
  refine lv_iconst (v := 1) hx hb dX0_setMoon_1 (by decide) ?_
  refine va_put (D := (dC, dI)) (ci := 0) (v := .int 1) (ty := .boolean) (C := RX0) (T := TX0) (N := 13) hx hb hts (fun w h => List.mem_cons_of_mem _ (jnGA_X0 w h)) tyX0 tyX0_ok nmX0 hown hK hP hD hS 0 rfl rfl 4 (by decide) (hts _ (List.mem_cons_of_mem _ mGA_156)) (fun _ h9 => h9) rfl (by decide +kernel) rfl rfl (Nat.le_of_ble_eq_true rfl) dX0_setMoon_2 (fun H locs hP hD hS => ?_)
  have hP : va_P (dC, dI) vwCl [(h0, .inr (0, [.int months, .int full, .int lean, .int lines, .int 1, .int moonStart, .int moonStep, .int placeCount, .int reportCount, .int deedCount, .ref places, .ref reports, .ref deeds]))] H := hP
  have hD : va_D A [(h0, .inr (0, [.int months, .int full, .int lean, .int lines, .int 1, .int moonStart, .int moonStep, .int placeCount, .int reportCount, .int deedCount, .ref places, .ref reports, .ref deeds]))] := hD
  refine lv_aload_n hx hb dX0_setMoon_5 rfl (lv_at hl 0 rfl) ?_
  refine lv_iload_n hx hb dX0_setMoon_6 rfl (lv_at hl 1 rfl) ?_
  refine va_put (D := (dC, dI)) (ci := 0) (v := .int p0) (ty := .int) (C := RX0) (T := TX0) (N := 13) hx hb hts (fun w h => List.mem_cons_of_mem _ (jnGA_X0 w h)) tyX0 tyX0_ok nmX0 hown hK hP hD hS 0 rfl rfl 5 (by decide) (hts _ (List.mem_cons_of_mem _ mGA_157)) (fun _ h9 => h9) rfl (by decide +kernel) rfl rfl (Nat.le_of_ble_eq_true rfl) dX0_setMoon_7 (fun H locs hP hD hS => ?_)
  have hP : va_P (dC, dI) vwCl [(h0, .inr (0, [.int months, .int full, .int lean, .int lines, .int 1, .int p0, .int moonStep, .int placeCount, .int reportCount, .int deedCount, .ref places, .ref reports, .ref deeds]))] H := hP
  have hD : va_D A [(h0, .inr (0, [.int months, .int full, .int lean, .int lines, .int 1, .int p0, .int moonStep, .int placeCount, .int reportCount, .int deedCount, .ref places, .ref reports, .ref deeds]))] := hD
  refine lv_aload_n hx hb dX0_setMoon_10 rfl (lv_at hl 0 rfl) ?_
  refine lv_iload_n hx hb dX0_setMoon_11 rfl (lv_at hl 2 rfl) ?_
  refine va_put (D := (dC, dI)) (ci := 0) (v := .int p1) (ty := .int) (C := RX0) (T := TX0) (N := 13) hx hb hts (fun w h => List.mem_cons_of_mem _ (jnGA_X0 w h)) tyX0 tyX0_ok nmX0 hown hK hP hD hS 0 rfl rfl 6 (by decide) (hts _ (List.mem_cons_of_mem _ mGA_158)) (fun _ h9 => h9) rfl (by decide +kernel) rfl rfl (Nat.le_of_ble_eq_true rfl) dX0_setMoon_12 (fun H locs hP hD hS => ?_)
  have hP : va_P (dC, dI) vwCl [(h0, .inr (0, [.int months, .int full, .int lean, .int lines, .int 1, .int p0, .int p1, .int placeCount, .int reportCount, .int deedCount, .ref places, .ref reports, .ref deeds]))] H := hP
  have hD : va_D A [(h0, .inr (0, [.int months, .int full, .int lean, .int lines, .int 1, .int p0, .int p1, .int placeCount, .int reportCount, .int deedCount, .ref places, .ref reports, .ref deeds]))] := hD
  exact W.vret hx hb hr (fun t ht hW => ⟨⟨(), rfl, trivial, 1, p0, p1, (gi_w (gi_c 1 1 (by decide)) (by decide)), hF.trans hR9.symm, by rw [ht]; exact hP, hD⟩, hS.F ht⟩) hS.2.2 dX0_setMoon_15
theorem dX0_earlyOf_0 : decode cX0_earlyOf 0 = .ok (.aload_n 0, 1) := by decide +kernel
theorem dX0_earlyOf_1 : decode cX0_earlyOf 1 = .ok (.getfield 49, 3) := by decide +kernel
theorem dX0_earlyOf_4 : decode cX0_earlyOf 4 = .ok (.iload_n 1, 1) := by decide +kernel
theorem dX0_earlyOf_5 : decode cX0_earlyOf 5 = .ok (.aload_n 0, 1) := by decide +kernel
theorem dX0_earlyOf_6 : decode cX0_earlyOf 6 = .ok (.getfield 52, 3) := by decide +kernel
theorem dX0_earlyOf_9 : decode cX0_earlyOf 9 = .ok (.imul, 1) := by decide +kernel
theorem dX0_earlyOf_10 : decode cX0_earlyOf 10 = .ok (.iadd, 1) := by decide +kernel
theorem dX0_earlyOf_11 : decode cX0_earlyOf 11 = .ok (.sipush 1000, 3) := by decide +kernel
theorem dX0_earlyOf_14 : decode cX0_earlyOf 14 = .ok (.idiv, 1) := by decide +kernel
theorem dX0_earlyOf_15 : decode cX0_earlyOf 15 = .ok (.ireturn, 1) := by decide +kernel
noncomputable def fX0_earlyOf (moonStart : Int32) (moonStep : Int32) (p0 : Int32) : Int32 := ((moonStart + (p0 * moonStep)) / (1000 : Int32))
set_option maxHeartbeats 4000000 in
set_option maxRecDepth 100000 in
theorem sX0_earlyOf (l : Launch) (dC : Nat → ClassId) (dI : Nat → Nat → Nat) (h0 : Nat) (months : Int32) (full : Int32) (lean : Int32) (lines : Int32) (hasMoon : Int32) (moonStart : Int32) (moonStep : Int32) (placeCount : Int32) (reportCount : Int32) (deedCount : Int32) (places : Nat) (reports : Nat) (deeds : Nat) (p0 : Int32) (gmonths : gi months 0 24) (gfull : gi full 0 5) (glean : gi lean 0 5) (ghasMoon : gi hasMoon 0 1) (gplaceCount : gi placeCount 0 6) (greportCount : gi reportCount 0 24) (gdeedCount : gi deedCount 0 8) : Met l yX0_earlyOf (.code yX0_earlyOf cX0_earlyOf 2 (some .int) :: wsGA) ({ frames := 0, cells := 0, slots := 0, locals := 0 }) (va_Pc [.ref h0, .int p0] (fun U => va_P (dC, dI) vwCl [(h0, .inr (0, [.int months, .int full, .int lean, .int lines, .int hasMoon, .int moonStart, .int moonStep, .int placeCount, .int reportCount, .int deedCount, .ref places, .ref reports, .ref deeds]))] U.heap ∧ va_K (dC, dI) vwCl [] U ∧ nzA U)) (va_Qi (fun (r : Int32) (u : Unit) => (gi r (-2147483648) 2147483647) ∧ r = fX0_earlyOf moonStart moonStep p0) (fun _ _ => True) (fun _ => False)) 0 0 (fun _ => False) := by
  refine Met.ofW (cc := cX0_earlyOf) (maxL := 2) (ret := (some .int)) (by decide) rfl ?_
  intro p e s m args below meth c s₁ B hml hv
  obtain ⟨rfl, hP, hK, hz⟩ := hv
  have hx := B.exec
  have hb := B.bytes
  have hr := B.returns
  have hts := atoms_spec (ws := (.code yX0_earlyOf cX0_earlyOf 2 (some .int) :: wsGA)) B.pre
  have hown : s.vm.findClass RX0 = some m.cls := findClass_of_methodNamed B.named
  have hlocks := B.notSynchronized
  have hS : va_S (fun _ => False) s.heap s.heap [] := va_S.rf
  have hl := lv_entry ([.ref h0, .int p0]) (n := 2) (Nat.le_of_ble_eq_true rfl)
  rw [lg_entry_eq]
  generalize (lg_sl ([.ref h0, .int p0]) ++ List.replicate (2 - (lg_sl ([.ref h0, .int p0])).length) Slot.unset).toArray = ls at hl ⊢
  have hl : lv_has ls 2 [(0, .ref h0), (1, .int p0)] := hl
  obtain ⟨RES, hF⟩ : ∃ R9, fX0_earlyOf moonStart moonStep p0 = R9 := ⟨_, rfl⟩
  have hR9 := hF
  refine lv_aload_n hx hb dX0_earlyOf_0 rfl (lv_at hl 0 rfl) ?_
  refine va_get (D := (dC, dI)) (ci := 0) (v := .int moonStart) (C := RX0) (T := TX0) (N := 13) hx hb hts (fun w h => List.mem_cons_of_mem _ (jnGA_X0 w h)) hown hK hP 0 rfl rfl 5 (by decide) (hts _ (List.mem_cons_of_mem _ mGA_157)) (fun _ h9 => h9) rfl dX0_earlyOf_1 ?_
  refine lv_iload_n hx hb dX0_earlyOf_4 rfl (lv_at hl 1 rfl) ?_
  refine lv_aload_n hx hb dX0_earlyOf_5 rfl (lv_at hl 0 rfl) ?_
  refine va_get (D := (dC, dI)) (ci := 0) (v := .int moonStep) (C := RX0) (T := TX0) (N := 13) hx hb hts (fun w h => List.mem_cons_of_mem _ (jnGA_X0 w h)) hown hK hP 0 rfl rfl 6 (by decide) (hts _ (List.mem_cons_of_mem _ mGA_158)) (fun _ h9 => h9) rfl dX0_earlyOf_6 ?_
  refine lv_imul hx hb dX0_earlyOf_9 ?_
  refine lv_topi (fun x_4 ex_4 => ?_)
  refine lv_iadd hx hb dX0_earlyOf_10 ?_
  refine lv_topi (fun x_5 ex_5 => ?_)
  refine lv_sipush (v := 1000) hx hb dX0_earlyOf_11 (by decide) ?_
  refine lv_idiv hx hb dX0_earlyOf_14 (by decide) ?_
  refine lv_topi (fun x_6 ex_6 => ?_)
  exact W.iret (v := x_6) hx hb hr (fun t ht hW => ⟨⟨x_6, (), rfl, ⟨(gi_any x_6), by rw [ex_6, ex_5, ex_4]; exact hF.trans hR9.symm⟩, trivial⟩, hS.F ht⟩) hS.2.2 dX0_earlyOf_15
theorem dX10_put_0 : decode cX10_put 0 = .ok (.aload_n 0, 1) := by decide +kernel
theorem dX10_put_1 : decode cX10_put 1 = .ok (.getfield 15, 3) := by decide +kernel
theorem dX10_put_4 : decode cX10_put 4 = .ok (.sipush 1596, 3) := by decide +kernel
theorem dX10_put_7 : decode cX10_put 7 = .ok (.if_icmp .le 4, 3) := by decide +kernel
theorem dX10_put_10 : decode cX10_put 10 = .ok (.return_, 1) := by decide +kernel
theorem dX10_put_11 : decode cX10_put 11 = .ok (.aload_n 0, 1) := by decide +kernel
theorem dX10_put_12 : decode cX10_put 12 = .ok (.getfield 9, 3) := by decide +kernel
theorem dX10_put_15 : decode cX10_put 15 = .ok (.aload_n 0, 1) := by decide +kernel
theorem dX10_put_16 : decode cX10_put 16 = .ok (.getfield 15, 3) := by decide +kernel
theorem dX10_put_19 : decode cX10_put 19 = .ok (.iload_n 1, 1) := by decide +kernel
theorem dX10_put_20 : decode cX10_put 20 = .ok (.bipush 24, 2) := by decide +kernel
theorem dX10_put_22 : decode cX10_put 22 = .ok (.iushr, 1) := by decide +kernel
theorem dX10_put_23 : decode cX10_put 23 = .ok (.i2b, 1) := by decide +kernel
theorem dX10_put_24 : decode cX10_put 24 = .ok (.bastore, 1) := by decide +kernel
theorem dX10_put_25 : decode cX10_put 25 = .ok (.aload_n 0, 1) := by decide +kernel
theorem dX10_put_26 : decode cX10_put 26 = .ok (.getfield 9, 3) := by decide +kernel
theorem dX10_put_29 : decode cX10_put 29 = .ok (.aload_n 0, 1) := by decide +kernel
theorem dX10_put_30 : decode cX10_put 30 = .ok (.getfield 15, 3) := by decide +kernel
theorem dX10_put_33 : decode cX10_put 33 = .ok (.iconst 1, 1) := by decide +kernel
theorem dX10_put_34 : decode cX10_put 34 = .ok (.iadd, 1) := by decide +kernel
theorem dX10_put_35 : decode cX10_put 35 = .ok (.iload_n 1, 1) := by decide +kernel
theorem dX10_put_36 : decode cX10_put 36 = .ok (.bipush 16, 2) := by decide +kernel
theorem dX10_put_38 : decode cX10_put 38 = .ok (.iushr, 1) := by decide +kernel
theorem dX10_put_39 : decode cX10_put 39 = .ok (.i2b, 1) := by decide +kernel
theorem dX10_put_40 : decode cX10_put 40 = .ok (.bastore, 1) := by decide +kernel
theorem dX10_put_41 : decode cX10_put 41 = .ok (.aload_n 0, 1) := by decide +kernel
theorem dX10_put_42 : decode cX10_put 42 = .ok (.getfield 9, 3) := by decide +kernel
theorem dX10_put_45 : decode cX10_put 45 = .ok (.aload_n 0, 1) := by decide +kernel
theorem dX10_put_46 : decode cX10_put 46 = .ok (.getfield 15, 3) := by decide +kernel
theorem dX10_put_49 : decode cX10_put 49 = .ok (.iconst 2, 1) := by decide +kernel
theorem dX10_put_50 : decode cX10_put 50 = .ok (.iadd, 1) := by decide +kernel
theorem dX10_put_51 : decode cX10_put 51 = .ok (.iload_n 1, 1) := by decide +kernel
theorem dX10_put_52 : decode cX10_put 52 = .ok (.bipush 8, 2) := by decide +kernel
theorem dX10_put_54 : decode cX10_put 54 = .ok (.iushr, 1) := by decide +kernel
theorem dX10_put_55 : decode cX10_put 55 = .ok (.i2b, 1) := by decide +kernel
theorem dX10_put_56 : decode cX10_put 56 = .ok (.bastore, 1) := by decide +kernel
theorem dX10_put_57 : decode cX10_put 57 = .ok (.aload_n 0, 1) := by decide +kernel
theorem dX10_put_58 : decode cX10_put 58 = .ok (.getfield 9, 3) := by decide +kernel
theorem dX10_put_61 : decode cX10_put 61 = .ok (.aload_n 0, 1) := by decide +kernel
theorem dX10_put_62 : decode cX10_put 62 = .ok (.getfield 15, 3) := by decide +kernel
theorem dX10_put_65 : decode cX10_put 65 = .ok (.iconst 3, 1) := by decide +kernel
theorem dX10_put_66 : decode cX10_put 66 = .ok (.iadd, 1) := by decide +kernel
theorem dX10_put_67 : decode cX10_put 67 = .ok (.iload_n 1, 1) := by decide +kernel
theorem dX10_put_68 : decode cX10_put 68 = .ok (.i2b, 1) := by decide +kernel
theorem dX10_put_69 : decode cX10_put 69 = .ok (.bastore, 1) := by decide +kernel
theorem dX10_put_70 : decode cX10_put 70 = .ok (.aload_n 0, 1) := by decide +kernel
theorem dX10_put_71 : decode cX10_put 71 = .ok (.dup, 1) := by decide +kernel
theorem dX10_put_72 : decode cX10_put 72 = .ok (.getfield 15, 3) := by decide +kernel
theorem dX10_put_75 : decode cX10_put 75 = .ok (.iconst 4, 1) := by decide +kernel
theorem dX10_put_76 : decode cX10_put 76 = .ok (.iadd, 1) := by decide +kernel
theorem dX10_put_77 : decode cX10_put 77 = .ok (.putfield 15, 3) := by decide +kernel
theorem dX10_put_80 : decode cX10_put 80 = .ok (.return_, 1) := by decide +kernel
noncomputable def fX10_put (length : Int32) (fbt : Nat → Int32) (p0 : Int32) : Int32 × (Nat → Int32) := if length ≤ (1596 : Int32) then ((length + (4 : Int32)), (upd (upd (upd (upd fbt length.toNatClampNeg (vp_nar .byte (((p0.toUInt32 >>> ((24 : Int32).toUInt32 &&& Int32.toUInt32 31)).toInt32).toInt8.toInt32))) (length + (1 : Int32)).toNatClampNeg (vp_nar .byte (((p0.toUInt32 >>> ((16 : Int32).toUInt32 &&& Int32.toUInt32 31)).toInt32).toInt8.toInt32))) (length + (2 : Int32)).toNatClampNeg (vp_nar .byte (((p0.toUInt32 >>> ((8 : Int32).toUInt32 &&& Int32.toUInt32 31)).toInt32).toInt8.toInt32))) (length + (3 : Int32)).toNatClampNeg (vp_nar .byte (p0.toInt8.toInt32)))) else (length, fbt)
abbrev pb_sX10_put (dC : Nat → ClassId) (dI : Nat → Nat → Nat) (A9 : Nat → Prop) (h0 : Nat) (bt : Nat) (length : Int32) (kbt : ClassId) (fbt : Nat → Int32) (p0 : Int32) (w0_1 : Int32) (z1 : Nat → Int32) (t : State) : Prop := gi w0_1 0 1600 ∧ ((1596 < length.toInt ∧ w0_1.toInt = length.toInt) ∨ (length.toInt ≤ 1596 ∧ w0_1.toInt = length.toInt + 4)) ∧ (w0_1, z1) = fX10_put length fbt p0 ∧ va_P (dC, dI) vwCl [(h0, .inr (10, [.ref bt, .int w0_1])), (bt, .inl (kbt, 1600, .inl z1))] t.heap ∧ va_D A9 [(h0, .inr (10, [.ref bt, .int w0_1])), (bt, .inl (kbt, 1600, .inl z1))]
set_option maxHeartbeats 4000000 in
set_option maxRecDepth 100000 in
theorem sX10_put (l : Launch) (dC : Nat → ClassId) (dI : Nat → Nat → Nat) (sz : Nat) (h0 : Nat) (bt : Nat) (length : Int32) (kbt : ClassId) (fbt : Nat → Int32) (p0 : Int32) (glength : gi length 0 1600) : Met l yX10_put (.code yX10_put cX10_put 2 none :: wsGA) ({ frames := 0, cells := 0, slots := 0, locals := 0 }) (va_Pc [.ref h0, .int p0] (fun U => U.heap.size = sz ∧ va_P (dC, dI) vwCl [(h0, .inr (10, [.ref bt, .int length])), (bt, .inl (kbt, 1600, .inl fbt))] U.heap ∧ va_K (dC, dI) vwCl [(kbt, .byte)] U ∧ va_D (fun _ => True) [(h0, .inr (10, [.ref bt, .int length])), (bt, .inl (kbt, 1600, .inl fbt))] ∧ nzA U)) (va_Qv (fun (u : Unit) => True) (fun _ t => ∃ (w0_1 : Int32) (z1 : Nat → Int32), pb_sX10_put dC dI (va_A [(h0, .inr (10, [.ref bt, .int length])), (bt, .inl (kbt, 1600, .inl fbt))] sz) h0 bt length kbt fbt p0 w0_1 z1 t) (va_A [(h0, .inr (10, [.ref bt, .int length])), (bt, .inl (kbt, 1600, .inl fbt))] sz)) 0 0 (va_A [(h0, .inr (10, [.ref bt, .int length])), (bt, .inl (kbt, 1600, .inl fbt))] sz) := by
  refine Met.ofW (cc := cX10_put) (maxL := 2) (ret := none) (by decide) rfl ?_
  intro p e s m args below meth c s₁ B hml hv
  obtain ⟨rfl, hsz, hP, hK, hD0, hz⟩ := hv
  have hx := B.exec
  have hb := B.bytes
  have hr := B.returns
  have hts := atoms_spec (ws := (.code yX10_put cX10_put 2 none :: wsGA)) B.pre
  have hown : s.vm.findClass RX10 = some m.cls := findClass_of_methodNamed B.named
  have hlocks := B.notSynchronized
  subst hsz
  have hD := hD0.self (sz := s.heap.size)
  generalize hAe : va_A [(h0, .inr (10, [.ref bt, .int length])), (bt, .inl (kbt, 1600, .inl fbt))] s.heap.size = A at hD ⊢
  have hA : ∀ q : Nat, s.heap.size ≤ q → A q := fun q h => by rw [← hAe]; exact Or.inr h
  have hS : va_S A s.heap s.heap [] := va_S.rf
  have hl := lv_entry ([.ref h0, .int p0]) (n := 2) (Nat.le_of_ble_eq_true rfl)
  rw [lg_entry_eq]
  generalize (lg_sl ([.ref h0, .int p0]) ++ List.replicate (2 - (lg_sl ([.ref h0, .int p0])).length) Slot.unset).toArray = ls at hl ⊢
  have hl : lv_has ls 2 [(0, .ref h0), (1, .int p0)] := hl
  obtain ⟨RES, hF⟩ : ∃ R9, fX10_put length fbt p0 = R9 := ⟨_, rfl⟩
  have hR9 := hF
  refine lv_aload_n hx hb dX10_put_0 rfl (lv_at hl 0 rfl) ?_
  refine va_get (D := (dC, dI)) (ci := 10) (v := .int length) (C := RX10) (T := TX10) (N := 2) hx hb hts (fun w h => List.mem_cons_of_mem _ (jnGA_X10 w h)) hown hK hP 0 rfl rfl 1 (by decide) (hts _ (List.mem_cons_of_mem _ mGA_64)) (fun _ h9 => h9) rfl dX10_put_1 ?_
  refine lv_sipush (v := 1596) hx hb dX10_put_4 (by decide) ?_
  refine lv_icmp_le (tgt := 11) hx hb dX10_put_7 (by decide) (fun c_37 => ?_) (fun c_37 => ?_)
  · have hF := gf_pos c_37 hF
    have g_38 : gi length 0 1596 := gi_le_l c_37 glength (gi_c 1596 1596 (by decide))
    refine lv_aload_n hx hb dX10_put_11 rfl (lv_at hl 0 rfl) ?_
    refine va_get (D := (dC, dI)) (ci := 10) (v := .ref bt) (C := RX10) (T := TX10) (N := 2) hx hb hts (fun w h => List.mem_cons_of_mem _ (jnGA_X10 w h)) hown hK hP 0 rfl rfl 0 (by decide) (hts _ (List.mem_cons_of_mem _ mGA_63)) (fun _ h9 => h9) rfl dX10_put_12 ?_
    refine lv_aload_n hx hb dX10_put_15 rfl (lv_at hl 0 rfl) ?_
    refine va_get (D := (dC, dI)) (ci := 10) (v := .int length) (C := RX10) (T := TX10) (N := 2) hx hb hts (fun w h => List.mem_cons_of_mem _ (jnGA_X10 w h)) hown hK hP 0 rfl rfl 1 (by decide) (hts _ (List.mem_cons_of_mem _ mGA_64)) (fun _ h9 => h9) rfl dX10_put_16 ?_
    refine lv_iload_n hx hb dX10_put_19 rfl (lv_at hl 1 rfl) ?_
    refine lv_bipush (v := 24) hx hb dX10_put_20 (by decide) ?_
    refine lv_iushr hx hb dX10_put_22 rfl ?_
    refine lv_topi (fun x_39 ex_39 => ?_)
    refine lv_i2b hx hb dX10_put_23 rfl ?_
    refine lv_topi (fun x_40 ex_40 => ?_)
    refine va_bast hx hb hK hP hD hS 1 0 rfl rfl (gi_in g_38 (by decide)) dX10_put_24 (fun H locs hP hD hS => ?_)
    have hP : va_P (dC, dI) vwCl [(h0, .inr (10, [.ref bt, .int length])), (bt, .inl (kbt, 1600, .inl (upd fbt (length : Int32).toNatClampNeg (vp_nar .byte x_40))))] H := hP
    have hD : va_D A [(h0, .inr (10, [.ref bt, .int length])), (bt, .inl (kbt, 1600, .inl (upd fbt (length : Int32).toNatClampNeg (vp_nar .byte x_40))))] := hD
    generalize ef_41 : upd fbt (length : Int32).toNatClampNeg (vp_nar .byte x_40) = f_41 at hP hD
    refine lv_aload_n hx hb dX10_put_25 rfl (lv_at hl 0 rfl) ?_
    refine va_get (D := (dC, dI)) (ci := 10) (v := .ref bt) (C := RX10) (T := TX10) (N := 2) hx hb hts (fun w h => List.mem_cons_of_mem _ (jnGA_X10 w h)) hown hK hP 0 rfl rfl 0 (by decide) (hts _ (List.mem_cons_of_mem _ mGA_63)) (fun _ h9 => h9) rfl dX10_put_26 ?_
    refine lv_aload_n hx hb dX10_put_29 rfl (lv_at hl 0 rfl) ?_
    refine va_get (D := (dC, dI)) (ci := 10) (v := .int length) (C := RX10) (T := TX10) (N := 2) hx hb hts (fun w h => List.mem_cons_of_mem _ (jnGA_X10 w h)) hown hK hP 0 rfl rfl 1 (by decide) (hts _ (List.mem_cons_of_mem _ mGA_64)) (fun _ h9 => h9) rfl dX10_put_30 ?_
    refine lv_iconst (v := 1) hx hb dX10_put_33 (by decide) ?_
    refine lv_iadd hx hb dX10_put_34 ?_
    refine lv_topi (fun x_42 ex_42 => ?_)
    have gx_42 : gi x_42 1 1597 := gi_add ex_42 g_38 (gi_c 1 1 (by decide)) (by decide)
    refine lv_iload_n hx hb dX10_put_35 rfl (lv_at hl 1 rfl) ?_
    refine lv_bipush (v := 16) hx hb dX10_put_36 (by decide) ?_
    refine lv_iushr hx hb dX10_put_38 rfl ?_
    refine lv_topi (fun x_43 ex_43 => ?_)
    refine lv_i2b hx hb dX10_put_39 rfl ?_
    refine lv_topi (fun x_44 ex_44 => ?_)
    refine va_bast hx hb hK hP hD hS 1 0 rfl rfl (gi_in gx_42 (by decide)) dX10_put_40 (fun H locs hP hD hS => ?_)
    have hP : va_P (dC, dI) vwCl [(h0, .inr (10, [.ref bt, .int length])), (bt, .inl (kbt, 1600, .inl (upd f_41 (x_42 : Int32).toNatClampNeg (vp_nar .byte x_44))))] H := hP
    have hD : va_D A [(h0, .inr (10, [.ref bt, .int length])), (bt, .inl (kbt, 1600, .inl (upd f_41 (x_42 : Int32).toNatClampNeg (vp_nar .byte x_44))))] := hD
    generalize ef_45 : upd f_41 (x_42 : Int32).toNatClampNeg (vp_nar .byte x_44) = f_45 at hP hD
    refine lv_aload_n hx hb dX10_put_41 rfl (lv_at hl 0 rfl) ?_
    refine va_get (D := (dC, dI)) (ci := 10) (v := .ref bt) (C := RX10) (T := TX10) (N := 2) hx hb hts (fun w h => List.mem_cons_of_mem _ (jnGA_X10 w h)) hown hK hP 0 rfl rfl 0 (by decide) (hts _ (List.mem_cons_of_mem _ mGA_63)) (fun _ h9 => h9) rfl dX10_put_42 ?_
    refine lv_aload_n hx hb dX10_put_45 rfl (lv_at hl 0 rfl) ?_
    refine va_get (D := (dC, dI)) (ci := 10) (v := .int length) (C := RX10) (T := TX10) (N := 2) hx hb hts (fun w h => List.mem_cons_of_mem _ (jnGA_X10 w h)) hown hK hP 0 rfl rfl 1 (by decide) (hts _ (List.mem_cons_of_mem _ mGA_64)) (fun _ h9 => h9) rfl dX10_put_46 ?_
    refine lv_iconst (v := 2) hx hb dX10_put_49 (by decide) ?_
    refine lv_iadd hx hb dX10_put_50 ?_
    refine lv_topi (fun x_46 ex_46 => ?_)
    have gx_46 : gi x_46 2 1598 := gi_add ex_46 g_38 (gi_c 2 2 (by decide)) (by decide)
    refine lv_iload_n hx hb dX10_put_51 rfl (lv_at hl 1 rfl) ?_
    refine lv_bipush (v := 8) hx hb dX10_put_52 (by decide) ?_
    refine lv_iushr hx hb dX10_put_54 rfl ?_
    refine lv_topi (fun x_47 ex_47 => ?_)
    refine lv_i2b hx hb dX10_put_55 rfl ?_
    refine lv_topi (fun x_48 ex_48 => ?_)
    refine va_bast hx hb hK hP hD hS 1 0 rfl rfl (gi_in gx_46 (by decide)) dX10_put_56 (fun H locs hP hD hS => ?_)
    have hP : va_P (dC, dI) vwCl [(h0, .inr (10, [.ref bt, .int length])), (bt, .inl (kbt, 1600, .inl (upd f_45 (x_46 : Int32).toNatClampNeg (vp_nar .byte x_48))))] H := hP
    have hD : va_D A [(h0, .inr (10, [.ref bt, .int length])), (bt, .inl (kbt, 1600, .inl (upd f_45 (x_46 : Int32).toNatClampNeg (vp_nar .byte x_48))))] := hD
    generalize ef_49 : upd f_45 (x_46 : Int32).toNatClampNeg (vp_nar .byte x_48) = f_49 at hP hD
    refine lv_aload_n hx hb dX10_put_57 rfl (lv_at hl 0 rfl) ?_
    refine va_get (D := (dC, dI)) (ci := 10) (v := .ref bt) (C := RX10) (T := TX10) (N := 2) hx hb hts (fun w h => List.mem_cons_of_mem _ (jnGA_X10 w h)) hown hK hP 0 rfl rfl 0 (by decide) (hts _ (List.mem_cons_of_mem _ mGA_63)) (fun _ h9 => h9) rfl dX10_put_58 ?_
    refine lv_aload_n hx hb dX10_put_61 rfl (lv_at hl 0 rfl) ?_
    refine va_get (D := (dC, dI)) (ci := 10) (v := .int length) (C := RX10) (T := TX10) (N := 2) hx hb hts (fun w h => List.mem_cons_of_mem _ (jnGA_X10 w h)) hown hK hP 0 rfl rfl 1 (by decide) (hts _ (List.mem_cons_of_mem _ mGA_64)) (fun _ h9 => h9) rfl dX10_put_62 ?_
    refine lv_iconst (v := 3) hx hb dX10_put_65 (by decide) ?_
    refine lv_iadd hx hb dX10_put_66 ?_
    refine lv_topi (fun x_50 ex_50 => ?_)
    have gx_50 : gi x_50 3 1599 := gi_add ex_50 g_38 (gi_c 3 3 (by decide)) (by decide)
    refine lv_iload_n hx hb dX10_put_67 rfl (lv_at hl 1 rfl) ?_
    refine lv_i2b hx hb dX10_put_68 rfl ?_
    refine lv_topi (fun x_51 ex_51 => ?_)
    refine va_bast hx hb hK hP hD hS 1 0 rfl rfl (gi_in gx_50 (by decide)) dX10_put_69 (fun H locs hP hD hS => ?_)
    have hP : va_P (dC, dI) vwCl [(h0, .inr (10, [.ref bt, .int length])), (bt, .inl (kbt, 1600, .inl (upd f_49 (x_50 : Int32).toNatClampNeg (vp_nar .byte x_51))))] H := hP
    have hD : va_D A [(h0, .inr (10, [.ref bt, .int length])), (bt, .inl (kbt, 1600, .inl (upd f_49 (x_50 : Int32).toNatClampNeg (vp_nar .byte x_51))))] := hD
    generalize ef_52 : upd f_49 (x_50 : Int32).toNatClampNeg (vp_nar .byte x_51) = f_52 at hP hD
    refine lv_aload_n hx hb dX10_put_70 rfl (lv_at hl 0 rfl) ?_
    refine lv_dup hx hb dX10_put_71 rfl ?_
    refine va_get (D := (dC, dI)) (ci := 10) (v := .int length) (C := RX10) (T := TX10) (N := 2) hx hb hts (fun w h => List.mem_cons_of_mem _ (jnGA_X10 w h)) hown hK hP 0 rfl rfl 1 (by decide) (hts _ (List.mem_cons_of_mem _ mGA_64)) (fun _ h9 => h9) rfl dX10_put_72 ?_
    refine lv_iconst (v := 4) hx hb dX10_put_75 (by decide) ?_
    refine lv_iadd hx hb dX10_put_76 ?_
    refine lv_topi (fun x_53 ex_53 => ?_)
    have gx_53 : gi x_53 4 1600 := gi_add ex_53 g_38 (gi_c 4 4 (by decide)) (by decide)
    refine va_put (D := (dC, dI)) (ci := 10) (v := .int x_53) (ty := .int) (C := RX10) (T := TX10) (N := 2) hx hb hts (fun w h => List.mem_cons_of_mem _ (jnGA_X10 w h)) tyX10 tyX10_ok nmX10 hown hK hP hD hS 0 rfl rfl 1 (by decide) (hts _ (List.mem_cons_of_mem _ mGA_64)) (fun _ h9 => h9) rfl (by decide +kernel) rfl rfl (Nat.le_of_ble_eq_true rfl) dX10_put_77 (fun H locs hP hD hS => ?_)
    have hP : va_P (dC, dI) vwCl [(h0, .inr (10, [.ref bt, .int x_53])), (bt, .inl (kbt, 1600, .inl f_52))] H := hP
    have hD : va_D A [(h0, .inr (10, [.ref bt, .int x_53])), (bt, .inl (kbt, 1600, .inl f_52))] := hD
    exact W.vret hx hb hr (fun t ht hW => ⟨⟨(), rfl, trivial, x_53, f_52, (gi_w gx_53 (by decide)), by have qgx_53 := gx_53.1; have rgx_53 := gx_53.2; have igx_53 : x_53.toInt = length.toInt + 4 := (by have hc4 : (4 : Int32).toInt = 4 := (by decide); have h9 := gi_addI ex_53 (by have h1 := g_38.1; have h2 := (gi_c 4 4 (by decide)).1; have h3 := g_38.2; have h4 := (gi_c 4 4 (by decide)).2; omega) (by have h1 := g_38.1; have h2 := (gi_c 4 4 (by decide)).1; have h3 := g_38.2; have h4 := (gi_c 4 4 (by decide)).2; omega); rw [hc4] at h9; exact h9); have qglength := g_38.1; have rglength := g_38.2; omega, by rw [ex_53, ← ef_52, ex_51, ex_50, ← ef_49, ex_48, ex_47, ex_46, ← ef_45, ex_44, ex_43, ex_42, ← ef_41, ex_40, ex_39]; exact hF.trans hR9.symm, by rw [ht]; exact hP, hD⟩, hS.F ht⟩) hS.2.2 dX10_put_80
  · have hF := gf_neg c_37 hF
    have g_54 : gi length 1597 1600 := gi_lt_r (Int32.not_le.mp c_37) (gi_c 1596 1596 (by decide)) glength (by decide)
    exact W.vret hx hb hr (fun t ht hW => ⟨⟨(), rfl, trivial, length, fbt, (gi_w g_54 (by decide)), by have qglength := g_54.1; have rglength := g_54.2; omega, hF.trans hR9.symm, by rw [ht]; exact hP, hD⟩, hS.F ht⟩) hS.2.2 dX10_put_10
theorem dX0_placeNamed_0 : decode cX0_placeNamed 0 = .ok (.iconst 0, 1) := by decide +kernel
theorem dX0_placeNamed_1 : decode cX0_placeNamed 1 = .ok (.istore_n 2, 1) := by decide +kernel
theorem dX0_placeNamed_2 : decode cX0_placeNamed 2 = .ok (.iload_n 2, 1) := by decide +kernel
theorem dX0_placeNamed_3 : decode cX0_placeNamed 3 = .ok (.aload_n 0, 1) := by decide +kernel
theorem dX0_placeNamed_4 : decode cX0_placeNamed 4 = .ok (.getfield 55, 3) := by decide +kernel
theorem dX0_placeNamed_7 : decode cX0_placeNamed 7 = .ok (.if_icmp .ge 24, 3) := by decide +kernel
theorem dX0_placeNamed_10 : decode cX0_placeNamed 10 = .ok (.aload_n 0, 1) := by decide +kernel
theorem dX0_placeNamed_11 : decode cX0_placeNamed 11 = .ok (.getfield 11, 3) := by decide +kernel
theorem dX0_placeNamed_14 : decode cX0_placeNamed 14 = .ok (.iload_n 2, 1) := by decide +kernel
theorem dX0_placeNamed_15 : decode cX0_placeNamed 15 = .ok (.aaload, 1) := by decide +kernel
theorem dX0_placeNamed_16 : decode cX0_placeNamed 16 = .ok (.getfield 67, 3) := by decide +kernel
theorem dX0_placeNamed_19 : decode cX0_placeNamed 19 = .ok (.iload_n 1, 1) := by decide +kernel
theorem dX0_placeNamed_20 : decode cX0_placeNamed 20 = .ok (.if_icmp .ne 5, 3) := by decide +kernel
theorem dX0_placeNamed_23 : decode cX0_placeNamed 23 = .ok (.iload_n 2, 1) := by decide +kernel
theorem dX0_placeNamed_24 : decode cX0_placeNamed 24 = .ok (.ireturn, 1) := by decide +kernel
theorem dX0_placeNamed_25 : decode cX0_placeNamed 25 = .ok (.iinc 2 1, 3) := by decide +kernel
theorem dX0_placeNamed_28 : decode cX0_placeNamed 28 = .ok (.goto (-26), 3) := by decide +kernel
theorem dX0_placeNamed_31 : decode cX0_placeNamed 31 = .ok (.iconst (-1), 1) := by decide +kernel
theorem dX0_placeNamed_32 : decode cX0_placeNamed 32 = .ok (.ireturn, 1) := by decide +kernel
noncomputable def dfX0_placeNamed_2 (aplaceCount : Int32) (p_name : Nat → Int32) (p1 : Int32) (K : (Int32 → Int32)) (v2 : Int32) : Int32 := if aplaceCount ≤ v2 then (-1 : Int32) else (if (p_name v2.toNatClampNeg) = p1 then v2 else (K (v2 + (1 : Int32))))
noncomputable def lfX0_placeNamed (aplaceCount : Int32) (p_name : Nat → Int32) (p1 : Int32) (z : Nat) : (Int32 → Int32) := Nat.rec (motive := fun _ => (Int32 → Int32)) (fun _ => (0)) (fun _ K => dfX0_placeNamed_2 aplaceCount p_name p1 K) z
noncomputable def fX0_placeNamed (aplaceCount : Int32) (p_name : Nat → Int32) (p1 : Int32) : Int32 := (lfX0_placeNamed aplaceCount p_name p1 1000000000) (0 : Int32)
set_option maxHeartbeats 4000000 in
set_option maxRecDepth 100000 in
theorem lp_sX0_placeNamed {p : Program} {l : Launch} {e : Env} {R : Room} {s : State} {m : MethodId} {args : Array Value} {below : List Frame} {meth : Method} {c : Code} {Q : State → Prop} {A : Nat → Prop} {cells slots : Nat} {dC : Nat → ClassId} {dI : Nat → Nat → Nat} {RES : Int32} (h0 : Nat) (pl : Nat) (amonths : Int32) (afull : Int32) (alean : Int32) (alines : Int32) (ahasMoon : Int32) (amoonStart : Int32) (amoonStep : Int32) (aplaceCount : Int32) (areportCount : Int32) (adeedCount : Int32) (re : Nat) (de : Nat) (kpl : ClassId) (pa : Nat → Nat) (p_name : Nat → Int32) (p_trust : Nat → Int32) (p1 : Int32) (gamonths : gi amonths 0 24) (gafull : gi afull 0 5) (galean : gi alean 0 5) (gahasMoon : gi ahasMoon 0 1) (gaplaceCount : gi aplaceCount 0 6) (gareportCount : gi areportCount 0 24) (gadeedCount : gi adeedCount 0 8) (hx : p.tables.exec = Jvm.exec) (hb : c.code = cX0_placeNamed) (hml : c.maxLocals = 3) (hown : s.vm.findClass RX0 = some m.cls) (hts : ∀ w ∈ ((.code yX0_placeNamed cX0_placeNamed 3 (some .int) :: wsGA) : List Cond), w.before args s = true) (hK : va_K (dC, dI) vwCl [(kpl, .object RX5)] s) (hz : nzA s) (hF0 : va_P (dC, dI) vwCl (gz_fam 6 pa 5 (fun i => [.int (p_name i), .int (p_trust i)])) s.heap) (hFA0 : gz_ap A (gz_fam 6 pa 5 (fun i => [.int (p_name i), .int (p_trust i)]))) (hRf : 0 ≤ R.frames) (hRl : 0 ≤ R.locals) (hRc : cells ≤ R.cells) (hRs : slots ≤ R.slots) (kr32 : ∀ (v : Int32) (H : Heap) (locs : List Loc) (ls : Array Slot), gi v (-1) (-1) → v = RES → va_P (dC, dI) vwCl [(h0, .inr (0, [.int amonths, .int afull, .int alean, .int alines, .int ahasMoon, .int amoonStart, .int amoonStep, .int aplaceCount, .int areportCount, .int adeedCount, .ref pl, .ref re, .ref de])), (pl, .inl (kpl, 6, .inr (.inr (.inr (.inr (fun i => some (pa i)))))))] H → va_S A s.heap H locs → lv_has ls 3 [] → W p l e R s m args below meth c H locs cells slots Q (F0 m 32 ls [.int v])) (kr24 : ∀ (v : Int32) (H : Heap) (locs : List Loc) (ls : Array Slot), gi v 0 5 → v = RES → va_P (dC, dI) vwCl [(h0, .inr (0, [.int amonths, .int afull, .int alean, .int alines, .int ahasMoon, .int amoonStart, .int amoonStep, .int aplaceCount, .int areportCount, .int adeedCount, .ref pl, .ref re, .ref de])), (pl, .inl (kpl, 6, .inr (.inr (.inr (.inr (fun i => some (pa i)))))))] H → va_S A s.heap H locs → lv_has ls 3 [] → W p l e R s m args below meth c H locs cells slots Q (F0 m 24 ls [.int v])) : ∀ z : Nat, (∀ (v2 : Int32) (H : Heap) (locs : List Loc) (ls : Array Slot), gi v2 0 6 → (lfX0_placeNamed aplaceCount p_name p1 z) v2 = RES → 13 + (-2) * v2.toInt < (z : Int) → va_P (dC, dI) vwCl [(h0, .inr (0, [.int amonths, .int afull, .int alean, .int alines, .int ahasMoon, .int amoonStart, .int amoonStep, .int aplaceCount, .int areportCount, .int adeedCount, .ref pl, .ref re, .ref de])), (pl, .inl (kpl, 6, .inr (.inr (.inr (.inr (fun i => some (pa i)))))))] H → va_S A s.heap H locs → lv_has ls 3 [(0, .ref h0), (1, .int p1), (2, .int v2)] → W p l e R s m args below meth c H locs cells slots Q (F0 m 2 ls [])) := by
  intro z
  induction z with
  | zero =>
    intro v2 H locs ls gv2 hF hmu hP hS hl
    exact absurd hmu (by have hv21 := gv2.1; have hv22 := gv2.2; omega)
  | succ z ih =>
      intro v2 H locs ls gv2 hF hmu hP hS hl
      have hF : dfX0_placeNamed_2 aplaceCount p_name p1 (lfX0_placeNamed aplaceCount p_name p1 z) v2 = RES := hF
      refine lv_iload_n hx hb dX0_placeNamed_2 rfl (lv_at hl 2 rfl) ?_
      refine lv_aload_n hx hb dX0_placeNamed_3 rfl (lv_at hl 0 rfl) ?_
      refine va_get (D := (dC, dI)) (ci := 0) (v := .int aplaceCount) (C := RX0) (T := TX0) (N := 13) hx hb hts (fun w h => List.mem_cons_of_mem _ (jnGA_X0 w h)) hown hK hP 0 rfl rfl 7 (by decide) (hts _ (List.mem_cons_of_mem _ mGA_159)) (fun _ h9 => h9) rfl dX0_placeNamed_4 ?_
      refine lv_icmp_ge (tgt := 31) hx hb dX0_placeNamed_7 (by decide) (fun c_43 => ?_) (fun c_43 => ?_)
      · have hF := gf_pos c_43 hF
        refine lv_iconst (v := (-1)) hx hb dX0_placeNamed_31 (by decide) ?_
        exact kr32 (-1) _ _ _ (gi_c (-1) (-1) (by decide)) hF hP hS (lv_sub hl [] rfl)
      · have hF := gf_neg c_43 hF
        have g_44 : gi v2 0 5 := gi_lt_l (Int32.not_le.mp c_43) gv2 gaplaceCount (by decide)
        have g_45 : gi aplaceCount 1 6 := gi_lt_r (Int32.not_le.mp c_43) gv2 gaplaceCount (by decide)
        refine lv_aload_n hx hb dX0_placeNamed_10 rfl (lv_at hl 0 rfl) ?_
        refine va_get (D := (dC, dI)) (ci := 0) (v := .ref pl) (C := RX0) (T := TX0) (N := 13) hx hb hts (fun w h => List.mem_cons_of_mem _ (jnGA_X0 w h)) hown hK hP 0 rfl rfl 10 (by decide) (hts _ (List.mem_cons_of_mem _ mGA_70)) (fun _ h9 => h9) rfl dX0_placeNamed_11 ?_
        refine lv_iload_n hx hb dX0_placeNamed_14 rfl (lv_at hl 2 rfl) ?_
        refine va_aldq hx hb hK hP 1 0 rfl rfl (gi_in g_44 (by decide)) dX0_placeNamed_15 ?_
        refine W.eq (g2 := F0 m 16 ls [.ref (pa v2.toNatClampNeg)]) rfl ?_
        refine va_get (D := (dC, dI)) (ci := 5) (v := .int (p_name v2.toNatClampNeg)) (C := RX5) (T := TX5) (N := 2) hx hb hts (fun w h => List.mem_cons_of_mem _ (jnGA_X5 w h)) hown hK (gz_ro hF0 hFA0 hS) (v2.toNatClampNeg) (gz_fam_at (gz_clt (gi_in (n := 6) g_44 (by decide)))) rfl 0 (by decide) (hts _ (List.mem_cons_of_mem _ mGA_302)) (fun _ h9 => h9) rfl dX0_placeNamed_16 ?_
        refine lv_topi (fun x_46 ex_46 => ?_)
        refine lv_iload_n hx hb dX0_placeNamed_19 rfl (lv_at hl 1 rfl) ?_
        refine lv_icmp_ne (tgt := 25) hx hb dX0_placeNamed_20 (by decide) (fun c_47 => ?_) (fun c_47 => ?_)
        · have hF := gf_neg (by rw [ex_46] at c_47; exact c_47) hF
          obtain ⟨x_48, ex_48⟩ : ∃ y : Int32, y = v2 + 1 := ⟨_, rfl⟩
          have gx_48 : gi x_48 1 6 := gi_add ex_48 g_44 (gi_c 1 1 (by decide)) (by decide)
          refine lv_iinc (v := x_48) (lv' := [(2, .int x_48), (0, .ref h0), (1, .int p1)]) hx hb dX0_placeNamed_25 hl (k := 2) rfl (by rw [ex_48]; rfl) (by decide) rfl (fun ls hl => ?_)
          refine lv_goto (tgt := 2) hx hb dX0_placeNamed_28 (by decide) ?_
          exact ih x_48 _ _ _ (gi_w gx_48 (by decide)) (by rw [ex_48]; exact hF) (by have av2 := gv2.1; have bv2 := gv2.2; have qgx_48 := gx_48.1; have rgx_48 := gx_48.2; have igx_48 : x_48.toInt = v2.toInt + 1 := (by have hc1 : (1 : Int32).toInt = 1 := (by decide); have h9 := gi_addI ex_48 (by have h1 := g_44.1; have h2 := (gi_c 1 1 (by decide)).1; have h3 := g_44.2; have h4 := (gi_c 1 1 (by decide)).2; omega) (by have h1 := g_44.1; have h2 := (gi_c 1 1 (by decide)).1; have h3 := g_44.2; have h4 := (gi_c 1 1 (by decide)).2; omega); rw [hc1] at h9; exact h9); have qgv2 := g_44.1; have rgv2 := g_44.2; omega) hP hS (lv_sub hl [1, 2, 0] rfl)
        · have hF := gf_pos (by rw [ex_46] at c_47; exact c_47) hF
          refine lv_iload_n hx hb dX0_placeNamed_23 rfl (lv_at hl 2 rfl) ?_
          exact kr24 v2 _ _ _ g_44 hF hP hS (lv_sub hl [] rfl)
set_option maxHeartbeats 4000000 in
set_option maxRecDepth 100000 in
theorem sX0_placeNamed (l : Launch) (dC : Nat → ClassId) (dI : Nat → Nat → Nat) (h0 : Nat) (pl : Nat) (amonths : Int32) (afull : Int32) (alean : Int32) (alines : Int32) (ahasMoon : Int32) (amoonStart : Int32) (amoonStep : Int32) (aplaceCount : Int32) (areportCount : Int32) (adeedCount : Int32) (re : Nat) (de : Nat) (kpl : ClassId) (pa : Nat → Nat) (p_name : Nat → Int32) (p_trust : Nat → Int32) (p1 : Int32) (gamonths : gi amonths 0 24) (gafull : gi afull 0 5) (galean : gi alean 0 5) (gahasMoon : gi ahasMoon 0 1) (gaplaceCount : gi aplaceCount 0 6) (gareportCount : gi areportCount 0 24) (gadeedCount : gi adeedCount 0 8) : Met l yX0_placeNamed (.code yX0_placeNamed cX0_placeNamed 3 (some .int) :: wsGA) ({ frames := 0, cells := 0, slots := 0, locals := 0 }) (va_Pc [.ref h0, .int p1] (fun U => va_P (dC, dI) vwCl [(h0, .inr (0, [.int amonths, .int afull, .int alean, .int alines, .int ahasMoon, .int amoonStart, .int amoonStep, .int aplaceCount, .int areportCount, .int adeedCount, .ref pl, .ref re, .ref de])), (pl, .inl (kpl, 6, .inr (.inr (.inr (.inr (fun i => some (pa i)))))))] U.heap ∧ va_K (dC, dI) vwCl [(kpl, .object RX5)] U ∧ nzA U ∧ va_P (dC, dI) vwCl (gz_fam 6 pa 5 (fun i => [.int (p_name i), .int (p_trust i)])) U.heap)) (va_Qi (fun (r : Int32) (u : Unit) => (gi r (-1) 5) ∧ r = fX0_placeNamed aplaceCount p_name p1) (fun _ _ => True) (fun _ => False)) 0 0 (fun _ => False) := by
  refine Met.ofW (cc := cX0_placeNamed) (maxL := 3) (ret := (some .int)) (by decide) rfl ?_
  intro p e s m args below meth c s₁ B hml hv
  obtain ⟨rfl, hP, hK, hz, hF0⟩ := hv
  have hx := B.exec
  have hb := B.bytes
  have hr := B.returns
  have hts := atoms_spec (ws := (.code yX0_placeNamed cX0_placeNamed 3 (some .int) :: wsGA)) B.pre
  have hown : s.vm.findClass RX0 = some m.cls := findClass_of_methodNamed B.named
  have hlocks := B.notSynchronized
  have hS : va_S (fun _ => False) s.heap s.heap [] := va_S.rf
  have hFA0 : gz_ap (fun _ => False) (gz_fam 6 pa 5 (fun i => [.int (p_name i), .int (p_trust i)])) := gz_ap0
  have hl := lv_entry ([.ref h0, .int p1]) (n := 3) (Nat.le_of_ble_eq_true rfl)
  rw [lg_entry_eq]
  generalize (lg_sl ([.ref h0, .int p1]) ++ List.replicate (3 - (lg_sl ([.ref h0, .int p1])).length) Slot.unset).toArray = ls at hl ⊢
  have hl : lv_has ls 3 [(0, .ref h0), (1, .int p1)] := hl
  obtain ⟨RES, hF⟩ : ∃ R9, fX0_placeNamed aplaceCount p_name p1 = R9 := ⟨_, rfl⟩
  have hR9 := hF
  refine lv_iconst (v := 0) hx hb dX0_placeNamed_0 (by decide) ?_
  refine lv_istore_n (lv' := [(2, .int 0), (0, .ref h0), (1, .int p1)]) hx hb dX0_placeNamed_1 rfl hl (by decide) rfl (fun ls hl => ?_)
  refine (lp_sX0_placeNamed h0 pl amonths afull alean alines ahasMoon amoonStart amoonStep aplaceCount areportCount adeedCount re de kpl pa p_name p_trust p1 gamonths gafull galean gahasMoon gaplaceCount gareportCount gadeedCount hx hb hml hown hts hK hz hF0 hFA0 (Nat.le_of_ble_eq_true rfl) (Nat.le_of_ble_eq_true rfl) (Nat.zero_le _) (Nat.zero_le _) (fun v H locs ls gv hF hP hS hl => ?_) (fun v H locs ls gv hF hP hS hl => ?_) 1000000000) 0 _ _ _ (gi_w (gi_c 0 0 (by decide)) (by decide)) hF (by have k0 : (0 : Int32).toInt = 0 := (by decide); omega) hP hS (lv_sub hl [1, 2, 0] rfl)
  · skip
    exact W.iret (v := v) hx hb hr (fun t ht hW => ⟨⟨v, (), rfl, ⟨(gi_w gv (by decide)), hF.trans hR9.symm⟩, trivial⟩, hS.F ht⟩) hS.2.2 dX0_placeNamed_32
  · skip
    exact W.iret (v := v) hx hb hr (fun t ht hW => ⟨⟨v, (), rfl, ⟨(gi_w gv (by decide)), hF.trans hR9.symm⟩, trivial⟩, hS.F ht⟩) hS.2.2 dX0_placeNamed_24
theorem dX0_namesAhead_0 : decode cX0_namesAhead 0 = .ok (.iconst 0, 1) := by decide +kernel
theorem dX0_namesAhead_1 : decode cX0_namesAhead 1 = .ok (.istore_n 2, 1) := by decide +kernel
theorem dX0_namesAhead_2 : decode cX0_namesAhead 2 = .ok (.iconst 0, 1) := by decide +kernel
theorem dX0_namesAhead_3 : decode cX0_namesAhead 3 = .ok (.istore_n 3, 1) := by decide +kernel
theorem dX0_namesAhead_4 : decode cX0_namesAhead 4 = .ok (.iload_n 3, 1) := by decide +kernel
theorem dX0_namesAhead_5 : decode cX0_namesAhead 5 = .ok (.aload_n 0, 1) := by decide +kernel
theorem dX0_namesAhead_6 : decode cX0_namesAhead 6 = .ok (.getfield 55, 3) := by decide +kernel
theorem dX0_namesAhead_9 : decode cX0_namesAhead 9 = .ok (.if_icmp .ge 33, 3) := by decide +kernel
theorem dX0_namesAhead_12 : decode cX0_namesAhead 12 = .ok (.aload_n 0, 1) := by decide +kernel
theorem dX0_namesAhead_13 : decode cX0_namesAhead 13 = .ok (.getfield 11, 3) := by decide +kernel
theorem dX0_namesAhead_16 : decode cX0_namesAhead 16 = .ok (.iload_n 3, 1) := by decide +kernel
theorem dX0_namesAhead_17 : decode cX0_namesAhead 17 = .ok (.aaload, 1) := by decide +kernel
theorem dX0_namesAhead_18 : decode cX0_namesAhead 18 = .ok (.getfield 67, 3) := by decide +kernel
theorem dX0_namesAhead_21 : decode cX0_namesAhead 21 = .ok (.aload_n 0, 1) := by decide +kernel
theorem dX0_namesAhead_22 : decode cX0_namesAhead 22 = .ok (.getfield 11, 3) := by decide +kernel
theorem dX0_namesAhead_25 : decode cX0_namesAhead 25 = .ok (.iload_n 1, 1) := by decide +kernel
theorem dX0_namesAhead_26 : decode cX0_namesAhead 26 = .ok (.aaload, 1) := by decide +kernel
theorem dX0_namesAhead_27 : decode cX0_namesAhead 27 = .ok (.getfield 67, 3) := by decide +kernel
theorem dX0_namesAhead_30 : decode cX0_namesAhead 30 = .ok (.if_icmp .ge 6, 3) := by decide +kernel
theorem dX0_namesAhead_33 : decode cX0_namesAhead 33 = .ok (.iinc 2 1, 3) := by decide +kernel
theorem dX0_namesAhead_36 : decode cX0_namesAhead 36 = .ok (.iinc 3 1, 3) := by decide +kernel
theorem dX0_namesAhead_39 : decode cX0_namesAhead 39 = .ok (.goto (-35), 3) := by decide +kernel
theorem dX0_namesAhead_42 : decode cX0_namesAhead 42 = .ok (.iload_n 2, 1) := by decide +kernel
theorem dX0_namesAhead_43 : decode cX0_namesAhead 43 = .ok (.ireturn, 1) := by decide +kernel
noncomputable def bfX0_namesAhead_36 (aplaceCount : Int32) (p_name : Nat → Int32) (p1 : Int32) (K : (Int32 → Int32 → Int32)) (v2 : Int32) (v3 : Int32) : Int32 := K v2 (v3 + (1 : Int32))
noncomputable def dfX0_namesAhead_4 (aplaceCount : Int32) (p_name : Nat → Int32) (p1 : Int32) (K : (Int32 → Int32 → Int32)) (v2 : Int32) (v3 : Int32) : Int32 := if aplaceCount ≤ v3 then v2 else (if (p_name p1.toNatClampNeg) ≤ (p_name v3.toNatClampNeg) then (bfX0_namesAhead_36 aplaceCount p_name p1 K v2 v3) else (bfX0_namesAhead_36 aplaceCount p_name p1 K (v2 + (1 : Int32)) v3))
noncomputable def lfX0_namesAhead (aplaceCount : Int32) (p_name : Nat → Int32) (p1 : Int32) (z : Nat) : (Int32 → Int32 → Int32) := Nat.rec (motive := fun _ => (Int32 → Int32 → Int32)) (fun _ _ => (0)) (fun _ K => dfX0_namesAhead_4 aplaceCount p_name p1 K) z
noncomputable def fX0_namesAhead (aplaceCount : Int32) (p_name : Nat → Int32) (p1 : Int32) : Int32 := (lfX0_namesAhead aplaceCount p_name p1 1000000000) (0 : Int32) (0 : Int32)
set_option maxHeartbeats 4000000 in
set_option maxRecDepth 100000 in
theorem lp_sX0_namesAhead {p : Program} {l : Launch} {e : Env} {R : Room} {s : State} {m : MethodId} {args : Array Value} {below : List Frame} {meth : Method} {c : Code} {Q : State → Prop} {A : Nat → Prop} {cells slots : Nat} {dC : Nat → ClassId} {dI : Nat → Nat → Nat} {RES : Int32} (h0 : Nat) (pl : Nat) (amonths : Int32) (afull : Int32) (alean : Int32) (alines : Int32) (ahasMoon : Int32) (amoonStart : Int32) (amoonStep : Int32) (aplaceCount : Int32) (areportCount : Int32) (adeedCount : Int32) (re : Nat) (de : Nat) (kpl : ClassId) (pa : Nat → Nat) (p_name : Nat → Int32) (p_trust : Nat → Int32) (p1 : Int32) (gamonths : gi amonths 0 24) (gafull : gi afull 0 5) (galean : gi alean 0 5) (gahasMoon : gi ahasMoon 0 1) (gaplaceCount : gi aplaceCount 0 6) (gareportCount : gi areportCount 0 24) (gadeedCount : gi adeedCount 0 8) (gp1 : gi p1 0 5) (hx : p.tables.exec = Jvm.exec) (hb : c.code = cX0_namesAhead) (hml : c.maxLocals = 4) (hown : s.vm.findClass RX0 = some m.cls) (hts : ∀ w ∈ ((.code yX0_namesAhead cX0_namesAhead 4 (some .int) :: wsGA) : List Cond), w.before args s = true) (hK : va_K (dC, dI) vwCl [(kpl, .object RX5)] s) (hz : nzA s) (hF0 : va_P (dC, dI) vwCl (gz_fam 6 pa 5 (fun i => [.int (p_name i), .int (p_trust i)])) s.heap) (hFA0 : gz_ap A (gz_fam 6 pa 5 (fun i => [.int (p_name i), .int (p_trust i)]))) (hRf : 0 ≤ R.frames) (hRl : 0 ≤ R.locals) (hRc : cells ≤ R.cells) (hRs : slots ≤ R.slots) (kr43 : ∀ (v : Int32) (H : Heap) (locs : List Loc) (ls : Array Slot), v = RES → va_P (dC, dI) vwCl [(h0, .inr (0, [.int amonths, .int afull, .int alean, .int alines, .int ahasMoon, .int amoonStart, .int amoonStep, .int aplaceCount, .int areportCount, .int adeedCount, .ref pl, .ref re, .ref de])), (pl, .inl (kpl, 6, .inr (.inr (.inr (.inr (fun i => some (pa i)))))))] H → va_S A s.heap H locs → lv_has ls 4 [] → W p l e R s m args below meth c H locs cells slots Q (F0 m 43 ls [.int v])) : ∀ z : Nat, (∀ (v2 : Int32) (v3 : Int32) (H : Heap) (locs : List Loc) (ls : Array Slot), gi v3 0 6 → (lfX0_namesAhead aplaceCount p_name p1 z) v2 v3 = RES → 13 + (-2) * v3.toInt < (z : Int) → va_P (dC, dI) vwCl [(h0, .inr (0, [.int amonths, .int afull, .int alean, .int alines, .int ahasMoon, .int amoonStart, .int amoonStep, .int aplaceCount, .int areportCount, .int adeedCount, .ref pl, .ref re, .ref de])), (pl, .inl (kpl, 6, .inr (.inr (.inr (.inr (fun i => some (pa i)))))))] H → va_S A s.heap H locs → lv_has ls 4 [(0, .ref h0), (1, .int p1), (2, .int v2), (3, .int v3)] → W p l e R s m args below meth c H locs cells slots Q (F0 m 4 ls [])) := by
  intro z
  induction z with
  | zero =>
    intro v2 v3 H locs ls gv3 hF hmu hP hS hl
    exact absurd hmu (by have hv31 := gv3.1; have hv32 := gv3.2; omega)
  | succ z ih =>
      intro v2 v3 H locs ls gv3 hF hmu hP hS hl
      have hF : dfX0_namesAhead_4 aplaceCount p_name p1 (lfX0_namesAhead aplaceCount p_name p1 z) v2 v3 = RES := hF
      refine lv_iload_n hx hb dX0_namesAhead_4 rfl (lv_at hl 3 rfl) ?_
      refine lv_aload_n hx hb dX0_namesAhead_5 rfl (lv_at hl 0 rfl) ?_
      refine va_get (D := (dC, dI)) (ci := 0) (v := .int aplaceCount) (C := RX0) (T := TX0) (N := 13) hx hb hts (fun w h => List.mem_cons_of_mem _ (jnGA_X0 w h)) hown hK hP 0 rfl rfl 7 (by decide) (hts _ (List.mem_cons_of_mem _ mGA_159)) (fun _ h9 => h9) rfl dX0_namesAhead_6 ?_
      refine lv_icmp_ge (tgt := 42) hx hb dX0_namesAhead_9 (by decide) (fun c_430 => ?_) (fun c_430 => ?_)
      · have hF := gf_pos c_430 hF
        refine lv_iload_n hx hb dX0_namesAhead_42 rfl (lv_at hl 2 rfl) ?_
        exact kr43 v2 _ _ _ hF hP hS (lv_sub hl [] rfl)
      · have hF := gf_neg c_430 hF
        have g_431 : gi v3 0 5 := gi_lt_l (Int32.not_le.mp c_430) gv3 gaplaceCount (by decide)
        have g_432 : gi aplaceCount 1 6 := gi_lt_r (Int32.not_le.mp c_430) gv3 gaplaceCount (by decide)
        refine lv_aload_n hx hb dX0_namesAhead_12 rfl (lv_at hl 0 rfl) ?_
        refine va_get (D := (dC, dI)) (ci := 0) (v := .ref pl) (C := RX0) (T := TX0) (N := 13) hx hb hts (fun w h => List.mem_cons_of_mem _ (jnGA_X0 w h)) hown hK hP 0 rfl rfl 10 (by decide) (hts _ (List.mem_cons_of_mem _ mGA_70)) (fun _ h9 => h9) rfl dX0_namesAhead_13 ?_
        refine lv_iload_n hx hb dX0_namesAhead_16 rfl (lv_at hl 3 rfl) ?_
        refine va_aldq hx hb hK hP 1 0 rfl rfl (gi_in g_431 (by decide)) dX0_namesAhead_17 ?_
        refine W.eq (g2 := F0 m 18 ls [.ref (pa v3.toNatClampNeg)]) rfl ?_
        refine va_get (D := (dC, dI)) (ci := 5) (v := .int (p_name v3.toNatClampNeg)) (C := RX5) (T := TX5) (N := 2) hx hb hts (fun w h => List.mem_cons_of_mem _ (jnGA_X5 w h)) hown hK (gz_ro hF0 hFA0 hS) (v3.toNatClampNeg) (gz_fam_at (gz_clt (gi_in (n := 6) g_431 (by decide)))) rfl 0 (by decide) (hts _ (List.mem_cons_of_mem _ mGA_302)) (fun _ h9 => h9) rfl dX0_namesAhead_18 ?_
        refine lv_topi (fun x_433 ex_433 => ?_)
        refine lv_aload_n hx hb dX0_namesAhead_21 rfl (lv_at hl 0 rfl) ?_
        refine va_get (D := (dC, dI)) (ci := 0) (v := .ref pl) (C := RX0) (T := TX0) (N := 13) hx hb hts (fun w h => List.mem_cons_of_mem _ (jnGA_X0 w h)) hown hK hP 0 rfl rfl 10 (by decide) (hts _ (List.mem_cons_of_mem _ mGA_70)) (fun _ h9 => h9) rfl dX0_namesAhead_22 ?_
        refine lv_iload_n hx hb dX0_namesAhead_25 rfl (lv_at hl 1 rfl) ?_
        refine va_aldq hx hb hK hP 1 0 rfl rfl (gi_in gp1 (by decide)) dX0_namesAhead_26 ?_
        refine W.eq (g2 := F0 m 27 ls [.ref (pa p1.toNatClampNeg), .int x_433]) rfl ?_
        refine va_get (D := (dC, dI)) (ci := 5) (v := .int (p_name p1.toNatClampNeg)) (C := RX5) (T := TX5) (N := 2) hx hb hts (fun w h => List.mem_cons_of_mem _ (jnGA_X5 w h)) hown hK (gz_ro hF0 hFA0 hS) (p1.toNatClampNeg) (gz_fam_at (gz_clt (gi_in (n := 6) gp1 (by decide)))) rfl 0 (by decide) (hts _ (List.mem_cons_of_mem _ mGA_302)) (fun _ h9 => h9) rfl dX0_namesAhead_27 ?_
        refine lv_topi (fun x_434 ex_434 => ?_)
        refine lv_icmp_ge (tgt := 36) hx hb dX0_namesAhead_30 (by decide) (fun c_435 => ?_) (fun c_435 => ?_)
        · have hF := gf_pos (by rw [ex_434, ex_433] at c_435; exact c_435) hF
          obtain ⟨x_436, ex_436⟩ : ∃ y : Int32, y = v3 + 1 := ⟨_, rfl⟩
          have gx_436 : gi x_436 1 6 := gi_add ex_436 g_431 (gi_c 1 1 (by decide)) (by decide)
          refine lv_iinc (v := x_436) (lv' := [(3, .int x_436), (0, .ref h0), (1, .int p1), (2, .int v2)]) hx hb dX0_namesAhead_36 hl (k := 3) rfl (by rw [ex_436]; rfl) (by decide) rfl (fun ls hl => ?_)
          refine lv_goto (tgt := 4) hx hb dX0_namesAhead_39 (by decide) ?_
          exact ih v2 x_436 _ _ _ (gi_w gx_436 (by decide)) (by rw [ex_436]; exact hF) (by have av3 := gv3.1; have bv3 := gv3.2; have qgx_436 := gx_436.1; have rgx_436 := gx_436.2; have igx_436 : x_436.toInt = v3.toInt + 1 := (by have hc1 : (1 : Int32).toInt = 1 := (by decide); have h9 := gi_addI ex_436 (by have h1 := g_431.1; have h2 := (gi_c 1 1 (by decide)).1; have h3 := g_431.2; have h4 := (gi_c 1 1 (by decide)).2; omega) (by have h1 := g_431.1; have h2 := (gi_c 1 1 (by decide)).1; have h3 := g_431.2; have h4 := (gi_c 1 1 (by decide)).2; omega); rw [hc1] at h9; exact h9); have qgv3 := g_431.1; have rgv3 := g_431.2; omega) hP hS (lv_sub hl [1, 2, 3, 0] rfl)
        · have hF := gf_neg (by rw [ex_434, ex_433] at c_435; exact c_435) hF
          have g_437 : gi x_433 (-2147483648) 2147483646 := gi_lt_l (Int32.not_le.mp c_435) (gi_any x_433) (gi_any x_434) (by decide)
          have g_438 : gi x_434 (-2147483647) 2147483647 := gi_lt_r (Int32.not_le.mp c_435) (gi_any x_433) (gi_any x_434) (by decide)
          obtain ⟨x_439, ex_439⟩ : ∃ y : Int32, y = v2 + 1 := ⟨_, rfl⟩
          refine lv_iinc (v := x_439) (lv' := [(2, .int x_439), (0, .ref h0), (1, .int p1), (3, .int v3)]) hx hb dX0_namesAhead_33 hl (k := 2) rfl (by rw [ex_439]; rfl) (by decide) rfl (fun ls hl => ?_)
          obtain ⟨x_440, ex_440⟩ : ∃ y : Int32, y = v3 + 1 := ⟨_, rfl⟩
          have gx_440 : gi x_440 1 6 := gi_add ex_440 g_431 (gi_c 1 1 (by decide)) (by decide)
          refine lv_iinc (v := x_440) (lv' := [(3, .int x_440), (2, .int x_439), (0, .ref h0), (1, .int p1)]) hx hb dX0_namesAhead_36 hl (k := 3) rfl (by rw [ex_440]; rfl) (by decide) rfl (fun ls hl => ?_)
          refine lv_goto (tgt := 4) hx hb dX0_namesAhead_39 (by decide) ?_
          exact ih x_439 x_440 _ _ _ (gi_w gx_440 (by decide)) (by rw [ex_440, ex_439]; exact hF) (by have av3 := gv3.1; have bv3 := gv3.2; have qgx_440 := gx_440.1; have rgx_440 := gx_440.2; have igx_440 : x_440.toInt = v3.toInt + 1 := (by have hc1 : (1 : Int32).toInt = 1 := (by decide); have h9 := gi_addI ex_440 (by have h1 := g_431.1; have h2 := (gi_c 1 1 (by decide)).1; have h3 := g_431.2; have h4 := (gi_c 1 1 (by decide)).2; omega) (by have h1 := g_431.1; have h2 := (gi_c 1 1 (by decide)).1; have h3 := g_431.2; have h4 := (gi_c 1 1 (by decide)).2; omega); rw [hc1] at h9; exact h9); have qgv3 := g_431.1; have rgv3 := g_431.2; omega) hP hS (lv_sub hl [2, 3, 1, 0] rfl)
set_option maxHeartbeats 4000000 in
set_option maxRecDepth 100000 in
theorem sX0_namesAhead (l : Launch) (dC : Nat → ClassId) (dI : Nat → Nat → Nat) (h0 : Nat) (pl : Nat) (amonths : Int32) (afull : Int32) (alean : Int32) (alines : Int32) (ahasMoon : Int32) (amoonStart : Int32) (amoonStep : Int32) (aplaceCount : Int32) (areportCount : Int32) (adeedCount : Int32) (re : Nat) (de : Nat) (kpl : ClassId) (pa : Nat → Nat) (p_name : Nat → Int32) (p_trust : Nat → Int32) (p1 : Int32) (gamonths : gi amonths 0 24) (gafull : gi afull 0 5) (galean : gi alean 0 5) (gahasMoon : gi ahasMoon 0 1) (gaplaceCount : gi aplaceCount 0 6) (gareportCount : gi areportCount 0 24) (gadeedCount : gi adeedCount 0 8) (gp1 : gi p1 0 5) : Met l yX0_namesAhead (.code yX0_namesAhead cX0_namesAhead 4 (some .int) :: wsGA) ({ frames := 0, cells := 0, slots := 0, locals := 0 }) (va_Pc [.ref h0, .int p1] (fun U => va_P (dC, dI) vwCl [(h0, .inr (0, [.int amonths, .int afull, .int alean, .int alines, .int ahasMoon, .int amoonStart, .int amoonStep, .int aplaceCount, .int areportCount, .int adeedCount, .ref pl, .ref re, .ref de])), (pl, .inl (kpl, 6, .inr (.inr (.inr (.inr (fun i => some (pa i)))))))] U.heap ∧ va_K (dC, dI) vwCl [(kpl, .object RX5)] U ∧ nzA U ∧ va_P (dC, dI) vwCl (gz_fam 6 pa 5 (fun i => [.int (p_name i), .int (p_trust i)])) U.heap)) (va_Qi (fun (r : Int32) (u : Unit) => (gi r (-2147483648) 2147483647) ∧ r = fX0_namesAhead aplaceCount p_name p1) (fun _ _ => True) (fun _ => False)) 0 0 (fun _ => False) := by
  refine Met.ofW (cc := cX0_namesAhead) (maxL := 4) (ret := (some .int)) (by decide) rfl ?_
  intro p e s m args below meth c s₁ B hml hv
  obtain ⟨rfl, hP, hK, hz, hF0⟩ := hv
  have hx := B.exec
  have hb := B.bytes
  have hr := B.returns
  have hts := atoms_spec (ws := (.code yX0_namesAhead cX0_namesAhead 4 (some .int) :: wsGA)) B.pre
  have hown : s.vm.findClass RX0 = some m.cls := findClass_of_methodNamed B.named
  have hlocks := B.notSynchronized
  have hS : va_S (fun _ => False) s.heap s.heap [] := va_S.rf
  have hFA0 : gz_ap (fun _ => False) (gz_fam 6 pa 5 (fun i => [.int (p_name i), .int (p_trust i)])) := gz_ap0
  have hl := lv_entry ([.ref h0, .int p1]) (n := 4) (Nat.le_of_ble_eq_true rfl)
  rw [lg_entry_eq]
  generalize (lg_sl ([.ref h0, .int p1]) ++ List.replicate (4 - (lg_sl ([.ref h0, .int p1])).length) Slot.unset).toArray = ls at hl ⊢
  have hl : lv_has ls 4 [(0, .ref h0), (1, .int p1)] := hl
  obtain ⟨RES, hF⟩ : ∃ R9, fX0_namesAhead aplaceCount p_name p1 = R9 := ⟨_, rfl⟩
  have hR9 := hF
  refine lv_iconst (v := 0) hx hb dX0_namesAhead_0 (by decide) ?_
  refine lv_istore_n (lv' := [(2, .int 0), (0, .ref h0), (1, .int p1)]) hx hb dX0_namesAhead_1 rfl hl (by decide) rfl (fun ls hl => ?_)
  refine lv_iconst (v := 0) hx hb dX0_namesAhead_2 (by decide) ?_
  refine lv_istore_n (lv' := [(3, .int 0), (2, .int 0), (0, .ref h0), (1, .int p1)]) hx hb dX0_namesAhead_3 rfl hl (by decide) rfl (fun ls hl => ?_)
  refine (lp_sX0_namesAhead h0 pl amonths afull alean alines ahasMoon amoonStart amoonStep aplaceCount areportCount adeedCount re de kpl pa p_name p_trust p1 gamonths gafull galean gahasMoon gaplaceCount gareportCount gadeedCount gp1 hx hb hml hown hts hK hz hF0 hFA0 (Nat.le_of_ble_eq_true rfl) (Nat.le_of_ble_eq_true rfl) (Nat.zero_le _) (Nat.zero_le _) (fun v H locs ls hF hP hS hl => ?_) 1000000000) 0 0 _ _ _ (gi_w (gi_c 0 0 (by decide)) (by decide)) hF (by have k0 : (0 : Int32).toInt = 0 := (by decide); omega) hP hS (lv_sub hl [2, 3, 1, 0] rfl)
  · skip
    exact W.iret (v := v) hx hb hr (fun t ht hW => ⟨⟨v, (), rfl, ⟨(gi_any v), hF.trans hR9.symm⟩, trivial⟩, hS.F ht⟩) hS.2.2 dX0_namesAhead_43
theorem dX0_standingOf_0 : decode cX0_standingOf 0 = .ok (.iconst 0, 1) := by decide +kernel
theorem dX0_standingOf_1 : decode cX0_standingOf 1 = .ok (.istore_n 2, 1) := by decide +kernel
theorem dX0_standingOf_2 : decode cX0_standingOf 2 = .ok (.iconst 0, 1) := by decide +kernel
theorem dX0_standingOf_3 : decode cX0_standingOf 3 = .ok (.istore_n 3, 1) := by decide +kernel
theorem dX0_standingOf_4 : decode cX0_standingOf 4 = .ok (.iload_n 3, 1) := by decide +kernel
theorem dX0_standingOf_5 : decode cX0_standingOf 5 = .ok (.aload_n 0, 1) := by decide +kernel
theorem dX0_standingOf_6 : decode cX0_standingOf 6 = .ok (.getfield 58, 3) := by decide +kernel
theorem dX0_standingOf_9 : decode cX0_standingOf 9 = .ok (.if_icmp .ge 37, 3) := by decide +kernel
theorem dX0_standingOf_12 : decode cX0_standingOf 12 = .ok (.aload_n 0, 1) := by decide +kernel
theorem dX0_standingOf_13 : decode cX0_standingOf 13 = .ok (.getfield 19, 3) := by decide +kernel
theorem dX0_standingOf_16 : decode cX0_standingOf 16 = .ok (.iload_n 3, 1) := by decide +kernel
theorem dX0_standingOf_17 : decode cX0_standingOf 17 = .ok (.aaload, 1) := by decide +kernel
theorem dX0_standingOf_18 : decode cX0_standingOf 18 = .ok (.getfield 77, 3) := by decide +kernel
theorem dX0_standingOf_21 : decode cX0_standingOf 21 = .ok (.iload_n 1, 1) := by decide +kernel
theorem dX0_standingOf_22 : decode cX0_standingOf 22 = .ok (.if_icmp .ne 18, 3) := by decide +kernel
theorem dX0_standingOf_25 : decode cX0_standingOf 25 = .ok (.aload_n 0, 1) := by decide +kernel
theorem dX0_standingOf_26 : decode cX0_standingOf 26 = .ok (.getfield 19, 3) := by decide +kernel
theorem dX0_standingOf_29 : decode cX0_standingOf 29 = .ok (.iload_n 3, 1) := by decide +kernel
theorem dX0_standingOf_30 : decode cX0_standingOf 30 = .ok (.aaload, 1) := by decide +kernel
theorem dX0_standingOf_31 : decode cX0_standingOf 31 = .ok (.getfield 96, 3) := by decide +kernel
theorem dX0_standingOf_34 : decode cX0_standingOf 34 = .ok (.ifCond .ne 6, 3) := by decide +kernel
theorem dX0_standingOf_37 : decode cX0_standingOf 37 = .ok (.iinc 2 1, 3) := by decide +kernel
theorem dX0_standingOf_40 : decode cX0_standingOf 40 = .ok (.iinc 3 1, 3) := by decide +kernel
theorem dX0_standingOf_43 : decode cX0_standingOf 43 = .ok (.goto (-39), 3) := by decide +kernel
theorem dX0_standingOf_46 : decode cX0_standingOf 46 = .ok (.iload_n 2, 1) := by decide +kernel
theorem dX0_standingOf_47 : decode cX0_standingOf 47 = .ok (.ireturn, 1) := by decide +kernel
noncomputable def bfX0_standingOf_40 (areportCount : Int32) (r_place : Nat → Int32) (r_struck : Nat → Int32) (p1 : Int32) (K : (Int32 → Int32 → Int32)) (v2 : Int32) (v3 : Int32) : Int32 := K v2 (v3 + (1 : Int32))
noncomputable def dfX0_standingOf_4 (areportCount : Int32) (r_place : Nat → Int32) (r_struck : Nat → Int32) (p1 : Int32) (K : (Int32 → Int32 → Int32)) (v2 : Int32) (v3 : Int32) : Int32 := if areportCount ≤ v3 then v2 else (if (r_place v3.toNatClampNeg) = p1 then (if (r_struck v3.toNatClampNeg) = (0 : Int32) then (bfX0_standingOf_40 areportCount r_place r_struck p1 K (v2 + (1 : Int32)) v3) else (bfX0_standingOf_40 areportCount r_place r_struck p1 K v2 v3)) else (bfX0_standingOf_40 areportCount r_place r_struck p1 K v2 v3))
noncomputable def lfX0_standingOf (areportCount : Int32) (r_place : Nat → Int32) (r_struck : Nat → Int32) (p1 : Int32) (z : Nat) : (Int32 → Int32 → Int32) := Nat.rec (motive := fun _ => (Int32 → Int32 → Int32)) (fun _ _ => (0)) (fun _ K => dfX0_standingOf_4 areportCount r_place r_struck p1 K) z
noncomputable def fX0_standingOf (areportCount : Int32) (r_place : Nat → Int32) (r_struck : Nat → Int32) (p1 : Int32) : Int32 := (lfX0_standingOf areportCount r_place r_struck p1 1000000000) (0 : Int32) (0 : Int32)
set_option maxHeartbeats 4000000 in
set_option maxRecDepth 100000 in
theorem lp_sX0_standingOf {p : Program} {l : Launch} {e : Env} {R : Room} {s : State} {m : MethodId} {args : Array Value} {below : List Frame} {meth : Method} {c : Code} {Q : State → Prop} {A : Nat → Prop} {cells slots : Nat} {dC : Nat → ClassId} {dI : Nat → Nat → Nat} {RES : Int32} (h0 : Nat) (re : Nat) (amonths : Int32) (afull : Int32) (alean : Int32) (alines : Int32) (ahasMoon : Int32) (amoonStart : Int32) (amoonStep : Int32) (aplaceCount : Int32) (areportCount : Int32) (adeedCount : Int32) (pl : Nat) (de : Nat) (kre : ClassId) (ra : Nat → Nat) (r_place : Nat → Int32) (r_kind : Nat → Int32) (r_month : Nat → Int32) (r_day : Nat → Int32) (r_known : Nat → Int32) (r_struck : Nat → Int32) (p1 : Int32) (gamonths : gi amonths 0 24) (gafull : gi afull 0 5) (galean : gi alean 0 5) (gahasMoon : gi ahasMoon 0 1) (gaplaceCount : gi aplaceCount 0 6) (gareportCount : gi areportCount 0 24) (gadeedCount : gi adeedCount 0 8) (gr_place : ga r_place 24 0 5) (gr_month : ga r_month 24 0 23) (gr_struck : ga r_struck 24 0 1) (hx : p.tables.exec = Jvm.exec) (hb : c.code = cX0_standingOf) (hml : c.maxLocals = 4) (hown : s.vm.findClass RX0 = some m.cls) (hts : ∀ w ∈ ((.code yX0_standingOf cX0_standingOf 4 (some .int) :: wsGA) : List Cond), w.before args s = true) (hK : va_K (dC, dI) vwCl [(kre, .object RX7)] s) (hz : nzA s) (hF0 : va_P (dC, dI) vwCl (gz_fam 24 ra 7 (fun i => [.int (r_place i), .int (r_kind i), .int (r_month i), .int (r_day i), .int (r_known i), .int (r_struck i)])) s.heap) (hFA0 : gz_ap A (gz_fam 24 ra 7 (fun i => [.int (r_place i), .int (r_kind i), .int (r_month i), .int (r_day i), .int (r_known i), .int (r_struck i)]))) (hRf : 0 ≤ R.frames) (hRl : 0 ≤ R.locals) (hRc : cells ≤ R.cells) (hRs : slots ≤ R.slots) (kr47 : ∀ (v : Int32) (H : Heap) (locs : List Loc) (ls : Array Slot), v = RES → va_P (dC, dI) vwCl [(h0, .inr (0, [.int amonths, .int afull, .int alean, .int alines, .int ahasMoon, .int amoonStart, .int amoonStep, .int aplaceCount, .int areportCount, .int adeedCount, .ref pl, .ref re, .ref de])), (re, .inl (kre, 24, .inr (.inr (.inr (.inr (fun i => some (ra i)))))))] H → va_S A s.heap H locs → lv_has ls 4 [] → W p l e R s m args below meth c H locs cells slots Q (F0 m 47 ls [.int v])) : ∀ z : Nat, (∀ (v2 : Int32) (v3 : Int32) (H : Heap) (locs : List Loc) (ls : Array Slot), gi v3 0 24 → (lfX0_standingOf areportCount r_place r_struck p1 z) v2 v3 = RES → 49 + (-2) * v3.toInt < (z : Int) → va_P (dC, dI) vwCl [(h0, .inr (0, [.int amonths, .int afull, .int alean, .int alines, .int ahasMoon, .int amoonStart, .int amoonStep, .int aplaceCount, .int areportCount, .int adeedCount, .ref pl, .ref re, .ref de])), (re, .inl (kre, 24, .inr (.inr (.inr (.inr (fun i => some (ra i)))))))] H → va_S A s.heap H locs → lv_has ls 4 [(0, .ref h0), (1, .int p1), (2, .int v2), (3, .int v3)] → W p l e R s m args below meth c H locs cells slots Q (F0 m 4 ls [])) := by
  intro z
  induction z with
  | zero =>
    intro v2 v3 H locs ls gv3 hF hmu hP hS hl
    exact absurd hmu (by have hv31 := gv3.1; have hv32 := gv3.2; omega)
  | succ z ih =>
      intro v2 v3 H locs ls gv3 hF hmu hP hS hl
      have hF : dfX0_standingOf_4 areportCount r_place r_struck p1 (lfX0_standingOf areportCount r_place r_struck p1 z) v2 v3 = RES := hF
      refine lv_iload_n hx hb dX0_standingOf_4 rfl (lv_at hl 3 rfl) ?_
      refine lv_aload_n hx hb dX0_standingOf_5 rfl (lv_at hl 0 rfl) ?_
      refine va_get (D := (dC, dI)) (ci := 0) (v := .int areportCount) (C := RX0) (T := TX0) (N := 13) hx hb hts (fun w h => List.mem_cons_of_mem _ (jnGA_X0 w h)) hown hK hP 0 rfl rfl 8 (by decide) (hts _ (List.mem_cons_of_mem _ mGA_160)) (fun _ h9 => h9) rfl dX0_standingOf_6 ?_
      refine lv_icmp_ge (tgt := 46) hx hb dX0_standingOf_9 (by decide) (fun c_547 => ?_) (fun c_547 => ?_)
      · have hF := gf_pos c_547 hF
        refine lv_iload_n hx hb dX0_standingOf_46 rfl (lv_at hl 2 rfl) ?_
        exact kr47 v2 _ _ _ hF hP hS (lv_sub hl [] rfl)
      · have hF := gf_neg c_547 hF
        have g_548 : gi v3 0 23 := gi_lt_l (Int32.not_le.mp c_547) gv3 gareportCount (by decide)
        have g_549 : gi areportCount 1 24 := gi_lt_r (Int32.not_le.mp c_547) gv3 gareportCount (by decide)
        refine lv_aload_n hx hb dX0_standingOf_12 rfl (lv_at hl 0 rfl) ?_
        refine va_get (D := (dC, dI)) (ci := 0) (v := .ref re) (C := RX0) (T := TX0) (N := 13) hx hb hts (fun w h => List.mem_cons_of_mem _ (jnGA_X0 w h)) hown hK hP 0 rfl rfl 11 (by decide) (hts _ (List.mem_cons_of_mem _ mGA_72)) (fun _ h9 => h9) rfl dX0_standingOf_13 ?_
        refine lv_iload_n hx hb dX0_standingOf_16 rfl (lv_at hl 3 rfl) ?_
        refine va_aldq hx hb hK hP 1 0 rfl rfl (gi_in g_548 (by decide)) dX0_standingOf_17 ?_
        refine W.eq (g2 := F0 m 18 ls [.ref (ra v3.toNatClampNeg)]) rfl ?_
        refine va_get (D := (dC, dI)) (ci := 7) (v := .int (r_place v3.toNatClampNeg)) (C := RX7) (T := TX7) (N := 6) hx hb hts (fun w h => List.mem_cons_of_mem _ (jnGA_X7 w h)) hown hK (gz_ro hF0 hFA0 hS) (v3.toNatClampNeg) (gz_fam_at (gz_clt (gi_in (n := 24) g_548 (by decide)))) rfl 0 (by decide) (hts _ (List.mem_cons_of_mem _ mGA_317)) (fun _ h9 => h9) rfl dX0_standingOf_18 ?_
        refine lv_topi (fun x_550 ex_550 => ?_)
        have gx_550 : gi x_550 0 5 := ga_at gr_place (gi_in (n := 24) g_548 (by decide)) ex_550
        refine lv_iload_n hx hb dX0_standingOf_21 rfl (lv_at hl 1 rfl) ?_
        refine lv_icmp_ne (tgt := 40) hx hb dX0_standingOf_22 (by decide) (fun c_551 => ?_) (fun c_551 => ?_)
        · have hF := gf_neg (by rw [ex_550] at c_551; exact c_551) hF
          obtain ⟨x_552, ex_552⟩ : ∃ y : Int32, y = v3 + 1 := ⟨_, rfl⟩
          have gx_552 : gi x_552 1 24 := gi_add ex_552 g_548 (gi_c 1 1 (by decide)) (by decide)
          refine lv_iinc (v := x_552) (lv' := [(3, .int x_552), (0, .ref h0), (1, .int p1), (2, .int v2)]) hx hb dX0_standingOf_40 hl (k := 3) rfl (by rw [ex_552]; rfl) (by decide) rfl (fun ls hl => ?_)
          refine lv_goto (tgt := 4) hx hb dX0_standingOf_43 (by decide) ?_
          exact ih v2 x_552 _ _ _ (gi_w gx_552 (by decide)) (by rw [ex_552]; exact hF) (by have av3 := gv3.1; have bv3 := gv3.2; have qgx_552 := gx_552.1; have rgx_552 := gx_552.2; have igx_552 : x_552.toInt = v3.toInt + 1 := (by have hc1 : (1 : Int32).toInt = 1 := (by decide); have h9 := gi_addI ex_552 (by have h1 := g_548.1; have h2 := (gi_c 1 1 (by decide)).1; have h3 := g_548.2; have h4 := (gi_c 1 1 (by decide)).2; omega) (by have h1 := g_548.1; have h2 := (gi_c 1 1 (by decide)).1; have h3 := g_548.2; have h4 := (gi_c 1 1 (by decide)).2; omega); rw [hc1] at h9; exact h9); have qgv3 := g_548.1; have rgv3 := g_548.2; omega) hP hS (lv_sub hl [1, 2, 3, 0] rfl)
        · have hF := gf_pos (by rw [ex_550] at c_551; exact c_551) hF
          have g_553 : gi p1 0 5 := gi_eq c_551.symm gx_550
          refine lv_aload_n hx hb dX0_standingOf_25 rfl (lv_at hl 0 rfl) ?_
          refine va_get (D := (dC, dI)) (ci := 0) (v := .ref re) (C := RX0) (T := TX0) (N := 13) hx hb hts (fun w h => List.mem_cons_of_mem _ (jnGA_X0 w h)) hown hK hP 0 rfl rfl 11 (by decide) (hts _ (List.mem_cons_of_mem _ mGA_72)) (fun _ h9 => h9) rfl dX0_standingOf_26 ?_
          refine lv_iload_n hx hb dX0_standingOf_29 rfl (lv_at hl 3 rfl) ?_
          refine va_aldq hx hb hK hP 1 0 rfl rfl (gi_in g_548 (by decide)) dX0_standingOf_30 ?_
          refine W.eq (g2 := F0 m 31 ls [.ref (ra v3.toNatClampNeg)]) rfl ?_
          refine va_get (D := (dC, dI)) (ci := 7) (v := .int (r_struck v3.toNatClampNeg)) (C := RX7) (T := TX7) (N := 6) hx hb hts (fun w h => List.mem_cons_of_mem _ (jnGA_X7 w h)) hown hK (gz_ro hF0 hFA0 hS) (v3.toNatClampNeg) (gz_fam_at (gz_clt (gi_in (n := 24) g_548 (by decide)))) rfl 5 (by decide) (hts _ (List.mem_cons_of_mem _ mGA_322)) (fun _ h9 => h9) rfl dX0_standingOf_31 ?_
          refine lv_topi (fun x_554 ex_554 => ?_)
          have gx_554 : gi x_554 0 1 := ga_at gr_struck (gi_in (n := 24) g_548 (by decide)) ex_554
          refine lv_if_ne (tgt := 40) hx hb dX0_standingOf_34 (by decide) (fun c_555 => ?_) (fun c_555 => ?_)
          · have hF := gf_neg (by rw [ex_554] at c_555; exact c_555) hF
            have g_556 : gi x_554 1 1 := gi_ne_lo c_555 gx_554 (gi_c 0 0 (by decide)) (by decide)
            obtain ⟨x_557, ex_557⟩ : ∃ y : Int32, y = v3 + 1 := ⟨_, rfl⟩
            have gx_557 : gi x_557 1 24 := gi_add ex_557 g_548 (gi_c 1 1 (by decide)) (by decide)
            refine lv_iinc (v := x_557) (lv' := [(3, .int x_557), (0, .ref h0), (1, .int p1), (2, .int v2)]) hx hb dX0_standingOf_40 hl (k := 3) rfl (by rw [ex_557]; rfl) (by decide) rfl (fun ls hl => ?_)
            refine lv_goto (tgt := 4) hx hb dX0_standingOf_43 (by decide) ?_
            exact ih v2 x_557 _ _ _ (gi_w gx_557 (by decide)) (by rw [ex_557]; exact hF) (by have av3 := gv3.1; have bv3 := gv3.2; have qgx_557 := gx_557.1; have rgx_557 := gx_557.2; have igx_557 : x_557.toInt = v3.toInt + 1 := (by have hc1 : (1 : Int32).toInt = 1 := (by decide); have h9 := gi_addI ex_557 (by have h1 := g_548.1; have h2 := (gi_c 1 1 (by decide)).1; have h3 := g_548.2; have h4 := (gi_c 1 1 (by decide)).2; omega) (by have h1 := g_548.1; have h2 := (gi_c 1 1 (by decide)).1; have h3 := g_548.2; have h4 := (gi_c 1 1 (by decide)).2; omega); rw [hc1] at h9; exact h9); have qgv3 := g_548.1; have rgv3 := g_548.2; omega) hP hS (lv_sub hl [1, 2, 3, 0] rfl)
          · have hF := gf_pos (by rw [ex_554] at c_555; exact c_555) hF
            have g_558 : gi x_554 0 0 := gi_eq c_555 (gi_c 0 0 (by decide))
            obtain ⟨x_559, ex_559⟩ : ∃ y : Int32, y = v2 + 1 := ⟨_, rfl⟩
            refine lv_iinc (v := x_559) (lv' := [(2, .int x_559), (0, .ref h0), (1, .int p1), (3, .int v3)]) hx hb dX0_standingOf_37 hl (k := 2) rfl (by rw [ex_559]; rfl) (by decide) rfl (fun ls hl => ?_)
            obtain ⟨x_560, ex_560⟩ : ∃ y : Int32, y = v3 + 1 := ⟨_, rfl⟩
            have gx_560 : gi x_560 1 24 := gi_add ex_560 g_548 (gi_c 1 1 (by decide)) (by decide)
            refine lv_iinc (v := x_560) (lv' := [(3, .int x_560), (2, .int x_559), (0, .ref h0), (1, .int p1)]) hx hb dX0_standingOf_40 hl (k := 3) rfl (by rw [ex_560]; rfl) (by decide) rfl (fun ls hl => ?_)
            refine lv_goto (tgt := 4) hx hb dX0_standingOf_43 (by decide) ?_
            exact ih x_559 x_560 _ _ _ (gi_w gx_560 (by decide)) (by rw [ex_560, ex_559]; exact hF) (by have av3 := gv3.1; have bv3 := gv3.2; have qgx_560 := gx_560.1; have rgx_560 := gx_560.2; have igx_560 : x_560.toInt = v3.toInt + 1 := (by have hc1 : (1 : Int32).toInt = 1 := (by decide); have h9 := gi_addI ex_560 (by have h1 := g_548.1; have h2 := (gi_c 1 1 (by decide)).1; have h3 := g_548.2; have h4 := (gi_c 1 1 (by decide)).2; omega) (by have h1 := g_548.1; have h2 := (gi_c 1 1 (by decide)).1; have h3 := g_548.2; have h4 := (gi_c 1 1 (by decide)).2; omega); rw [hc1] at h9; exact h9); have qgv3 := g_548.1; have rgv3 := g_548.2; omega) hP hS (lv_sub hl [2, 3, 1, 0] rfl)
set_option maxHeartbeats 4000000 in
set_option maxRecDepth 100000 in
theorem sX0_standingOf (l : Launch) (dC : Nat → ClassId) (dI : Nat → Nat → Nat) (h0 : Nat) (re : Nat) (amonths : Int32) (afull : Int32) (alean : Int32) (alines : Int32) (ahasMoon : Int32) (amoonStart : Int32) (amoonStep : Int32) (aplaceCount : Int32) (areportCount : Int32) (adeedCount : Int32) (pl : Nat) (de : Nat) (kre : ClassId) (ra : Nat → Nat) (r_place : Nat → Int32) (r_kind : Nat → Int32) (r_month : Nat → Int32) (r_day : Nat → Int32) (r_known : Nat → Int32) (r_struck : Nat → Int32) (p1 : Int32) (gamonths : gi amonths 0 24) (gafull : gi afull 0 5) (galean : gi alean 0 5) (gahasMoon : gi ahasMoon 0 1) (gaplaceCount : gi aplaceCount 0 6) (gareportCount : gi areportCount 0 24) (gadeedCount : gi adeedCount 0 8) (gr_place : ga r_place 24 0 5) (gr_month : ga r_month 24 0 23) (gr_struck : ga r_struck 24 0 1) : Met l yX0_standingOf (.code yX0_standingOf cX0_standingOf 4 (some .int) :: wsGA) ({ frames := 0, cells := 0, slots := 0, locals := 0 }) (va_Pc [.ref h0, .int p1] (fun U => va_P (dC, dI) vwCl [(h0, .inr (0, [.int amonths, .int afull, .int alean, .int alines, .int ahasMoon, .int amoonStart, .int amoonStep, .int aplaceCount, .int areportCount, .int adeedCount, .ref pl, .ref re, .ref de])), (re, .inl (kre, 24, .inr (.inr (.inr (.inr (fun i => some (ra i)))))))] U.heap ∧ va_K (dC, dI) vwCl [(kre, .object RX7)] U ∧ nzA U ∧ va_P (dC, dI) vwCl (gz_fam 24 ra 7 (fun i => [.int (r_place i), .int (r_kind i), .int (r_month i), .int (r_day i), .int (r_known i), .int (r_struck i)])) U.heap)) (va_Qi (fun (r : Int32) (u : Unit) => (gi r (-2147483648) 2147483647) ∧ r = fX0_standingOf areportCount r_place r_struck p1) (fun _ _ => True) (fun _ => False)) 0 0 (fun _ => False) := by
  refine Met.ofW (cc := cX0_standingOf) (maxL := 4) (ret := (some .int)) (by decide) rfl ?_
  intro p e s m args below meth c s₁ B hml hv
  obtain ⟨rfl, hP, hK, hz, hF0⟩ := hv
  have hx := B.exec
  have hb := B.bytes
  have hr := B.returns
  have hts := atoms_spec (ws := (.code yX0_standingOf cX0_standingOf 4 (some .int) :: wsGA)) B.pre
  have hown : s.vm.findClass RX0 = some m.cls := findClass_of_methodNamed B.named
  have hlocks := B.notSynchronized
  have hS : va_S (fun _ => False) s.heap s.heap [] := va_S.rf
  have hFA0 : gz_ap (fun _ => False) (gz_fam 24 ra 7 (fun i => [.int (r_place i), .int (r_kind i), .int (r_month i), .int (r_day i), .int (r_known i), .int (r_struck i)])) := gz_ap0
  have hl := lv_entry ([.ref h0, .int p1]) (n := 4) (Nat.le_of_ble_eq_true rfl)
  rw [lg_entry_eq]
  generalize (lg_sl ([.ref h0, .int p1]) ++ List.replicate (4 - (lg_sl ([.ref h0, .int p1])).length) Slot.unset).toArray = ls at hl ⊢
  have hl : lv_has ls 4 [(0, .ref h0), (1, .int p1)] := hl
  obtain ⟨RES, hF⟩ : ∃ R9, fX0_standingOf areportCount r_place r_struck p1 = R9 := ⟨_, rfl⟩
  have hR9 := hF
  refine lv_iconst (v := 0) hx hb dX0_standingOf_0 (by decide) ?_
  refine lv_istore_n (lv' := [(2, .int 0), (0, .ref h0), (1, .int p1)]) hx hb dX0_standingOf_1 rfl hl (by decide) rfl (fun ls hl => ?_)
  refine lv_iconst (v := 0) hx hb dX0_standingOf_2 (by decide) ?_
  refine lv_istore_n (lv' := [(3, .int 0), (2, .int 0), (0, .ref h0), (1, .int p1)]) hx hb dX0_standingOf_3 rfl hl (by decide) rfl (fun ls hl => ?_)
  refine (lp_sX0_standingOf h0 re amonths afull alean alines ahasMoon amoonStart amoonStep aplaceCount areportCount adeedCount pl de kre ra r_place r_kind r_month r_day r_known r_struck p1 gamonths gafull galean gahasMoon gaplaceCount gareportCount gadeedCount gr_place gr_month gr_struck hx hb hml hown hts hK hz hF0 hFA0 (Nat.le_of_ble_eq_true rfl) (Nat.le_of_ble_eq_true rfl) (Nat.zero_le _) (Nat.zero_le _) (fun v H locs ls hF hP hS hl => ?_) 1000000000) 0 0 _ _ _ (gi_w (gi_c 0 0 (by decide)) (by decide)) hF (by have k0 : (0 : Int32).toInt = 0 := (by decide); omega) hP hS (lv_sub hl [2, 3, 1, 0] rfl)
  · skip
    exact W.iret (v := v) hx hb hr (fun t ht hW => ⟨⟨v, (), rfl, ⟨(gi_any v), hF.trans hR9.symm⟩, trivial⟩, hS.F ht⟩) hS.2.2 dX0_standingOf_47
theorem dX0_standing_0 : decode cX0_standing 0 = .ok (.iconst 0, 1) := by decide +kernel
theorem dX0_standing_1 : decode cX0_standing 1 = .ok (.istore_n 1, 1) := by decide +kernel
theorem dX0_standing_2 : decode cX0_standing 2 = .ok (.iconst 0, 1) := by decide +kernel
theorem dX0_standing_3 : decode cX0_standing 3 = .ok (.istore_n 2, 1) := by decide +kernel
theorem dX0_standing_4 : decode cX0_standing 4 = .ok (.iload_n 2, 1) := by decide +kernel
theorem dX0_standing_5 : decode cX0_standing 5 = .ok (.aload_n 0, 1) := by decide +kernel
theorem dX0_standing_6 : decode cX0_standing 6 = .ok (.getfield 55, 3) := by decide +kernel
theorem dX0_standing_9 : decode cX0_standing 9 = .ok (.if_icmp .ge 17, 3) := by decide +kernel
theorem dX0_standing_12 : decode cX0_standing 12 = .ok (.iload_n 1, 1) := by decide +kernel
theorem dX0_standing_13 : decode cX0_standing 13 = .ok (.aload_n 0, 1) := by decide +kernel
theorem dX0_standing_14 : decode cX0_standing 14 = .ok (.iload_n 2, 1) := by decide +kernel
theorem dX0_standing_15 : decode cX0_standing 15 = .ok (.invokevirtual 107, 3) := by decide +kernel
theorem dX0_standing_18 : decode cX0_standing 18 = .ok (.iadd, 1) := by decide +kernel
theorem dX0_standing_19 : decode cX0_standing 19 = .ok (.istore_n 1, 1) := by decide +kernel
theorem dX0_standing_20 : decode cX0_standing 20 = .ok (.iinc 2 1, 3) := by decide +kernel
theorem dX0_standing_23 : decode cX0_standing 23 = .ok (.goto (-19), 3) := by decide +kernel
theorem dX0_standing_26 : decode cX0_standing 26 = .ok (.iload_n 1, 1) := by decide +kernel
theorem dX0_standing_27 : decode cX0_standing 27 = .ok (.ireturn, 1) := by decide +kernel
noncomputable def dfX0_standing_4 (aplaceCount : Int32) (areportCount : Int32) (r_place : Nat → Int32) (r_struck : Nat → Int32) (K : (Int32 → Int32 → Int32)) (v1 : Int32) (v2 : Int32) : Int32 := if aplaceCount ≤ v2 then v1 else (cal (fun o1 => K (v1 + o1) (v2 + (1 : Int32))) (fX0_standingOf areportCount r_place r_struck v2))
noncomputable def lfX0_standing (aplaceCount : Int32) (areportCount : Int32) (r_place : Nat → Int32) (r_struck : Nat → Int32) (z : Nat) : (Int32 → Int32 → Int32) := Nat.rec (motive := fun _ => (Int32 → Int32 → Int32)) (fun _ _ => (0)) (fun _ K => dfX0_standing_4 aplaceCount areportCount r_place r_struck K) z
noncomputable def fX0_standing (aplaceCount : Int32) (areportCount : Int32) (r_place : Nat → Int32) (r_struck : Nat → Int32) : Int32 := (lfX0_standing aplaceCount areportCount r_place r_struck 1000000000) (0 : Int32) (0 : Int32)
set_option maxHeartbeats 4000000 in
set_option maxRecDepth 100000 in
theorem lp_sX0_standing {p : Program} {l : Launch} {e : Env} {R : Room} {s : State} {m : MethodId} {args : Array Value} {below : List Frame} {meth : Method} {c : Code} {Q : State → Prop} {A : Nat → Prop} {cells slots : Nat} {dC : Nat → ClassId} {dI : Nat → Nat → Nat} {RES : Int32} (h0 : Nat) (re : Nat) (amonths : Int32) (afull : Int32) (alean : Int32) (alines : Int32) (ahasMoon : Int32) (amoonStart : Int32) (amoonStep : Int32) (aplaceCount : Int32) (areportCount : Int32) (adeedCount : Int32) (pl : Nat) (de : Nat) (kre : ClassId) (ra : Nat → Nat) (r_place : Nat → Int32) (r_kind : Nat → Int32) (r_month : Nat → Int32) (r_day : Nat → Int32) (r_known : Nat → Int32) (r_struck : Nat → Int32) (gamonths : gi amonths 0 24) (gafull : gi afull 0 5) (galean : gi alean 0 5) (gahasMoon : gi ahasMoon 0 1) (gaplaceCount : gi aplaceCount 0 6) (gareportCount : gi areportCount 0 24) (gadeedCount : gi adeedCount 0 8) (gr_place : ga r_place 24 0 5) (gr_month : ga r_month 24 0 23) (gr_struck : ga r_struck 24 0 1) (hx : p.tables.exec = Jvm.exec) (hb : c.code = cX0_standing) (hml : c.maxLocals = 3) (hown : s.vm.findClass RX0 = some m.cls) (hts : ∀ w ∈ ((.code yX0_standing cX0_standing 3 (some .int) :: wsGA) : List Cond), w.before args s = true) (hK : va_K (dC, dI) vwCl [(kre, .object RX7)] s) (hz : nzA s) (hF0 : va_P (dC, dI) vwCl (gz_fam 24 ra 7 (fun i => [.int (r_place i), .int (r_kind i), .int (r_month i), .int (r_day i), .int (r_known i), .int (r_struck i)])) s.heap) (hFA0 : gz_ap A (gz_fam 24 ra 7 (fun i => [.int (r_place i), .int (r_kind i), .int (r_month i), .int (r_day i), .int (r_known i), .int (r_struck i)]))) (hRf : 1 ≤ R.frames) (hRl : 23 ≤ R.locals) (hRc : cells ≤ R.cells) (hRs : slots ≤ R.slots) (kr27 : ∀ (v : Int32) (H : Heap) (locs : List Loc) (ls : Array Slot), v = RES → va_P (dC, dI) vwCl [(h0, .inr (0, [.int amonths, .int afull, .int alean, .int alines, .int ahasMoon, .int amoonStart, .int amoonStep, .int aplaceCount, .int areportCount, .int adeedCount, .ref pl, .ref re, .ref de])), (re, .inl (kre, 24, .inr (.inr (.inr (.inr (fun i => some (ra i)))))))] H → va_S A s.heap H locs → lv_has ls 3 [] → W p l e R s m args below meth c H locs cells slots Q (F0 m 27 ls [.int v])) : ∀ z : Nat, (∀ (v1 : Int32) (v2 : Int32) (H : Heap) (locs : List Loc) (ls : Array Slot), gi v2 0 6 → (lfX0_standing aplaceCount areportCount r_place r_struck z) v1 v2 = RES → 13 + (-2) * v2.toInt < (z : Int) → va_P (dC, dI) vwCl [(h0, .inr (0, [.int amonths, .int afull, .int alean, .int alines, .int ahasMoon, .int amoonStart, .int amoonStep, .int aplaceCount, .int areportCount, .int adeedCount, .ref pl, .ref re, .ref de])), (re, .inl (kre, 24, .inr (.inr (.inr (.inr (fun i => some (ra i)))))))] H → va_S A s.heap H locs → lv_has ls 3 [(0, .ref h0), (1, .int v1), (2, .int v2)] → W p l e R s m args below meth c H locs cells slots Q (F0 m 4 ls [])) := by
  intro z
  induction z with
  | zero =>
    intro v1 v2 H locs ls gv2 hF hmu hP hS hl
    exact absurd hmu (by have hv21 := gv2.1; have hv22 := gv2.2; omega)
  | succ z ih =>
      intro v1 v2 H locs ls gv2 hF hmu hP hS hl
      have hF : dfX0_standing_4 aplaceCount areportCount r_place r_struck (lfX0_standing aplaceCount areportCount r_place r_struck z) v1 v2 = RES := hF
      refine lv_iload_n hx hb dX0_standing_4 rfl (lv_at hl 2 rfl) ?_
      refine lv_aload_n hx hb dX0_standing_5 rfl (lv_at hl 0 rfl) ?_
      refine va_get (D := (dC, dI)) (ci := 0) (v := .int aplaceCount) (C := RX0) (T := TX0) (N := 13) hx hb hts (fun w h => List.mem_cons_of_mem _ (jnGA_X0 w h)) hown hK hP 0 rfl rfl 7 (by decide) (hts _ (List.mem_cons_of_mem _ mGA_159)) (fun _ h9 => h9) rfl dX0_standing_6 ?_
      refine lv_icmp_ge (tgt := 26) hx hb dX0_standing_9 (by decide) (fun c_43 => ?_) (fun c_43 => ?_)
      · have hF := gf_pos c_43 hF
        refine lv_iload_n hx hb dX0_standing_26 rfl (lv_at hl 1 rfl) ?_
        exact kr27 v1 _ _ _ hF hP hS (lv_sub hl [] rfl)
      · have hF := gf_neg c_43 hF
        have g_44 : gi v2 0 5 := gi_lt_l (Int32.not_le.mp c_43) gv2 gaplaceCount (by decide)
        have g_45 : gi aplaceCount 1 6 := gi_lt_r (Int32.not_le.mp c_43) gv2 gaplaceCount (by decide)
        refine lv_iload_n hx hb dX0_standing_12 rfl (lv_at hl 1 rfl) ?_
        refine lv_aload_n hx hb dX0_standing_13 rfl (lv_at hl 0 rfl) ?_
        refine lv_iload_n hx hb dX0_standing_14 rfl (lv_at hl 2 rfl) ?_
        have hPc := hP.sub (ws' := [(h0, .inr (0, [.int amonths, .int afull, .int alean, .int alines, .int ahasMoon, .int amoonStart, .int amoonStep, .int aplaceCount, .int areportCount, .int adeedCount, .ref pl, .ref re, .ref de])), (re, .inl (kre, 24, .inr (.inr (.inr (.inr (fun i => some (ra i)))))))]) [0, 1] rfl
        have hKc := hK.sub (tys' := [(kre, .object RX7)]) [0] rfl
        refine va_calli (va_runV (As := [.int v2]) (rest := [.int v1]) ⟨hx, hb, hml, hown, hts⟩ (sX0_standingOf l dC dI h0 re amonths afull alean alines ahasMoon amoonStart amoonStep aplaceCount areportCount adeedCount pl de kre ra r_place r_kind r_month r_day r_known r_struck v2 gamonths gafull galean gahasMoon (gi_w g_45 (by decide)) gareportCount gadeedCount gr_place gr_month gr_struck) (cwV 1 hts (gz_gV mGA_906 mGA_375 mGA_376 mGA_13 mGA_377 goodGA) rfl rfl rfl (by decide +kernel) ⟨Nat.le_trans (Nat.le_of_ble_eq_true rfl) hRf, Nat.le_trans (Nat.le_of_ble_eq_true rfl) hRl⟩) ⟨bl_I (bl_a bl_P (bl_a bl_K (bl_a bl_nz bl_P))), va_recv hKc hPc (ci := 0) (q0 := 0) rfl rfl, fun U hU hW => ⟨rfl, by rw [hU]; exact hPc, va_K.moved hW.alike hKc, nzA_warm hW hz, by rw [hU]; exact gz_ro hF0 hFA0 hS⟩⟩ rfl rfl hl.1 rfl (lv_room (Nat.le_of_ble_eq_true rfl)) dX0_standing_15 ⟨hRc, hRs⟩) hS (fun q _ h => h.elim) (fun q h => h.elim) (fun r_46 u t H1 locs ht hvm hw hB hz1 hk1 hS => ?_)
        obtain ⟨hw, hE⟩ := hw
        have hP := gz_keep hP hk1
        have hF := gf_call (a := r_46) hE hF
        generalize H1 = H at hP hS ⊢
        refine lv_iadd hx hb dX0_standing_18 ?_
        refine lv_topi (fun x_47 ex_47 => ?_)
        refine lv_istore_n (lv' := [(1, .int x_47), (0, .ref h0), (2, .int v2)]) hx hb dX0_standing_19 rfl hl (by decide) rfl (fun ls hl => ?_)
        obtain ⟨x_48, ex_48⟩ : ∃ y : Int32, y = v2 + 1 := ⟨_, rfl⟩
        have gx_48 : gi x_48 1 6 := gi_add ex_48 g_44 (gi_c 1 1 (by decide)) (by decide)
        refine lv_iinc (v := x_48) (lv' := [(2, .int x_48), (1, .int x_47), (0, .ref h0)]) hx hb dX0_standing_20 hl (k := 2) rfl (by rw [ex_48]; rfl) (by decide) rfl (fun ls hl => ?_)
        refine lv_goto (tgt := 4) hx hb dX0_standing_23 (by decide) ?_
        exact ih x_47 x_48 _ _ _ (gi_w gx_48 (by decide)) (by rw [ex_48, ex_47]; exact hF) (by have av2 := gv2.1; have bv2 := gv2.2; have qgx_48 := gx_48.1; have rgx_48 := gx_48.2; have igx_48 : x_48.toInt = v2.toInt + 1 := (by have hc1 : (1 : Int32).toInt = 1 := (by decide); have h9 := gi_addI ex_48 (by have h1 := g_44.1; have h2 := (gi_c 1 1 (by decide)).1; have h3 := g_44.2; have h4 := (gi_c 1 1 (by decide)).2; omega) (by have h1 := g_44.1; have h2 := (gi_c 1 1 (by decide)).1; have h3 := g_44.2; have h4 := (gi_c 1 1 (by decide)).2; omega); rw [hc1] at h9; exact h9); have qgv2 := g_44.1; have rgv2 := g_44.2; omega) hP hS (lv_sub hl [2, 1, 0] rfl)
set_option maxHeartbeats 4000000 in
set_option maxRecDepth 100000 in
theorem sX0_standing (l : Launch) (dC : Nat → ClassId) (dI : Nat → Nat → Nat) (h0 : Nat) (re : Nat) (amonths : Int32) (afull : Int32) (alean : Int32) (alines : Int32) (ahasMoon : Int32) (amoonStart : Int32) (amoonStep : Int32) (aplaceCount : Int32) (areportCount : Int32) (adeedCount : Int32) (pl : Nat) (de : Nat) (kre : ClassId) (ra : Nat → Nat) (r_place : Nat → Int32) (r_kind : Nat → Int32) (r_month : Nat → Int32) (r_day : Nat → Int32) (r_known : Nat → Int32) (r_struck : Nat → Int32) (gamonths : gi amonths 0 24) (gafull : gi afull 0 5) (galean : gi alean 0 5) (gahasMoon : gi ahasMoon 0 1) (gaplaceCount : gi aplaceCount 0 6) (gareportCount : gi areportCount 0 24) (gadeedCount : gi adeedCount 0 8) (gr_place : ga r_place 24 0 5) (gr_month : ga r_month 24 0 23) (gr_struck : ga r_struck 24 0 1) : Met l yX0_standing (.code yX0_standing cX0_standing 3 (some .int) :: wsGA) ({ frames := 1, cells := 0, slots := 0, locals := 23 }) (va_Pc [.ref h0] (fun U => va_P (dC, dI) vwCl [(h0, .inr (0, [.int amonths, .int afull, .int alean, .int alines, .int ahasMoon, .int amoonStart, .int amoonStep, .int aplaceCount, .int areportCount, .int adeedCount, .ref pl, .ref re, .ref de])), (re, .inl (kre, 24, .inr (.inr (.inr (.inr (fun i => some (ra i)))))))] U.heap ∧ va_K (dC, dI) vwCl [(kre, .object RX7)] U ∧ nzA U ∧ va_P (dC, dI) vwCl (gz_fam 24 ra 7 (fun i => [.int (r_place i), .int (r_kind i), .int (r_month i), .int (r_day i), .int (r_known i), .int (r_struck i)])) U.heap)) (va_Qi (fun (r : Int32) (u : Unit) => (gi r (-2147483648) 2147483647) ∧ r = fX0_standing aplaceCount areportCount r_place r_struck) (fun _ _ => True) (fun _ => False)) 0 0 (fun _ => False) := by
  refine Met.ofW (cc := cX0_standing) (maxL := 3) (ret := (some .int)) (by decide) rfl ?_
  intro p e s m args below meth c s₁ B hml hv
  obtain ⟨rfl, hP, hK, hz, hF0⟩ := hv
  have hx := B.exec
  have hb := B.bytes
  have hr := B.returns
  have hts := atoms_spec (ws := (.code yX0_standing cX0_standing 3 (some .int) :: wsGA)) B.pre
  have hown : s.vm.findClass RX0 = some m.cls := findClass_of_methodNamed B.named
  have hlocks := B.notSynchronized
  have hS : va_S (fun _ => False) s.heap s.heap [] := va_S.rf
  have hFA0 : gz_ap (fun _ => False) (gz_fam 24 ra 7 (fun i => [.int (r_place i), .int (r_kind i), .int (r_month i), .int (r_day i), .int (r_known i), .int (r_struck i)])) := gz_ap0
  have hl := lv_entry ([.ref h0]) (n := 3) (Nat.le_of_ble_eq_true rfl)
  rw [lg_entry_eq]
  generalize (lg_sl ([.ref h0]) ++ List.replicate (3 - (lg_sl ([.ref h0])).length) Slot.unset).toArray = ls at hl ⊢
  have hl : lv_has ls 3 [(0, .ref h0)] := hl
  obtain ⟨RES, hF⟩ : ∃ R9, fX0_standing aplaceCount areportCount r_place r_struck = R9 := ⟨_, rfl⟩
  have hR9 := hF
  refine lv_iconst (v := 0) hx hb dX0_standing_0 (by decide) ?_
  refine lv_istore_n (lv' := [(1, .int 0), (0, .ref h0)]) hx hb dX0_standing_1 rfl hl (by decide) rfl (fun ls hl => ?_)
  refine lv_iconst (v := 0) hx hb dX0_standing_2 (by decide) ?_
  refine lv_istore_n (lv' := [(2, .int 0), (1, .int 0), (0, .ref h0)]) hx hb dX0_standing_3 rfl hl (by decide) rfl (fun ls hl => ?_)
  refine (lp_sX0_standing h0 re amonths afull alean alines ahasMoon amoonStart amoonStep aplaceCount areportCount adeedCount pl de kre ra r_place r_kind r_month r_day r_known r_struck gamonths gafull galean gahasMoon gaplaceCount gareportCount gadeedCount gr_place gr_month gr_struck hx hb hml hown hts hK hz hF0 hFA0 (Nat.le_of_ble_eq_true rfl) (Nat.le_of_ble_eq_true rfl) (Nat.zero_le _) (Nat.zero_le _) (fun v H locs ls hF hP hS hl => ?_) 1000000000) 0 0 _ _ _ (gi_w (gi_c 0 0 (by decide)) (by decide)) hF (by have k0 : (0 : Int32).toInt = 0 := (by decide); omega) hP hS (lv_sub hl [2, 1, 0] rfl)
  · skip
    exact W.iret (v := v) hx hb hr (fun t ht hW => ⟨⟨v, (), rfl, ⟨(gi_any v), hF.trans hR9.symm⟩, trivial⟩, hS.F ht⟩) hS.2.2 dX0_standing_27
theorem dX0_knownBits_0 : decode cX0_knownBits 0 = .ok (.iconst 0, 1) := by decide +kernel
theorem dX0_knownBits_1 : decode cX0_knownBits 1 = .ok (.istore_n 2, 1) := by decide +kernel
theorem dX0_knownBits_2 : decode cX0_knownBits 2 = .ok (.iconst 0, 1) := by decide +kernel
theorem dX0_knownBits_3 : decode cX0_knownBits 3 = .ok (.istore_n 3, 1) := by decide +kernel
theorem dX0_knownBits_4 : decode cX0_knownBits 4 = .ok (.iload_n 3, 1) := by decide +kernel
theorem dX0_knownBits_5 : decode cX0_knownBits 5 = .ok (.aload_n 0, 1) := by decide +kernel
theorem dX0_knownBits_6 : decode cX0_knownBits 6 = .ok (.getfield 58, 3) := by decide +kernel
theorem dX0_knownBits_9 : decode cX0_knownBits 9 = .ok (.if_icmp .ge 28, 3) := by decide +kernel
theorem dX0_knownBits_12 : decode cX0_knownBits 12 = .ok (.aload_n 0, 1) := by decide +kernel
theorem dX0_knownBits_13 : decode cX0_knownBits 13 = .ok (.getfield 19, 3) := by decide +kernel
theorem dX0_knownBits_16 : decode cX0_knownBits 16 = .ok (.iload_n 3, 1) := by decide +kernel
theorem dX0_knownBits_17 : decode cX0_knownBits 17 = .ok (.aaload, 1) := by decide +kernel
theorem dX0_knownBits_18 : decode cX0_knownBits 18 = .ok (.iload_n 1, 1) := by decide +kernel
theorem dX0_knownBits_19 : decode cX0_knownBits 19 = .ok (.invokevirtual 111, 3) := by decide +kernel
theorem dX0_knownBits_22 : decode cX0_knownBits 22 = .ok (.ifCond .eq 9, 3) := by decide +kernel
theorem dX0_knownBits_25 : decode cX0_knownBits 25 = .ok (.iload_n 2, 1) := by decide +kernel
theorem dX0_knownBits_26 : decode cX0_knownBits 26 = .ok (.iconst 1, 1) := by decide +kernel
theorem dX0_knownBits_27 : decode cX0_knownBits 27 = .ok (.iload_n 3, 1) := by decide +kernel
theorem dX0_knownBits_28 : decode cX0_knownBits 28 = .ok (.ishl, 1) := by decide +kernel
theorem dX0_knownBits_29 : decode cX0_knownBits 29 = .ok (.ior, 1) := by decide +kernel
theorem dX0_knownBits_30 : decode cX0_knownBits 30 = .ok (.istore_n 2, 1) := by decide +kernel
theorem dX0_knownBits_31 : decode cX0_knownBits 31 = .ok (.iinc 3 1, 3) := by decide +kernel
theorem dX0_knownBits_34 : decode cX0_knownBits 34 = .ok (.goto (-30), 3) := by decide +kernel
theorem dX0_knownBits_37 : decode cX0_knownBits 37 = .ok (.iload_n 2, 1) := by decide +kernel
theorem dX0_knownBits_38 : decode cX0_knownBits 38 = .ok (.ireturn, 1) := by decide +kernel
set_option maxHeartbeats 4000000 in
set_option maxRecDepth 100000 in
theorem lp_sX0_knownBits {p : Program} {l : Launch} {e : Env} {R : Room} {s : State} {m : MethodId} {args : Array Value} {below : List Frame} {meth : Method} {c : Code} {Q : State → Prop} {A : Nat → Prop} {cells slots : Nat} {dC : Nat → ClassId} {dI : Nat → Nat → Nat} (h0 : Nat) (re : Nat) (amonths : Int32) (afull : Int32) (alean : Int32) (alines : Int32) (ahasMoon : Int32) (amoonStart : Int32) (amoonStep : Int32) (aplaceCount : Int32) (areportCount : Int32) (adeedCount : Int32) (pl : Nat) (de : Nat) (kre : ClassId) (ra : Nat → Nat) (r_place : Nat → Int32) (r_kind : Nat → Int32) (r_month : Nat → Int32) (r_day : Nat → Int32) (r_known : Nat → Int32) (r_struck : Nat → Int32) (p1 : Int32) (gamonths : gi amonths 0 24) (gafull : gi afull 0 5) (galean : gi alean 0 5) (gahasMoon : gi ahasMoon 0 1) (gaplaceCount : gi aplaceCount 0 6) (gareportCount : gi areportCount 0 24) (gadeedCount : gi adeedCount 0 8) (gr_place : ga r_place 24 0 5) (gr_month : ga r_month 24 0 23) (gr_struck : ga r_struck 24 0 1) (hx : p.tables.exec = Jvm.exec) (hb : c.code = cX0_knownBits) (hml : c.maxLocals = 4) (hown : s.vm.findClass RX0 = some m.cls) (hts : ∀ w ∈ ((.code yX0_knownBits cX0_knownBits 4 (some .int) :: wsGA) : List Cond), w.before args s = true) (hK : va_K (dC, dI) vwCl [(kre, .object RX7)] s) (hz : nzA s) (hF0 : va_P (dC, dI) vwCl (gz_fam 24 ra 7 (fun i => [.int (r_place i), .int (r_kind i), .int (r_month i), .int (r_day i), .int (r_known i), .int (r_struck i)])) s.heap) (hFA0 : gz_ap A (gz_fam 24 ra 7 (fun i => [.int (r_place i), .int (r_kind i), .int (r_month i), .int (r_day i), .int (r_known i), .int (r_struck i)]))) (hRf : 1 ≤ R.frames) (hRl : 21 ≤ R.locals) (hRc : cells ≤ R.cells) (hRs : slots ≤ R.slots) (kr38 : ∀ (v : Int32) (H : Heap) (locs : List Loc) (ls : Array Slot), va_P (dC, dI) vwCl [(h0, .inr (0, [.int amonths, .int afull, .int alean, .int alines, .int ahasMoon, .int amoonStart, .int amoonStep, .int aplaceCount, .int areportCount, .int adeedCount, .ref pl, .ref re, .ref de])), (re, .inl (kre, 24, .inr (.inr (.inr (.inr (fun i => some (ra i)))))))] H → va_S A s.heap H locs → lv_has ls 4 [] → W p l e R s m args below meth c H locs cells slots Q (F0 m 38 ls [.int v])) : ∀ z : Nat, (∀ (v2 : Int32) (v3 : Int32) (H : Heap) (locs : List Loc) (ls : Array Slot), gi v3 0 24 → 49 + (-2) * v3.toInt < (z : Int) → va_P (dC, dI) vwCl [(h0, .inr (0, [.int amonths, .int afull, .int alean, .int alines, .int ahasMoon, .int amoonStart, .int amoonStep, .int aplaceCount, .int areportCount, .int adeedCount, .ref pl, .ref re, .ref de])), (re, .inl (kre, 24, .inr (.inr (.inr (.inr (fun i => some (ra i)))))))] H → va_S A s.heap H locs → lv_has ls 4 [(0, .ref h0), (1, .int p1), (2, .int v2), (3, .int v3)] → W p l e R s m args below meth c H locs cells slots Q (F0 m 4 ls [])) := by
  intro z
  induction z with
  | zero =>
    intro v2 v3 H locs ls gv3 hmu hP hS hl
    exact absurd hmu (by have hv31 := gv3.1; have hv32 := gv3.2; omega)
  | succ z ih =>
      intro v2 v3 H locs ls gv3 hmu hP hS hl
      refine lv_iload_n hx hb dX0_knownBits_4 rfl (lv_at hl 3 rfl) ?_
      refine lv_aload_n hx hb dX0_knownBits_5 rfl (lv_at hl 0 rfl) ?_
      refine va_get (D := (dC, dI)) (ci := 0) (v := .int areportCount) (C := RX0) (T := TX0) (N := 13) hx hb hts (fun w h => List.mem_cons_of_mem _ (jnGA_X0 w h)) hown hK hP 0 rfl rfl 8 (by decide) (hts _ (List.mem_cons_of_mem _ mGA_160)) (fun _ h9 => h9) rfl dX0_knownBits_6 ?_
      refine lv_icmp_ge (tgt := 37) hx hb dX0_knownBits_9 (by decide) (fun c_166 => ?_) (fun c_166 => ?_)
      · refine lv_iload_n hx hb dX0_knownBits_37 rfl (lv_at hl 2 rfl) ?_
        exact kr38 v2 _ _ _ hP hS (lv_sub hl [] rfl)
      · have g_167 : gi v3 0 23 := gi_lt_l (Int32.not_le.mp c_166) gv3 gareportCount (by decide)
        have g_168 : gi areportCount 1 24 := gi_lt_r (Int32.not_le.mp c_166) gv3 gareportCount (by decide)
        refine lv_aload_n hx hb dX0_knownBits_12 rfl (lv_at hl 0 rfl) ?_
        refine va_get (D := (dC, dI)) (ci := 0) (v := .ref re) (C := RX0) (T := TX0) (N := 13) hx hb hts (fun w h => List.mem_cons_of_mem _ (jnGA_X0 w h)) hown hK hP 0 rfl rfl 11 (by decide) (hts _ (List.mem_cons_of_mem _ mGA_72)) (fun _ h9 => h9) rfl dX0_knownBits_13 ?_
        refine lv_iload_n hx hb dX0_knownBits_16 rfl (lv_at hl 3 rfl) ?_
        refine va_aldq hx hb hK hP 1 0 rfl rfl (gi_in g_167 (by decide)) dX0_knownBits_17 ?_
        refine W.eq (g2 := F0 m 18 ls [.ref (ra v3.toNatClampNeg)]) rfl ?_
        refine lv_iload_n hx hb dX0_knownBits_18 rfl (lv_at hl 1 rfl) ?_
        have hPc : va_P (dC, dI) vwCl [((ra v3.toNatClampNeg), .inr (7, [.int (r_place v3.toNatClampNeg), .int (r_kind v3.toNatClampNeg), .int (r_month v3.toNatClampNeg), .int (r_day v3.toNatClampNeg), .int (r_known v3.toNatClampNeg), .int (r_struck v3.toNatClampNeg)]))] H := (gz_fam1 (gz_ro hF0 hFA0 hS) (gz_clt (gi_in (n := 24) g_167 (by decide))))
        have hKc := hK.sub (tys' := []) [] rfl
        refine va_calli (va_runV (As := [.int p1]) (rest := []) ⟨hx, hb, hml, hown, hts⟩ (sX7_isKnownBy l dC dI (ra v3.toNatClampNeg) (r_place v3.toNatClampNeg) (r_kind v3.toNatClampNeg) (r_month v3.toNatClampNeg) (r_day v3.toNatClampNeg) (r_known v3.toNatClampNeg) (r_struck v3.toNatClampNeg) p1 (ga_ix gr_place (gi_in (n := 24) g_167 (by decide))) (ga_ix gr_month (gi_in (n := 24) g_167 (by decide))) (ga_ix gr_struck (gi_in (n := 24) g_167 (by decide)))) (cwV 1 hts (gz_gV mGA_437 mGA_438 mGA_439 mGA_78 mGA_440 goodGA) rfl rfl rfl (by decide +kernel) ⟨Nat.le_trans (Nat.le_of_ble_eq_true rfl) hRf, Nat.le_trans (Nat.le_of_ble_eq_true rfl) hRl⟩) ⟨bl_I (bl_a bl_P (bl_a bl_K bl_nz)), va_recv hKc hPc (ci := 7) (q0 := 0) rfl rfl, fun U hU hW => ⟨rfl, by rw [hU]; exact hPc, va_K.moved hW.alike hKc, nzA_warm hW hz⟩⟩ rfl rfl hl.1 rfl (lv_room (Nat.le_of_ble_eq_true rfl)) dX0_knownBits_19 ⟨hRc, hRs⟩) hS (fun q _ h => h.elim) (fun q h => h.elim) (fun r_169 u t H1 locs ht hvm hw hB hz1 hk1 hS => ?_)
        obtain ⟨hw, hE⟩ := hw
        have hP := gz_keep hP hk1
        generalize H1 = H at hP hS ⊢
        have gr_169 : gi r_169 0 1 := hw
        refine lv_if_eq (tgt := 31) hx hb dX0_knownBits_22 (by decide) (fun c_170 => ?_) (fun c_170 => ?_)
        · have g_171 : gi r_169 0 0 := gi_eq c_170 (gi_c 0 0 (by decide))
          obtain ⟨x_172, ex_172⟩ : ∃ y : Int32, y = v3 + 1 := ⟨_, rfl⟩
          have gx_172 : gi x_172 1 24 := gi_add ex_172 g_167 (gi_c 1 1 (by decide)) (by decide)
          refine lv_iinc (v := x_172) (lv' := [(3, .int x_172), (0, .ref h0), (1, .int p1), (2, .int v2)]) hx hb dX0_knownBits_31 hl (k := 3) rfl (by rw [ex_172]; rfl) (by decide) rfl (fun ls hl => ?_)
          refine lv_goto (tgt := 4) hx hb dX0_knownBits_34 (by decide) ?_
          exact ih v2 x_172 _ _ _ (gi_w gx_172 (by decide)) (by have av3 := gv3.1; have bv3 := gv3.2; have qgx_172 := gx_172.1; have rgx_172 := gx_172.2; have igx_172 : x_172.toInt = v3.toInt + 1 := (by have hc1 : (1 : Int32).toInt = 1 := (by decide); have h9 := gi_addI ex_172 (by have h1 := g_167.1; have h2 := (gi_c 1 1 (by decide)).1; have h3 := g_167.2; have h4 := (gi_c 1 1 (by decide)).2; omega) (by have h1 := g_167.1; have h2 := (gi_c 1 1 (by decide)).1; have h3 := g_167.2; have h4 := (gi_c 1 1 (by decide)).2; omega); rw [hc1] at h9; exact h9); have qgv3 := g_167.1; have rgv3 := g_167.2; omega) hP hS (lv_sub hl [1, 2, 3, 0] rfl)
        · have g_173 : gi r_169 1 1 := gi_ne_lo c_170 gr_169 (gi_c 0 0 (by decide)) (by decide)
          refine lv_iload_n hx hb dX0_knownBits_25 rfl (lv_at hl 2 rfl) ?_
          refine lv_iconst (v := 1) hx hb dX0_knownBits_26 (by decide) ?_
          refine lv_iload_n hx hb dX0_knownBits_27 rfl (lv_at hl 3 rfl) ?_
          refine lv_ishl hx hb dX0_knownBits_28 ?_
          refine lv_topi (fun x_174 ex_174 => ?_)
          refine lv_ior hx hb dX0_knownBits_29 ?_
          refine lv_topi (fun x_175 ex_175 => ?_)
          refine lv_istore_n (lv' := [(2, .int x_175), (0, .ref h0), (1, .int p1), (3, .int v3)]) hx hb dX0_knownBits_30 rfl hl (by decide) rfl (fun ls hl => ?_)
          obtain ⟨x_176, ex_176⟩ : ∃ y : Int32, y = v3 + 1 := ⟨_, rfl⟩
          have gx_176 : gi x_176 1 24 := gi_add ex_176 g_167 (gi_c 1 1 (by decide)) (by decide)
          refine lv_iinc (v := x_176) (lv' := [(3, .int x_176), (2, .int x_175), (0, .ref h0), (1, .int p1)]) hx hb dX0_knownBits_31 hl (k := 3) rfl (by rw [ex_176]; rfl) (by decide) rfl (fun ls hl => ?_)
          refine lv_goto (tgt := 4) hx hb dX0_knownBits_34 (by decide) ?_
          exact ih x_175 x_176 _ _ _ (gi_w gx_176 (by decide)) (by have av3 := gv3.1; have bv3 := gv3.2; have qgx_176 := gx_176.1; have rgx_176 := gx_176.2; have igx_176 : x_176.toInt = v3.toInt + 1 := (by have hc1 : (1 : Int32).toInt = 1 := (by decide); have h9 := gi_addI ex_176 (by have h1 := g_167.1; have h2 := (gi_c 1 1 (by decide)).1; have h3 := g_167.2; have h4 := (gi_c 1 1 (by decide)).2; omega) (by have h1 := g_167.1; have h2 := (gi_c 1 1 (by decide)).1; have h3 := g_167.2; have h4 := (gi_c 1 1 (by decide)).2; omega); rw [hc1] at h9; exact h9); have qgv3 := g_167.1; have rgv3 := g_167.2; omega) hP hS (lv_sub hl [2, 3, 1, 0] rfl)
set_option maxHeartbeats 4000000 in
set_option maxRecDepth 100000 in
theorem sX0_knownBits (l : Launch) (dC : Nat → ClassId) (dI : Nat → Nat → Nat) (h0 : Nat) (re : Nat) (amonths : Int32) (afull : Int32) (alean : Int32) (alines : Int32) (ahasMoon : Int32) (amoonStart : Int32) (amoonStep : Int32) (aplaceCount : Int32) (areportCount : Int32) (adeedCount : Int32) (pl : Nat) (de : Nat) (kre : ClassId) (ra : Nat → Nat) (r_place : Nat → Int32) (r_kind : Nat → Int32) (r_month : Nat → Int32) (r_day : Nat → Int32) (r_known : Nat → Int32) (r_struck : Nat → Int32) (p1 : Int32) (gamonths : gi amonths 0 24) (gafull : gi afull 0 5) (galean : gi alean 0 5) (gahasMoon : gi ahasMoon 0 1) (gaplaceCount : gi aplaceCount 0 6) (gareportCount : gi areportCount 0 24) (gadeedCount : gi adeedCount 0 8) (gr_place : ga r_place 24 0 5) (gr_month : ga r_month 24 0 23) (gr_struck : ga r_struck 24 0 1) : Met l yX0_knownBits (.code yX0_knownBits cX0_knownBits 4 (some .int) :: wsGA) ({ frames := 1, cells := 0, slots := 0, locals := 21 }) (va_Pc [.ref h0, .int p1] (fun U => va_P (dC, dI) vwCl [(h0, .inr (0, [.int amonths, .int afull, .int alean, .int alines, .int ahasMoon, .int amoonStart, .int amoonStep, .int aplaceCount, .int areportCount, .int adeedCount, .ref pl, .ref re, .ref de])), (re, .inl (kre, 24, .inr (.inr (.inr (.inr (fun i => some (ra i)))))))] U.heap ∧ va_K (dC, dI) vwCl [(kre, .object RX7)] U ∧ nzA U ∧ va_P (dC, dI) vwCl (gz_fam 24 ra 7 (fun i => [.int (r_place i), .int (r_kind i), .int (r_month i), .int (r_day i), .int (r_known i), .int (r_struck i)])) U.heap)) (va_Qi (fun (r : Int32) (u : Unit) => gi r (-2147483648) 2147483647) (fun _ _ => True) (fun _ => False)) 0 0 (fun _ => False) := by
  refine Met.ofW (cc := cX0_knownBits) (maxL := 4) (ret := (some .int)) (by decide) rfl ?_
  intro p e s m args below meth c s₁ B hml hv
  obtain ⟨rfl, hP, hK, hz, hF0⟩ := hv
  have hx := B.exec
  have hb := B.bytes
  have hr := B.returns
  have hts := atoms_spec (ws := (.code yX0_knownBits cX0_knownBits 4 (some .int) :: wsGA)) B.pre
  have hown : s.vm.findClass RX0 = some m.cls := findClass_of_methodNamed B.named
  have hlocks := B.notSynchronized
  have hS : va_S (fun _ => False) s.heap s.heap [] := va_S.rf
  have hFA0 : gz_ap (fun _ => False) (gz_fam 24 ra 7 (fun i => [.int (r_place i), .int (r_kind i), .int (r_month i), .int (r_day i), .int (r_known i), .int (r_struck i)])) := gz_ap0
  have hl := lv_entry ([.ref h0, .int p1]) (n := 4) (Nat.le_of_ble_eq_true rfl)
  rw [lg_entry_eq]
  generalize (lg_sl ([.ref h0, .int p1]) ++ List.replicate (4 - (lg_sl ([.ref h0, .int p1])).length) Slot.unset).toArray = ls at hl ⊢
  have hl : lv_has ls 4 [(0, .ref h0), (1, .int p1)] := hl
  refine lv_iconst (v := 0) hx hb dX0_knownBits_0 (by decide) ?_
  refine lv_istore_n (lv' := [(2, .int 0), (0, .ref h0), (1, .int p1)]) hx hb dX0_knownBits_1 rfl hl (by decide) rfl (fun ls hl => ?_)
  refine lv_iconst (v := 0) hx hb dX0_knownBits_2 (by decide) ?_
  refine lv_istore_n (lv' := [(3, .int 0), (2, .int 0), (0, .ref h0), (1, .int p1)]) hx hb dX0_knownBits_3 rfl hl (by decide) rfl (fun ls hl => ?_)
  refine (lp_sX0_knownBits h0 re amonths afull alean alines ahasMoon amoonStart amoonStep aplaceCount areportCount adeedCount pl de kre ra r_place r_kind r_month r_day r_known r_struck p1 gamonths gafull galean gahasMoon gaplaceCount gareportCount gadeedCount gr_place gr_month gr_struck hx hb hml hown hts hK hz hF0 hFA0 (Nat.le_of_ble_eq_true rfl) (Nat.le_of_ble_eq_true rfl) (Nat.zero_le _) (Nat.zero_le _) (fun v H locs ls hP hS hl => ?_) 62) 0 0 _ _ _ (gi_w (gi_c 0 0 (by decide)) (by decide)) (by have k0 : (0 : Int32).toInt = 0 := (by decide); omega) hP hS (lv_sub hl [2, 3, 1, 0] rfl)
  · skip
    exact W.iret (v := v) hx hb hr (fun t ht hW => ⟨⟨v, (), rfl, (gi_any v), trivial⟩, hS.F ht⟩) hS.2.2 dX0_knownBits_38
theorem dX0_latestNews_0 : decode cX0_latestNews 0 = .ok (.iconst (-1), 1) := by decide +kernel
theorem dX0_latestNews_1 : decode cX0_latestNews 1 = .ok (.istore_n 2, 1) := by decide +kernel
theorem dX0_latestNews_2 : decode cX0_latestNews 2 = .ok (.iconst 0, 1) := by decide +kernel
theorem dX0_latestNews_3 : decode cX0_latestNews 3 = .ok (.istore_n 3, 1) := by decide +kernel
theorem dX0_latestNews_4 : decode cX0_latestNews 4 = .ok (.iload_n 3, 1) := by decide +kernel
theorem dX0_latestNews_5 : decode cX0_latestNews 5 = .ok (.aload_n 0, 1) := by decide +kernel
theorem dX0_latestNews_6 : decode cX0_latestNews 6 = .ok (.getfield 58, 3) := by decide +kernel
theorem dX0_latestNews_9 : decode cX0_latestNews 9 = .ok (.if_icmp .ge 36, 3) := by decide +kernel
theorem dX0_latestNews_12 : decode cX0_latestNews 12 = .ok (.aload_n 0, 1) := by decide +kernel
theorem dX0_latestNews_13 : decode cX0_latestNews 13 = .ok (.getfield 19, 3) := by decide +kernel
theorem dX0_latestNews_16 : decode cX0_latestNews 16 = .ok (.iload_n 3, 1) := by decide +kernel
theorem dX0_latestNews_17 : decode cX0_latestNews 17 = .ok (.aaload, 1) := by decide +kernel
theorem dX0_latestNews_18 : decode cX0_latestNews 18 = .ok (.iload_n 1, 1) := by decide +kernel
theorem dX0_latestNews_19 : decode cX0_latestNews 19 = .ok (.invokevirtual 111, 3) := by decide +kernel
theorem dX0_latestNews_22 : decode cX0_latestNews 22 = .ok (.ifCond .eq 17, 3) := by decide +kernel
theorem dX0_latestNews_25 : decode cX0_latestNews 25 = .ok (.iload_n 2, 1) := by decide +kernel
theorem dX0_latestNews_26 : decode cX0_latestNews 26 = .ok (.aload_n 0, 1) := by decide +kernel
theorem dX0_latestNews_27 : decode cX0_latestNews 27 = .ok (.getfield 19, 3) := by decide +kernel
theorem dX0_latestNews_30 : decode cX0_latestNews 30 = .ok (.iload_n 3, 1) := by decide +kernel
theorem dX0_latestNews_31 : decode cX0_latestNews 31 = .ok (.aaload, 1) := by decide +kernel
theorem dX0_latestNews_32 : decode cX0_latestNews 32 = .ok (.getfield 89, 3) := by decide +kernel
theorem dX0_latestNews_35 : decode cX0_latestNews 35 = .ok (.invokestatic 115, 3) := by decide +kernel
theorem dX0_latestNews_38 : decode cX0_latestNews 38 = .ok (.istore_n 2, 1) := by decide +kernel
theorem dX0_latestNews_39 : decode cX0_latestNews 39 = .ok (.iinc 3 1, 3) := by decide +kernel
theorem dX0_latestNews_42 : decode cX0_latestNews 42 = .ok (.goto (-38), 3) := by decide +kernel
theorem dX0_latestNews_45 : decode cX0_latestNews 45 = .ok (.iload_n 2, 1) := by decide +kernel
theorem dX0_latestNews_46 : decode cX0_latestNews 46 = .ok (.ireturn, 1) := by decide +kernel
set_option maxHeartbeats 4000000 in
set_option maxRecDepth 100000 in
theorem lp_sX0_latestNews {p : Program} {l : Launch} {e : Env} {R : Room} {s : State} {m : MethodId} {args : Array Value} {below : List Frame} {meth : Method} {c : Code} {Q : State → Prop} {A : Nat → Prop} {cells slots : Nat} {dC : Nat → ClassId} {dI : Nat → Nat → Nat} (h0 : Nat) (re : Nat) (amonths : Int32) (afull : Int32) (alean : Int32) (alines : Int32) (ahasMoon : Int32) (amoonStart : Int32) (amoonStep : Int32) (aplaceCount : Int32) (areportCount : Int32) (adeedCount : Int32) (pl : Nat) (de : Nat) (kre : ClassId) (ra : Nat → Nat) (r_place : Nat → Int32) (r_kind : Nat → Int32) (r_month : Nat → Int32) (r_day : Nat → Int32) (r_known : Nat → Int32) (r_struck : Nat → Int32) (p1 : Int32) (gamonths : gi amonths 0 24) (gafull : gi afull 0 5) (galean : gi alean 0 5) (gahasMoon : gi ahasMoon 0 1) (gaplaceCount : gi aplaceCount 0 6) (gareportCount : gi areportCount 0 24) (gadeedCount : gi adeedCount 0 8) (gr_place : ga r_place 24 0 5) (gr_month : ga r_month 24 0 23) (gr_struck : ga r_struck 24 0 1) (hx : p.tables.exec = Jvm.exec) (hb : c.code = cX0_latestNews) (hml : c.maxLocals = 4) (hown : s.vm.findClass RX0 = some m.cls) (hts : ∀ w ∈ ((.code yX0_latestNews cX0_latestNews 4 (some .int) :: wsGA) : List Cond), w.before args s = true) (hK : va_K (dC, dI) vwCl [(kre, .object RX7)] s) (hz : nzA s) (hF0 : va_P (dC, dI) vwCl (gz_fam 24 ra 7 (fun i => [.int (r_place i), .int (r_kind i), .int (r_month i), .int (r_day i), .int (r_known i), .int (r_struck i)])) s.heap) (hFA0 : gz_ap A (gz_fam 24 ra 7 (fun i => [.int (r_place i), .int (r_kind i), .int (r_month i), .int (r_day i), .int (r_known i), .int (r_struck i)]))) (hRf : 1 ≤ R.frames) (hRl : 21 ≤ R.locals) (hRc : cells ≤ R.cells) (hRs : slots ≤ R.slots) (kr46 : ∀ (v : Int32) (H : Heap) (locs : List Loc) (ls : Array Slot), gi v (-1) 2147483647 → va_P (dC, dI) vwCl [(h0, .inr (0, [.int amonths, .int afull, .int alean, .int alines, .int ahasMoon, .int amoonStart, .int amoonStep, .int aplaceCount, .int areportCount, .int adeedCount, .ref pl, .ref re, .ref de])), (re, .inl (kre, 24, .inr (.inr (.inr (.inr (fun i => some (ra i)))))))] H → va_S A s.heap H locs → lv_has ls 4 [] → W p l e R s m args below meth c H locs cells slots Q (F0 m 46 ls [.int v])) : ∀ z : Nat, (∀ (v2 : Int32) (v3 : Int32) (H : Heap) (locs : List Loc) (ls : Array Slot), gi v2 (-1) 2147483647 → gi v3 0 24 → 49 + (-2) * v3.toInt < (z : Int) → va_P (dC, dI) vwCl [(h0, .inr (0, [.int amonths, .int afull, .int alean, .int alines, .int ahasMoon, .int amoonStart, .int amoonStep, .int aplaceCount, .int areportCount, .int adeedCount, .ref pl, .ref re, .ref de])), (re, .inl (kre, 24, .inr (.inr (.inr (.inr (fun i => some (ra i)))))))] H → va_S A s.heap H locs → lv_has ls 4 [(0, .ref h0), (1, .int p1), (2, .int v2), (3, .int v3)] → W p l e R s m args below meth c H locs cells slots Q (F0 m 4 ls [])) := by
  intro z
  induction z with
  | zero =>
    intro v2 v3 H locs ls gv2 gv3 hmu hP hS hl
    exact absurd hmu (by have hv31 := gv3.1; have hv32 := gv3.2; omega)
  | succ z ih =>
      intro v2 v3 H locs ls gv2 gv3 hmu hP hS hl
      refine lv_iload_n hx hb dX0_latestNews_4 rfl (lv_at hl 3 rfl) ?_
      refine lv_aload_n hx hb dX0_latestNews_5 rfl (lv_at hl 0 rfl) ?_
      refine va_get (D := (dC, dI)) (ci := 0) (v := .int areportCount) (C := RX0) (T := TX0) (N := 13) hx hb hts (fun w h => List.mem_cons_of_mem _ (jnGA_X0 w h)) hown hK hP 0 rfl rfl 8 (by decide) (hts _ (List.mem_cons_of_mem _ mGA_160)) (fun _ h9 => h9) rfl dX0_latestNews_6 ?_
      refine lv_icmp_ge (tgt := 45) hx hb dX0_latestNews_9 (by decide) (fun c_166 => ?_) (fun c_166 => ?_)
      · refine lv_iload_n hx hb dX0_latestNews_45 rfl (lv_at hl 2 rfl) ?_
        exact kr46 v2 _ _ _ gv2 hP hS (lv_sub hl [] rfl)
      · have g_167 : gi v3 0 23 := gi_lt_l (Int32.not_le.mp c_166) gv3 gareportCount (by decide)
        have g_168 : gi areportCount 1 24 := gi_lt_r (Int32.not_le.mp c_166) gv3 gareportCount (by decide)
        refine lv_aload_n hx hb dX0_latestNews_12 rfl (lv_at hl 0 rfl) ?_
        refine va_get (D := (dC, dI)) (ci := 0) (v := .ref re) (C := RX0) (T := TX0) (N := 13) hx hb hts (fun w h => List.mem_cons_of_mem _ (jnGA_X0 w h)) hown hK hP 0 rfl rfl 11 (by decide) (hts _ (List.mem_cons_of_mem _ mGA_72)) (fun _ h9 => h9) rfl dX0_latestNews_13 ?_
        refine lv_iload_n hx hb dX0_latestNews_16 rfl (lv_at hl 3 rfl) ?_
        refine va_aldq hx hb hK hP 1 0 rfl rfl (gi_in g_167 (by decide)) dX0_latestNews_17 ?_
        refine W.eq (g2 := F0 m 18 ls [.ref (ra v3.toNatClampNeg)]) rfl ?_
        refine lv_iload_n hx hb dX0_latestNews_18 rfl (lv_at hl 1 rfl) ?_
        have hPc : va_P (dC, dI) vwCl [((ra v3.toNatClampNeg), .inr (7, [.int (r_place v3.toNatClampNeg), .int (r_kind v3.toNatClampNeg), .int (r_month v3.toNatClampNeg), .int (r_day v3.toNatClampNeg), .int (r_known v3.toNatClampNeg), .int (r_struck v3.toNatClampNeg)]))] H := (gz_fam1 (gz_ro hF0 hFA0 hS) (gz_clt (gi_in (n := 24) g_167 (by decide))))
        have hKc := hK.sub (tys' := []) [] rfl
        refine va_calli (va_runV (As := [.int p1]) (rest := []) ⟨hx, hb, hml, hown, hts⟩ (sX7_isKnownBy l dC dI (ra v3.toNatClampNeg) (r_place v3.toNatClampNeg) (r_kind v3.toNatClampNeg) (r_month v3.toNatClampNeg) (r_day v3.toNatClampNeg) (r_known v3.toNatClampNeg) (r_struck v3.toNatClampNeg) p1 (ga_ix gr_place (gi_in (n := 24) g_167 (by decide))) (ga_ix gr_month (gi_in (n := 24) g_167 (by decide))) (ga_ix gr_struck (gi_in (n := 24) g_167 (by decide)))) (cwV 1 hts (gz_gV mGA_437 mGA_438 mGA_439 mGA_78 mGA_440 goodGA) rfl rfl rfl (by decide +kernel) ⟨Nat.le_trans (Nat.le_of_ble_eq_true rfl) hRf, Nat.le_trans (Nat.le_of_ble_eq_true rfl) hRl⟩) ⟨bl_I (bl_a bl_P (bl_a bl_K bl_nz)), va_recv hKc hPc (ci := 7) (q0 := 0) rfl rfl, fun U hU hW => ⟨rfl, by rw [hU]; exact hPc, va_K.moved hW.alike hKc, nzA_warm hW hz⟩⟩ rfl rfl hl.1 rfl (lv_room (Nat.le_of_ble_eq_true rfl)) dX0_latestNews_19 ⟨hRc, hRs⟩) hS (fun q _ h => h.elim) (fun q h => h.elim) (fun r_169 u t H1 locs ht hvm hw hB hz1 hk1 hS => ?_)
        obtain ⟨hw, hE⟩ := hw
        have hP := gz_keep hP hk1
        generalize H1 = H at hP hS ⊢
        have gr_169 : gi r_169 0 1 := hw
        refine lv_if_eq (tgt := 39) hx hb dX0_latestNews_22 (by decide) (fun c_170 => ?_) (fun c_170 => ?_)
        · have g_171 : gi r_169 0 0 := gi_eq c_170 (gi_c 0 0 (by decide))
          obtain ⟨x_172, ex_172⟩ : ∃ y : Int32, y = v3 + 1 := ⟨_, rfl⟩
          have gx_172 : gi x_172 1 24 := gi_add ex_172 g_167 (gi_c 1 1 (by decide)) (by decide)
          refine lv_iinc (v := x_172) (lv' := [(3, .int x_172), (0, .ref h0), (1, .int p1), (2, .int v2)]) hx hb dX0_latestNews_39 hl (k := 3) rfl (by rw [ex_172]; rfl) (by decide) rfl (fun ls hl => ?_)
          refine lv_goto (tgt := 4) hx hb dX0_latestNews_42 (by decide) ?_
          exact ih v2 x_172 _ _ _ gv2 (gi_w gx_172 (by decide)) (by have av3 := gv3.1; have bv3 := gv3.2; have qgx_172 := gx_172.1; have rgx_172 := gx_172.2; have igx_172 : x_172.toInt = v3.toInt + 1 := (by have hc1 : (1 : Int32).toInt = 1 := (by decide); have h9 := gi_addI ex_172 (by have h1 := g_167.1; have h2 := (gi_c 1 1 (by decide)).1; have h3 := g_167.2; have h4 := (gi_c 1 1 (by decide)).2; omega) (by have h1 := g_167.1; have h2 := (gi_c 1 1 (by decide)).1; have h3 := g_167.2; have h4 := (gi_c 1 1 (by decide)).2; omega); rw [hc1] at h9; exact h9); have qgv3 := g_167.1; have rgv3 := g_167.2; omega) hP hS (lv_sub hl [1, 2, 3, 0] rfl)
        · have g_173 : gi r_169 1 1 := gi_ne_lo c_170 gr_169 (gi_c 0 0 (by decide)) (by decide)
          refine lv_iload_n hx hb dX0_latestNews_25 rfl (lv_at hl 2 rfl) ?_
          refine lv_aload_n hx hb dX0_latestNews_26 rfl (lv_at hl 0 rfl) ?_
          refine va_get (D := (dC, dI)) (ci := 0) (v := .ref re) (C := RX0) (T := TX0) (N := 13) hx hb hts (fun w h => List.mem_cons_of_mem _ (jnGA_X0 w h)) hown hK hP 0 rfl rfl 11 (by decide) (hts _ (List.mem_cons_of_mem _ mGA_72)) (fun _ h9 => h9) rfl dX0_latestNews_27 ?_
          refine lv_iload_n hx hb dX0_latestNews_30 rfl (lv_at hl 3 rfl) ?_
          refine va_aldq hx hb hK hP 1 0 rfl rfl (gi_in g_167 (by decide)) dX0_latestNews_31 ?_
          refine W.eq (g2 := F0 m 32 ls [.ref (ra v3.toNatClampNeg), .int v2]) rfl ?_
          refine va_get (D := (dC, dI)) (ci := 7) (v := .int (r_known v3.toNatClampNeg)) (C := RX7) (T := TX7) (N := 6) hx hb hts (fun w h => List.mem_cons_of_mem _ (jnGA_X7 w h)) hown hK (gz_ro hF0 hFA0 hS) (v3.toNatClampNeg) (gz_fam_at (gz_clt (gi_in (n := 24) g_167 (by decide)))) rfl 4 (by decide) (hts _ (List.mem_cons_of_mem _ mGA_321)) (fun _ h9 => h9) rfl dX0_latestNews_32 ?_
          refine lv_topi (fun x_174 ex_174 => ?_)
          refine va_mmax (own := RX0) hx hb (by rw [hml]; exact hl.1.symm) hown (hts _ (List.mem_cons_of_mem _ mGA_436)) (hts _ (List.mem_cons_of_mem _ mGA_344)) (hts _ (List.mem_cons_of_mem _ mGA_269)) (hts _ (List.mem_cons_of_mem _ mGA_345)) (Nat.le_trans (Nat.le_of_ble_eq_true rfl) hRf) (Nat.le_trans (Nat.le_of_ble_eq_true rfl) hRl) hRc hRs dX0_latestNews_35 ?_
          refine lv_topi (fun x_175 ex_175 => ?_)
          have gx_175 : gi x_175 (-1) 2147483647 := gi_max ex_175 gv2 (gi_any x_174) (by decide)
          refine lv_istore_n (lv' := [(2, .int x_175), (0, .ref h0), (1, .int p1), (3, .int v3)]) hx hb dX0_latestNews_38 rfl hl (by decide) rfl (fun ls hl => ?_)
          obtain ⟨x_176, ex_176⟩ : ∃ y : Int32, y = v3 + 1 := ⟨_, rfl⟩
          have gx_176 : gi x_176 1 24 := gi_add ex_176 g_167 (gi_c 1 1 (by decide)) (by decide)
          refine lv_iinc (v := x_176) (lv' := [(3, .int x_176), (2, .int x_175), (0, .ref h0), (1, .int p1)]) hx hb dX0_latestNews_39 hl (k := 3) rfl (by rw [ex_176]; rfl) (by decide) rfl (fun ls hl => ?_)
          refine lv_goto (tgt := 4) hx hb dX0_latestNews_42 (by decide) ?_
          exact ih x_175 x_176 _ _ _ gx_175 (gi_w gx_176 (by decide)) (by have av3 := gv3.1; have bv3 := gv3.2; have qgx_176 := gx_176.1; have rgx_176 := gx_176.2; have igx_176 : x_176.toInt = v3.toInt + 1 := (by have hc1 : (1 : Int32).toInt = 1 := (by decide); have h9 := gi_addI ex_176 (by have h1 := g_167.1; have h2 := (gi_c 1 1 (by decide)).1; have h3 := g_167.2; have h4 := (gi_c 1 1 (by decide)).2; omega) (by have h1 := g_167.1; have h2 := (gi_c 1 1 (by decide)).1; have h3 := g_167.2; have h4 := (gi_c 1 1 (by decide)).2; omega); rw [hc1] at h9; exact h9); have qgv3 := g_167.1; have rgv3 := g_167.2; omega) hP hS (lv_sub hl [2, 3, 1, 0] rfl)
set_option maxHeartbeats 4000000 in
set_option maxRecDepth 100000 in
theorem sX0_latestNews (l : Launch) (dC : Nat → ClassId) (dI : Nat → Nat → Nat) (h0 : Nat) (re : Nat) (amonths : Int32) (afull : Int32) (alean : Int32) (alines : Int32) (ahasMoon : Int32) (amoonStart : Int32) (amoonStep : Int32) (aplaceCount : Int32) (areportCount : Int32) (adeedCount : Int32) (pl : Nat) (de : Nat) (kre : ClassId) (ra : Nat → Nat) (r_place : Nat → Int32) (r_kind : Nat → Int32) (r_month : Nat → Int32) (r_day : Nat → Int32) (r_known : Nat → Int32) (r_struck : Nat → Int32) (p1 : Int32) (gamonths : gi amonths 0 24) (gafull : gi afull 0 5) (galean : gi alean 0 5) (gahasMoon : gi ahasMoon 0 1) (gaplaceCount : gi aplaceCount 0 6) (gareportCount : gi areportCount 0 24) (gadeedCount : gi adeedCount 0 8) (gr_place : ga r_place 24 0 5) (gr_month : ga r_month 24 0 23) (gr_struck : ga r_struck 24 0 1) : Met l yX0_latestNews (.code yX0_latestNews cX0_latestNews 4 (some .int) :: wsGA) ({ frames := 1, cells := 0, slots := 0, locals := 21 }) (va_Pc [.ref h0, .int p1] (fun U => va_P (dC, dI) vwCl [(h0, .inr (0, [.int amonths, .int afull, .int alean, .int alines, .int ahasMoon, .int amoonStart, .int amoonStep, .int aplaceCount, .int areportCount, .int adeedCount, .ref pl, .ref re, .ref de])), (re, .inl (kre, 24, .inr (.inr (.inr (.inr (fun i => some (ra i)))))))] U.heap ∧ va_K (dC, dI) vwCl [(kre, .object RX7)] U ∧ nzA U ∧ va_P (dC, dI) vwCl (gz_fam 24 ra 7 (fun i => [.int (r_place i), .int (r_kind i), .int (r_month i), .int (r_day i), .int (r_known i), .int (r_struck i)])) U.heap)) (va_Qi (fun (r : Int32) (u : Unit) => gi r (-1) 2147483647) (fun _ _ => True) (fun _ => False)) 0 0 (fun _ => False) := by
  refine Met.ofW (cc := cX0_latestNews) (maxL := 4) (ret := (some .int)) (by decide) rfl ?_
  intro p e s m args below meth c s₁ B hml hv
  obtain ⟨rfl, hP, hK, hz, hF0⟩ := hv
  have hx := B.exec
  have hb := B.bytes
  have hr := B.returns
  have hts := atoms_spec (ws := (.code yX0_latestNews cX0_latestNews 4 (some .int) :: wsGA)) B.pre
  have hown : s.vm.findClass RX0 = some m.cls := findClass_of_methodNamed B.named
  have hlocks := B.notSynchronized
  have hS : va_S (fun _ => False) s.heap s.heap [] := va_S.rf
  have hFA0 : gz_ap (fun _ => False) (gz_fam 24 ra 7 (fun i => [.int (r_place i), .int (r_kind i), .int (r_month i), .int (r_day i), .int (r_known i), .int (r_struck i)])) := gz_ap0
  have hl := lv_entry ([.ref h0, .int p1]) (n := 4) (Nat.le_of_ble_eq_true rfl)
  rw [lg_entry_eq]
  generalize (lg_sl ([.ref h0, .int p1]) ++ List.replicate (4 - (lg_sl ([.ref h0, .int p1])).length) Slot.unset).toArray = ls at hl ⊢
  have hl : lv_has ls 4 [(0, .ref h0), (1, .int p1)] := hl
  refine lv_iconst (v := (-1)) hx hb dX0_latestNews_0 (by decide) ?_
  refine lv_istore_n (lv' := [(2, .int (-1)), (0, .ref h0), (1, .int p1)]) hx hb dX0_latestNews_1 rfl hl (by decide) rfl (fun ls hl => ?_)
  refine lv_iconst (v := 0) hx hb dX0_latestNews_2 (by decide) ?_
  refine lv_istore_n (lv' := [(3, .int 0), (2, .int (-1)), (0, .ref h0), (1, .int p1)]) hx hb dX0_latestNews_3 rfl hl (by decide) rfl (fun ls hl => ?_)
  refine (lp_sX0_latestNews h0 re amonths afull alean alines ahasMoon amoonStart amoonStep aplaceCount areportCount adeedCount pl de kre ra r_place r_kind r_month r_day r_known r_struck p1 gamonths gafull galean gahasMoon gaplaceCount gareportCount gadeedCount gr_place gr_month gr_struck hx hb hml hown hts hK hz hF0 hFA0 (Nat.le_of_ble_eq_true rfl) (Nat.le_of_ble_eq_true rfl) (Nat.zero_le _) (Nat.zero_le _) (fun v H locs ls gv hP hS hl => ?_) 62) (-1) 0 _ _ _ (gi_w (gi_c (-1) (-1) (by decide)) (by decide)) (gi_w (gi_c 0 0 (by decide)) (by decide)) (by have k0 : (0 : Int32).toInt = 0 := (by decide); omega) hP hS (lv_sub hl [2, 3, 1, 0] rfl)
  · skip
    exact W.iret (v := v) hx hb hr (fun t ht hW => ⟨⟨v, (), rfl, gv, trivial⟩, hS.F ht⟩) hS.2.2 dX0_latestNews_46
theorem dX0_newsBehind_0 : decode cX0_newsBehind 0 = .ok (.sipush 1000, 3) := by decide +kernel
theorem dX0_newsBehind_3 : decode cX0_newsBehind 3 = .ok (.istore_n 2, 1) := by decide +kernel
theorem dX0_newsBehind_4 : decode cX0_newsBehind 4 = .ok (.iconst 0, 1) := by decide +kernel
theorem dX0_newsBehind_5 : decode cX0_newsBehind 5 = .ok (.istore_n 3, 1) := by decide +kernel
theorem dX0_newsBehind_6 : decode cX0_newsBehind 6 = .ok (.iload_n 3, 1) := by decide +kernel
theorem dX0_newsBehind_7 : decode cX0_newsBehind 7 = .ok (.aload_n 0, 1) := by decide +kernel
theorem dX0_newsBehind_8 : decode cX0_newsBehind 8 = .ok (.getfield 58, 3) := by decide +kernel
theorem dX0_newsBehind_11 : decode cX0_newsBehind 11 = .ok (.if_icmp .ge 48, 3) := by decide +kernel
theorem dX0_newsBehind_14 : decode cX0_newsBehind 14 = .ok (.aload_n 0, 1) := by decide +kernel
theorem dX0_newsBehind_15 : decode cX0_newsBehind 15 = .ok (.getfield 19, 3) := by decide +kernel
theorem dX0_newsBehind_18 : decode cX0_newsBehind 18 = .ok (.iload_n 3, 1) := by decide +kernel
theorem dX0_newsBehind_19 : decode cX0_newsBehind 19 = .ok (.aaload, 1) := by decide +kernel
theorem dX0_newsBehind_20 : decode cX0_newsBehind 20 = .ok (.getfield 96, 3) := by decide +kernel
theorem dX0_newsBehind_23 : decode cX0_newsBehind 23 = .ok (.ifCond .ne 30, 3) := by decide +kernel
theorem dX0_newsBehind_26 : decode cX0_newsBehind 26 = .ok (.aload_n 0, 1) := by decide +kernel
theorem dX0_newsBehind_27 : decode cX0_newsBehind 27 = .ok (.getfield 19, 3) := by decide +kernel
theorem dX0_newsBehind_30 : decode cX0_newsBehind 30 = .ok (.iload_n 3, 1) := by decide +kernel
theorem dX0_newsBehind_31 : decode cX0_newsBehind 31 = .ok (.aaload, 1) := by decide +kernel
theorem dX0_newsBehind_32 : decode cX0_newsBehind 32 = .ok (.getfield 89, 3) := by decide +kernel
theorem dX0_newsBehind_35 : decode cX0_newsBehind 35 = .ok (.iload_n 1, 1) := by decide +kernel
theorem dX0_newsBehind_36 : decode cX0_newsBehind 36 = .ok (.if_icmp .le 17, 3) := by decide +kernel
theorem dX0_newsBehind_39 : decode cX0_newsBehind 39 = .ok (.iload_n 2, 1) := by decide +kernel
theorem dX0_newsBehind_40 : decode cX0_newsBehind 40 = .ok (.aload_n 0, 1) := by decide +kernel
theorem dX0_newsBehind_41 : decode cX0_newsBehind 41 = .ok (.getfield 19, 3) := by decide +kernel
theorem dX0_newsBehind_44 : decode cX0_newsBehind 44 = .ok (.iload_n 3, 1) := by decide +kernel
theorem dX0_newsBehind_45 : decode cX0_newsBehind 45 = .ok (.aaload, 1) := by decide +kernel
theorem dX0_newsBehind_46 : decode cX0_newsBehind 46 = .ok (.getfield 89, 3) := by decide +kernel
theorem dX0_newsBehind_49 : decode cX0_newsBehind 49 = .ok (.invokestatic 121, 3) := by decide +kernel
theorem dX0_newsBehind_52 : decode cX0_newsBehind 52 = .ok (.istore_n 2, 1) := by decide +kernel
theorem dX0_newsBehind_53 : decode cX0_newsBehind 53 = .ok (.iinc 3 1, 3) := by decide +kernel
theorem dX0_newsBehind_56 : decode cX0_newsBehind 56 = .ok (.goto (-50), 3) := by decide +kernel
theorem dX0_newsBehind_59 : decode cX0_newsBehind 59 = .ok (.iload_n 2, 1) := by decide +kernel
theorem dX0_newsBehind_60 : decode cX0_newsBehind 60 = .ok (.ireturn, 1) := by decide +kernel
set_option maxHeartbeats 4000000 in
set_option maxRecDepth 100000 in
theorem lp_sX0_newsBehind {p : Program} {l : Launch} {e : Env} {R : Room} {s : State} {m : MethodId} {args : Array Value} {below : List Frame} {meth : Method} {c : Code} {Q : State → Prop} {A : Nat → Prop} {cells slots : Nat} {dC : Nat → ClassId} {dI : Nat → Nat → Nat} (h0 : Nat) (re : Nat) (amonths : Int32) (afull : Int32) (alean : Int32) (alines : Int32) (ahasMoon : Int32) (amoonStart : Int32) (amoonStep : Int32) (aplaceCount : Int32) (areportCount : Int32) (adeedCount : Int32) (pl : Nat) (de : Nat) (kre : ClassId) (ra : Nat → Nat) (r_place : Nat → Int32) (r_kind : Nat → Int32) (r_month : Nat → Int32) (r_day : Nat → Int32) (r_known : Nat → Int32) (r_struck : Nat → Int32) (p1 : Int32) (gamonths : gi amonths 0 24) (gafull : gi afull 0 5) (galean : gi alean 0 5) (gahasMoon : gi ahasMoon 0 1) (gaplaceCount : gi aplaceCount 0 6) (gareportCount : gi areportCount 0 24) (gadeedCount : gi adeedCount 0 8) (gr_place : ga r_place 24 0 5) (gr_month : ga r_month 24 0 23) (gr_struck : ga r_struck 24 0 1) (hx : p.tables.exec = Jvm.exec) (hb : c.code = cX0_newsBehind) (hml : c.maxLocals = 4) (hown : s.vm.findClass RX0 = some m.cls) (hts : ∀ w ∈ ((.code yX0_newsBehind cX0_newsBehind 4 (some .int) :: wsGA) : List Cond), w.before args s = true) (hK : va_K (dC, dI) vwCl [(kre, .object RX7)] s) (hz : nzA s) (hF0 : va_P (dC, dI) vwCl (gz_fam 24 ra 7 (fun i => [.int (r_place i), .int (r_kind i), .int (r_month i), .int (r_day i), .int (r_known i), .int (r_struck i)])) s.heap) (hFA0 : gz_ap A (gz_fam 24 ra 7 (fun i => [.int (r_place i), .int (r_kind i), .int (r_month i), .int (r_day i), .int (r_known i), .int (r_struck i)]))) (hRf : 1 ≤ R.frames) (hRl : 13 ≤ R.locals) (hRc : cells ≤ R.cells) (hRs : slots ≤ R.slots) (kr60 : ∀ (v : Int32) (H : Heap) (locs : List Loc) (ls : Array Slot), gi v (-2147483648) 1000 → va_P (dC, dI) vwCl [(h0, .inr (0, [.int amonths, .int afull, .int alean, .int alines, .int ahasMoon, .int amoonStart, .int amoonStep, .int aplaceCount, .int areportCount, .int adeedCount, .ref pl, .ref re, .ref de])), (re, .inl (kre, 24, .inr (.inr (.inr (.inr (fun i => some (ra i)))))))] H → va_S A s.heap H locs → lv_has ls 4 [] → W p l e R s m args below meth c H locs cells slots Q (F0 m 60 ls [.int v])) : ∀ z : Nat, (∀ (v2 : Int32) (v3 : Int32) (H : Heap) (locs : List Loc) (ls : Array Slot), gi v2 (-2147483648) 1000 → gi v3 0 24 → 49 + (-2) * v3.toInt < (z : Int) → va_P (dC, dI) vwCl [(h0, .inr (0, [.int amonths, .int afull, .int alean, .int alines, .int ahasMoon, .int amoonStart, .int amoonStep, .int aplaceCount, .int areportCount, .int adeedCount, .ref pl, .ref re, .ref de])), (re, .inl (kre, 24, .inr (.inr (.inr (.inr (fun i => some (ra i)))))))] H → va_S A s.heap H locs → lv_has ls 4 [(0, .ref h0), (1, .int p1), (2, .int v2), (3, .int v3)] → W p l e R s m args below meth c H locs cells slots Q (F0 m 6 ls [])) := by
  intro z
  induction z with
  | zero =>
    intro v2 v3 H locs ls gv2 gv3 hmu hP hS hl
    exact absurd hmu (by have hv31 := gv3.1; have hv32 := gv3.2; omega)
  | succ z ih =>
      intro v2 v3 H locs ls gv2 gv3 hmu hP hS hl
      refine lv_iload_n hx hb dX0_newsBehind_6 rfl (lv_at hl 3 rfl) ?_
      refine lv_aload_n hx hb dX0_newsBehind_7 rfl (lv_at hl 0 rfl) ?_
      refine va_get (D := (dC, dI)) (ci := 0) (v := .int areportCount) (C := RX0) (T := TX0) (N := 13) hx hb hts (fun w h => List.mem_cons_of_mem _ (jnGA_X0 w h)) hown hK hP 0 rfl rfl 8 (by decide) (hts _ (List.mem_cons_of_mem _ mGA_160)) (fun _ h9 => h9) rfl dX0_newsBehind_8 ?_
      refine lv_icmp_ge (tgt := 59) hx hb dX0_newsBehind_11 (by decide) (fun c_241 => ?_) (fun c_241 => ?_)
      · refine lv_iload_n hx hb dX0_newsBehind_59 rfl (lv_at hl 2 rfl) ?_
        exact kr60 v2 _ _ _ gv2 hP hS (lv_sub hl [] rfl)
      · have g_242 : gi v3 0 23 := gi_lt_l (Int32.not_le.mp c_241) gv3 gareportCount (by decide)
        have g_243 : gi areportCount 1 24 := gi_lt_r (Int32.not_le.mp c_241) gv3 gareportCount (by decide)
        refine lv_aload_n hx hb dX0_newsBehind_14 rfl (lv_at hl 0 rfl) ?_
        refine va_get (D := (dC, dI)) (ci := 0) (v := .ref re) (C := RX0) (T := TX0) (N := 13) hx hb hts (fun w h => List.mem_cons_of_mem _ (jnGA_X0 w h)) hown hK hP 0 rfl rfl 11 (by decide) (hts _ (List.mem_cons_of_mem _ mGA_72)) (fun _ h9 => h9) rfl dX0_newsBehind_15 ?_
        refine lv_iload_n hx hb dX0_newsBehind_18 rfl (lv_at hl 3 rfl) ?_
        refine va_aldq hx hb hK hP 1 0 rfl rfl (gi_in g_242 (by decide)) dX0_newsBehind_19 ?_
        refine W.eq (g2 := F0 m 20 ls [.ref (ra v3.toNatClampNeg)]) rfl ?_
        refine va_get (D := (dC, dI)) (ci := 7) (v := .int (r_struck v3.toNatClampNeg)) (C := RX7) (T := TX7) (N := 6) hx hb hts (fun w h => List.mem_cons_of_mem _ (jnGA_X7 w h)) hown hK (gz_ro hF0 hFA0 hS) (v3.toNatClampNeg) (gz_fam_at (gz_clt (gi_in (n := 24) g_242 (by decide)))) rfl 5 (by decide) (hts _ (List.mem_cons_of_mem _ mGA_322)) (fun _ h9 => h9) rfl dX0_newsBehind_20 ?_
        refine lv_topi (fun x_244 ex_244 => ?_)
        have gx_244 : gi x_244 0 1 := ga_at gr_struck (gi_in (n := 24) g_242 (by decide)) ex_244
        refine lv_if_ne (tgt := 53) hx hb dX0_newsBehind_23 (by decide) (fun c_245 => ?_) (fun c_245 => ?_)
        · have g_246 : gi x_244 1 1 := gi_ne_lo c_245 gx_244 (gi_c 0 0 (by decide)) (by decide)
          obtain ⟨x_247, ex_247⟩ : ∃ y : Int32, y = v3 + 1 := ⟨_, rfl⟩
          have gx_247 : gi x_247 1 24 := gi_add ex_247 g_242 (gi_c 1 1 (by decide)) (by decide)
          refine lv_iinc (v := x_247) (lv' := [(3, .int x_247), (0, .ref h0), (1, .int p1), (2, .int v2)]) hx hb dX0_newsBehind_53 hl (k := 3) rfl (by rw [ex_247]; rfl) (by decide) rfl (fun ls hl => ?_)
          refine lv_goto (tgt := 6) hx hb dX0_newsBehind_56 (by decide) ?_
          exact ih v2 x_247 _ _ _ gv2 (gi_w gx_247 (by decide)) (by have av3 := gv3.1; have bv3 := gv3.2; have qgx_247 := gx_247.1; have rgx_247 := gx_247.2; have igx_247 : x_247.toInt = v3.toInt + 1 := (by have hc1 : (1 : Int32).toInt = 1 := (by decide); have h9 := gi_addI ex_247 (by have h1 := g_242.1; have h2 := (gi_c 1 1 (by decide)).1; have h3 := g_242.2; have h4 := (gi_c 1 1 (by decide)).2; omega) (by have h1 := g_242.1; have h2 := (gi_c 1 1 (by decide)).1; have h3 := g_242.2; have h4 := (gi_c 1 1 (by decide)).2; omega); rw [hc1] at h9; exact h9); have qgv3 := g_242.1; have rgv3 := g_242.2; omega) hP hS (lv_sub hl [1, 2, 3, 0] rfl)
        · have g_248 : gi x_244 0 0 := gi_eq c_245 (gi_c 0 0 (by decide))
          refine lv_aload_n hx hb dX0_newsBehind_26 rfl (lv_at hl 0 rfl) ?_
          refine va_get (D := (dC, dI)) (ci := 0) (v := .ref re) (C := RX0) (T := TX0) (N := 13) hx hb hts (fun w h => List.mem_cons_of_mem _ (jnGA_X0 w h)) hown hK hP 0 rfl rfl 11 (by decide) (hts _ (List.mem_cons_of_mem _ mGA_72)) (fun _ h9 => h9) rfl dX0_newsBehind_27 ?_
          refine lv_iload_n hx hb dX0_newsBehind_30 rfl (lv_at hl 3 rfl) ?_
          refine va_aldq hx hb hK hP 1 0 rfl rfl (gi_in g_242 (by decide)) dX0_newsBehind_31 ?_
          refine W.eq (g2 := F0 m 32 ls [.ref (ra v3.toNatClampNeg)]) rfl ?_
          refine va_get (D := (dC, dI)) (ci := 7) (v := .int (r_known v3.toNatClampNeg)) (C := RX7) (T := TX7) (N := 6) hx hb hts (fun w h => List.mem_cons_of_mem _ (jnGA_X7 w h)) hown hK (gz_ro hF0 hFA0 hS) (v3.toNatClampNeg) (gz_fam_at (gz_clt (gi_in (n := 24) g_242 (by decide)))) rfl 4 (by decide) (hts _ (List.mem_cons_of_mem _ mGA_321)) (fun _ h9 => h9) rfl dX0_newsBehind_32 ?_
          refine lv_topi (fun x_249 ex_249 => ?_)
          refine lv_iload_n hx hb dX0_newsBehind_35 rfl (lv_at hl 1 rfl) ?_
          refine lv_icmp_le (tgt := 53) hx hb dX0_newsBehind_36 (by decide) (fun c_250 => ?_) (fun c_250 => ?_)
          · obtain ⟨x_251, ex_251⟩ : ∃ y : Int32, y = v3 + 1 := ⟨_, rfl⟩
            have gx_251 : gi x_251 1 24 := gi_add ex_251 g_242 (gi_c 1 1 (by decide)) (by decide)
            refine lv_iinc (v := x_251) (lv' := [(3, .int x_251), (0, .ref h0), (1, .int p1), (2, .int v2)]) hx hb dX0_newsBehind_53 hl (k := 3) rfl (by rw [ex_251]; rfl) (by decide) rfl (fun ls hl => ?_)
            refine lv_goto (tgt := 6) hx hb dX0_newsBehind_56 (by decide) ?_
            exact ih v2 x_251 _ _ _ gv2 (gi_w gx_251 (by decide)) (by have av3 := gv3.1; have bv3 := gv3.2; have qgx_251 := gx_251.1; have rgx_251 := gx_251.2; have igx_251 : x_251.toInt = v3.toInt + 1 := (by have hc1 : (1 : Int32).toInt = 1 := (by decide); have h9 := gi_addI ex_251 (by have h1 := g_242.1; have h2 := (gi_c 1 1 (by decide)).1; have h3 := g_242.2; have h4 := (gi_c 1 1 (by decide)).2; omega) (by have h1 := g_242.1; have h2 := (gi_c 1 1 (by decide)).1; have h3 := g_242.2; have h4 := (gi_c 1 1 (by decide)).2; omega); rw [hc1] at h9; exact h9); have qgv3 := g_242.1; have rgv3 := g_242.2; omega) hP hS (lv_sub hl [1, 2, 3, 0] rfl)
          · have g_252 : gi p1 (-2147483648) 2147483646 := gi_lt_l (Int32.not_le.mp c_250) (gi_any p1) (gi_any x_249) (by decide)
            have g_253 : gi x_249 (-2147483647) 2147483647 := gi_lt_r (Int32.not_le.mp c_250) (gi_any p1) (gi_any x_249) (by decide)
            refine lv_iload_n hx hb dX0_newsBehind_39 rfl (lv_at hl 2 rfl) ?_
            refine lv_aload_n hx hb dX0_newsBehind_40 rfl (lv_at hl 0 rfl) ?_
            refine va_get (D := (dC, dI)) (ci := 0) (v := .ref re) (C := RX0) (T := TX0) (N := 13) hx hb hts (fun w h => List.mem_cons_of_mem _ (jnGA_X0 w h)) hown hK hP 0 rfl rfl 11 (by decide) (hts _ (List.mem_cons_of_mem _ mGA_72)) (fun _ h9 => h9) rfl dX0_newsBehind_41 ?_
            refine lv_iload_n hx hb dX0_newsBehind_44 rfl (lv_at hl 3 rfl) ?_
            refine va_aldq hx hb hK hP 1 0 rfl rfl (gi_in g_242 (by decide)) dX0_newsBehind_45 ?_
            refine W.eq (g2 := F0 m 46 ls [.ref (ra v3.toNatClampNeg), .int v2]) rfl ?_
            refine va_get (D := (dC, dI)) (ci := 7) (v := .int (r_known v3.toNatClampNeg)) (C := RX7) (T := TX7) (N := 6) hx hb hts (fun w h => List.mem_cons_of_mem _ (jnGA_X7 w h)) hown hK (gz_ro hF0 hFA0 hS) (v3.toNatClampNeg) (gz_fam_at (gz_clt (gi_in (n := 24) g_242 (by decide)))) rfl 4 (by decide) (hts _ (List.mem_cons_of_mem _ mGA_321)) (fun _ h9 => h9) rfl dX0_newsBehind_46 ?_
            refine lv_topi (fun x_254 ex_254 => ?_)
            refine va_mmin (own := RX0) hx hb (by rw [hml]; exact hl.1.symm) hown (hts _ (List.mem_cons_of_mem _ mGA_718)) (hts _ (List.mem_cons_of_mem _ mGA_268)) (hts _ (List.mem_cons_of_mem _ mGA_269)) (hts _ (List.mem_cons_of_mem _ mGA_270)) (Nat.le_trans (Nat.le_of_ble_eq_true rfl) hRf) (Nat.le_trans (Nat.le_of_ble_eq_true rfl) hRl) hRc hRs dX0_newsBehind_49 ?_
            refine lv_topi (fun x_255 ex_255 => ?_)
            have gx_255 : gi x_255 (-2147483648) 1000 := gi_min ex_255 gv2 (gi_any x_254) (by decide)
            refine lv_istore_n (lv' := [(2, .int x_255), (0, .ref h0), (1, .int p1), (3, .int v3)]) hx hb dX0_newsBehind_52 rfl hl (by decide) rfl (fun ls hl => ?_)
            obtain ⟨x_256, ex_256⟩ : ∃ y : Int32, y = v3 + 1 := ⟨_, rfl⟩
            have gx_256 : gi x_256 1 24 := gi_add ex_256 g_242 (gi_c 1 1 (by decide)) (by decide)
            refine lv_iinc (v := x_256) (lv' := [(3, .int x_256), (2, .int x_255), (0, .ref h0), (1, .int p1)]) hx hb dX0_newsBehind_53 hl (k := 3) rfl (by rw [ex_256]; rfl) (by decide) rfl (fun ls hl => ?_)
            refine lv_goto (tgt := 6) hx hb dX0_newsBehind_56 (by decide) ?_
            exact ih x_255 x_256 _ _ _ gx_255 (gi_w gx_256 (by decide)) (by have av3 := gv3.1; have bv3 := gv3.2; have qgx_256 := gx_256.1; have rgx_256 := gx_256.2; have igx_256 : x_256.toInt = v3.toInt + 1 := (by have hc1 : (1 : Int32).toInt = 1 := (by decide); have h9 := gi_addI ex_256 (by have h1 := g_242.1; have h2 := (gi_c 1 1 (by decide)).1; have h3 := g_242.2; have h4 := (gi_c 1 1 (by decide)).2; omega) (by have h1 := g_242.1; have h2 := (gi_c 1 1 (by decide)).1; have h3 := g_242.2; have h4 := (gi_c 1 1 (by decide)).2; omega); rw [hc1] at h9; exact h9); have qgv3 := g_242.1; have rgv3 := g_242.2; omega) hP hS (lv_sub hl [2, 3, 1, 0] rfl)
set_option maxHeartbeats 4000000 in
set_option maxRecDepth 100000 in
theorem sX0_newsBehind (l : Launch) (dC : Nat → ClassId) (dI : Nat → Nat → Nat) (h0 : Nat) (re : Nat) (amonths : Int32) (afull : Int32) (alean : Int32) (alines : Int32) (ahasMoon : Int32) (amoonStart : Int32) (amoonStep : Int32) (aplaceCount : Int32) (areportCount : Int32) (adeedCount : Int32) (pl : Nat) (de : Nat) (kre : ClassId) (ra : Nat → Nat) (r_place : Nat → Int32) (r_kind : Nat → Int32) (r_month : Nat → Int32) (r_day : Nat → Int32) (r_known : Nat → Int32) (r_struck : Nat → Int32) (p1 : Int32) (gamonths : gi amonths 0 24) (gafull : gi afull 0 5) (galean : gi alean 0 5) (gahasMoon : gi ahasMoon 0 1) (gaplaceCount : gi aplaceCount 0 6) (gareportCount : gi areportCount 0 24) (gadeedCount : gi adeedCount 0 8) (gr_place : ga r_place 24 0 5) (gr_month : ga r_month 24 0 23) (gr_struck : ga r_struck 24 0 1) : Met l yX0_newsBehind (.code yX0_newsBehind cX0_newsBehind 4 (some .int) :: wsGA) ({ frames := 1, cells := 0, slots := 0, locals := 13 }) (va_Pc [.ref h0, .int p1] (fun U => va_P (dC, dI) vwCl [(h0, .inr (0, [.int amonths, .int afull, .int alean, .int alines, .int ahasMoon, .int amoonStart, .int amoonStep, .int aplaceCount, .int areportCount, .int adeedCount, .ref pl, .ref re, .ref de])), (re, .inl (kre, 24, .inr (.inr (.inr (.inr (fun i => some (ra i)))))))] U.heap ∧ va_K (dC, dI) vwCl [(kre, .object RX7)] U ∧ nzA U ∧ va_P (dC, dI) vwCl (gz_fam 24 ra 7 (fun i => [.int (r_place i), .int (r_kind i), .int (r_month i), .int (r_day i), .int (r_known i), .int (r_struck i)])) U.heap)) (va_Qi (fun (r : Int32) (u : Unit) => gi r (-2147483648) 1000) (fun _ _ => True) (fun _ => False)) 0 0 (fun _ => False) := by
  refine Met.ofW (cc := cX0_newsBehind) (maxL := 4) (ret := (some .int)) (by decide) rfl ?_
  intro p e s m args below meth c s₁ B hml hv
  obtain ⟨rfl, hP, hK, hz, hF0⟩ := hv
  have hx := B.exec
  have hb := B.bytes
  have hr := B.returns
  have hts := atoms_spec (ws := (.code yX0_newsBehind cX0_newsBehind 4 (some .int) :: wsGA)) B.pre
  have hown : s.vm.findClass RX0 = some m.cls := findClass_of_methodNamed B.named
  have hlocks := B.notSynchronized
  have hS : va_S (fun _ => False) s.heap s.heap [] := va_S.rf
  have hFA0 : gz_ap (fun _ => False) (gz_fam 24 ra 7 (fun i => [.int (r_place i), .int (r_kind i), .int (r_month i), .int (r_day i), .int (r_known i), .int (r_struck i)])) := gz_ap0
  have hl := lv_entry ([.ref h0, .int p1]) (n := 4) (Nat.le_of_ble_eq_true rfl)
  rw [lg_entry_eq]
  generalize (lg_sl ([.ref h0, .int p1]) ++ List.replicate (4 - (lg_sl ([.ref h0, .int p1])).length) Slot.unset).toArray = ls at hl ⊢
  have hl : lv_has ls 4 [(0, .ref h0), (1, .int p1)] := hl
  refine lv_sipush (v := 1000) hx hb dX0_newsBehind_0 (by decide) ?_
  refine lv_istore_n (lv' := [(2, .int 1000), (0, .ref h0), (1, .int p1)]) hx hb dX0_newsBehind_3 rfl hl (by decide) rfl (fun ls hl => ?_)
  refine lv_iconst (v := 0) hx hb dX0_newsBehind_4 (by decide) ?_
  refine lv_istore_n (lv' := [(3, .int 0), (2, .int 1000), (0, .ref h0), (1, .int p1)]) hx hb dX0_newsBehind_5 rfl hl (by decide) rfl (fun ls hl => ?_)
  refine (lp_sX0_newsBehind h0 re amonths afull alean alines ahasMoon amoonStart amoonStep aplaceCount areportCount adeedCount pl de kre ra r_place r_kind r_month r_day r_known r_struck p1 gamonths gafull galean gahasMoon gaplaceCount gareportCount gadeedCount gr_place gr_month gr_struck hx hb hml hown hts hK hz hF0 hFA0 (Nat.le_of_ble_eq_true rfl) (Nat.le_of_ble_eq_true rfl) (Nat.zero_le _) (Nat.zero_le _) (fun v H locs ls gv hP hS hl => ?_) 62) 1000 0 _ _ _ (gi_w (gi_c 1000 1000 (by decide)) (by decide)) (gi_w (gi_c 0 0 (by decide)) (by decide)) (by have k0 : (0 : Int32).toInt = 0 := (by decide); omega) hP hS (lv_sub hl [2, 3, 1, 0] rfl)
  · skip
    exact W.iret (v := v) hx hb hr (fun t ht hW => ⟨⟨v, (), rfl, gv, trivial⟩, hS.F ht⟩) hS.2.2 dX0_newsBehind_60
abbrev fsMM (mi : Nat → Int32) (mr : Nat → Nat) : List Value := [.int (mi 0), .int (mi 1), .int (mi 2), .int (mi 3), .int (mi 4), .int (mi 5), .int (mi 6), .int (mi 7), .ref (mr 0), .ref (mr 1), .int (mi 10), .ref (mr 2), .ref (mr 3), .ref (mr 4), .ref (mr 5), .ref (mr 6), .ref (mr 7), .int (mi 17), .ref (mr 8), .ref (mr 9), .ref (mr 10), .ref (mr 11), .ref (mr 12), .int (mi 23), .int (mi 24), .ref (mr 13), .int (mi 26), .int (mi 27), .int (mi 28), .int (mi 29), .int (mi 30), .int (mi 31), .int (mi 32), .int (mi 33), .ref (mr 14), .ref (mr 15), .ref (mr 16), .int (mi 37), .ref (mr 17), .ref (mr 18), .ref (mr 19), .int (mi 41), .int (mi 42), .int (mi 43), .int (mi 44), .int (mi 45), .ref (mr 20), .int (mi 47), .int (mi 48), .int (mi 49), .int (mi 50), .int (mi 51), .ref (mr 21), .ref (mr 22), .int (mi 54), .ref (mr 23), .int (mi 56)]
abbrev MWn (hm : Nat) (mr : Nat → Nat) (km : Nat → ClassId) (i0 i1 i2 i3 i4 i5 i6 i7 i10 i17 i23 i24 i26 i27 i28 i29 i30 i31 i32 i33 i37 i41 i42 i43 i44 i45 i47 i48 i49 i50 i51 i54 i56 : Int32) (fm_trust fm_letter fm_reportPlace fm_reportKind fm_struck fm_reportMonth fm_reportDay fm_reportKnown fm_deedMonth fm_deedDay fm_deedLong fm_deedKind fm_kept fm_tape fm_must fm_least fm_pin fm_ways fm_verdict fm_row fm_official fm_aside fm_worth fm_out : Nat → Int32) : va_W := [(hm, .inr (12, [.int i0, .int i1, .int i2, .int i3, .int i4, .int i5, .int i6, .int i7, .ref (mr 0), .ref (mr 1), .int i10, .ref (mr 2), .ref (mr 3), .ref (mr 4), .ref (mr 5), .ref (mr 6), .ref (mr 7), .int i17, .ref (mr 8), .ref (mr 9), .ref (mr 10), .ref (mr 11), .ref (mr 12), .int i23, .int i24, .ref (mr 13), .int i26, .int i27, .int i28, .int i29, .int i30, .int i31, .int i32, .int i33, .ref (mr 14), .ref (mr 15), .ref (mr 16), .int i37, .ref (mr 17), .ref (mr 18), .ref (mr 19), .int i41, .int i42, .int i43, .int i44, .int i45, .ref (mr 20), .int i47, .int i48, .int i49, .int i50, .int i51, .ref (mr 21), .ref (mr 22), .int i54, .ref (mr 23), .int i56])), ((mr 0), .inl ((km 0), 6, .inl fm_trust)), ((mr 1), .inl ((km 1), 36, .inl fm_letter)), ((mr 2), .inl ((km 2), 24, .inl fm_reportPlace)), ((mr 3), .inl ((km 3), 24, .inl fm_reportKind)), ((mr 4), .inl ((km 4), 24, .inl fm_struck)), ((mr 5), .inl ((km 5), 24, .inl fm_reportMonth)), ((mr 6), .inl ((km 6), 24, .inl fm_reportDay)), ((mr 7), .inl ((km 7), 24, .inl fm_reportKnown)), ((mr 8), .inl ((km 8), 8, .inl fm_deedMonth)), ((mr 9), .inl ((km 9), 8, .inl fm_deedDay)), ((mr 10), .inl ((km 10), 8, .inl fm_deedLong)), ((mr 11), .inl ((km 11), 8, .inl fm_deedKind)), ((mr 12), .inl ((km 12), 300, .inl fm_kept)), ((mr 13), .inl ((km 13), 1600, .inl fm_tape)), ((mr 14), .inl ((km 14), 25, .inl fm_must)), ((mr 15), .inl ((km 15), 25, .inl fm_least)), ((mr 16), .inl ((km 16), 25, .inl fm_pin)), ((mr 17), .inl ((km 17), 6875, .inl fm_ways)), ((mr 18), .inl ((km 18), 24, .inl fm_verdict)), ((mr 19), .inl ((km 19), 24, .inl fm_row)), ((mr 20), .inl ((km 20), 25, .inl fm_official)), ((mr 21), .inl ((km 21), 25, .inl fm_aside)), ((mr 22), .inl ((km 22), 6875, .inl fm_worth)), ((mr 23), .inl ((km 23), 80, .inl fm_out))]
abbrev MT (km : Nat → ClassId) : List (ClassId × FieldType) := [((km 0), .int), ((km 1), .int), ((km 2), .int), ((km 3), .int), ((km 4), .boolean), ((km 5), .int), ((km 6), .int), ((km 7), .int), ((km 8), .int), ((km 9), .int), ((km 10), .int), ((km 11), .int), ((km 12), .int), ((km 13), .int), ((km 14), .int), ((km 15), .int), ((km 16), .int), ((km 17), .int), ((km 18), .int), ((km 19), .int), ((km 20), .int), ((km 21), .int), ((km 22), .int), ((km 23), .int)]
theorem mw_recv {s : State} {H : Heap} {dC : Nat → ClassId} {dI : Nat → Nat → Nat} {tys : List (ClassId × FieldType)} {hm : Nat} {mr : Nat → Nat} {km : Nat → ClassId} {i0 i1 i2 i3 i4 i5 i6 i7 i10 i17 i23 i24 i26 i27 i28 i29 i30 i31 i32 i33 i37 i41 i42 i43 i44 i45 i47 i48 i49 i50 i51 i54 i56 : Int32} {fm_trust fm_letter fm_reportPlace fm_reportKind fm_struck fm_reportMonth fm_reportDay fm_reportKnown fm_deedMonth fm_deedDay fm_deedLong fm_deedKind fm_kept fm_tape fm_must fm_least fm_pin fm_ways fm_verdict fm_row fm_official fm_aside fm_worth fm_out : Nat → Int32} (hK : va_K (dC, dI) vwCl tys s) (hP : va_P (dC, dI) vwCl (MWn hm mr km i0 i1 i2 i3 i4 i5 i6 i7 i10 i17 i23 i24 i26 i27 i28 i29 i30 i31 i32 i33 i37 i41 i42 i43 i44 i45 i47 i48 i49 i50 i51 i54 i56 fm_trust fm_letter fm_reportPlace fm_reportKind fm_struck fm_reportMonth fm_reportDay fm_reportKnown fm_deedMonth fm_deedDay fm_deedLong fm_deedKind fm_kept fm_tape fm_must fm_least fm_pin fm_ways fm_verdict fm_row fm_official fm_aside fm_worth fm_out) H) : ∃ cell : Cell, H[hm]? = some cell ∧ cell.vm.isStatics = false ∧ s.vm.findClass RX12 = some cell.cls := va_recv hK hP (ci := 12) (q0 := 0) rfl rfl
theorem dX12_in_0 : decode cX12_in 0 = .ok (.lload_n 0, 1) := by decide +kernel
theorem dX12_in_1 : decode cX12_in 1 = .ok (.lload_n 2, 1) := by decide +kernel
theorem dX12_in_2 : decode cX12_in 2 = .ok (.lcmp, 1) := by decide +kernel
theorem dX12_in_3 : decode cX12_in 3 = .ok (.ifCond .lt 14, 3) := by decide +kernel
theorem dX12_in_6 : decode cX12_in 6 = .ok (.lload_n 0, 1) := by decide +kernel
theorem dX12_in_7 : decode cX12_in 7 = .ok (.lload 4, 2) := by decide +kernel
theorem dX12_in_9 : decode cX12_in 9 = .ok (.lcmp, 1) := by decide +kernel
theorem dX12_in_10 : decode cX12_in 10 = .ok (.ifCond .gt 7, 3) := by decide +kernel
theorem dX12_in_13 : decode cX12_in 13 = .ok (.iconst 1, 1) := by decide +kernel
theorem dX12_in_14 : decode cX12_in 14 = .ok (.goto 4, 3) := by decide +kernel
theorem dX12_in_17 : decode cX12_in 17 = .ok (.iconst 0, 1) := by decide +kernel
theorem dX12_in_18 : decode cX12_in 18 = .ok (.ireturn, 1) := by decide +kernel
noncomputable def bfX12_in_18 (p0 : Int64) (p1 : Int64) (p2 : Int64) (s0 : Int32) : Int32 := s0
noncomputable def bfX12_in_17 (p0 : Int64) (p1 : Int64) (p2 : Int64) : Int32 := bfX12_in_18 p0 p1 p2 (0 : Int32)
noncomputable def fX12_in (p0 : Int64) (p1 : Int64) (p2 : Int64) : Int32 := if (lg_cmp p0 p1) < (0 : Int32) then (bfX12_in_17 p0 p1 p2) else (if (0 : Int32) < (lg_cmp p0 p2) then (bfX12_in_17 p0 p1 p2) else (bfX12_in_18 p0 p1 p2 (1 : Int32)))
set_option maxHeartbeats 4000000 in
set_option maxRecDepth 100000 in
theorem sX12_in (l : Launch) (dC : Nat → ClassId) (dI : Nat → Nat → Nat) (p0 : Int64) (p1 : Int64) (p2 : Int64)  : Met l yX12_in (.code yX12_in cX12_in 6 (some .boolean) :: wsGB) ({ frames := 0, cells := 0, slots := 0, locals := 0 }) (va_Pc [.long p0, .long p1, .long p2] (fun U => va_P (dC, dI) vwCl [] U.heap ∧ va_K (dC, dI) vwCl [] U)) (va_Qi (fun (r : Int32) (u : Unit) => (gi r 0 1 ∧ (r.toInt = 1 → p1.toInt ≤ p0.toInt ∧ p0.toInt ≤ p2.toInt) ∧ (r.toInt = 0 → p0.toInt < p1.toInt ∨ p2.toInt < p0.toInt)) ∧ r = fX12_in p0 p1 p2) (fun _ _ => True) (fun _ => False)) 0 0 (fun _ => False) := by
  refine Met.ofW (cc := cX12_in) (maxL := 6) (ret := (some .boolean)) (by decide) rfl ?_
  intro p e s m args below meth c s₁ B hml hv
  obtain ⟨rfl, hP, hK⟩ := hv
  have hx := B.exec
  have hb := B.bytes
  have hr := B.returns
  have hts := atoms_spec (ws := (.code yX12_in cX12_in 6 (some .boolean) :: wsGB)) B.pre
  have hown : s.vm.findClass RX12 = some m.cls := findClass_of_methodNamed B.named
  have hlocks := B.notSynchronized
  have hS : va_S (fun _ => False) s.heap s.heap [] := va_S.rf
  have hl := lv_entry ([.long p0, .long p1, .long p2]) (n := 6) (Nat.le_of_ble_eq_true rfl)
  rw [lg_entry_eq]
  generalize (lg_sl ([.long p0, .long p1, .long p2]) ++ List.replicate (6 - (lg_sl ([.long p0, .long p1, .long p2])).length) Slot.unset).toArray = ls at hl ⊢
  have hl : lv_has ls 6 [(0, .long p0), (2, .long p1), (4, .long p2)] := hl
  obtain ⟨RES, hF⟩ : ∃ R9, fX12_in p0 p1 p2 = R9 := ⟨_, rfl⟩
  have hR9 := hF
  refine lv_lload_n hx hb dX12_in_0 rfl (lv_at hl 0 rfl) ?_
  refine lv_lload_n hx hb dX12_in_1 rfl (lv_at hl 1 rfl) ?_
  refine W.lcmp hx hb dX12_in_2 ?_
  refine lv_topi (fun x_9 ex_9 => ?_)
  refine lv_if_lt (tgt := 17) hx hb dX12_in_3 (by decide) (fun c_10 => ?_) (fun c_10 => ?_)
  · have hF := gf_pos (by rw [ex_9] at c_10; exact c_10) hF
    have g_11 : gi x_9 (-2147483648) (-1) := gi_lt_l c_10 (gi_any x_9) (gi_c 0 0 (by decide)) (by decide)
    refine lv_iconst (v := 0) hx hb dX12_in_17 (by decide) ?_
    exact W.zret (v := 0) hx hb hr (by decide) (fun t ht hW => ⟨⟨0, (), rfl, ⟨⟨(gi_w (gi_c 0 0 (by decide)) (by decide)), ⟨fun h => absurd h (by decide), fun _ => Or.inl (gz_llt (ex_9 ▸ c_10))⟩⟩, hF.trans hR9.symm⟩, trivial⟩, hS.F ht⟩) hS.2.2 dX12_in_18
  · have hF := gf_neg (by rw [ex_9] at c_10; exact c_10) hF
    have g_12 : gi x_9 0 2147483647 := gi_le_r (Int32.not_lt.mp c_10) (gi_c 0 0 (by decide)) (gi_any x_9)
    refine lv_lload_n hx hb dX12_in_6 rfl (lv_at hl 0 rfl) ?_
    refine lv_lload hx hb dX12_in_7 (lv_at hl 2 rfl) ?_
    refine W.lcmp hx hb dX12_in_9 ?_
    refine lv_topi (fun x_13 ex_13 => ?_)
    refine lv_if_gt (tgt := 17) hx hb dX12_in_10 (by decide) (fun c_14 => ?_) (fun c_14 => ?_)
    · have hF := gf_pos (by rw [ex_13] at c_14; exact c_14) hF
      have g_15 : gi x_13 1 2147483647 := gi_lt_r c_14 (gi_c 0 0 (by decide)) (gi_any x_13) (by decide)
      refine lv_iconst (v := 0) hx hb dX12_in_17 (by decide) ?_
      exact W.zret (v := 0) hx hb hr (by decide) (fun t ht hW => ⟨⟨0, (), rfl, ⟨⟨(gi_w (gi_c 0 0 (by decide)) (by decide)), ⟨fun h => absurd h (by decide), fun _ => Or.inr (gz_lgt (ex_13 ▸ c_14))⟩⟩, hF.trans hR9.symm⟩, trivial⟩, hS.F ht⟩) hS.2.2 dX12_in_18
    · have hF := gf_neg (by rw [ex_13] at c_14; exact c_14) hF
      have g_16 : gi x_13 (-2147483648) 0 := gi_le_l (Int32.not_lt.mp c_14) (gi_any x_13) (gi_c 0 0 (by decide))
      refine lv_iconst (v := 1) hx hb dX12_in_13 (by decide) ?_
      refine lv_goto (tgt := 18) hx hb dX12_in_14 (by decide) ?_
      exact W.zret (v := 1) hx hb hr (by decide) (fun t ht hW => ⟨⟨1, (), rfl, ⟨⟨(gi_w (gi_c 1 1 (by decide)) (by decide)), ⟨fun _ => ⟨(gz_lge (ex_9 ▸ c_10)), (gz_lle (ex_13 ▸ c_14))⟩, fun h => absurd h (by decide)⟩⟩, hF.trans hR9.symm⟩, trivial⟩, hS.F ht⟩) hS.2.2 dX12_in_18
theorem dX12_isPlace_0 : decode cX12_isPlace 0 = .ok (.iload_n 1, 1) := by decide +kernel
theorem dX12_isPlace_1 : decode cX12_isPlace 1 = .ok (.i2l, 1) := by decide +kernel
theorem dX12_isPlace_2 : decode cX12_isPlace 2 = .ok (.lconst 0, 1) := by decide +kernel
theorem dX12_isPlace_3 : decode cX12_isPlace 3 = .ok (.aload_n 0, 1) := by decide +kernel
theorem dX12_isPlace_4 : decode cX12_isPlace 4 = .ok (.getfield 138, 3) := by decide +kernel
theorem dX12_isPlace_7 : decode cX12_isPlace 7 = .ok (.iconst 1, 1) := by decide +kernel
theorem dX12_isPlace_8 : decode cX12_isPlace 8 = .ok (.isub, 1) := by decide +kernel
theorem dX12_isPlace_9 : decode cX12_isPlace 9 = .ok (.i2l, 1) := by decide +kernel
theorem dX12_isPlace_10 : decode cX12_isPlace 10 = .ok (.invokestatic 102, 3) := by decide +kernel
theorem dX12_isPlace_13 : decode cX12_isPlace 13 = .ok (.ireturn, 1) := by decide +kernel
noncomputable def fX12_isPlace (mi : Nat → Int32) (p1 : Int32) : Int32 := cal (fun o1 => o1) (fX12_in (p1.toInt64) (0 : Int64) (((mi 7) - (1 : Int32)).toInt64))
set_option maxHeartbeats 4000000 in
set_option maxRecDepth 100000 in
theorem sX12_isPlace (l : Launch) (dC : Nat → ClassId) (dI : Nat → Nat → Nat) (h0 : Nat) (mi : Nat → Int32) (mr : Nat → Nat) (km : Nat → ClassId) (fm_trust : Nat → Int32) (fm_letter : Nat → Int32) (fm_reportPlace : Nat → Int32) (fm_reportKind : Nat → Int32) (fm_struck : Nat → Int32) (fm_reportMonth : Nat → Int32) (fm_reportDay : Nat → Int32) (fm_reportKnown : Nat → Int32) (fm_deedMonth : Nat → Int32) (fm_deedDay : Nat → Int32) (fm_deedLong : Nat → Int32) (fm_deedKind : Nat → Int32) (fm_kept : Nat → Int32) (fm_tape : Nat → Int32) (fm_must : Nat → Int32) (fm_least : Nat → Int32) (fm_pin : Nat → Int32) (fm_ways : Nat → Int32) (fm_verdict : Nat → Int32) (fm_row : Nat → Int32) (fm_official : Nat → Int32) (fm_aside : Nat → Int32) (fm_worth : Nat → Int32) (fm_out : Nat → Int32) (p1 : Int32) (gmi_0 : gi (mi 0) 0 24) (gmi_1 : gi (mi 1) 0 5) (gmi_2 : gi (mi 2) 0 5) (gmi_4 : gi (mi 4) 0 1) (gmi_7 : gi (mi 7) 0 6) (gmi_10 : gi (mi 10) 0 24) (gmi_17 : gi (mi 17) 0 8) (gmi_23 : gi (mi 23) 0 300) (gmi_24 : gi (mi 24) 0 1) (gmi_26 : gi (mi 26) 0 1600) (gmi_29 : gi (mi 29) 0 1600) (gmi_30 : gi (mi 30) 0 1600) (gmi_33 : gi (mi 33) 0 1) (gmi_37 : gi (mi 37) 0 1) (gmi_41 : gi (mi 41) 0 24) (gmi_50 : gi (mi 50) 0 1) (gmi_51 : gi (mi 51) 0 1) (gmi_56 : gi (mi 56) 0 80) : Met l yX12_isPlace (.code yX12_isPlace cX12_isPlace 2 (some .boolean) :: wsGB) ({ frames := 1, cells := 0, slots := 0, locals := 25 }) (va_Pc [.ref h0, .int p1] (fun U => va_P (dC, dI) vwCl (MWn h0 mr km (mi 0) (mi 1) (mi 2) (mi 3) (mi 4) (mi 5) (mi 6) (mi 7) (mi 10) (mi 17) (mi 23) (mi 24) (mi 26) (mi 27) (mi 28) (mi 29) (mi 30) (mi 31) (mi 32) (mi 33) (mi 37) (mi 41) (mi 42) (mi 43) (mi 44) (mi 45) (mi 47) (mi 48) (mi 49) (mi 50) (mi 51) (mi 54) (mi 56) fm_trust fm_letter fm_reportPlace fm_reportKind fm_struck fm_reportMonth fm_reportDay fm_reportKnown fm_deedMonth fm_deedDay fm_deedLong fm_deedKind fm_kept fm_tape fm_must fm_least fm_pin fm_ways fm_verdict fm_row fm_official fm_aside fm_worth fm_out) U.heap ∧ va_K (dC, dI) vwCl (MT km) U)) (va_Qi (fun (r : Int32) (u : Unit) => (gi r 0 1 ∧ (r.toInt = 1 → gi p1 0 5)) ∧ r = fX12_isPlace mi p1) (fun _ _ => True) (fun _ => False)) 0 0 (fun _ => False) := by
  refine Met.ofW (cc := cX12_isPlace) (maxL := 2) (ret := (some .boolean)) (by decide) rfl ?_
  intro p e s m args below meth c s₁ B hml hv
  obtain ⟨rfl, hP, hK⟩ := hv
  have hx := B.exec
  have hb := B.bytes
  have hr := B.returns
  have hts := atoms_spec (ws := (.code yX12_isPlace cX12_isPlace 2 (some .boolean) :: wsGB)) B.pre
  have hown : s.vm.findClass RX12 = some m.cls := findClass_of_methodNamed B.named
  have hlocks := B.notSynchronized
  have hS : va_S (fun _ => False) s.heap s.heap [] := va_S.rf
  have hl := lv_entry ([.ref h0, .int p1]) (n := 2) (Nat.le_of_ble_eq_true rfl)
  rw [lg_entry_eq]
  generalize (lg_sl ([.ref h0, .int p1]) ++ List.replicate (2 - (lg_sl ([.ref h0, .int p1])).length) Slot.unset).toArray = ls at hl ⊢
  have hl : lv_has ls 2 [(0, .ref h0), (1, .int p1)] := hl
  obtain ⟨RES, hF⟩ : ∃ R9, fX12_isPlace mi p1 = R9 := ⟨_, rfl⟩
  have hR9 := hF
  refine lv_iload_n hx hb dX12_isPlace_0 rfl (lv_at hl 1 rfl) ?_
  refine lv_i2l (v := (p1).toInt64) hx hb dX12_isPlace_1 rfl ?_
  refine lv_topl (fun l_5 el_5 => ?_)
  refine lv_lconst (v := 0) hx hb dX12_isPlace_2 (by decide) ?_
  refine lv_aload_n hx hb dX12_isPlace_3 rfl (lv_at hl 0 rfl) ?_
  refine va_get (D := (dC, dI)) (ci := 12) (v := .int (mi 7)) (C := RX12) (T := TX12) (N := 57) hx hb hts (fun w h => List.mem_cons_of_mem _ (jnGB_X12 w h)) hown hK hP 0 rfl rfl 7 (by decide) (hts _ (List.mem_cons_of_mem _ mGB_110)) (fun _ h9 => h9) rfl dX12_isPlace_4 ?_
  refine lv_iconst (v := 1) hx hb dX12_isPlace_7 (by decide) ?_
  refine lv_isub hx hb dX12_isPlace_8 ?_
  refine lv_topi (fun x_6 ex_6 => ?_)
  have gx_6 : gi x_6 (-1) 5 := gi_sub ex_6 gmi_7 (gi_c 1 1 (by decide)) (by decide)
  refine lv_i2l (v := (x_6).toInt64) hx hb dX12_isPlace_9 rfl ?_
  refine lv_topl (fun l_7 el_7 => ?_)
  have hPc := hP.sub (ws' := []) [] rfl
  have hKc := hK.sub (tys' := []) [] rfl
  refine va_calli (va_runS (As := [.long l_5, .long 0, .long l_7]) (rest := []) ⟨hx, hb, hml, hown, hts⟩ (sX12_in l dC dI l_5 0 l_7) (cwS 3 hts (gz_gS mGB_47 mGB_48 mGB_1 mGB_49 goodGB) rfl rfl rfl (by decide +kernel) ⟨Nat.le_of_ble_eq_true rfl, Nat.le_of_ble_eq_true rfl⟩) ⟨bl_R, fun U hU hW => ⟨rfl, by rw [hU]; exact hPc, va_K.moved hW.alike hKc⟩⟩ rfl rfl hl.1 rfl (lv_room (Nat.le_of_ble_eq_true rfl)) dX12_isPlace_10 ⟨Nat.zero_le _, Nat.zero_le _⟩) hS (fun q _ h => h.elim) (fun q h => h.elim) (fun r_8 u t H1 locs ht hvm hw hB hz1 hk1 hS => ?_)
  obtain ⟨hw, hE⟩ := hw
  have hP := gz_keep hP hk1
  have hF := gf_call (a := r_8) (by rw [el_7, ex_6, el_5] at hE; exact hE) hF
  generalize H1 = H at hP hS ⊢
  have gr_8 : gi r_8 0 1 := hw.1
  have hqr_8 := hw.2
  exact W.zret (v := r_8) hx hb hr (gz_nb gr_8) (fun t ht hW => ⟨⟨r_8, (), rfl, ⟨⟨gr_8, (fun h1 => (gi_w (gz_inr (hqr_8.1 h1) el_5 (A := 0) (B := 5) (by decide) (gz_l2u el_7 gx_6)) (by decide)))⟩, hF.trans hR9.symm⟩, trivial⟩, hS.F ht⟩) hS.2.2 dX12_isPlace_13
theorem dX12_isReport_0 : decode cX12_isReport 0 = .ok (.iload_n 1, 1) := by decide +kernel
theorem dX12_isReport_1 : decode cX12_isReport 1 = .ok (.i2l, 1) := by decide +kernel
theorem dX12_isReport_2 : decode cX12_isReport 2 = .ok (.lconst 0, 1) := by decide +kernel
theorem dX12_isReport_3 : decode cX12_isReport 3 = .ok (.aload_n 0, 1) := by decide +kernel
theorem dX12_isReport_4 : decode cX12_isReport 4 = .ok (.getfield 141, 3) := by decide +kernel
theorem dX12_isReport_7 : decode cX12_isReport 7 = .ok (.iconst 1, 1) := by decide +kernel
theorem dX12_isReport_8 : decode cX12_isReport 8 = .ok (.isub, 1) := by decide +kernel
theorem dX12_isReport_9 : decode cX12_isReport 9 = .ok (.i2l, 1) := by decide +kernel
theorem dX12_isReport_10 : decode cX12_isReport 10 = .ok (.invokestatic 102, 3) := by decide +kernel
theorem dX12_isReport_13 : decode cX12_isReport 13 = .ok (.ireturn, 1) := by decide +kernel
noncomputable def fX12_isReport (mi : Nat → Int32) (p1 : Int32) : Int32 := cal (fun o1 => o1) (fX12_in (p1.toInt64) (0 : Int64) (((mi 10) - (1 : Int32)).toInt64))
set_option maxHeartbeats 4000000 in
set_option maxRecDepth 100000 in
theorem sX12_isReport (l : Launch) (dC : Nat → ClassId) (dI : Nat → Nat → Nat) (h0 : Nat) (mi : Nat → Int32) (mr : Nat → Nat) (km : Nat → ClassId) (fm_trust : Nat → Int32) (fm_letter : Nat → Int32) (fm_reportPlace : Nat → Int32) (fm_reportKind : Nat → Int32) (fm_struck : Nat → Int32) (fm_reportMonth : Nat → Int32) (fm_reportDay : Nat → Int32) (fm_reportKnown : Nat → Int32) (fm_deedMonth : Nat → Int32) (fm_deedDay : Nat → Int32) (fm_deedLong : Nat → Int32) (fm_deedKind : Nat → Int32) (fm_kept : Nat → Int32) (fm_tape : Nat → Int32) (fm_must : Nat → Int32) (fm_least : Nat → Int32) (fm_pin : Nat → Int32) (fm_ways : Nat → Int32) (fm_verdict : Nat → Int32) (fm_row : Nat → Int32) (fm_official : Nat → Int32) (fm_aside : Nat → Int32) (fm_worth : Nat → Int32) (fm_out : Nat → Int32) (p1 : Int32) (gmi_0 : gi (mi 0) 0 24) (gmi_1 : gi (mi 1) 0 5) (gmi_2 : gi (mi 2) 0 5) (gmi_4 : gi (mi 4) 0 1) (gmi_7 : gi (mi 7) 0 6) (gmi_10 : gi (mi 10) 0 24) (gmi_17 : gi (mi 17) 0 8) (gmi_23 : gi (mi 23) 0 300) (gmi_24 : gi (mi 24) 0 1) (gmi_26 : gi (mi 26) 0 1600) (gmi_29 : gi (mi 29) 0 1600) (gmi_30 : gi (mi 30) 0 1600) (gmi_33 : gi (mi 33) 0 1) (gmi_37 : gi (mi 37) 0 1) (gmi_41 : gi (mi 41) 0 24) (gmi_50 : gi (mi 50) 0 1) (gmi_51 : gi (mi 51) 0 1) (gmi_56 : gi (mi 56) 0 80) : Met l yX12_isReport (.code yX12_isReport cX12_isReport 2 (some .boolean) :: wsGB) ({ frames := 1, cells := 0, slots := 0, locals := 25 }) (va_Pc [.ref h0, .int p1] (fun U => va_P (dC, dI) vwCl (MWn h0 mr km (mi 0) (mi 1) (mi 2) (mi 3) (mi 4) (mi 5) (mi 6) (mi 7) (mi 10) (mi 17) (mi 23) (mi 24) (mi 26) (mi 27) (mi 28) (mi 29) (mi 30) (mi 31) (mi 32) (mi 33) (mi 37) (mi 41) (mi 42) (mi 43) (mi 44) (mi 45) (mi 47) (mi 48) (mi 49) (mi 50) (mi 51) (mi 54) (mi 56) fm_trust fm_letter fm_reportPlace fm_reportKind fm_struck fm_reportMonth fm_reportDay fm_reportKnown fm_deedMonth fm_deedDay fm_deedLong fm_deedKind fm_kept fm_tape fm_must fm_least fm_pin fm_ways fm_verdict fm_row fm_official fm_aside fm_worth fm_out) U.heap ∧ va_K (dC, dI) vwCl (MT km) U)) (va_Qi (fun (r : Int32) (u : Unit) => (gi r 0 1 ∧ (r.toInt = 1 → gi p1 0 23)) ∧ r = fX12_isReport mi p1) (fun _ _ => True) (fun _ => False)) 0 0 (fun _ => False) := by
  refine Met.ofW (cc := cX12_isReport) (maxL := 2) (ret := (some .boolean)) (by decide) rfl ?_
  intro p e s m args below meth c s₁ B hml hv
  obtain ⟨rfl, hP, hK⟩ := hv
  have hx := B.exec
  have hb := B.bytes
  have hr := B.returns
  have hts := atoms_spec (ws := (.code yX12_isReport cX12_isReport 2 (some .boolean) :: wsGB)) B.pre
  have hown : s.vm.findClass RX12 = some m.cls := findClass_of_methodNamed B.named
  have hlocks := B.notSynchronized
  have hS : va_S (fun _ => False) s.heap s.heap [] := va_S.rf
  have hl := lv_entry ([.ref h0, .int p1]) (n := 2) (Nat.le_of_ble_eq_true rfl)
  rw [lg_entry_eq]
  generalize (lg_sl ([.ref h0, .int p1]) ++ List.replicate (2 - (lg_sl ([.ref h0, .int p1])).length) Slot.unset).toArray = ls at hl ⊢
  have hl : lv_has ls 2 [(0, .ref h0), (1, .int p1)] := hl
  obtain ⟨RES, hF⟩ : ∃ R9, fX12_isReport mi p1 = R9 := ⟨_, rfl⟩
  have hR9 := hF
  refine lv_iload_n hx hb dX12_isReport_0 rfl (lv_at hl 1 rfl) ?_
  refine lv_i2l (v := (p1).toInt64) hx hb dX12_isReport_1 rfl ?_
  refine lv_topl (fun l_5 el_5 => ?_)
  refine lv_lconst (v := 0) hx hb dX12_isReport_2 (by decide) ?_
  refine lv_aload_n hx hb dX12_isReport_3 rfl (lv_at hl 0 rfl) ?_
  refine va_get (D := (dC, dI)) (ci := 12) (v := .int (mi 10)) (C := RX12) (T := TX12) (N := 57) hx hb hts (fun w h => List.mem_cons_of_mem _ (jnGB_X12 w h)) hown hK hP 0 rfl rfl 10 (by decide) (hts _ (List.mem_cons_of_mem _ mGB_111)) (fun _ h9 => h9) rfl dX12_isReport_4 ?_
  refine lv_iconst (v := 1) hx hb dX12_isReport_7 (by decide) ?_
  refine lv_isub hx hb dX12_isReport_8 ?_
  refine lv_topi (fun x_6 ex_6 => ?_)
  have gx_6 : gi x_6 (-1) 23 := gi_sub ex_6 gmi_10 (gi_c 1 1 (by decide)) (by decide)
  refine lv_i2l (v := (x_6).toInt64) hx hb dX12_isReport_9 rfl ?_
  refine lv_topl (fun l_7 el_7 => ?_)
  have hPc := hP.sub (ws' := []) [] rfl
  have hKc := hK.sub (tys' := []) [] rfl
  refine va_calli (va_runS (As := [.long l_5, .long 0, .long l_7]) (rest := []) ⟨hx, hb, hml, hown, hts⟩ (sX12_in l dC dI l_5 0 l_7) (cwS 3 hts (gz_gS mGB_47 mGB_48 mGB_1 mGB_49 goodGB) rfl rfl rfl (by decide +kernel) ⟨Nat.le_of_ble_eq_true rfl, Nat.le_of_ble_eq_true rfl⟩) ⟨bl_R, fun U hU hW => ⟨rfl, by rw [hU]; exact hPc, va_K.moved hW.alike hKc⟩⟩ rfl rfl hl.1 rfl (lv_room (Nat.le_of_ble_eq_true rfl)) dX12_isReport_10 ⟨Nat.zero_le _, Nat.zero_le _⟩) hS (fun q _ h => h.elim) (fun q h => h.elim) (fun r_8 u t H1 locs ht hvm hw hB hz1 hk1 hS => ?_)
  obtain ⟨hw, hE⟩ := hw
  have hP := gz_keep hP hk1
  have hF := gf_call (a := r_8) (by rw [el_7, ex_6, el_5] at hE; exact hE) hF
  generalize H1 = H at hP hS ⊢
  have gr_8 : gi r_8 0 1 := hw.1
  have hqr_8 := hw.2
  exact W.zret (v := r_8) hx hb hr (gz_nb gr_8) (fun t ht hW => ⟨⟨r_8, (), rfl, ⟨⟨gr_8, (fun h1 => (gi_w (gz_inr (hqr_8.1 h1) el_5 (A := 0) (B := 23) (by decide) (gz_l2u el_7 gx_6)) (by decide)))⟩, hF.trans hR9.symm⟩, trivial⟩, hS.F ht⟩) hS.2.2 dX12_isReport_13
theorem dX12_isDeed_0 : decode cX12_isDeed 0 = .ok (.iload_n 1, 1) := by decide +kernel
theorem dX12_isDeed_1 : decode cX12_isDeed 1 = .ok (.i2l, 1) := by decide +kernel
theorem dX12_isDeed_2 : decode cX12_isDeed 2 = .ok (.lconst 0, 1) := by decide +kernel
theorem dX12_isDeed_3 : decode cX12_isDeed 3 = .ok (.aload_n 0, 1) := by decide +kernel
theorem dX12_isDeed_4 : decode cX12_isDeed 4 = .ok (.getfield 144, 3) := by decide +kernel
theorem dX12_isDeed_7 : decode cX12_isDeed 7 = .ok (.iconst 1, 1) := by decide +kernel
theorem dX12_isDeed_8 : decode cX12_isDeed 8 = .ok (.isub, 1) := by decide +kernel
theorem dX12_isDeed_9 : decode cX12_isDeed 9 = .ok (.i2l, 1) := by decide +kernel
theorem dX12_isDeed_10 : decode cX12_isDeed 10 = .ok (.invokestatic 102, 3) := by decide +kernel
theorem dX12_isDeed_13 : decode cX12_isDeed 13 = .ok (.ireturn, 1) := by decide +kernel
noncomputable def fX12_isDeed (mi : Nat → Int32) (p1 : Int32) : Int32 := cal (fun o1 => o1) (fX12_in (p1.toInt64) (0 : Int64) (((mi 17) - (1 : Int32)).toInt64))
set_option maxHeartbeats 4000000 in
set_option maxRecDepth 100000 in
theorem sX12_isDeed (l : Launch) (dC : Nat → ClassId) (dI : Nat → Nat → Nat) (h0 : Nat) (mi : Nat → Int32) (mr : Nat → Nat) (km : Nat → ClassId) (fm_trust : Nat → Int32) (fm_letter : Nat → Int32) (fm_reportPlace : Nat → Int32) (fm_reportKind : Nat → Int32) (fm_struck : Nat → Int32) (fm_reportMonth : Nat → Int32) (fm_reportDay : Nat → Int32) (fm_reportKnown : Nat → Int32) (fm_deedMonth : Nat → Int32) (fm_deedDay : Nat → Int32) (fm_deedLong : Nat → Int32) (fm_deedKind : Nat → Int32) (fm_kept : Nat → Int32) (fm_tape : Nat → Int32) (fm_must : Nat → Int32) (fm_least : Nat → Int32) (fm_pin : Nat → Int32) (fm_ways : Nat → Int32) (fm_verdict : Nat → Int32) (fm_row : Nat → Int32) (fm_official : Nat → Int32) (fm_aside : Nat → Int32) (fm_worth : Nat → Int32) (fm_out : Nat → Int32) (p1 : Int32) (gmi_0 : gi (mi 0) 0 24) (gmi_1 : gi (mi 1) 0 5) (gmi_2 : gi (mi 2) 0 5) (gmi_4 : gi (mi 4) 0 1) (gmi_7 : gi (mi 7) 0 6) (gmi_10 : gi (mi 10) 0 24) (gmi_17 : gi (mi 17) 0 8) (gmi_23 : gi (mi 23) 0 300) (gmi_24 : gi (mi 24) 0 1) (gmi_26 : gi (mi 26) 0 1600) (gmi_29 : gi (mi 29) 0 1600) (gmi_30 : gi (mi 30) 0 1600) (gmi_33 : gi (mi 33) 0 1) (gmi_37 : gi (mi 37) 0 1) (gmi_41 : gi (mi 41) 0 24) (gmi_50 : gi (mi 50) 0 1) (gmi_51 : gi (mi 51) 0 1) (gmi_56 : gi (mi 56) 0 80) : Met l yX12_isDeed (.code yX12_isDeed cX12_isDeed 2 (some .boolean) :: wsGB) ({ frames := 1, cells := 0, slots := 0, locals := 25 }) (va_Pc [.ref h0, .int p1] (fun U => va_P (dC, dI) vwCl (MWn h0 mr km (mi 0) (mi 1) (mi 2) (mi 3) (mi 4) (mi 5) (mi 6) (mi 7) (mi 10) (mi 17) (mi 23) (mi 24) (mi 26) (mi 27) (mi 28) (mi 29) (mi 30) (mi 31) (mi 32) (mi 33) (mi 37) (mi 41) (mi 42) (mi 43) (mi 44) (mi 45) (mi 47) (mi 48) (mi 49) (mi 50) (mi 51) (mi 54) (mi 56) fm_trust fm_letter fm_reportPlace fm_reportKind fm_struck fm_reportMonth fm_reportDay fm_reportKnown fm_deedMonth fm_deedDay fm_deedLong fm_deedKind fm_kept fm_tape fm_must fm_least fm_pin fm_ways fm_verdict fm_row fm_official fm_aside fm_worth fm_out) U.heap ∧ va_K (dC, dI) vwCl (MT km) U)) (va_Qi (fun (r : Int32) (u : Unit) => (gi r 0 1 ∧ (r.toInt = 1 → gi p1 0 7)) ∧ r = fX12_isDeed mi p1) (fun _ _ => True) (fun _ => False)) 0 0 (fun _ => False) := by
  refine Met.ofW (cc := cX12_isDeed) (maxL := 2) (ret := (some .boolean)) (by decide) rfl ?_
  intro p e s m args below meth c s₁ B hml hv
  obtain ⟨rfl, hP, hK⟩ := hv
  have hx := B.exec
  have hb := B.bytes
  have hr := B.returns
  have hts := atoms_spec (ws := (.code yX12_isDeed cX12_isDeed 2 (some .boolean) :: wsGB)) B.pre
  have hown : s.vm.findClass RX12 = some m.cls := findClass_of_methodNamed B.named
  have hlocks := B.notSynchronized
  have hS : va_S (fun _ => False) s.heap s.heap [] := va_S.rf
  have hl := lv_entry ([.ref h0, .int p1]) (n := 2) (Nat.le_of_ble_eq_true rfl)
  rw [lg_entry_eq]
  generalize (lg_sl ([.ref h0, .int p1]) ++ List.replicate (2 - (lg_sl ([.ref h0, .int p1])).length) Slot.unset).toArray = ls at hl ⊢
  have hl : lv_has ls 2 [(0, .ref h0), (1, .int p1)] := hl
  obtain ⟨RES, hF⟩ : ∃ R9, fX12_isDeed mi p1 = R9 := ⟨_, rfl⟩
  have hR9 := hF
  refine lv_iload_n hx hb dX12_isDeed_0 rfl (lv_at hl 1 rfl) ?_
  refine lv_i2l (v := (p1).toInt64) hx hb dX12_isDeed_1 rfl ?_
  refine lv_topl (fun l_5 el_5 => ?_)
  refine lv_lconst (v := 0) hx hb dX12_isDeed_2 (by decide) ?_
  refine lv_aload_n hx hb dX12_isDeed_3 rfl (lv_at hl 0 rfl) ?_
  refine va_get (D := (dC, dI)) (ci := 12) (v := .int (mi 17)) (C := RX12) (T := TX12) (N := 57) hx hb hts (fun w h => List.mem_cons_of_mem _ (jnGB_X12 w h)) hown hK hP 0 rfl rfl 17 (by decide) (hts _ (List.mem_cons_of_mem _ mGB_112)) (fun _ h9 => h9) rfl dX12_isDeed_4 ?_
  refine lv_iconst (v := 1) hx hb dX12_isDeed_7 (by decide) ?_
  refine lv_isub hx hb dX12_isDeed_8 ?_
  refine lv_topi (fun x_6 ex_6 => ?_)
  have gx_6 : gi x_6 (-1) 7 := gi_sub ex_6 gmi_17 (gi_c 1 1 (by decide)) (by decide)
  refine lv_i2l (v := (x_6).toInt64) hx hb dX12_isDeed_9 rfl ?_
  refine lv_topl (fun l_7 el_7 => ?_)
  have hPc := hP.sub (ws' := []) [] rfl
  have hKc := hK.sub (tys' := []) [] rfl
  refine va_calli (va_runS (As := [.long l_5, .long 0, .long l_7]) (rest := []) ⟨hx, hb, hml, hown, hts⟩ (sX12_in l dC dI l_5 0 l_7) (cwS 3 hts (gz_gS mGB_47 mGB_48 mGB_1 mGB_49 goodGB) rfl rfl rfl (by decide +kernel) ⟨Nat.le_of_ble_eq_true rfl, Nat.le_of_ble_eq_true rfl⟩) ⟨bl_R, fun U hU hW => ⟨rfl, by rw [hU]; exact hPc, va_K.moved hW.alike hKc⟩⟩ rfl rfl hl.1 rfl (lv_room (Nat.le_of_ble_eq_true rfl)) dX12_isDeed_10 ⟨Nat.zero_le _, Nat.zero_le _⟩) hS (fun q _ h => h.elim) (fun q h => h.elim) (fun r_8 u t H1 locs ht hvm hw hB hz1 hk1 hS => ?_)
  obtain ⟨hw, hE⟩ := hw
  have hP := gz_keep hP hk1
  have hF := gf_call (a := r_8) (by rw [el_7, ex_6, el_5] at hE; exact hE) hF
  generalize H1 = H at hP hS ⊢
  have gr_8 : gi r_8 0 1 := hw.1
  have hqr_8 := hw.2
  exact W.zret (v := r_8) hx hb hr (gz_nb gr_8) (fun t ht hW => ⟨⟨r_8, (), rfl, ⟨⟨gr_8, (fun h1 => (gi_w (gz_inr (hqr_8.1 h1) el_5 (A := 0) (B := 7) (by decide) (gz_l2u el_7 gx_6)) (by decide)))⟩, hF.trans hR9.symm⟩, trivial⟩, hS.F ht⟩) hS.2.2 dX12_isDeed_13
theorem dX12_isTime_0 : decode cX12_isTime 0 = .ok (.aload_n 0, 1) := by decide +kernel
theorem dX12_isTime_1 : decode cX12_isTime 1 = .ok (.getfield 126, 3) := by decide +kernel
theorem dX12_isTime_4 : decode cX12_isTime 4 = .ok (.ifCond .le 19, 3) := by decide +kernel
theorem dX12_isTime_7 : decode cX12_isTime 7 = .ok (.iload_n 1, 1) := by decide +kernel
theorem dX12_isTime_8 : decode cX12_isTime 8 = .ok (.i2l, 1) := by decide +kernel
theorem dX12_isTime_9 : decode cX12_isTime 9 = .ok (.lconst 0, 1) := by decide +kernel
theorem dX12_isTime_10 : decode cX12_isTime 10 = .ok (.ldc2_w 292, 3) := by decide +kernel
theorem dX12_isTime_13 : decode cX12_isTime 13 = .ok (.invokestatic 102, 3) := by decide +kernel
theorem dX12_isTime_16 : decode cX12_isTime 16 = .ok (.ifCond .eq 7, 3) := by decide +kernel
theorem dX12_isTime_19 : decode cX12_isTime 19 = .ok (.iconst 1, 1) := by decide +kernel
theorem dX12_isTime_20 : decode cX12_isTime 20 = .ok (.goto 4, 3) := by decide +kernel
theorem dX12_isTime_23 : decode cX12_isTime 23 = .ok (.iconst 0, 1) := by decide +kernel
theorem dX12_isTime_24 : decode cX12_isTime 24 = .ok (.ireturn, 1) := by decide +kernel
noncomputable def bfX12_isTime_24 (mi : Nat → Int32) (p1 : Int32) (s0 : Int32) : Int32 := s0
noncomputable def bfX12_isTime_23 (mi : Nat → Int32) (p1 : Int32) : Int32 := bfX12_isTime_24 mi p1 (0 : Int32)
noncomputable def fX12_isTime (mi : Nat → Int32) (p1 : Int32) : Int32 := if (mi 3) ≤ (0 : Int32) then (bfX12_isTime_23 mi p1) else (cal (fun o1 => if o1 = (0 : Int32) then (bfX12_isTime_23 mi p1) else (bfX12_isTime_24 mi p1 (1 : Int32))) (fX12_in (p1.toInt64) (0 : Int64) (999 : Int64)))
set_option maxHeartbeats 4000000 in
set_option maxRecDepth 100000 in
theorem sX12_isTime (l : Launch) (dC : Nat → ClassId) (dI : Nat → Nat → Nat) (h0 : Nat) (mi : Nat → Int32) (mr : Nat → Nat) (km : Nat → ClassId) (fm_trust : Nat → Int32) (fm_letter : Nat → Int32) (fm_reportPlace : Nat → Int32) (fm_reportKind : Nat → Int32) (fm_struck : Nat → Int32) (fm_reportMonth : Nat → Int32) (fm_reportDay : Nat → Int32) (fm_reportKnown : Nat → Int32) (fm_deedMonth : Nat → Int32) (fm_deedDay : Nat → Int32) (fm_deedLong : Nat → Int32) (fm_deedKind : Nat → Int32) (fm_kept : Nat → Int32) (fm_tape : Nat → Int32) (fm_must : Nat → Int32) (fm_least : Nat → Int32) (fm_pin : Nat → Int32) (fm_ways : Nat → Int32) (fm_verdict : Nat → Int32) (fm_row : Nat → Int32) (fm_official : Nat → Int32) (fm_aside : Nat → Int32) (fm_worth : Nat → Int32) (fm_out : Nat → Int32) (p1 : Int32) (gmi_0 : gi (mi 0) 0 24) (gmi_1 : gi (mi 1) 0 5) (gmi_2 : gi (mi 2) 0 5) (gmi_4 : gi (mi 4) 0 1) (gmi_7 : gi (mi 7) 0 6) (gmi_10 : gi (mi 10) 0 24) (gmi_17 : gi (mi 17) 0 8) (gmi_23 : gi (mi 23) 0 300) (gmi_24 : gi (mi 24) 0 1) (gmi_26 : gi (mi 26) 0 1600) (gmi_29 : gi (mi 29) 0 1600) (gmi_30 : gi (mi 30) 0 1600) (gmi_33 : gi (mi 33) 0 1) (gmi_37 : gi (mi 37) 0 1) (gmi_41 : gi (mi 41) 0 24) (gmi_50 : gi (mi 50) 0 1) (gmi_51 : gi (mi 51) 0 1) (gmi_56 : gi (mi 56) 0 80) : Met l yX12_isTime (.code yX12_isTime cX12_isTime 2 (some .boolean) :: wsGB) ({ frames := 1, cells := 0, slots := 0, locals := 25 }) (va_Pc [.ref h0, .int p1] (fun U => va_P (dC, dI) vwCl (MWn h0 mr km (mi 0) (mi 1) (mi 2) (mi 3) (mi 4) (mi 5) (mi 6) (mi 7) (mi 10) (mi 17) (mi 23) (mi 24) (mi 26) (mi 27) (mi 28) (mi 29) (mi 30) (mi 31) (mi 32) (mi 33) (mi 37) (mi 41) (mi 42) (mi 43) (mi 44) (mi 45) (mi 47) (mi 48) (mi 49) (mi 50) (mi 51) (mi 54) (mi 56) fm_trust fm_letter fm_reportPlace fm_reportKind fm_struck fm_reportMonth fm_reportDay fm_reportKnown fm_deedMonth fm_deedDay fm_deedLong fm_deedKind fm_kept fm_tape fm_must fm_least fm_pin fm_ways fm_verdict fm_row fm_official fm_aside fm_worth fm_out) U.heap ∧ va_K (dC, dI) vwCl (MT km) U)) (va_Qi (fun (r : Int32) (u : Unit) => (gi r 0 1 ∧ (r.toInt = 1 → gi p1 0 999)) ∧ r = fX12_isTime mi p1) (fun _ _ => True) (fun _ => False)) 0 0 (fun _ => False) := by
  refine Met.ofW (cc := cX12_isTime) (maxL := 2) (ret := (some .boolean)) (by decide) rfl ?_
  intro p e s m args below meth c s₁ B hml hv
  obtain ⟨rfl, hP, hK⟩ := hv
  have hx := B.exec
  have hb := B.bytes
  have hr := B.returns
  have hts := atoms_spec (ws := (.code yX12_isTime cX12_isTime 2 (some .boolean) :: wsGB)) B.pre
  have hown : s.vm.findClass RX12 = some m.cls := findClass_of_methodNamed B.named
  have hlocks := B.notSynchronized
  have hS : va_S (fun _ => False) s.heap s.heap [] := va_S.rf
  have hl := lv_entry ([.ref h0, .int p1]) (n := 2) (Nat.le_of_ble_eq_true rfl)
  rw [lg_entry_eq]
  generalize (lg_sl ([.ref h0, .int p1]) ++ List.replicate (2 - (lg_sl ([.ref h0, .int p1])).length) Slot.unset).toArray = ls at hl ⊢
  have hl : lv_has ls 2 [(0, .ref h0), (1, .int p1)] := hl
  obtain ⟨RES, hF⟩ : ∃ R9, fX12_isTime mi p1 = R9 := ⟨_, rfl⟩
  have hR9 := hF
  refine lv_aload_n hx hb dX12_isTime_0 rfl (lv_at hl 0 rfl) ?_
  refine va_get (D := (dC, dI)) (ci := 12) (v := .int (mi 3)) (C := RX12) (T := TX12) (N := 57) hx hb hts (fun w h => List.mem_cons_of_mem _ (jnGB_X12 w h)) hown hK hP 0 rfl rfl 3 (by decide) (hts _ (List.mem_cons_of_mem _ mGB_106)) (fun _ h9 => h9) rfl dX12_isTime_1 ?_
  refine lv_if_le (tgt := 23) hx hb dX12_isTime_4 (by decide) (fun c_10 => ?_) (fun c_10 => ?_)
  · have hF := gf_pos c_10 hF
    have g_11 : gi (mi 3) (-2147483648) 0 := gi_le_l c_10 (gi_any (mi 3)) (gi_c 0 0 (by decide))
    refine lv_iconst (v := 0) hx hb dX12_isTime_23 (by decide) ?_
    exact W.zret (v := 0) hx hb hr (by decide) (fun t ht hW => ⟨⟨0, (), rfl, ⟨⟨(gi_w (gi_c 0 0 (by decide)) (by decide)), (fun h => absurd h (by decide))⟩, hF.trans hR9.symm⟩, trivial⟩, hS.F ht⟩) hS.2.2 dX12_isTime_24
  · have hF := gf_neg c_10 hF
    have g_12 : gi (mi 3) 1 2147483647 := gi_lt_r (Int32.not_le.mp c_10) (gi_c 0 0 (by decide)) (gi_any (mi 3)) (by decide)
    refine lv_iload_n hx hb dX12_isTime_7 rfl (lv_at hl 1 rfl) ?_
    refine lv_i2l (v := (p1).toInt64) hx hb dX12_isTime_8 rfl ?_
    refine lv_topl (fun l_13 el_13 => ?_)
    refine lv_lconst (v := 0) hx hb dX12_isTime_9 (by decide) ?_
    refine lv_ldc2 (own := RX12) (v := 999) hx hb hown (hts _ (List.mem_cons_of_mem _ mGB_260)) dX12_isTime_10 ?_
    have hPc := hP.sub (ws' := []) [] rfl
    have hKc := hK.sub (tys' := []) [] rfl
    refine va_calli (va_runS (As := [.long l_13, .long 0, .long 999]) (rest := []) ⟨hx, hb, hml, hown, hts⟩ (sX12_in l dC dI l_13 0 999) (cwS 3 hts (gz_gS mGB_47 mGB_48 mGB_1 mGB_49 goodGB) rfl rfl rfl (by decide +kernel) ⟨Nat.le_of_ble_eq_true rfl, Nat.le_of_ble_eq_true rfl⟩) ⟨bl_R, fun U hU hW => ⟨rfl, by rw [hU]; exact hPc, va_K.moved hW.alike hKc⟩⟩ rfl rfl hl.1 rfl (lv_room (Nat.le_of_ble_eq_true rfl)) dX12_isTime_13 ⟨Nat.zero_le _, Nat.zero_le _⟩) hS (fun q _ h => h.elim) (fun q h => h.elim) (fun r_14 u t H1 locs ht hvm hw hB hz1 hk1 hS => ?_)
    obtain ⟨hw, hE⟩ := hw
    have hP := gz_keep hP hk1
    have hF := gf_call (a := r_14) (by rw [el_13] at hE; exact hE) hF
    generalize H1 = H at hP hS ⊢
    have gr_14 : gi r_14 0 1 := hw.1
    have hqr_14 := hw.2
    refine lv_if_eq (tgt := 23) hx hb dX12_isTime_16 (by decide) (fun c_15 => ?_) (fun c_15 => ?_)
    · have hF := gf_pos c_15 hF
      have g_16 : gi r_14 0 0 := gi_eq c_15 (gi_c 0 0 (by decide))
      refine lv_iconst (v := 0) hx hb dX12_isTime_23 (by decide) ?_
      exact W.zret (v := 0) hx hb hr (by decide) (fun t ht hW => ⟨⟨0, (), rfl, ⟨⟨(gi_w (gi_c 0 0 (by decide)) (by decide)), (fun h => absurd h (by decide))⟩, hF.trans hR9.symm⟩, trivial⟩, hS.F ht⟩) hS.2.2 dX12_isTime_24
    · have hF := gf_neg c_15 hF
      have g_17 : gi r_14 1 1 := gi_ne_lo c_15 gr_14 (gi_c 0 0 (by decide)) (by decide)
      have g_18 : gi p1 0 999 := gi_cap (gi_any p1) (gz_inr (hqr_14.1 (gz_one g_17)) el_13 (A := 0) (B := 999) (by decide) (by decide)) (by decide)
      refine lv_iconst (v := 1) hx hb dX12_isTime_19 (by decide) ?_
      refine lv_goto (tgt := 24) hx hb dX12_isTime_20 (by decide) ?_
      exact W.zret (v := 1) hx hb hr (by decide) (fun t ht hW => ⟨⟨1, (), rfl, ⟨⟨(gi_w (gi_c 1 1 (by decide)) (by decide)), (fun _ => g_18)⟩, hF.trans hR9.symm⟩, trivial⟩, hS.F ht⟩) hS.2.2 dX12_isTime_24
theorem dX12_earlyOf_0 : decode cX12_earlyOf 0 = .ok (.aload_n 0, 1) := by decide +kernel
theorem dX12_earlyOf_1 : decode cX12_earlyOf 1 = .ok (.getfield 132, 3) := by decide +kernel
theorem dX12_earlyOf_4 : decode cX12_earlyOf 4 = .ok (.iload_n 1, 1) := by decide +kernel
theorem dX12_earlyOf_5 : decode cX12_earlyOf 5 = .ok (.aload_n 0, 1) := by decide +kernel
theorem dX12_earlyOf_6 : decode cX12_earlyOf 6 = .ok (.getfield 135, 3) := by decide +kernel
theorem dX12_earlyOf_9 : decode cX12_earlyOf 9 = .ok (.imul, 1) := by decide +kernel
theorem dX12_earlyOf_10 : decode cX12_earlyOf 10 = .ok (.iadd, 1) := by decide +kernel
theorem dX12_earlyOf_11 : decode cX12_earlyOf 11 = .ok (.sipush 1000, 3) := by decide +kernel
theorem dX12_earlyOf_14 : decode cX12_earlyOf 14 = .ok (.idiv, 1) := by decide +kernel
theorem dX12_earlyOf_15 : decode cX12_earlyOf 15 = .ok (.ireturn, 1) := by decide +kernel
noncomputable def fX12_earlyOf (mi : Nat → Int32) (p1 : Int32) : Int32 := (((mi 5) + (p1 * (mi 6))) / (1000 : Int32))
set_option maxHeartbeats 4000000 in
set_option maxRecDepth 100000 in
theorem sX12_earlyOf (l : Launch) (dC : Nat → ClassId) (dI : Nat → Nat → Nat) (h0 : Nat) (mi : Nat → Int32) (mr : Nat → Nat) (km : Nat → ClassId) (fm_trust : Nat → Int32) (fm_letter : Nat → Int32) (fm_reportPlace : Nat → Int32) (fm_reportKind : Nat → Int32) (fm_struck : Nat → Int32) (fm_reportMonth : Nat → Int32) (fm_reportDay : Nat → Int32) (fm_reportKnown : Nat → Int32) (fm_deedMonth : Nat → Int32) (fm_deedDay : Nat → Int32) (fm_deedLong : Nat → Int32) (fm_deedKind : Nat → Int32) (fm_kept : Nat → Int32) (fm_tape : Nat → Int32) (fm_must : Nat → Int32) (fm_least : Nat → Int32) (fm_pin : Nat → Int32) (fm_ways : Nat → Int32) (fm_verdict : Nat → Int32) (fm_row : Nat → Int32) (fm_official : Nat → Int32) (fm_aside : Nat → Int32) (fm_worth : Nat → Int32) (fm_out : Nat → Int32) (p1 : Int32) (gmi_0 : gi (mi 0) 0 24) (gmi_1 : gi (mi 1) 0 5) (gmi_2 : gi (mi 2) 0 5) (gmi_4 : gi (mi 4) 0 1) (gmi_7 : gi (mi 7) 0 6) (gmi_10 : gi (mi 10) 0 24) (gmi_17 : gi (mi 17) 0 8) (gmi_23 : gi (mi 23) 0 300) (gmi_24 : gi (mi 24) 0 1) (gmi_26 : gi (mi 26) 0 1600) (gmi_29 : gi (mi 29) 0 1600) (gmi_30 : gi (mi 30) 0 1600) (gmi_33 : gi (mi 33) 0 1) (gmi_37 : gi (mi 37) 0 1) (gmi_41 : gi (mi 41) 0 24) (gmi_50 : gi (mi 50) 0 1) (gmi_51 : gi (mi 51) 0 1) (gmi_56 : gi (mi 56) 0 80) : Met l yX12_earlyOf (.code yX12_earlyOf cX12_earlyOf 2 (some .int) :: wsGB) ({ frames := 0, cells := 0, slots := 0, locals := 0 }) (va_Pc [.ref h0, .int p1] (fun U => va_P (dC, dI) vwCl (MWn h0 mr km (mi 0) (mi 1) (mi 2) (mi 3) (mi 4) (mi 5) (mi 6) (mi 7) (mi 10) (mi 17) (mi 23) (mi 24) (mi 26) (mi 27) (mi 28) (mi 29) (mi 30) (mi 31) (mi 32) (mi 33) (mi 37) (mi 41) (mi 42) (mi 43) (mi 44) (mi 45) (mi 47) (mi 48) (mi 49) (mi 50) (mi 51) (mi 54) (mi 56) fm_trust fm_letter fm_reportPlace fm_reportKind fm_struck fm_reportMonth fm_reportDay fm_reportKnown fm_deedMonth fm_deedDay fm_deedLong fm_deedKind fm_kept fm_tape fm_must fm_least fm_pin fm_ways fm_verdict fm_row fm_official fm_aside fm_worth fm_out) U.heap ∧ va_K (dC, dI) vwCl (MT km) U)) (va_Qi (fun (r : Int32) (u : Unit) => (gi r (-2147483648) 2147483647) ∧ r = fX12_earlyOf mi p1) (fun _ _ => True) (fun _ => False)) 0 0 (fun _ => False) := by
  refine Met.ofW (cc := cX12_earlyOf) (maxL := 2) (ret := (some .int)) (by decide) rfl ?_
  intro p e s m args below meth c s₁ B hml hv
  obtain ⟨rfl, hP, hK⟩ := hv
  have hx := B.exec
  have hb := B.bytes
  have hr := B.returns
  have hts := atoms_spec (ws := (.code yX12_earlyOf cX12_earlyOf 2 (some .int) :: wsGB)) B.pre
  have hown : s.vm.findClass RX12 = some m.cls := findClass_of_methodNamed B.named
  have hlocks := B.notSynchronized
  have hS : va_S (fun _ => False) s.heap s.heap [] := va_S.rf
  have hl := lv_entry ([.ref h0, .int p1]) (n := 2) (Nat.le_of_ble_eq_true rfl)
  rw [lg_entry_eq]
  generalize (lg_sl ([.ref h0, .int p1]) ++ List.replicate (2 - (lg_sl ([.ref h0, .int p1])).length) Slot.unset).toArray = ls at hl ⊢
  have hl : lv_has ls 2 [(0, .ref h0), (1, .int p1)] := hl
  obtain ⟨RES, hF⟩ : ∃ R9, fX12_earlyOf mi p1 = R9 := ⟨_, rfl⟩
  have hR9 := hF
  refine lv_aload_n hx hb dX12_earlyOf_0 rfl (lv_at hl 0 rfl) ?_
  refine va_get (D := (dC, dI)) (ci := 12) (v := .int (mi 5)) (C := RX12) (T := TX12) (N := 57) hx hb hts (fun w h => List.mem_cons_of_mem _ (jnGB_X12 w h)) hown hK hP 0 rfl rfl 5 (by decide) (hts _ (List.mem_cons_of_mem _ mGB_108)) (fun _ h9 => h9) rfl dX12_earlyOf_1 ?_
  refine lv_iload_n hx hb dX12_earlyOf_4 rfl (lv_at hl 1 rfl) ?_
  refine lv_aload_n hx hb dX12_earlyOf_5 rfl (lv_at hl 0 rfl) ?_
  refine va_get (D := (dC, dI)) (ci := 12) (v := .int (mi 6)) (C := RX12) (T := TX12) (N := 57) hx hb hts (fun w h => List.mem_cons_of_mem _ (jnGB_X12 w h)) hown hK hP 0 rfl rfl 6 (by decide) (hts _ (List.mem_cons_of_mem _ mGB_109)) (fun _ h9 => h9) rfl dX12_earlyOf_6 ?_
  refine lv_imul hx hb dX12_earlyOf_9 ?_
  refine lv_topi (fun x_4 ex_4 => ?_)
  refine lv_iadd hx hb dX12_earlyOf_10 ?_
  refine lv_topi (fun x_5 ex_5 => ?_)
  refine lv_sipush (v := 1000) hx hb dX12_earlyOf_11 (by decide) ?_
  refine lv_idiv hx hb dX12_earlyOf_14 (by decide) ?_
  refine lv_topi (fun x_6 ex_6 => ?_)
  exact W.iret (v := x_6) hx hb hr (fun t ht hW => ⟨⟨x_6, (), rfl, ⟨(gi_any x_6), by rw [ex_6, ex_5, ex_4]; exact hF.trans hR9.symm⟩, trivial⟩, hS.F ht⟩) hS.2.2 dX12_earlyOf_15
theorem dX12_isNameAhead_0 : decode cX12_isNameAhead 0 = .ok (.iconst 0, 1) := by decide +kernel
theorem dX12_isNameAhead_1 : decode cX12_isNameAhead 1 = .ok (.istore_n 3, 1) := by decide +kernel
theorem dX12_isNameAhead_2 : decode cX12_isNameAhead 2 = .ok (.iload_n 3, 1) := by decide +kernel
theorem dX12_isNameAhead_3 : decode cX12_isNameAhead 3 = .ok (.bipush 6, 2) := by decide +kernel
theorem dX12_isNameAhead_5 : decode cX12_isNameAhead 5 = .ok (.if_icmp .ge 55, 3) := by decide +kernel
theorem dX12_isNameAhead_8 : decode cX12_isNameAhead 8 = .ok (.aload_n 0, 1) := by decide +kernel
theorem dX12_isNameAhead_9 : decode cX12_isNameAhead 9 = .ok (.getfield 13, 3) := by decide +kernel
theorem dX12_isNameAhead_12 : decode cX12_isNameAhead 12 = .ok (.bipush 6, 2) := by decide +kernel
theorem dX12_isNameAhead_14 : decode cX12_isNameAhead 14 = .ok (.iload_n 1, 1) := by decide +kernel
theorem dX12_isNameAhead_15 : decode cX12_isNameAhead 15 = .ok (.imul, 1) := by decide +kernel
theorem dX12_isNameAhead_16 : decode cX12_isNameAhead 16 = .ok (.iload_n 3, 1) := by decide +kernel
theorem dX12_isNameAhead_17 : decode cX12_isNameAhead 17 = .ok (.iadd, 1) := by decide +kernel
theorem dX12_isNameAhead_18 : decode cX12_isNameAhead 18 = .ok (.iaload, 1) := by decide +kernel
theorem dX12_isNameAhead_19 : decode cX12_isNameAhead 19 = .ok (.istore 4, 2) := by decide +kernel
theorem dX12_isNameAhead_21 : decode cX12_isNameAhead 21 = .ok (.aload_n 0, 1) := by decide +kernel
theorem dX12_isNameAhead_22 : decode cX12_isNameAhead 22 = .ok (.getfield 13, 3) := by decide +kernel
theorem dX12_isNameAhead_25 : decode cX12_isNameAhead 25 = .ok (.bipush 6, 2) := by decide +kernel
theorem dX12_isNameAhead_27 : decode cX12_isNameAhead 27 = .ok (.iload_n 2, 1) := by decide +kernel
theorem dX12_isNameAhead_28 : decode cX12_isNameAhead 28 = .ok (.imul, 1) := by decide +kernel
theorem dX12_isNameAhead_29 : decode cX12_isNameAhead 29 = .ok (.iload_n 3, 1) := by decide +kernel
theorem dX12_isNameAhead_30 : decode cX12_isNameAhead 30 = .ok (.iadd, 1) := by decide +kernel
theorem dX12_isNameAhead_31 : decode cX12_isNameAhead 31 = .ok (.iaload, 1) := by decide +kernel
theorem dX12_isNameAhead_32 : decode cX12_isNameAhead 32 = .ok (.istore 5, 2) := by decide +kernel
theorem dX12_isNameAhead_34 : decode cX12_isNameAhead 34 = .ok (.iload 4, 2) := by decide +kernel
theorem dX12_isNameAhead_36 : decode cX12_isNameAhead 36 = .ok (.iload 5, 2) := by decide +kernel
theorem dX12_isNameAhead_38 : decode cX12_isNameAhead 38 = .ok (.if_icmp .eq 16, 3) := by decide +kernel
theorem dX12_isNameAhead_41 : decode cX12_isNameAhead 41 = .ok (.iload 4, 2) := by decide +kernel
theorem dX12_isNameAhead_43 : decode cX12_isNameAhead 43 = .ok (.iload 5, 2) := by decide +kernel
theorem dX12_isNameAhead_45 : decode cX12_isNameAhead 45 = .ok (.if_icmp .ge 7, 3) := by decide +kernel
theorem dX12_isNameAhead_48 : decode cX12_isNameAhead 48 = .ok (.iconst 1, 1) := by decide +kernel
theorem dX12_isNameAhead_49 : decode cX12_isNameAhead 49 = .ok (.goto 4, 3) := by decide +kernel
theorem dX12_isNameAhead_52 : decode cX12_isNameAhead 52 = .ok (.iconst 0, 1) := by decide +kernel
theorem dX12_isNameAhead_53 : decode cX12_isNameAhead 53 = .ok (.ireturn, 1) := by decide +kernel
theorem dX12_isNameAhead_54 : decode cX12_isNameAhead 54 = .ok (.iinc 3 1, 3) := by decide +kernel
theorem dX12_isNameAhead_57 : decode cX12_isNameAhead 57 = .ok (.goto (-55), 3) := by decide +kernel
theorem dX12_isNameAhead_60 : decode cX12_isNameAhead 60 = .ok (.iconst 0, 1) := by decide +kernel
theorem dX12_isNameAhead_61 : decode cX12_isNameAhead 61 = .ok (.ireturn, 1) := by decide +kernel
noncomputable def bfX12_isNameAhead_53 (fm_letter : Nat → Int32) (p1 : Int32) (p2 : Int32) (K : (Int32 → Int32)) (s0 : Int32) : Int32 := s0
noncomputable def dfX12_isNameAhead_2 (fm_letter : Nat → Int32) (p1 : Int32) (p2 : Int32) (K : (Int32 → Int32)) (v3 : Int32) : Int32 := if (6 : Int32) ≤ v3 then (0 : Int32) else (if (fm_letter (((6 : Int32) * p1) + v3).toNatClampNeg) = (fm_letter (((6 : Int32) * p2) + v3).toNatClampNeg) then (K (v3 + (1 : Int32))) else (if (fm_letter (((6 : Int32) * p2) + v3).toNatClampNeg) ≤ (fm_letter (((6 : Int32) * p1) + v3).toNatClampNeg) then (bfX12_isNameAhead_53 fm_letter p1 p2 K (0 : Int32)) else (bfX12_isNameAhead_53 fm_letter p1 p2 K (1 : Int32))))
noncomputable def lfX12_isNameAhead (fm_letter : Nat → Int32) (p1 : Int32) (p2 : Int32) (z : Nat) : (Int32 → Int32) := Nat.rec (motive := fun _ => (Int32 → Int32)) (fun _ => (0)) (fun _ K => dfX12_isNameAhead_2 fm_letter p1 p2 K) z
noncomputable def fX12_isNameAhead (fm_letter : Nat → Int32) (p1 : Int32) (p2 : Int32) : Int32 := (lfX12_isNameAhead fm_letter p1 p2 1000000000) (0 : Int32)
set_option maxHeartbeats 4000000 in
set_option maxRecDepth 100000 in
theorem lp_sX12_isNameAhead {p : Program} {l : Launch} {e : Env} {R : Room} {s : State} {m : MethodId} {args : Array Value} {below : List Frame} {meth : Method} {c : Code} {Q : State → Prop} {A : Nat → Prop} {cells slots : Nat} {dC : Nat → ClassId} {dI : Nat → Nat → Nat} {RES : Int32} (h0 : Nat) (mi : Nat → Int32) (mr : Nat → Nat) (km : Nat → ClassId) (fm_letter : Nat → Int32) (fm_trust : Nat → Int32) (fm_reportPlace : Nat → Int32) (fm_reportKind : Nat → Int32) (fm_struck : Nat → Int32) (fm_reportMonth : Nat → Int32) (fm_reportDay : Nat → Int32) (fm_reportKnown : Nat → Int32) (fm_deedMonth : Nat → Int32) (fm_deedDay : Nat → Int32) (fm_deedLong : Nat → Int32) (fm_deedKind : Nat → Int32) (fm_kept : Nat → Int32) (fm_tape : Nat → Int32) (fm_must : Nat → Int32) (fm_least : Nat → Int32) (fm_pin : Nat → Int32) (fm_ways : Nat → Int32) (fm_verdict : Nat → Int32) (fm_row : Nat → Int32) (fm_official : Nat → Int32) (fm_aside : Nat → Int32) (fm_worth : Nat → Int32) (fm_out : Nat → Int32) (p1 : Int32) (p2 : Int32) (gmi_0 : gi (mi 0) 0 24) (gmi_1 : gi (mi 1) 0 5) (gmi_2 : gi (mi 2) 0 5) (gmi_4 : gi (mi 4) 0 1) (gmi_7 : gi (mi 7) 0 6) (gmi_10 : gi (mi 10) 0 24) (gmi_17 : gi (mi 17) 0 8) (gmi_23 : gi (mi 23) 0 300) (gmi_24 : gi (mi 24) 0 1) (gmi_26 : gi (mi 26) 0 1600) (gmi_29 : gi (mi 29) 0 1600) (gmi_30 : gi (mi 30) 0 1600) (gmi_33 : gi (mi 33) 0 1) (gmi_37 : gi (mi 37) 0 1) (gmi_41 : gi (mi 41) 0 24) (gmi_50 : gi (mi 50) 0 1) (gmi_51 : gi (mi 51) 0 1) (gmi_56 : gi (mi 56) 0 80) (gp1 : gi p1 0 5) (gp2 : gi p2 0 5) (hx : p.tables.exec = Jvm.exec) (hb : c.code = cX12_isNameAhead) (hml : c.maxLocals = 6) (hown : s.vm.findClass RX12 = some m.cls) (hts : ∀ w ∈ ((.code yX12_isNameAhead cX12_isNameAhead 6 (some .boolean) :: wsGB) : List Cond), w.before args s = true) (hK : va_K (dC, dI) vwCl (MT km) s) (hRf : 0 ≤ R.frames) (hRl : 0 ≤ R.locals) (hRc : cells ≤ R.cells) (hRs : slots ≤ R.slots) (kr61 : ∀ (v : Int32) (H : Heap) (locs : List Loc) (ls : Array Slot), gi v 0 0 → v = RES → va_P (dC, dI) vwCl (MWn h0 mr km (mi 0) (mi 1) (mi 2) (mi 3) (mi 4) (mi 5) (mi 6) (mi 7) (mi 10) (mi 17) (mi 23) (mi 24) (mi 26) (mi 27) (mi 28) (mi 29) (mi 30) (mi 31) (mi 32) (mi 33) (mi 37) (mi 41) (mi 42) (mi 43) (mi 44) (mi 45) (mi 47) (mi 48) (mi 49) (mi 50) (mi 51) (mi 54) (mi 56) fm_trust fm_letter fm_reportPlace fm_reportKind fm_struck fm_reportMonth fm_reportDay fm_reportKnown fm_deedMonth fm_deedDay fm_deedLong fm_deedKind fm_kept fm_tape fm_must fm_least fm_pin fm_ways fm_verdict fm_row fm_official fm_aside fm_worth fm_out) H → va_S A s.heap H locs → lv_has ls 6 [] → W p l e R s m args below meth c H locs cells slots Q (F0 m 61 ls [.int v])) (kr53 : ∀ (v : Int32) (H : Heap) (locs : List Loc) (ls : Array Slot), gi v 0 1 → v = RES → va_P (dC, dI) vwCl (MWn h0 mr km (mi 0) (mi 1) (mi 2) (mi 3) (mi 4) (mi 5) (mi 6) (mi 7) (mi 10) (mi 17) (mi 23) (mi 24) (mi 26) (mi 27) (mi 28) (mi 29) (mi 30) (mi 31) (mi 32) (mi 33) (mi 37) (mi 41) (mi 42) (mi 43) (mi 44) (mi 45) (mi 47) (mi 48) (mi 49) (mi 50) (mi 51) (mi 54) (mi 56) fm_trust fm_letter fm_reportPlace fm_reportKind fm_struck fm_reportMonth fm_reportDay fm_reportKnown fm_deedMonth fm_deedDay fm_deedLong fm_deedKind fm_kept fm_tape fm_must fm_least fm_pin fm_ways fm_verdict fm_row fm_official fm_aside fm_worth fm_out) H → va_S A s.heap H locs → lv_has ls 6 [] → W p l e R s m args below meth c H locs cells slots Q (F0 m 53 ls [.int v])) : ∀ z : Nat, (∀ (v3 : Int32) (H : Heap) (locs : List Loc) (ls : Array Slot), gi v3 0 6 → (lfX12_isNameAhead fm_letter p1 p2 z) v3 = RES → 13 + (-2) * v3.toInt < (z : Int) → va_P (dC, dI) vwCl (MWn h0 mr km (mi 0) (mi 1) (mi 2) (mi 3) (mi 4) (mi 5) (mi 6) (mi 7) (mi 10) (mi 17) (mi 23) (mi 24) (mi 26) (mi 27) (mi 28) (mi 29) (mi 30) (mi 31) (mi 32) (mi 33) (mi 37) (mi 41) (mi 42) (mi 43) (mi 44) (mi 45) (mi 47) (mi 48) (mi 49) (mi 50) (mi 51) (mi 54) (mi 56) fm_trust fm_letter fm_reportPlace fm_reportKind fm_struck fm_reportMonth fm_reportDay fm_reportKnown fm_deedMonth fm_deedDay fm_deedLong fm_deedKind fm_kept fm_tape fm_must fm_least fm_pin fm_ways fm_verdict fm_row fm_official fm_aside fm_worth fm_out) H → va_S A s.heap H locs → lv_has ls 6 [(0, .ref h0), (1, .int p1), (2, .int p2), (3, .int v3)] → W p l e R s m args below meth c H locs cells slots Q (F0 m 2 ls [])) := by
  intro z
  induction z with
  | zero =>
    intro v3 H locs ls gv3 hF hmu hP hS hl
    exact absurd hmu (by have hv31 := gv3.1; have hv32 := gv3.2; omega)
  | succ z ih =>
      intro v3 H locs ls gv3 hF hmu hP hS hl
      have hF : dfX12_isNameAhead_2 fm_letter p1 p2 (lfX12_isNameAhead fm_letter p1 p2 z) v3 = RES := hF
      refine lv_iload_n hx hb dX12_isNameAhead_2 rfl (lv_at hl 3 rfl) ?_
      refine lv_bipush (v := 6) hx hb dX12_isNameAhead_3 (by decide) ?_
      refine lv_icmp_ge (tgt := 60) hx hb dX12_isNameAhead_5 (by decide) (fun c_87 => ?_) (fun c_87 => ?_)
      · have hF := gf_pos c_87 hF
        have g_88 : gi v3 6 6 := gi_le_r c_87 (gi_c 6 6 (by decide)) gv3
        refine lv_iconst (v := 0) hx hb dX12_isNameAhead_60 (by decide) ?_
        exact kr61 0 _ _ _ (gi_c 0 0 (by decide)) hF hP hS (lv_sub hl [] rfl)
      · have hF := gf_neg c_87 hF
        have g_89 : gi v3 0 5 := gi_lt_l (Int32.not_le.mp c_87) gv3 (gi_c 6 6 (by decide)) (by decide)
        refine lv_aload_n hx hb dX12_isNameAhead_8 rfl (lv_at hl 0 rfl) ?_
        refine va_get (D := (dC, dI)) (ci := 12) (v := .ref (mr 1)) (C := RX12) (T := TX12) (N := 57) hx hb hts (fun w h => List.mem_cons_of_mem _ (jnGB_X12 w h)) hown hK hP 0 rfl rfl 9 (by decide) (hts _ (List.mem_cons_of_mem _ mGB_11)) (fun _ h9 => h9) rfl dX12_isNameAhead_9 ?_
        refine lv_bipush (v := 6) hx hb dX12_isNameAhead_12 (by decide) ?_
        refine lv_iload_n hx hb dX12_isNameAhead_14 rfl (lv_at hl 1 rfl) ?_
        refine lv_imul hx hb dX12_isNameAhead_15 ?_
        refine lv_topi (fun x_90 ex_90 => ?_)
        have gx_90 : gi x_90 0 30 := gi_mul ex_90 (gi_c 6 6 (by decide)) gp1 (by decide)
        refine lv_iload_n hx hb dX12_isNameAhead_16 rfl (lv_at hl 3 rfl) ?_
        refine lv_iadd hx hb dX12_isNameAhead_17 ?_
        refine lv_topi (fun x_91 ex_91 => ?_)
        have gx_91 : gi x_91 0 35 := gi_add ex_91 gx_90 g_89 (by decide)
        refine va_iald hx hb hK hP 2 1 rfl rfl (gi_in gx_91 (by decide)) dX12_isNameAhead_18 ?_
        refine lv_topi (fun x_92 ex_92 => ?_)
        refine lv_istore (lv' := [(4, .int x_92), (0, .ref h0), (1, .int p1), (2, .int p2), (3, .int v3)]) hx hb dX12_isNameAhead_19 hl (by decide) rfl (fun ls hl => ?_)
        refine lv_aload_n hx hb dX12_isNameAhead_21 rfl (lv_at hl 1 rfl) ?_
        refine va_get (D := (dC, dI)) (ci := 12) (v := .ref (mr 1)) (C := RX12) (T := TX12) (N := 57) hx hb hts (fun w h => List.mem_cons_of_mem _ (jnGB_X12 w h)) hown hK hP 0 rfl rfl 9 (by decide) (hts _ (List.mem_cons_of_mem _ mGB_11)) (fun _ h9 => h9) rfl dX12_isNameAhead_22 ?_
        refine lv_bipush (v := 6) hx hb dX12_isNameAhead_25 (by decide) ?_
        refine lv_iload_n hx hb dX12_isNameAhead_27 rfl (lv_at hl 3 rfl) ?_
        refine lv_imul hx hb dX12_isNameAhead_28 ?_
        refine lv_topi (fun x_93 ex_93 => ?_)
        have gx_93 : gi x_93 0 30 := gi_mul ex_93 (gi_c 6 6 (by decide)) gp2 (by decide)
        refine lv_iload_n hx hb dX12_isNameAhead_29 rfl (lv_at hl 4 rfl) ?_
        refine lv_iadd hx hb dX12_isNameAhead_30 ?_
        refine lv_topi (fun x_94 ex_94 => ?_)
        have gx_94 : gi x_94 0 35 := gi_add ex_94 gx_93 g_89 (by decide)
        refine va_iald hx hb hK hP 2 1 rfl rfl (gi_in gx_94 (by decide)) dX12_isNameAhead_31 ?_
        refine lv_topi (fun x_95 ex_95 => ?_)
        refine lv_istore (lv' := [(5, .int x_95), (4, .int x_92), (0, .ref h0), (1, .int p1), (2, .int p2), (3, .int v3)]) hx hb dX12_isNameAhead_32 hl (by decide) rfl (fun ls hl => ?_)
        refine lv_iload hx hb dX12_isNameAhead_34 (lv_at hl 1 rfl) ?_
        refine lv_iload hx hb dX12_isNameAhead_36 (lv_at hl 0 rfl) ?_
        refine lv_icmp_eq (tgt := 54) hx hb dX12_isNameAhead_38 (by decide) (fun c_96 => ?_) (fun c_96 => ?_)
        · have hF := gf_pos (by rw [ex_95, ex_94, ex_93, ex_92, ex_91, ex_90] at c_96; exact c_96) hF
          obtain ⟨x_97, ex_97⟩ : ∃ y : Int32, y = v3 + 1 := ⟨_, rfl⟩
          have gx_97 : gi x_97 1 6 := gi_add ex_97 g_89 (gi_c 1 1 (by decide)) (by decide)
          refine lv_iinc (v := x_97) (lv' := [(3, .int x_97), (5, .int x_95), (4, .int x_92), (0, .ref h0), (1, .int p1), (2, .int p2)]) hx hb dX12_isNameAhead_54 hl (k := 5) rfl (by rw [ex_97]; rfl) (by decide) rfl (fun ls hl => ?_)
          refine lv_goto (tgt := 2) hx hb dX12_isNameAhead_57 (by decide) ?_
          exact ih x_97 _ _ _ (gi_w gx_97 (by decide)) (by rw [ex_97]; exact hF) (by have av3 := gv3.1; have bv3 := gv3.2; have qgx_97 := gx_97.1; have rgx_97 := gx_97.2; have igx_97 : x_97.toInt = v3.toInt + 1 := (by have hc1 : (1 : Int32).toInt = 1 := (by decide); have h9 := gi_addI ex_97 (by have h1 := g_89.1; have h2 := (gi_c 1 1 (by decide)).1; have h3 := g_89.2; have h4 := (gi_c 1 1 (by decide)).2; omega) (by have h1 := g_89.1; have h2 := (gi_c 1 1 (by decide)).1; have h3 := g_89.2; have h4 := (gi_c 1 1 (by decide)).2; omega); rw [hc1] at h9; exact h9); have qgv3 := g_89.1; have rgv3 := g_89.2; omega) hP hS (lv_sub hl [3, 4, 5, 0] rfl)
        · have hF := gf_neg (by rw [ex_95, ex_94, ex_93, ex_92, ex_91, ex_90] at c_96; exact c_96) hF
          refine lv_iload hx hb dX12_isNameAhead_41 (lv_at hl 1 rfl) ?_
          refine lv_iload hx hb dX12_isNameAhead_43 (lv_at hl 0 rfl) ?_
          refine lv_icmp_ge (tgt := 52) hx hb dX12_isNameAhead_45 (by decide) (fun c_98 => ?_) (fun c_98 => ?_)
          · have hF := gf_pos (by rw [ex_95, ex_94, ex_93, ex_92, ex_91, ex_90] at c_98; exact c_98) hF
            refine lv_iconst (v := 0) hx hb dX12_isNameAhead_52 (by decide) ?_
            exact kr53 0 _ _ _ (gi_w (gi_c 0 0 (by decide)) (by decide)) hF hP hS (lv_sub hl [] rfl)
          · have hF := gf_neg (by rw [ex_95, ex_94, ex_93, ex_92, ex_91, ex_90] at c_98; exact c_98) hF
            have g_99 : gi x_92 (-2147483648) 2147483646 := gi_lt_l (Int32.not_le.mp c_98) (gi_any x_92) (gi_any x_95) (by decide)
            have g_100 : gi x_95 (-2147483647) 2147483647 := gi_lt_r (Int32.not_le.mp c_98) (gi_any x_92) (gi_any x_95) (by decide)
            refine lv_iconst (v := 1) hx hb dX12_isNameAhead_48 (by decide) ?_
            refine lv_goto (tgt := 53) hx hb dX12_isNameAhead_49 (by decide) ?_
            exact kr53 1 _ _ _ (gi_w (gi_c 1 1 (by decide)) (by decide)) hF hP hS (lv_sub hl [] rfl)
set_option maxHeartbeats 4000000 in
set_option maxRecDepth 100000 in
theorem sX12_isNameAhead (l : Launch) (dC : Nat → ClassId) (dI : Nat → Nat → Nat) (h0 : Nat) (mi : Nat → Int32) (mr : Nat → Nat) (km : Nat → ClassId) (fm_letter : Nat → Int32) (fm_trust : Nat → Int32) (fm_reportPlace : Nat → Int32) (fm_reportKind : Nat → Int32) (fm_struck : Nat → Int32) (fm_reportMonth : Nat → Int32) (fm_reportDay : Nat → Int32) (fm_reportKnown : Nat → Int32) (fm_deedMonth : Nat → Int32) (fm_deedDay : Nat → Int32) (fm_deedLong : Nat → Int32) (fm_deedKind : Nat → Int32) (fm_kept : Nat → Int32) (fm_tape : Nat → Int32) (fm_must : Nat → Int32) (fm_least : Nat → Int32) (fm_pin : Nat → Int32) (fm_ways : Nat → Int32) (fm_verdict : Nat → Int32) (fm_row : Nat → Int32) (fm_official : Nat → Int32) (fm_aside : Nat → Int32) (fm_worth : Nat → Int32) (fm_out : Nat → Int32) (p1 : Int32) (p2 : Int32) (gmi_0 : gi (mi 0) 0 24) (gmi_1 : gi (mi 1) 0 5) (gmi_2 : gi (mi 2) 0 5) (gmi_4 : gi (mi 4) 0 1) (gmi_7 : gi (mi 7) 0 6) (gmi_10 : gi (mi 10) 0 24) (gmi_17 : gi (mi 17) 0 8) (gmi_23 : gi (mi 23) 0 300) (gmi_24 : gi (mi 24) 0 1) (gmi_26 : gi (mi 26) 0 1600) (gmi_29 : gi (mi 29) 0 1600) (gmi_30 : gi (mi 30) 0 1600) (gmi_33 : gi (mi 33) 0 1) (gmi_37 : gi (mi 37) 0 1) (gmi_41 : gi (mi 41) 0 24) (gmi_50 : gi (mi 50) 0 1) (gmi_51 : gi (mi 51) 0 1) (gmi_56 : gi (mi 56) 0 80) (gp1 : gi p1 0 5) (gp2 : gi p2 0 5) : Met l yX12_isNameAhead (.code yX12_isNameAhead cX12_isNameAhead 6 (some .boolean) :: wsGB) ({ frames := 0, cells := 0, slots := 0, locals := 0 }) (va_Pc [.ref h0, .int p1, .int p2] (fun U => va_P (dC, dI) vwCl (MWn h0 mr km (mi 0) (mi 1) (mi 2) (mi 3) (mi 4) (mi 5) (mi 6) (mi 7) (mi 10) (mi 17) (mi 23) (mi 24) (mi 26) (mi 27) (mi 28) (mi 29) (mi 30) (mi 31) (mi 32) (mi 33) (mi 37) (mi 41) (mi 42) (mi 43) (mi 44) (mi 45) (mi 47) (mi 48) (mi 49) (mi 50) (mi 51) (mi 54) (mi 56) fm_trust fm_letter fm_reportPlace fm_reportKind fm_struck fm_reportMonth fm_reportDay fm_reportKnown fm_deedMonth fm_deedDay fm_deedLong fm_deedKind fm_kept fm_tape fm_must fm_least fm_pin fm_ways fm_verdict fm_row fm_official fm_aside fm_worth fm_out) U.heap ∧ va_K (dC, dI) vwCl (MT km) U)) (va_Qi (fun (r : Int32) (u : Unit) => (gi r 0 1) ∧ r = fX12_isNameAhead fm_letter p1 p2) (fun _ _ => True) (fun _ => False)) 0 0 (fun _ => False) := by
  refine Met.ofW (cc := cX12_isNameAhead) (maxL := 6) (ret := (some .boolean)) (by decide) rfl ?_
  intro p e s m args below meth c s₁ B hml hv
  obtain ⟨rfl, hP, hK⟩ := hv
  have hx := B.exec
  have hb := B.bytes
  have hr := B.returns
  have hts := atoms_spec (ws := (.code yX12_isNameAhead cX12_isNameAhead 6 (some .boolean) :: wsGB)) B.pre
  have hown : s.vm.findClass RX12 = some m.cls := findClass_of_methodNamed B.named
  have hlocks := B.notSynchronized
  have hS : va_S (fun _ => False) s.heap s.heap [] := va_S.rf
  have hl := lv_entry ([.ref h0, .int p1, .int p2]) (n := 6) (Nat.le_of_ble_eq_true rfl)
  rw [lg_entry_eq]
  generalize (lg_sl ([.ref h0, .int p1, .int p2]) ++ List.replicate (6 - (lg_sl ([.ref h0, .int p1, .int p2])).length) Slot.unset).toArray = ls at hl ⊢
  have hl : lv_has ls 6 [(0, .ref h0), (1, .int p1), (2, .int p2)] := hl
  obtain ⟨RES, hF⟩ : ∃ R9, fX12_isNameAhead fm_letter p1 p2 = R9 := ⟨_, rfl⟩
  have hR9 := hF
  refine lv_iconst (v := 0) hx hb dX12_isNameAhead_0 (by decide) ?_
  refine lv_istore_n (lv' := [(3, .int 0), (0, .ref h0), (1, .int p1), (2, .int p2)]) hx hb dX12_isNameAhead_1 rfl hl (by decide) rfl (fun ls hl => ?_)
  refine (lp_sX12_isNameAhead h0 mi mr km fm_letter fm_trust fm_reportPlace fm_reportKind fm_struck fm_reportMonth fm_reportDay fm_reportKnown fm_deedMonth fm_deedDay fm_deedLong fm_deedKind fm_kept fm_tape fm_must fm_least fm_pin fm_ways fm_verdict fm_row fm_official fm_aside fm_worth fm_out p1 p2 gmi_0 gmi_1 gmi_2 gmi_4 gmi_7 gmi_10 gmi_17 gmi_23 gmi_24 gmi_26 gmi_29 gmi_30 gmi_33 gmi_37 gmi_41 gmi_50 gmi_51 gmi_56 gp1 gp2 hx hb hml hown hts hK (Nat.le_of_ble_eq_true rfl) (Nat.le_of_ble_eq_true rfl) (Nat.zero_le _) (Nat.zero_le _) (fun v H locs ls gv hF hP hS hl => ?_) (fun v H locs ls gv hF hP hS hl => ?_) 1000000000) 0 _ _ _ (gi_w (gi_c 0 0 (by decide)) (by decide)) hF (by have k0 : (0 : Int32).toInt = 0 := (by decide); omega) hP hS (lv_sub hl [1, 2, 3, 0] rfl)
  · skip
    exact W.zret (v := v) hx hb hr (gz_nb (gi_w gv (by decide))) (fun t ht hW => ⟨⟨v, (), rfl, ⟨(gi_w gv (by decide)), hF.trans hR9.symm⟩, trivial⟩, hS.F ht⟩) hS.2.2 dX12_isNameAhead_61
  · skip
    exact W.zret (v := v) hx hb hr (gz_nb gv) (fun t ht hW => ⟨⟨v, (), rfl, ⟨gv, hF.trans hR9.symm⟩, trivial⟩, hS.F ht⟩) hS.2.2 dX12_isNameAhead_53
theorem dX12_isKnown_0 : decode cX12_isKnown 0 = .ok (.aload_n 0, 1) := by decide +kernel
theorem dX12_isKnown_1 : decode cX12_isKnown 1 = .ok (.getfield 22, 3) := by decide +kernel
theorem dX12_isKnown_4 : decode cX12_isKnown 4 = .ok (.iload_n 1, 1) := by decide +kernel
theorem dX12_isKnown_5 : decode cX12_isKnown 5 = .ok (.baload, 1) := by decide +kernel
theorem dX12_isKnown_6 : decode cX12_isKnown 6 = .ok (.ifCond .ne 17, 3) := by decide +kernel
theorem dX12_isKnown_9 : decode cX12_isKnown 9 = .ok (.aload_n 0, 1) := by decide +kernel
theorem dX12_isKnown_10 : decode cX12_isKnown 10 = .ok (.getfield 32, 3) := by decide +kernel
theorem dX12_isKnown_13 : decode cX12_isKnown 13 = .ok (.iload_n 1, 1) := by decide +kernel
theorem dX12_isKnown_14 : decode cX12_isKnown 14 = .ok (.iaload, 1) := by decide +kernel
theorem dX12_isKnown_15 : decode cX12_isKnown 15 = .ok (.iload_n 2, 1) := by decide +kernel
theorem dX12_isKnown_16 : decode cX12_isKnown 16 = .ok (.if_icmp .gt 7, 3) := by decide +kernel
theorem dX12_isKnown_19 : decode cX12_isKnown 19 = .ok (.iconst 1, 1) := by decide +kernel
theorem dX12_isKnown_20 : decode cX12_isKnown 20 = .ok (.goto 4, 3) := by decide +kernel
theorem dX12_isKnown_23 : decode cX12_isKnown 23 = .ok (.iconst 0, 1) := by decide +kernel
theorem dX12_isKnown_24 : decode cX12_isKnown 24 = .ok (.ireturn, 1) := by decide +kernel
noncomputable def bfX12_isKnown_24 (fm_struck : Nat → Int32) (fm_reportKnown : Nat → Int32) (p1 : Int32) (p2 : Int32) (s0 : Int32) : Int32 := s0
noncomputable def bfX12_isKnown_23 (fm_struck : Nat → Int32) (fm_reportKnown : Nat → Int32) (p1 : Int32) (p2 : Int32) : Int32 := bfX12_isKnown_24 fm_struck fm_reportKnown p1 p2 (0 : Int32)
noncomputable def fX12_isKnown (fm_struck : Nat → Int32) (fm_reportKnown : Nat → Int32) (p1 : Int32) (p2 : Int32) : Int32 := if (fm_struck p1.toNatClampNeg) = (0 : Int32) then (if p2 < (fm_reportKnown p1.toNatClampNeg) then (bfX12_isKnown_23 fm_struck fm_reportKnown p1 p2) else (bfX12_isKnown_24 fm_struck fm_reportKnown p1 p2 (1 : Int32))) else (bfX12_isKnown_23 fm_struck fm_reportKnown p1 p2)
set_option maxHeartbeats 4000000 in
set_option maxRecDepth 100000 in
theorem sX12_isKnown (l : Launch) (dC : Nat → ClassId) (dI : Nat → Nat → Nat) (h0 : Nat) (mi : Nat → Int32) (mr : Nat → Nat) (km : Nat → ClassId) (fm_struck : Nat → Int32) (fm_reportKnown : Nat → Int32) (fm_trust : Nat → Int32) (fm_letter : Nat → Int32) (fm_reportPlace : Nat → Int32) (fm_reportKind : Nat → Int32) (fm_reportMonth : Nat → Int32) (fm_reportDay : Nat → Int32) (fm_deedMonth : Nat → Int32) (fm_deedDay : Nat → Int32) (fm_deedLong : Nat → Int32) (fm_deedKind : Nat → Int32) (fm_kept : Nat → Int32) (fm_tape : Nat → Int32) (fm_must : Nat → Int32) (fm_least : Nat → Int32) (fm_pin : Nat → Int32) (fm_ways : Nat → Int32) (fm_verdict : Nat → Int32) (fm_row : Nat → Int32) (fm_official : Nat → Int32) (fm_aside : Nat → Int32) (fm_worth : Nat → Int32) (fm_out : Nat → Int32) (p1 : Int32) (p2 : Int32) (gmi_0 : gi (mi 0) 0 24) (gmi_1 : gi (mi 1) 0 5) (gmi_2 : gi (mi 2) 0 5) (gmi_4 : gi (mi 4) 0 1) (gmi_7 : gi (mi 7) 0 6) (gmi_10 : gi (mi 10) 0 24) (gmi_17 : gi (mi 17) 0 8) (gmi_23 : gi (mi 23) 0 300) (gmi_24 : gi (mi 24) 0 1) (gmi_26 : gi (mi 26) 0 1600) (gmi_29 : gi (mi 29) 0 1600) (gmi_30 : gi (mi 30) 0 1600) (gmi_33 : gi (mi 33) 0 1) (gmi_37 : gi (mi 37) 0 1) (gmi_41 : gi (mi 41) 0 24) (gmi_50 : gi (mi 50) 0 1) (gmi_51 : gi (mi 51) 0 1) (gmi_56 : gi (mi 56) 0 80) (gfm_struck : ga fm_struck 24 0 1) (gfm_reportKnown : ga fm_reportKnown 24 0 999) (gp1 : gi p1 0 23) : Met l yX12_isKnown (.code yX12_isKnown cX12_isKnown 3 (some .boolean) :: wsGB) ({ frames := 0, cells := 0, slots := 0, locals := 0 }) (va_Pc [.ref h0, .int p1, .int p2] (fun U => va_P (dC, dI) vwCl (MWn h0 mr km (mi 0) (mi 1) (mi 2) (mi 3) (mi 4) (mi 5) (mi 6) (mi 7) (mi 10) (mi 17) (mi 23) (mi 24) (mi 26) (mi 27) (mi 28) (mi 29) (mi 30) (mi 31) (mi 32) (mi 33) (mi 37) (mi 41) (mi 42) (mi 43) (mi 44) (mi 45) (mi 47) (mi 48) (mi 49) (mi 50) (mi 51) (mi 54) (mi 56) fm_trust fm_letter fm_reportPlace fm_reportKind fm_struck fm_reportMonth fm_reportDay fm_reportKnown fm_deedMonth fm_deedDay fm_deedLong fm_deedKind fm_kept fm_tape fm_must fm_least fm_pin fm_ways fm_verdict fm_row fm_official fm_aside fm_worth fm_out) U.heap ∧ va_K (dC, dI) vwCl (MT km) U)) (va_Qi (fun (r : Int32) (u : Unit) => (gi r 0 1) ∧ r = fX12_isKnown fm_struck fm_reportKnown p1 p2) (fun _ _ => True) (fun _ => False)) 0 0 (fun _ => False) := by
  refine Met.ofW (cc := cX12_isKnown) (maxL := 3) (ret := (some .boolean)) (by decide) rfl ?_
  intro p e s m args below meth c s₁ B hml hv
  obtain ⟨rfl, hP, hK⟩ := hv
  have hx := B.exec
  have hb := B.bytes
  have hr := B.returns
  have hts := atoms_spec (ws := (.code yX12_isKnown cX12_isKnown 3 (some .boolean) :: wsGB)) B.pre
  have hown : s.vm.findClass RX12 = some m.cls := findClass_of_methodNamed B.named
  have hlocks := B.notSynchronized
  have hS : va_S (fun _ => False) s.heap s.heap [] := va_S.rf
  have hl := lv_entry ([.ref h0, .int p1, .int p2]) (n := 3) (Nat.le_of_ble_eq_true rfl)
  rw [lg_entry_eq]
  generalize (lg_sl ([.ref h0, .int p1, .int p2]) ++ List.replicate (3 - (lg_sl ([.ref h0, .int p1, .int p2])).length) Slot.unset).toArray = ls at hl ⊢
  have hl : lv_has ls 3 [(0, .ref h0), (1, .int p1), (2, .int p2)] := hl
  obtain ⟨RES, hF⟩ : ∃ R9, fX12_isKnown fm_struck fm_reportKnown p1 p2 = R9 := ⟨_, rfl⟩
  have hR9 := hF
  refine lv_aload_n hx hb dX12_isKnown_0 rfl (lv_at hl 0 rfl) ?_
  refine va_get (D := (dC, dI)) (ci := 12) (v := .ref (mr 4)) (C := RX12) (T := TX12) (N := 57) hx hb hts (fun w h => List.mem_cons_of_mem _ (jnGB_X12 w h)) hown hK hP 0 rfl rfl 13 (by decide) (hts _ (List.mem_cons_of_mem _ mGB_15)) (fun _ h9 => h9) rfl dX12_isKnown_1 ?_
  refine lv_iload_n hx hb dX12_isKnown_4 rfl (lv_at hl 1 rfl) ?_
  refine va_zald hx hb hK hP 5 4 rfl rfl (gi_in gp1 (by decide)) dX12_isKnown_5 ?_
  refine lv_topi (fun x_9 ex_9 => ?_)
  have gx_9 : gi x_9 0 1 := ga_at gfm_struck (gi_in gp1 (by decide)) ex_9
  refine lv_if_ne (tgt := 23) hx hb dX12_isKnown_6 (by decide) (fun c_10 => ?_) (fun c_10 => ?_)
  · have hF := gf_neg (by rw [ex_9] at c_10; exact c_10) hF
    have g_11 : gi x_9 1 1 := gi_ne_lo c_10 gx_9 (gi_c 0 0 (by decide)) (by decide)
    refine lv_iconst (v := 0) hx hb dX12_isKnown_23 (by decide) ?_
    exact W.zret (v := 0) hx hb hr (by decide) (fun t ht hW => ⟨⟨0, (), rfl, ⟨(gi_w (gi_c 0 0 (by decide)) (by decide)), hF.trans hR9.symm⟩, trivial⟩, hS.F ht⟩) hS.2.2 dX12_isKnown_24
  · have hF := gf_pos (by rw [ex_9] at c_10; exact c_10) hF
    have g_12 : gi x_9 0 0 := gi_eq c_10 (gi_c 0 0 (by decide))
    refine lv_aload_n hx hb dX12_isKnown_9 rfl (lv_at hl 0 rfl) ?_
    refine va_get (D := (dC, dI)) (ci := 12) (v := .ref (mr 7)) (C := RX12) (T := TX12) (N := 57) hx hb hts (fun w h => List.mem_cons_of_mem _ (jnGB_X12 w h)) hown hK hP 0 rfl rfl 16 (by decide) (hts _ (List.mem_cons_of_mem _ mGB_18)) (fun _ h9 => h9) rfl dX12_isKnown_10 ?_
    refine lv_iload_n hx hb dX12_isKnown_13 rfl (lv_at hl 1 rfl) ?_
    refine va_iald hx hb hK hP 8 7 rfl rfl (gi_in gp1 (by decide)) dX12_isKnown_14 ?_
    refine lv_topi (fun x_13 ex_13 => ?_)
    have gx_13 : gi x_13 0 999 := ga_at gfm_reportKnown (gi_in gp1 (by decide)) ex_13
    refine lv_iload_n hx hb dX12_isKnown_15 rfl (lv_at hl 2 rfl) ?_
    refine lv_icmp_gt (tgt := 23) hx hb dX12_isKnown_16 (by decide) (fun c_14 => ?_) (fun c_14 => ?_)
    · have hF := gf_pos (by rw [ex_13] at c_14; exact c_14) hF
      have g_15 : gi p2 (-2147483648) 998 := gi_lt_l c_14 (gi_any p2) gx_13 (by decide)
      refine lv_iconst (v := 0) hx hb dX12_isKnown_23 (by decide) ?_
      exact W.zret (v := 0) hx hb hr (by decide) (fun t ht hW => ⟨⟨0, (), rfl, ⟨(gi_w (gi_c 0 0 (by decide)) (by decide)), hF.trans hR9.symm⟩, trivial⟩, hS.F ht⟩) hS.2.2 dX12_isKnown_24
    · have hF := gf_neg (by rw [ex_13] at c_14; exact c_14) hF
      have g_16 : gi p2 0 2147483647 := gi_le_r (Int32.not_lt.mp c_14) gx_13 (gi_any p2)
      refine lv_iconst (v := 1) hx hb dX12_isKnown_19 (by decide) ?_
      refine lv_goto (tgt := 24) hx hb dX12_isKnown_20 (by decide) ?_
      exact W.zret (v := 1) hx hb hr (by decide) (fun t ht hW => ⟨⟨1, (), rfl, ⟨(gi_w (gi_c 1 1 (by decide)) (by decide)), hF.trans hR9.symm⟩, trivial⟩, hS.F ht⟩) hS.2.2 dX12_isKnown_24
theorem dX12_blind_0 : decode cX12_blind 0 = .ok (.aload_n 0, 1) := by decide +kernel
theorem dX12_blind_1 : decode cX12_blind 1 = .ok (.iload_n 1, 1) := by decide +kernel
theorem dX12_blind_2 : decode cX12_blind 2 = .ok (.invokevirtual 359, 3) := by decide +kernel
theorem dX12_blind_5 : decode cX12_blind 5 = .ok (.ifCond .eq 19, 3) := by decide +kernel
theorem dX12_blind_8 : decode cX12_blind 8 = .ok (.iload_n 2, 1) := by decide +kernel
theorem dX12_blind_9 : decode cX12_blind 9 = .ok (.i2l, 1) := by decide +kernel
theorem dX12_blind_10 : decode cX12_blind 10 = .ok (.lconst 1, 1) := by decide +kernel
theorem dX12_blind_11 : decode cX12_blind 11 = .ok (.aload_n 0, 1) := by decide +kernel
theorem dX12_blind_12 : decode cX12_blind 12 = .ok (.getfield 117, 3) := by decide +kernel
theorem dX12_blind_15 : decode cX12_blind 15 = .ok (.iconst 1, 1) := by decide +kernel
theorem dX12_blind_16 : decode cX12_blind 16 = .ok (.isub, 1) := by decide +kernel
theorem dX12_blind_17 : decode cX12_blind 17 = .ok (.i2l, 1) := by decide +kernel
theorem dX12_blind_18 : decode cX12_blind 18 = .ok (.invokestatic 102, 3) := by decide +kernel
theorem dX12_blind_21 : decode cX12_blind 21 = .ok (.ifCond .ne 6, 3) := by decide +kernel
theorem dX12_blind_24 : decode cX12_blind 24 = .ok (.bipush (-2), 2) := by decide +kernel
theorem dX12_blind_26 : decode cX12_blind 26 = .ok (.ireturn, 1) := by decide +kernel
theorem dX12_blind_27 : decode cX12_blind 27 = .ok (.iconst 0, 1) := by decide +kernel
theorem dX12_blind_28 : decode cX12_blind 28 = .ok (.istore_n 3, 1) := by decide +kernel
theorem dX12_blind_29 : decode cX12_blind 29 = .ok (.iconst 0, 1) := by decide +kernel
theorem dX12_blind_30 : decode cX12_blind 30 = .ok (.istore 4, 2) := by decide +kernel
theorem dX12_blind_32 : decode cX12_blind 32 = .ok (.iload 4, 2) := by decide +kernel
theorem dX12_blind_34 : decode cX12_blind 34 = .ok (.aload_n 0, 1) := by decide +kernel
theorem dX12_blind_35 : decode cX12_blind 35 = .ok (.getfield 141, 3) := by decide +kernel
theorem dX12_blind_38 : decode cX12_blind 38 = .ok (.if_icmp .ge 48, 3) := by decide +kernel
theorem dX12_blind_41 : decode cX12_blind 41 = .ok (.aload_n 0, 1) := by decide +kernel
theorem dX12_blind_42 : decode cX12_blind 42 = .ok (.iload 4, 2) := by decide +kernel
theorem dX12_blind_44 : decode cX12_blind 44 = .ok (.iload_n 1, 1) := by decide +kernel
theorem dX12_blind_45 : decode cX12_blind 45 = .ok (.invokevirtual 341, 3) := by decide +kernel
theorem dX12_blind_48 : decode cX12_blind 48 = .ok (.ifCond .eq 32, 3) := by decide +kernel
theorem dX12_blind_51 : decode cX12_blind 51 = .ok (.aload_n 0, 1) := by decide +kernel
theorem dX12_blind_52 : decode cX12_blind 52 = .ok (.getfield 26, 3) := by decide +kernel
theorem dX12_blind_55 : decode cX12_blind 55 = .ok (.iload 4, 2) := by decide +kernel
theorem dX12_blind_57 : decode cX12_blind 57 = .ok (.iaload, 1) := by decide +kernel
theorem dX12_blind_58 : decode cX12_blind 58 = .ok (.iload_n 2, 1) := by decide +kernel
theorem dX12_blind_59 : decode cX12_blind 59 = .ok (.if_icmp .eq 6, 3) := by decide +kernel
theorem dX12_blind_62 : decode cX12_blind 62 = .ok (.goto 18, 3) := by decide +kernel
theorem dX12_blind_65 : decode cX12_blind 65 = .ok (.aload_n 0, 1) := by decide +kernel
theorem dX12_blind_66 : decode cX12_blind 66 = .ok (.getfield 19, 3) := by decide +kernel
theorem dX12_blind_69 : decode cX12_blind 69 = .ok (.iload 4, 2) := by decide +kernel
theorem dX12_blind_71 : decode cX12_blind 71 = .ok (.iaload, 1) := by decide +kernel
theorem dX12_blind_72 : decode cX12_blind 72 = .ok (.iconst 2, 1) := by decide +kernel
theorem dX12_blind_73 : decode cX12_blind 73 = .ok (.if_icmp .eq 5, 3) := by decide +kernel
theorem dX12_blind_76 : decode cX12_blind 76 = .ok (.iconst 0, 1) := by decide +kernel
theorem dX12_blind_77 : decode cX12_blind 77 = .ok (.ireturn, 1) := by decide +kernel
theorem dX12_blind_78 : decode cX12_blind 78 = .ok (.iconst 1, 1) := by decide +kernel
theorem dX12_blind_79 : decode cX12_blind 79 = .ok (.istore_n 3, 1) := by decide +kernel
theorem dX12_blind_80 : decode cX12_blind 80 = .ok (.iinc 4 1, 3) := by decide +kernel
theorem dX12_blind_83 : decode cX12_blind 83 = .ok (.goto (-51), 3) := by decide +kernel
theorem dX12_blind_86 : decode cX12_blind 86 = .ok (.iload_n 3, 1) := by decide +kernel
theorem dX12_blind_87 : decode cX12_blind 87 = .ok (.ifCond .eq 7, 3) := by decide +kernel
theorem dX12_blind_90 : decode cX12_blind 90 = .ok (.iconst 1, 1) := by decide +kernel
theorem dX12_blind_91 : decode cX12_blind 91 = .ok (.goto 4, 3) := by decide +kernel
theorem dX12_blind_94 : decode cX12_blind 94 = .ok (.iconst 0, 1) := by decide +kernel
theorem dX12_blind_95 : decode cX12_blind 95 = .ok (.ireturn, 1) := by decide +kernel
noncomputable def bfX12_blind_24 (mi : Nat → Int32) (fm_struck : Nat → Int32) (fm_reportKnown : Nat → Int32) (fm_reportMonth : Nat → Int32) (fm_reportKind : Nat → Int32) (p1 : Int32) (p2 : Int32) (K : (Int32 → Int32 → Int32)) : Int32 := (-2 : Int32)
noncomputable def bfX12_blind_80 (mi : Nat → Int32) (fm_struck : Nat → Int32) (fm_reportKnown : Nat → Int32) (fm_reportMonth : Nat → Int32) (fm_reportKind : Nat → Int32) (p1 : Int32) (p2 : Int32) (K : (Int32 → Int32 → Int32)) (v3 : Int32) (v4 : Int32) : Int32 := K v3 (v4 + (1 : Int32))
noncomputable def bfX12_blind_95 (mi : Nat → Int32) (fm_struck : Nat → Int32) (fm_reportKnown : Nat → Int32) (fm_reportMonth : Nat → Int32) (fm_reportKind : Nat → Int32) (p1 : Int32) (p2 : Int32) (K : (Int32 → Int32 → Int32)) (s0 : Int32) : Int32 := s0
noncomputable def dfX12_blind_32 (mi : Nat → Int32) (fm_struck : Nat → Int32) (fm_reportKnown : Nat → Int32) (fm_reportMonth : Nat → Int32) (fm_reportKind : Nat → Int32) (p1 : Int32) (p2 : Int32) (K : (Int32 → Int32 → Int32)) (v3 : Int32) (v4 : Int32) : Int32 := if (mi 10) ≤ v4 then (if v3 = (0 : Int32) then (bfX12_blind_95 mi fm_struck fm_reportKnown fm_reportMonth fm_reportKind p1 p2 K (0 : Int32)) else (bfX12_blind_95 mi fm_struck fm_reportKnown fm_reportMonth fm_reportKind p1 p2 K (1 : Int32))) else (cal (fun o3 => if o3 = (0 : Int32) then (bfX12_blind_80 mi fm_struck fm_reportKnown fm_reportMonth fm_reportKind p1 p2 K v3 v4) else (if (fm_reportMonth v4.toNatClampNeg) = p2 then (if (fm_reportKind v4.toNatClampNeg) = (2 : Int32) then (bfX12_blind_80 mi fm_struck fm_reportKnown fm_reportMonth fm_reportKind p1 p2 K (1 : Int32) v4) else (0 : Int32)) else (bfX12_blind_80 mi fm_struck fm_reportKnown fm_reportMonth fm_reportKind p1 p2 K v3 v4))) (fX12_isKnown fm_struck fm_reportKnown v4 p1))
noncomputable def lfX12_blind (mi : Nat → Int32) (fm_struck : Nat → Int32) (fm_reportKnown : Nat → Int32) (fm_reportMonth : Nat → Int32) (fm_reportKind : Nat → Int32) (p1 : Int32) (p2 : Int32) (z : Nat) : (Int32 → Int32 → Int32) := Nat.rec (motive := fun _ => (Int32 → Int32 → Int32)) (fun _ _ => (0)) (fun _ K => dfX12_blind_32 mi fm_struck fm_reportKnown fm_reportMonth fm_reportKind p1 p2 K) z
noncomputable def fX12_blind (mi : Nat → Int32) (fm_struck : Nat → Int32) (fm_reportKnown : Nat → Int32) (fm_reportMonth : Nat → Int32) (fm_reportKind : Nat → Int32) (p1 : Int32) (p2 : Int32) : Int32 := cal (fun o1 => if o1 = (0 : Int32) then (bfX12_blind_24 mi fm_struck fm_reportKnown fm_reportMonth fm_reportKind p1 p2 (lfX12_blind mi fm_struck fm_reportKnown fm_reportMonth fm_reportKind p1 p2 1000000000)) else (cal (fun o2 => if o2 = (0 : Int32) then (bfX12_blind_24 mi fm_struck fm_reportKnown fm_reportMonth fm_reportKind p1 p2 (lfX12_blind mi fm_struck fm_reportKnown fm_reportMonth fm_reportKind p1 p2 1000000000)) else ((lfX12_blind mi fm_struck fm_reportKnown fm_reportMonth fm_reportKind p1 p2 1000000000) (0 : Int32) (0 : Int32))) (fX12_in (p2.toInt64) (1 : Int64) (((mi 0) - (1 : Int32)).toInt64)))) (fX12_isTime mi p1)
set_option maxHeartbeats 4000000 in
set_option maxRecDepth 100000 in
theorem lp_sX12_blind {p : Program} {l : Launch} {e : Env} {R : Room} {s : State} {m : MethodId} {args : Array Value} {below : List Frame} {meth : Method} {c : Code} {Q : State → Prop} {A : Nat → Prop} {cells slots : Nat} {dC : Nat → ClassId} {dI : Nat → Nat → Nat} {RES : Int32} (h0 : Nat) (mi : Nat → Int32) (mr : Nat → Nat) (km : Nat → ClassId) (fm_must : Nat → Int32) (fm_least : Nat → Int32) (fm_pin : Nat → Int32) (fm_ways : Nat → Int32) (fm_verdict : Nat → Int32) (fm_row : Nat → Int32) (fm_struck : Nat → Int32) (fm_reportKnown : Nat → Int32) (fm_reportPlace : Nat → Int32) (fm_reportMonth : Nat → Int32) (fm_reportDay : Nat → Int32) (fm_reportKind : Nat → Int32) (fm_trust : Nat → Int32) (fm_letter : Nat → Int32) (fm_deedMonth : Nat → Int32) (fm_deedDay : Nat → Int32) (fm_deedLong : Nat → Int32) (fm_deedKind : Nat → Int32) (fm_kept : Nat → Int32) (fm_tape : Nat → Int32) (fm_official : Nat → Int32) (fm_aside : Nat → Int32) (fm_worth : Nat → Int32) (fm_out : Nat → Int32) (p1 : Int32) (p2 : Int32) (gmi_0 : gi (mi 0) 0 24) (gmi_1 : gi (mi 1) 0 5) (gmi_2 : gi (mi 2) 0 5) (gmi_4 : gi (mi 4) 0 1) (gmi_7 : gi (mi 7) 0 6) (gmi_10 : gi (mi 10) 0 24) (gmi_17 : gi (mi 17) 0 8) (gmi_23 : gi (mi 23) 0 300) (gmi_24 : gi (mi 24) 0 1) (gmi_26 : gi (mi 26) 0 1600) (gmi_29 : gi (mi 29) 0 1600) (gmi_30 : gi (mi 30) 0 1600) (gmi_33 : gi (mi 33) 0 1) (gmi_37 : gi (mi 37) 0 1) (gmi_41 : gi (mi 41) 0 24) (gmi_50 : gi (mi 50) 0 1) (gmi_51 : gi (mi 51) 0 1) (gmi_56 : gi (mi 56) 0 80) (gfm_row : ga fm_row 24 0 23) (gfm_struck : ga fm_struck 24 0 1) (gfm_reportKnown : ga fm_reportKnown 24 0 999) (gfm_reportPlace : ga fm_reportPlace 24 0 5) (gfm_reportMonth : ga fm_reportMonth 24 0 23) (gfm_reportDay : ga fm_reportDay 24 0 999) (hx : p.tables.exec = Jvm.exec) (hb : c.code = cX12_blind) (hml : c.maxLocals = 5) (hown : s.vm.findClass RX12 = some m.cls) (hts : ∀ w ∈ ((.code yX12_blind cX12_blind 5 (some .int) :: wsGB) : List Cond), w.before args s = true) (hK : va_K (dC, dI) vwCl (MT km) s) (hRf : 2 ≤ R.frames) (hRl : 46 ≤ R.locals) (hRc : cells ≤ R.cells) (hRs : slots ≤ R.slots) (kr26 : ∀ (v : Int32) (H : Heap) (locs : List Loc) (ls : Array Slot), gi v (-2) (-2) → v = RES → va_P (dC, dI) vwCl (MWn h0 mr km (mi 0) (mi 1) (mi 2) (mi 3) (mi 4) (mi 5) (mi 6) (mi 7) (mi 10) (mi 17) (mi 23) (mi 24) (mi 26) (mi 27) (mi 28) (mi 29) (mi 30) (mi 31) (mi 32) (mi 33) (mi 37) (mi 41) (mi 42) (mi 43) (mi 44) (mi 45) (mi 47) (mi 48) (mi 49) (mi 50) (mi 51) (mi 54) (mi 56) fm_trust fm_letter fm_reportPlace fm_reportKind fm_struck fm_reportMonth fm_reportDay fm_reportKnown fm_deedMonth fm_deedDay fm_deedLong fm_deedKind fm_kept fm_tape fm_must fm_least fm_pin fm_ways fm_verdict fm_row fm_official fm_aside fm_worth fm_out) H → va_S A s.heap H locs → lv_has ls 5 [] → W p l e R s m args below meth c H locs cells slots Q (F0 m 26 ls [.int v])) (kr95 : ∀ (v : Int32) (H : Heap) (locs : List Loc) (ls : Array Slot), gi v 0 1 → v = RES → va_P (dC, dI) vwCl (MWn h0 mr km (mi 0) (mi 1) (mi 2) (mi 3) (mi 4) (mi 5) (mi 6) (mi 7) (mi 10) (mi 17) (mi 23) (mi 24) (mi 26) (mi 27) (mi 28) (mi 29) (mi 30) (mi 31) (mi 32) (mi 33) (mi 37) (mi 41) (mi 42) (mi 43) (mi 44) (mi 45) (mi 47) (mi 48) (mi 49) (mi 50) (mi 51) (mi 54) (mi 56) fm_trust fm_letter fm_reportPlace fm_reportKind fm_struck fm_reportMonth fm_reportDay fm_reportKnown fm_deedMonth fm_deedDay fm_deedLong fm_deedKind fm_kept fm_tape fm_must fm_least fm_pin fm_ways fm_verdict fm_row fm_official fm_aside fm_worth fm_out) H → va_S A s.heap H locs → lv_has ls 5 [] → W p l e R s m args below meth c H locs cells slots Q (F0 m 95 ls [.int v])) (kr77 : ∀ (v : Int32) (H : Heap) (locs : List Loc) (ls : Array Slot), gi v 0 0 → v = RES → va_P (dC, dI) vwCl (MWn h0 mr km (mi 0) (mi 1) (mi 2) (mi 3) (mi 4) (mi 5) (mi 6) (mi 7) (mi 10) (mi 17) (mi 23) (mi 24) (mi 26) (mi 27) (mi 28) (mi 29) (mi 30) (mi 31) (mi 32) (mi 33) (mi 37) (mi 41) (mi 42) (mi 43) (mi 44) (mi 45) (mi 47) (mi 48) (mi 49) (mi 50) (mi 51) (mi 54) (mi 56) fm_trust fm_letter fm_reportPlace fm_reportKind fm_struck fm_reportMonth fm_reportDay fm_reportKnown fm_deedMonth fm_deedDay fm_deedLong fm_deedKind fm_kept fm_tape fm_must fm_least fm_pin fm_ways fm_verdict fm_row fm_official fm_aside fm_worth fm_out) H → va_S A s.heap H locs → lv_has ls 5 [] → W p l e R s m args below meth c H locs cells slots Q (F0 m 77 ls [.int v])) : ∀ z : Nat, (∀ (v3 : Int32) (v4 : Int32) (H : Heap) (locs : List Loc) (ls : Array Slot), gi p1 0 999 → gi p2 1 23 → gi v3 0 1 → gi v4 0 24 → (lfX12_blind mi fm_struck fm_reportKnown fm_reportMonth fm_reportKind p1 p2 z) v3 v4 = RES → 49 + (-2) * v4.toInt < (z : Int) → va_P (dC, dI) vwCl (MWn h0 mr km (mi 0) (mi 1) (mi 2) (mi 3) (mi 4) (mi 5) (mi 6) (mi 7) (mi 10) (mi 17) (mi 23) (mi 24) (mi 26) (mi 27) (mi 28) (mi 29) (mi 30) (mi 31) (mi 32) (mi 33) (mi 37) (mi 41) (mi 42) (mi 43) (mi 44) (mi 45) (mi 47) (mi 48) (mi 49) (mi 50) (mi 51) (mi 54) (mi 56) fm_trust fm_letter fm_reportPlace fm_reportKind fm_struck fm_reportMonth fm_reportDay fm_reportKnown fm_deedMonth fm_deedDay fm_deedLong fm_deedKind fm_kept fm_tape fm_must fm_least fm_pin fm_ways fm_verdict fm_row fm_official fm_aside fm_worth fm_out) H → va_S A s.heap H locs → lv_has ls 5 [(0, .ref h0), (1, .int p1), (2, .int p2), (3, .int v3), (4, .int v4)] → W p l e R s m args below meth c H locs cells slots Q (F0 m 32 ls [])) := by
  intro z
  induction z with
  | zero =>
    intro v3 v4 H locs ls gf_p1 gf_p2 gv3 gv4 hF hmu hP hS hl
    exact absurd hmu (by have hv41 := gv4.1; have hv42 := gv4.2; omega)
  | succ z ih =>
      intro v3 v4 H locs ls gf_p1 gf_p2 gv3 gv4 hF hmu hP hS hl
      have hF : dfX12_blind_32 mi fm_struck fm_reportKnown fm_reportMonth fm_reportKind p1 p2 (lfX12_blind mi fm_struck fm_reportKnown fm_reportMonth fm_reportKind p1 p2 z) v3 v4 = RES := hF
      refine lv_iload hx hb dX12_blind_32 (lv_at hl 4 rfl) ?_
      refine lv_aload_n hx hb dX12_blind_34 rfl (lv_at hl 0 rfl) ?_
      refine va_get (D := (dC, dI)) (ci := 12) (v := .int (mi 10)) (C := RX12) (T := TX12) (N := 57) hx hb hts (fun w h => List.mem_cons_of_mem _ (jnGB_X12 w h)) hown hK hP 0 rfl rfl 10 (by decide) (hts _ (List.mem_cons_of_mem _ mGB_111)) (fun _ h9 => h9) rfl dX12_blind_35 ?_
      refine lv_icmp_ge (tgt := 86) hx hb dX12_blind_38 (by decide) (fun c_479 => ?_) (fun c_479 => ?_)
      · have hF := gf_pos c_479 hF
        refine lv_iload_n hx hb dX12_blind_86 rfl (lv_at hl 3 rfl) ?_
        refine lv_if_eq (tgt := 94) hx hb dX12_blind_87 (by decide) (fun c_480 => ?_) (fun c_480 => ?_)
        · have hF := gf_pos c_480 hF
          have g_481 : gi v3 0 0 := gi_eq c_480 (gi_c 0 0 (by decide))
          refine lv_iconst (v := 0) hx hb dX12_blind_94 (by decide) ?_
          exact kr95 0 _ _ _ (gi_w (gi_c 0 0 (by decide)) (by decide)) hF hP hS (lv_sub hl [] rfl)
        · have hF := gf_neg c_480 hF
          have g_482 : gi v3 1 1 := gi_ne_lo c_480 gv3 (gi_c 0 0 (by decide)) (by decide)
          refine lv_iconst (v := 1) hx hb dX12_blind_90 (by decide) ?_
          refine lv_goto (tgt := 95) hx hb dX12_blind_91 (by decide) ?_
          exact kr95 1 _ _ _ (gi_w (gi_c 1 1 (by decide)) (by decide)) hF hP hS (lv_sub hl [] rfl)
      · have hF := gf_neg c_479 hF
        have g_483 : gi v4 0 23 := gi_lt_l (Int32.not_le.mp c_479) gv4 gmi_10 (by decide)
        have g_484 : gi (mi 10) 1 24 := gi_lt_r (Int32.not_le.mp c_479) gv4 gmi_10 (by decide)
        refine lv_aload_n hx hb dX12_blind_41 rfl (lv_at hl 0 rfl) ?_
        refine lv_iload hx hb dX12_blind_42 (lv_at hl 4 rfl) ?_
        refine lv_iload_n hx hb dX12_blind_44 rfl (lv_at hl 1 rfl) ?_
        refine va_calli (va_runV (As := [.int v4, .int p1]) (rest := []) ⟨hx, hb, hml, hown, hts⟩ (sX12_isKnown l dC dI h0 mi mr km fm_struck fm_reportKnown fm_trust fm_letter fm_reportPlace fm_reportKind fm_reportMonth fm_reportDay fm_deedMonth fm_deedDay fm_deedLong fm_deedKind fm_kept fm_tape fm_must fm_least fm_pin fm_ways fm_verdict fm_row fm_official fm_aside fm_worth fm_out v4 p1 gmi_0 gmi_1 gmi_2 gmi_4 gmi_7 (gi_w g_484 (by decide)) gmi_17 gmi_23 gmi_24 gmi_26 gmi_29 gmi_30 gmi_33 gmi_37 gmi_41 gmi_50 gmi_51 gmi_56 gfm_struck gfm_reportKnown g_483) (cwV 2 hts (gz_gV mGB_279 mGB_280 mGB_281 mGB_1 mGB_282 goodGB) rfl rfl rfl (by decide +kernel) ⟨Nat.le_trans (Nat.le_of_ble_eq_true rfl) hRf, Nat.le_trans (Nat.le_of_ble_eq_true rfl) hRl⟩) ⟨bl_R, mw_recv hK hP, fun U hU hW => ⟨rfl, by rw [hU]; exact hP, va_K.moved hW.alike hK⟩⟩ rfl rfl hl.1 rfl (lv_room (Nat.le_of_ble_eq_true rfl)) dX12_blind_45 ⟨hRc, hRs⟩) hS (fun q _ h => h.elim) (fun q h => h.elim) (fun r_485 u t H1 locs ht hvm hw hB hz1 hk1 hS => ?_)
        obtain ⟨hw, hE⟩ := hw
        have hP := gz_keep hP hk1
        have hF := gf_call (a := r_485) hE hF
        generalize H1 = H at hP hS ⊢
        have gr_485 : gi r_485 0 1 := hw
        refine lv_if_eq (tgt := 80) hx hb dX12_blind_48 (by decide) (fun c_486 => ?_) (fun c_486 => ?_)
        · have hF := gf_pos c_486 hF
          have g_487 : gi r_485 0 0 := gi_eq c_486 (gi_c 0 0 (by decide))
          obtain ⟨x_488, ex_488⟩ : ∃ y : Int32, y = v4 + 1 := ⟨_, rfl⟩
          have gx_488 : gi x_488 1 24 := gi_add ex_488 g_483 (gi_c 1 1 (by decide)) (by decide)
          refine lv_iinc (v := x_488) (lv' := [(4, .int x_488), (0, .ref h0), (1, .int p1), (2, .int p2), (3, .int v3)]) hx hb dX12_blind_80 hl (k := 4) rfl (by rw [ex_488]; rfl) (by decide) rfl (fun ls hl => ?_)
          refine lv_goto (tgt := 32) hx hb dX12_blind_83 (by decide) ?_
          exact ih v3 x_488 _ _ _ gf_p1 gf_p2 gv3 (gi_w gx_488 (by decide)) (by rw [ex_488]; exact hF) (by have av4 := gv4.1; have bv4 := gv4.2; have qgx_488 := gx_488.1; have rgx_488 := gx_488.2; have igx_488 : x_488.toInt = v4.toInt + 1 := (by have hc1 : (1 : Int32).toInt = 1 := (by decide); have h9 := gi_addI ex_488 (by have h1 := g_483.1; have h2 := (gi_c 1 1 (by decide)).1; have h3 := g_483.2; have h4 := (gi_c 1 1 (by decide)).2; omega) (by have h1 := g_483.1; have h2 := (gi_c 1 1 (by decide)).1; have h3 := g_483.2; have h4 := (gi_c 1 1 (by decide)).2; omega); rw [hc1] at h9; exact h9); have qgv4 := g_483.1; have rgv4 := g_483.2; omega) hP hS (lv_sub hl [1, 2, 3, 4, 0] rfl)
        · have hF := gf_neg c_486 hF
          have g_489 : gi r_485 1 1 := gi_ne_lo c_486 gr_485 (gi_c 0 0 (by decide)) (by decide)
          refine lv_aload_n hx hb dX12_blind_51 rfl (lv_at hl 0 rfl) ?_
          refine va_get (D := (dC, dI)) (ci := 12) (v := .ref (mr 5)) (C := RX12) (T := TX12) (N := 57) hx hb hts (fun w h => List.mem_cons_of_mem _ (jnGB_X12 w h)) hown hK hP 0 rfl rfl 14 (by decide) (hts _ (List.mem_cons_of_mem _ mGB_16)) (fun _ h9 => h9) rfl dX12_blind_52 ?_
          refine lv_iload hx hb dX12_blind_55 (lv_at hl 4 rfl) ?_
          refine va_iald hx hb hK hP 6 5 rfl rfl (gi_in g_483 (by decide)) dX12_blind_57 ?_
          refine lv_topi (fun x_490 ex_490 => ?_)
          have gx_490 : gi x_490 0 23 := ga_at gfm_reportMonth (gi_in g_483 (by decide)) ex_490
          refine lv_iload_n hx hb dX12_blind_58 rfl (lv_at hl 2 rfl) ?_
          refine lv_icmp_eq (tgt := 65) hx hb dX12_blind_59 (by decide) (fun c_491 => ?_) (fun c_491 => ?_)
          · have hF := gf_pos (by rw [ex_490] at c_491; exact c_491) hF
            have g_492 : gi x_490 1 23 := gi_eq c_491 gf_p2
            refine lv_aload_n hx hb dX12_blind_65 rfl (lv_at hl 0 rfl) ?_
            refine va_get (D := (dC, dI)) (ci := 12) (v := .ref (mr 3)) (C := RX12) (T := TX12) (N := 57) hx hb hts (fun w h => List.mem_cons_of_mem _ (jnGB_X12 w h)) hown hK hP 0 rfl rfl 12 (by decide) (hts _ (List.mem_cons_of_mem _ mGB_13)) (fun _ h9 => h9) rfl dX12_blind_66 ?_
            refine lv_iload hx hb dX12_blind_69 (lv_at hl 4 rfl) ?_
            refine va_iald hx hb hK hP 4 3 rfl rfl (gi_in g_483 (by decide)) dX12_blind_71 ?_
            refine lv_topi (fun x_493 ex_493 => ?_)
            refine lv_iconst (v := 2) hx hb dX12_blind_72 (by decide) ?_
            refine lv_icmp_eq (tgt := 78) hx hb dX12_blind_73 (by decide) (fun c_494 => ?_) (fun c_494 => ?_)
            · have hF := gf_pos (by rw [ex_493] at c_494; exact c_494) hF
              have g_495 : gi x_493 2 2 := gi_eq c_494 (gi_c 2 2 (by decide))
              refine lv_iconst (v := 1) hx hb dX12_blind_78 (by decide) ?_
              refine lv_istore_n (lv' := [(3, .int 1), (0, .ref h0), (1, .int p1), (2, .int p2), (4, .int v4)]) hx hb dX12_blind_79 rfl hl (by decide) rfl (fun ls hl => ?_)
              obtain ⟨x_496, ex_496⟩ : ∃ y : Int32, y = v4 + 1 := ⟨_, rfl⟩
              have gx_496 : gi x_496 1 24 := gi_add ex_496 g_483 (gi_c 1 1 (by decide)) (by decide)
              refine lv_iinc (v := x_496) (lv' := [(4, .int x_496), (3, .int 1), (0, .ref h0), (1, .int p1), (2, .int p2)]) hx hb dX12_blind_80 hl (k := 4) rfl (by rw [ex_496]; rfl) (by decide) rfl (fun ls hl => ?_)
              refine lv_goto (tgt := 32) hx hb dX12_blind_83 (by decide) ?_
              exact ih 1 x_496 _ _ _ gf_p1 gf_p2 (gi_w (gi_c 1 1 (by decide)) (by decide)) (gi_w gx_496 (by decide)) (by rw [ex_496]; exact hF) (by have av4 := gv4.1; have bv4 := gv4.2; have qgx_496 := gx_496.1; have rgx_496 := gx_496.2; have igx_496 : x_496.toInt = v4.toInt + 1 := (by have hc1 : (1 : Int32).toInt = 1 := (by decide); have h9 := gi_addI ex_496 (by have h1 := g_483.1; have h2 := (gi_c 1 1 (by decide)).1; have h3 := g_483.2; have h4 := (gi_c 1 1 (by decide)).2; omega) (by have h1 := g_483.1; have h2 := (gi_c 1 1 (by decide)).1; have h3 := g_483.2; have h4 := (gi_c 1 1 (by decide)).2; omega); rw [hc1] at h9; exact h9); have qgv4 := g_483.1; have rgv4 := g_483.2; omega) hP hS (lv_sub hl [2, 3, 4, 1, 0] rfl)
            · have hF := gf_neg (by rw [ex_493] at c_494; exact c_494) hF
              refine lv_iconst (v := 0) hx hb dX12_blind_76 (by decide) ?_
              exact kr77 0 _ _ _ (gi_c 0 0 (by decide)) hF hP hS (lv_sub hl [] rfl)
          · have hF := gf_neg (by rw [ex_490] at c_491; exact c_491) hF
            refine lv_goto (tgt := 80) hx hb dX12_blind_62 (by decide) ?_
            obtain ⟨x_497, ex_497⟩ : ∃ y : Int32, y = v4 + 1 := ⟨_, rfl⟩
            have gx_497 : gi x_497 1 24 := gi_add ex_497 g_483 (gi_c 1 1 (by decide)) (by decide)
            refine lv_iinc (v := x_497) (lv' := [(4, .int x_497), (0, .ref h0), (1, .int p1), (2, .int p2), (3, .int v3)]) hx hb dX12_blind_80 hl (k := 4) rfl (by rw [ex_497]; rfl) (by decide) rfl (fun ls hl => ?_)
            refine lv_goto (tgt := 32) hx hb dX12_blind_83 (by decide) ?_
            exact ih v3 x_497 _ _ _ gf_p1 gf_p2 gv3 (gi_w gx_497 (by decide)) (by rw [ex_497]; exact hF) (by have av4 := gv4.1; have bv4 := gv4.2; have qgx_497 := gx_497.1; have rgx_497 := gx_497.2; have igx_497 : x_497.toInt = v4.toInt + 1 := (by have hc1 : (1 : Int32).toInt = 1 := (by decide); have h9 := gi_addI ex_497 (by have h1 := g_483.1; have h2 := (gi_c 1 1 (by decide)).1; have h3 := g_483.2; have h4 := (gi_c 1 1 (by decide)).2; omega) (by have h1 := g_483.1; have h2 := (gi_c 1 1 (by decide)).1; have h3 := g_483.2; have h4 := (gi_c 1 1 (by decide)).2; omega); rw [hc1] at h9; exact h9); have qgv4 := g_483.1; have rgv4 := g_483.2; omega) hP hS (lv_sub hl [1, 2, 3, 4, 0] rfl)
set_option maxHeartbeats 4000000 in
set_option maxRecDepth 100000 in
theorem sX12_blind (l : Launch) (dC : Nat → ClassId) (dI : Nat → Nat → Nat) (h0 : Nat) (mi : Nat → Int32) (mr : Nat → Nat) (km : Nat → ClassId) (fm_must : Nat → Int32) (fm_least : Nat → Int32) (fm_pin : Nat → Int32) (fm_ways : Nat → Int32) (fm_verdict : Nat → Int32) (fm_row : Nat → Int32) (fm_struck : Nat → Int32) (fm_reportKnown : Nat → Int32) (fm_reportPlace : Nat → Int32) (fm_reportMonth : Nat → Int32) (fm_reportDay : Nat → Int32) (fm_reportKind : Nat → Int32) (fm_trust : Nat → Int32) (fm_letter : Nat → Int32) (fm_deedMonth : Nat → Int32) (fm_deedDay : Nat → Int32) (fm_deedLong : Nat → Int32) (fm_deedKind : Nat → Int32) (fm_kept : Nat → Int32) (fm_tape : Nat → Int32) (fm_official : Nat → Int32) (fm_aside : Nat → Int32) (fm_worth : Nat → Int32) (fm_out : Nat → Int32) (p1 : Int32) (p2 : Int32) (gmi_0 : gi (mi 0) 0 24) (gmi_1 : gi (mi 1) 0 5) (gmi_2 : gi (mi 2) 0 5) (gmi_4 : gi (mi 4) 0 1) (gmi_7 : gi (mi 7) 0 6) (gmi_10 : gi (mi 10) 0 24) (gmi_17 : gi (mi 17) 0 8) (gmi_23 : gi (mi 23) 0 300) (gmi_24 : gi (mi 24) 0 1) (gmi_26 : gi (mi 26) 0 1600) (gmi_29 : gi (mi 29) 0 1600) (gmi_30 : gi (mi 30) 0 1600) (gmi_33 : gi (mi 33) 0 1) (gmi_37 : gi (mi 37) 0 1) (gmi_41 : gi (mi 41) 0 24) (gmi_50 : gi (mi 50) 0 1) (gmi_51 : gi (mi 51) 0 1) (gmi_56 : gi (mi 56) 0 80) (gfm_row : ga fm_row 24 0 23) (gfm_struck : ga fm_struck 24 0 1) (gfm_reportKnown : ga fm_reportKnown 24 0 999) (gfm_reportPlace : ga fm_reportPlace 24 0 5) (gfm_reportMonth : ga fm_reportMonth 24 0 23) (gfm_reportDay : ga fm_reportDay 24 0 999) : Met l yX12_blind (.code yX12_blind cX12_blind 5 (some .int) :: wsGB) ({ frames := 2, cells := 0, slots := 0, locals := 46 }) (va_Pc [.ref h0, .int p1, .int p2] (fun U => va_P (dC, dI) vwCl (MWn h0 mr km (mi 0) (mi 1) (mi 2) (mi 3) (mi 4) (mi 5) (mi 6) (mi 7) (mi 10) (mi 17) (mi 23) (mi 24) (mi 26) (mi 27) (mi 28) (mi 29) (mi 30) (mi 31) (mi 32) (mi 33) (mi 37) (mi 41) (mi 42) (mi 43) (mi 44) (mi 45) (mi 47) (mi 48) (mi 49) (mi 50) (mi 51) (mi 54) (mi 56) fm_trust fm_letter fm_reportPlace fm_reportKind fm_struck fm_reportMonth fm_reportDay fm_reportKnown fm_deedMonth fm_deedDay fm_deedLong fm_deedKind fm_kept fm_tape fm_must fm_least fm_pin fm_ways fm_verdict fm_row fm_official fm_aside fm_worth fm_out) U.heap ∧ va_K (dC, dI) vwCl (MT km) U)) (va_Qi (fun (r : Int32) (u : Unit) => (gi r (-2) 1) ∧ r = fX12_blind mi fm_struck fm_reportKnown fm_reportMonth fm_reportKind p1 p2) (fun _ _ => True) (fun _ => False)) 0 0 (fun _ => False) := by
  refine Met.ofW (cc := cX12_blind) (maxL := 5) (ret := (some .int)) (by decide) rfl ?_
  intro p e s m args below meth c s₁ B hml hv
  obtain ⟨rfl, hP, hK⟩ := hv
  have hx := B.exec
  have hb := B.bytes
  have hr := B.returns
  have hts := atoms_spec (ws := (.code yX12_blind cX12_blind 5 (some .int) :: wsGB)) B.pre
  have hown : s.vm.findClass RX12 = some m.cls := findClass_of_methodNamed B.named
  have hlocks := B.notSynchronized
  have hS : va_S (fun _ => False) s.heap s.heap [] := va_S.rf
  have hl := lv_entry ([.ref h0, .int p1, .int p2]) (n := 5) (Nat.le_of_ble_eq_true rfl)
  rw [lg_entry_eq]
  generalize (lg_sl ([.ref h0, .int p1, .int p2]) ++ List.replicate (5 - (lg_sl ([.ref h0, .int p1, .int p2])).length) Slot.unset).toArray = ls at hl ⊢
  have hl : lv_has ls 5 [(0, .ref h0), (1, .int p1), (2, .int p2)] := hl
  obtain ⟨RES, hF⟩ : ∃ R9, fX12_blind mi fm_struck fm_reportKnown fm_reportMonth fm_reportKind p1 p2 = R9 := ⟨_, rfl⟩
  have hR9 := hF
  refine lv_aload_n hx hb dX12_blind_0 rfl (lv_at hl 0 rfl) ?_
  refine lv_iload_n hx hb dX12_blind_1 rfl (lv_at hl 1 rfl) ?_
  refine va_calli (va_runV (As := [.int p1]) (rest := []) ⟨hx, hb, hml, hown, hts⟩ (sX12_isTime l dC dI h0 mi mr km fm_trust fm_letter fm_reportPlace fm_reportKind fm_struck fm_reportMonth fm_reportDay fm_reportKnown fm_deedMonth fm_deedDay fm_deedLong fm_deedKind fm_kept fm_tape fm_must fm_least fm_pin fm_ways fm_verdict fm_row fm_official fm_aside fm_worth fm_out p1 gmi_0 gmi_1 gmi_2 gmi_4 gmi_7 gmi_10 gmi_17 gmi_23 gmi_24 gmi_26 gmi_29 gmi_30 gmi_33 gmi_37 gmi_41 gmi_50 gmi_51 gmi_56) (cwV 1 hts (gz_gV mGB_256 mGB_257 mGB_258 mGB_1 mGB_259 goodGB) rfl rfl rfl (by decide +kernel) ⟨Nat.le_of_ble_eq_true rfl, Nat.le_of_ble_eq_true rfl⟩) ⟨bl_R, mw_recv hK hP, fun U hU hW => ⟨rfl, by rw [hU]; exact hP, va_K.moved hW.alike hK⟩⟩ rfl rfl hl.1 rfl (lv_room (Nat.le_of_ble_eq_true rfl)) dX12_blind_2 ⟨Nat.zero_le _, Nat.zero_le _⟩) hS (fun q _ h => h.elim) (fun q h => h.elim) (fun r_498 u t H1 locs ht hvm hw hB hz1 hk1 hS => ?_)
  obtain ⟨hw, hE⟩ := hw
  have hP := gz_keep hP hk1
  have hF := gf_callm (a := r_498) hE hF (by first | with_reducible rfl | simp only [upd_same, upd_app, ↓reduceIte, Nat.reduceEqDiff])
  generalize H1 = H at hP hS ⊢
  have gr_498 : gi r_498 0 1 := hw.1
  have hqr_498 := hw.2
  refine lv_if_eq (tgt := 24) hx hb dX12_blind_5 (by decide) (fun c_499 => ?_) (fun c_499 => ?_)
  · have hF := gf_pos c_499 hF
    have g_500 : gi r_498 0 0 := gi_eq c_499 (gi_c 0 0 (by decide))
    refine lv_bipush (v := (-2)) hx hb dX12_blind_24 (by decide) ?_
    exact W.iret (v := (-2)) hx hb hr (fun t ht hW => ⟨⟨(-2), (), rfl, ⟨(gi_w (gi_c (-2) (-2) (by decide)) (by decide)), hF.trans hR9.symm⟩, trivial⟩, hS.F ht⟩) hS.2.2 dX12_blind_26
  · have hF := gf_neg c_499 hF
    have g_501 : gi r_498 1 1 := gi_ne_lo c_499 gr_498 (gi_c 0 0 (by decide)) (by decide)
    have g_502 : gi p1 0 999 := gi_cap (gi_any p1) (hqr_498 (gz_one g_501)) (by decide)
    refine lv_iload_n hx hb dX12_blind_8 rfl (lv_at hl 2 rfl) ?_
    refine lv_i2l (v := (p2).toInt64) hx hb dX12_blind_9 rfl ?_
    refine lv_topl (fun l_503 el_503 => ?_)
    refine lv_lconst (v := 1) hx hb dX12_blind_10 (by decide) ?_
    refine lv_aload_n hx hb dX12_blind_11 rfl (lv_at hl 0 rfl) ?_
    refine va_get (D := (dC, dI)) (ci := 12) (v := .int (mi 0)) (C := RX12) (T := TX12) (N := 57) hx hb hts (fun w h => List.mem_cons_of_mem _ (jnGB_X12 w h)) hown hK hP 0 rfl rfl 0 (by decide) (hts _ (List.mem_cons_of_mem _ mGB_103)) (fun _ h9 => h9) rfl dX12_blind_12 ?_
    refine lv_iconst (v := 1) hx hb dX12_blind_15 (by decide) ?_
    refine lv_isub hx hb dX12_blind_16 ?_
    refine lv_topi (fun x_504 ex_504 => ?_)
    have gx_504 : gi x_504 (-1) 23 := gi_sub ex_504 gmi_0 (gi_c 1 1 (by decide)) (by decide)
    refine lv_i2l (v := (x_504).toInt64) hx hb dX12_blind_17 rfl ?_
    refine lv_topl (fun l_505 el_505 => ?_)
    have hPc := hP.sub (ws' := []) [] rfl
    have hKc := hK.sub (tys' := []) [] rfl
    refine va_calli (va_runS (As := [.long l_503, .long 1, .long l_505]) (rest := []) ⟨hx, hb, hml, hown, hts⟩ (sX12_in l dC dI l_503 1 l_505) (cwS 3 hts (gz_gS mGB_47 mGB_48 mGB_1 mGB_49 goodGB) rfl rfl rfl (by decide +kernel) ⟨Nat.le_of_ble_eq_true rfl, Nat.le_of_ble_eq_true rfl⟩) ⟨bl_R, fun U hU hW => ⟨rfl, by rw [hU]; exact hPc, va_K.moved hW.alike hKc⟩⟩ rfl rfl hl.1 rfl (lv_room (Nat.le_of_ble_eq_true rfl)) dX12_blind_18 ⟨Nat.zero_le _, Nat.zero_le _⟩) hS (fun q _ h => h.elim) (fun q h => h.elim) (fun r_506 u t H1 locs ht hvm hw hB hz1 hk1 hS => ?_)
    obtain ⟨hw, hE⟩ := hw
    have hP := gz_keep hP hk1
    have hF := gf_call (a := r_506) (by rw [el_505, ex_504, el_503] at hE; exact hE) hF
    generalize H1 = H at hP hS ⊢
    have gr_506 : gi r_506 0 1 := hw.1
    have hqr_506 := hw.2
    refine lv_if_ne (tgt := 27) hx hb dX12_blind_21 (by decide) (fun c_507 => ?_) (fun c_507 => ?_)
    · have hF := gf_neg c_507 hF
      have g_508 : gi r_506 1 1 := gi_ne_lo c_507 gr_506 (gi_c 0 0 (by decide)) (by decide)
      have g_509 : gi p2 1 23 := gi_cap (gi_any p2) (gz_inr (hqr_506.1 (gz_one g_508)) el_503 (A := 1) (B := 23) (by decide) (gz_l2u el_505 gx_504)) (by decide)
      refine lv_iconst (v := 0) hx hb dX12_blind_27 (by decide) ?_
      refine lv_istore_n (lv' := [(3, .int 0), (0, .ref h0), (1, .int p1), (2, .int p2)]) hx hb dX12_blind_28 rfl hl (by decide) rfl (fun ls hl => ?_)
      refine lv_iconst (v := 0) hx hb dX12_blind_29 (by decide) ?_
      refine lv_istore (lv' := [(4, .int 0), (3, .int 0), (0, .ref h0), (1, .int p1), (2, .int p2)]) hx hb dX12_blind_30 hl (by decide) rfl (fun ls hl => ?_)
      refine (lp_sX12_blind h0 mi mr km fm_must fm_least fm_pin fm_ways fm_verdict fm_row fm_struck fm_reportKnown fm_reportPlace fm_reportMonth fm_reportDay fm_reportKind fm_trust fm_letter fm_deedMonth fm_deedDay fm_deedLong fm_deedKind fm_kept fm_tape fm_official fm_aside fm_worth fm_out p1 p2 gmi_0 gmi_1 gmi_2 gmi_4 gmi_7 gmi_10 gmi_17 gmi_23 gmi_24 gmi_26 gmi_29 gmi_30 gmi_33 gmi_37 gmi_41 gmi_50 gmi_51 gmi_56 gfm_row gfm_struck gfm_reportKnown gfm_reportPlace gfm_reportMonth gfm_reportDay hx hb hml hown hts hK (Nat.le_of_ble_eq_true rfl) (Nat.le_of_ble_eq_true rfl) (Nat.zero_le _) (Nat.zero_le _) (fun v H locs ls gv hF hP hS hl => ?_) (fun v H locs ls gv hF hP hS hl => ?_) (fun v H locs ls gv hF hP hS hl => ?_) 1000000000) 0 0 _ _ _ g_502 g_509 (gi_w (gi_c 0 0 (by decide)) (by decide)) (gi_w (gi_c 0 0 (by decide)) (by decide)) hF (by have k0 : (0 : Int32).toInt = 0 := (by decide); omega) hP hS (lv_sub hl [2, 3, 4, 1, 0] rfl)
      · skip
        exact W.iret (v := v) hx hb hr (fun t ht hW => ⟨⟨v, (), rfl, ⟨(gi_w gv (by decide)), hF.trans hR9.symm⟩, trivial⟩, hS.F ht⟩) hS.2.2 dX12_blind_26
      · skip
        exact W.iret (v := v) hx hb hr (fun t ht hW => ⟨⟨v, (), rfl, ⟨(gi_w gv (by decide)), hF.trans hR9.symm⟩, trivial⟩, hS.F ht⟩) hS.2.2 dX12_blind_95
      · skip
        exact W.iret (v := v) hx hb hr (fun t ht hW => ⟨⟨v, (), rfl, ⟨(gi_w gv (by decide)), hF.trans hR9.symm⟩, trivial⟩, hS.F ht⟩) hS.2.2 dX12_blind_77
    · have hF := gf_pos c_507 hF
      have g_510 : gi r_506 0 0 := gi_eq c_507 (gi_c 0 0 (by decide))
      refine lv_bipush (v := (-2)) hx hb dX12_blind_24 (by decide) ?_
      exact W.iret (v := (-2)) hx hb hr (fun t ht hW => ⟨⟨(-2), (), rfl, ⟨(gi_w (gi_c (-2) (-2) (by decide)) (by decide)), hF.trans hR9.symm⟩, trivial⟩, hS.F ht⟩) hS.2.2 dX12_blind_26
theorem dX12_report_0 : decode cX12_report 0 = .ok (.aload_n 0, 1) := by decide +kernel
theorem dX12_report_1 : decode cX12_report 1 = .ok (.iload_n 1, 1) := by decide +kernel
theorem dX12_report_2 : decode cX12_report 2 = .ok (.invokevirtual 303, 3) := by decide +kernel
theorem dX12_report_5 : decode cX12_report 5 = .ok (.ifCond .ne 6, 3) := by decide +kernel
theorem dX12_report_8 : decode cX12_report 8 = .ok (.bipush (-2), 2) := by decide +kernel
theorem dX12_report_10 : decode cX12_report 10 = .ok (.ireturn, 1) := by decide +kernel
theorem dX12_report_11 : decode cX12_report 11 = .ok (.iload_n 2, 1) := by decide +kernel
theorem dX12_report_12 : decode cX12_report 12 = .ok (.tableswitch 84 0 4 #[36, 43, 63, 70, 77], 36) := by decide +kernel
theorem dX12_report_48 : decode cX12_report 48 = .ok (.aload_n 0, 1) := by decide +kernel
theorem dX12_report_49 : decode cX12_report 49 = .ok (.getfield 16, 3) := by decide +kernel
theorem dX12_report_52 : decode cX12_report 52 = .ok (.iload_n 1, 1) := by decide +kernel
theorem dX12_report_53 : decode cX12_report 53 = .ok (.iaload, 1) := by decide +kernel
theorem dX12_report_54 : decode cX12_report 54 = .ok (.ireturn, 1) := by decide +kernel
theorem dX12_report_55 : decode cX12_report 55 = .ok (.aload_n 0, 1) := by decide +kernel
theorem dX12_report_56 : decode cX12_report 56 = .ok (.getfield 22, 3) := by decide +kernel
theorem dX12_report_59 : decode cX12_report 59 = .ok (.iload_n 1, 1) := by decide +kernel
theorem dX12_report_60 : decode cX12_report 60 = .ok (.baload, 1) := by decide +kernel
theorem dX12_report_61 : decode cX12_report 61 = .ok (.ifCond .eq 7, 3) := by decide +kernel
theorem dX12_report_64 : decode cX12_report 64 = .ok (.iconst 3, 1) := by decide +kernel
theorem dX12_report_65 : decode cX12_report 65 = .ok (.goto 9, 3) := by decide +kernel
theorem dX12_report_68 : decode cX12_report 68 = .ok (.aload_n 0, 1) := by decide +kernel
theorem dX12_report_69 : decode cX12_report 69 = .ok (.getfield 19, 3) := by decide +kernel
theorem dX12_report_72 : decode cX12_report 72 = .ok (.iload_n 1, 1) := by decide +kernel
theorem dX12_report_73 : decode cX12_report 73 = .ok (.iaload, 1) := by decide +kernel
theorem dX12_report_74 : decode cX12_report 74 = .ok (.ireturn, 1) := by decide +kernel
theorem dX12_report_75 : decode cX12_report 75 = .ok (.aload_n 0, 1) := by decide +kernel
theorem dX12_report_76 : decode cX12_report 76 = .ok (.getfield 26, 3) := by decide +kernel
theorem dX12_report_79 : decode cX12_report 79 = .ok (.iload_n 1, 1) := by decide +kernel
theorem dX12_report_80 : decode cX12_report 80 = .ok (.iaload, 1) := by decide +kernel
theorem dX12_report_81 : decode cX12_report 81 = .ok (.ireturn, 1) := by decide +kernel
theorem dX12_report_82 : decode cX12_report 82 = .ok (.aload_n 0, 1) := by decide +kernel
theorem dX12_report_83 : decode cX12_report 83 = .ok (.getfield 29, 3) := by decide +kernel
theorem dX12_report_86 : decode cX12_report 86 = .ok (.iload_n 1, 1) := by decide +kernel
theorem dX12_report_87 : decode cX12_report 87 = .ok (.iaload, 1) := by decide +kernel
theorem dX12_report_88 : decode cX12_report 88 = .ok (.ireturn, 1) := by decide +kernel
theorem dX12_report_89 : decode cX12_report 89 = .ok (.aload_n 0, 1) := by decide +kernel
theorem dX12_report_90 : decode cX12_report 90 = .ok (.getfield 32, 3) := by decide +kernel
theorem dX12_report_93 : decode cX12_report 93 = .ok (.iload_n 1, 1) := by decide +kernel
theorem dX12_report_94 : decode cX12_report 94 = .ok (.iaload, 1) := by decide +kernel
theorem dX12_report_95 : decode cX12_report 95 = .ok (.ireturn, 1) := by decide +kernel
theorem dX12_report_96 : decode cX12_report 96 = .ok (.bipush (-2), 2) := by decide +kernel
theorem dX12_report_98 : decode cX12_report 98 = .ok (.ireturn, 1) := by decide +kernel
noncomputable def bfX12_report_74 (mi : Nat → Int32) (fm_struck : Nat → Int32) (fm_reportKnown : Nat → Int32) (fm_reportPlace : Nat → Int32) (fm_reportMonth : Nat → Int32) (fm_reportDay : Nat → Int32) (fm_reportKind : Nat → Int32) (p1 : Int32) (p2 : Int32) (s0 : Int32) : Int32 := s0
noncomputable def fX12_report (mi : Nat → Int32) (fm_struck : Nat → Int32) (fm_reportKnown : Nat → Int32) (fm_reportPlace : Nat → Int32) (fm_reportMonth : Nat → Int32) (fm_reportDay : Nat → Int32) (fm_reportKind : Nat → Int32) (p1 : Int32) (p2 : Int32) : Int32 := cal (fun o1 => if o1 = (0 : Int32) then (-2 : Int32) else (if p2 = (0 : Int32) then (fm_reportPlace p1.toNatClampNeg) else (if p2 = (1 : Int32) then (if (fm_struck p1.toNatClampNeg) = (0 : Int32) then (bfX12_report_74 mi fm_struck fm_reportKnown fm_reportPlace fm_reportMonth fm_reportDay fm_reportKind p1 p2 (fm_reportKind p1.toNatClampNeg)) else (bfX12_report_74 mi fm_struck fm_reportKnown fm_reportPlace fm_reportMonth fm_reportDay fm_reportKind p1 p2 (3 : Int32))) else (if p2 = (2 : Int32) then (fm_reportMonth p1.toNatClampNeg) else (if p2 = (3 : Int32) then (fm_reportDay p1.toNatClampNeg) else (if p2 = (4 : Int32) then (fm_reportKnown p1.toNatClampNeg) else (-2 : Int32))))))) (fX12_isReport mi p1)
set_option maxHeartbeats 4000000 in
set_option maxRecDepth 100000 in
theorem sX12_report (l : Launch) (dC : Nat → ClassId) (dI : Nat → Nat → Nat) (h0 : Nat) (mi : Nat → Int32) (mr : Nat → Nat) (km : Nat → ClassId) (fm_verdict : Nat → Int32) (fm_row : Nat → Int32) (fm_struck : Nat → Int32) (fm_reportKnown : Nat → Int32) (fm_reportPlace : Nat → Int32) (fm_reportMonth : Nat → Int32) (fm_reportDay : Nat → Int32) (fm_reportKind : Nat → Int32) (fm_trust : Nat → Int32) (fm_letter : Nat → Int32) (fm_deedMonth : Nat → Int32) (fm_deedDay : Nat → Int32) (fm_deedLong : Nat → Int32) (fm_deedKind : Nat → Int32) (fm_kept : Nat → Int32) (fm_tape : Nat → Int32) (fm_must : Nat → Int32) (fm_least : Nat → Int32) (fm_pin : Nat → Int32) (fm_ways : Nat → Int32) (fm_official : Nat → Int32) (fm_aside : Nat → Int32) (fm_worth : Nat → Int32) (fm_out : Nat → Int32) (p1 : Int32) (p2 : Int32) (gmi_0 : gi (mi 0) 0 24) (gmi_1 : gi (mi 1) 0 5) (gmi_2 : gi (mi 2) 0 5) (gmi_4 : gi (mi 4) 0 1) (gmi_7 : gi (mi 7) 0 6) (gmi_10 : gi (mi 10) 0 24) (gmi_17 : gi (mi 17) 0 8) (gmi_23 : gi (mi 23) 0 300) (gmi_24 : gi (mi 24) 0 1) (gmi_26 : gi (mi 26) 0 1600) (gmi_29 : gi (mi 29) 0 1600) (gmi_30 : gi (mi 30) 0 1600) (gmi_33 : gi (mi 33) 0 1) (gmi_37 : gi (mi 37) 0 1) (gmi_41 : gi (mi 41) 0 24) (gmi_50 : gi (mi 50) 0 1) (gmi_51 : gi (mi 51) 0 1) (gmi_56 : gi (mi 56) 0 80) (gfm_row : ga fm_row 24 0 23) (gfm_struck : ga fm_struck 24 0 1) (gfm_reportKnown : ga fm_reportKnown 24 0 999) (gfm_reportPlace : ga fm_reportPlace 24 0 5) (gfm_reportMonth : ga fm_reportMonth 24 0 23) (gfm_reportDay : ga fm_reportDay 24 0 999) : Met l yX12_report (.code yX12_report cX12_report 3 (some .int) :: wsGB) ({ frames := 2, cells := 0, slots := 0, locals := 46 }) (va_Pc [.ref h0, .int p1, .int p2] (fun U => va_P (dC, dI) vwCl (MWn h0 mr km (mi 0) (mi 1) (mi 2) (mi 3) (mi 4) (mi 5) (mi 6) (mi 7) (mi 10) (mi 17) (mi 23) (mi 24) (mi 26) (mi 27) (mi 28) (mi 29) (mi 30) (mi 31) (mi 32) (mi 33) (mi 37) (mi 41) (mi 42) (mi 43) (mi 44) (mi 45) (mi 47) (mi 48) (mi 49) (mi 50) (mi 51) (mi 54) (mi 56) fm_trust fm_letter fm_reportPlace fm_reportKind fm_struck fm_reportMonth fm_reportDay fm_reportKnown fm_deedMonth fm_deedDay fm_deedLong fm_deedKind fm_kept fm_tape fm_must fm_least fm_pin fm_ways fm_verdict fm_row fm_official fm_aside fm_worth fm_out) U.heap ∧ va_K (dC, dI) vwCl (MT km) U)) (va_Qi (fun (r : Int32) (u : Unit) => (gi r (-2147483648) 2147483647) ∧ r = fX12_report mi fm_struck fm_reportKnown fm_reportPlace fm_reportMonth fm_reportDay fm_reportKind p1 p2) (fun _ _ => True) (fun _ => False)) 0 0 (fun _ => False) := by
  refine Met.ofW (cc := cX12_report) (maxL := 3) (ret := (some .int)) (by decide) rfl ?_
  intro p e s m args below meth c s₁ B hml hv
  obtain ⟨rfl, hP, hK⟩ := hv
  have hx := B.exec
  have hb := B.bytes
  have hr := B.returns
  have hts := atoms_spec (ws := (.code yX12_report cX12_report 3 (some .int) :: wsGB)) B.pre
  have hown : s.vm.findClass RX12 = some m.cls := findClass_of_methodNamed B.named
  have hlocks := B.notSynchronized
  have hS : va_S (fun _ => False) s.heap s.heap [] := va_S.rf
  have hl := lv_entry ([.ref h0, .int p1, .int p2]) (n := 3) (Nat.le_of_ble_eq_true rfl)
  rw [lg_entry_eq]
  generalize (lg_sl ([.ref h0, .int p1, .int p2]) ++ List.replicate (3 - (lg_sl ([.ref h0, .int p1, .int p2])).length) Slot.unset).toArray = ls at hl ⊢
  have hl : lv_has ls 3 [(0, .ref h0), (1, .int p1), (2, .int p2)] := hl
  obtain ⟨RES, hF⟩ : ∃ R9, fX12_report mi fm_struck fm_reportKnown fm_reportPlace fm_reportMonth fm_reportDay fm_reportKind p1 p2 = R9 := ⟨_, rfl⟩
  have hR9 := hF
  refine lv_aload_n hx hb dX12_report_0 rfl (lv_at hl 0 rfl) ?_
  refine lv_iload_n hx hb dX12_report_1 rfl (lv_at hl 1 rfl) ?_
  refine va_calli (va_runV (As := [.int p1]) (rest := []) ⟨hx, hb, hml, hown, hts⟩ (sX12_isReport l dC dI h0 mi mr km fm_trust fm_letter fm_reportPlace fm_reportKind fm_struck fm_reportMonth fm_reportDay fm_reportKnown fm_deedMonth fm_deedDay fm_deedLong fm_deedKind fm_kept fm_tape fm_must fm_least fm_pin fm_ways fm_verdict fm_row fm_official fm_aside fm_worth fm_out p1 gmi_0 gmi_1 gmi_2 gmi_4 gmi_7 gmi_10 gmi_17 gmi_23 gmi_24 gmi_26 gmi_29 gmi_30 gmi_33 gmi_37 gmi_41 gmi_50 gmi_51 gmi_56) (cwV 1 hts (gz_gV mGB_235 mGB_236 mGB_237 mGB_1 mGB_238 goodGB) rfl rfl rfl (by decide +kernel) ⟨Nat.le_of_ble_eq_true rfl, Nat.le_of_ble_eq_true rfl⟩) ⟨bl_R, mw_recv hK hP, fun U hU hW => ⟨rfl, by rw [hU]; exact hP, va_K.moved hW.alike hK⟩⟩ rfl rfl hl.1 rfl (lv_room (Nat.le_of_ble_eq_true rfl)) dX12_report_2 ⟨Nat.zero_le _, Nat.zero_le _⟩) hS (fun q _ h => h.elim) (fun q h => h.elim) (fun r_16 u t H1 locs ht hvm hw hB hz1 hk1 hS => ?_)
  obtain ⟨hw, hE⟩ := hw
  have hP := gz_keep hP hk1
  have hF := gf_callm (a := r_16) hE hF (by first | with_reducible rfl | simp only [upd_same, upd_app, ↓reduceIte, Nat.reduceEqDiff])
  generalize H1 = H at hP hS ⊢
  have gr_16 : gi r_16 0 1 := hw.1
  have hqr_16 := hw.2
  refine lv_if_ne (tgt := 11) hx hb dX12_report_5 (by decide) (fun c_17 => ?_) (fun c_17 => ?_)
  · have hF := gf_neg c_17 hF
    have g_18 : gi r_16 1 1 := gi_ne_lo c_17 gr_16 (gi_c 0 0 (by decide)) (by decide)
    have g_19 : gi p1 0 23 := gi_cap (gi_any p1) (hqr_16 (gz_one g_18)) (by decide)
    refine lv_iload_n hx hb dX12_report_11 rfl (lv_at hl 2 rfl) ?_
    rcases gz_sw p2 4 (Nat.le_of_ble_eq_true rfl) with hj_20 | ⟨j_20, hj_20, ej_20⟩
    · refine lv_tableOut (tgt := 96) hx hb dX12_report_12 hj_20 (by decide) ?_
      have hF := gf_neg (fun h9 => by have h8 := congrArg Int32.toInt h9; rw [show (0 : Int32).toInt = 0 from by decide] at h8; omega) hF
      have hF := gf_neg (fun h9 => by have h8 := congrArg Int32.toInt h9; rw [show (1 : Int32).toInt = 1 from by decide] at h8; omega) hF
      have hF := gf_neg (fun h9 => by have h8 := congrArg Int32.toInt h9; rw [show (2 : Int32).toInt = 2 from by decide] at h8; omega) hF
      have hF := gf_neg (fun h9 => by have h8 := congrArg Int32.toInt h9; rw [show (3 : Int32).toInt = 3 from by decide] at h8; omega) hF
      have hF := gf_neg (fun h9 => by have h8 := congrArg Int32.toInt h9; rw [show (4 : Int32).toInt = 4 from by decide] at h8; omega) hF
      refine lv_bipush (v := (-2)) hx hb dX12_report_96 (by decide) ?_
      exact W.iret (v := (-2)) hx hb hr (fun t ht hW => ⟨⟨(-2), (), rfl, ⟨(gi_any (-2)), hF.trans hR9.symm⟩, trivial⟩, hS.F ht⟩) hS.2.2 dX12_report_98
    · rcases (show j_20 = 0 ∨ j_20 = 1 ∨ j_20 = 2 ∨ j_20 = 3 ∨ j_20 = 4 by omega) with rfl | rfl | rfl | rfl | rfl
      · refine lv_tableIn (off := 36) (tgt := 48) hx hb dX12_report_12 (by rw [ej_20]; decide +kernel) (by rw [ej_20]; decide +kernel) (by rw [ej_20]; decide +kernel) (by decide) ?_
        have hF := gf_pos (by rw [ej_20]; rfl) hF
        refine lv_aload_n hx hb dX12_report_48 rfl (lv_at hl 0 rfl) ?_
        refine va_get (D := (dC, dI)) (ci := 12) (v := .ref (mr 2)) (C := RX12) (T := TX12) (N := 57) hx hb hts (fun w h => List.mem_cons_of_mem _ (jnGB_X12 w h)) hown hK hP 0 rfl rfl 11 (by decide) (hts _ (List.mem_cons_of_mem _ mGB_12)) (fun _ h9 => h9) rfl dX12_report_49 ?_
        refine lv_iload_n hx hb dX12_report_52 rfl (lv_at hl 1 rfl) ?_
        refine va_iald hx hb hK hP 3 2 rfl rfl (gi_in g_19 (by decide)) dX12_report_53 ?_
        refine lv_topi (fun x_21 ex_21 => ?_)
        have gx_21 : gi x_21 0 5 := ga_at gfm_reportPlace (gi_in g_19 (by decide)) ex_21
        exact W.iret (v := x_21) hx hb hr (fun t ht hW => ⟨⟨x_21, (), rfl, ⟨(gi_any x_21), by rw [ex_21]; exact hF.trans hR9.symm⟩, trivial⟩, hS.F ht⟩) hS.2.2 dX12_report_54
      · refine lv_tableIn (off := 43) (tgt := 55) hx hb dX12_report_12 (by rw [ej_20]; decide +kernel) (by rw [ej_20]; decide +kernel) (by rw [ej_20]; decide +kernel) (by decide) ?_
        have hF := gf_neg (by rw [ej_20]; decide) hF
        have hF := gf_pos (by rw [ej_20]; rfl) hF
        refine lv_aload_n hx hb dX12_report_55 rfl (lv_at hl 0 rfl) ?_
        refine va_get (D := (dC, dI)) (ci := 12) (v := .ref (mr 4)) (C := RX12) (T := TX12) (N := 57) hx hb hts (fun w h => List.mem_cons_of_mem _ (jnGB_X12 w h)) hown hK hP 0 rfl rfl 13 (by decide) (hts _ (List.mem_cons_of_mem _ mGB_15)) (fun _ h9 => h9) rfl dX12_report_56 ?_
        refine lv_iload_n hx hb dX12_report_59 rfl (lv_at hl 1 rfl) ?_
        refine va_zald hx hb hK hP 5 4 rfl rfl (gi_in g_19 (by decide)) dX12_report_60 ?_
        refine lv_topi (fun x_22 ex_22 => ?_)
        have gx_22 : gi x_22 0 1 := ga_at gfm_struck (gi_in g_19 (by decide)) ex_22
        refine lv_if_eq (tgt := 68) hx hb dX12_report_61 (by decide) (fun c_23 => ?_) (fun c_23 => ?_)
        · have hF := gf_pos (by rw [ex_22] at c_23; exact c_23) hF
          have g_24 : gi x_22 0 0 := gi_eq c_23 (gi_c 0 0 (by decide))
          refine lv_aload_n hx hb dX12_report_68 rfl (lv_at hl 0 rfl) ?_
          refine va_get (D := (dC, dI)) (ci := 12) (v := .ref (mr 3)) (C := RX12) (T := TX12) (N := 57) hx hb hts (fun w h => List.mem_cons_of_mem _ (jnGB_X12 w h)) hown hK hP 0 rfl rfl 12 (by decide) (hts _ (List.mem_cons_of_mem _ mGB_13)) (fun _ h9 => h9) rfl dX12_report_69 ?_
          refine lv_iload_n hx hb dX12_report_72 rfl (lv_at hl 1 rfl) ?_
          refine va_iald hx hb hK hP 4 3 rfl rfl (gi_in g_19 (by decide)) dX12_report_73 ?_
          refine lv_topi (fun x_25 ex_25 => ?_)
          exact W.iret (v := x_25) hx hb hr (fun t ht hW => ⟨⟨x_25, (), rfl, ⟨(gi_any x_25), by rw [ex_25]; exact hF.trans hR9.symm⟩, trivial⟩, hS.F ht⟩) hS.2.2 dX12_report_74
        · have hF := gf_neg (by rw [ex_22] at c_23; exact c_23) hF
          have g_26 : gi x_22 1 1 := gi_ne_lo c_23 gx_22 (gi_c 0 0 (by decide)) (by decide)
          refine lv_iconst (v := 3) hx hb dX12_report_64 (by decide) ?_
          refine lv_goto (tgt := 74) hx hb dX12_report_65 (by decide) ?_
          exact W.iret (v := 3) hx hb hr (fun t ht hW => ⟨⟨3, (), rfl, ⟨(gi_any 3), hF.trans hR9.symm⟩, trivial⟩, hS.F ht⟩) hS.2.2 dX12_report_74
      · refine lv_tableIn (off := 63) (tgt := 75) hx hb dX12_report_12 (by rw [ej_20]; decide +kernel) (by rw [ej_20]; decide +kernel) (by rw [ej_20]; decide +kernel) (by decide) ?_
        have hF := gf_neg (by rw [ej_20]; decide) hF
        have hF := gf_neg (by rw [ej_20]; decide) hF
        have hF := gf_pos (by rw [ej_20]; rfl) hF
        refine lv_aload_n hx hb dX12_report_75 rfl (lv_at hl 0 rfl) ?_
        refine va_get (D := (dC, dI)) (ci := 12) (v := .ref (mr 5)) (C := RX12) (T := TX12) (N := 57) hx hb hts (fun w h => List.mem_cons_of_mem _ (jnGB_X12 w h)) hown hK hP 0 rfl rfl 14 (by decide) (hts _ (List.mem_cons_of_mem _ mGB_16)) (fun _ h9 => h9) rfl dX12_report_76 ?_
        refine lv_iload_n hx hb dX12_report_79 rfl (lv_at hl 1 rfl) ?_
        refine va_iald hx hb hK hP 6 5 rfl rfl (gi_in g_19 (by decide)) dX12_report_80 ?_
        refine lv_topi (fun x_27 ex_27 => ?_)
        have gx_27 : gi x_27 0 23 := ga_at gfm_reportMonth (gi_in g_19 (by decide)) ex_27
        exact W.iret (v := x_27) hx hb hr (fun t ht hW => ⟨⟨x_27, (), rfl, ⟨(gi_any x_27), by rw [ex_27]; exact hF.trans hR9.symm⟩, trivial⟩, hS.F ht⟩) hS.2.2 dX12_report_81
      · refine lv_tableIn (off := 70) (tgt := 82) hx hb dX12_report_12 (by rw [ej_20]; decide +kernel) (by rw [ej_20]; decide +kernel) (by rw [ej_20]; decide +kernel) (by decide) ?_
        have hF := gf_neg (by rw [ej_20]; decide) hF
        have hF := gf_neg (by rw [ej_20]; decide) hF
        have hF := gf_neg (by rw [ej_20]; decide) hF
        have hF := gf_pos (by rw [ej_20]; rfl) hF
        refine lv_aload_n hx hb dX12_report_82 rfl (lv_at hl 0 rfl) ?_
        refine va_get (D := (dC, dI)) (ci := 12) (v := .ref (mr 6)) (C := RX12) (T := TX12) (N := 57) hx hb hts (fun w h => List.mem_cons_of_mem _ (jnGB_X12 w h)) hown hK hP 0 rfl rfl 15 (by decide) (hts _ (List.mem_cons_of_mem _ mGB_17)) (fun _ h9 => h9) rfl dX12_report_83 ?_
        refine lv_iload_n hx hb dX12_report_86 rfl (lv_at hl 1 rfl) ?_
        refine va_iald hx hb hK hP 7 6 rfl rfl (gi_in g_19 (by decide)) dX12_report_87 ?_
        refine lv_topi (fun x_28 ex_28 => ?_)
        have gx_28 : gi x_28 0 999 := ga_at gfm_reportDay (gi_in g_19 (by decide)) ex_28
        exact W.iret (v := x_28) hx hb hr (fun t ht hW => ⟨⟨x_28, (), rfl, ⟨(gi_any x_28), by rw [ex_28]; exact hF.trans hR9.symm⟩, trivial⟩, hS.F ht⟩) hS.2.2 dX12_report_88
      · refine lv_tableIn (off := 77) (tgt := 89) hx hb dX12_report_12 (by rw [ej_20]; decide +kernel) (by rw [ej_20]; decide +kernel) (by rw [ej_20]; decide +kernel) (by decide) ?_
        have hF := gf_neg (by rw [ej_20]; decide) hF
        have hF := gf_neg (by rw [ej_20]; decide) hF
        have hF := gf_neg (by rw [ej_20]; decide) hF
        have hF := gf_neg (by rw [ej_20]; decide) hF
        have hF := gf_pos (by rw [ej_20]; rfl) hF
        refine lv_aload_n hx hb dX12_report_89 rfl (lv_at hl 0 rfl) ?_
        refine va_get (D := (dC, dI)) (ci := 12) (v := .ref (mr 7)) (C := RX12) (T := TX12) (N := 57) hx hb hts (fun w h => List.mem_cons_of_mem _ (jnGB_X12 w h)) hown hK hP 0 rfl rfl 16 (by decide) (hts _ (List.mem_cons_of_mem _ mGB_18)) (fun _ h9 => h9) rfl dX12_report_90 ?_
        refine lv_iload_n hx hb dX12_report_93 rfl (lv_at hl 1 rfl) ?_
        refine va_iald hx hb hK hP 8 7 rfl rfl (gi_in g_19 (by decide)) dX12_report_94 ?_
        refine lv_topi (fun x_29 ex_29 => ?_)
        have gx_29 : gi x_29 0 999 := ga_at gfm_reportKnown (gi_in g_19 (by decide)) ex_29
        exact W.iret (v := x_29) hx hb hr (fun t ht hW => ⟨⟨x_29, (), rfl, ⟨(gi_any x_29), by rw [ex_29]; exact hF.trans hR9.symm⟩, trivial⟩, hS.F ht⟩) hS.2.2 dX12_report_95
  · have hF := gf_pos c_17 hF
    have g_30 : gi r_16 0 0 := gi_eq c_17 (gi_c 0 0 (by decide))
    refine lv_bipush (v := (-2)) hx hb dX12_report_8 (by decide) ?_
    exact W.iret (v := (-2)) hx hb hr (fun t ht hW => ⟨⟨(-2), (), rfl, ⟨(gi_any (-2)), hF.trans hR9.symm⟩, trivial⟩, hS.F ht⟩) hS.2.2 dX12_report_10
theorem dX12_fault_0 : decode cX12_fault 0 = .ok (.iload_n 1, 1) := by decide +kernel
theorem dX12_fault_1 : decode cX12_fault 1 = .ok (.ifCond .ne 10, 3) := by decide +kernel
theorem dX12_fault_4 : decode cX12_fault 4 = .ok (.aload_n 0, 1) := by decide +kernel
theorem dX12_fault_5 : decode cX12_fault 5 = .ok (.getfield 177, 3) := by decide +kernel
theorem dX12_fault_8 : decode cX12_fault 8 = .ok (.goto 16, 3) := by decide +kernel
theorem dX12_fault_11 : decode cX12_fault 11 = .ok (.iload_n 1, 1) := by decide +kernel
theorem dX12_fault_12 : decode cX12_fault 12 = .ok (.iconst 1, 1) := by decide +kernel
theorem dX12_fault_13 : decode cX12_fault 13 = .ok (.if_icmp .ne 10, 3) := by decide +kernel
theorem dX12_fault_16 : decode cX12_fault 16 = .ok (.aload_n 0, 1) := by decide +kernel
theorem dX12_fault_17 : decode cX12_fault 17 = .ok (.getfield 53, 3) := by decide +kernel
theorem dX12_fault_20 : decode cX12_fault 20 = .ok (.goto 4, 3) := by decide +kernel
theorem dX12_fault_23 : decode cX12_fault 23 = .ok (.iconst (-1), 1) := by decide +kernel
theorem dX12_fault_24 : decode cX12_fault 24 = .ok (.ireturn, 1) := by decide +kernel
noncomputable def bfX12_fault_24 (mi : Nat → Int32) (p1 : Int32) (s0 : Int32) : Int32 := s0
noncomputable def fX12_fault (mi : Nat → Int32) (p1 : Int32) : Int32 := if p1 = (0 : Int32) then (bfX12_fault_24 mi p1 (mi 27)) else (if p1 = (1 : Int32) then (bfX12_fault_24 mi p1 (mi 28)) else (bfX12_fault_24 mi p1 (-1 : Int32)))
set_option maxHeartbeats 4000000 in
set_option maxRecDepth 100000 in
theorem sX12_fault (l : Launch) (dC : Nat → ClassId) (dI : Nat → Nat → Nat) (h0 : Nat) (mi : Nat → Int32) (mr : Nat → Nat) (km : Nat → ClassId) (fm_trust : Nat → Int32) (fm_letter : Nat → Int32) (fm_reportPlace : Nat → Int32) (fm_reportKind : Nat → Int32) (fm_struck : Nat → Int32) (fm_reportMonth : Nat → Int32) (fm_reportDay : Nat → Int32) (fm_reportKnown : Nat → Int32) (fm_deedMonth : Nat → Int32) (fm_deedDay : Nat → Int32) (fm_deedLong : Nat → Int32) (fm_deedKind : Nat → Int32) (fm_kept : Nat → Int32) (fm_tape : Nat → Int32) (fm_must : Nat → Int32) (fm_least : Nat → Int32) (fm_pin : Nat → Int32) (fm_ways : Nat → Int32) (fm_verdict : Nat → Int32) (fm_row : Nat → Int32) (fm_official : Nat → Int32) (fm_aside : Nat → Int32) (fm_worth : Nat → Int32) (fm_out : Nat → Int32) (p1 : Int32) (gmi_0 : gi (mi 0) 0 24) (gmi_1 : gi (mi 1) 0 5) (gmi_2 : gi (mi 2) 0 5) (gmi_4 : gi (mi 4) 0 1) (gmi_7 : gi (mi 7) 0 6) (gmi_10 : gi (mi 10) 0 24) (gmi_17 : gi (mi 17) 0 8) (gmi_23 : gi (mi 23) 0 300) (gmi_24 : gi (mi 24) 0 1) (gmi_26 : gi (mi 26) 0 1600) (gmi_29 : gi (mi 29) 0 1600) (gmi_30 : gi (mi 30) 0 1600) (gmi_33 : gi (mi 33) 0 1) (gmi_37 : gi (mi 37) 0 1) (gmi_41 : gi (mi 41) 0 24) (gmi_50 : gi (mi 50) 0 1) (gmi_51 : gi (mi 51) 0 1) (gmi_56 : gi (mi 56) 0 80) : Met l yX12_fault (.code yX12_fault cX12_fault 2 (some .int) :: wsGB) ({ frames := 0, cells := 0, slots := 0, locals := 0 }) (va_Pc [.ref h0, .int p1] (fun U => va_P (dC, dI) vwCl (MWn h0 mr km (mi 0) (mi 1) (mi 2) (mi 3) (mi 4) (mi 5) (mi 6) (mi 7) (mi 10) (mi 17) (mi 23) (mi 24) (mi 26) (mi 27) (mi 28) (mi 29) (mi 30) (mi 31) (mi 32) (mi 33) (mi 37) (mi 41) (mi 42) (mi 43) (mi 44) (mi 45) (mi 47) (mi 48) (mi 49) (mi 50) (mi 51) (mi 54) (mi 56) fm_trust fm_letter fm_reportPlace fm_reportKind fm_struck fm_reportMonth fm_reportDay fm_reportKnown fm_deedMonth fm_deedDay fm_deedLong fm_deedKind fm_kept fm_tape fm_must fm_least fm_pin fm_ways fm_verdict fm_row fm_official fm_aside fm_worth fm_out) U.heap ∧ va_K (dC, dI) vwCl (MT km) U)) (va_Qi (fun (r : Int32) (u : Unit) => (gi r (-2147483648) 2147483647) ∧ r = fX12_fault mi p1) (fun _ _ => True) (fun _ => False)) 0 0 (fun _ => False) := by
  refine Met.ofW (cc := cX12_fault) (maxL := 2) (ret := (some .int)) (by decide) rfl ?_
  intro p e s m args below meth c s₁ B hml hv
  obtain ⟨rfl, hP, hK⟩ := hv
  have hx := B.exec
  have hb := B.bytes
  have hr := B.returns
  have hts := atoms_spec (ws := (.code yX12_fault cX12_fault 2 (some .int) :: wsGB)) B.pre
  have hown : s.vm.findClass RX12 = some m.cls := findClass_of_methodNamed B.named
  have hlocks := B.notSynchronized
  have hS : va_S (fun _ => False) s.heap s.heap [] := va_S.rf
  have hl := lv_entry ([.ref h0, .int p1]) (n := 2) (Nat.le_of_ble_eq_true rfl)
  rw [lg_entry_eq]
  generalize (lg_sl ([.ref h0, .int p1]) ++ List.replicate (2 - (lg_sl ([.ref h0, .int p1])).length) Slot.unset).toArray = ls at hl ⊢
  have hl : lv_has ls 2 [(0, .ref h0), (1, .int p1)] := hl
  obtain ⟨RES, hF⟩ : ∃ R9, fX12_fault mi p1 = R9 := ⟨_, rfl⟩
  have hR9 := hF
  refine lv_iload_n hx hb dX12_fault_0 rfl (lv_at hl 1 rfl) ?_
  refine lv_if_ne (tgt := 11) hx hb dX12_fault_1 (by decide) (fun c_5 => ?_) (fun c_5 => ?_)
  · have hF := gf_neg c_5 hF
    refine lv_iload_n hx hb dX12_fault_11 rfl (lv_at hl 1 rfl) ?_
    refine lv_iconst (v := 1) hx hb dX12_fault_12 (by decide) ?_
    refine lv_icmp_ne (tgt := 23) hx hb dX12_fault_13 (by decide) (fun c_6 => ?_) (fun c_6 => ?_)
    · have hF := gf_neg c_6 hF
      refine lv_iconst (v := (-1)) hx hb dX12_fault_23 (by decide) ?_
      exact W.iret (v := (-1)) hx hb hr (fun t ht hW => ⟨⟨(-1), (), rfl, ⟨(gi_any (-1)), hF.trans hR9.symm⟩, trivial⟩, hS.F ht⟩) hS.2.2 dX12_fault_24
    · have hF := gf_pos c_6 hF
      have g_7 : gi p1 1 1 := gi_eq c_6 (gi_c 1 1 (by decide))
      refine lv_aload_n hx hb dX12_fault_16 rfl (lv_at hl 0 rfl) ?_
      refine va_get (D := (dC, dI)) (ci := 12) (v := .int (mi 28)) (C := RX12) (T := TX12) (N := 57) hx hb hts (fun w h => List.mem_cons_of_mem _ (jnGB_X12 w h)) hown hK hP 0 rfl rfl 28 (by decide) (hts _ (List.mem_cons_of_mem _ mGB_25)) (fun _ h9 => h9) rfl dX12_fault_17 ?_
      refine lv_goto (tgt := 24) hx hb dX12_fault_20 (by decide) ?_
      exact W.iret (v := (mi 28)) hx hb hr (fun t ht hW => ⟨⟨(mi 28), (), rfl, ⟨(gi_any (mi 28)), hF.trans hR9.symm⟩, trivial⟩, hS.F ht⟩) hS.2.2 dX12_fault_24
  · have hF := gf_pos c_5 hF
    have g_8 : gi p1 0 0 := gi_eq c_5 (gi_c 0 0 (by decide))
    refine lv_aload_n hx hb dX12_fault_4 rfl (lv_at hl 0 rfl) ?_
    refine va_get (D := (dC, dI)) (ci := 12) (v := .int (mi 27)) (C := RX12) (T := TX12) (N := 57) hx hb hts (fun w h => List.mem_cons_of_mem _ (jnGB_X12 w h)) hown hK hP 0 rfl rfl 27 (by decide) (hts _ (List.mem_cons_of_mem _ mGB_115)) (fun _ h9 => h9) rfl dX12_fault_5 ?_
    refine lv_goto (tgt := 24) hx hb dX12_fault_8 (by decide) ?_
    exact W.iret (v := (mi 27)) hx hb hr (fun t ht hW => ⟨⟨(mi 27), (), rfl, ⟨(gi_any (mi 27)), hF.trans hR9.symm⟩, trivial⟩, hS.F ht⟩) hS.2.2 dX12_fault_24
