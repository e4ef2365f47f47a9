noncomputable def lsX11_dayOf : List (Nat × Instr × Nat) := [(0, .bipush 29, 2), (2, .iload_n 0, 1), (3, .imul, 1), (4, .iload_n 1, 1), (5, .iadd, 1), (6, .ireturn, 1)]
theorem dkX11_dayOf : dkAll cX11_dayOf lsX11_dayOf = true := by decide +kernel
set_option maxHeartbeats 4000000 in
set_option maxRecDepth 100000 in
theorem sX11_dayOf (l : Launch) (dC : Nat → ClassId) (dI : Nat → Nat → Nat) (p0 : Int32) (p1 : Int32)  : Met l yX11_dayOf (.code yX11_dayOf cX11_dayOf 2 (some .int) :: wsGA) ({ frames := 0, cells := 0, slots := 0, locals := 0 }) (va_Pc [.int p0, .int p1] (fun U => va_P (dC, dI) vwCl [] U.heap ∧ va_K (dC, dI) vwCl [] U ∧ nzA U)) (va_Qi (fun (r : Int32) (u : Unit) => gi r (-2147483648) 2147483647) (fun _ _ => True) (fun _ => False)) 0 0 (fun _ => False) := by
  refine Met.ofW (cc := cX11_dayOf) (maxL := 2) (ret := (some .int)) (by decide) rfl ?_
  intro p e s m args below meth c s₁ B hml hv
  obtain ⟨rfl, hP, hK, hz⟩ := hv
  have hx := B.exec
  have hb := B.bytes
  have hr := B.returns
  have hts := atoms_spec (ws := (.code yX11_dayOf cX11_dayOf 2 (some .int) :: wsGA)) B.pre
  have hown : s.vm.findClass RX11 = some m.cls := findClass_of_methodNamed B.named
  have hlocks := B.notSynchronized
  have hS : va_S (fun _ => False) s.heap s.heap [] := va_S.rf
  have hl := lv_entry ([.int p0, .int p1]) (n := 2) (Nat.le_of_ble_eq_true rfl)
  rw [lg_entry_eq]
  generalize (lg_sl ([.int p0, .int p1]) ++ List.replicate (2 - (lg_sl ([.int p0, .int p1])).length) Slot.unset).toArray = ls at hl ⊢
  have hl : lv_has ls 2 [(0, .int p0), (1, .int p1)] := hl
  refine lv_bipush (v := 29) hx hb (dk_at dkX11_dayOf 0 rfl) (by decide) ?_
  refine lv_iload_n hx hb (dk_at dkX11_dayOf 1 rfl) rfl (lv_at hl 0 rfl) ?_
  refine lv_imul hx hb (dk_at dkX11_dayOf 2 rfl) ?_
  refine lv_topi (fun x_3 ex_3 => ?_)
  refine lv_iload_n hx hb (dk_at dkX11_dayOf 3 rfl) rfl (lv_at hl 1 rfl) ?_
  refine lv_iadd hx hb (dk_at dkX11_dayOf 4 rfl) ?_
  refine lv_topi (fun x_4 ex_4 => ?_)
  exact W.iret (v := x_4) hx hb hr (fun t ht hW => ⟨⟨x_4, (), rfl, (gi_any x_4), trivial⟩, hS.F ht⟩) hS.2.2 (dk_at dkX11_dayOf 5 rfl)
noncomputable def lsX11_anchorOf : List (Nat × Instr × Nat) := [(0, .iload_n 1, 1), (1, .bipush 30, 2), (3, .if_icmp .ne 9, 3), (6, .iload_n 0, 1), (7, .iconst 1, 1), (8, .iadd, 1), (9, .goto 4, 3), (12, .iload_n 0, 1), (13, .ireturn, 1)]
theorem dkX11_anchorOf : dkAll cX11_anchorOf lsX11_anchorOf = true := by decide +kernel
set_option maxHeartbeats 4000000 in
set_option maxRecDepth 100000 in
theorem sX11_anchorOf (l : Launch) (dC : Nat → ClassId) (dI : Nat → Nat → Nat) (p0 : Int32) (p1 : Int32) (gp0 : gi p0 0 23) : Met l yX11_anchorOf (.code yX11_anchorOf cX11_anchorOf 2 (some .int) :: wsGA) ({ frames := 0, cells := 0, slots := 0, locals := 0 }) (va_Pc [.int p0, .int p1] (fun U => va_P (dC, dI) vwCl [] U.heap ∧ va_K (dC, dI) vwCl [] U ∧ nzA U)) (va_Qi (fun (r : Int32) (u : Unit) => gi r 0 24) (fun _ _ => True) (fun _ => False)) 0 0 (fun _ => False) := by
  refine Met.ofW (cc := cX11_anchorOf) (maxL := 2) (ret := (some .int)) (by decide) rfl ?_
  intro p e s m args below meth c s₁ B hml hv
  obtain ⟨rfl, hP, hK, hz⟩ := hv
  have hx := B.exec
  have hb := B.bytes
  have hr := B.returns
  have hts := atoms_spec (ws := (.code yX11_anchorOf cX11_anchorOf 2 (some .int) :: wsGA)) B.pre
  have hown : s.vm.findClass RX11 = some m.cls := findClass_of_methodNamed B.named
  have hlocks := B.notSynchronized
  have hS : va_S (fun _ => False) s.heap s.heap [] := va_S.rf
  have hl := lv_entry ([.int p0, .int p1]) (n := 2) (Nat.le_of_ble_eq_true rfl)
  rw [lg_entry_eq]
  generalize (lg_sl ([.int p0, .int p1]) ++ List.replicate (2 - (lg_sl ([.int p0, .int p1])).length) Slot.unset).toArray = ls at hl ⊢
  have hl : lv_has ls 2 [(0, .int p0), (1, .int p1)] := hl
  refine lv_iload_n hx hb (dk_at dkX11_anchorOf 0 rfl) rfl (lv_at hl 1 rfl) ?_
  refine lv_bipush (v := 30) hx hb (dk_at dkX11_anchorOf 1 rfl) (by decide) ?_
  refine lv_icmp_ne (tgt := 12) hx hb (dk_at dkX11_anchorOf 2 rfl) (by decide) (fun c_4 => ?_) (fun c_4 => ?_)
  · refine lv_iload_n hx hb (dk_at dkX11_anchorOf 7 rfl) rfl (lv_at hl 0 rfl) ?_
    exact W.iret (v := p0) hx hb hr (fun t ht hW => ⟨⟨p0, (), rfl, (gi_w gp0 (by decide)), trivial⟩, hS.F ht⟩) hS.2.2 (dk_at dkX11_anchorOf 8 rfl)
  · have g_5 : gi p1 30 30 := gi_eq c_4 (gi_c 30 30 (by decide))
    refine lv_iload_n hx hb (dk_at dkX11_anchorOf 3 rfl) rfl (lv_at hl 0 rfl) ?_
    refine lv_iconst (v := 1) hx hb (dk_at dkX11_anchorOf 4 rfl) (by decide) ?_
    refine lv_iadd hx hb (dk_at dkX11_anchorOf 5 rfl) ?_
    refine lv_topi (fun x_6 ex_6 => ?_)
    have gx_6 : gi x_6 1 24 := gi_add ex_6 gp0 (gi_c 1 1 (by decide)) (by decide)
    refine lv_goto (tgt := 13) hx hb (dk_at dkX11_anchorOf 6 rfl) (by decide) ?_
    exact W.iret (v := x_6) hx hb hr (fun t ht hW => ⟨⟨x_6, (), rfl, (gi_w gx_6 (by decide)), trivial⟩, hS.F ht⟩) hS.2.2 (dk_at dkX11_anchorOf 8 rfl)
noncomputable def lsX11_offsetOf : List (Nat × Instr × Nat) := [(0, .iload_n 0, 1), (1, .bipush 30, 2), (3, .if_icmp .ne 7, 3), (6, .iconst (-1), 1), (7, .goto 6, 3), (10, .iload_n 0, 1), (11, .iconst 1, 1), (12, .isub, 1), (13, .ireturn, 1)]
theorem dkX11_offsetOf : dkAll cX11_offsetOf lsX11_offsetOf = true := by decide +kernel
set_option maxHeartbeats 4000000 in
set_option maxRecDepth 100000 in
theorem sX11_offsetOf (l : Launch) (dC : Nat → ClassId) (dI : Nat → Nat → Nat) (p0 : Int32)  : Met l yX11_offsetOf (.code yX11_offsetOf cX11_offsetOf 1 (some .int) :: wsGA) ({ frames := 0, cells := 0, slots := 0, locals := 0 }) (va_Pc [.int p0] (fun U => va_P (dC, dI) vwCl [] U.heap ∧ va_K (dC, dI) vwCl [] U ∧ nzA U)) (va_Qi (fun (r : Int32) (u : Unit) => gi r (-2147483648) 2147483647) (fun _ _ => True) (fun _ => False)) 0 0 (fun _ => False) := by
  refine Met.ofW (cc := cX11_offsetOf) (maxL := 1) (ret := (some .int)) (by decide) rfl ?_
  intro p e s m args below meth c s₁ B hml hv
  obtain ⟨rfl, hP, hK, hz⟩ := hv
  have hx := B.exec
  have hb := B.bytes
  have hr := B.returns
  have hts := atoms_spec (ws := (.code yX11_offsetOf cX11_offsetOf 1 (some .int) :: wsGA)) B.pre
  have hown : s.vm.findClass RX11 = some m.cls := findClass_of_methodNamed B.named
  have hlocks := B.notSynchronized
  have hS : va_S (fun _ => False) s.heap s.heap [] := va_S.rf
  have hl := lv_entry ([.int p0]) (n := 1) (Nat.le_of_ble_eq_true rfl)
  rw [lg_entry_eq]
  generalize (lg_sl ([.int p0]) ++ List.replicate (1 - (lg_sl ([.int p0])).length) Slot.unset).toArray = ls at hl ⊢
  have hl : lv_has ls 1 [(0, .int p0)] := hl
  refine lv_iload_n hx hb (dk_at dkX11_offsetOf 0 rfl) rfl (lv_at hl 0 rfl) ?_
  refine lv_bipush (v := 30) hx hb (dk_at dkX11_offsetOf 1 rfl) (by decide) ?_
  refine lv_icmp_ne (tgt := 10) hx hb (dk_at dkX11_offsetOf 2 rfl) (by decide) (fun c_4 => ?_) (fun c_4 => ?_)
  · refine lv_iload_n hx hb (dk_at dkX11_offsetOf 5 rfl) rfl (lv_at hl 0 rfl) ?_
    refine lv_iconst (v := 1) hx hb (dk_at dkX11_offsetOf 6 rfl) (by decide) ?_
    refine lv_isub hx hb (dk_at dkX11_offsetOf 7 rfl) ?_
    refine lv_topi (fun x_5 ex_5 => ?_)
    exact W.iret (v := x_5) hx hb hr (fun t ht hW => ⟨⟨x_5, (), rfl, (gi_any x_5), trivial⟩, hS.F ht⟩) hS.2.2 (dk_at dkX11_offsetOf 8 rfl)
  · have g_6 : gi p0 30 30 := gi_eq c_4 (gi_c 30 30 (by decide))
    refine lv_iconst (v := (-1)) hx hb (dk_at dkX11_offsetOf 3 rfl) (by decide) ?_
    refine lv_goto (tgt := 13) hx hb (dk_at dkX11_offsetOf 4 rfl) (by decide) ?_
    exact W.iret (v := (-1)) hx hb hr (fun t ht hW => ⟨⟨(-1), (), rfl, (gi_any (-1)), trivial⟩, hS.F ht⟩) hS.2.2 (dk_at dkX11_offsetOf 8 rfl)
noncomputable def lsX11_runWithFull : List (Nat × Instr × Nat) := [(0, .iload_n 0, 1), (1, .ifCond .eq 8, 3), (4, .iload_n 0, 1), (5, .iload_n 1, 1), (6, .if_icmp .le 5, 3), (9, .iconst 1, 1), (10, .ireturn, 1), (11, .iload_n 0, 1), (12, .iload_n 1, 1), (13, .if_icmp .ge 9, 3), (16, .iload_n 0, 1), (17, .iconst 1, 1), (18, .iadd, 1), (19, .goto 4, 3), (22, .iconst 0, 1), (23, .ireturn, 1)]
theorem dkX11_runWithFull : dkAll cX11_runWithFull lsX11_runWithFull = true := by decide +kernel
set_option maxHeartbeats 4000000 in
set_option maxRecDepth 100000 in
theorem sX11_runWithFull (l : Launch) (dC : Nat → ClassId) (dI : Nat → Nat → Nat) (p0 : Int32) (p1 : Int32) (gp0 : gi p0 0 10) (gp1 : gi p1 0 5) : Met l yX11_runWithFull (.code yX11_runWithFull cX11_runWithFull 2 (some .int) :: wsGA) ({ frames := 0, cells := 0, slots := 0, locals := 0 }) (va_Pc [.int p0, .int p1] (fun U => va_P (dC, dI) vwCl [] U.heap ∧ va_K (dC, dI) vwCl [] U ∧ nzA U)) (va_Qi (fun (r : Int32) (u : Unit) => gi r 0 5) (fun _ _ => True) (fun _ => False)) 0 0 (fun _ => False) := by
  refine Met.ofW (cc := cX11_runWithFull) (maxL := 2) (ret := (some .int)) (by decide) rfl ?_
  intro p e s m args below meth c s₁ B hml hv
  obtain ⟨rfl, hP, hK, hz⟩ := hv
  have hx := B.exec
  have hb := B.bytes
  have hr := B.returns
  have hts := atoms_spec (ws := (.code yX11_runWithFull cX11_runWithFull 2 (some .int) :: wsGA)) B.pre
  have hown : s.vm.findClass RX11 = some m.cls := findClass_of_methodNamed B.named
  have hlocks := B.notSynchronized
  have hS : va_S (fun _ => False) s.heap s.heap [] := va_S.rf
  have hl := lv_entry ([.int p0, .int p1]) (n := 2) (Nat.le_of_ble_eq_true rfl)
  rw [lg_entry_eq]
  generalize (lg_sl ([.int p0, .int p1]) ++ List.replicate (2 - (lg_sl ([.int p0, .int p1])).length) Slot.unset).toArray = ls at hl ⊢
  have hl : lv_has ls 2 [(0, .int p0), (1, .int p1)] := hl
  refine lv_iload_n hx hb (dk_at dkX11_runWithFull 0 rfl) rfl (lv_at hl 0 rfl) ?_
  refine lv_if_eq (tgt := 9) hx hb (dk_at dkX11_runWithFull 1 rfl) (by decide) (fun c_11 => ?_) (fun c_11 => ?_)
  · have g_12 : gi p0 0 0 := gi_eq c_11 (gi_c 0 0 (by decide))
    refine lv_iconst (v := 1) hx hb (dk_at dkX11_runWithFull 5 rfl) (by decide) ?_
    exact W.iret (v := 1) hx hb hr (fun t ht hW => ⟨⟨1, (), rfl, (gi_w (gi_c 1 1 (by decide)) (by decide)), trivial⟩, hS.F ht⟩) hS.2.2 (dk_at dkX11_runWithFull 6 rfl)
  · have g_13 : gi p0 1 10 := gi_ne_lo c_11 gp0 (gi_c 0 0 (by decide)) (by decide)
    refine lv_iload_n hx hb (dk_at dkX11_runWithFull 2 rfl) rfl (lv_at hl 0 rfl) ?_
    refine lv_iload_n hx hb (dk_at dkX11_runWithFull 3 rfl) rfl (lv_at hl 1 rfl) ?_
    refine lv_icmp_le (tgt := 11) hx hb (dk_at dkX11_runWithFull 4 rfl) (by decide) (fun c_14 => ?_) (fun c_14 => ?_)
    · have g_15 : gi p0 1 5 := gi_le_l c_14 g_13 gp1
      have g_16 : gi p1 1 5 := gi_le_r c_14 g_13 gp1
      refine lv_iload_n hx hb (dk_at dkX11_runWithFull 7 rfl) rfl (lv_at hl 0 rfl) ?_
      refine lv_iload_n hx hb (dk_at dkX11_runWithFull 8 rfl) rfl (lv_at hl 1 rfl) ?_
      refine lv_icmp_ge (tgt := 22) hx hb (dk_at dkX11_runWithFull 9 rfl) (by decide) (fun c_17 => ?_) (fun c_17 => ?_)
      · refine lv_iconst (v := 0) hx hb (dk_at dkX11_runWithFull 14 rfl) (by decide) ?_
        exact W.iret (v := 0) hx hb hr (fun t ht hW => ⟨⟨0, (), rfl, (gi_w (gi_c 0 0 (by decide)) (by decide)), trivial⟩, hS.F ht⟩) hS.2.2 (dk_at dkX11_runWithFull 15 rfl)
      · have g_18 : gi p0 1 4 := gi_lt_l (Int32.not_le.mp c_17) g_15 g_16 (by decide)
        have g_19 : gi p1 2 5 := gi_lt_r (Int32.not_le.mp c_17) g_15 g_16 (by decide)
        refine lv_iload_n hx hb (dk_at dkX11_runWithFull 10 rfl) rfl (lv_at hl 0 rfl) ?_
        refine lv_iconst (v := 1) hx hb (dk_at dkX11_runWithFull 11 rfl) (by decide) ?_
        refine lv_iadd hx hb (dk_at dkX11_runWithFull 12 rfl) ?_
        refine lv_topi (fun x_20 ex_20 => ?_)
        have gx_20 : gi x_20 2 5 := gi_add ex_20 g_18 (gi_c 1 1 (by decide)) (by decide)
        refine lv_goto (tgt := 23) hx hb (dk_at dkX11_runWithFull 13 rfl) (by decide) ?_
        exact W.iret (v := x_20) hx hb hr (fun t ht hW => ⟨⟨x_20, (), rfl, (gi_w gx_20 (by decide)), trivial⟩, hS.F ht⟩) hS.2.2 (dk_at dkX11_runWithFull 15 rfl)
    · refine lv_iconst (v := 1) hx hb (dk_at dkX11_runWithFull 5 rfl) (by decide) ?_
      exact W.iret (v := 1) hx hb hr (fun t ht hW => ⟨⟨1, (), rfl, (gi_w (gi_c 1 1 (by decide)) (by decide)), trivial⟩, hS.F ht⟩) hS.2.2 (dk_at dkX11_runWithFull 6 rfl)
noncomputable def lsX11_runWithLean : List (Nat × Instr × Nat) := [(0, .iload_n 0, 1), (1, .iload_n 1, 1), (2, .if_icmp .gt 7, 3), (5, .iload_n 1, 1), (6, .iconst 1, 1), (7, .iadd, 1), (8, .ireturn, 1), (9, .iload_n 0, 1), (10, .iload_n 1, 1), (11, .iload_n 2, 1), (12, .iadd, 1), (13, .if_icmp .ge 9, 3), (16, .iload_n 0, 1), (17, .iconst 1, 1), (18, .iadd, 1), (19, .goto 4, 3), (22, .iconst 0, 1), (23, .ireturn, 1)]
theorem dkX11_runWithLean : dkAll cX11_runWithLean lsX11_runWithLean = true := by decide +kernel
set_option maxHeartbeats 4000000 in
set_option maxRecDepth 100000 in
theorem sX11_runWithLean (l : Launch) (dC : Nat → ClassId) (dI : Nat → Nat → Nat) (p0 : Int32) (p1 : Int32) (p2 : Int32) (gp0 : gi p0 0 10) (gp1 : gi p1 0 5) (gp2 : gi p2 0 5) : Met l yX11_runWithLean (.code yX11_runWithLean cX11_runWithLean 3 (some .int) :: wsGA) ({ frames := 0, cells := 0, slots := 0, locals := 0 }) (va_Pc [.int p0, .int p1, .int p2] (fun U => va_P (dC, dI) vwCl [] U.heap ∧ va_K (dC, dI) vwCl [] U ∧ nzA U)) (va_Qi (fun (r : Int32) (u : Unit) => gi r 0 10) (fun _ _ => True) (fun _ => False)) 0 0 (fun _ => False) := by
  refine Met.ofW (cc := cX11_runWithLean) (maxL := 3) (ret := (some .int)) (by decide) rfl ?_
  intro p e s m args below meth c s₁ B hml hv
  obtain ⟨rfl, hP, hK, hz⟩ := hv
  have hx := B.exec
  have hb := B.bytes
  have hr := B.returns
  have hts := atoms_spec (ws := (.code yX11_runWithLean cX11_runWithLean 3 (some .int) :: wsGA)) B.pre
  have hown : s.vm.findClass RX11 = some m.cls := findClass_of_methodNamed B.named
  have hlocks := B.notSynchronized
  have hS : va_S (fun _ => False) s.heap s.heap [] := va_S.rf
  have hl := lv_entry ([.int p0, .int p1, .int p2]) (n := 3) (Nat.le_of_ble_eq_true rfl)
  rw [lg_entry_eq]
  generalize (lg_sl ([.int p0, .int p1, .int p2]) ++ List.replicate (3 - (lg_sl ([.int p0, .int p1, .int p2])).length) Slot.unset).toArray = ls at hl ⊢
  have hl : lv_has ls 3 [(0, .int p0), (1, .int p1), (2, .int p2)] := hl
  refine lv_iload_n hx hb (dk_at dkX11_runWithLean 0 rfl) rfl (lv_at hl 0 rfl) ?_
  refine lv_iload_n hx hb (dk_at dkX11_runWithLean 1 rfl) rfl (lv_at hl 1 rfl) ?_
  refine lv_icmp_gt (tgt := 9) hx hb (dk_at dkX11_runWithLean 2 rfl) (by decide) (fun c_10 => ?_) (fun c_10 => ?_)
  · have g_11 : gi p0 1 10 := gi_lt_r c_10 gp1 gp0 (by decide)
    refine lv_iload_n hx hb (dk_at dkX11_runWithLean 7 rfl) rfl (lv_at hl 0 rfl) ?_
    refine lv_iload_n hx hb (dk_at dkX11_runWithLean 8 rfl) rfl (lv_at hl 1 rfl) ?_
    refine lv_iload_n hx hb (dk_at dkX11_runWithLean 9 rfl) rfl (lv_at hl 2 rfl) ?_
    refine lv_iadd hx hb (dk_at dkX11_runWithLean 10 rfl) ?_
    refine lv_topi (fun x_12 ex_12 => ?_)
    have gx_12 : gi x_12 0 10 := gi_add ex_12 gp1 gp2 (by decide)
    refine lv_icmp_ge (tgt := 22) hx hb (dk_at dkX11_runWithLean 11 rfl) (by decide) (fun c_13 => ?_) (fun c_13 => ?_)
    · refine lv_iconst (v := 0) hx hb (dk_at dkX11_runWithLean 16 rfl) (by decide) ?_
      exact W.iret (v := 0) hx hb hr (fun t ht hW => ⟨⟨0, (), rfl, (gi_w (gi_c 0 0 (by decide)) (by decide)), trivial⟩, hS.F ht⟩) hS.2.2 (dk_at dkX11_runWithLean 17 rfl)
    · have g_14 : gi p0 1 9 := gi_lt_l (Int32.not_le.mp c_13) g_11 gx_12 (by decide)
      have g_15 : gi x_12 2 10 := gi_lt_r (Int32.not_le.mp c_13) g_11 gx_12 (by decide)
      refine lv_iload_n hx hb (dk_at dkX11_runWithLean 12 rfl) rfl (lv_at hl 0 rfl) ?_
      refine lv_iconst (v := 1) hx hb (dk_at dkX11_runWithLean 13 rfl) (by decide) ?_
      refine lv_iadd hx hb (dk_at dkX11_runWithLean 14 rfl) ?_
      refine lv_topi (fun x_16 ex_16 => ?_)
      have gx_16 : gi x_16 2 10 := gi_add ex_16 g_14 (gi_c 1 1 (by decide)) (by decide)
      refine lv_goto (tgt := 23) hx hb (dk_at dkX11_runWithLean 15 rfl) (by decide) ?_
      exact W.iret (v := x_16) hx hb hr (fun t ht hW => ⟨⟨x_16, (), rfl, (gi_w gx_16 (by decide)), trivial⟩, hS.F ht⟩) hS.2.2 (dk_at dkX11_runWithLean 17 rfl)
  · have g_17 : gi p0 0 5 := gi_le_l (Int32.not_lt.mp c_10) gp0 gp1
    refine lv_iload_n hx hb (dk_at dkX11_runWithLean 3 rfl) rfl (lv_at hl 1 rfl) ?_
    refine lv_iconst (v := 1) hx hb (dk_at dkX11_runWithLean 4 rfl) (by decide) ?_
    refine lv_iadd hx hb (dk_at dkX11_runWithLean 5 rfl) ?_
    refine lv_topi (fun x_18 ex_18 => ?_)
    have gx_18 : gi x_18 1 6 := gi_add ex_18 gp1 (gi_c 1 1 (by decide)) (by decide)
    exact W.iret (v := x_18) hx hb hr (fun t ht hW => ⟨⟨x_18, (), rfl, (gi_w gx_18 (by decide)), trivial⟩, hS.F ht⟩) hS.2.2 (dk_at dkX11_runWithLean 6 rfl)
noncomputable def lsX11_firstRun : List (Nat × Instr × Nat) := [(0, .iload_n 0, 1), (1, .ifCond .ne 7, 3), (4, .iconst 0, 1), (5, .goto 4, 3), (8, .iconst 1, 1), (9, .ireturn, 1)]
theorem dkX11_firstRun : dkAll cX11_firstRun lsX11_firstRun = true := by decide +kernel
set_option maxHeartbeats 4000000 in
set_option maxRecDepth 100000 in
theorem sX11_firstRun (l : Launch) (dC : Nat → ClassId) (dI : Nat → Nat → Nat) (p0 : Int32) (gp0 : gi p0 0 24) : Met l yX11_firstRun (.code yX11_firstRun cX11_firstRun 1 (some .int) :: wsGA) ({ frames := 0, cells := 0, slots := 0, locals := 0 }) (va_Pc [.int p0] (fun U => va_P (dC, dI) vwCl [] U.heap ∧ va_K (dC, dI) vwCl [] U ∧ nzA U)) (va_Qi (fun (r : Int32) (u : Unit) => gi r 0 1) (fun _ _ => True) (fun _ => False)) 0 0 (fun _ => False) := by
  refine Met.ofW (cc := cX11_firstRun) (maxL := 1) (ret := (some .int)) (by decide) rfl ?_
  intro p e s m args below meth c s₁ B hml hv
  obtain ⟨rfl, hP, hK, hz⟩ := hv
  have hx := B.exec
  have hb := B.bytes
  have hr := B.returns
  have hts := atoms_spec (ws := (.code yX11_firstRun cX11_firstRun 1 (some .int) :: wsGA)) B.pre
  have hown : s.vm.findClass RX11 = some m.cls := findClass_of_methodNamed B.named
  have hlocks := B.notSynchronized
  have hS : va_S (fun _ => False) s.heap s.heap [] := va_S.rf
  have hl := lv_entry ([.int p0]) (n := 1) (Nat.le_of_ble_eq_true rfl)
  rw [lg_entry_eq]
  generalize (lg_sl ([.int p0]) ++ List.replicate (1 - (lg_sl ([.int p0])).length) Slot.unset).toArray = ls at hl ⊢
  have hl : lv_has ls 1 [(0, .int p0)] := hl
  refine lv_iload_n hx hb (dk_at dkX11_firstRun 0 rfl) rfl (lv_at hl 0 rfl) ?_
  refine lv_if_ne (tgt := 8) hx hb (dk_at dkX11_firstRun 1 rfl) (by decide) (fun c_4 => ?_) (fun c_4 => ?_)
  · have g_5 : gi p0 1 24 := gi_ne_lo c_4 gp0 (gi_c 0 0 (by decide)) (by decide)
    refine lv_iconst (v := 1) hx hb (dk_at dkX11_firstRun 4 rfl) (by decide) ?_
    exact W.iret (v := 1) hx hb hr (fun t ht hW => ⟨⟨1, (), rfl, (gi_w (gi_c 1 1 (by decide)) (by decide)), trivial⟩, hS.F ht⟩) hS.2.2 (dk_at dkX11_firstRun 5 rfl)
  · have g_6 : gi p0 0 0 := gi_eq c_4 (gi_c 0 0 (by decide))
    refine lv_iconst (v := 0) hx hb (dk_at dkX11_firstRun 2 rfl) (by decide) ?_
    refine lv_goto (tgt := 9) hx hb (dk_at dkX11_firstRun 3 rfl) (by decide) ?_
    exact W.iret (v := 0) hx hb hr (fun t ht hW => ⟨⟨0, (), rfl, (gi_w (gi_c 0 0 (by decide)) (by decide)), trivial⟩, hS.F ht⟩) hS.2.2 (dk_at dkX11_firstRun 5 rfl)
noncomputable def lsX11_lastRun : List (Nat × Instr × Nat) := [(0, .iload_n 0, 1), (1, .ifCond .ne 7, 3), (4, .iconst 0, 1), (5, .goto 6, 3), (8, .iload_n 1, 1), (9, .iload_n 2, 1), (10, .iadd, 1), (11, .ireturn, 1)]
theorem dkX11_lastRun : dkAll cX11_lastRun lsX11_lastRun = true := by decide +kernel
set_option maxHeartbeats 4000000 in
set_option maxRecDepth 100000 in
theorem sX11_lastRun (l : Launch) (dC : Nat → ClassId) (dI : Nat → Nat → Nat) (p0 : Int32) (p1 : Int32) (p2 : Int32) (gp0 : gi p0 0 24) (gp1 : gi p1 0 5) (gp2 : gi p2 0 5) : Met l yX11_lastRun (.code yX11_lastRun cX11_lastRun 3 (some .int) :: wsGA) ({ frames := 0, cells := 0, slots := 0, locals := 0 }) (va_Pc [.int p0, .int p1, .int p2] (fun U => va_P (dC, dI) vwCl [] U.heap ∧ va_K (dC, dI) vwCl [] U ∧ nzA U)) (va_Qi (fun (r : Int32) (u : Unit) => gi r 0 10) (fun _ _ => True) (fun _ => False)) 0 0 (fun _ => False) := by
  refine Met.ofW (cc := cX11_lastRun) (maxL := 3) (ret := (some .int)) (by decide) rfl ?_
  intro p e s m args below meth c s₁ B hml hv
  obtain ⟨rfl, hP, hK, hz⟩ := hv
  have hx := B.exec
  have hb := B.bytes
  have hr := B.returns
  have hts := atoms_spec (ws := (.code yX11_lastRun cX11_lastRun 3 (some .int) :: wsGA)) B.pre
  have hown : s.vm.findClass RX11 = some m.cls := findClass_of_methodNamed B.named
  have hlocks := B.notSynchronized
  have hS : va_S (fun _ => False) s.heap s.heap [] := va_S.rf
  have hl := lv_entry ([.int p0, .int p1, .int p2]) (n := 3) (Nat.le_of_ble_eq_true rfl)
  rw [lg_entry_eq]
  generalize (lg_sl ([.int p0, .int p1, .int p2]) ++ List.replicate (3 - (lg_sl ([.int p0, .int p1, .int p2])).length) Slot.unset).toArray = ls at hl ⊢
  have hl : lv_has ls 3 [(0, .int p0), (1, .int p1), (2, .int p2)] := hl
  refine lv_iload_n hx hb (dk_at dkX11_lastRun 0 rfl) rfl (lv_at hl 0 rfl) ?_
  refine lv_if_ne (tgt := 8) hx hb (dk_at dkX11_lastRun 1 rfl) (by decide) (fun c_5 => ?_) (fun c_5 => ?_)
  · have g_6 : gi p0 1 24 := gi_ne_lo c_5 gp0 (gi_c 0 0 (by decide)) (by decide)
    refine lv_iload_n hx hb (dk_at dkX11_lastRun 4 rfl) rfl (lv_at hl 1 rfl) ?_
    refine lv_iload_n hx hb (dk_at dkX11_lastRun 5 rfl) rfl (lv_at hl 2 rfl) ?_
    refine lv_iadd hx hb (dk_at dkX11_lastRun 6 rfl) ?_
    refine lv_topi (fun x_7 ex_7 => ?_)
    have gx_7 : gi x_7 0 10 := gi_add ex_7 gp1 gp2 (by decide)
    exact W.iret (v := x_7) hx hb hr (fun t ht hW => ⟨⟨x_7, (), rfl, gx_7, trivial⟩, hS.F ht⟩) hS.2.2 (dk_at dkX11_lastRun 7 rfl)
  · have g_8 : gi p0 0 0 := gi_eq c_5 (gi_c 0 0 (by decide))
    refine lv_iconst (v := 0) hx hb (dk_at dkX11_lastRun 2 rfl) (by decide) ?_
    refine lv_goto (tgt := 11) hx hb (dk_at dkX11_lastRun 3 rfl) (by decide) ?_
    exact W.iret (v := 0) hx hb hr (fun t ht hW => ⟨⟨0, (), rfl, (gi_w (gi_c 0 0 (by decide)) (by decide)), trivial⟩, hS.F ht⟩) hS.2.2 (dk_at dkX11_lastRun 7 rfl)
noncomputable def lsX11_cell : List (Nat × Instr × Nat) := [(0, .iload_n 0, 1), (1, .iload_n 0, 1), (2, .iconst 1, 1), (3, .iadd, 1), (4, .imul, 1), (5, .iconst 2, 1), (6, .idiv, 1), (7, .iload_n 1, 1), (8, .iadd, 1), (9, .ireturn, 1)]
theorem dkX11_cell : dkAll cX11_cell lsX11_cell = true := by decide +kernel
set_option maxHeartbeats 4000000 in
set_option maxRecDepth 100000 in
theorem sX11_cell0 (l : Launch) (dC : Nat → ClassId) (dI : Nat → Nat → Nat) (p0 : Int32) (p1 : Int32) (gp0 : gi p0 0 24) (gp1 : gi p1 0 0) : Met l yX11_cell (.code yX11_cell cX11_cell 2 (some .int) :: wsGA) ({ frames := 0, cells := 0, slots := 0, locals := 0 }) (va_Pc [.int p0, .int p1] (fun U => va_P (dC, dI) vwCl [] U.heap ∧ va_K (dC, dI) vwCl [] U ∧ nzA U)) (va_Qi (fun (r : Int32) (u : Unit) => gi r 0 300) (fun _ _ => True) (fun _ => False)) 0 0 (fun _ => False) := by
  refine Met.ofW (cc := cX11_cell) (maxL := 2) (ret := (some .int)) (by decide) rfl ?_
  intro p e s m args below meth c s₁ B hml hv
  obtain ⟨rfl, hP, hK, hz⟩ := hv
  have hx := B.exec
  have hb := B.bytes
  have hr := B.returns
  have hts := atoms_spec (ws := (.code yX11_cell cX11_cell 2 (some .int) :: wsGA)) B.pre
  have hown : s.vm.findClass RX11 = some m.cls := findClass_of_methodNamed B.named
  have hlocks := B.notSynchronized
  have hS : va_S (fun _ => False) s.heap s.heap [] := va_S.rf
  have hl := lv_entry ([.int p0, .int p1]) (n := 2) (Nat.le_of_ble_eq_true rfl)
  rw [lg_entry_eq]
  generalize (lg_sl ([.int p0, .int p1]) ++ List.replicate (2 - (lg_sl ([.int p0, .int p1])).length) Slot.unset).toArray = ls at hl ⊢
  have hl : lv_has ls 2 [(0, .int p0), (1, .int p1)] := hl
  refine lv_iload_n hx hb (dk_at dkX11_cell 0 rfl) rfl (lv_at hl 0 rfl) ?_
  refine lv_iload_n hx hb (dk_at dkX11_cell 1 rfl) rfl (lv_at hl 0 rfl) ?_
  refine lv_iconst (v := 1) hx hb (dk_at dkX11_cell 2 rfl) (by decide) ?_
  refine lv_iadd hx hb (dk_at dkX11_cell 3 rfl) ?_
  refine lv_topi (fun x_5 ex_5 => ?_)
  have gx_5 : gi x_5 1 25 := gi_add ex_5 gp0 (gi_c 1 1 (by decide)) (by decide)
  refine lv_imul hx hb (dk_at dkX11_cell 4 rfl) ?_
  refine lv_topi (fun x_6 ex_6 => ?_)
  have gx_6 : gi x_6 0 600 := gi_mul ex_6 gp0 gx_5 (by decide)
  refine lv_iconst (v := 2) hx hb (dk_at dkX11_cell 5 rfl) (by decide) ?_
  refine lv_idiv hx hb (dk_at dkX11_cell 6 rfl) (by decide) ?_
  refine lv_topi (fun x_7 ex_7 => ?_)
  have gx_7 : gi x_7 0 300 := gi_div ex_7 gx_6 (gi_c 2 2 (by decide)) (by decide)
  refine lv_iload_n hx hb (dk_at dkX11_cell 7 rfl) rfl (lv_at hl 1 rfl) ?_
  refine lv_iadd hx hb (dk_at dkX11_cell 8 rfl) ?_
  refine lv_topi (fun x_8 ex_8 => ?_)
  have gx_8 : gi x_8 0 300 := gi_add ex_8 gx_7 gp1 (by decide)
  exact W.iret (v := x_8) hx hb hr (fun t ht hW => ⟨⟨x_8, (), rfl, gx_8, trivial⟩, hS.F ht⟩) hS.2.2 (dk_at dkX11_cell 9 rfl)
set_option maxHeartbeats 4000000 in
set_option maxRecDepth 100000 in
theorem sX11_cell (l : Launch) (dC : Nat → ClassId) (dI : Nat → Nat → Nat) (p0 : Int32) (p1 : Int32) (gp0 : gi p0 0 24) (gp1 : gi p1 0 24) : Met l yX11_cell (.code yX11_cell cX11_cell 2 (some .int) :: wsGA) ({ frames := 0, cells := 0, slots := 0, locals := 0 }) (va_Pc [.int p0, .int p1] (fun U => va_P (dC, dI) vwCl [] U.heap ∧ va_K (dC, dI) vwCl [] U ∧ nzA U)) (va_Qi (fun (r : Int32) (u : Unit) => gi r 0 324) (fun _ _ => True) (fun _ => False)) 0 0 (fun _ => False) := by
  refine Met.ofW (cc := cX11_cell) (maxL := 2) (ret := (some .int)) (by decide) rfl ?_
  intro p e s m args below meth c s₁ B hml hv
  obtain ⟨rfl, hP, hK, hz⟩ := hv
  have hx := B.exec
  have hb := B.bytes
  have hr := B.returns
  have hts := atoms_spec (ws := (.code yX11_cell cX11_cell 2 (some .int) :: wsGA)) B.pre
  have hown : s.vm.findClass RX11 = some m.cls := findClass_of_methodNamed B.named
  have hlocks := B.notSynchronized
  have hS : va_S (fun _ => False) s.heap s.heap [] := va_S.rf
  have hl := lv_entry ([.int p0, .int p1]) (n := 2) (Nat.le_of_ble_eq_true rfl)
  rw [lg_entry_eq]
  generalize (lg_sl ([.int p0, .int p1]) ++ List.replicate (2 - (lg_sl ([.int p0, .int p1])).length) Slot.unset).toArray = ls at hl ⊢
  have hl : lv_has ls 2 [(0, .int p0), (1, .int p1)] := hl
  refine lv_iload_n hx hb (dk_at dkX11_cell 0 rfl) rfl (lv_at hl 0 rfl) ?_
  refine lv_iload_n hx hb (dk_at dkX11_cell 1 rfl) rfl (lv_at hl 0 rfl) ?_
  refine lv_iconst (v := 1) hx hb (dk_at dkX11_cell 2 rfl) (by decide) ?_
  refine lv_iadd hx hb (dk_at dkX11_cell 3 rfl) ?_
  refine lv_topi (fun x_5 ex_5 => ?_)
  have gx_5 : gi x_5 1 25 := gi_add ex_5 gp0 (gi_c 1 1 (by decide)) (by decide)
  refine lv_imul hx hb (dk_at dkX11_cell 4 rfl) ?_
  refine lv_topi (fun x_6 ex_6 => ?_)
  have gx_6 : gi x_6 0 600 := gi_mul ex_6 gp0 gx_5 (by decide)
  refine lv_iconst (v := 2) hx hb (dk_at dkX11_cell 5 rfl) (by decide) ?_
  refine lv_idiv hx hb (dk_at dkX11_cell 6 rfl) (by decide) ?_
  refine lv_topi (fun x_7 ex_7 => ?_)
  have gx_7 : gi x_7 0 300 := gi_div ex_7 gx_6 (gi_c 2 2 (by decide)) (by decide)
  refine lv_iload_n hx hb (dk_at dkX11_cell 7 rfl) rfl (lv_at hl 1 rfl) ?_
  refine lv_iadd hx hb (dk_at dkX11_cell 8 rfl) ?_
  refine lv_topi (fun x_8 ex_8 => ?_)
  have gx_8 : gi x_8 0 324 := gi_add ex_8 gx_7 gp1 (by decide)
  exact W.iret (v := x_8) hx hb hr (fun t ht hW => ⟨⟨x_8, (), rfl, gx_8, trivial⟩, hS.F ht⟩) hS.2.2 (dk_at dkX11_cell 9 rfl)
noncomputable def lsX11_spot : List (Nat × Instr × Nat) := [(0, .iload_n 0, 1), (1, .iload_n 1, 1), (2, .invokestatic 425, 3), (5, .bipush 11, 2), (7, .imul, 1), (8, .iload_n 2, 1), (9, .iadd, 1), (10, .ireturn, 1)]
theorem dkX11_spot : dkAll cX11_spot lsX11_spot = true := by decide +kernel
set_option maxHeartbeats 4000000 in
set_option maxRecDepth 100000 in
theorem sX11_spot00 (l : Launch) (dC : Nat → ClassId) (dI : Nat → Nat → Nat) (p0 : Int32) (p1 : Int32) (p2 : Int32) (gp0 : gi p0 0 24) (gp1 : gi p1 0 0) (gp2 : gi p2 0 0) : Met l yX11_spot (.code yX11_spot cX11_spot 3 (some .int) :: wsGA) ({ frames := 1, cells := 0, slots := 0, locals := 21 }) (va_Pc [.int p0, .int p1, .int p2] (fun U => va_P (dC, dI) vwCl [] U.heap ∧ va_K (dC, dI) vwCl [] U ∧ nzA U)) (va_Qi (fun (r : Int32) (u : Unit) => gi r 0 3300) (fun _ _ => True) (fun _ => False)) 0 0 (fun _ => False) := by
  refine Met.ofW (cc := cX11_spot) (maxL := 3) (ret := (some .int)) (by decide) rfl ?_
  intro p e s m args below meth c s₁ B hml hv
  obtain ⟨rfl, hP, hK, hz⟩ := hv
  have hx := B.exec
  have hb := B.bytes
  have hr := B.returns
  have hts := atoms_spec (ws := (.code yX11_spot cX11_spot 3 (some .int) :: wsGA)) B.pre
  have hown : s.vm.findClass RX11 = some m.cls := findClass_of_methodNamed B.named
  have hlocks := B.notSynchronized
  have hS : va_S (fun _ => False) s.heap s.heap [] := va_S.rf
  have hl := lv_entry ([.int p0, .int p1, .int p2]) (n := 3) (Nat.le_of_ble_eq_true rfl)
  rw [lg_entry_eq]
  generalize (lg_sl ([.int p0, .int p1, .int p2]) ++ List.replicate (3 - (lg_sl ([.int p0, .int p1, .int p2])).length) Slot.unset).toArray = ls at hl ⊢
  have hl : lv_has ls 3 [(0, .int p0), (1, .int p1), (2, .int p2)] := hl
  refine lv_iload_n hx hb (dk_at dkX11_spot 0 rfl) rfl (lv_at hl 0 rfl) ?_
  refine lv_iload_n hx hb (dk_at dkX11_spot 1 rfl) rfl (lv_at hl 1 rfl) ?_
  have hPc := hP.sub (ws' := []) [] rfl
  have hKc := hK.sub (tys' := []) [] rfl
  refine va_calli (va_runS (As := [.int p0, .int p1]) (rest := []) ⟨hx, hb, hml, hown, hts⟩ (sX11_cell0 l dC dI p0 p1 gp0 gp1) (cwS 2 hts (gz_gS mGA_583 mGA_584 mGA_1 mGA_585 goodGA) rfl rfl rfl (by decide +kernel) ⟨Nat.le_of_ble_eq_true rfl, Nat.le_of_ble_eq_true rfl⟩) ⟨bl_I (bl_a bl_P (bl_a bl_K bl_nz)), fun U hU hW => ⟨rfl, by rw [hU]; exact hPc, va_K.moved hW.alike hKc, nzA_warm hW hz⟩⟩ rfl rfl hl.1 rfl (lv_room (Nat.le_of_ble_eq_true rfl)) (dk_at dkX11_spot 2 rfl) ⟨Nat.zero_le _, Nat.zero_le _⟩) hS (fun q _ h => h.elim) (fun q h => h.elim) (fun r_4 u t H1 locs ht hvm hw hB hz1 hk1 hS => ?_)
  have hP := gz_keep hP hk1
  generalize H1 = H at hP hS ⊢
  have gr_4 : gi r_4 0 300 := hw
  refine lv_bipush (v := 11) hx hb (dk_at dkX11_spot 3 rfl) (by decide) ?_
  refine lv_imul hx hb (dk_at dkX11_spot 4 rfl) ?_
  refine lv_topi (fun x_5 ex_5 => ?_)
  have gx_5 : gi x_5 0 3300 := gi_mul ex_5 gr_4 (gi_c 11 11 (by decide)) (by decide)
  refine lv_iload_n hx hb (dk_at dkX11_spot 5 rfl) rfl (lv_at hl 2 rfl) ?_
  refine lv_iadd hx hb (dk_at dkX11_spot 6 rfl) ?_
  refine lv_topi (fun x_6 ex_6 => ?_)
  have gx_6 : gi x_6 0 3300 := gi_add ex_6 gx_5 gp2 (by decide)
  exact W.iret (v := x_6) hx hb hr (fun t ht hW => ⟨⟨x_6, (), rfl, gx_6, trivial⟩, hS.F ht⟩) hS.2.2 (dk_at dkX11_spot 7 rfl)
set_option maxHeartbeats 4000000 in
set_option maxRecDepth 100000 in
theorem sX11_spot0 (l : Launch) (dC : Nat → ClassId) (dI : Nat → Nat → Nat) (p0 : Int32) (p1 : Int32) (p2 : Int32) (gp0 : gi p0 0 24) (gp1 : gi p1 0 24) (gp2 : gi p2 0 0) : Met l yX11_spot (.code yX11_spot cX11_spot 3 (some .int) :: wsGA) ({ frames := 1, cells := 0, slots := 0, locals := 21 }) (va_Pc [.int p0, .int p1, .int p2] (fun U => va_P (dC, dI) vwCl [] U.heap ∧ va_K (dC, dI) vwCl [] U ∧ nzA U)) (va_Qi (fun (r : Int32) (u : Unit) => gi r 0 3564) (fun _ _ => True) (fun _ => False)) 0 0 (fun _ => False) := by
  refine Met.ofW (cc := cX11_spot) (maxL := 3) (ret := (some .int)) (by decide) rfl ?_
  intro p e s m args below meth c s₁ B hml hv
  obtain ⟨rfl, hP, hK, hz⟩ := hv
  have hx := B.exec
  have hb := B.bytes
  have hr := B.returns
  have hts := atoms_spec (ws := (.code yX11_spot cX11_spot 3 (some .int) :: wsGA)) B.pre
  have hown : s.vm.findClass RX11 = some m.cls := findClass_of_methodNamed B.named
  have hlocks := B.notSynchronized
  have hS : va_S (fun _ => False) s.heap s.heap [] := va_S.rf
  have hl := lv_entry ([.int p0, .int p1, .int p2]) (n := 3) (Nat.le_of_ble_eq_true rfl)
  rw [lg_entry_eq]
  generalize (lg_sl ([.int p0, .int p1, .int p2]) ++ List.replicate (3 - (lg_sl ([.int p0, .int p1, .int p2])).length) Slot.unset).toArray = ls at hl ⊢
  have hl : lv_has ls 3 [(0, .int p0), (1, .int p1), (2, .int p2)] := hl
  refine lv_iload_n hx hb (dk_at dkX11_spot 0 rfl) rfl (lv_at hl 0 rfl) ?_
  refine lv_iload_n hx hb (dk_at dkX11_spot 1 rfl) rfl (lv_at hl 1 rfl) ?_
  have hPc := hP.sub (ws' := []) [] rfl
  have hKc := hK.sub (tys' := []) [] rfl
  refine va_calli (va_runS (As := [.int p0, .int p1]) (rest := []) ⟨hx, hb, hml, hown, hts⟩ (sX11_cell l dC dI p0 p1 gp0 gp1) (cwS 2 hts (gz_gS mGA_583 mGA_584 mGA_1 mGA_585 goodGA) rfl rfl rfl (by decide +kernel) ⟨Nat.le_of_ble_eq_true rfl, Nat.le_of_ble_eq_true rfl⟩) ⟨bl_I (bl_a bl_P (bl_a bl_K bl_nz)), fun U hU hW => ⟨rfl, by rw [hU]; exact hPc, va_K.moved hW.alike hKc, nzA_warm hW hz⟩⟩ rfl rfl hl.1 rfl (lv_room (Nat.le_of_ble_eq_true rfl)) (dk_at dkX11_spot 2 rfl) ⟨Nat.zero_le _, Nat.zero_le _⟩) hS (fun q _ h => h.elim) (fun q h => h.elim) (fun r_4 u t H1 locs ht hvm hw hB hz1 hk1 hS => ?_)
  have hP := gz_keep hP hk1
  generalize H1 = H at hP hS ⊢
  have gr_4 : gi r_4 0 324 := hw
  refine lv_bipush (v := 11) hx hb (dk_at dkX11_spot 3 rfl) (by decide) ?_
  refine lv_imul hx hb (dk_at dkX11_spot 4 rfl) ?_
  refine lv_topi (fun x_5 ex_5 => ?_)
  have gx_5 : gi x_5 0 3564 := gi_mul ex_5 gr_4 (gi_c 11 11 (by decide)) (by decide)
  refine lv_iload_n hx hb (dk_at dkX11_spot 5 rfl) rfl (lv_at hl 2 rfl) ?_
  refine lv_iadd hx hb (dk_at dkX11_spot 6 rfl) ?_
  refine lv_topi (fun x_6 ex_6 => ?_)
  have gx_6 : gi x_6 0 3564 := gi_add ex_6 gx_5 gp2 (by decide)
  exact W.iret (v := x_6) hx hb hr (fun t ht hW => ⟨⟨x_6, (), rfl, gx_6, trivial⟩, hS.F ht⟩) hS.2.2 (dk_at dkX11_spot 7 rfl)
set_option maxHeartbeats 4000000 in
set_option maxRecDepth 100000 in
theorem sX11_spot (l : Launch) (dC : Nat → ClassId) (dI : Nat → Nat → Nat) (p0 : Int32) (p1 : Int32) (p2 : Int32) (gp0 : gi p0 0 24) (gp1 : gi p1 0 24) (gp2 : gi p2 0 10) : Met l yX11_spot (.code yX11_spot cX11_spot 3 (some .int) :: wsGA) ({ frames := 1, cells := 0, slots := 0, locals := 21 }) (va_Pc [.int p0, .int p1, .int p2] (fun U => va_P (dC, dI) vwCl [] U.heap ∧ va_K (dC, dI) vwCl [] U ∧ nzA U)) (va_Qi (fun (r : Int32) (u : Unit) => gi r 0 3574) (fun _ _ => True) (fun _ => False)) 0 0 (fun _ => False) := by
  refine Met.ofW (cc := cX11_spot) (maxL := 3) (ret := (some .int)) (by decide) rfl ?_
  intro p e s m args below meth c s₁ B hml hv
  obtain ⟨rfl, hP, hK, hz⟩ := hv
  have hx := B.exec
  have hb := B.bytes
  have hr := B.returns
  have hts := atoms_spec (ws := (.code yX11_spot cX11_spot 3 (some .int) :: wsGA)) B.pre
  have hown : s.vm.findClass RX11 = some m.cls := findClass_of_methodNamed B.named
  have hlocks := B.notSynchronized
  have hS : va_S (fun _ => False) s.heap s.heap [] := va_S.rf
  have hl := lv_entry ([.int p0, .int p1, .int p2]) (n := 3) (Nat.le_of_ble_eq_true rfl)
  rw [lg_entry_eq]
  generalize (lg_sl ([.int p0, .int p1, .int p2]) ++ List.replicate (3 - (lg_sl ([.int p0, .int p1, .int p2])).length) Slot.unset).toArray = ls at hl ⊢
  have hl : lv_has ls 3 [(0, .int p0), (1, .int p1), (2, .int p2)] := hl
  refine lv_iload_n hx hb (dk_at dkX11_spot 0 rfl) rfl (lv_at hl 0 rfl) ?_
  refine lv_iload_n hx hb (dk_at dkX11_spot 1 rfl) rfl (lv_at hl 1 rfl) ?_
  have hPc := hP.sub (ws' := []) [] rfl
  have hKc := hK.sub (tys' := []) [] rfl
  refine va_calli (va_runS (As := [.int p0, .int p1]) (rest := []) ⟨hx, hb, hml, hown, hts⟩ (sX11_cell l dC dI p0 p1 gp0 gp1) (cwS 2 hts (gz_gS mGA_583 mGA_584 mGA_1 mGA_585 goodGA) rfl rfl rfl (by decide +kernel) ⟨Nat.le_of_ble_eq_true rfl, Nat.le_of_ble_eq_true rfl⟩) ⟨bl_I (bl_a bl_P (bl_a bl_K bl_nz)), fun U hU hW => ⟨rfl, by rw [hU]; exact hPc, va_K.moved hW.alike hKc, nzA_warm hW hz⟩⟩ rfl rfl hl.1 rfl (lv_room (Nat.le_of_ble_eq_true rfl)) (dk_at dkX11_spot 2 rfl) ⟨Nat.zero_le _, Nat.zero_le _⟩) hS (fun q _ h => h.elim) (fun q h => h.elim) (fun r_4 u t H1 locs ht hvm hw hB hz1 hk1 hS => ?_)
  have hP := gz_keep hP hk1
  generalize H1 = H at hP hS ⊢
  have gr_4 : gi r_4 0 324 := hw
  refine lv_bipush (v := 11) hx hb (dk_at dkX11_spot 3 rfl) (by decide) ?_
  refine lv_imul hx hb (dk_at dkX11_spot 4 rfl) ?_
  refine lv_topi (fun x_5 ex_5 => ?_)
  have gx_5 : gi x_5 0 3564 := gi_mul ex_5 gr_4 (gi_c 11 11 (by decide)) (by decide)
  refine lv_iload_n hx hb (dk_at dkX11_spot 5 rfl) rfl (lv_at hl 2 rfl) ?_
  refine lv_iadd hx hb (dk_at dkX11_spot 6 rfl) ?_
  refine lv_topi (fun x_6 ex_6 => ?_)
  have gx_6 : gi x_6 0 3574 := gi_add ex_6 gx_5 gp2 (by decide)
  exact W.iret (v := x_6) hx hb hr (fun t ht hW => ⟨⟨x_6, (), rfl, gx_6, trivial⟩, hS.F ht⟩) hS.2.2 (dk_at dkX11_spot 7 rfl)
noncomputable def lsX11_isEither : List (Nat × Instr × Nat) := [(0, .iload_n 0, 1), (1, .ifCond .eq 8, 3), (4, .iload_n 0, 1), (5, .iconst 1, 1), (6, .if_icmp .ne 7, 3), (9, .iconst 1, 1), (10, .goto 4, 3), (13, .iconst 0, 1), (14, .ireturn, 1)]
theorem dkX11_isEither : dkAll cX11_isEither lsX11_isEither = true := by decide +kernel
set_option maxHeartbeats 4000000 in
set_option maxRecDepth 100000 in
theorem sX11_isEither (l : Launch) (dC : Nat → ClassId) (dI : Nat → Nat → Nat) (p0 : Int32)  : Met l yX11_isEither (.code yX11_isEither cX11_isEither 1 (some .boolean) :: wsGA) ({ frames := 0, cells := 0, slots := 0, locals := 0 }) (va_Pc [.int p0] (fun U => va_P (dC, dI) vwCl [] U.heap ∧ va_K (dC, dI) vwCl [] U ∧ nzA U)) (va_Qi (fun (r : Int32) (u : Unit) => gi r 0 1) (fun _ _ => True) (fun _ => False)) 0 0 (fun _ => False) := by
  refine Met.ofW (cc := cX11_isEither) (maxL := 1) (ret := (some .boolean)) (by decide) rfl ?_
  intro p e s m args below meth c s₁ B hml hv
  obtain ⟨rfl, hP, hK, hz⟩ := hv
  have hx := B.exec
  have hb := B.bytes
  have hr := B.returns
  have hts := atoms_spec (ws := (.code yX11_isEither cX11_isEither 1 (some .boolean) :: wsGA)) B.pre
  have hown : s.vm.findClass RX11 = some m.cls := findClass_of_methodNamed B.named
  have hlocks := B.notSynchronized
  have hS : va_S (fun _ => False) s.heap s.heap [] := va_S.rf
  have hl := lv_entry ([.int p0]) (n := 1) (Nat.le_of_ble_eq_true rfl)
  rw [lg_entry_eq]
  generalize (lg_sl ([.int p0]) ++ List.replicate (1 - (lg_sl ([.int p0])).length) Slot.unset).toArray = ls at hl ⊢
  have hl : lv_has ls 1 [(0, .int p0)] := hl
  refine lv_iload_n hx hb (dk_at dkX11_isEither 0 rfl) rfl (lv_at hl 0 rfl) ?_
  refine lv_if_eq (tgt := 9) hx hb (dk_at dkX11_isEither 1 rfl) (by decide) (fun c_5 => ?_) (fun c_5 => ?_)
  · have g_6 : gi p0 0 0 := gi_eq c_5 (gi_c 0 0 (by decide))
    refine lv_iconst (v := 1) hx hb (dk_at dkX11_isEither 5 rfl) (by decide) ?_
    refine lv_goto (tgt := 14) hx hb (dk_at dkX11_isEither 6 rfl) (by decide) ?_
    exact W.zret (v := 1) hx hb hr (by decide) (fun t ht hW => ⟨⟨1, (), rfl, (gi_w (gi_c 1 1 (by decide)) (by decide)), trivial⟩, hS.F ht⟩) hS.2.2 (dk_at dkX11_isEither 8 rfl)
  · refine lv_iload_n hx hb (dk_at dkX11_isEither 2 rfl) rfl (lv_at hl 0 rfl) ?_
    refine lv_iconst (v := 1) hx hb (dk_at dkX11_isEither 3 rfl) (by decide) ?_
    refine lv_icmp_ne (tgt := 13) hx hb (dk_at dkX11_isEither 4 rfl) (by decide) (fun c_7 => ?_) (fun c_7 => ?_)
    · refine lv_iconst (v := 0) hx hb (dk_at dkX11_isEither 7 rfl) (by decide) ?_
      exact W.zret (v := 0) hx hb hr (by decide) (fun t ht hW => ⟨⟨0, (), rfl, (gi_w (gi_c 0 0 (by decide)) (by decide)), trivial⟩, hS.F ht⟩) hS.2.2 (dk_at dkX11_isEither 8 rfl)
    · have g_8 : gi p0 1 1 := gi_eq c_7 (gi_c 1 1 (by decide))
      refine lv_iconst (v := 1) hx hb (dk_at dkX11_isEither 5 rfl) (by decide) ?_
      refine lv_goto (tgt := 14) hx hb (dk_at dkX11_isEither 6 rfl) (by decide) ?_
      exact W.zret (v := 1) hx hb hr (by decide) (fun t ht hW => ⟨⟨1, (), rfl, (gi_w (gi_c 1 1 (by decide)) (by decide)), trivial⟩, hS.F ht⟩) hS.2.2 (dk_at dkX11_isEither 8 rfl)
noncomputable def lsX6_isLetter : List (Nat × Instr × Nat) := [(0, .iload_n 0, 1), (1, .bipush 97, 2), (3, .if_icmp .lt 13, 3), (6, .iload_n 0, 1), (7, .bipush 122, 2), (9, .if_icmp .gt 7, 3), (12, .iconst 1, 1), (13, .goto 4, 3), (16, .iconst 0, 1), (17, .ireturn, 1)]
theorem dkX6_isLetter : dkAll cX6_isLetter lsX6_isLetter = true := by decide +kernel
noncomputable def bfX6_isLetter_17 (p0 : Int32) (s0 : Int32) : Int32 := s0
noncomputable def bfX6_isLetter_16 (p0 : Int32) : Int32 := bfX6_isLetter_17 p0 (0 : Int32)
noncomputable def fX6_isLetter (p0 : Int32) : Int32 := if p0 < (97 : Int32) then (bfX6_isLetter_16 p0) else (if (122 : Int32) < p0 then (bfX6_isLetter_16 p0) else (bfX6_isLetter_17 p0 (1 : Int32)))
set_option maxHeartbeats 4000000 in
set_option maxRecDepth 100000 in
theorem sX6_isLetter (l : Launch) (dC : Nat → ClassId) (dI : Nat → Nat → Nat) (p0 : Int32)  : Met l yX6_isLetter (.code yX6_isLetter cX6_isLetter 1 (some .boolean) :: wsGA) ({ frames := 0, cells := 0, slots := 0, locals := 0 }) (va_Pc [.int p0] (fun U => va_P (dC, dI) vwCl [] U.heap ∧ va_K (dC, dI) vwCl [] U ∧ nzA U)) (va_Qi (fun (r : Int32) (u : Unit) => (gi r 0 1) ∧ r = fX6_isLetter p0) (fun _ _ => True) (fun _ => False)) 0 0 (fun _ => False) := by
  refine Met.ofW (cc := cX6_isLetter) (maxL := 1) (ret := (some .boolean)) (by decide) rfl ?_
  intro p e s m args below meth c s₁ B hml hv
  obtain ⟨rfl, hP, hK, hz⟩ := hv
  have hx := B.exec
  have hb := B.bytes
  have hr := B.returns
  have hts := atoms_spec (ws := (.code yX6_isLetter cX6_isLetter 1 (some .boolean) :: wsGA)) B.pre
  have hown : s.vm.findClass RX6 = some m.cls := findClass_of_methodNamed B.named
  have hlocks := B.notSynchronized
  have hS : va_S (fun _ => False) s.heap s.heap [] := va_S.rf
  have hl := lv_entry ([.int p0]) (n := 1) (Nat.le_of_ble_eq_true rfl)
  rw [lg_entry_eq]
  generalize (lg_sl ([.int p0]) ++ List.replicate (1 - (lg_sl ([.int p0])).length) Slot.unset).toArray = ls at hl ⊢
  have hl : lv_has ls 1 [(0, .int p0)] := hl
  obtain ⟨RES, hF⟩ : ∃ R9, fX6_isLetter p0 = R9 := ⟨_, rfl⟩
  have hR9 := hF
  refine lv_iload_n hx hb (dk_at dkX6_isLetter 0 rfl) rfl (lv_at hl 0 rfl) ?_
  refine lv_bipush (v := 97) hx hb (dk_at dkX6_isLetter 1 rfl) (by decide) ?_
  refine lv_icmp_lt (tgt := 16) hx hb (dk_at dkX6_isLetter 2 rfl) (by decide) (fun c_7 => ?_) (fun c_7 => ?_)
  · have hF := gf_pos c_7 hF
    have g_8 : gi p0 (-2147483648) 96 := gi_lt_l c_7 (gi_any p0) (gi_c 97 97 (by decide)) (by decide)
    refine lv_iconst (v := 0) hx hb (dk_at dkX6_isLetter 8 rfl) (by decide) ?_
    exact W.zret (v := 0) hx hb hr (by decide) (fun t ht hW => ⟨⟨0, (), rfl, ⟨(gi_w (gi_c 0 0 (by decide)) (by decide)), hF.trans hR9.symm⟩, trivial⟩, hS.F ht⟩) hS.2.2 (dk_at dkX6_isLetter 9 rfl)
  · have hF := gf_neg c_7 hF
    have g_9 : gi p0 97 2147483647 := gi_le_r (Int32.not_lt.mp c_7) (gi_c 97 97 (by decide)) (gi_any p0)
    refine lv_iload_n hx hb (dk_at dkX6_isLetter 3 rfl) rfl (lv_at hl 0 rfl) ?_
    refine lv_bipush (v := 122) hx hb (dk_at dkX6_isLetter 4 rfl) (by decide) ?_
    refine lv_icmp_gt (tgt := 16) hx hb (dk_at dkX6_isLetter 5 rfl) (by decide) (fun c_10 => ?_) (fun c_10 => ?_)
    · have hF := gf_pos c_10 hF
      have g_11 : gi p0 123 2147483647 := gi_lt_r c_10 (gi_c 122 122 (by decide)) g_9 (by decide)
      refine lv_iconst (v := 0) hx hb (dk_at dkX6_isLetter 8 rfl) (by decide) ?_
      exact W.zret (v := 0) hx hb hr (by decide) (fun t ht hW => ⟨⟨0, (), rfl, ⟨(gi_w (gi_c 0 0 (by decide)) (by decide)), hF.trans hR9.symm⟩, trivial⟩, hS.F ht⟩) hS.2.2 (dk_at dkX6_isLetter 9 rfl)
    · have hF := gf_neg c_10 hF
      have g_12 : gi p0 97 122 := gi_le_l (Int32.not_lt.mp c_10) g_9 (gi_c 122 122 (by decide))
      refine lv_iconst (v := 1) hx hb (dk_at dkX6_isLetter 6 rfl) (by decide) ?_
      refine lv_goto (tgt := 17) hx hb (dk_at dkX6_isLetter 7 rfl) (by decide) ?_
      exact W.zret (v := 1) hx hb hr (by decide) (fun t ht hW => ⟨⟨1, (), rfl, ⟨(gi_w (gi_c 1 1 (by decide)) (by decide)), hF.trans hR9.symm⟩, trivial⟩, hS.F ht⟩) hS.2.2 (dk_at dkX6_isLetter 9 rfl)
noncomputable def lsX6_isDigit : List (Nat × Instr × Nat) := [(0, .iload_n 0, 1), (1, .bipush 48, 2), (3, .if_icmp .lt 13, 3), (6, .iload_n 0, 1), (7, .bipush 57, 2), (9, .if_icmp .gt 7, 3), (12, .iconst 1, 1), (13, .goto 4, 3), (16, .iconst 0, 1), (17, .ireturn, 1)]
theorem dkX6_isDigit : dkAll cX6_isDigit lsX6_isDigit = true := by decide +kernel
noncomputable def bfX6_isDigit_17 (p0 : Int32) (s0 : Int32) : Int32 := s0
noncomputable def bfX6_isDigit_16 (p0 : Int32) : Int32 := bfX6_isDigit_17 p0 (0 : Int32)
noncomputable def fX6_isDigit (p0 : Int32) : Int32 := if p0 < (48 : Int32) then (bfX6_isDigit_16 p0) else (if (57 : Int32) < p0 then (bfX6_isDigit_16 p0) else (bfX6_isDigit_17 p0 (1 : Int32)))
set_option maxHeartbeats 4000000 in
set_option maxRecDepth 100000 in
theorem sX6_isDigit (l : Launch) (dC : Nat → ClassId) (dI : Nat → Nat → Nat) (p0 : Int32)  : Met l yX6_isDigit (.code yX6_isDigit cX6_isDigit 1 (some .boolean) :: wsGA) ({ frames := 0, cells := 0, slots := 0, locals := 0 }) (va_Pc [.int p0] (fun U => va_P (dC, dI) vwCl [] U.heap ∧ va_K (dC, dI) vwCl [] U ∧ nzA U)) (va_Qi (fun (r : Int32) (u : Unit) => (gi r 0 1) ∧ r = fX6_isDigit p0) (fun _ _ => True) (fun _ => False)) 0 0 (fun _ => False) := by
  refine Met.ofW (cc := cX6_isDigit) (maxL := 1) (ret := (some .boolean)) (by decide) rfl ?_
  intro p e s m args below meth c s₁ B hml hv
  obtain ⟨rfl, hP, hK, hz⟩ := hv
  have hx := B.exec
  have hb := B.bytes
  have hr := B.returns
  have hts := atoms_spec (ws := (.code yX6_isDigit cX6_isDigit 1 (some .boolean) :: wsGA)) B.pre
  have hown : s.vm.findClass RX6 = some m.cls := findClass_of_methodNamed B.named
  have hlocks := B.notSynchronized
  have hS : va_S (fun _ => False) s.heap s.heap [] := va_S.rf
  have hl := lv_entry ([.int p0]) (n := 1) (Nat.le_of_ble_eq_true rfl)
  rw [lg_entry_eq]
  generalize (lg_sl ([.int p0]) ++ List.replicate (1 - (lg_sl ([.int p0])).length) Slot.unset).toArray = ls at hl ⊢
  have hl : lv_has ls 1 [(0, .int p0)] := hl
  obtain ⟨RES, hF⟩ : ∃ R9, fX6_isDigit p0 = R9 := ⟨_, rfl⟩
  have hR9 := hF
  refine lv_iload_n hx hb (dk_at dkX6_isDigit 0 rfl) rfl (lv_at hl 0 rfl) ?_
  refine lv_bipush (v := 48) hx hb (dk_at dkX6_isDigit 1 rfl) (by decide) ?_
  refine lv_icmp_lt (tgt := 16) hx hb (dk_at dkX6_isDigit 2 rfl) (by decide) (fun c_7 => ?_) (fun c_7 => ?_)
  · have hF := gf_pos c_7 hF
    have g_8 : gi p0 (-2147483648) 47 := gi_lt_l c_7 (gi_any p0) (gi_c 48 48 (by decide)) (by decide)
    refine lv_iconst (v := 0) hx hb (dk_at dkX6_isDigit 8 rfl) (by decide) ?_
    exact W.zret (v := 0) hx hb hr (by decide) (fun t ht hW => ⟨⟨0, (), rfl, ⟨(gi_w (gi_c 0 0 (by decide)) (by decide)), hF.trans hR9.symm⟩, trivial⟩, hS.F ht⟩) hS.2.2 (dk_at dkX6_isDigit 9 rfl)
  · have hF := gf_neg c_7 hF
    have g_9 : gi p0 48 2147483647 := gi_le_r (Int32.not_lt.mp c_7) (gi_c 48 48 (by decide)) (gi_any p0)
    refine lv_iload_n hx hb (dk_at dkX6_isDigit 3 rfl) rfl (lv_at hl 0 rfl) ?_
    refine lv_bipush (v := 57) hx hb (dk_at dkX6_isDigit 4 rfl) (by decide) ?_
    refine lv_icmp_gt (tgt := 16) hx hb (dk_at dkX6_isDigit 5 rfl) (by decide) (fun c_10 => ?_) (fun c_10 => ?_)
    · have hF := gf_pos c_10 hF
      have g_11 : gi p0 58 2147483647 := gi_lt_r c_10 (gi_c 57 57 (by decide)) g_9 (by decide)
      refine lv_iconst (v := 0) hx hb (dk_at dkX6_isDigit 8 rfl) (by decide) ?_
      exact W.zret (v := 0) hx hb hr (by decide) (fun t ht hW => ⟨⟨0, (), rfl, ⟨(gi_w (gi_c 0 0 (by decide)) (by decide)), hF.trans hR9.symm⟩, trivial⟩, hS.F ht⟩) hS.2.2 (dk_at dkX6_isDigit 9 rfl)
    · have hF := gf_neg c_10 hF
      have g_12 : gi p0 48 57 := gi_le_l (Int32.not_lt.mp c_10) g_9 (gi_c 57 57 (by decide))
      refine lv_iconst (v := 1) hx hb (dk_at dkX6_isDigit 6 rfl) (by decide) ?_
      refine lv_goto (tgt := 17) hx hb (dk_at dkX6_isDigit 7 rfl) (by decide) ?_
      exact W.zret (v := 1) hx hb hr (by decide) (fun t ht hW => ⟨⟨1, (), rfl, ⟨(gi_w (gi_c 1 1 (by decide)) (by decide)), hF.trans hR9.symm⟩, trivial⟩, hS.F ht⟩) hS.2.2 (dk_at dkX6_isDigit 9 rfl)
noncomputable def lsX6_isBlank : List (Nat × Instr × Nat) := [(0, .iload_n 0, 1), (1, .bipush 32, 2), (3, .if_icmp .eq 9, 3), (6, .iload_n 0, 1), (7, .bipush 10, 2), (9, .if_icmp .ne 7, 3), (12, .iconst 1, 1), (13, .goto 4, 3), (16, .iconst 0, 1), (17, .ireturn, 1)]
theorem dkX6_isBlank : dkAll cX6_isBlank lsX6_isBlank = true := by decide +kernel
noncomputable def bfX6_isBlank_17 (p0 : Int32) (s0 : Int32) : Int32 := s0
noncomputable def bfX6_isBlank_12 (p0 : Int32) : Int32 := bfX6_isBlank_17 p0 (1 : Int32)
noncomputable def fX6_isBlank (p0 : Int32) : Int32 := if p0 = (32 : Int32) then (bfX6_isBlank_12 p0) else (if p0 = (10 : Int32) then (bfX6_isBlank_12 p0) else (bfX6_isBlank_17 p0 (0 : Int32)))
set_option maxHeartbeats 4000000 in
set_option maxRecDepth 100000 in
theorem sX6_isBlank (l : Launch) (dC : Nat → ClassId) (dI : Nat → Nat → Nat) (p0 : Int32)  : Met l yX6_isBlank (.code yX6_isBlank cX6_isBlank 1 (some .boolean) :: wsGA) ({ frames := 0, cells := 0, slots := 0, locals := 0 }) (va_Pc [.int p0] (fun U => va_P (dC, dI) vwCl [] U.heap ∧ va_K (dC, dI) vwCl [] U ∧ nzA U)) (va_Qi (fun (r : Int32) (u : Unit) => (gi r 0 1) ∧ r = fX6_isBlank p0) (fun _ _ => True) (fun _ => False)) 0 0 (fun _ => False) := by
  refine Met.ofW (cc := cX6_isBlank) (maxL := 1) (ret := (some .boolean)) (by decide) rfl ?_
  intro p e s m args below meth c s₁ B hml hv
  obtain ⟨rfl, hP, hK, hz⟩ := hv
  have hx := B.exec
  have hb := B.bytes
  have hr := B.returns
  have hts := atoms_spec (ws := (.code yX6_isBlank cX6_isBlank 1 (some .boolean) :: wsGA)) B.pre
  have hown : s.vm.findClass RX6 = some m.cls := findClass_of_methodNamed B.named
  have hlocks := B.notSynchronized
  have hS : va_S (fun _ => False) s.heap s.heap [] := va_S.rf
  have hl := lv_entry ([.int p0]) (n := 1) (Nat.le_of_ble_eq_true rfl)
  rw [lg_entry_eq]
  generalize (lg_sl ([.int p0]) ++ List.replicate (1 - (lg_sl ([.int p0])).length) Slot.unset).toArray = ls at hl ⊢
  have hl : lv_has ls 1 [(0, .int p0)] := hl
  obtain ⟨RES, hF⟩ : ∃ R9, fX6_isBlank p0 = R9 := ⟨_, rfl⟩
  have hR9 := hF
  refine lv_iload_n hx hb (dk_at dkX6_isBlank 0 rfl) rfl (lv_at hl 0 rfl) ?_
  refine lv_bipush (v := 32) hx hb (dk_at dkX6_isBlank 1 rfl) (by decide) ?_
  refine lv_icmp_eq (tgt := 12) hx hb (dk_at dkX6_isBlank 2 rfl) (by decide) (fun c_5 => ?_) (fun c_5 => ?_)
  · have hF := gf_pos c_5 hF
    have g_6 : gi p0 32 32 := gi_eq c_5 (gi_c 32 32 (by decide))
    refine lv_iconst (v := 1) hx hb (dk_at dkX6_isBlank 6 rfl) (by decide) ?_
    refine lv_goto (tgt := 17) hx hb (dk_at dkX6_isBlank 7 rfl) (by decide) ?_
    exact W.zret (v := 1) hx hb hr (by decide) (fun t ht hW => ⟨⟨1, (), rfl, ⟨(gi_w (gi_c 1 1 (by decide)) (by decide)), hF.trans hR9.symm⟩, trivial⟩, hS.F ht⟩) hS.2.2 (dk_at dkX6_isBlank 9 rfl)
  · have hF := gf_neg c_5 hF
    refine lv_iload_n hx hb (dk_at dkX6_isBlank 3 rfl) rfl (lv_at hl 0 rfl) ?_
    refine lv_bipush (v := 10) hx hb (dk_at dkX6_isBlank 4 rfl) (by decide) ?_
    refine lv_icmp_ne (tgt := 16) hx hb (dk_at dkX6_isBlank 5 rfl) (by decide) (fun c_7 => ?_) (fun c_7 => ?_)
    · have hF := gf_neg c_7 hF
      refine lv_iconst (v := 0) hx hb (dk_at dkX6_isBlank 8 rfl) (by decide) ?_
      exact W.zret (v := 0) hx hb hr (by decide) (fun t ht hW => ⟨⟨0, (), rfl, ⟨(gi_w (gi_c 0 0 (by decide)) (by decide)), hF.trans hR9.symm⟩, trivial⟩, hS.F ht⟩) hS.2.2 (dk_at dkX6_isBlank 9 rfl)
    · have hF := gf_pos c_7 hF
      have g_8 : gi p0 10 10 := gi_eq c_7 (gi_c 10 10 (by decide))
      refine lv_iconst (v := 1) hx hb (dk_at dkX6_isBlank 6 rfl) (by decide) ?_
      refine lv_goto (tgt := 17) hx hb (dk_at dkX6_isBlank 7 rfl) (by decide) ?_
      exact W.zret (v := 1) hx hb hr (by decide) (fun t ht hW => ⟨⟨1, (), rfl, ⟨(gi_w (gi_c 1 1 (by decide)) (by decide)), hF.trans hR9.symm⟩, trivial⟩, hS.F ht⟩) hS.2.2 (dk_at dkX6_isBlank 9 rfl)
noncomputable def lsX3_allows : List (Nat × Instr × Nat) := [(0, .aload_n 0, 1), (1, .getfield 9, 3), (4, .iload_n 1, 1), (5, .iaload, 1), (6, .iload_n 2, 1), (7, .ishr, 1), (8, .iconst 1, 1), (9, .iand, 1), (10, .ifCond .eq 7, 3), (13, .iconst 1, 1), (14, .goto 4, 3), (17, .iconst 0, 1), (18, .ireturn, 1)]
theorem dkX3_allows : dkAll cX3_allows lsX3_allows = true := by decide +kernel
set_option maxHeartbeats 4000000 in
set_option maxRecDepth 100000 in
theorem sX3_allows (l : Launch) (dC : Nat → ClassId) (dI : Nat → Nat → Nat) (h0 : Nat) (al : Nat) (months : Int32) (full : Int32) (lean : Int32) (on : Nat) (kal : ClassId) (fal : Nat → Int32) (p0 : Int32) (p1 : Int32) (gmonths : gi months 0 24) (gfull : gi full 0 5) (glean : gi lean 0 5) (gp0 : gi p0 0 24) : Met l yX3_allows (.code yX3_allows cX3_allows 3 (some .boolean) :: wsGA) ({ frames := 0, cells := 0, slots := 0, locals := 0 }) (va_Pc [.ref h0, .int p0, .int p1] (fun U => va_P (dC, dI) vwCl [(h0, .inr (3, [.int months, .int full, .int lean, .ref al, .ref on])), (al, .inl (kal, 25, .inl fal))] U.heap ∧ va_K (dC, dI) vwCl [(kal, .int)] U ∧ nzA U)) (va_Qi (fun (r : Int32) (u : Unit) => gi r 0 1) (fun _ _ => True) (fun _ => False)) 0 0 (fun _ => False) := by
  refine Met.ofW (cc := cX3_allows) (maxL := 3) (ret := (some .boolean)) (by decide) rfl ?_
  intro p e s m args below meth c s₁ B hml hv
  obtain ⟨rfl, hP, hK, hz⟩ := hv
  have hx := B.exec
  have hb := B.bytes
  have hr := B.returns
  have hts := atoms_spec (ws := (.code yX3_allows cX3_allows 3 (some .boolean) :: wsGA)) B.pre
  have hown : s.vm.findClass RX3 = some m.cls := findClass_of_methodNamed B.named
  have hlocks := B.notSynchronized
  have hS : va_S (fun _ => False) s.heap s.heap [] := va_S.rf
  have hl := lv_entry ([.ref h0, .int p0, .int p1]) (n := 3) (Nat.le_of_ble_eq_true rfl)
  rw [lg_entry_eq]
  generalize (lg_sl ([.ref h0, .int p0, .int p1]) ++ List.replicate (3 - (lg_sl ([.ref h0, .int p0, .int p1])).length) Slot.unset).toArray = ls at hl ⊢
  have hl : lv_has ls 3 [(0, .ref h0), (1, .int p0), (2, .int p1)] := hl
  refine lv_aload_n hx hb (dk_at dkX3_allows 0 rfl) rfl (lv_at hl 0 rfl) ?_
  refine va_get (D := (dC, dI)) (ci := 3) (v := .ref al) (C := RX3) (T := TX3) (N := 5) hx hb hts (fun w h => List.mem_cons_of_mem _ (jnGA_X3 w h)) hown hK hP 0 rfl rfl 3 (by decide) (hts _ (List.mem_cons_of_mem _ mGA_94)) (fun _ h9 => h9) rfl (dk_at dkX3_allows 1 rfl) ?_
  refine lv_iload_n hx hb (dk_at dkX3_allows 2 rfl) rfl (lv_at hl 1 rfl) ?_
  refine va_iald hx hb hK hP 1 0 rfl rfl (gi_in gp0 (by decide)) (dk_at dkX3_allows 3 rfl) ?_
  refine lv_topi (fun x_7 ex_7 => ?_)
  refine lv_iload_n hx hb (dk_at dkX3_allows 4 rfl) rfl (lv_at hl 2 rfl) ?_
  refine lv_ishr hx hb (dk_at dkX3_allows 5 rfl) ?_
  refine lv_topi (fun x_8 ex_8 => ?_)
  refine lv_iconst (v := 1) hx hb (dk_at dkX3_allows 6 rfl) (by decide) ?_
  refine lv_iand hx hb (dk_at dkX3_allows 7 rfl) ?_
  refine lv_topi (fun x_9 ex_9 => ?_)
  have gx_9 : gi x_9 0 1 := gi_and1 ex_9
  refine lv_if_eq (tgt := 17) hx hb (dk_at dkX3_allows 8 rfl) (by decide) (fun c_10 => ?_) (fun c_10 => ?_)
  · have g_11 : gi x_9 0 0 := gi_eq c_10 (gi_c 0 0 (by decide))
    refine lv_iconst (v := 0) hx hb (dk_at dkX3_allows 11 rfl) (by decide) ?_
    exact W.zret (v := 0) hx hb hr (by decide) (fun t ht hW => ⟨⟨0, (), rfl, (gi_w (gi_c 0 0 (by decide)) (by decide)), trivial⟩, hS.F ht⟩) hS.2.2 (dk_at dkX3_allows 12 rfl)
  · have g_12 : gi x_9 1 1 := gi_ne_lo c_10 gx_9 (gi_c 0 0 (by decide)) (by decide)
    refine lv_iconst (v := 1) hx hb (dk_at dkX3_allows 9 rfl) (by decide) ?_
    refine lv_goto (tgt := 18) hx hb (dk_at dkX3_allows 10 rfl) (by decide) ?_
    exact W.zret (v := 1) hx hb hr (by decide) (fun t ht hW => ⟨⟨1, (), rfl, (gi_w (gi_c 1 1 (by decide)) (by decide)), trivial⟩, hS.F ht⟩) hS.2.2 (dk_at dkX3_allows 12 rfl)
noncomputable def lsX3_fits : List (Nat × Instr × Nat) := [(0, .iconst 1, 1), (1, .istore_n 1, 1), (2, .iload_n 1, 1), (3, .aload_n 0, 1), (4, .getfield 28, 3), (7, .aload_n 0, 1), (8, .getfield 32, 3), (11, .iadd, 1), (12, .if_icmp .gt 32, 3), (15, .aload_n 0, 1), (16, .getfield 15, 3), (19, .aload_n 0, 1), (20, .getfield 24, 3), (23, .bipush 11, 2), (25, .imul, 1), (26, .iload_n 1, 1), (27, .iadd, 1), (28, .aload_n 0, 1), (29, .getfield 9, 3), (32, .aload_n 0, 1), (33, .getfield 24, 3), (36, .iaload, 1), (37, .iastore, 1), (38, .iinc 1 1, 3), (41, .goto (-39), 3), (44, .aload_n 0, 1), (45, .getfield 24, 3), (48, .iconst 1, 1), (49, .isub, 1), (50, .istore_n 1, 1), (51, .iload_n 1, 1), (52, .ifCond .lt 106, 3), (55, .iload_n 1, 1), (56, .iconst 1, 1), (57, .iadd, 1), (58, .bipush 11, 2), (60, .imul, 1), (61, .istore_n 2, 1), (62, .iload_n 1, 1), (63, .invokestatic 48, 3), (66, .istore_n 3, 1), (67, .iload_n 3, 1), (68, .iload_n 1, 1), (69, .aload_n 0, 1), (70, .getfield 28, 3), (73, .aload_n 0, 1), (74, .getfield 32, 3), (77, .invokestatic 52, 3), (80, .if_icmp .gt 72, 3), (83, .aload_n 0, 1), (84, .getfield 15, 3), (87, .iload_n 2, 1), (88, .iload_n 3, 1), (89, .aload_n 0, 1), (90, .getfield 28, 3), (93, .invokestatic 56, 3), (96, .iadd, 1), (97, .iaload, 1), (98, .iconst 1, 1), (99, .ishr, 1), (100, .istore 4, 2), (102, .aload_n 0, 1), (103, .getfield 15, 3), (106, .iload_n 2, 1), (107, .iload_n 3, 1), (108, .aload_n 0, 1), (109, .getfield 28, 3), (112, .aload_n 0, 1), (113, .getfield 32, 3), (116, .invokestatic 60, 3), (119, .iadd, 1), (120, .iaload, 1), (121, .istore 5, 2), (123, .aload_n 0, 1), (124, .getfield 15, 3), (127, .iload_n 1, 1), (128, .bipush 11, 2), (130, .imul, 1), (131, .iload_n 3, 1), (132, .iadd, 1), (133, .aload_n 0, 1), (134, .getfield 9, 3), (137, .iload_n 1, 1), (138, .iaload, 1), (139, .iload 4, 2), (141, .iload 5, 2), (143, .ior, 1), (144, .iand, 1), (145, .iastore, 1), (146, .iinc 3 1, 3), (149, .goto (-82), 3), (152, .iinc 1 (-1), 3), (155, .goto (-104), 3), (158, .aload_n 0, 1), (159, .getfield 15, 3), (162, .iconst 0, 1), (163, .iaload, 1), (164, .iconst 1, 1), (165, .iand, 1), (166, .ifCond .eq 7, 3), (169, .iconst 1, 1), (170, .goto 4, 3), (173, .iconst 0, 1), (174, .ireturn, 1)]
theorem dkX3_fits : dkAll cX3_fits lsX3_fits = true := by decide +kernel
set_option maxHeartbeats 4000000 in
set_option maxRecDepth 100000 in
theorem lp_sX3_fits {p : Program} {l : Launch} {e : Env} {R : Room} {s : State} {m : MethodId} {args : Array Value} {below : List Frame} {meth : Method} {c : Code} {Q : State → Prop} {A : Nat → Prop} {cells slots : Nat} {dC : Nat → ClassId} {dI : Nat → Nat → Nat} (h0 : Nat) (al : Nat) (on : Nat) (months : Int32) (full : Int32) (lean : Int32) (kal : ClassId) (fal : Nat → Int32) (kon : ClassId) (fon : Nat → Int32) (gmonths : gi months 0 24) (gfull : gi full 0 5) (glean : gi lean 0 5) (hx : p.tables.exec = Jvm.exec) (hb : c.code = cX3_fits) (hml : c.maxLocals = 6) (hown : s.vm.findClass RX3 = some m.cls) (hts : ∀ w ∈ ((.code yX3_fits cX3_fits 6 (some .boolean) :: wsGA) : List Cond), w.before args s = true) (hK : va_K (dC, dI) vwCl [(kal, .int), (kon, .int)] s) (hz : nzA s) (hA : ∀ q : Nat, s.heap.size ≤ q → A q) (hRf : 1 ≤ R.frames) (hRl : 22 ≤ R.locals) (hRc : cells ≤ R.cells) (hRs : slots ≤ R.slots) (kr174 : ∀ (v : Int32) (z2 : Nat → Int32) (H : Heap) (locs : List Loc) (ls : Array Slot), gi v 0 1 → va_P (dC, dI) vwCl [(h0, .inr (3, [.int months, .int full, .int lean, .ref al, .ref on])), (al, .inl (kal, 25, .inl fal)), (on, .inl (kon, 275, .inl z2))] H → va_D A [(h0, .inr (3, [.int months, .int full, .int lean, .ref al, .ref on])), (al, .inl (kal, 25, .inl fal)), (on, .inl (kon, 275, .inl z2))] → va_S A s.heap H locs → lv_has ls 6 [] → W p l e R s m args below meth c H locs cells slots Q (F0 m 174 ls [.int v])) : ∀ z : Nat, (∀ (v1 : Int32) (z2 : Nat → Int32) (H : Heap) (locs : List Loc) (ls : Array Slot), gi v1 1 11 → 751 + (-2) * v1.toInt < (z : Int) → va_P (dC, dI) vwCl [(h0, .inr (3, [.int months, .int full, .int lean, .ref al, .ref on])), (al, .inl (kal, 25, .inl fal)), (on, .inl (kon, 275, .inl z2))] H → va_D A [(h0, .inr (3, [.int months, .int full, .int lean, .ref al, .ref on])), (al, .inl (kal, 25, .inl fal)), (on, .inl (kon, 275, .inl z2))] → va_S A s.heap H locs → lv_has ls 6 [(0, .ref h0), (1, .int v1)] → W p l e R s m args below meth c H locs cells slots Q (F0 m 2 ls [])) ∧ (∀ (v1 : Int32) (z2 : Nat → Int32) (H : Heap) (locs : List Loc) (ls : Array Slot), gi v1 (-1) 23 → 29 + 28 * v1.toInt < (z : Int) → va_P (dC, dI) vwCl [(h0, .inr (3, [.int months, .int full, .int lean, .ref al, .ref on])), (al, .inl (kal, 25, .inl fal)), (on, .inl (kon, 275, .inl z2))] H → va_D A [(h0, .inr (3, [.int months, .int full, .int lean, .ref al, .ref on])), (al, .inl (kal, 25, .inl fal)), (on, .inl (kon, 275, .inl z2))] → va_S A s.heap H locs → lv_has ls 6 [(0, .ref h0), (1, .int v1)] → W p l e R s m args below meth c H locs cells slots Q (F0 m 51 ls [])) ∧ (∀ (v1 : Int32) (v2 : Int32) (v3 : Int32) (z2 : Nat → Int32) (H : Heap) (locs : List Loc) (ls : Array Slot), gi v1 0 23 → gi v2 11 264 → gi v3 0 11 → 24 + 28 * v1.toInt + (-2) * v3.toInt < (z : Int) → va_P (dC, dI) vwCl [(h0, .inr (3, [.int months, .int full, .int lean, .ref al, .ref on])), (al, .inl (kal, 25, .inl fal)), (on, .inl (kon, 275, .inl z2))] H → va_D A [(h0, .inr (3, [.int months, .int full, .int lean, .ref al, .ref on])), (al, .inl (kal, 25, .inl fal)), (on, .inl (kon, 275, .inl z2))] → va_S A s.heap H locs → lv_has ls 6 [(0, .ref h0), (1, .int v1), (2, .int v2), (3, .int v3)] → W p l e R s m args below meth c H locs cells slots Q (F0 m 67 ls [])) := by
  intro z
  induction z with
  | zero =>
    refine ⟨?_, ?_, ?_⟩
    · intro v1 z2 H locs ls gv1 hmu hP hD hS hl
      exact absurd hmu (by have hv11 := gv1.1; have hv12 := gv1.2; omega)
    · intro v1 z2 H locs ls gv1 hmu hP hD hS hl
      exact absurd hmu (by have hv11 := gv1.1; have hv12 := gv1.2; omega)
    · intro v1 v2 v3 z2 H locs ls gv1 gv2 gv3 hmu hP hD hS hl
      exact absurd hmu (by have hv11 := gv1.1; have hv12 := gv1.2; have hv31 := gv3.1; have hv32 := gv3.2; omega)
  | succ z ih =>
    refine ⟨?_, ?_, ?_⟩
    · intro v1 z2 H locs ls gv1 hmu hP hD hS hl
      refine lv_iload_n hx hb (dk_at dkX3_fits 2 rfl) rfl (lv_at hl 1 rfl) ?_
      refine lv_aload_n hx hb (dk_at dkX3_fits 3 rfl) rfl (lv_at hl 0 rfl) ?_
      refine va_get (D := (dC, dI)) (ci := 3) (v := .int full) (C := RX3) (T := TX3) (N := 5) hx hb hts (fun w h => List.mem_cons_of_mem _ (jnGA_X3 w h)) hown hK hP 0 rfl rfl 1 (by decide) (hts _ (List.mem_cons_of_mem _ mGA_479)) (fun _ h9 => h9) rfl (dk_at dkX3_fits 4 rfl) ?_
      refine lv_aload_n hx hb (dk_at dkX3_fits 5 rfl) rfl (lv_at hl 0 rfl) ?_
      refine va_get (D := (dC, dI)) (ci := 3) (v := .int lean) (C := RX3) (T := TX3) (N := 5) hx hb hts (fun w h => List.mem_cons_of_mem _ (jnGA_X3 w h)) hown hK hP 0 rfl rfl 2 (by decide) (hts _ (List.mem_cons_of_mem _ mGA_481)) (fun _ h9 => h9) rfl (dk_at dkX3_fits 6 rfl) ?_
      refine lv_iadd hx hb (dk_at dkX3_fits 7 rfl) ?_
      refine lv_topi (fun x_401 ex_401 => ?_)
      have gx_401 : gi x_401 0 10 := gi_add ex_401 gfull glean (by decide)
      refine lv_icmp_gt (tgt := 44) hx hb (dk_at dkX3_fits 8 rfl) (by decide) (fun c_402 => ?_) (fun c_402 => ?_)
      · refine lv_aload_n hx hb (dk_at dkX3_fits 25 rfl) rfl (lv_at hl 0 rfl) ?_
        refine va_get (D := (dC, dI)) (ci := 3) (v := .int months) (C := RX3) (T := TX3) (N := 5) hx hb hts (fun w h => List.mem_cons_of_mem _ (jnGA_X3 w h)) hown hK hP 0 rfl rfl 0 (by decide) (hts _ (List.mem_cons_of_mem _ mGA_477)) (fun _ h9 => h9) rfl (dk_at dkX3_fits 26 rfl) ?_
        refine lv_iconst (v := 1) hx hb (dk_at dkX3_fits 27 rfl) (by decide) ?_
        refine lv_isub hx hb (dk_at dkX3_fits 28 rfl) ?_
        refine lv_topi (fun x_403 ex_403 => ?_)
        have gx_403 : gi x_403 (-1) 23 := gi_sub ex_403 gmonths (gi_c 1 1 (by decide)) (by decide)
        refine lv_istore_n (lv' := [(1, .int x_403), (0, .ref h0)]) hx hb (dk_at dkX3_fits 29 rfl) rfl hl (by decide) rfl (fun ls hl => ?_)
        exact ih.2.1 x_403 z2 _ _ _ gx_403 (by have av1 := gv1.1; have bv1 := gv1.2; have qgx_403 := gx_403.1; have rgx_403 := gx_403.2; have igx_403 : x_403.toInt = months.toInt - 1 := (by have hc1 : (1 : Int32).toInt = 1 := (by decide); have h9 := gi_subI ex_403 (by have h1 := gmonths.1; have h2 := (gi_c 1 1 (by decide)).1; have h3 := gmonths.2; have h4 := (gi_c 1 1 (by decide)).2; omega) (by have h1 := gmonths.1; have h2 := (gi_c 1 1 (by decide)).1; have h3 := gmonths.2; have h4 := (gi_c 1 1 (by decide)).2; omega); rw [hc1] at h9; exact h9); have qgmonths := gmonths.1; have rgmonths := gmonths.2; omega) hP hD hS (lv_sub hl [1, 0] rfl)
      · have g_404 : gi v1 1 10 := gi_le_l (Int32.not_lt.mp c_402) gv1 gx_401
        have g_405 : gi x_401 1 10 := gi_le_r (Int32.not_lt.mp c_402) gv1 gx_401
        refine lv_aload_n hx hb (dk_at dkX3_fits 9 rfl) rfl (lv_at hl 0 rfl) ?_
        refine va_get (D := (dC, dI)) (ci := 3) (v := .ref on) (C := RX3) (T := TX3) (N := 5) hx hb hts (fun w h => List.mem_cons_of_mem _ (jnGA_X3 w h)) hown hK hP 0 rfl rfl 4 (by decide) (hts _ (List.mem_cons_of_mem _ mGA_95)) (fun _ h9 => h9) rfl (dk_at dkX3_fits 10 rfl) ?_
        refine lv_aload_n hx hb (dk_at dkX3_fits 11 rfl) rfl (lv_at hl 0 rfl) ?_
        refine va_get (D := (dC, dI)) (ci := 3) (v := .int months) (C := RX3) (T := TX3) (N := 5) hx hb hts (fun w h => List.mem_cons_of_mem _ (jnGA_X3 w h)) hown hK hP 0 rfl rfl 0 (by decide) (hts _ (List.mem_cons_of_mem _ mGA_477)) (fun _ h9 => h9) rfl (dk_at dkX3_fits 12 rfl) ?_
        refine lv_bipush (v := 11) hx hb (dk_at dkX3_fits 13 rfl) (by decide) ?_
        refine lv_imul hx hb (dk_at dkX3_fits 14 rfl) ?_
        refine lv_topi (fun x_406 ex_406 => ?_)
        have gx_406 : gi x_406 0 264 := gi_mul ex_406 gmonths (gi_c 11 11 (by decide)) (by decide)
        refine lv_iload_n hx hb (dk_at dkX3_fits 15 rfl) rfl (lv_at hl 1 rfl) ?_
        refine lv_iadd hx hb (dk_at dkX3_fits 16 rfl) ?_
        refine lv_topi (fun x_407 ex_407 => ?_)
        have gx_407 : gi x_407 1 274 := gi_add ex_407 gx_406 g_404 (by decide)
        refine lv_aload_n hx hb (dk_at dkX3_fits 17 rfl) rfl (lv_at hl 0 rfl) ?_
        refine va_get (D := (dC, dI)) (ci := 3) (v := .ref al) (C := RX3) (T := TX3) (N := 5) hx hb hts (fun w h => List.mem_cons_of_mem _ (jnGA_X3 w h)) hown hK hP 0 rfl rfl 3 (by decide) (hts _ (List.mem_cons_of_mem _ mGA_94)) (fun _ h9 => h9) rfl (dk_at dkX3_fits 18 rfl) ?_
        refine lv_aload_n hx hb (dk_at dkX3_fits 19 rfl) rfl (lv_at hl 0 rfl) ?_
        refine va_get (D := (dC, dI)) (ci := 3) (v := .int months) (C := RX3) (T := TX3) (N := 5) hx hb hts (fun w h => List.mem_cons_of_mem _ (jnGA_X3 w h)) hown hK hP 0 rfl rfl 0 (by decide) (hts _ (List.mem_cons_of_mem _ mGA_477)) (fun _ h9 => h9) rfl (dk_at dkX3_fits 20 rfl) ?_
        refine va_iald hx hb hK hP 1 0 rfl rfl (gi_in gmonths (by decide)) (dk_at dkX3_fits 21 rfl) ?_
        refine lv_topi (fun x_408 ex_408 => ?_)
        refine va_iast hx hb hK hP hD hS 2 1 rfl rfl (gi_in gx_407 (by decide)) (dk_at dkX3_fits 22 rfl) (fun H locs hP hD hS => ?_)
        obtain ⟨hP, hD⟩ := gz_both (w := [(h0, .inr (3, [.int months, .int full, .int lean, .ref al, .ref on])), (al, .inl (kal, 25, .inl fal)), (on, .inl (kon, 275, .inl (upd z2 (x_407 : Int32).toNatClampNeg x_408)))]) hP hD
        generalize upd z2 (x_407 : Int32).toNatClampNeg x_408 = f_409 at hP hD
        obtain ⟨x_410, ex_410⟩ : ∃ y : Int32, y = v1 + 1 := ⟨_, rfl⟩
        have gx_410 : gi x_410 2 11 := gi_add ex_410 g_404 (gi_c 1 1 (by decide)) (by decide)
        refine lv_iinc (v := x_410) (lv' := [(1, .int x_410), (0, .ref h0)]) hx hb (dk_at dkX3_fits 23 rfl) hl (k := 1) rfl (by rw [ex_410]; rfl) (by decide) rfl (fun ls hl => ?_)
        refine lv_goto (tgt := 2) hx hb (dk_at dkX3_fits 24 rfl) (by decide) ?_
        exact ih.1 x_410 f_409 _ _ _ (gi_w gx_410 (by decide)) (by have av1 := gv1.1; have bv1 := gv1.2; have qgx_410 := gx_410.1; have rgx_410 := gx_410.2; have igx_410 : x_410.toInt = v1.toInt + 1 := (by have hc1 : (1 : Int32).toInt = 1 := (by decide); have h9 := gi_addI ex_410 (by have h1 := g_404.1; have h2 := (gi_c 1 1 (by decide)).1; have h3 := g_404.2; have h4 := (gi_c 1 1 (by decide)).2; omega) (by have h1 := g_404.1; have h2 := (gi_c 1 1 (by decide)).1; have h3 := g_404.2; have h4 := (gi_c 1 1 (by decide)).2; omega); rw [hc1] at h9; exact h9); have qgv1 := g_404.1; have rgv1 := g_404.2; omega) hP hD hS (lv_sub hl [1, 0] rfl)
    · intro v1 z2 H locs ls gv1 hmu hP hD hS hl
      refine lv_iload_n hx hb (dk_at dkX3_fits 30 rfl) rfl (lv_at hl 1 rfl) ?_
      refine lv_if_lt (tgt := 158) hx hb (dk_at dkX3_fits 31 rfl) (by decide) (fun c_411 => ?_) (fun c_411 => ?_)
      · have g_412 : gi v1 (-1) (-1) := gi_lt_l c_411 gv1 (gi_c 0 0 (by decide)) (by decide)
        refine lv_aload_n hx hb (dk_at dkX3_fits 93 rfl) rfl (lv_at hl 0 rfl) ?_
        refine va_get (D := (dC, dI)) (ci := 3) (v := .ref on) (C := RX3) (T := TX3) (N := 5) hx hb hts (fun w h => List.mem_cons_of_mem _ (jnGA_X3 w h)) hown hK hP 0 rfl rfl 4 (by decide) (hts _ (List.mem_cons_of_mem _ mGA_95)) (fun _ h9 => h9) rfl (dk_at dkX3_fits 94 rfl) ?_
        refine lv_iconst (v := 0) hx hb (dk_at dkX3_fits 95 rfl) (by decide) ?_
        refine va_iald hx hb hK hP 2 1 rfl rfl (gi_in (gi_c 0 0 (by decide)) (by decide)) (dk_at dkX3_fits 96 rfl) ?_
        refine lv_topi (fun x_413 ex_413 => ?_)
        refine lv_iconst (v := 1) hx hb (dk_at dkX3_fits 97 rfl) (by decide) ?_
        refine lv_iand hx hb (dk_at dkX3_fits 98 rfl) ?_
        refine lv_topi (fun x_414 ex_414 => ?_)
        have gx_414 : gi x_414 0 1 := gi_and1 ex_414
        refine lv_if_eq (tgt := 173) hx hb (dk_at dkX3_fits 99 rfl) (by decide) (fun c_415 => ?_) (fun c_415 => ?_)
        · have g_416 : gi x_414 0 0 := gi_eq c_415 (gi_c 0 0 (by decide))
          refine lv_iconst (v := 0) hx hb (dk_at dkX3_fits 102 rfl) (by decide) ?_
          exact kr174 0 z2 _ _ _ (gi_w (gi_c 0 0 (by decide)) (by decide)) hP hD hS (lv_sub hl [] rfl)
        · have g_417 : gi x_414 1 1 := gi_ne_lo c_415 gx_414 (gi_c 0 0 (by decide)) (by decide)
          refine lv_iconst (v := 1) hx hb (dk_at dkX3_fits 100 rfl) (by decide) ?_
          refine lv_goto (tgt := 174) hx hb (dk_at dkX3_fits 101 rfl) (by decide) ?_
          exact kr174 1 z2 _ _ _ (gi_w (gi_c 1 1 (by decide)) (by decide)) hP hD hS (lv_sub hl [] rfl)
      · have g_418 : gi v1 0 23 := gi_le_r (Int32.not_lt.mp c_411) (gi_c 0 0 (by decide)) gv1
        refine lv_iload_n hx hb (dk_at dkX3_fits 32 rfl) rfl (lv_at hl 1 rfl) ?_
        refine lv_iconst (v := 1) hx hb (dk_at dkX3_fits 33 rfl) (by decide) ?_
        refine lv_iadd hx hb (dk_at dkX3_fits 34 rfl) ?_
        refine lv_topi (fun x_419 ex_419 => ?_)
        have gx_419 : gi x_419 1 24 := gi_add ex_419 g_418 (gi_c 1 1 (by decide)) (by decide)
        refine lv_bipush (v := 11) hx hb (dk_at dkX3_fits 35 rfl) (by decide) ?_
        refine lv_imul hx hb (dk_at dkX3_fits 36 rfl) ?_
        refine lv_topi (fun x_420 ex_420 => ?_)
        have gx_420 : gi x_420 11 264 := gi_mul ex_420 gx_419 (gi_c 11 11 (by decide)) (by decide)
        refine lv_istore_n (lv' := [(2, .int x_420), (0, .ref h0), (1, .int v1)]) hx hb (dk_at dkX3_fits 37 rfl) rfl hl (by decide) rfl (fun ls hl => ?_)
        refine lv_iload_n hx hb (dk_at dkX3_fits 38 rfl) rfl (lv_at hl 2 rfl) ?_
        have hPc := hP.sub (ws' := []) [] rfl
        have hKc := hK.sub (tys' := []) [] rfl
        refine va_calli (va_runSN (As := [.int v1]) (rest := []) ⟨hx, hb, hml, hown, hts⟩ (sX11_firstRun l dC dI v1 (gi_w g_418 (by decide))) (⟨va_cnB 1 hts (gz_gP mGA_504 goodGA) rfl rfl rfl (nzA_X3_48 hz) (hts _ (List.mem_cons_of_mem _ mGA_1)) (by decide +kernel) ⟨Nat.le_trans (Nat.le_of_ble_eq_true rfl) hRf, Nat.le_trans (Nat.le_of_ble_eq_true rfl) hRl⟩, (hts _ (List.mem_cons_of_mem _ mGA_503)), trivial⟩) ⟨bl_I (bl_a bl_P (bl_a bl_K bl_nz)), fun U hU hW => ⟨rfl, by rw [hU]; exact hPc, va_K.moved hW.alike hKc, nzA_warm hW hz⟩⟩ rfl rfl hl.1 rfl (lv_room (Nat.le_of_ble_eq_true rfl)) (dk_at dkX3_fits 39 rfl) ⟨hRc, hRs⟩) hS (fun q _ h => h.elim) (fun q h => h.elim) (fun r_421 u t H1 locs ht hvm hw hB hz1 hk1 hS => ?_)
        have hP := gz_keep hP hk1
        generalize H1 = H at hP hS ⊢
        have gr_421 : gi r_421 0 1 := hw
        refine lv_istore_n (lv' := [(3, .int r_421), (2, .int x_420), (0, .ref h0), (1, .int v1)]) hx hb (dk_at dkX3_fits 40 rfl) rfl hl (by decide) rfl (fun ls hl => ?_)
        exact ih.2.2 v1 x_420 r_421 z2 _ _ _ g_418 gx_420 (gi_w gr_421 (by decide)) (by have av1 := gv1.1; have bv1 := gv1.2; have qgv1 := g_418.1; have rgv1 := g_418.2; have qgr_421 := gr_421.1; have rgr_421 := gr_421.2; omega) hP hD hS (lv_sub hl [2, 3, 1, 0] rfl)
    · intro v1 v2 v3 z2 H locs ls gv1 gv2 gv3 hmu hP hD hS hl
      refine lv_iload_n hx hb (dk_at dkX3_fits 41 rfl) rfl (lv_at hl 3 rfl) ?_
      refine lv_iload_n hx hb (dk_at dkX3_fits 42 rfl) rfl (lv_at hl 1 rfl) ?_
      refine lv_aload_n hx hb (dk_at dkX3_fits 43 rfl) rfl (lv_at hl 0 rfl) ?_
      refine va_get (D := (dC, dI)) (ci := 3) (v := .int full) (C := RX3) (T := TX3) (N := 5) hx hb hts (fun w h => List.mem_cons_of_mem _ (jnGA_X3 w h)) hown hK hP 0 rfl rfl 1 (by decide) (hts _ (List.mem_cons_of_mem _ mGA_479)) (fun _ h9 => h9) rfl (dk_at dkX3_fits 44 rfl) ?_
      refine lv_aload_n hx hb (dk_at dkX3_fits 45 rfl) rfl (lv_at hl 0 rfl) ?_
      refine va_get (D := (dC, dI)) (ci := 3) (v := .int lean) (C := RX3) (T := TX3) (N := 5) hx hb hts (fun w h => List.mem_cons_of_mem _ (jnGA_X3 w h)) hown hK hP 0 rfl rfl 2 (by decide) (hts _ (List.mem_cons_of_mem _ mGA_481)) (fun _ h9 => h9) rfl (dk_at dkX3_fits 46 rfl) ?_
      have hPc := hP.sub (ws' := []) [] rfl
      have hKc := hK.sub (tys' := []) [] rfl
      refine va_calli (va_runSN (As := [.int v1, .int full, .int lean]) (rest := [.int v3]) ⟨hx, hb, hml, hown, hts⟩ (sX11_lastRun l dC dI v1 full lean (gi_w gv1 (by decide)) gfull glean) (⟨va_cnB 3 hts (gz_gP mGA_506 goodGA) rfl rfl rfl (nzA_X3_52 hz) (hts _ (List.mem_cons_of_mem _ mGA_1)) (by decide +kernel) ⟨Nat.le_trans (Nat.le_of_ble_eq_true rfl) hRf, Nat.le_trans (Nat.le_of_ble_eq_true rfl) hRl⟩, (hts _ (List.mem_cons_of_mem _ mGA_505)), trivial⟩) ⟨bl_I (bl_a bl_P (bl_a bl_K bl_nz)), fun U hU hW => ⟨rfl, by rw [hU]; exact hPc, va_K.moved hW.alike hKc, nzA_warm hW hz⟩⟩ rfl rfl hl.1 rfl (lv_room (Nat.le_of_ble_eq_true rfl)) (dk_at dkX3_fits 47 rfl) ⟨hRc, hRs⟩) hS (fun q _ h => h.elim) (fun q h => h.elim) (fun r_422 u t H1 locs ht hvm hw hB hz1 hk1 hS => ?_)
      have hP := gz_keep hP hk1
      generalize H1 = H at hP hS ⊢
      have gr_422 : gi r_422 0 10 := hw
      refine lv_icmp_gt (tgt := 152) hx hb (dk_at dkX3_fits 48 rfl) (by decide) (fun c_423 => ?_) (fun c_423 => ?_)
      · have g_424 : gi v3 1 11 := gi_lt_r c_423 gr_422 gv3 (by decide)
        obtain ⟨x_425, ex_425⟩ : ∃ y : Int32, y = v1 + (-1) := ⟨_, rfl⟩
        have gx_425 : gi x_425 (-1) 22 := gi_add ex_425 gv1 (gi_c (-1) (-1) (by decide)) (by decide)
        refine lv_iinc (v := x_425) (lv' := [(1, .int x_425), (0, .ref h0), (2, .int v2), (3, .int v3)]) hx hb (dk_at dkX3_fits 91 rfl) hl (k := 1) rfl (by rw [ex_425]; rfl) (by decide) rfl (fun ls hl => ?_)
        refine lv_goto (tgt := 51) hx hb (dk_at dkX3_fits 92 rfl) (by decide) ?_
        exact ih.2.1 x_425 z2 _ _ _ (gi_w gx_425 (by decide)) (by have av1 := gv1.1; have bv1 := gv1.2; have av3 := gv3.1; have bv3 := gv3.2; have qgx_425 := gx_425.1; have rgx_425 := gx_425.2; have igx_425 : x_425.toInt = v1.toInt + (-1) := (by have hcm1 : ((-1) : Int32).toInt = (-1) := (by decide); have h9 := gi_addI ex_425 (by have h1 := gv1.1; have h2 := (gi_c (-1) (-1) (by decide)).1; have h3 := gv1.2; have h4 := (gi_c (-1) (-1) (by decide)).2; omega) (by have h1 := gv1.1; have h2 := (gi_c (-1) (-1) (by decide)).1; have h3 := gv1.2; have h4 := (gi_c (-1) (-1) (by decide)).2; omega); rw [hcm1] at h9; exact h9); have qgv1 := gv1.1; have rgv1 := gv1.2; omega) hP hD hS (lv_sub hl [1, 0] rfl)
      · have g_426 : gi v3 0 10 := gi_le_l (Int32.not_lt.mp c_423) gv3 gr_422
        refine lv_aload_n hx hb (dk_at dkX3_fits 49 rfl) rfl (lv_at hl 0 rfl) ?_
        refine va_get (D := (dC, dI)) (ci := 3) (v := .ref on) (C := RX3) (T := TX3) (N := 5) hx hb hts (fun w h => List.mem_cons_of_mem _ (jnGA_X3 w h)) hown hK hP 0 rfl rfl 4 (by decide) (hts _ (List.mem_cons_of_mem _ mGA_95)) (fun _ h9 => h9) rfl (dk_at dkX3_fits 50 rfl) ?_
        refine lv_iload_n hx hb (dk_at dkX3_fits 51 rfl) rfl (lv_at hl 2 rfl) ?_
        refine lv_iload_n hx hb (dk_at dkX3_fits 52 rfl) rfl (lv_at hl 3 rfl) ?_
        refine lv_aload_n hx hb (dk_at dkX3_fits 53 rfl) rfl (lv_at hl 0 rfl) ?_
        refine va_get (D := (dC, dI)) (ci := 3) (v := .int full) (C := RX3) (T := TX3) (N := 5) hx hb hts (fun w h => List.mem_cons_of_mem _ (jnGA_X3 w h)) hown hK hP 0 rfl rfl 1 (by decide) (hts _ (List.mem_cons_of_mem _ mGA_479)) (fun _ h9 => h9) rfl (dk_at dkX3_fits 54 rfl) ?_
        have hPc := hP.sub (ws' := []) [] rfl
        have hKc := hK.sub (tys' := []) [] rfl
        refine va_calli (va_runSN (As := [.int v3, .int full]) (rest := [.int v2, .ref on]) ⟨hx, hb, hml, hown, hts⟩ (sX11_runWithFull l dC dI v3 full g_426 gfull) (⟨va_cnB 2 hts (gz_gP mGA_508 goodGA) rfl rfl rfl (nzA_X3_56 hz) (hts _ (List.mem_cons_of_mem _ mGA_1)) (by decide +kernel) ⟨Nat.le_trans (Nat.le_of_ble_eq_true rfl) hRf, Nat.le_trans (Nat.le_of_ble_eq_true rfl) hRl⟩, (hts _ (List.mem_cons_of_mem _ mGA_507)), trivial⟩) ⟨bl_I (bl_a bl_P (bl_a bl_K bl_nz)), fun U hU hW => ⟨rfl, by rw [hU]; exact hPc, va_K.moved hW.alike hKc, nzA_warm hW hz⟩⟩ rfl rfl hl.1 rfl (lv_room (Nat.le_of_ble_eq_true rfl)) (dk_at dkX3_fits 55 rfl) ⟨hRc, hRs⟩) hS (fun q _ h => h.elim) (fun q h => h.elim) (fun r_427 u t H1 locs ht hvm hw hB hz1 hk1 hS => ?_)
        have hP := gz_keep hP hk1
        generalize H1 = H at hP hS ⊢
        have gr_427 : gi r_427 0 5 := hw
        refine lv_iadd hx hb (dk_at dkX3_fits 56 rfl) ?_
        refine lv_topi (fun x_428 ex_428 => ?_)
        have gx_428 : gi x_428 11 269 := gi_add ex_428 gv2 gr_427 (by decide)
        refine va_iald hx hb hK hP 2 1 rfl rfl (gi_in gx_428 (by decide)) (dk_at dkX3_fits 57 rfl) ?_
        refine lv_topi (fun x_429 ex_429 => ?_)
        refine lv_iconst (v := 1) hx hb (dk_at dkX3_fits 58 rfl) (by decide) ?_
        refine lv_ishr hx hb (dk_at dkX3_fits 59 rfl) ?_
        refine lv_topi (fun x_430 ex_430 => ?_)
        refine lv_istore (lv' := [(4, .int x_430), (0, .ref h0), (1, .int v1), (2, .int v2), (3, .int v3)]) hx hb (dk_at dkX3_fits 60 rfl) hl (by decide) rfl (fun ls hl => ?_)
        refine lv_aload_n hx hb (dk_at dkX3_fits 61 rfl) rfl (lv_at hl 1 rfl) ?_
        refine va_get (D := (dC, dI)) (ci := 3) (v := .ref on) (C := RX3) (T := TX3) (N := 5) hx hb hts (fun w h => List.mem_cons_of_mem _ (jnGA_X3 w h)) hown hK hP 0 rfl rfl 4 (by decide) (hts _ (List.mem_cons_of_mem _ mGA_95)) (fun _ h9 => h9) rfl (dk_at dkX3_fits 62 rfl) ?_
        refine lv_iload_n hx hb (dk_at dkX3_fits 63 rfl) rfl (lv_at hl 3 rfl) ?_
        refine lv_iload_n hx hb (dk_at dkX3_fits 64 rfl) rfl (lv_at hl 4 rfl) ?_
        refine lv_aload_n hx hb (dk_at dkX3_fits 65 rfl) rfl (lv_at hl 1 rfl) ?_
        refine va_get (D := (dC, dI)) (ci := 3) (v := .int full) (C := RX3) (T := TX3) (N := 5) hx hb hts (fun w h => List.mem_cons_of_mem _ (jnGA_X3 w h)) hown hK hP 0 rfl rfl 1 (by decide) (hts _ (List.mem_cons_of_mem _ mGA_479)) (fun _ h9 => h9) rfl (dk_at dkX3_fits 66 rfl) ?_
        refine lv_aload_n hx hb (dk_at dkX3_fits 67 rfl) rfl (lv_at hl 1 rfl) ?_
        refine va_get (D := (dC, dI)) (ci := 3) (v := .int lean) (C := RX3) (T := TX3) (N := 5) hx hb hts (fun w h => List.mem_cons_of_mem _ (jnGA_X3 w h)) hown hK hP 0 rfl rfl 2 (by decide) (hts _ (List.mem_cons_of_mem _ mGA_481)) (fun _ h9 => h9) rfl (dk_at dkX3_fits 68 rfl) ?_
        have hPc := hP.sub (ws' := []) [] rfl
        have hKc := hK.sub (tys' := []) [] rfl
        refine va_calli (va_runSN (As := [.int v3, .int full, .int lean]) (rest := [.int v2, .ref on]) ⟨hx, hb, hml, hown, hts⟩ (sX11_runWithLean l dC dI v3 full lean g_426 gfull glean) (⟨va_cnB 3 hts (gz_gP mGA_510 goodGA) rfl rfl rfl (nzA_X3_60 hz) (hts _ (List.mem_cons_of_mem _ mGA_1)) (by decide +kernel) ⟨Nat.le_trans (Nat.le_of_ble_eq_true rfl) hRf, Nat.le_trans (Nat.le_of_ble_eq_true rfl) hRl⟩, (hts _ (List.mem_cons_of_mem _ mGA_509)), trivial⟩) ⟨bl_I (bl_a bl_P (bl_a bl_K bl_nz)), fun U hU hW => ⟨rfl, by rw [hU]; exact hPc, va_K.moved hW.alike hKc, nzA_warm hW hz⟩⟩ rfl rfl hl.1 rfl (lv_room (Nat.le_of_ble_eq_true rfl)) (dk_at dkX3_fits 69 rfl) ⟨hRc, hRs⟩) hS (fun q _ h => h.elim) (fun q h => h.elim) (fun r_431 u t H1 locs ht hvm hw hB hz1 hk1 hS => ?_)
        have hP := gz_keep hP hk1
        generalize H1 = H at hP hS ⊢
        have gr_431 : gi r_431 0 10 := hw
        refine lv_iadd hx hb (dk_at dkX3_fits 70 rfl) ?_
        refine lv_topi (fun x_432 ex_432 => ?_)
        have gx_432 : gi x_432 11 274 := gi_add ex_432 gv2 gr_431 (by decide)
        refine va_iald hx hb hK hP 2 1 rfl rfl (gi_in gx_432 (by decide)) (dk_at dkX3_fits 71 rfl) ?_
        refine lv_topi (fun x_433 ex_433 => ?_)
        refine lv_istore (lv' := [(5, .int x_433), (4, .int x_430), (0, .ref h0), (1, .int v1), (2, .int v2), (3, .int v3)]) hx hb (dk_at dkX3_fits 72 rfl) hl (by decide) rfl (fun ls hl => ?_)
        refine lv_aload_n hx hb (dk_at dkX3_fits 73 rfl) rfl (lv_at hl 2 rfl) ?_
        refine va_get (D := (dC, dI)) (ci := 3) (v := .ref on) (C := RX3) (T := TX3) (N := 5) hx hb hts (fun w h => List.mem_cons_of_mem _ (jnGA_X3 w h)) hown hK hP 0 rfl rfl 4 (by decide) (hts _ (List.mem_cons_of_mem _ mGA_95)) (fun _ h9 => h9) rfl (dk_at dkX3_fits 74 rfl) ?_
        refine lv_iload_n hx hb (dk_at dkX3_fits 75 rfl) rfl (lv_at hl 3 rfl) ?_
        refine lv_bipush (v := 11) hx hb (dk_at dkX3_fits 76 rfl) (by decide) ?_
        refine lv_imul hx hb (dk_at dkX3_fits 77 rfl) ?_
        refine lv_topi (fun x_434 ex_434 => ?_)
        have gx_434 : gi x_434 0 253 := gi_mul ex_434 gv1 (gi_c 11 11 (by decide)) (by decide)
        refine lv_iload_n hx hb (dk_at dkX3_fits 78 rfl) rfl (lv_at hl 5 rfl) ?_
        refine lv_iadd hx hb (dk_at dkX3_fits 79 rfl) ?_
        refine lv_topi (fun x_435 ex_435 => ?_)
        have gx_435 : gi x_435 0 263 := gi_add ex_435 gx_434 g_426 (by decide)
        refine lv_aload_n hx hb (dk_at dkX3_fits 80 rfl) rfl (lv_at hl 2 rfl) ?_
        refine va_get (D := (dC, dI)) (ci := 3) (v := .ref al) (C := RX3) (T := TX3) (N := 5) hx hb hts (fun w h => List.mem_cons_of_mem _ (jnGA_X3 w h)) hown hK hP 0 rfl rfl 3 (by decide) (hts _ (List.mem_cons_of_mem _ mGA_94)) (fun _ h9 => h9) rfl (dk_at dkX3_fits 81 rfl) ?_
        refine lv_iload_n hx hb (dk_at dkX3_fits 82 rfl) rfl (lv_at hl 3 rfl) ?_
        refine va_iald hx hb hK hP 1 0 rfl rfl (gi_in gv1 (by decide)) (dk_at dkX3_fits 83 rfl) ?_
        refine lv_topi (fun x_436 ex_436 => ?_)
        refine lv_iload hx hb (dk_at dkX3_fits 84 rfl) (lv_at hl 1 rfl) ?_
        refine lv_iload hx hb (dk_at dkX3_fits 85 rfl) (lv_at hl 0 rfl) ?_
        refine lv_ior hx hb (dk_at dkX3_fits 86 rfl) ?_
        refine lv_topi (fun x_437 ex_437 => ?_)
        refine lv_iand hx hb (dk_at dkX3_fits 87 rfl) ?_
        refine lv_topi (fun x_438 ex_438 => ?_)
        refine va_iast hx hb hK hP hD hS 2 1 rfl rfl (gi_in gx_435 (by decide)) (dk_at dkX3_fits 88 rfl) (fun H locs hP hD hS => ?_)
        obtain ⟨hP, hD⟩ := gz_both (w := [(h0, .inr (3, [.int months, .int full, .int lean, .ref al, .ref on])), (al, .inl (kal, 25, .inl fal)), (on, .inl (kon, 275, .inl (upd z2 (x_435 : Int32).toNatClampNeg x_438)))]) hP hD
        generalize upd z2 (x_435 : Int32).toNatClampNeg x_438 = f_439 at hP hD
        obtain ⟨x_440, ex_440⟩ : ∃ y : Int32, y = v3 + 1 := ⟨_, rfl⟩
        have gx_440 : gi x_440 1 11 := gi_add ex_440 g_426 (gi_c 1 1 (by decide)) (by decide)
        refine lv_iinc (v := x_440) (lv' := [(3, .int x_440), (5, .int x_433), (4, .int x_430), (0, .ref h0), (1, .int v1), (2, .int v2)]) hx hb (dk_at dkX3_fits 89 rfl) hl (k := 5) rfl (by rw [ex_440]; rfl) (by decide) rfl (fun ls hl => ?_)
        refine lv_goto (tgt := 67) hx hb (dk_at dkX3_fits 90 rfl) (by decide) ?_
        exact ih.2.2 v1 v2 x_440 f_439 _ _ _ gv1 gv2 (gi_w gx_440 (by decide)) (by have av1 := gv1.1; have bv1 := gv1.2; have av3 := gv3.1; have bv3 := gv3.2; have qgx_440 := gx_440.1; have rgx_440 := gx_440.2; have igx_440 : x_440.toInt = v3.toInt + 1 := (by have hc1 : (1 : Int32).toInt = 1 := (by decide); have h9 := gi_addI ex_440 (by have h1 := g_426.1; have h2 := (gi_c 1 1 (by decide)).1; have h3 := g_426.2; have h4 := (gi_c 1 1 (by decide)).2; omega) (by have h1 := g_426.1; have h2 := (gi_c 1 1 (by decide)).1; have h3 := g_426.2; have h4 := (gi_c 1 1 (by decide)).2; omega); rw [hc1] at h9; exact h9); have qgv3 := g_426.1; have rgv3 := g_426.2; have qgv1 := gv1.1; have rgv1 := gv1.2; omega) hP hD hS (lv_sub hl [3, 4, 5, 0] rfl)
abbrev pb_sX3_fits (dC : Nat → ClassId) (dI : Nat → Nat → Nat) (A9 : Nat → Prop) (h0 : Nat) (al : Nat) (on : Nat) (months : Int32) (full : Int32) (lean : Int32) (kal : ClassId) (fal : Nat → Int32) (kon : ClassId) (fon : Nat → Int32) (z2 : Nat → Int32) (t : State) : Prop := va_P (dC, dI) vwCl [(h0, .inr (3, [.int months, .int full, .int lean, .ref al, .ref on])), (al, .inl (kal, 25, .inl fal)), (on, .inl (kon, 275, .inl z2))] t.heap ∧ va_D A9 [(h0, .inr (3, [.int months, .int full, .int lean, .ref al, .ref on])), (al, .inl (kal, 25, .inl fal)), (on, .inl (kon, 275, .inl z2))]
set_option maxHeartbeats 4000000 in
set_option maxRecDepth 100000 in
theorem sX3_fits (l : Launch) (dC : Nat → ClassId) (dI : Nat → Nat → Nat) (sz : Nat) (h0 : Nat) (al : Nat) (on : Nat) (months : Int32) (full : Int32) (lean : Int32) (kal : ClassId) (fal : Nat → Int32) (kon : ClassId) (fon : Nat → Int32) (gmonths : gi months 0 24) (gfull : gi full 0 5) (glean : gi lean 0 5) : Met l yX3_fits (.code yX3_fits cX3_fits 6 (some .boolean) :: wsGA) ({ frames := 1, cells := 0, slots := 0, locals := 22 }) (va_Pc [.ref h0] (fun U => U.heap.size = sz ∧ va_P (dC, dI) vwCl [(h0, .inr (3, [.int months, .int full, .int lean, .ref al, .ref on])), (al, .inl (kal, 25, .inl fal)), (on, .inl (kon, 275, .inl fon))] U.heap ∧ va_K (dC, dI) vwCl [(kal, .int), (kon, .int)] U ∧ va_D (fun _ => True) [(h0, .inr (3, [.int months, .int full, .int lean, .ref al, .ref on])), (al, .inl (kal, 25, .inl fal)), (on, .inl (kon, 275, .inl fon))] ∧ nzA U)) (va_Qi (fun (r : Int32) (u : Unit) => gi r 0 1) (fun _ t => ∃ (z2 : Nat → Int32), pb_sX3_fits dC dI (va_A [(h0, .inr (3, [.int months, .int full, .int lean, .ref al, .ref on])), (al, .inl (kal, 25, .inl fal)), (on, .inl (kon, 275, .inl fon))] sz) h0 al on months full lean kal fal kon fon z2 t) (va_A [(h0, .inr (3, [.int months, .int full, .int lean, .ref al, .ref on])), (al, .inl (kal, 25, .inl fal)), (on, .inl (kon, 275, .inl fon))] sz)) 0 0 (va_A [(h0, .inr (3, [.int months, .int full, .int lean, .ref al, .ref on])), (al, .inl (kal, 25, .inl fal)), (on, .inl (kon, 275, .inl fon))] sz) := by
  refine Met.ofW (cc := cX3_fits) (maxL := 6) (ret := (some .boolean)) (by decide) rfl ?_
  intro p e s m args below meth c s₁ B hml hv
  obtain ⟨rfl, hsz, hP, hK, hD0, hz⟩ := hv
  have hx := B.exec
  have hb := B.bytes
  have hr := B.returns
  have hts := atoms_spec (ws := (.code yX3_fits cX3_fits 6 (some .boolean) :: wsGA)) B.pre
  have hown : s.vm.findClass RX3 = some m.cls := findClass_of_methodNamed B.named
  have hlocks := B.notSynchronized
  subst hsz
  have hD := hD0.self (sz := s.heap.size)
  generalize hAe : va_A [(h0, .inr (3, [.int months, .int full, .int lean, .ref al, .ref on])), (al, .inl (kal, 25, .inl fal)), (on, .inl (kon, 275, .inl fon))] s.heap.size = A at hD ⊢
  have hA : ∀ q : Nat, s.heap.size ≤ q → A q := fun q h => by rw [← hAe]; exact Or.inr h
  have hS : va_S A s.heap s.heap [] := va_S.rf
  have hl := lv_entry ([.ref h0]) (n := 6) (Nat.le_of_ble_eq_true rfl)
  rw [lg_entry_eq]
  generalize (lg_sl ([.ref h0]) ++ List.replicate (6 - (lg_sl ([.ref h0])).length) Slot.unset).toArray = ls at hl ⊢
  have hl : lv_has ls 6 [(0, .ref h0)] := hl
  refine lv_iconst (v := 1) hx hb (dk_at dkX3_fits 0 rfl) (by decide) ?_
  refine lv_istore_n (lv' := [(1, .int 1), (0, .ref h0)]) hx hb (dk_at dkX3_fits 1 rfl) rfl hl (by decide) rfl (fun ls hl => ?_)
  refine (lp_sX3_fits h0 al on months full lean kal fal kon fon gmonths gfull glean hx hb hml hown hts hK hz hA (Nat.le_of_ble_eq_true rfl) (Nat.le_of_ble_eq_true rfl) (Nat.zero_le _) (Nat.zero_le _) (fun v z2 H locs ls gv hP hD hS hl => ?_) 762).1 1 fon _ _ _ (gi_w (gi_c 1 1 (by decide)) (by decide)) (by have k1 : (1 : Int32).toInt = 1 := (by decide); omega) hP hD hS (lv_sub hl [1, 0] rfl)
  · skip
    exact W.zret (v := v) hx hb hr (gz_nb gv) (fun t ht hW => ⟨⟨v, (), rfl, gv, z2, by rw [ht]; exact hP, hD⟩, hS.F ht⟩) hS.2.2 (dk_at dkX3_fits 103 rfl)
noncomputable def lsX3_beginsInto : List (Nat × Instr × Nat) := [(0, .iconst 0, 1), (1, .istore_n 2, 1), (2, .iconst 0, 1), (3, .istore_n 3, 1), (4, .aload_n 1, 1), (5, .iconst 0, 1), (6, .iconst 0, 1), (7, .iastore, 1), (8, .iconst 0, 1), (9, .istore 4, 2), (11, .iload 4, 2), (13, .aload_n 0, 1), (14, .getfield 24, 3), (17, .if_icmp .ge 79, 3), (20, .iload_n 3, 1), (21, .aload_n 0, 1), (22, .getfield 28, 3), (25, .invokestatic 56, 3), (28, .istore 5, 2), (30, .aload_n 0, 1), (31, .getfield 15, 3), (34, .iload 4, 2), (36, .iconst 1, 1), (37, .iadd, 1), (38, .bipush 11, 2), (40, .imul, 1), (41, .iload 5, 2), (43, .iadd, 1), (44, .iaload, 1), (45, .iload_n 2, 1), (46, .iconst 1, 1), (47, .iadd, 1), (48, .ishr, 1), (49, .iconst 1, 1), (50, .iand, 1), (51, .ifCond .eq 12, 3), (54, .iload 5, 2), (56, .istore_n 3, 1), (57, .iinc 2 1, 3), (60, .goto 16, 3), (63, .iload_n 3, 1), (64, .aload_n 0, 1), (65, .getfield 28, 3), (68, .aload_n 0, 1), (69, .getfield 32, 3), (72, .invokestatic 60, 3), (75, .istore_n 3, 1), (76, .aload_n 1, 1), (77, .iload 4, 2), (79, .iconst 1, 1), (80, .iadd, 1), (81, .iload 4, 2), (83, .iconst 1, 1), (84, .iadd, 1), (85, .iload_n 2, 1), (86, .invokestatic 63, 3), (89, .iastore, 1), (90, .iinc 4 1, 3), (93, .goto (-82), 3), (96, .return_, 1)]
theorem dkX3_beginsInto : dkAll cX3_beginsInto lsX3_beginsInto = true := by decide +kernel
set_option maxHeartbeats 4000000 in
set_option maxRecDepth 100000 in
theorem lp_sX3_beginsInto {p : Program} {l : Launch} {e : Env} {R : Room} {s : State} {m : MethodId} {args : Array Value} {below : List Frame} {meth : Method} {c : Code} {Q : State → Prop} {A : Nat → Prop} {cells slots : Nat} {dC : Nat → ClassId} {dI : Nat → Nat → Nat} (h0 : Nat) (al : Nat) (on : Nat) (bg : Nat) (months : Int32) (full : Int32) (lean : Int32) (kal : ClassId) (fal : Nat → Int32) (kon : ClassId) (fon : Nat → Int32) (kbg : ClassId) (fbg : Nat → Int32) (gmonths : gi months 0 24) (gfull : gi full 0 5) (glean : gi lean 0 5) (hx : p.tables.exec = Jvm.exec) (hb : c.code = cX3_beginsInto) (hml : c.maxLocals = 6) (hown : s.vm.findClass RX3 = some m.cls) (hts : ∀ w ∈ ((.code yX3_beginsInto cX3_beginsInto 6 none :: wsGA) : List Cond), w.before args s = true) (hK : va_K (dC, dI) vwCl [(kal, .int), (kon, .int), (kbg, .int)] s) (hz : nzA s) (hA : ∀ q : Nat, s.heap.size ≤ q → A q) (hRf : 1 ≤ R.frames) (hRl : 22 ≤ R.locals) (hRc : cells ≤ R.cells) (hRs : slots ≤ R.slots) (kr96 : ∀ (z3 : Nat → Int32) (H : Heap) (locs : List Loc) (ls : Array Slot), va_P (dC, dI) vwCl [(h0, .inr (3, [.int months, .int full, .int lean, .ref al, .ref on])), (al, .inl (kal, 25, .inl fal)), (on, .inl (kon, 275, .inl fon)), (bg, .inl (kbg, 25, .inl z3))] H → va_D A [(h0, .inr (3, [.int months, .int full, .int lean, .ref al, .ref on])), (al, .inl (kal, 25, .inl fal)), (on, .inl (kon, 275, .inl fon)), (bg, .inl (kbg, 25, .inl z3))] → va_S A s.heap H locs → lv_has ls 6 [] → W p l e R s m args below meth c H locs cells slots Q (F0 m 96 ls [])) : ∀ z : Nat, (∀ (v2 : Int32) (v3 : Int32) (v4 : Int32) (z3 : Nat → Int32) (H : Heap) (locs : List Loc) (ls : Array Slot), gi v3 0 10 → gi v4 0 24 → 49 + (-2) * v4.toInt < (z : Int) → va_P (dC, dI) vwCl [(h0, .inr (3, [.int months, .int full, .int lean, .ref al, .ref on])), (al, .inl (kal, 25, .inl fal)), (on, .inl (kon, 275, .inl fon)), (bg, .inl (kbg, 25, .inl z3))] H → va_D A [(h0, .inr (3, [.int months, .int full, .int lean, .ref al, .ref on])), (al, .inl (kal, 25, .inl fal)), (on, .inl (kon, 275, .inl fon)), (bg, .inl (kbg, 25, .inl z3))] → va_S A s.heap H locs → lv_has ls 6 [(0, .ref h0), (1, .ref bg), (2, .int v2), (3, .int v3), (4, .int v4)] → W p l e R s m args below meth c H locs cells slots Q (F0 m 11 ls [])) := by
  intro z
  induction z with
  | zero =>
    intro v2 v3 v4 z3 H locs ls gv3 gv4 hmu hP hD hS hl
    exact absurd hmu (by have hv41 := gv4.1; have hv42 := gv4.2; omega)
  | succ z ih =>
      intro v2 v3 v4 z3 H locs ls gv3 gv4 hmu hP hD hS hl
      refine lv_iload hx hb (dk_at dkX3_beginsInto 10 rfl) (lv_at hl 4 rfl) ?_
      refine lv_aload_n hx hb (dk_at dkX3_beginsInto 11 rfl) rfl (lv_at hl 0 rfl) ?_
      refine va_get (D := (dC, dI)) (ci := 3) (v := .int months) (C := RX3) (T := TX3) (N := 5) hx hb hts (fun w h => List.mem_cons_of_mem _ (jnGA_X3 w h)) hown hK hP 0 rfl rfl 0 (by decide) (hts _ (List.mem_cons_of_mem _ mGA_477)) (fun _ h9 => h9) rfl (dk_at dkX3_beginsInto 12 rfl) ?_
      refine lv_icmp_ge (tgt := 96) hx hb (dk_at dkX3_beginsInto 13 rfl) (by decide) (fun c_1054 => ?_) (fun c_1054 => ?_)
      · exact kr96 z3 _ _ _ hP hD hS (lv_sub hl [] rfl)
      · have g_1055 : gi v4 0 23 := gi_lt_l (Int32.not_le.mp c_1054) gv4 gmonths (by decide)
        have g_1056 : gi months 1 24 := gi_lt_r (Int32.not_le.mp c_1054) gv4 gmonths (by decide)
        refine lv_iload_n hx hb (dk_at dkX3_beginsInto 14 rfl) rfl (lv_at hl 3 rfl) ?_
        refine lv_aload_n hx hb (dk_at dkX3_beginsInto 15 rfl) rfl (lv_at hl 0 rfl) ?_
        refine va_get (D := (dC, dI)) (ci := 3) (v := .int full) (C := RX3) (T := TX3) (N := 5) hx hb hts (fun w h => List.mem_cons_of_mem _ (jnGA_X3 w h)) hown hK hP 0 rfl rfl 1 (by decide) (hts _ (List.mem_cons_of_mem _ mGA_479)) (fun _ h9 => h9) rfl (dk_at dkX3_beginsInto 16 rfl) ?_
        have hPc := hP.sub (ws' := []) [] rfl
        have hKc := hK.sub (tys' := []) [] rfl
        refine va_calli (va_runSN (As := [.int v3, .int full]) (rest := []) ⟨hx, hb, hml, hown, hts⟩ (sX11_runWithFull l dC dI v3 full gv3 gfull) (⟨va_cnB 2 hts (gz_gP mGA_508 goodGA) rfl rfl rfl (nzA_X3_56 hz) (hts _ (List.mem_cons_of_mem _ mGA_1)) (by decide +kernel) ⟨Nat.le_trans (Nat.le_of_ble_eq_true rfl) hRf, Nat.le_trans (Nat.le_of_ble_eq_true rfl) hRl⟩, (hts _ (List.mem_cons_of_mem _ mGA_507)), trivial⟩) ⟨bl_I (bl_a bl_P (bl_a bl_K bl_nz)), fun U hU hW => ⟨rfl, by rw [hU]; exact hPc, va_K.moved hW.alike hKc, nzA_warm hW hz⟩⟩ rfl rfl hl.1 rfl (lv_room (Nat.le_of_ble_eq_true rfl)) (dk_at dkX3_beginsInto 17 rfl) ⟨hRc, hRs⟩) hS (fun q _ h => h.elim) (fun q h => h.elim) (fun r_1057 u t H1 locs ht hvm hw hB hz1 hk1 hS => ?_)
        have hP := gz_keep hP hk1
        generalize H1 = H at hP hS ⊢
        have gr_1057 : gi r_1057 0 5 := hw
        refine lv_istore (lv' := [(5, .int r_1057), (0, .ref h0), (1, .ref bg), (2, .int v2), (3, .int v3), (4, .int v4)]) hx hb (dk_at dkX3_beginsInto 18 rfl) hl (by decide) rfl (fun ls hl => ?_)
        refine lv_aload_n hx hb (dk_at dkX3_beginsInto 19 rfl) rfl (lv_at hl 1 rfl) ?_
        refine va_get (D := (dC, dI)) (ci := 3) (v := .ref on) (C := RX3) (T := TX3) (N := 5) hx hb hts (fun w h => List.mem_cons_of_mem _ (jnGA_X3 w h)) hown hK hP 0 rfl rfl 4 (by decide) (hts _ (List.mem_cons_of_mem _ mGA_95)) (fun _ h9 => h9) rfl (dk_at dkX3_beginsInto 20 rfl) ?_
        refine lv_iload hx hb (dk_at dkX3_beginsInto 21 rfl) (lv_at hl 5 rfl) ?_
        refine lv_iconst (v := 1) hx hb (dk_at dkX3_beginsInto 22 rfl) (by decide) ?_
        refine lv_iadd hx hb (dk_at dkX3_beginsInto 23 rfl) ?_
        refine lv_topi (fun x_1058 ex_1058 => ?_)
        have gx_1058 : gi x_1058 1 24 := gi_add ex_1058 g_1055 (gi_c 1 1 (by decide)) (by decide)
        refine lv_bipush (v := 11) hx hb (dk_at dkX3_beginsInto 24 rfl) (by decide) ?_
        refine lv_imul hx hb (dk_at dkX3_beginsInto 25 rfl) ?_
        refine lv_topi (fun x_1059 ex_1059 => ?_)
        have gx_1059 : gi x_1059 11 264 := gi_mul ex_1059 gx_1058 (gi_c 11 11 (by decide)) (by decide)
        refine lv_iload hx hb (dk_at dkX3_beginsInto 26 rfl) (lv_at hl 0 rfl) ?_
        refine lv_iadd hx hb (dk_at dkX3_beginsInto 27 rfl) ?_
        refine lv_topi (fun x_1060 ex_1060 => ?_)
        have gx_1060 : gi x_1060 11 269 := gi_add ex_1060 gx_1059 gr_1057 (by decide)
        refine va_iald hx hb hK hP 2 1 rfl rfl (gi_in gx_1060 (by decide)) (dk_at dkX3_beginsInto 28 rfl) ?_
        refine lv_topi (fun x_1061 ex_1061 => ?_)
        refine lv_iload_n hx hb (dk_at dkX3_beginsInto 29 rfl) rfl (lv_at hl 3 rfl) ?_
        refine lv_iconst (v := 1) hx hb (dk_at dkX3_beginsInto 30 rfl) (by decide) ?_
        refine lv_iadd hx hb (dk_at dkX3_beginsInto 31 rfl) ?_
        refine lv_topi (fun x_1062 ex_1062 => ?_)
        refine lv_ishr hx hb (dk_at dkX3_beginsInto 32 rfl) ?_
        refine lv_topi (fun x_1063 ex_1063 => ?_)
        refine lv_iconst (v := 1) hx hb (dk_at dkX3_beginsInto 33 rfl) (by decide) ?_
        refine lv_iand hx hb (dk_at dkX3_beginsInto 34 rfl) ?_
        refine lv_topi (fun x_1064 ex_1064 => ?_)
        have gx_1064 : gi x_1064 0 1 := gi_and1 ex_1064
        refine lv_if_eq (tgt := 63) hx hb (dk_at dkX3_beginsInto 35 rfl) (by decide) (fun c_1065 => ?_) (fun c_1065 => ?_)
        · have g_1066 : gi x_1064 0 0 := gi_eq c_1065 (gi_c 0 0 (by decide))
          refine lv_iload_n hx hb (dk_at dkX3_beginsInto 40 rfl) rfl (lv_at hl 4 rfl) ?_
          refine lv_aload_n hx hb (dk_at dkX3_beginsInto 41 rfl) rfl (lv_at hl 1 rfl) ?_
          refine va_get (D := (dC, dI)) (ci := 3) (v := .int full) (C := RX3) (T := TX3) (N := 5) hx hb hts (fun w h => List.mem_cons_of_mem _ (jnGA_X3 w h)) hown hK hP 0 rfl rfl 1 (by decide) (hts _ (List.mem_cons_of_mem _ mGA_479)) (fun _ h9 => h9) rfl (dk_at dkX3_beginsInto 42 rfl) ?_
          refine lv_aload_n hx hb (dk_at dkX3_beginsInto 43 rfl) rfl (lv_at hl 1 rfl) ?_
          refine va_get (D := (dC, dI)) (ci := 3) (v := .int lean) (C := RX3) (T := TX3) (N := 5) hx hb hts (fun w h => List.mem_cons_of_mem _ (jnGA_X3 w h)) hown hK hP 0 rfl rfl 2 (by decide) (hts _ (List.mem_cons_of_mem _ mGA_481)) (fun _ h9 => h9) rfl (dk_at dkX3_beginsInto 44 rfl) ?_
          have hPc := hP.sub (ws' := []) [] rfl
          have hKc := hK.sub (tys' := []) [] rfl
          refine va_calli (va_runSN (As := [.int v3, .int full, .int lean]) (rest := []) ⟨hx, hb, hml, hown, hts⟩ (sX11_runWithLean l dC dI v3 full lean gv3 gfull glean) (⟨va_cnB 3 hts (gz_gP mGA_510 goodGA) rfl rfl rfl (nzA_X3_60 hz) (hts _ (List.mem_cons_of_mem _ mGA_1)) (by decide +kernel) ⟨Nat.le_trans (Nat.le_of_ble_eq_true rfl) hRf, Nat.le_trans (Nat.le_of_ble_eq_true rfl) hRl⟩, (hts _ (List.mem_cons_of_mem _ mGA_509)), trivial⟩) ⟨bl_I (bl_a bl_P (bl_a bl_K bl_nz)), fun U hU hW => ⟨rfl, by rw [hU]; exact hPc, va_K.moved hW.alike hKc, nzA_warm hW hz⟩⟩ rfl rfl hl.1 rfl (lv_room (Nat.le_of_ble_eq_true rfl)) (dk_at dkX3_beginsInto 45 rfl) ⟨hRc, hRs⟩) hS (fun q _ h => h.elim) (fun q h => h.elim) (fun r_1067 u t H1 locs ht hvm hw hB hz1 hk1 hS => ?_)
          have hP := gz_keep hP hk1
          generalize H1 = H at hP hS ⊢
          have gr_1067 : gi r_1067 0 10 := hw
          refine lv_istore_n (lv' := [(3, .int r_1067), (5, .int r_1057), (0, .ref h0), (1, .ref bg), (2, .int v2), (4, .int v4)]) hx hb (dk_at dkX3_beginsInto 46 rfl) rfl hl (by decide) rfl (fun ls hl => ?_)
          refine lv_aload_n hx hb (dk_at dkX3_beginsInto 47 rfl) rfl (lv_at hl 3 rfl) ?_
          refine lv_iload hx hb (dk_at dkX3_beginsInto 48 rfl) (lv_at hl 5 rfl) ?_
          refine lv_iconst (v := 1) hx hb (dk_at dkX3_beginsInto 49 rfl) (by decide) ?_
          refine lv_iadd hx hb (dk_at dkX3_beginsInto 50 rfl) ?_
          refine lv_topi (fun x_1068 ex_1068 => ?_)
          have gx_1068 : gi x_1068 1 24 := gi_add ex_1068 g_1055 (gi_c 1 1 (by decide)) (by decide)
          refine lv_iload hx hb (dk_at dkX3_beginsInto 51 rfl) (lv_at hl 5 rfl) ?_
          refine lv_iconst (v := 1) hx hb (dk_at dkX3_beginsInto 52 rfl) (by decide) ?_
          refine lv_iadd hx hb (dk_at dkX3_beginsInto 53 rfl) ?_
          refine lv_topi (fun x_1069 ex_1069 => ?_)
          have gx_1069 : gi x_1069 1 24 := gi_add ex_1069 g_1055 (gi_c 1 1 (by decide)) (by decide)
          refine lv_iload_n hx hb (dk_at dkX3_beginsInto 54 rfl) rfl (lv_at hl 4 rfl) ?_
          have hPc := hP.sub (ws' := []) [] rfl
          have hKc := hK.sub (tys' := []) [] rfl
          refine va_calli (va_runSN (As := [.int x_1069, .int v2]) (rest := [.int x_1068, .ref bg]) ⟨hx, hb, hml, hown, hts⟩ (sX11_dayOf l dC dI x_1069 v2) (⟨va_cnB 2 hts (gz_gP mGA_516 goodGA) rfl rfl rfl (nzA_X3_63 hz) (hts _ (List.mem_cons_of_mem _ mGA_1)) (by decide +kernel) ⟨Nat.le_trans (Nat.le_of_ble_eq_true rfl) hRf, Nat.le_trans (Nat.le_of_ble_eq_true rfl) hRl⟩, (hts _ (List.mem_cons_of_mem _ mGA_515)), trivial⟩) ⟨bl_I (bl_a bl_P (bl_a bl_K bl_nz)), fun U hU hW => ⟨rfl, by rw [hU]; exact hPc, va_K.moved hW.alike hKc, nzA_warm hW hz⟩⟩ rfl rfl hl.1 rfl (lv_room (Nat.le_of_ble_eq_true rfl)) (dk_at dkX3_beginsInto 55 rfl) ⟨hRc, hRs⟩) hS (fun q _ h => h.elim) (fun q h => h.elim) (fun r_1070 u t H1 locs ht hvm hw hB hz1 hk1 hS => ?_)
          have hP := gz_keep hP hk1
          generalize H1 = H at hP hS ⊢
          refine va_iast hx hb hK hP hD hS 3 2 rfl rfl (gi_in gx_1068 (by decide)) (dk_at dkX3_beginsInto 56 rfl) (fun H locs hP hD hS => ?_)
          obtain ⟨hP, hD⟩ := gz_both (w := [(h0, .inr (3, [.int months, .int full, .int lean, .ref al, .ref on])), (al, .inl (kal, 25, .inl fal)), (on, .inl (kon, 275, .inl fon)), (bg, .inl (kbg, 25, .inl (upd z3 (x_1068 : Int32).toNatClampNeg r_1070)))]) hP hD
          generalize upd z3 (x_1068 : Int32).toNatClampNeg r_1070 = f_1071 at hP hD
          obtain ⟨x_1072, ex_1072⟩ : ∃ y : Int32, y = v4 + 1 := ⟨_, rfl⟩
          have gx_1072 : gi x_1072 1 24 := gi_add ex_1072 g_1055 (gi_c 1 1 (by decide)) (by decide)
          refine lv_iinc (v := x_1072) (lv' := [(4, .int x_1072), (3, .int r_1067), (5, .int r_1057), (0, .ref h0), (1, .ref bg), (2, .int v2)]) hx hb (dk_at dkX3_beginsInto 57 rfl) hl (k := 5) rfl (by rw [ex_1072]; rfl) (by decide) rfl (fun ls hl => ?_)
          refine lv_goto (tgt := 11) hx hb (dk_at dkX3_beginsInto 58 rfl) (by decide) ?_
          exact ih v2 r_1067 x_1072 f_1071 _ _ _ gr_1067 (gi_w gx_1072 (by decide)) (by have av4 := gv4.1; have bv4 := gv4.2; have qgx_1072 := gx_1072.1; have rgx_1072 := gx_1072.2; have igx_1072 : x_1072.toInt = v4.toInt + 1 := (by have hc1 : (1 : Int32).toInt = 1 := (by decide); have h9 := gi_addI ex_1072 (by have h1 := g_1055.1; have h2 := (gi_c 1 1 (by decide)).1; have h3 := g_1055.2; have h4 := (gi_c 1 1 (by decide)).2; omega) (by have h1 := g_1055.1; have h2 := (gi_c 1 1 (by decide)).1; have h3 := g_1055.2; have h4 := (gi_c 1 1 (by decide)).2; omega); rw [hc1] at h9; exact h9); have qgv4 := g_1055.1; have rgv4 := g_1055.2; omega) hP hD hS (lv_sub hl [3, 4, 5, 1, 0] rfl)
        · have g_1073 : gi x_1064 1 1 := gi_ne_lo c_1065 gx_1064 (gi_c 0 0 (by decide)) (by decide)
          refine lv_iload hx hb (dk_at dkX3_beginsInto 36 rfl) (lv_at hl 0 rfl) ?_
          refine lv_istore_n (lv' := [(3, .int r_1057), (5, .int r_1057), (0, .ref h0), (1, .ref bg), (2, .int v2), (4, .int v4)]) hx hb (dk_at dkX3_beginsInto 37 rfl) rfl hl (by decide) rfl (fun ls hl => ?_)
          obtain ⟨x_1074, ex_1074⟩ : ∃ y : Int32, y = v2 + 1 := ⟨_, rfl⟩
          refine lv_iinc (v := x_1074) (lv' := [(2, .int x_1074), (3, .int r_1057), (5, .int r_1057), (0, .ref h0), (1, .ref bg), (4, .int v4)]) hx hb (dk_at dkX3_beginsInto 38 rfl) hl (k := 4) rfl (by rw [ex_1074]; rfl) (by decide) rfl (fun ls hl => ?_)
          refine lv_goto (tgt := 76) hx hb (dk_at dkX3_beginsInto 39 rfl) (by decide) ?_
          refine lv_aload_n hx hb (dk_at dkX3_beginsInto 47 rfl) rfl (lv_at hl 4 rfl) ?_
          refine lv_iload hx hb (dk_at dkX3_beginsInto 48 rfl) (lv_at hl 5 rfl) ?_
          refine lv_iconst (v := 1) hx hb (dk_at dkX3_beginsInto 49 rfl) (by decide) ?_
          refine lv_iadd hx hb (dk_at dkX3_beginsInto 50 rfl) ?_
          refine lv_topi (fun x_1075 ex_1075 => ?_)
          have gx_1075 : gi x_1075 1 24 := gi_add ex_1075 g_1055 (gi_c 1 1 (by decide)) (by decide)
          refine lv_iload hx hb (dk_at dkX3_beginsInto 51 rfl) (lv_at hl 5 rfl) ?_
          refine lv_iconst (v := 1) hx hb (dk_at dkX3_beginsInto 52 rfl) (by decide) ?_
          refine lv_iadd hx hb (dk_at dkX3_beginsInto 53 rfl) ?_
          refine lv_topi (fun x_1076 ex_1076 => ?_)
          have gx_1076 : gi x_1076 1 24 := gi_add ex_1076 g_1055 (gi_c 1 1 (by decide)) (by decide)
          refine lv_iload_n hx hb (dk_at dkX3_beginsInto 54 rfl) rfl (lv_at hl 0 rfl) ?_
          have hPc := hP.sub (ws' := []) [] rfl
          have hKc := hK.sub (tys' := []) [] rfl
          refine va_calli (va_runSN (As := [.int x_1076, .int x_1074]) (rest := [.int x_1075, .ref bg]) ⟨hx, hb, hml, hown, hts⟩ (sX11_dayOf l dC dI x_1076 x_1074) (⟨va_cnB 2 hts (gz_gP mGA_516 goodGA) rfl rfl rfl (nzA_X3_63 hz) (hts _ (List.mem_cons_of_mem _ mGA_1)) (by decide +kernel) ⟨Nat.le_trans (Nat.le_of_ble_eq_true rfl) hRf, Nat.le_trans (Nat.le_of_ble_eq_true rfl) hRl⟩, (hts _ (List.mem_cons_of_mem _ mGA_515)), trivial⟩) ⟨bl_I (bl_a bl_P (bl_a bl_K bl_nz)), fun U hU hW => ⟨rfl, by rw [hU]; exact hPc, va_K.moved hW.alike hKc, nzA_warm hW hz⟩⟩ rfl rfl hl.1 rfl (lv_room (Nat.le_of_ble_eq_true rfl)) (dk_at dkX3_beginsInto 55 rfl) ⟨hRc, hRs⟩) hS (fun q _ h => h.elim) (fun q h => h.elim) (fun r_1077 u t H1 locs ht hvm hw hB hz1 hk1 hS => ?_)
          have hP := gz_keep hP hk1
          generalize H1 = H at hP hS ⊢
          refine va_iast hx hb hK hP hD hS 3 2 rfl rfl (gi_in gx_1075 (by decide)) (dk_at dkX3_beginsInto 56 rfl) (fun H locs hP hD hS => ?_)
          obtain ⟨hP, hD⟩ := gz_both (w := [(h0, .inr (3, [.int months, .int full, .int lean, .ref al, .ref on])), (al, .inl (kal, 25, .inl fal)), (on, .inl (kon, 275, .inl fon)), (bg, .inl (kbg, 25, .inl (upd z3 (x_1075 : Int32).toNatClampNeg r_1077)))]) hP hD
          generalize upd z3 (x_1075 : Int32).toNatClampNeg r_1077 = f_1078 at hP hD
          obtain ⟨x_1079, ex_1079⟩ : ∃ y : Int32, y = v4 + 1 := ⟨_, rfl⟩
          have gx_1079 : gi x_1079 1 24 := gi_add ex_1079 g_1055 (gi_c 1 1 (by decide)) (by decide)
          refine lv_iinc (v := x_1079) (lv' := [(4, .int x_1079), (2, .int x_1074), (3, .int r_1057), (5, .int r_1057), (0, .ref h0), (1, .ref bg)]) hx hb (dk_at dkX3_beginsInto 57 rfl) hl (k := 5) rfl (by rw [ex_1079]; rfl) (by decide) rfl (fun ls hl => ?_)
          refine lv_goto (tgt := 11) hx hb (dk_at dkX3_beginsInto 58 rfl) (by decide) ?_
          exact ih x_1074 r_1057 x_1079 f_1078 _ _ _ (gi_w gr_1057 (by decide)) (gi_w gx_1079 (by decide)) (by have av4 := gv4.1; have bv4 := gv4.2; have qgx_1079 := gx_1079.1; have rgx_1079 := gx_1079.2; have igx_1079 : x_1079.toInt = v4.toInt + 1 := (by have hc1 : (1 : Int32).toInt = 1 := (by decide); have h9 := gi_addI ex_1079 (by have h1 := g_1055.1; have h2 := (gi_c 1 1 (by decide)).1; have h3 := g_1055.2; have h4 := (gi_c 1 1 (by decide)).2; omega) (by have h1 := g_1055.1; have h2 := (gi_c 1 1 (by decide)).1; have h3 := g_1055.2; have h4 := (gi_c 1 1 (by decide)).2; omega); rw [hc1] at h9; exact h9); have qgv4 := g_1055.1; have rgv4 := g_1055.2; omega) hP hD hS (lv_sub hl [4, 5, 1, 2, 0] rfl)
abbrev pb_sX3_beginsInto (dC : Nat → ClassId) (dI : Nat → Nat → Nat) (A9 : Nat → Prop) (h0 : Nat) (al : Nat) (on : Nat) (bg : Nat) (months : Int32) (full : Int32) (lean : Int32) (kal : ClassId) (fal : Nat → Int32) (kon : ClassId) (fon : Nat → Int32) (kbg : ClassId) (fbg : Nat → Int32) (z3 : Nat → Int32) (t : State) : Prop := va_P (dC, dI) vwCl [(h0, .inr (3, [.int months, .int full, .int lean, .ref al, .ref on])), (al, .inl (kal, 25, .inl fal)), (on, .inl (kon, 275, .inl fon)), (bg, .inl (kbg, 25, .inl z3))] t.heap ∧ va_D A9 [(h0, .inr (3, [.int months, .int full, .int lean, .ref al, .ref on])), (al, .inl (kal, 25, .inl fal)), (on, .inl (kon, 275, .inl fon)), (bg, .inl (kbg, 25, .inl z3))]
set_option maxHeartbeats 4000000 in
set_option maxRecDepth 100000 in
theorem sX3_beginsInto (l : Launch) (dC : Nat → ClassId) (dI : Nat → Nat → Nat) (sz : Nat) (h0 : Nat) (al : Nat) (on : Nat) (bg : Nat) (months : Int32) (full : Int32) (lean : Int32) (kal : ClassId) (fal : Nat → Int32) (kon : ClassId) (fon : Nat → Int32) (kbg : ClassId) (fbg : Nat → Int32) (gmonths : gi months 0 24) (gfull : gi full 0 5) (glean : gi lean 0 5) : Met l yX3_beginsInto (.code yX3_beginsInto cX3_beginsInto 6 none :: wsGA) ({ frames := 1, cells := 0, slots := 0, locals := 22 }) (va_Pc [.ref h0, .ref bg] (fun U => U.heap.size = sz ∧ va_P (dC, dI) vwCl [(h0, .inr (3, [.int months, .int full, .int lean, .ref al, .ref on])), (al, .inl (kal, 25, .inl fal)), (on, .inl (kon, 275, .inl fon)), (bg, .inl (kbg, 25, .inl fbg))] U.heap ∧ va_K (dC, dI) vwCl [(kal, .int), (kon, .int), (kbg, .int)] U ∧ va_D (fun _ => True) [(h0, .inr (3, [.int months, .int full, .int lean, .ref al, .ref on])), (al, .inl (kal, 25, .inl fal)), (on, .inl (kon, 275, .inl fon)), (bg, .inl (kbg, 25, .inl fbg))] ∧ nzA U)) (va_Qv (fun (u : Unit) => True) (fun _ t => ∃ (z3 : Nat → Int32), pb_sX3_beginsInto dC dI (va_A [(h0, .inr (3, [.int months, .int full, .int lean, .ref al, .ref on])), (al, .inl (kal, 25, .inl fal)), (on, .inl (kon, 275, .inl fon)), (bg, .inl (kbg, 25, .inl fbg))] sz) h0 al on bg months full lean kal fal kon fon kbg fbg z3 t) (va_A [(h0, .inr (3, [.int months, .int full, .int lean, .ref al, .ref on])), (al, .inl (kal, 25, .inl fal)), (on, .inl (kon, 275, .inl fon)), (bg, .inl (kbg, 25, .inl fbg))] sz)) 0 0 (va_A [(h0, .inr (3, [.int months, .int full, .int lean, .ref al, .ref on])), (al, .inl (kal, 25, .inl fal)), (on, .inl (kon, 275, .inl fon)), (bg, .inl (kbg, 25, .inl fbg))] sz) := by
  refine Met.ofW (cc := cX3_beginsInto) (maxL := 6) (ret := none) (by decide) rfl ?_
  intro p e s m args below meth c s₁ B hml hv
  obtain ⟨rfl, hsz, hP, hK, hD0, hz⟩ := hv
  have hx := B.exec
  have hb := B.bytes
  have hr := B.returns
  have hts := atoms_spec (ws := (.code yX3_beginsInto cX3_beginsInto 6 none :: wsGA)) B.pre
  have hown : s.vm.findClass RX3 = some m.cls := findClass_of_methodNamed B.named
  have hlocks := B.notSynchronized
  subst hsz
  have hD := hD0.self (sz := s.heap.size)
  generalize hAe : va_A [(h0, .inr (3, [.int months, .int full, .int lean, .ref al, .ref on])), (al, .inl (kal, 25, .inl fal)), (on, .inl (kon, 275, .inl fon)), (bg, .inl (kbg, 25, .inl fbg))] s.heap.size = A at hD ⊢
  have hA : ∀ q : Nat, s.heap.size ≤ q → A q := fun q h => by rw [← hAe]; exact Or.inr h
  have hS : va_S A s.heap s.heap [] := va_S.rf
  have hl := lv_entry ([.ref h0, .ref bg]) (n := 6) (Nat.le_of_ble_eq_true rfl)
  rw [lg_entry_eq]
  generalize (lg_sl ([.ref h0, .ref bg]) ++ List.replicate (6 - (lg_sl ([.ref h0, .ref bg])).length) Slot.unset).toArray = ls at hl ⊢
  have hl : lv_has ls 6 [(0, .ref h0), (1, .ref bg)] := hl
  refine lv_iconst (v := 0) hx hb (dk_at dkX3_beginsInto 0 rfl) (by decide) ?_
  refine lv_istore_n (lv' := [(2, .int 0), (0, .ref h0), (1, .ref bg)]) hx hb (dk_at dkX3_beginsInto 1 rfl) rfl hl (by decide) rfl (fun ls hl => ?_)
  refine lv_iconst (v := 0) hx hb (dk_at dkX3_beginsInto 2 rfl) (by decide) ?_
  refine lv_istore_n (lv' := [(3, .int 0), (2, .int 0), (0, .ref h0), (1, .ref bg)]) hx hb (dk_at dkX3_beginsInto 3 rfl) rfl hl (by decide) rfl (fun ls hl => ?_)
  refine lv_aload_n hx hb (dk_at dkX3_beginsInto 4 rfl) rfl (lv_at hl 3 rfl) ?_
  refine lv_iconst (v := 0) hx hb (dk_at dkX3_beginsInto 5 rfl) (by decide) ?_
  refine lv_iconst (v := 0) hx hb (dk_at dkX3_beginsInto 6 rfl) (by decide) ?_
  refine va_iast hx hb hK hP hD hS 3 2 rfl rfl (gi_in (gi_c 0 0 (by decide)) (by decide)) (dk_at dkX3_beginsInto 7 rfl) (fun H locs hP hD hS => ?_)
  obtain ⟨hP, hD⟩ := gz_both (w := [(h0, .inr (3, [.int months, .int full, .int lean, .ref al, .ref on])), (al, .inl (kal, 25, .inl fal)), (on, .inl (kon, 275, .inl fon)), (bg, .inl (kbg, 25, .inl (upd fbg (0 : Int32).toNatClampNeg 0)))]) hP hD
  generalize upd fbg (0 : Int32).toNatClampNeg 0 = f_1080 at hP hD
  refine lv_iconst (v := 0) hx hb (dk_at dkX3_beginsInto 8 rfl) (by decide) ?_
  refine lv_istore (lv' := [(4, .int 0), (3, .int 0), (2, .int 0), (0, .ref h0), (1, .ref bg)]) hx hb (dk_at dkX3_beginsInto 9 rfl) hl (by decide) rfl (fun ls hl => ?_)
  refine (lp_sX3_beginsInto h0 al on bg months full lean kal fal kon fon kbg fbg gmonths gfull glean hx hb hml hown hts hK hz hA (Nat.le_of_ble_eq_true rfl) (Nat.le_of_ble_eq_true rfl) (Nat.zero_le _) (Nat.zero_le _) (fun z3 H locs ls hP hD hS hl => ?_) 62) 0 0 0 f_1080 _ _ _ (gi_w (gi_c 0 0 (by decide)) (by decide)) (gi_w (gi_c 0 0 (by decide)) (by decide)) (by have k0 : (0 : Int32).toInt = 0 := (by decide); omega) hP hD hS (lv_sub hl [3, 4, 2, 1, 0] rfl)
  · skip
    exact W.vret hx hb hr (fun t ht hW => ⟨⟨(), rfl, trivial, z3, by rw [ht]; exact hP, hD⟩, hS.F ht⟩) hS.2.2 (dk_at dkX3_beginsInto 59 rfl)
noncomputable def lsX3_open : List (Nat × Instr × Nat) := [(0, .aload_n 0, 1), (1, .aload_n 1, 1), (2, .getfield 18, 3), (5, .putfield 24, 3), (8, .aload_n 0, 1), (9, .aload_n 1, 1), (10, .getfield 25, 3), (13, .putfield 28, 3), (16, .aload_n 0, 1), (17, .aload_n 1, 1), (18, .getfield 29, 3), (21, .putfield 32, 3), (24, .iconst 0, 1), (25, .istore_n 2, 1), (26, .iload_n 2, 1), (27, .aload_n 0, 1), (28, .getfield 24, 3), (31, .if_icmp .gt 20, 3), (34, .aload_n 0, 1), (35, .getfield 9, 3), (38, .iload_n 2, 1), (39, .iconst 2, 1), (40, .iload_n 2, 1), (41, .ishl, 1), (42, .iconst 1, 1), (43, .isub, 1), (44, .iastore, 1), (45, .iinc 2 1, 3), (48, .goto (-22), 3), (51, .return_, 1)]
theorem dkX3_open : dkAll cX3_open lsX3_open = true := by decide +kernel
set_option maxHeartbeats 4000000 in
set_option maxRecDepth 100000 in
theorem lp_sX3_open {p : Program} {l : Launch} {e : Env} {R : Room} {s : State} {m : MethodId} {args : Array Value} {below : List Frame} {meth : Method} {c : Code} {Q : State → Prop} {A : Nat → Prop} {cells slots : Nat} {dC : Nat → ClassId} {dI : Nat → Nat → Nat} (h0 : Nat) (al : Nat) (am : Nat) (months : Int32) (full : Int32) (lean : Int32) (on : Nat) (kal : ClassId) (fal : Nat → Int32) (amonths : Int32) (afull : Int32) (alean : Int32) (alines : Int32) (ahasMoon : Int32) (amoonStart : Int32) (amoonStep : Int32) (aplaceCount : Int32) (areportCount : Int32) (adeedCount : Int32) (aplaces : Nat) (areports : Nat) (adeeds : Nat) (gmonths : gi months 0 24) (gfull : gi full 0 5) (glean : gi lean 0 5) (gamonths : gi amonths 0 24) (gafull : gi afull 0 5) (galean : gi alean 0 5) (gahasMoon : gi ahasMoon 0 1) (gaplaceCount : gi aplaceCount 0 6) (gareportCount : gi areportCount 0 24) (gadeedCount : gi adeedCount 0 8) (hx : p.tables.exec = Jvm.exec) (hb : c.code = cX3_open) (hml : c.maxLocals = 3) (hown : s.vm.findClass RX3 = some m.cls) (hts : ∀ w ∈ ((.code yX3_open cX3_open 3 none :: wsGA) : List Cond), w.before args s = true) (hK : va_K (dC, dI) vwCl [(kal, .int)] s) (hz : nzA s) (hR : va_P (dC, dI) vwCl [(am, .inr (0, [.int amonths, .int afull, .int alean, .int alines, .int ahasMoon, .int amoonStart, .int amoonStep, .int aplaceCount, .int areportCount, .int adeedCount, .ref aplaces, .ref areports, .ref adeeds]))] s.heap) (hRA : gz_ap A [(am, .inr (0, [.int amonths, .int afull, .int alean, .int alines, .int ahasMoon, .int amoonStart, .int amoonStep, .int aplaceCount, .int areportCount, .int adeedCount, .ref aplaces, .ref areports, .ref adeeds]))]) (hA : ∀ q : Nat, s.heap.size ≤ q → A q) (hRf : 0 ≤ R.frames) (hRl : 0 ≤ R.locals) (hRc : cells ≤ R.cells) (hRs : slots ≤ R.slots) (kr51 : ∀ (w0_0 : Int32) (w0_1 : Int32) (w0_2 : Int32) (z1 : Nat → Int32) (H : Heap) (locs : List Loc) (ls : Array Slot), gi w0_0 0 24 → gi w0_1 0 5 → gi w0_2 0 5 → va_P (dC, dI) vwCl [(h0, .inr (3, [.int w0_0, .int w0_1, .int w0_2, .ref al, .ref on])), (al, .inl (kal, 25, .inl z1))] H → va_D A [(h0, .inr (3, [.int w0_0, .int w0_1, .int w0_2, .ref al, .ref on])), (al, .inl (kal, 25, .inl z1))] → va_S A s.heap H locs → lv_has ls 3 [] → W p l e R s m args below meth c H locs cells slots Q (F0 m 51 ls [])) : ∀ z : Nat, (∀ (v2 : Int32) (w0_0 : Int32) (w0_1 : Int32) (w0_2 : Int32) (z1 : Nat → Int32) (H : Heap) (locs : List Loc) (ls : Array Slot), gi v2 0 25 → gi w0_0 0 24 → gi w0_1 0 5 → gi w0_2 0 5 → 51 + (-2) * v2.toInt < (z : Int) → va_P (dC, dI) vwCl [(h0, .inr (3, [.int w0_0, .int w0_1, .int w0_2, .ref al, .ref on])), (al, .inl (kal, 25, .inl z1))] H → va_D A [(h0, .inr (3, [.int w0_0, .int w0_1, .int w0_2, .ref al, .ref on])), (al, .inl (kal, 25, .inl z1))] → va_S A s.heap H locs → lv_has ls 3 [(0, .ref h0), (1, .ref am), (2, .int v2)] → W p l e R s m args below meth c H locs cells slots Q (F0 m 26 ls [])) := by
  intro z
  induction z with
  | zero =>
    intro v2 w0_0 w0_1 w0_2 z1 H locs ls gv2 gw0_0 gw0_1 gw0_2 hmu hP hD hS hl
    exact absurd hmu (by have hv21 := gv2.1; have hv22 := gv2.2; omega)
  | succ z ih =>
      intro v2 w0_0 w0_1 w0_2 z1 H locs ls gv2 gw0_0 gw0_1 gw0_2 hmu hP hD hS hl
      refine lv_iload_n hx hb (dk_at dkX3_open 14 rfl) rfl (lv_at hl 2 rfl) ?_
      refine lv_aload_n hx hb (dk_at dkX3_open 15 rfl) rfl (lv_at hl 0 rfl) ?_
      refine va_get (D := (dC, dI)) (ci := 3) (v := .int w0_0) (C := RX3) (T := TX3) (N := 5) hx hb hts (fun w h => List.mem_cons_of_mem _ (jnGA_X3 w h)) hown hK hP 0 rfl rfl 0 (by decide) (hts _ (List.mem_cons_of_mem _ mGA_477)) (fun _ h9 => h9) rfl (dk_at dkX3_open 16 rfl) ?_
      refine lv_icmp_gt (tgt := 51) hx hb (dk_at dkX3_open 17 rfl) (by decide) (fun c_111 => ?_) (fun c_111 => ?_)
      · have g_112 : gi v2 1 25 := gi_lt_r c_111 gw0_0 gv2 (by decide)
        exact kr51 w0_0 w0_1 w0_2 z1 _ _ _ gw0_0 gw0_1 gw0_2 hP hD hS (lv_sub hl [] rfl)
      · have g_113 : gi v2 0 24 := gi_le_l (Int32.not_lt.mp c_111) gv2 gw0_0
        refine lv_aload_n hx hb (dk_at dkX3_open 18 rfl) rfl (lv_at hl 0 rfl) ?_
        refine va_get (D := (dC, dI)) (ci := 3) (v := .ref al) (C := RX3) (T := TX3) (N := 5) hx hb hts (fun w h => List.mem_cons_of_mem _ (jnGA_X3 w h)) hown hK hP 0 rfl rfl 3 (by decide) (hts _ (List.mem_cons_of_mem _ mGA_94)) (fun _ h9 => h9) rfl (dk_at dkX3_open 19 rfl) ?_
        refine lv_iload_n hx hb (dk_at dkX3_open 20 rfl) rfl (lv_at hl 2 rfl) ?_
        refine lv_iconst (v := 2) hx hb (dk_at dkX3_open 21 rfl) (by decide) ?_
        refine lv_iload_n hx hb (dk_at dkX3_open 22 rfl) rfl (lv_at hl 2 rfl) ?_
        refine lv_ishl hx hb (dk_at dkX3_open 23 rfl) ?_
        refine lv_topi (fun x_114 ex_114 => ?_)
        refine lv_iconst (v := 1) hx hb (dk_at dkX3_open 24 rfl) (by decide) ?_
        refine lv_isub hx hb (dk_at dkX3_open 25 rfl) ?_
        refine lv_topi (fun x_115 ex_115 => ?_)
        refine va_iast hx hb hK hP hD hS 1 0 rfl rfl (gi_in g_113 (by decide)) (dk_at dkX3_open 26 rfl) (fun H locs hP hD hS => ?_)
        obtain ⟨hP, hD⟩ := gz_both (w := [(h0, .inr (3, [.int w0_0, .int w0_1, .int w0_2, .ref al, .ref on])), (al, .inl (kal, 25, .inl (upd z1 (v2 : Int32).toNatClampNeg x_115)))]) hP hD
        generalize upd z1 (v2 : Int32).toNatClampNeg x_115 = f_116 at hP hD
        obtain ⟨x_117, ex_117⟩ : ∃ y : Int32, y = v2 + 1 := ⟨_, rfl⟩
        have gx_117 : gi x_117 1 25 := gi_add ex_117 g_113 (gi_c 1 1 (by decide)) (by decide)
        refine lv_iinc (v := x_117) (lv' := [(2, .int x_117), (0, .ref h0), (1, .ref am)]) hx hb (dk_at dkX3_open 27 rfl) hl (k := 2) rfl (by rw [ex_117]; rfl) (by decide) rfl (fun ls hl => ?_)
        refine lv_goto (tgt := 26) hx hb (dk_at dkX3_open 28 rfl) (by decide) ?_
        exact ih x_117 w0_0 w0_1 w0_2 f_116 _ _ _ (gi_w gx_117 (by decide)) gw0_0 gw0_1 gw0_2 (by have av2 := gv2.1; have bv2 := gv2.2; have qgx_117 := gx_117.1; have rgx_117 := gx_117.2; have igx_117 : x_117.toInt = v2.toInt + 1 := (by have hc1 : (1 : Int32).toInt = 1 := (by decide); have h9 := gi_addI ex_117 (by have h1 := g_113.1; have h2 := (gi_c 1 1 (by decide)).1; have h3 := g_113.2; have h4 := (gi_c 1 1 (by decide)).2; omega) (by have h1 := g_113.1; have h2 := (gi_c 1 1 (by decide)).1; have h3 := g_113.2; have h4 := (gi_c 1 1 (by decide)).2; omega); rw [hc1] at h9; exact h9); have qgv2 := g_113.1; have rgv2 := g_113.2; omega) hP hD hS (lv_sub hl [1, 2, 0] rfl)
abbrev pb_sX3_open (dC : Nat → ClassId) (dI : Nat → Nat → Nat) (A9 : Nat → Prop) (h0 : Nat) (al : Nat) (am : Nat) (months : Int32) (full : Int32) (lean : Int32) (on : Nat) (kal : ClassId) (fal : Nat → Int32) (amonths : Int32) (afull : Int32) (alean : Int32) (alines : Int32) (ahasMoon : Int32) (amoonStart : Int32) (amoonStep : Int32) (aplaceCount : Int32) (areportCount : Int32) (adeedCount : Int32) (aplaces : Nat) (areports : Nat) (adeeds : Nat) (w0_0 : Int32) (w0_1 : Int32) (w0_2 : Int32) (z1 : Nat → Int32) (t : State) : Prop := gi w0_0 0 24 ∧ gi w0_1 0 5 ∧ gi w0_2 0 5 ∧ va_P (dC, dI) vwCl [(h0, .inr (3, [.int w0_0, .int w0_1, .int w0_2, .ref al, .ref on])), (al, .inl (kal, 25, .inl z1))] t.heap ∧ va_D A9 [(h0, .inr (3, [.int w0_0, .int w0_1, .int w0_2, .ref al, .ref on])), (al, .inl (kal, 25, .inl z1))]
set_option maxHeartbeats 4000000 in
set_option maxRecDepth 100000 in
theorem sX3_open (l : Launch) (dC : Nat → ClassId) (dI : Nat → Nat → Nat) (sz : Nat) (h0 : Nat) (al : Nat) (am : Nat) (months : Int32) (full : Int32) (lean : Int32) (on : Nat) (kal : ClassId) (fal : Nat → Int32) (amonths : Int32) (afull : Int32) (alean : Int32) (alines : Int32) (ahasMoon : Int32) (amoonStart : Int32) (amoonStep : Int32) (aplaceCount : Int32) (areportCount : Int32) (adeedCount : Int32) (aplaces : Nat) (areports : Nat) (adeeds : Nat) (gmonths : gi months 0 24) (gfull : gi full 0 5) (glean : gi lean 0 5) (gamonths : gi amonths 0 24) (gafull : gi afull 0 5) (galean : gi alean 0 5) (gahasMoon : gi ahasMoon 0 1) (gaplaceCount : gi aplaceCount 0 6) (gareportCount : gi areportCount 0 24) (gadeedCount : gi adeedCount 0 8) : Met l yX3_open (.code yX3_open cX3_open 3 none :: wsGA) ({ frames := 0, cells := 0, slots := 0, locals := 0 }) (va_Pc [.ref h0, .ref am] (fun U => U.heap.size = sz ∧ va_P (dC, dI) vwCl [(h0, .inr (3, [.int months, .int full, .int lean, .ref al, .ref on])), (al, .inl (kal, 25, .inl fal))] U.heap ∧ va_K (dC, dI) vwCl [(kal, .int)] U ∧ va_D (fun _ => True) [(h0, .inr (3, [.int months, .int full, .int lean, .ref al, .ref on])), (al, .inl (kal, 25, .inl fal))] ∧ nzA U ∧ va_P (dC, dI) vwCl [(am, .inr (0, [.int amonths, .int afull, .int alean, .int alines, .int ahasMoon, .int amoonStart, .int amoonStep, .int aplaceCount, .int areportCount, .int adeedCount, .ref aplaces, .ref areports, .ref adeeds]))] U.heap ∧ gz_ap (va_A [(h0, .inr (3, [.int months, .int full, .int lean, .ref al, .ref on])), (al, .inl (kal, 25, .inl fal))] sz) [(am, .inr (0, [.int amonths, .int afull, .int alean, .int alines, .int ahasMoon, .int amoonStart, .int amoonStep, .int aplaceCount, .int areportCount, .int adeedCount, .ref aplaces, .ref areports, .ref adeeds]))])) (va_Qv (fun (u : Unit) => True) (fun _ t => ∃ (w0_0 : Int32) (w0_1 : Int32) (w0_2 : Int32) (z1 : Nat → Int32), pb_sX3_open dC dI (va_A [(h0, .inr (3, [.int months, .int full, .int lean, .ref al, .ref on])), (al, .inl (kal, 25, .inl fal))] sz) h0 al am months full lean on kal fal amonths afull alean alines ahasMoon amoonStart amoonStep aplaceCount areportCount adeedCount aplaces areports adeeds w0_0 w0_1 w0_2 z1 t) (va_A [(h0, .inr (3, [.int months, .int full, .int lean, .ref al, .ref on])), (al, .inl (kal, 25, .inl fal))] sz)) 0 0 (va_A [(h0, .inr (3, [.int months, .int full, .int lean, .ref al, .ref on])), (al, .inl (kal, 25, .inl fal))] sz) := by
  refine Met.ofW (cc := cX3_open) (maxL := 3) (ret := none) (by decide) rfl ?_
  intro p e s m args below meth c s₁ B hml hv
  obtain ⟨rfl, hsz, hP, hK, hD0, hz, hR, hRA⟩ := hv
  have hx := B.exec
  have hb := B.bytes
  have hr := B.returns
  have hts := atoms_spec (ws := (.code yX3_open cX3_open 3 none :: wsGA)) B.pre
  have hown : s.vm.findClass RX3 = some m.cls := findClass_of_methodNamed B.named
  have hlocks := B.notSynchronized
  subst hsz
  have hD := hD0.self (sz := s.heap.size)
  generalize hAe : va_A [(h0, .inr (3, [.int months, .int full, .int lean, .ref al, .ref on])), (al, .inl (kal, 25, .inl fal))] s.heap.size = A at hD hRA ⊢
  have hA : ∀ q : Nat, s.heap.size ≤ q → A q := fun q h => by rw [← hAe]; exact Or.inr h
  have hS : va_S A s.heap s.heap [] := va_S.rf
  have hl := lv_entry ([.ref h0, .ref am]) (n := 3) (Nat.le_of_ble_eq_true rfl)
  rw [lg_entry_eq]
  generalize (lg_sl ([.ref h0, .ref am]) ++ List.replicate (3 - (lg_sl ([.ref h0, .ref am])).length) Slot.unset).toArray = ls at hl ⊢
  have hl : lv_has ls 3 [(0, .ref h0), (1, .ref am)] := hl
  refine lv_aload_n hx hb (dk_at dkX3_open 0 rfl) rfl (lv_at hl 0 rfl) ?_
  refine lv_aload_n hx hb (dk_at dkX3_open 1 rfl) rfl (lv_at hl 1 rfl) ?_
  refine va_get (D := (dC, dI)) (ci := 0) (v := .int amonths) (C := RX0) (T := TX0) (N := 13) hx hb hts (fun w h => List.mem_cons_of_mem _ (jnGA_X0 w h)) hown hK (gz_ro hR hRA hS) 0 rfl rfl 0 (by decide) (hts _ (List.mem_cons_of_mem _ mGA_476)) (fun _ h9 => h9) rfl (dk_at dkX3_open 2 rfl) ?_
  refine va_put (D := (dC, dI)) (ci := 3) (v := .int amonths) (ty := .int) (C := RX3) (T := TX3) (N := 5) hx hb hts (fun w h => List.mem_cons_of_mem _ (jnGA_X3 w h)) tyX3 tyX3_ok nmX3 hown hK hP hD hS 0 rfl rfl 0 (by decide) (hts _ (List.mem_cons_of_mem _ mGA_477)) (fun _ h9 => h9) rfl (by decide +kernel) rfl rfl (Nat.le_of_ble_eq_true rfl) (dk_at dkX3_open 3 rfl) (fun H locs hP hD hS => ?_)
  obtain ⟨hP, hD⟩ := gz_both (w := [(h0, .inr (3, [.int amonths, .int full, .int lean, .ref al, .ref on])), (al, .inl (kal, 25, .inl fal))]) hP hD
  refine lv_aload_n hx hb (dk_at dkX3_open 4 rfl) rfl (lv_at hl 0 rfl) ?_
  refine lv_aload_n hx hb (dk_at dkX3_open 5 rfl) rfl (lv_at hl 1 rfl) ?_
  refine va_get (D := (dC, dI)) (ci := 0) (v := .int afull) (C := RX0) (T := TX0) (N := 13) hx hb hts (fun w h => List.mem_cons_of_mem _ (jnGA_X0 w h)) hown hK (gz_ro hR hRA hS) 0 rfl rfl 1 (by decide) (hts _ (List.mem_cons_of_mem _ mGA_478)) (fun _ h9 => h9) rfl (dk_at dkX3_open 6 rfl) ?_
  refine va_put (D := (dC, dI)) (ci := 3) (v := .int afull) (ty := .int) (C := RX3) (T := TX3) (N := 5) hx hb hts (fun w h => List.mem_cons_of_mem _ (jnGA_X3 w h)) tyX3 tyX3_ok nmX3 hown hK hP hD hS 0 rfl rfl 1 (by decide) (hts _ (List.mem_cons_of_mem _ mGA_479)) (fun _ h9 => h9) rfl (by decide +kernel) rfl rfl (Nat.le_of_ble_eq_true rfl) (dk_at dkX3_open 7 rfl) (fun H locs hP hD hS => ?_)
  obtain ⟨hP, hD⟩ := gz_both (w := [(h0, .inr (3, [.int amonths, .int afull, .int lean, .ref al, .ref on])), (al, .inl (kal, 25, .inl fal))]) hP hD
  refine lv_aload_n hx hb (dk_at dkX3_open 8 rfl) rfl (lv_at hl 0 rfl) ?_
  refine lv_aload_n hx hb (dk_at dkX3_open 9 rfl) rfl (lv_at hl 1 rfl) ?_
  refine va_get (D := (dC, dI)) (ci := 0) (v := .int alean) (C := RX0) (T := TX0) (N := 13) hx hb hts (fun w h => List.mem_cons_of_mem _ (jnGA_X0 w h)) hown hK (gz_ro hR hRA hS) 0 rfl rfl 2 (by decide) (hts _ (List.mem_cons_of_mem _ mGA_480)) (fun _ h9 => h9) rfl (dk_at dkX3_open 10 rfl) ?_
  refine va_put (D := (dC, dI)) (ci := 3) (v := .int alean) (ty := .int) (C := RX3) (T := TX3) (N := 5) hx hb hts (fun w h => List.mem_cons_of_mem _ (jnGA_X3 w h)) tyX3 tyX3_ok nmX3 hown hK hP hD hS 0 rfl rfl 2 (by decide) (hts _ (List.mem_cons_of_mem _ mGA_481)) (fun _ h9 => h9) rfl (by decide +kernel) rfl rfl (Nat.le_of_ble_eq_true rfl) (dk_at dkX3_open 11 rfl) (fun H locs hP hD hS => ?_)
  obtain ⟨hP, hD⟩ := gz_both (w := [(h0, .inr (3, [.int amonths, .int afull, .int alean, .ref al, .ref on])), (al, .inl (kal, 25, .inl fal))]) hP hD
  refine lv_iconst (v := 0) hx hb (dk_at dkX3_open 12 rfl) (by decide) ?_
  refine lv_istore_n (lv' := [(2, .int 0), (0, .ref h0), (1, .ref am)]) hx hb (dk_at dkX3_open 13 rfl) rfl hl (by decide) rfl (fun ls hl => ?_)
  refine (lp_sX3_open h0 al am months full lean on kal fal amonths afull alean alines ahasMoon amoonStart amoonStep aplaceCount areportCount adeedCount aplaces areports adeeds gmonths gfull glean gamonths gafull galean gahasMoon gaplaceCount gareportCount gadeedCount hx hb hml hown hts hK hz hR hRA hA (Nat.le_of_ble_eq_true rfl) (Nat.le_of_ble_eq_true rfl) (Nat.zero_le _) (Nat.zero_le _) (fun w0_0 w0_1 w0_2 z1 H locs ls gw0_0 gw0_1 gw0_2 hP hD hS hl => ?_) 64) 0 amonths afull alean fal _ _ _ (gi_w (gi_c 0 0 (by decide)) (by decide)) gamonths gafull galean (by have k0 : (0 : Int32).toInt = 0 := (by decide); omega) hP hD hS (lv_sub hl [1, 2, 0] rfl)
  · skip
    exact W.vret hx hb hr (fun t ht hW => ⟨⟨(), rfl, trivial, w0_0, w0_1, w0_2, z1, gw0_0, gw0_1, gw0_2, by rw [ht]; exact hP, hD⟩, hS.F ht⟩) hS.2.2 (dk_at dkX3_open 29 rfl)
noncomputable def lsX3_rightFor : List (Nat × Instr × Nat) := [(0, .iconst 2, 1), (1, .aload_n 0, 1), (2, .getfield 33, 3), (5, .ishl, 1), (6, .iconst 1, 1), (7, .isub, 1), (8, .istore_n 1, 1), (9, .aload_n 0, 1), (10, .getfield 38, 3), (13, .iconst 1, 1), (14, .iadd, 1), (15, .bipush 29, 2), (17, .aload_n 0, 1), (18, .getfield 33, 3), (21, .imul, 1), (22, .isub, 1), (23, .istore_n 2, 1), (24, .aload_n 0, 1), (25, .getfield 41, 3), (28, .iconst 2, 1), (29, .if_icmp .eq 15, 3), (32, .aload_n 0, 1), (33, .getfield 41, 3), (36, .iconst 1, 1), (37, .if_icmp .ne 9, 3), (40, .iload_n 2, 1), (41, .ifCond .ge 5, 3), (44, .iload_n 1, 1), (45, .ireturn, 1), (46, .iload_n 2, 1), (47, .ifCond .lt 11, 3), (50, .iload_n 2, 1), (51, .aload_n 0, 1), (52, .getfield 33, 3), (55, .if_icmp .le 5, 3), (58, .iconst 0, 1), (59, .ireturn, 1), (60, .aload_n 0, 1), (61, .getfield 41, 3), (64, .ifCond .ne 9, 3), (67, .iconst 1, 1), (68, .iload_n 2, 1), (69, .ishl, 1), (70, .goto 9, 3), (73, .iload_n 1, 1), (74, .bipush (-2), 2), (76, .iload_n 2, 1), (77, .ishl, 1), (78, .iand, 1), (79, .ireturn, 1)]
theorem dkX3_rightFor : dkAll cX3_rightFor lsX3_rightFor = true := by decide +kernel
set_option maxHeartbeats 4000000 in
set_option maxRecDepth 100000 in
theorem sX3_rightFor (l : Launch) (dC : Nat → ClassId) (dI : Nat → Nat → Nat) (rp : Nat) (qplace : Int32) (qkind : Int32) (qmonth : Int32) (qday : Int32) (qknown : Int32) (qstruck : Int32) (gqplace : gi qplace 0 5) (gqmonth : gi qmonth 0 23) (gqstruck : gi qstruck 0 1) : Met l yX3_rightFor (.code yX3_rightFor cX3_rightFor 3 (some .int) :: wsGA) ({ frames := 0, cells := 0, slots := 0, locals := 0 }) (va_Pc [.ref rp] (fun U => va_P (dC, dI) vwCl [(rp, .inr (7, [.int qplace, .int qkind, .int qmonth, .int qday, .int qknown, .int qstruck]))] U.heap ∧ va_K (dC, dI) vwCl [] U ∧ nzA U)) (va_Qi (fun (r : Int32) (u : Unit) => gi r (-2147483648) 2147483647) (fun _ _ => True) (fun _ => False)) 0 0 (fun _ => False) := by
  refine Met.ofW (cc := cX3_rightFor) (maxL := 3) (ret := (some .int)) (by decide) rfl ?_
  intro p e s m args below meth c s₁ B hml hv
  obtain ⟨rfl, hP, hK, hz⟩ := hv
  have hx := B.exec
  have hb := B.bytes
  have hr := B.returns
  have hts := atoms_spec (ws := (.code yX3_rightFor cX3_rightFor 3 (some .int) :: wsGA)) B.pre
  have hown : s.vm.findClass RX3 = some m.cls := findClass_of_methodNamed B.named
  have hlocks := B.notSynchronized
  have hS : va_S (fun _ => False) s.heap s.heap [] := va_S.rf
  have hl := lv_entry ([.ref rp]) (n := 3) (Nat.le_of_ble_eq_true rfl)
  rw [lg_entry_eq]
  generalize (lg_sl ([.ref rp]) ++ List.replicate (3 - (lg_sl ([.ref rp])).length) Slot.unset).toArray = ls at hl ⊢
  have hl : lv_has ls 3 [(0, .ref rp)] := hl
  refine lv_iconst (v := 2) hx hb (dk_at dkX3_rightFor 0 rfl) (by decide) ?_
  refine lv_aload_n hx hb (dk_at dkX3_rightFor 1 rfl) rfl (lv_at hl 0 rfl) ?_
  refine va_get (D := (dC, dI)) (ci := 7) (v := .int qmonth) (C := RX7) (T := TX7) (N := 6) hx hb hts (fun w h => List.mem_cons_of_mem _ (jnGA_X7 w h)) hown hK hP 0 rfl rfl 2 (by decide) (hts _ (List.mem_cons_of_mem _ mGA_493)) (fun _ h9 => h9) rfl (dk_at dkX3_rightFor 2 rfl) ?_
  refine lv_ishl hx hb (dk_at dkX3_rightFor 3 rfl) ?_
  refine lv_topi (fun x_31 ex_31 => ?_)
  refine lv_iconst (v := 1) hx hb (dk_at dkX3_rightFor 4 rfl) (by decide) ?_
  refine lv_isub hx hb (dk_at dkX3_rightFor 5 rfl) ?_
  refine lv_topi (fun x_32 ex_32 => ?_)
  refine lv_istore_n (lv' := [(1, .int x_32), (0, .ref rp)]) hx hb (dk_at dkX3_rightFor 6 rfl) rfl hl (by decide) rfl (fun ls hl => ?_)
  refine lv_aload_n hx hb (dk_at dkX3_rightFor 7 rfl) rfl (lv_at hl 1 rfl) ?_
  refine va_get (D := (dC, dI)) (ci := 7) (v := .int qday) (C := RX7) (T := TX7) (N := 6) hx hb hts (fun w h => List.mem_cons_of_mem _ (jnGA_X7 w h)) hown hK hP 0 rfl rfl 3 (by decide) (hts _ (List.mem_cons_of_mem _ mGA_497)) (fun _ h9 => h9) rfl (dk_at dkX3_rightFor 8 rfl) ?_
  refine lv_iconst (v := 1) hx hb (dk_at dkX3_rightFor 9 rfl) (by decide) ?_
  refine lv_iadd hx hb (dk_at dkX3_rightFor 10 rfl) ?_
  refine lv_topi (fun x_33 ex_33 => ?_)
  refine lv_bipush (v := 29) hx hb (dk_at dkX3_rightFor 11 rfl) (by decide) ?_
  refine lv_aload_n hx hb (dk_at dkX3_rightFor 12 rfl) rfl (lv_at hl 1 rfl) ?_
  refine va_get (D := (dC, dI)) (ci := 7) (v := .int qmonth) (C := RX7) (T := TX7) (N := 6) hx hb hts (fun w h => List.mem_cons_of_mem _ (jnGA_X7 w h)) hown hK hP 0 rfl rfl 2 (by decide) (hts _ (List.mem_cons_of_mem _ mGA_493)) (fun _ h9 => h9) rfl (dk_at dkX3_rightFor 13 rfl) ?_
  refine lv_imul hx hb (dk_at dkX3_rightFor 14 rfl) ?_
  refine lv_topi (fun x_34 ex_34 => ?_)
  have gx_34 : gi x_34 0 667 := gi_mul ex_34 (gi_c 29 29 (by decide)) gqmonth (by decide)
  refine lv_isub hx hb (dk_at dkX3_rightFor 15 rfl) ?_
  refine lv_topi (fun x_35 ex_35 => ?_)
  refine lv_istore_n (lv' := [(2, .int x_35), (1, .int x_32), (0, .ref rp)]) hx hb (dk_at dkX3_rightFor 16 rfl) rfl hl (by decide) rfl (fun ls hl => ?_)
  refine lv_aload_n hx hb (dk_at dkX3_rightFor 17 rfl) rfl (lv_at hl 2 rfl) ?_
  refine va_get (D := (dC, dI)) (ci := 7) (v := .int qkind) (C := RX7) (T := TX7) (N := 6) hx hb hts (fun w h => List.mem_cons_of_mem _ (jnGA_X7 w h)) hown hK hP 0 rfl rfl 1 (by decide) (hts _ (List.mem_cons_of_mem _ mGA_498)) (fun _ h9 => h9) rfl (dk_at dkX3_rightFor 18 rfl) ?_
  refine lv_iconst (v := 2) hx hb (dk_at dkX3_rightFor 19 rfl) (by decide) ?_
  refine lv_icmp_eq (tgt := 44) hx hb (dk_at dkX3_rightFor 20 rfl) (by decide) (fun c_36 => ?_) (fun c_36 => ?_)
  · have g_37 : gi qkind 2 2 := gi_eq c_36 (gi_c 2 2 (by decide))
    refine lv_iload_n hx hb (dk_at dkX3_rightFor 27 rfl) rfl (lv_at hl 1 rfl) ?_
    exact W.iret (v := x_32) hx hb hr (fun t ht hW => ⟨⟨x_32, (), rfl, (gi_any x_32), trivial⟩, hS.F ht⟩) hS.2.2 (dk_at dkX3_rightFor 28 rfl)
  · refine lv_aload_n hx hb (dk_at dkX3_rightFor 21 rfl) rfl (lv_at hl 2 rfl) ?_
    refine va_get (D := (dC, dI)) (ci := 7) (v := .int qkind) (C := RX7) (T := TX7) (N := 6) hx hb hts (fun w h => List.mem_cons_of_mem _ (jnGA_X7 w h)) hown hK hP 0 rfl rfl 1 (by decide) (hts _ (List.mem_cons_of_mem _ mGA_498)) (fun _ h9 => h9) rfl (dk_at dkX3_rightFor 22 rfl) ?_
    refine lv_iconst (v := 1) hx hb (dk_at dkX3_rightFor 23 rfl) (by decide) ?_
    refine lv_icmp_ne (tgt := 46) hx hb (dk_at dkX3_rightFor 24 rfl) (by decide) (fun c_38 => ?_) (fun c_38 => ?_)
    · refine lv_iload_n hx hb (dk_at dkX3_rightFor 29 rfl) rfl (lv_at hl 0 rfl) ?_
      refine lv_if_lt (tgt := 58) hx hb (dk_at dkX3_rightFor 30 rfl) (by decide) (fun c_39 => ?_) (fun c_39 => ?_)
      · have g_40 : gi x_35 (-2147483648) (-1) := gi_lt_l c_39 (gi_any x_35) (gi_c 0 0 (by decide)) (by decide)
        refine lv_iconst (v := 0) hx hb (dk_at dkX3_rightFor 35 rfl) (by decide) ?_
        exact W.iret (v := 0) hx hb hr (fun t ht hW => ⟨⟨0, (), rfl, (gi_any 0), trivial⟩, hS.F ht⟩) hS.2.2 (dk_at dkX3_rightFor 36 rfl)
      · have g_41 : gi x_35 0 2147483647 := gi_le_r (Int32.not_lt.mp c_39) (gi_c 0 0 (by decide)) (gi_any x_35)
        refine lv_iload_n hx hb (dk_at dkX3_rightFor 31 rfl) rfl (lv_at hl 0 rfl) ?_
        refine lv_aload_n hx hb (dk_at dkX3_rightFor 32 rfl) rfl (lv_at hl 2 rfl) ?_
        refine va_get (D := (dC, dI)) (ci := 7) (v := .int qmonth) (C := RX7) (T := TX7) (N := 6) hx hb hts (fun w h => List.mem_cons_of_mem _ (jnGA_X7 w h)) hown hK hP 0 rfl rfl 2 (by decide) (hts _ (List.mem_cons_of_mem _ mGA_493)) (fun _ h9 => h9) rfl (dk_at dkX3_rightFor 33 rfl) ?_
        refine lv_icmp_le (tgt := 60) hx hb (dk_at dkX3_rightFor 34 rfl) (by decide) (fun c_42 => ?_) (fun c_42 => ?_)
        · have g_43 : gi x_35 0 23 := gi_le_l c_42 g_41 gqmonth
          refine lv_aload_n hx hb (dk_at dkX3_rightFor 37 rfl) rfl (lv_at hl 2 rfl) ?_
          refine va_get (D := (dC, dI)) (ci := 7) (v := .int qkind) (C := RX7) (T := TX7) (N := 6) hx hb hts (fun w h => List.mem_cons_of_mem _ (jnGA_X7 w h)) hown hK hP 0 rfl rfl 1 (by decide) (hts _ (List.mem_cons_of_mem _ mGA_498)) (fun _ h9 => h9) rfl (dk_at dkX3_rightFor 38 rfl) ?_
          refine lv_if_ne (tgt := 73) hx hb (dk_at dkX3_rightFor 39 rfl) (by decide) (fun c_44 => ?_) (fun c_44 => ?_)
          · refine lv_iload_n hx hb (dk_at dkX3_rightFor 44 rfl) rfl (lv_at hl 1 rfl) ?_
            refine lv_bipush (v := (-2)) hx hb (dk_at dkX3_rightFor 45 rfl) (by decide) ?_
            refine lv_iload_n hx hb (dk_at dkX3_rightFor 46 rfl) rfl (lv_at hl 0 rfl) ?_
            refine lv_ishl hx hb (dk_at dkX3_rightFor 47 rfl) ?_
            refine lv_topi (fun x_45 ex_45 => ?_)
            refine lv_iand hx hb (dk_at dkX3_rightFor 48 rfl) ?_
            refine lv_topi (fun x_46 ex_46 => ?_)
            exact W.iret (v := x_46) hx hb hr (fun t ht hW => ⟨⟨x_46, (), rfl, (gi_any x_46), trivial⟩, hS.F ht⟩) hS.2.2 (dk_at dkX3_rightFor 49 rfl)
          · have g_47 : gi qkind 0 0 := gi_eq c_44 (gi_c 0 0 (by decide))
            refine lv_iconst (v := 1) hx hb (dk_at dkX3_rightFor 40 rfl) (by decide) ?_
            refine lv_iload_n hx hb (dk_at dkX3_rightFor 41 rfl) rfl (lv_at hl 0 rfl) ?_
            refine lv_ishl hx hb (dk_at dkX3_rightFor 42 rfl) ?_
            refine lv_topi (fun x_48 ex_48 => ?_)
            refine lv_goto (tgt := 79) hx hb (dk_at dkX3_rightFor 43 rfl) (by decide) ?_
            exact W.iret (v := x_48) hx hb hr (fun t ht hW => ⟨⟨x_48, (), rfl, (gi_any x_48), trivial⟩, hS.F ht⟩) hS.2.2 (dk_at dkX3_rightFor 49 rfl)
        · have g_49 : gi x_35 1 2147483647 := gi_lt_r (Int32.not_le.mp c_42) gqmonth g_41 (by decide)
          refine lv_iconst (v := 0) hx hb (dk_at dkX3_rightFor 35 rfl) (by decide) ?_
          exact W.iret (v := 0) hx hb hr (fun t ht hW => ⟨⟨0, (), rfl, (gi_any 0), trivial⟩, hS.F ht⟩) hS.2.2 (dk_at dkX3_rightFor 36 rfl)
    · have g_50 : gi qkind 1 1 := gi_eq c_38 (gi_c 1 1 (by decide))
      refine lv_iload_n hx hb (dk_at dkX3_rightFor 25 rfl) rfl (lv_at hl 0 rfl) ?_
      refine lv_if_ge (tgt := 46) hx hb (dk_at dkX3_rightFor 26 rfl) (by decide) (fun c_51 => ?_) (fun c_51 => ?_)
      · have g_52 : gi x_35 0 2147483647 := gi_le_r c_51 (gi_c 0 0 (by decide)) (gi_any x_35)
        refine lv_iload_n hx hb (dk_at dkX3_rightFor 29 rfl) rfl (lv_at hl 0 rfl) ?_
        refine lv_if_lt (tgt := 58) hx hb (dk_at dkX3_rightFor 30 rfl) (by decide) (fun c_53 => absurd c_53 (gi_no_lt g_52 (gi_c 0 0 (by decide)) (by decide))) (fun c_53 => ?_)
        refine lv_iload_n hx hb (dk_at dkX3_rightFor 31 rfl) rfl (lv_at hl 0 rfl) ?_
        refine lv_aload_n hx hb (dk_at dkX3_rightFor 32 rfl) rfl (lv_at hl 2 rfl) ?_
        refine va_get (D := (dC, dI)) (ci := 7) (v := .int qmonth) (C := RX7) (T := TX7) (N := 6) hx hb hts (fun w h => List.mem_cons_of_mem _ (jnGA_X7 w h)) hown hK hP 0 rfl rfl 2 (by decide) (hts _ (List.mem_cons_of_mem _ mGA_493)) (fun _ h9 => h9) rfl (dk_at dkX3_rightFor 33 rfl) ?_
        refine lv_icmp_le (tgt := 60) hx hb (dk_at dkX3_rightFor 34 rfl) (by decide) (fun c_54 => ?_) (fun c_54 => ?_)
        · have g_55 : gi x_35 0 23 := gi_le_l c_54 g_52 gqmonth
          refine lv_aload_n hx hb (dk_at dkX3_rightFor 37 rfl) rfl (lv_at hl 2 rfl) ?_
          refine va_get (D := (dC, dI)) (ci := 7) (v := .int qkind) (C := RX7) (T := TX7) (N := 6) hx hb hts (fun w h => List.mem_cons_of_mem _ (jnGA_X7 w h)) hown hK hP 0 rfl rfl 1 (by decide) (hts _ (List.mem_cons_of_mem _ mGA_498)) (fun _ h9 => h9) rfl (dk_at dkX3_rightFor 38 rfl) ?_
          refine lv_if_ne (tgt := 73) hx hb (dk_at dkX3_rightFor 39 rfl) (by decide) (fun c_56 => ?_) (fun c_56 => absurd c_56 (gi_no_eq g_50 (gi_c 0 0 (by decide)) (by decide)))
          refine lv_iload_n hx hb (dk_at dkX3_rightFor 44 rfl) rfl (lv_at hl 1 rfl) ?_
          refine lv_bipush (v := (-2)) hx hb (dk_at dkX3_rightFor 45 rfl) (by decide) ?_
          refine lv_iload_n hx hb (dk_at dkX3_rightFor 46 rfl) rfl (lv_at hl 0 rfl) ?_
          refine lv_ishl hx hb (dk_at dkX3_rightFor 47 rfl) ?_
          refine lv_topi (fun x_57 ex_57 => ?_)
          refine lv_iand hx hb (dk_at dkX3_rightFor 48 rfl) ?_
          refine lv_topi (fun x_58 ex_58 => ?_)
          exact W.iret (v := x_58) hx hb hr (fun t ht hW => ⟨⟨x_58, (), rfl, (gi_any x_58), trivial⟩, hS.F ht⟩) hS.2.2 (dk_at dkX3_rightFor 49 rfl)
        · have g_59 : gi x_35 1 2147483647 := gi_lt_r (Int32.not_le.mp c_54) gqmonth g_52 (by decide)
          refine lv_iconst (v := 0) hx hb (dk_at dkX3_rightFor 35 rfl) (by decide) ?_
          exact W.iret (v := 0) hx hb hr (fun t ht hW => ⟨⟨0, (), rfl, (gi_any 0), trivial⟩, hS.F ht⟩) hS.2.2 (dk_at dkX3_rightFor 36 rfl)
      · have g_60 : gi x_35 (-2147483648) (-1) := gi_lt_l (Int32.not_le.mp c_51) (gi_any x_35) (gi_c 0 0 (by decide)) (by decide)
        refine lv_iload_n hx hb (dk_at dkX3_rightFor 27 rfl) rfl (lv_at hl 1 rfl) ?_
        exact W.iret (v := x_32) hx hb hr (fun t ht hW => ⟨⟨x_32, (), rfl, (gi_any x_32), trivial⟩, hS.F ht⟩) hS.2.2 (dk_at dkX3_rightFor 28 rfl)
noncomputable def lsX3_narrow : List (Nat × Instr × Nat) := [(0, .aload_n 0, 1), (1, .getfield 9, 3), (4, .aload_n 1, 1), (5, .getfield 33, 3), (8, .dup2, 1), (9, .iaload, 1), (10, .aload_n 1, 1), (11, .invokestatic 44, 3), (14, .iand, 1), (15, .iastore, 1), (16, .return_, 1)]
theorem dkX3_narrow : dkAll cX3_narrow lsX3_narrow = true := by decide +kernel
abbrev pb_sX3_narrow (dC : Nat → ClassId) (dI : Nat → Nat → Nat) (A9 : Nat → Prop) (h0 : Nat) (al : Nat) (rp : Nat) (months : Int32) (full : Int32) (lean : Int32) (on : Nat) (kal : ClassId) (fal : Nat → Int32) (qplace : Int32) (qkind : Int32) (qmonth : Int32) (qday : Int32) (qknown : Int32) (qstruck : Int32) (z1 : Nat → Int32) (t : State) : Prop := va_P (dC, dI) vwCl [(h0, .inr (3, [.int months, .int full, .int lean, .ref al, .ref on])), (al, .inl (kal, 25, .inl z1))] t.heap ∧ va_D A9 [(h0, .inr (3, [.int months, .int full, .int lean, .ref al, .ref on])), (al, .inl (kal, 25, .inl z1))]
set_option maxHeartbeats 4000000 in
set_option maxRecDepth 100000 in
theorem sX3_narrow (l : Launch) (dC : Nat → ClassId) (dI : Nat → Nat → Nat) (sz : Nat) (h0 : Nat) (al : Nat) (rp : Nat) (months : Int32) (full : Int32) (lean : Int32) (on : Nat) (kal : ClassId) (fal : Nat → Int32) (qplace : Int32) (qkind : Int32) (qmonth : Int32) (qday : Int32) (qknown : Int32) (qstruck : Int32) (gmonths : gi months 0 24) (gfull : gi full 0 5) (glean : gi lean 0 5) (gqplace : gi qplace 0 5) (gqmonth : gi qmonth 0 23) (gqstruck : gi qstruck 0 1) : Met l yX3_narrow (.code yX3_narrow cX3_narrow 2 none :: wsGA) ({ frames := 1, cells := 0, slots := 0, locals := 22 }) (va_Pc [.ref h0, .ref rp] (fun U => U.heap.size = sz ∧ va_P (dC, dI) vwCl [(h0, .inr (3, [.int months, .int full, .int lean, .ref al, .ref on])), (al, .inl (kal, 25, .inl fal))] U.heap ∧ va_K (dC, dI) vwCl [(kal, .int)] U ∧ va_D (fun _ => True) [(h0, .inr (3, [.int months, .int full, .int lean, .ref al, .ref on])), (al, .inl (kal, 25, .inl fal))] ∧ nzA U ∧ va_P (dC, dI) vwCl [(rp, .inr (7, [.int qplace, .int qkind, .int qmonth, .int qday, .int qknown, .int qstruck]))] U.heap ∧ gz_ap (va_A [(h0, .inr (3, [.int months, .int full, .int lean, .ref al, .ref on])), (al, .inl (kal, 25, .inl fal))] sz) [(rp, .inr (7, [.int qplace, .int qkind, .int qmonth, .int qday, .int qknown, .int qstruck]))])) (va_Qv (fun (u : Unit) => True) (fun _ t => ∃ (z1 : Nat → Int32), pb_sX3_narrow dC dI (va_A [(h0, .inr (3, [.int months, .int full, .int lean, .ref al, .ref on])), (al, .inl (kal, 25, .inl fal))] sz) h0 al rp months full lean on kal fal qplace qkind qmonth qday qknown qstruck z1 t) (va_A [(h0, .inr (3, [.int months, .int full, .int lean, .ref al, .ref on])), (al, .inl (kal, 25, .inl fal))] sz)) 0 0 (va_A [(h0, .inr (3, [.int months, .int full, .int lean, .ref al, .ref on])), (al, .inl (kal, 25, .inl fal))] sz) := by
  refine Met.ofW (cc := cX3_narrow) (maxL := 2) (ret := none) (by decide) rfl ?_
  intro p e s m args below meth c s₁ B hml hv
  obtain ⟨rfl, hsz, hP, hK, hD0, hz, hR, hRA⟩ := hv
  have hx := B.exec
  have hb := B.bytes
  have hr := B.returns
  have hts := atoms_spec (ws := (.code yX3_narrow cX3_narrow 2 none :: wsGA)) B.pre
  have hown : s.vm.findClass RX3 = some m.cls := findClass_of_methodNamed B.named
  have hlocks := B.notSynchronized
  subst hsz
  have hD := hD0.self (sz := s.heap.size)
  generalize hAe : va_A [(h0, .inr (3, [.int months, .int full, .int lean, .ref al, .ref on])), (al, .inl (kal, 25, .inl fal))] s.heap.size = A at hD hRA ⊢
  have hA : ∀ q : Nat, s.heap.size ≤ q → A q := fun q h => by rw [← hAe]; exact Or.inr h
  have hS : va_S A s.heap s.heap [] := va_S.rf
  have hl := lv_entry ([.ref h0, .ref rp]) (n := 2) (Nat.le_of_ble_eq_true rfl)
  rw [lg_entry_eq]
  generalize (lg_sl ([.ref h0, .ref rp]) ++ List.replicate (2 - (lg_sl ([.ref h0, .ref rp])).length) Slot.unset).toArray = ls at hl ⊢
  have hl : lv_has ls 2 [(0, .ref h0), (1, .ref rp)] := hl
  refine lv_aload_n hx hb (dk_at dkX3_narrow 0 rfl) rfl (lv_at hl 0 rfl) ?_
  refine va_get (D := (dC, dI)) (ci := 3) (v := .ref al) (C := RX3) (T := TX3) (N := 5) hx hb hts (fun w h => List.mem_cons_of_mem _ (jnGA_X3 w h)) hown hK hP 0 rfl rfl 3 (by decide) (hts _ (List.mem_cons_of_mem _ mGA_94)) (fun _ h9 => h9) rfl (dk_at dkX3_narrow 1 rfl) ?_
  refine lv_aload_n hx hb (dk_at dkX3_narrow 2 rfl) rfl (lv_at hl 1 rfl) ?_
  refine va_get (D := (dC, dI)) (ci := 7) (v := .int qmonth) (C := RX7) (T := TX7) (N := 6) hx hb hts (fun w h => List.mem_cons_of_mem _ (jnGA_X7 w h)) hown hK (gz_ro hR hRA hS) 0 rfl rfl 2 (by decide) (hts _ (List.mem_cons_of_mem _ mGA_493)) (fun _ h9 => h9) rfl (dk_at dkX3_narrow 3 rfl) ?_
  refine lv_dup2_11 hx hb (dk_at dkX3_narrow 4 rfl) rfl rfl ?_
  refine va_iald hx hb hK hP 1 0 rfl rfl (gi_in gqmonth (by decide)) (dk_at dkX3_narrow 5 rfl) ?_
  refine lv_topi (fun x_9 ex_9 => ?_)
  refine lv_aload_n hx hb (dk_at dkX3_narrow 6 rfl) rfl (lv_at hl 1 rfl) ?_
  have hPc : va_P (dC, dI) vwCl [(rp, .inr (7, [.int qplace, .int qkind, .int qmonth, .int qday, .int qknown, .int qstruck]))] s.heap := ((gz_ro hR hRA hS).sub [0] rfl)
  have hKc := hK.sub (tys' := []) [] rfl
  refine va_calli (va_runS (As := [.ref rp]) (rest := [.int x_9, .int qmonth, .ref al]) ⟨hx, hb, hml, hown, hts⟩ (sX3_rightFor l dC dI rp qplace qkind qmonth qday qknown qstruck gqplace gqmonth gqstruck) (cwS 1 hts (gz_gS mGA_494 mGA_495 mGA_18 mGA_496 goodGA) rfl rfl rfl (by decide +kernel) ⟨Nat.le_of_ble_eq_true rfl, Nat.le_of_ble_eq_true rfl⟩) ⟨bl_I (bl_a bl_P (bl_a bl_K bl_nz)), fun U hU hW => ⟨rfl, by rw [hU]; exact hPc, va_K.moved hW.alike hKc, nzA_warm hW hz⟩⟩ rfl rfl hl.1 rfl (lv_room (Nat.le_of_ble_eq_true rfl)) (dk_at dkX3_narrow 7 rfl) ⟨Nat.zero_le _, Nat.zero_le _⟩) hS (fun q _ h => h.elim) (fun q h => h.elim) (fun r_10 u t H1 locs ht hvm hw hB hz1 hk1 hS => ?_)
  have hP := gz_keep hP hk1
  generalize H1 = H at hP hS ⊢
  refine lv_iand hx hb (dk_at dkX3_narrow 8 rfl) ?_
  refine lv_topi (fun x_11 ex_11 => ?_)
  refine va_iast hx hb hK hP hD hS 1 0 rfl rfl (gi_in gqmonth (by decide)) (dk_at dkX3_narrow 9 rfl) (fun H locs hP hD hS => ?_)
  obtain ⟨hP, hD⟩ := gz_both (w := [(h0, .inr (3, [.int months, .int full, .int lean, .ref al, .ref on])), (al, .inl (kal, 25, .inl (upd fal (qmonth : Int32).toNatClampNeg x_11)))]) hP hD
  generalize upd fal (qmonth : Int32).toNatClampNeg x_11 = f_12 at hP hD
  exact W.vret hx hb hr (fun t ht hW => ⟨⟨(), rfl, trivial, f_12, by rw [ht]; exact hP, hD⟩, hS.F ht⟩) hS.2.2 (dk_at dkX3_narrow 10 rfl)
noncomputable def lsX7_isKnownBy : List (Nat × Instr × Nat) := [(0, .aload_n 0, 1), (1, .getfield 7, 3), (4, .ifCond .ne 15, 3), (7, .aload_n 0, 1), (8, .getfield 13, 3), (11, .iload_n 1, 1), (12, .if_icmp .gt 7, 3), (15, .iconst 1, 1), (16, .goto 4, 3), (19, .iconst 0, 1), (20, .ireturn, 1)]
theorem dkX7_isKnownBy : dkAll cX7_isKnownBy lsX7_isKnownBy = true := by decide +kernel
noncomputable def bfX7_isKnownBy_20 (known : Int32) (struck : Int32) (p0 : Int32) (s0 : Int32) : Int32 := s0
noncomputable def bfX7_isKnownBy_19 (known : Int32) (struck : Int32) (p0 : Int32) : Int32 := bfX7_isKnownBy_20 known struck p0 (0 : Int32)
noncomputable def fX7_isKnownBy (known : Int32) (struck : Int32) (p0 : Int32) : Int32 := if struck = (0 : Int32) then (if p0 < known then (bfX7_isKnownBy_19 known struck p0) else (bfX7_isKnownBy_20 known struck p0 (1 : Int32))) else (bfX7_isKnownBy_19 known struck p0)
set_option maxHeartbeats 4000000 in
set_option maxRecDepth 100000 in
theorem sX7_isKnownBy (l : Launch) (dC : Nat → ClassId) (dI : Nat → Nat → Nat) (h0 : Nat) (place : Int32) (kind : Int32) (month : Int32) (day : Int32) (known : Int32) (struck : Int32) (p0 : Int32) (gplace : gi place 0 5) (gmonth : gi month 0 23) (gstruck : gi struck 0 1) : Met l yX7_isKnownBy (.code yX7_isKnownBy cX7_isKnownBy 2 (some .boolean) :: wsGA) ({ frames := 0, cells := 0, slots := 0, locals := 0 }) (va_Pc [.ref h0, .int p0] (fun U => va_P (dC, dI) vwCl [(h0, .inr (7, [.int place, .int kind, .int month, .int day, .int known, .int struck]))] U.heap ∧ va_K (dC, dI) vwCl [] U ∧ nzA U)) (va_Qi (fun (r : Int32) (u : Unit) => (gi r 0 1) ∧ r = fX7_isKnownBy known struck p0) (fun _ _ => True) (fun _ => False)) 0 0 (fun _ => False) := by
  refine Met.ofW (cc := cX7_isKnownBy) (maxL := 2) (ret := (some .boolean)) (by decide) rfl ?_
  intro p e s m args below meth c s₁ B hml hv
  obtain ⟨rfl, hP, hK, hz⟩ := hv
  have hx := B.exec
  have hb := B.bytes
  have hr := B.returns
  have hts := atoms_spec (ws := (.code yX7_isKnownBy cX7_isKnownBy 2 (some .boolean) :: wsGA)) B.pre
  have hown : s.vm.findClass RX7 = some m.cls := findClass_of_methodNamed B.named
  have hlocks := B.notSynchronized
  have hS : va_S (fun _ => False) s.heap s.heap [] := va_S.rf
  have hl := lv_entry ([.ref h0, .int p0]) (n := 2) (Nat.le_of_ble_eq_true rfl)
  rw [lg_entry_eq]
  generalize (lg_sl ([.ref h0, .int p0]) ++ List.replicate (2 - (lg_sl ([.ref h0, .int p0])).length) Slot.unset).toArray = ls at hl ⊢
  have hl : lv_has ls 2 [(0, .ref h0), (1, .int p0)] := hl
  obtain ⟨RES, hF⟩ : ∃ R9, fX7_isKnownBy known struck p0 = R9 := ⟨_, rfl⟩
  have hR9 := hF
  refine lv_aload_n hx hb (dk_at dkX7_isKnownBy 0 rfl) rfl (lv_at hl 0 rfl) ?_
  refine va_get (D := (dC, dI)) (ci := 7) (v := .int struck) (C := RX7) (T := TX7) (N := 6) hx hb hts (fun w h => List.mem_cons_of_mem _ (jnGA_X7 w h)) hown hK hP 0 rfl rfl 5 (by decide) (hts _ (List.mem_cons_of_mem _ mGA_441)) (fun _ h9 => h9) rfl (dk_at dkX7_isKnownBy 1 rfl) ?_
  refine lv_if_ne (tgt := 19) hx hb (dk_at dkX7_isKnownBy 2 rfl) (by decide) (fun c_7 => ?_) (fun c_7 => ?_)
  · have hF := gf_neg c_7 hF
    have g_8 : gi struck 1 1 := gi_ne_lo c_7 gstruck (gi_c 0 0 (by decide)) (by decide)
    refine lv_iconst (v := 0) hx hb (dk_at dkX7_isKnownBy 9 rfl) (by decide) ?_
    exact W.zret (v := 0) hx hb hr (by decide) (fun t ht hW => ⟨⟨0, (), rfl, ⟨(gi_w (gi_c 0 0 (by decide)) (by decide)), hF.trans hR9.symm⟩, trivial⟩, hS.F ht⟩) hS.2.2 (dk_at dkX7_isKnownBy 10 rfl)
  · have hF := gf_pos c_7 hF
    have g_9 : gi struck 0 0 := gi_eq c_7 (gi_c 0 0 (by decide))
    refine lv_aload_n hx hb (dk_at dkX7_isKnownBy 3 rfl) rfl (lv_at hl 0 rfl) ?_
    refine va_get (D := (dC, dI)) (ci := 7) (v := .int known) (C := RX7) (T := TX7) (N := 6) hx hb hts (fun w h => List.mem_cons_of_mem _ (jnGA_X7 w h)) hown hK hP 0 rfl rfl 4 (by decide) (hts _ (List.mem_cons_of_mem _ mGA_442)) (fun _ h9 => h9) rfl (dk_at dkX7_isKnownBy 4 rfl) ?_
    refine lv_iload_n hx hb (dk_at dkX7_isKnownBy 5 rfl) rfl (lv_at hl 1 rfl) ?_
    refine lv_icmp_gt (tgt := 19) hx hb (dk_at dkX7_isKnownBy 6 rfl) (by decide) (fun c_10 => ?_) (fun c_10 => ?_)
    · have hF := gf_pos c_10 hF
      have g_11 : gi p0 (-2147483648) 2147483646 := gi_lt_l c_10 (gi_any p0) (gi_any known) (by decide)
      have g_12 : gi known (-2147483647) 2147483647 := gi_lt_r c_10 (gi_any p0) (gi_any known) (by decide)
      refine lv_iconst (v := 0) hx hb (dk_at dkX7_isKnownBy 9 rfl) (by decide) ?_
      exact W.zret (v := 0) hx hb hr (by decide) (fun t ht hW => ⟨⟨0, (), rfl, ⟨(gi_w (gi_c 0 0 (by decide)) (by decide)), hF.trans hR9.symm⟩, trivial⟩, hS.F ht⟩) hS.2.2 (dk_at dkX7_isKnownBy 10 rfl)
    · have hF := gf_neg c_10 hF
      refine lv_iconst (v := 1) hx hb (dk_at dkX7_isKnownBy 7 rfl) (by decide) ?_
      refine lv_goto (tgt := 20) hx hb (dk_at dkX7_isKnownBy 8 rfl) (by decide) ?_
      exact W.zret (v := 1) hx hb hr (by decide) (fun t ht hW => ⟨⟨1, (), rfl, ⟨(gi_w (gi_c 1 1 (by decide)) (by decide)), hF.trans hR9.symm⟩, trivial⟩, hS.F ht⟩) hS.2.2 (dk_at dkX7_isKnownBy 10 rfl)
noncomputable def lsX4_changesAt : List (Nat × Instr × Nat) := [(0, .aload_n 0, 1), (1, .getfield 15, 3), (4, .iload_n 1, 1), (5, .bipush 25, 2), (7, .imul, 1), (8, .iload_n 2, 1), (9, .iadd, 1), (10, .iaload, 1), (11, .aload_n 0, 1), (12, .getfield 15, 3), (15, .iload_n 1, 1), (16, .iconst 1, 1), (17, .isub, 1), (18, .bipush 25, 2), (20, .imul, 1), (21, .iload_n 2, 1), (22, .iadd, 1), (23, .iaload, 1), (24, .if_icmp .eq 7, 3), (27, .iconst 1, 1), (28, .goto 4, 3), (31, .iconst 0, 1), (32, .ireturn, 1)]
theorem dkX4_changesAt : dkAll cX4_changesAt lsX4_changesAt = true := by decide +kernel
set_option maxHeartbeats 4000000 in
set_option maxRecDepth 100000 in
theorem sX4_changesAt (l : Launch) (dC : Nat → ClassId) (dI : Nat → Nat → Nat) (h0 : Nat) (hb_ : Nat) (si : Nat) (eras : Int32) (khb_ : ClassId) (fhb_ : Nat → Int32) (p0 : Int32) (p1 : Int32) (geras : gi eras 0 25) (gp0 : gi p0 1 24) (gp1 : gi p1 0 24) : Met l yX4_changesAt (.code yX4_changesAt cX4_changesAt 3 (some .boolean) :: wsGA) ({ frames := 0, cells := 0, slots := 0, locals := 0 }) (va_Pc [.ref h0, .int p0, .int p1] (fun U => va_P (dC, dI) vwCl [(h0, .inr (4, [.ref si, .ref hb_, .int eras])), (hb_, .inl (khb_, 625, .inl fhb_))] U.heap ∧ va_K (dC, dI) vwCl [(khb_, .int)] U ∧ nzA U)) (va_Qi (fun (r : Int32) (u : Unit) => gi r 0 1) (fun _ _ => True) (fun _ => False)) 0 0 (fun _ => False) := by
  refine Met.ofW (cc := cX4_changesAt) (maxL := 3) (ret := (some .boolean)) (by decide) rfl ?_
  intro p e s m args below meth c s₁ B hml hv
  obtain ⟨rfl, hP, hK, hz⟩ := hv
  have hx := B.exec
  have hb := B.bytes
  have hr := B.returns
  have hts := atoms_spec (ws := (.code yX4_changesAt cX4_changesAt 3 (some .boolean) :: wsGA)) B.pre
  have hown : s.vm.findClass RX4 = some m.cls := findClass_of_methodNamed B.named
  have hlocks := B.notSynchronized
  have hS : va_S (fun _ => False) s.heap s.heap [] := va_S.rf
  have hl := lv_entry ([.ref h0, .int p0, .int p1]) (n := 3) (Nat.le_of_ble_eq_true rfl)
  rw [lg_entry_eq]
  generalize (lg_sl ([.ref h0, .int p0, .int p1]) ++ List.replicate (3 - (lg_sl ([.ref h0, .int p0, .int p1])).length) Slot.unset).toArray = ls at hl ⊢
  have hl : lv_has ls 3 [(0, .ref h0), (1, .int p0), (2, .int p1)] := hl
  refine lv_aload_n hx hb (dk_at dkX4_changesAt 0 rfl) rfl (lv_at hl 0 rfl) ?_
  refine va_get (D := (dC, dI)) (ci := 4) (v := .ref hb_) (C := RX4) (T := TX4) (N := 3) hx hb hts (fun w h => List.mem_cons_of_mem _ (jnGA_X4 w h)) hown hK hP 0 rfl rfl 1 (by decide) (hts _ (List.mem_cons_of_mem _ mGA_123)) (fun _ h9 => h9) rfl (dk_at dkX4_changesAt 1 rfl) ?_
  refine lv_iload_n hx hb (dk_at dkX4_changesAt 2 rfl) rfl (lv_at hl 1 rfl) ?_
  refine lv_bipush (v := 25) hx hb (dk_at dkX4_changesAt 3 rfl) (by decide) ?_
  refine lv_imul hx hb (dk_at dkX4_changesAt 4 rfl) ?_
  refine lv_topi (fun x_9 ex_9 => ?_)
  have gx_9 : gi x_9 25 600 := gi_mul ex_9 gp0 (gi_c 25 25 (by decide)) (by decide)
  refine lv_iload_n hx hb (dk_at dkX4_changesAt 5 rfl) rfl (lv_at hl 2 rfl) ?_
  refine lv_iadd hx hb (dk_at dkX4_changesAt 6 rfl) ?_
  refine lv_topi (fun x_10 ex_10 => ?_)
  have gx_10 : gi x_10 25 624 := gi_add ex_10 gx_9 gp1 (by decide)
  refine va_iald hx hb hK hP 1 0 rfl rfl (gi_in gx_10 (by decide)) (dk_at dkX4_changesAt 7 rfl) ?_
  refine lv_topi (fun x_11 ex_11 => ?_)
  refine lv_aload_n hx hb (dk_at dkX4_changesAt 8 rfl) rfl (lv_at hl 0 rfl) ?_
  refine va_get (D := (dC, dI)) (ci := 4) (v := .ref hb_) (C := RX4) (T := TX4) (N := 3) hx hb hts (fun w h => List.mem_cons_of_mem _ (jnGA_X4 w h)) hown hK hP 0 rfl rfl 1 (by decide) (hts _ (List.mem_cons_of_mem _ mGA_123)) (fun _ h9 => h9) rfl (dk_at dkX4_changesAt 9 rfl) ?_
  refine lv_iload_n hx hb (dk_at dkX4_changesAt 10 rfl) rfl (lv_at hl 1 rfl) ?_
  refine lv_iconst (v := 1) hx hb (dk_at dkX4_changesAt 11 rfl) (by decide) ?_
  refine lv_isub hx hb (dk_at dkX4_changesAt 12 rfl) ?_
  refine lv_topi (fun x_12 ex_12 => ?_)
  have gx_12 : gi x_12 0 23 := gi_sub ex_12 gp0 (gi_c 1 1 (by decide)) (by decide)
  refine lv_bipush (v := 25) hx hb (dk_at dkX4_changesAt 13 rfl) (by decide) ?_
  refine lv_imul hx hb (dk_at dkX4_changesAt 14 rfl) ?_
  refine lv_topi (fun x_13 ex_13 => ?_)
  have gx_13 : gi x_13 0 575 := gi_mul ex_13 gx_12 (gi_c 25 25 (by decide)) (by decide)
  refine lv_iload_n hx hb (dk_at dkX4_changesAt 15 rfl) rfl (lv_at hl 2 rfl) ?_
  refine lv_iadd hx hb (dk_at dkX4_changesAt 16 rfl) ?_
  refine lv_topi (fun x_14 ex_14 => ?_)
  have gx_14 : gi x_14 0 599 := gi_add ex_14 gx_13 gp1 (by decide)
  refine va_iald hx hb hK hP 1 0 rfl rfl (gi_in gx_14 (by decide)) (dk_at dkX4_changesAt 17 rfl) ?_
  refine lv_topi (fun x_15 ex_15 => ?_)
  refine lv_icmp_eq (tgt := 31) hx hb (dk_at dkX4_changesAt 18 rfl) (by decide) (fun c_16 => ?_) (fun c_16 => ?_)
  · refine lv_iconst (v := 0) hx hb (dk_at dkX4_changesAt 21 rfl) (by decide) ?_
    exact W.zret (v := 0) hx hb hr (by decide) (fun t ht hW => ⟨⟨0, (), rfl, (gi_w (gi_c 0 0 (by decide)) (by decide)), trivial⟩, hS.F ht⟩) hS.2.2 (dk_at dkX4_changesAt 22 rfl)
  · refine lv_iconst (v := 1) hx hb (dk_at dkX4_changesAt 19 rfl) (by decide) ?_
    refine lv_goto (tgt := 32) hx hb (dk_at dkX4_changesAt 20 rfl) (by decide) ?_
    exact W.zret (v := 1) hx hb hr (by decide) (fun t ht hW => ⟨⟨1, (), rfl, (gi_w (gi_c 1 1 (by decide)) (by decide)), trivial⟩, hS.F ht⟩) hS.2.2 (dk_at dkX4_changesAt 22 rfl)
noncomputable def lsX4_changesOf : List (Nat × Instr × Nat) := [(0, .iconst 0, 1), (1, .istore_n 2, 1), (2, .iconst 1, 1), (3, .istore_n 3, 1), (4, .iload_n 3, 1), (5, .aload_n 0, 1), (6, .getfield 18, 3), (9, .if_icmp .ge 21, 3), (12, .aload_n 0, 1), (13, .iload_n 3, 1), (14, .iload_n 1, 1), (15, .invokevirtual 41, 3), (18, .ifCond .eq 6, 3), (21, .iinc 2 1, 3), (24, .iinc 3 1, 3), (27, .goto (-23), 3), (30, .iload_n 2, 1), (31, .ireturn, 1)]
theorem dkX4_changesOf : dkAll cX4_changesOf lsX4_changesOf = true := by decide +kernel
set_option maxHeartbeats 4000000 in
set_option maxRecDepth 100000 in
theorem lp_sX4_changesOf {p : Program} {l : Launch} {e : Env} {R : Room} {s : State} {m : MethodId} {args : Array Value} {below : List Frame} {meth : Method} {c : Code} {Q : State → Prop} {A : Nat → Prop} {cells slots : Nat} {dC : Nat → ClassId} {dI : Nat → Nat → Nat} (h0 : Nat) (hb_ : Nat) (si : Nat) (eras : Int32) (khb_ : ClassId) (fhb_ : Nat → Int32) (p0 : Int32) (geras : gi eras 0 25) (gp0 : gi p0 0 24) (hx : p.tables.exec = Jvm.exec) (hb : c.code = cX4_changesOf) (hml : c.maxLocals = 4) (hown : s.vm.findClass RX4 = some m.cls) (hts : ∀ w ∈ ((.code yX4_changesOf cX4_changesOf 4 (some .int) :: wsGA) : List Cond), w.before args s = true) (hK : va_K (dC, dI) vwCl [(khb_, .int)] s) (hz : nzA s) (hRf : 1 ≤ R.frames) (hRl : 22 ≤ R.locals) (hRc : cells ≤ R.cells) (hRs : slots ≤ R.slots) (kr31 : ∀ (v : Int32) (H : Heap) (locs : List Loc) (ls : Array Slot), va_P (dC, dI) vwCl [(h0, .inr (4, [.ref si, .ref hb_, .int eras])), (hb_, .inl (khb_, 625, .inl fhb_))] H → va_S A s.heap H locs → lv_has ls 4 [] → W p l e R s m args below meth c H locs cells slots Q (F0 m 31 ls [.int v])) : ∀ z : Nat, (∀ (v2 : Int32) (v3 : Int32) (H : Heap) (locs : List Loc) (ls : Array Slot), gi v3 1 25 → 51 + (-2) * v3.toInt < (z : Int) → va_P (dC, dI) vwCl [(h0, .inr (4, [.ref si, .ref hb_, .int eras])), (hb_, .inl (khb_, 625, .inl fhb_))] H → va_S A s.heap H locs → lv_has ls 4 [(0, .ref h0), (1, .int p0), (2, .int v2), (3, .int v3)] → W p l e R s m args below meth c H locs cells slots Q (F0 m 4 ls [])) := by
  intro z
  induction z with
  | zero =>
    intro v2 v3 H locs ls gv3 hmu hP hS hl
    exact absurd hmu (by have hv31 := gv3.1; have hv32 := gv3.2; omega)
  | succ z ih =>
      intro v2 v3 H locs ls gv3 hmu hP hS hl
      refine lv_iload_n hx hb (dk_at dkX4_changesOf 4 rfl) rfl (lv_at hl 3 rfl) ?_
      refine lv_aload_n hx hb (dk_at dkX4_changesOf 5 rfl) rfl (lv_at hl 0 rfl) ?_
      refine va_get (D := (dC, dI)) (ci := 4) (v := .int eras) (C := RX4) (T := TX4) (N := 3) hx hb hts (fun w h => List.mem_cons_of_mem _ (jnGA_X4 w h)) hown hK hP 0 rfl rfl 2 (by decide) (hts _ (List.mem_cons_of_mem _ mGA_124)) (fun _ h9 => h9) rfl (dk_at dkX4_changesOf 6 rfl) ?_
      refine lv_icmp_ge (tgt := 30) hx hb (dk_at dkX4_changesOf 7 rfl) (by decide) (fun c_391 => ?_) (fun c_391 => ?_)
      · refine lv_iload_n hx hb (dk_at dkX4_changesOf 16 rfl) rfl (lv_at hl 2 rfl) ?_
        exact kr31 v2 _ _ _ hP hS (lv_sub hl [] rfl)
      · have g_392 : gi v3 1 24 := gi_lt_l (Int32.not_le.mp c_391) gv3 geras (by decide)
        have g_393 : gi eras 2 25 := gi_lt_r (Int32.not_le.mp c_391) gv3 geras (by decide)
        refine lv_aload_n hx hb (dk_at dkX4_changesOf 8 rfl) rfl (lv_at hl 0 rfl) ?_
        refine lv_iload_n hx hb (dk_at dkX4_changesOf 9 rfl) rfl (lv_at hl 3 rfl) ?_
        refine lv_iload_n hx hb (dk_at dkX4_changesOf 10 rfl) rfl (lv_at hl 1 rfl) ?_
        have hPc := hP.sub (ws' := [(h0, .inr (4, [.ref si, .ref hb_, .int eras])), (hb_, .inl (khb_, 625, .inl fhb_))]) [0, 1] rfl
        have hKc := hK.sub (tys' := [(khb_, .int)]) [0] rfl
        refine va_calli (va_runV (As := [.int v3, .int p0]) (rest := []) ⟨hx, hb, hml, hown, hts⟩ (sX4_changesAt l dC dI h0 hb_ si eras khb_ fhb_ v3 p0 (gi_w g_393 (by decide)) g_392 gp0) (cwV 2 hts (gz_gV mGA_723 mGA_724 mGA_725 mGA_35 mGA_726 goodGA) rfl rfl rfl (by decide +kernel) ⟨Nat.le_trans (Nat.le_of_ble_eq_true rfl) hRf, Nat.le_trans (Nat.le_of_ble_eq_true rfl) hRl⟩) ⟨bl_I (bl_a bl_P (bl_a bl_K bl_nz)), va_recv hKc hPc (ci := 4) (q0 := 0) rfl rfl, fun U hU hW => ⟨rfl, by rw [hU]; exact hPc, va_K.moved hW.alike hKc, nzA_warm hW hz⟩⟩ rfl rfl hl.1 rfl (lv_room (Nat.le_of_ble_eq_true rfl)) (dk_at dkX4_changesOf 11 rfl) ⟨hRc, hRs⟩) hS (fun q _ h => h.elim) (fun q h => h.elim) (fun r_394 u t H1 locs ht hvm hw hB hz1 hk1 hS => ?_)
        have hP := gz_keep hP hk1
        generalize H1 = H at hP hS ⊢
        have gr_394 : gi r_394 0 1 := hw
        refine lv_if_eq (tgt := 24) hx hb (dk_at dkX4_changesOf 12 rfl) (by decide) (fun c_395 => ?_) (fun c_395 => ?_)
        · have g_396 : gi r_394 0 0 := gi_eq c_395 (gi_c 0 0 (by decide))
          obtain ⟨x_397, ex_397⟩ : ∃ y : Int32, y = v3 + 1 := ⟨_, rfl⟩
          have gx_397 : gi x_397 2 25 := gi_add ex_397 g_392 (gi_c 1 1 (by decide)) (by decide)
          refine lv_iinc (v := x_397) (lv' := [(3, .int x_397), (0, .ref h0), (1, .int p0), (2, .int v2)]) hx hb (dk_at dkX4_changesOf 14 rfl) hl (k := 3) rfl (by rw [ex_397]; rfl) (by decide) rfl (fun ls hl => ?_)
          refine lv_goto (tgt := 4) hx hb (dk_at dkX4_changesOf 15 rfl) (by decide) ?_
          exact ih v2 x_397 _ _ _ (gi_w gx_397 (by decide)) (by have av3 := gv3.1; have bv3 := gv3.2; have qgx_397 := gx_397.1; have rgx_397 := gx_397.2; have igx_397 : x_397.toInt = v3.toInt + 1 := (by have hc1 : (1 : Int32).toInt = 1 := (by decide); have h9 := gi_addI ex_397 (by have h1 := g_392.1; have h2 := (gi_c 1 1 (by decide)).1; have h3 := g_392.2; have h4 := (gi_c 1 1 (by decide)).2; omega) (by have h1 := g_392.1; have h2 := (gi_c 1 1 (by decide)).1; have h3 := g_392.2; have h4 := (gi_c 1 1 (by decide)).2; omega); rw [hc1] at h9; exact h9); have qgv3 := g_392.1; have rgv3 := g_392.2; omega) hP hS (lv_sub hl [1, 2, 3, 0] rfl)
        · have g_398 : gi r_394 1 1 := gi_ne_lo c_395 gr_394 (gi_c 0 0 (by decide)) (by decide)
          obtain ⟨x_399, ex_399⟩ : ∃ y : Int32, y = v2 + 1 := ⟨_, rfl⟩
          refine lv_iinc (v := x_399) (lv' := [(2, .int x_399), (0, .ref h0), (1, .int p0), (3, .int v3)]) hx hb (dk_at dkX4_changesOf 13 rfl) hl (k := 2) rfl (by rw [ex_399]; rfl) (by decide) rfl (fun ls hl => ?_)
          obtain ⟨x_400, ex_400⟩ : ∃ y : Int32, y = v3 + 1 := ⟨_, rfl⟩
          have gx_400 : gi x_400 2 25 := gi_add ex_400 g_392 (gi_c 1 1 (by decide)) (by decide)
          refine lv_iinc (v := x_400) (lv' := [(3, .int x_400), (2, .int x_399), (0, .ref h0), (1, .int p0)]) hx hb (dk_at dkX4_changesOf 14 rfl) hl (k := 3) rfl (by rw [ex_400]; rfl) (by decide) rfl (fun ls hl => ?_)
          refine lv_goto (tgt := 4) hx hb (dk_at dkX4_changesOf 15 rfl) (by decide) ?_
          exact ih x_399 x_400 _ _ _ (gi_w gx_400 (by decide)) (by have av3 := gv3.1; have bv3 := gv3.2; have qgx_400 := gx_400.1; have rgx_400 := gx_400.2; have igx_400 : x_400.toInt = v3.toInt + 1 := (by have hc1 : (1 : Int32).toInt = 1 := (by decide); have h9 := gi_addI ex_400 (by have h1 := g_392.1; have h2 := (gi_c 1 1 (by decide)).1; have h3 := g_392.2; have h4 := (gi_c 1 1 (by decide)).2; omega) (by have h1 := g_392.1; have h2 := (gi_c 1 1 (by decide)).1; have h3 := g_392.2; have h4 := (gi_c 1 1 (by decide)).2; omega); rw [hc1] at h9; exact h9); have qgv3 := g_392.1; have rgv3 := g_392.2; omega) hP hS (lv_sub hl [2, 3, 1, 0] rfl)
set_option maxHeartbeats 4000000 in
set_option maxRecDepth 100000 in
theorem sX4_changesOf (l : Launch) (dC : Nat → ClassId) (dI : Nat → Nat → Nat) (h0 : Nat) (hb_ : Nat) (si : Nat) (eras : Int32) (khb_ : ClassId) (fhb_ : Nat → Int32) (p0 : Int32) (geras : gi eras 0 25) (gp0 : gi p0 0 24) : Met l yX4_changesOf (.code yX4_changesOf cX4_changesOf 4 (some .int) :: wsGA) ({ frames := 1, cells := 0, slots := 0, locals := 22 }) (va_Pc [.ref h0, .int p0] (fun U => va_P (dC, dI) vwCl [(h0, .inr (4, [.ref si, .ref hb_, .int eras])), (hb_, .inl (khb_, 625, .inl fhb_))] U.heap ∧ va_K (dC, dI) vwCl [(khb_, .int)] U ∧ nzA U)) (va_Qi (fun (r : Int32) (u : Unit) => gi r (-2147483648) 2147483647) (fun _ _ => True) (fun _ => False)) 0 0 (fun _ => False) := by
  refine Met.ofW (cc := cX4_changesOf) (maxL := 4) (ret := (some .int)) (by decide) rfl ?_
  intro p e s m args below meth c s₁ B hml hv
  obtain ⟨rfl, hP, hK, hz⟩ := hv
  have hx := B.exec
  have hb := B.bytes
  have hr := B.returns
  have hts := atoms_spec (ws := (.code yX4_changesOf cX4_changesOf 4 (some .int) :: wsGA)) B.pre
  have hown : s.vm.findClass RX4 = some m.cls := findClass_of_methodNamed B.named
  have hlocks := B.notSynchronized
  have hS : va_S (fun _ => False) s.heap s.heap [] := va_S.rf
  have hl := lv_entry ([.ref h0, .int p0]) (n := 4) (Nat.le_of_ble_eq_true rfl)
  rw [lg_entry_eq]
  generalize (lg_sl ([.ref h0, .int p0]) ++ List.replicate (4 - (lg_sl ([.ref h0, .int p0])).length) Slot.unset).toArray = ls at hl ⊢
  have hl : lv_has ls 4 [(0, .ref h0), (1, .int p0)] := hl
  refine lv_iconst (v := 0) hx hb (dk_at dkX4_changesOf 0 rfl) (by decide) ?_
  refine lv_istore_n (lv' := [(2, .int 0), (0, .ref h0), (1, .int p0)]) hx hb (dk_at dkX4_changesOf 1 rfl) rfl hl (by decide) rfl (fun ls hl => ?_)
  refine lv_iconst (v := 1) hx hb (dk_at dkX4_changesOf 2 rfl) (by decide) ?_
  refine lv_istore_n (lv' := [(3, .int 1), (2, .int 0), (0, .ref h0), (1, .int p0)]) hx hb (dk_at dkX4_changesOf 3 rfl) rfl hl (by decide) rfl (fun ls hl => ?_)
  refine (lp_sX4_changesOf h0 hb_ si eras khb_ fhb_ p0 geras gp0 hx hb hml hown hts hK hz (Nat.le_of_ble_eq_true rfl) (Nat.le_of_ble_eq_true rfl) (Nat.zero_le _) (Nat.zero_le _) (fun v H locs ls hP hS hl => ?_) 62) 0 1 _ _ _ (gi_w (gi_c 1 1 (by decide)) (by decide)) (by have k1 : (1 : Int32).toInt = 1 := (by decide); omega) hP hS (lv_sub hl [2, 3, 1, 0] rfl)
  · skip
    exact W.iret (v := v) hx hb hr (fun t ht hW => ⟨⟨v, (), rfl, (gi_any v), trivial⟩, hS.F ht⟩) hS.2.2 (dk_at dkX4_changesOf 17 rfl)
noncomputable def lsX4_lastChangeOf : List (Nat × Instr × Nat) := [(0, .aload_n 0, 1), (1, .getfield 18, 3), (4, .iconst 1, 1), (5, .isub, 1), (6, .istore_n 2, 1), (7, .iload_n 2, 1), (8, .iconst 1, 1), (9, .if_icmp .lt 25, 3), (12, .aload_n 0, 1), (13, .iload_n 2, 1), (14, .iload_n 1, 1), (15, .invokevirtual 41, 3), (18, .ifCond .eq 10, 3), (21, .aload_n 0, 1), (22, .getfield 11, 3), (25, .iload_n 2, 1), (26, .iaload, 1), (27, .ireturn, 1), (28, .iinc 2 (-1), 3), (31, .goto (-24), 3), (34, .iconst 0, 1), (35, .ireturn, 1)]
theorem dkX4_lastChangeOf : dkAll cX4_lastChangeOf lsX4_lastChangeOf = true := by decide +kernel
set_option maxHeartbeats 4000000 in
set_option maxRecDepth 100000 in
theorem lp_sX4_lastChangeOf {p : Program} {l : Launch} {e : Env} {R : Room} {s : State} {m : MethodId} {args : Array Value} {below : List Frame} {meth : Method} {c : Code} {Q : State → Prop} {A : Nat → Prop} {cells slots : Nat} {dC : Nat → ClassId} {dI : Nat → Nat → Nat} (h0 : Nat) (si : Nat) (hb_ : Nat) (eras : Int32) (ksi : ClassId) (fsi : Nat → Int32) (khb_ : ClassId) (fhb_ : Nat → Int32) (p0 : Int32) (geras : gi eras 0 25) (gp0 : gi p0 0 24) (hx : p.tables.exec = Jvm.exec) (hb : c.code = cX4_lastChangeOf) (hml : c.maxLocals = 3) (hown : s.vm.findClass RX4 = some m.cls) (hts : ∀ w ∈ ((.code yX4_lastChangeOf cX4_lastChangeOf 3 (some .int) :: wsGA) : List Cond), w.before args s = true) (hK : va_K (dC, dI) vwCl [(ksi, .int), (khb_, .int)] s) (hz : nzA s) (hRf : 1 ≤ R.frames) (hRl : 22 ≤ R.locals) (hRc : cells ≤ R.cells) (hRs : slots ≤ R.slots) (kr35 : ∀ (v : Int32) (H : Heap) (locs : List Loc) (ls : Array Slot), gi v 0 0 → va_P (dC, dI) vwCl [(h0, .inr (4, [.ref si, .ref hb_, .int eras])), (si, .inl (ksi, 25, .inl fsi)), (hb_, .inl (khb_, 625, .inl fhb_))] H → va_S A s.heap H locs → lv_has ls 3 [] → W p l e R s m args below meth c H locs cells slots Q (F0 m 35 ls [.int v])) (kr27 : ∀ (v : Int32) (H : Heap) (locs : List Loc) (ls : Array Slot), va_P (dC, dI) vwCl [(h0, .inr (4, [.ref si, .ref hb_, .int eras])), (si, .inl (ksi, 25, .inl fsi)), (hb_, .inl (khb_, 625, .inl fhb_))] H → va_S A s.heap H locs → lv_has ls 3 [] → W p l e R s m args below meth c H locs cells slots Q (F0 m 27 ls [.int v])) : ∀ z : Nat, (∀ (v2 : Int32) (H : Heap) (locs : List Loc) (ls : Array Slot), gi v2 (-1) 24 → 3 + 2 * v2.toInt < (z : Int) → va_P (dC, dI) vwCl [(h0, .inr (4, [.ref si, .ref hb_, .int eras])), (si, .inl (ksi, 25, .inl fsi)), (hb_, .inl (khb_, 625, .inl fhb_))] H → va_S A s.heap H locs → lv_has ls 3 [(0, .ref h0), (1, .int p0), (2, .int v2)] → W p l e R s m args below meth c H locs cells slots Q (F0 m 7 ls [])) := by
  intro z
  induction z with
  | zero =>
    intro v2 H locs ls gv2 hmu hP hS hl
    exact absurd hmu (by have hv21 := gv2.1; have hv22 := gv2.2; omega)
  | succ z ih =>
      intro v2 H locs ls gv2 hmu hP hS hl
      refine lv_iload_n hx hb (dk_at dkX4_lastChangeOf 5 rfl) rfl (lv_at hl 2 rfl) ?_
      refine lv_iconst (v := 1) hx hb (dk_at dkX4_lastChangeOf 6 rfl) (by decide) ?_
      refine lv_icmp_lt (tgt := 34) hx hb (dk_at dkX4_lastChangeOf 7 rfl) (by decide) (fun c_21 => ?_) (fun c_21 => ?_)
      · have g_22 : gi v2 (-1) 0 := gi_lt_l c_21 gv2 (gi_c 1 1 (by decide)) (by decide)
        refine lv_iconst (v := 0) hx hb (dk_at dkX4_lastChangeOf 20 rfl) (by decide) ?_
        exact kr35 0 _ _ _ (gi_c 0 0 (by decide)) hP hS (lv_sub hl [] rfl)
      · have g_23 : gi v2 1 24 := gi_le_r (Int32.not_lt.mp c_21) (gi_c 1 1 (by decide)) gv2
        refine lv_aload_n hx hb (dk_at dkX4_lastChangeOf 8 rfl) rfl (lv_at hl 0 rfl) ?_
        refine lv_iload_n hx hb (dk_at dkX4_lastChangeOf 9 rfl) rfl (lv_at hl 2 rfl) ?_
        refine lv_iload_n hx hb (dk_at dkX4_lastChangeOf 10 rfl) rfl (lv_at hl 1 rfl) ?_
        have hPc := hP.sub (ws' := [(h0, .inr (4, [.ref si, .ref hb_, .int eras])), (hb_, .inl (khb_, 625, .inl fhb_))]) [0, 2] rfl
        have hKc := hK.sub (tys' := [(khb_, .int)]) [1] rfl
        refine va_calli (va_runV (As := [.int v2, .int p0]) (rest := []) ⟨hx, hb, hml, hown, hts⟩ (sX4_changesAt l dC dI h0 hb_ si eras khb_ fhb_ v2 p0 geras g_23 gp0) (cwV 2 hts (gz_gV mGA_723 mGA_724 mGA_725 mGA_35 mGA_726 goodGA) rfl rfl rfl (by decide +kernel) ⟨Nat.le_trans (Nat.le_of_ble_eq_true rfl) hRf, Nat.le_trans (Nat.le_of_ble_eq_true rfl) hRl⟩) ⟨bl_I (bl_a bl_P (bl_a bl_K bl_nz)), va_recv hKc hPc (ci := 4) (q0 := 0) rfl rfl, fun U hU hW => ⟨rfl, by rw [hU]; exact hPc, va_K.moved hW.alike hKc, nzA_warm hW hz⟩⟩ rfl rfl hl.1 rfl (lv_room (Nat.le_of_ble_eq_true rfl)) (dk_at dkX4_lastChangeOf 11 rfl) ⟨hRc, hRs⟩) hS (fun q _ h => h.elim) (fun q h => h.elim) (fun r_24 u t H1 locs ht hvm hw hB hz1 hk1 hS => ?_)
        have hP := gz_keep hP hk1
        generalize H1 = H at hP hS ⊢
        have gr_24 : gi r_24 0 1 := hw
        refine lv_if_eq (tgt := 28) hx hb (dk_at dkX4_lastChangeOf 12 rfl) (by decide) (fun c_25 => ?_) (fun c_25 => ?_)
        · have g_26 : gi r_24 0 0 := gi_eq c_25 (gi_c 0 0 (by decide))
          obtain ⟨x_27, ex_27⟩ : ∃ y : Int32, y = v2 + (-1) := ⟨_, rfl⟩
          have gx_27 : gi x_27 0 23 := gi_add ex_27 g_23 (gi_c (-1) (-1) (by decide)) (by decide)
          refine lv_iinc (v := x_27) (lv' := [(2, .int x_27), (0, .ref h0), (1, .int p0)]) hx hb (dk_at dkX4_lastChangeOf 18 rfl) hl (k := 2) rfl (by rw [ex_27]; rfl) (by decide) rfl (fun ls hl => ?_)
          refine lv_goto (tgt := 7) hx hb (dk_at dkX4_lastChangeOf 19 rfl) (by decide) ?_
          exact ih x_27 _ _ _ (gi_w gx_27 (by decide)) (by have av2 := gv2.1; have bv2 := gv2.2; have qgx_27 := gx_27.1; have rgx_27 := gx_27.2; have igx_27 : x_27.toInt = v2.toInt + (-1) := (by have hcm1 : ((-1) : Int32).toInt = (-1) := (by decide); have h9 := gi_addI ex_27 (by have h1 := g_23.1; have h2 := (gi_c (-1) (-1) (by decide)).1; have h3 := g_23.2; have h4 := (gi_c (-1) (-1) (by decide)).2; omega) (by have h1 := g_23.1; have h2 := (gi_c (-1) (-1) (by decide)).1; have h3 := g_23.2; have h4 := (gi_c (-1) (-1) (by decide)).2; omega); rw [hcm1] at h9; exact h9); have qgv2 := g_23.1; have rgv2 := g_23.2; omega) hP hS (lv_sub hl [1, 2, 0] rfl)
        · have g_28 : gi r_24 1 1 := gi_ne_lo c_25 gr_24 (gi_c 0 0 (by decide)) (by decide)
          refine lv_aload_n hx hb (dk_at dkX4_lastChangeOf 13 rfl) rfl (lv_at hl 0 rfl) ?_
          refine va_get (D := (dC, dI)) (ci := 4) (v := .ref si) (C := RX4) (T := TX4) (N := 3) hx hb hts (fun w h => List.mem_cons_of_mem _ (jnGA_X4 w h)) hown hK hP 0 rfl rfl 0 (by decide) (hts _ (List.mem_cons_of_mem _ mGA_122)) (fun _ h9 => h9) rfl (dk_at dkX4_lastChangeOf 14 rfl) ?_
          refine lv_iload_n hx hb (dk_at dkX4_lastChangeOf 15 rfl) rfl (lv_at hl 2 rfl) ?_
          refine va_iald hx hb hK hP 1 0 rfl rfl (gi_in g_23 (by decide)) (dk_at dkX4_lastChangeOf 16 rfl) ?_
          refine lv_topi (fun x_29 ex_29 => ?_)
          exact kr27 x_29 _ _ _ hP hS (lv_sub hl [] rfl)
set_option maxHeartbeats 4000000 in
set_option maxRecDepth 100000 in
theorem sX4_lastChangeOf (l : Launch) (dC : Nat → ClassId) (dI : Nat → Nat → Nat) (h0 : Nat) (si : Nat) (hb_ : Nat) (eras : Int32) (ksi : ClassId) (fsi : Nat → Int32) (khb_ : ClassId) (fhb_ : Nat → Int32) (p0 : Int32) (geras : gi eras 0 25) (gp0 : gi p0 0 24) : Met l yX4_lastChangeOf (.code yX4_lastChangeOf cX4_lastChangeOf 3 (some .int) :: wsGA) ({ frames := 1, cells := 0, slots := 0, locals := 22 }) (va_Pc [.ref h0, .int p0] (fun U => va_P (dC, dI) vwCl [(h0, .inr (4, [.ref si, .ref hb_, .int eras])), (si, .inl (ksi, 25, .inl fsi)), (hb_, .inl (khb_, 625, .inl fhb_))] U.heap ∧ va_K (dC, dI) vwCl [(ksi, .int), (khb_, .int)] U ∧ nzA U)) (va_Qi (fun (r : Int32) (u : Unit) => gi r (-2147483648) 2147483647) (fun _ _ => True) (fun _ => False)) 0 0 (fun _ => False) := by
  refine Met.ofW (cc := cX4_lastChangeOf) (maxL := 3) (ret := (some .int)) (by decide) rfl ?_
  intro p e s m args below meth c s₁ B hml hv
  obtain ⟨rfl, hP, hK, hz⟩ := hv
  have hx := B.exec
  have hb := B.bytes
  have hr := B.returns
  have hts := atoms_spec (ws := (.code yX4_lastChangeOf cX4_lastChangeOf 3 (some .int) :: wsGA)) B.pre
  have hown : s.vm.findClass RX4 = some m.cls := findClass_of_methodNamed B.named
  have hlocks := B.notSynchronized
  have hS : va_S (fun _ => False) s.heap s.heap [] := va_S.rf
  have hl := lv_entry ([.ref h0, .int p0]) (n := 3) (Nat.le_of_ble_eq_true rfl)
  rw [lg_entry_eq]
  generalize (lg_sl ([.ref h0, .int p0]) ++ List.replicate (3 - (lg_sl ([.ref h0, .int p0])).length) Slot.unset).toArray = ls at hl ⊢
  have hl : lv_has ls 3 [(0, .ref h0), (1, .int p0)] := hl
  refine lv_aload_n hx hb (dk_at dkX4_lastChangeOf 0 rfl) rfl (lv_at hl 0 rfl) ?_
  refine va_get (D := (dC, dI)) (ci := 4) (v := .int eras) (C := RX4) (T := TX4) (N := 3) hx hb hts (fun w h => List.mem_cons_of_mem _ (jnGA_X4 w h)) hown hK hP 0 rfl rfl 2 (by decide) (hts _ (List.mem_cons_of_mem _ mGA_124)) (fun _ h9 => h9) rfl (dk_at dkX4_lastChangeOf 1 rfl) ?_
  refine lv_iconst (v := 1) hx hb (dk_at dkX4_lastChangeOf 2 rfl) (by decide) ?_
  refine lv_isub hx hb (dk_at dkX4_lastChangeOf 3 rfl) ?_
  refine lv_topi (fun x_30 ex_30 => ?_)
  have gx_30 : gi x_30 (-1) 24 := gi_sub ex_30 geras (gi_c 1 1 (by decide)) (by decide)
  refine lv_istore_n (lv' := [(2, .int x_30), (0, .ref h0), (1, .int p0)]) hx hb (dk_at dkX4_lastChangeOf 4 rfl) rfl hl (by decide) rfl (fun ls hl => ?_)
  refine (lp_sX4_lastChangeOf h0 si hb_ eras ksi fsi khb_ fhb_ p0 geras gp0 hx hb hml hown hts hK hz (Nat.le_of_ble_eq_true rfl) (Nat.le_of_ble_eq_true rfl) (Nat.zero_le _) (Nat.zero_le _) (fun v H locs ls gv hP hS hl => ?_) (fun v H locs ls hP hS hl => ?_) 64) x_30 _ _ _ gx_30 (by have qgx_30 := gx_30.1; have rgx_30 := gx_30.2; have igx_30 : x_30.toInt = eras.toInt - 1 := (by have hc1 : (1 : Int32).toInt = 1 := (by decide); have h9 := gi_subI ex_30 (by have h1 := geras.1; have h2 := (gi_c 1 1 (by decide)).1; have h3 := geras.2; have h4 := (gi_c 1 1 (by decide)).2; omega) (by have h1 := geras.1; have h2 := (gi_c 1 1 (by decide)).1; have h3 := geras.2; have h4 := (gi_c 1 1 (by decide)).2; omega); rw [hc1] at h9; exact h9); have qgeras := geras.1; have rgeras := geras.2; omega) hP hS (lv_sub hl [1, 2, 0] rfl)
  · skip
    exact W.iret (v := v) hx hb hr (fun t ht hW => ⟨⟨v, (), rfl, (gi_any v), trivial⟩, hS.F ht⟩) hS.2.2 (dk_at dkX4_lastChangeOf 21 rfl)
  · skip
    exact W.iret (v := v) hx hb hr (fun t ht hW => ⟨⟨v, (), rfl, (gi_any v), trivial⟩, hS.F ht⟩) hS.2.2 (dk_at dkX4_lastChangeOf 17 rfl)
noncomputable def lsX1_lengthOf : List (Nat × Instr × Nat) := [(0, .aload_n 0, 1), (1, .getfield 29, 3), (4, .iload_n 1, 1), (5, .iconst 1, 1), (6, .iadd, 1), (7, .iaload, 1), (8, .aload_n 0, 1), (9, .getfield 29, 3), (12, .iload_n 1, 1), (13, .iaload, 1), (14, .isub, 1), (15, .ireturn, 1)]
theorem dkX1_lengthOf : dkAll cX1_lengthOf lsX1_lengthOf = true := by decide +kernel
set_option maxHeartbeats 4000000 in
set_option maxRecDepth 100000 in
theorem sX1_lengthOf (l : Launch) (dC : Nat → ClassId) (dI : Nat → Nat → Nat) (h0 : Nat) (cb : Nat) (frame : Nat) (verdicts : Nat) (queue : Nat) (turns : Nat) (queueLength : Int32) (takenBits : Int32) (kcb : ClassId) (fcb : Nat → Int32) (p0 : Int32) (gqueueLength : gi queueLength 0 24) (gp0 : gi p0 0 23) : Met l yX1_lengthOf (.code yX1_lengthOf cX1_lengthOf 2 (some .int) :: wsGA) ({ frames := 0, cells := 0, slots := 0, locals := 0 }) (va_Pc [.ref h0, .int p0] (fun U => va_P (dC, dI) vwCl [(h0, .inr (1, [.ref frame, .ref verdicts, .ref queue, .ref turns, .ref cb, .int queueLength, .int takenBits])), (cb, .inl (kcb, 25, .inl fcb))] U.heap ∧ va_K (dC, dI) vwCl [(kcb, .int)] U ∧ nzA U)) (va_Qi (fun (r : Int32) (u : Unit) => gi r (-2147483648) 2147483647) (fun _ _ => True) (fun _ => False)) 0 0 (fun _ => False) := by
  refine Met.ofW (cc := cX1_lengthOf) (maxL := 2) (ret := (some .int)) (by decide) rfl ?_
  intro p e s m args below meth c s₁ B hml hv
  obtain ⟨rfl, hP, hK, hz⟩ := hv
  have hx := B.exec
  have hb := B.bytes
  have hr := B.returns
  have hts := atoms_spec (ws := (.code yX1_lengthOf cX1_lengthOf 2 (some .int) :: wsGA)) B.pre
  have hown : s.vm.findClass RX1 = some m.cls := findClass_of_methodNamed B.named
  have hlocks := B.notSynchronized
  have hS : va_S (fun _ => False) s.heap s.heap [] := va_S.rf
  have hl := lv_entry ([.ref h0, .int p0]) (n := 2) (Nat.le_of_ble_eq_true rfl)
  rw [lg_entry_eq]
  generalize (lg_sl ([.ref h0, .int p0]) ++ List.replicate (2 - (lg_sl ([.ref h0, .int p0])).length) Slot.unset).toArray = ls at hl ⊢
  have hl : lv_has ls 2 [(0, .ref h0), (1, .int p0)] := hl
  refine lv_aload_n hx hb (dk_at dkX1_lengthOf 0 rfl) rfl (lv_at hl 0 rfl) ?_
  refine va_get (D := (dC, dI)) (ci := 1) (v := .ref cb) (C := RX1) (T := TX1) (N := 7) hx hb hts (fun w h => List.mem_cons_of_mem _ (jnGA_X1 w h)) hown hK hP 0 rfl rfl 4 (by decide) (hts _ (List.mem_cons_of_mem _ mGA_105)) (fun _ h9 => h9) rfl (dk_at dkX1_lengthOf 1 rfl) ?_
  refine lv_iload_n hx hb (dk_at dkX1_lengthOf 2 rfl) rfl (lv_at hl 1 rfl) ?_
  refine lv_iconst (v := 1) hx hb (dk_at dkX1_lengthOf 3 rfl) (by decide) ?_
  refine lv_iadd hx hb (dk_at dkX1_lengthOf 4 rfl) ?_
  refine lv_topi (fun x_5 ex_5 => ?_)
  have gx_5 : gi x_5 1 24 := gi_add ex_5 gp0 (gi_c 1 1 (by decide)) (by decide)
  refine va_iald hx hb hK hP 1 0 rfl rfl (gi_in gx_5 (by decide)) (dk_at dkX1_lengthOf 5 rfl) ?_
  refine lv_topi (fun x_6 ex_6 => ?_)
  refine lv_aload_n hx hb (dk_at dkX1_lengthOf 6 rfl) rfl (lv_at hl 0 rfl) ?_
  refine va_get (D := (dC, dI)) (ci := 1) (v := .ref cb) (C := RX1) (T := TX1) (N := 7) hx hb hts (fun w h => List.mem_cons_of_mem _ (jnGA_X1 w h)) hown hK hP 0 rfl rfl 4 (by decide) (hts _ (List.mem_cons_of_mem _ mGA_105)) (fun _ h9 => h9) rfl (dk_at dkX1_lengthOf 7 rfl) ?_
  refine lv_iload_n hx hb (dk_at dkX1_lengthOf 8 rfl) rfl (lv_at hl 1 rfl) ?_
  refine va_iald hx hb hK hP 1 0 rfl rfl (gi_in gp0 (by decide)) (dk_at dkX1_lengthOf 9 rfl) ?_
  refine lv_topi (fun x_7 ex_7 => ?_)
  refine lv_isub hx hb (dk_at dkX1_lengthOf 10 rfl) ?_
  refine lv_topi (fun x_8 ex_8 => ?_)
  exact W.iret (v := x_8) hx hb hr (fun t ht hW => ⟨⟨x_8, (), rfl, (gi_any x_8), trivial⟩, hS.F ht⟩) hS.2.2 (dk_at dkX1_lengthOf 11 rfl)
noncomputable def lsX0_wipe : List (Nat × Instr × Nat) := [(0, .aload_n 0, 1), (1, .iconst 0, 1), (2, .putfield 32, 3), (5, .aload_n 0, 1), (6, .iconst 0, 1), (7, .putfield 36, 3), (10, .aload_n 0, 1), (11, .iconst 0, 1), (12, .putfield 39, 3), (15, .aload_n 0, 1), (16, .iconst 0, 1), (17, .putfield 42, 3), (20, .aload_n 0, 1), (21, .iconst 0, 1), (22, .putfield 45, 3), (25, .aload_n 0, 1), (26, .iconst 0, 1), (27, .putfield 49, 3), (30, .aload_n 0, 1), (31, .iconst 0, 1), (32, .putfield 52, 3), (35, .aload_n 0, 1), (36, .iconst 0, 1), (37, .putfield 55, 3), (40, .aload_n 0, 1), (41, .iconst 0, 1), (42, .putfield 58, 3), (45, .aload_n 0, 1), (46, .iconst 0, 1), (47, .putfield 61, 3), (50, .return_, 1)]
theorem dkX0_wipe : dkAll cX0_wipe lsX0_wipe = true := by decide +kernel
noncomputable def fX0_wipe : Int32 × Int32 × Int32 × Int32 × Int32 × Int32 × Int32 × Int32 × Int32 × Int32 := ((0 : Int32), (0 : Int32), (0 : Int32), (0 : Int32), (0 : Int32), (0 : Int32), (0 : Int32), (0 : Int32), (0 : Int32), (0 : Int32))
abbrev pb_sX0_wipe (dC : Nat → ClassId) (dI : Nat → Nat → Nat) (A9 : Nat → Prop) (h0 : Nat) (months : Int32) (full : Int32) (lean : Int32) (lines : Int32) (hasMoon : Int32) (moonStart : Int32) (moonStep : Int32) (placeCount : Int32) (reportCount : Int32) (deedCount : Int32) (places : Nat) (reports : Nat) (deeds : Nat) (w0_0 : Int32) (w0_1 : Int32) (w0_2 : Int32) (w0_3 : Int32) (w0_4 : Int32) (w0_5 : Int32) (w0_6 : Int32) (w0_7 : Int32) (w0_8 : Int32) (w0_9 : Int32) (t : State) : Prop := gi w0_0 0 24 ∧ gi w0_1 0 5 ∧ gi w0_2 0 5 ∧ gi w0_4 0 1 ∧ gi w0_7 0 6 ∧ gi w0_8 0 24 ∧ gi w0_9 0 8 ∧ (w0_0, w0_1, w0_2, w0_3, w0_4, w0_5, w0_6, w0_7, w0_8, w0_9) = fX0_wipe ∧ va_P (dC, dI) vwCl [(h0, .inr (0, [.int w0_0, .int w0_1, .int w0_2, .int w0_3, .int w0_4, .int w0_5, .int w0_6, .int w0_7, .int w0_8, .int w0_9, .ref places, .ref reports, .ref deeds]))] t.heap ∧ va_D A9 [(h0, .inr (0, [.int w0_0, .int w0_1, .int w0_2, .int w0_3, .int w0_4, .int w0_5, .int w0_6, .int w0_7, .int w0_8, .int w0_9, .ref places, .ref reports, .ref deeds]))]
set_option maxHeartbeats 4000000 in
set_option maxRecDepth 100000 in
theorem sX0_wipe (l : Launch) (dC : Nat → ClassId) (dI : Nat → Nat → Nat) (sz : Nat) (h0 : Nat) (months : Int32) (full : Int32) (lean : Int32) (lines : Int32) (hasMoon : Int32) (moonStart : Int32) (moonStep : Int32) (placeCount : Int32) (reportCount : Int32) (deedCount : Int32) (places : Nat) (reports : Nat) (deeds : Nat) (gmonths : gi months 0 24) (gfull : gi full 0 5) (glean : gi lean 0 5) (ghasMoon : gi hasMoon 0 1) (gplaceCount : gi placeCount 0 6) (greportCount : gi reportCount 0 24) (gdeedCount : gi deedCount 0 8) : Met l yX0_wipe (.code yX0_wipe cX0_wipe 1 none :: wsGA) ({ frames := 0, cells := 0, slots := 0, locals := 0 }) (va_Pc [.ref h0] (fun U => U.heap.size = sz ∧ va_P (dC, dI) vwCl [(h0, .inr (0, [.int months, .int full, .int lean, .int lines, .int hasMoon, .int moonStart, .int moonStep, .int placeCount, .int reportCount, .int deedCount, .ref places, .ref reports, .ref deeds]))] U.heap ∧ va_K (dC, dI) vwCl [] U ∧ va_D (fun _ => True) [(h0, .inr (0, [.int months, .int full, .int lean, .int lines, .int hasMoon, .int moonStart, .int moonStep, .int placeCount, .int reportCount, .int deedCount, .ref places, .ref reports, .ref deeds]))] ∧ nzA U)) (va_Qv (fun (u : Unit) => True) (fun _ t => ∃ (w0_0 : Int32) (w0_1 : Int32) (w0_2 : Int32) (w0_3 : Int32) (w0_4 : Int32) (w0_5 : Int32) (w0_6 : Int32) (w0_7 : Int32) (w0_8 : Int32) (w0_9 : Int32), pb_sX0_wipe dC dI (va_A [(h0, .inr (0, [.int months, .int full, .int lean, .int lines, .int hasMoon, .int moonStart, .int moonStep, .int placeCount, .int reportCount, .int deedCount, .ref places, .ref reports, .ref deeds]))] sz) h0 months full lean lines hasMoon moonStart moonStep placeCount reportCount deedCount places reports deeds w0_0 w0_1 w0_2 w0_3 w0_4 w0_5 w0_6 w0_7 w0_8 w0_9 t) (va_A [(h0, .inr (0, [.int months, .int full, .int lean, .int lines, .int hasMoon, .int moonStart, .int moonStep, .int placeCount, .int reportCount, .int deedCount, .ref places, .ref reports, .ref deeds]))] sz)) 0 0 (va_A [(h0, .inr (0, [.int months, .int full, .int lean, .int lines, .int hasMoon, .int moonStart, .int moonStep, .int placeCount, .int reportCount, .int deedCount, .ref places, .ref reports, .ref deeds]))] sz) := by
  refine Met.ofW (cc := cX0_wipe) (maxL := 1) (ret := none) (by decide) rfl ?_
  intro p e s m args below meth c s₁ B hml hv
  obtain ⟨rfl, hsz, hP, hK, hD0, hz⟩ := hv
  have hx := B.exec
  have hb := B.bytes
  have hr := B.returns
  have hts := atoms_spec (ws := (.code yX0_wipe cX0_wipe 1 none :: wsGA)) B.pre
  have hown : s.vm.findClass RX0 = some m.cls := findClass_of_methodNamed B.named
  have hlocks := B.notSynchronized
  subst hsz
  have hD := hD0.self (sz := s.heap.size)
  generalize hAe : va_A [(h0, .inr (0, [.int months, .int full, .int lean, .int lines, .int hasMoon, .int moonStart, .int moonStep, .int placeCount, .int reportCount, .int deedCount, .ref places, .ref reports, .ref deeds]))] s.heap.size = A at hD ⊢
  have hA : ∀ q : Nat, s.heap.size ≤ q → A q := fun q h => by rw [← hAe]; exact Or.inr h
  have hS : va_S A s.heap s.heap [] := va_S.rf
  have hl := lv_entry ([.ref h0]) (n := 1) (Nat.le_of_ble_eq_true rfl)
  rw [lg_entry_eq]
  generalize (lg_sl ([.ref h0]) ++ List.replicate (1 - (lg_sl ([.ref h0])).length) Slot.unset).toArray = ls at hl ⊢
  have hl : lv_has ls 1 [(0, .ref h0)] := hl
  obtain ⟨RES, hF⟩ : ∃ R9, fX0_wipe = R9 := ⟨_, rfl⟩
  have hR9 := hF
  refine lv_aload_n hx hb (dk_at dkX0_wipe 0 rfl) rfl (lv_at hl 0 rfl) ?_
  refine lv_iconst (v := 0) hx hb (dk_at dkX0_wipe 1 rfl) (by decide) ?_
  refine va_put (D := (dC, dI)) (ci := 0) (v := .int 0) (ty := .int) (C := RX0) (T := TX0) (N := 13) hx hb hts (fun w h => List.mem_cons_of_mem _ (jnGA_X0 w h)) tyX0 tyX0_ok nmX0 hown hK hP hD hS 0 rfl rfl 0 (by decide) (hts _ (List.mem_cons_of_mem _ mGA_152)) (fun _ h9 => h9) rfl (by decide +kernel) rfl rfl (Nat.le_of_ble_eq_true rfl) (dk_at dkX0_wipe 2 rfl) (fun H locs hP hD hS => ?_)
  obtain ⟨hP, hD⟩ := gz_both (w := [(h0, .inr (0, [.int 0, .int full, .int lean, .int lines, .int hasMoon, .int moonStart, .int moonStep, .int placeCount, .int reportCount, .int deedCount, .ref places, .ref reports, .ref deeds]))]) hP hD
  refine lv_aload_n hx hb (dk_at dkX0_wipe 3 rfl) rfl (lv_at hl 0 rfl) ?_
  refine lv_iconst (v := 0) hx hb (dk_at dkX0_wipe 4 rfl) (by decide) ?_
  refine va_put (D := (dC, dI)) (ci := 0) (v := .int 0) (ty := .int) (C := RX0) (T := TX0) (N := 13) hx hb hts (fun w h => List.mem_cons_of_mem _ (jnGA_X0 w h)) tyX0 tyX0_ok nmX0 hown hK hP hD hS 0 rfl rfl 1 (by decide) (hts _ (List.mem_cons_of_mem _ mGA_153)) (fun _ h9 => h9) rfl (by decide +kernel) rfl rfl (Nat.le_of_ble_eq_true rfl) (dk_at dkX0_wipe 5 rfl) (fun H locs hP hD hS => ?_)
  obtain ⟨hP, hD⟩ := gz_both (w := [(h0, .inr (0, [.int 0, .int 0, .int lean, .int lines, .int hasMoon, .int moonStart, .int moonStep, .int placeCount, .int reportCount, .int deedCount, .ref places, .ref reports, .ref deeds]))]) hP hD
  refine lv_aload_n hx hb (dk_at dkX0_wipe 6 rfl) rfl (lv_at hl 0 rfl) ?_
  refine lv_iconst (v := 0) hx hb (dk_at dkX0_wipe 7 rfl) (by decide) ?_
  refine va_put (D := (dC, dI)) (ci := 0) (v := .int 0) (ty := .int) (C := RX0) (T := TX0) (N := 13) hx hb hts (fun w h => List.mem_cons_of_mem _ (jnGA_X0 w h)) tyX0 tyX0_ok nmX0 hown hK hP hD hS 0 rfl rfl 2 (by decide) (hts _ (List.mem_cons_of_mem _ mGA_154)) (fun _ h9 => h9) rfl (by decide +kernel) rfl rfl (Nat.le_of_ble_eq_true rfl) (dk_at dkX0_wipe 8 rfl) (fun H locs hP hD hS => ?_)
  obtain ⟨hP, hD⟩ := gz_both (w := [(h0, .inr (0, [.int 0, .int 0, .int 0, .int lines, .int hasMoon, .int moonStart, .int moonStep, .int placeCount, .int reportCount, .int deedCount, .ref places, .ref reports, .ref deeds]))]) hP hD
  refine lv_aload_n hx hb (dk_at dkX0_wipe 9 rfl) rfl (lv_at hl 0 rfl) ?_
  refine lv_iconst (v := 0) hx hb (dk_at dkX0_wipe 10 rfl) (by decide) ?_
  refine va_put (D := (dC, dI)) (ci := 0) (v := .int 0) (ty := .int) (C := RX0) (T := TX0) (N := 13) hx hb hts (fun w h => List.mem_cons_of_mem _ (jnGA_X0 w h)) tyX0 tyX0_ok nmX0 hown hK hP hD hS 0 rfl rfl 3 (by decide) (hts _ (List.mem_cons_of_mem _ mGA_155)) (fun _ h9 => h9) rfl (by decide +kernel) rfl rfl (Nat.le_of_ble_eq_true rfl) (dk_at dkX0_wipe 11 rfl) (fun H locs hP hD hS => ?_)
  obtain ⟨hP, hD⟩ := gz_both (w := [(h0, .inr (0, [.int 0, .int 0, .int 0, .int 0, .int hasMoon, .int moonStart, .int moonStep, .int placeCount, .int reportCount, .int deedCount, .ref places, .ref reports, .ref deeds]))]) hP hD
  refine lv_aload_n hx hb (dk_at dkX0_wipe 12 rfl) rfl (lv_at hl 0 rfl) ?_
  refine lv_iconst (v := 0) hx hb (dk_at dkX0_wipe 13 rfl) (by decide) ?_
  refine va_put (D := (dC, dI)) (ci := 0) (v := .int 0) (ty := .boolean) (C := RX0) (T := TX0) (N := 13) hx hb hts (fun w h => List.mem_cons_of_mem _ (jnGA_X0 w h)) tyX0 tyX0_ok nmX0 hown hK hP hD hS 0 rfl rfl 4 (by decide) (hts _ (List.mem_cons_of_mem _ mGA_156)) (fun _ h9 => h9) rfl (by decide +kernel) rfl rfl (Nat.le_of_ble_eq_true rfl) (dk_at dkX0_wipe 14 rfl) (fun H locs hP hD hS => ?_)
  obtain ⟨hP, hD⟩ := gz_both (w := [(h0, .inr (0, [.int 0, .int 0, .int 0, .int 0, .int 0, .int moonStart, .int moonStep, .int placeCount, .int reportCount, .int deedCount, .ref places, .ref reports, .ref deeds]))]) hP hD
  refine lv_aload_n hx hb (dk_at dkX0_wipe 15 rfl) rfl (lv_at hl 0 rfl) ?_
  refine lv_iconst (v := 0) hx hb (dk_at dkX0_wipe 16 rfl) (by decide) ?_
  refine va_put (D := (dC, dI)) (ci := 0) (v := .int 0) (ty := .int) (C := RX0) (T := TX0) (N := 13) hx hb hts (fun w h => List.mem_cons_of_mem _ (jnGA_X0 w h)) tyX0 tyX0_ok nmX0 hown hK hP hD hS 0 rfl rfl 5 (by decide) (hts _ (List.mem_cons_of_mem _ mGA_157)) (fun _ h9 => h9) rfl (by decide +kernel) rfl rfl (Nat.le_of_ble_eq_true rfl) (dk_at dkX0_wipe 17 rfl) (fun H locs hP hD hS => ?_)
  obtain ⟨hP, hD⟩ := gz_both (w := [(h0, .inr (0, [.int 0, .int 0, .int 0, .int 0, .int 0, .int 0, .int moonStep, .int placeCount, .int reportCount, .int deedCount, .ref places, .ref reports, .ref deeds]))]) hP hD
  refine lv_aload_n hx hb (dk_at dkX0_wipe 18 rfl) rfl (lv_at hl 0 rfl) ?_
  refine lv_iconst (v := 0) hx hb (dk_at dkX0_wipe 19 rfl) (by decide) ?_
  refine va_put (D := (dC, dI)) (ci := 0) (v := .int 0) (ty := .int) (C := RX0) (T := TX0) (N := 13) hx hb hts (fun w h => List.mem_cons_of_mem _ (jnGA_X0 w h)) tyX0 tyX0_ok nmX0 hown hK hP hD hS 0 rfl rfl 6 (by decide) (hts _ (List.mem_cons_of_mem _ mGA_158)) (fun _ h9 => h9) rfl (by decide +kernel) rfl rfl (Nat.le_of_ble_eq_true rfl) (dk_at dkX0_wipe 20 rfl) (fun H locs hP hD hS => ?_)
  obtain ⟨hP, hD⟩ := gz_both (w := [(h0, .inr (0, [.int 0, .int 0, .int 0, .int 0, .int 0, .int 0, .int 0, .int placeCount, .int reportCount, .int deedCount, .ref places, .ref reports, .ref deeds]))]) hP hD
  refine lv_aload_n hx hb (dk_at dkX0_wipe 21 rfl) rfl (lv_at hl 0 rfl) ?_
  refine lv_iconst (v := 0) hx hb (dk_at dkX0_wipe 22 rfl) (by decide) ?_
  refine va_put (D := (dC, dI)) (ci := 0) (v := .int 0) (ty := .int) (C := RX0) (T := TX0) (N := 13) hx hb hts (fun w h => List.mem_cons_of_mem _ (jnGA_X0 w h)) tyX0 tyX0_ok nmX0 hown hK hP hD hS 0 rfl rfl 7 (by decide) (hts _ (List.mem_cons_of_mem _ mGA_159)) (fun _ h9 => h9) rfl (by decide +kernel) rfl rfl (Nat.le_of_ble_eq_true rfl) (dk_at dkX0_wipe 23 rfl) (fun H locs hP hD hS => ?_)
  obtain ⟨hP, hD⟩ := gz_both (w := [(h0, .inr (0, [.int 0, .int 0, .int 0, .int 0, .int 0, .int 0, .int 0, .int 0, .int reportCount, .int deedCount, .ref places, .ref reports, .ref deeds]))]) hP hD
  refine lv_aload_n hx hb (dk_at dkX0_wipe 24 rfl) rfl (lv_at hl 0 rfl) ?_
  refine lv_iconst (v := 0) hx hb (dk_at dkX0_wipe 25 rfl) (by decide) ?_
  refine va_put (D := (dC, dI)) (ci := 0) (v := .int 0) (ty := .int) (C := RX0) (T := TX0) (N := 13) hx hb hts (fun w h => List.mem_cons_of_mem _ (jnGA_X0 w h)) tyX0 tyX0_ok nmX0 hown hK hP hD hS 0 rfl rfl 8 (by decide) (hts _ (List.mem_cons_of_mem _ mGA_160)) (fun _ h9 => h9) rfl (by decide +kernel) rfl rfl (Nat.le_of_ble_eq_true rfl) (dk_at dkX0_wipe 26 rfl) (fun H locs hP hD hS => ?_)
  obtain ⟨hP, hD⟩ := gz_both (w := [(h0, .inr (0, [.int 0, .int 0, .int 0, .int 0, .int 0, .int 0, .int 0, .int 0, .int 0, .int deedCount, .ref places, .ref reports, .ref deeds]))]) hP hD
  refine lv_aload_n hx hb (dk_at dkX0_wipe 27 rfl) rfl (lv_at hl 0 rfl) ?_
  refine lv_iconst (v := 0) hx hb (dk_at dkX0_wipe 28 rfl) (by decide) ?_
  refine va_put (D := (dC, dI)) (ci := 0) (v := .int 0) (ty := .int) (C := RX0) (T := TX0) (N := 13) hx hb hts (fun w h => List.mem_cons_of_mem _ (jnGA_X0 w h)) tyX0 tyX0_ok nmX0 hown hK hP hD hS 0 rfl rfl 9 (by decide) (hts _ (List.mem_cons_of_mem _ mGA_161)) (fun _ h9 => h9) rfl (by decide +kernel) rfl rfl (Nat.le_of_ble_eq_true rfl) (dk_at dkX0_wipe 29 rfl) (fun H locs hP hD hS => ?_)
  obtain ⟨hP, hD⟩ := gz_both (w := [(h0, .inr (0, [.int 0, .int 0, .int 0, .int 0, .int 0, .int 0, .int 0, .int 0, .int 0, .int 0, .ref places, .ref reports, .ref deeds]))]) hP hD
  exact W.vret hx hb hr (fun t ht hW => ⟨⟨(), rfl, trivial, 0, 0, 0, 0, 0, 0, 0, 0, 0, 0, (gi_w (gi_c 0 0 (by decide)) (by decide)), (gi_w (gi_c 0 0 (by decide)) (by decide)), (gi_w (gi_c 0 0 (by decide)) (by decide)), (gi_w (gi_c 0 0 (by decide)) (by decide)), (gi_w (gi_c 0 0 (by decide)) (by decide)), (gi_w (gi_c 0 0 (by decide)) (by decide)), (gi_w (gi_c 0 0 (by decide)) (by decide)), hF.trans hR9.symm, by rw [ht]; exact hP, hD⟩, hS.F ht⟩) hS.2.2 (dk_at dkX0_wipe 30 rfl)
noncomputable def lsX0_setMoon : List (Nat × Instr × Nat) := [(0, .aload_n 0, 1), (1, .iconst 1, 1), (2, .putfield 45, 3), (5, .aload_n 0, 1), (6, .iload_n 1, 1), (7, .putfield 49, 3), (10, .aload_n 0, 1), (11, .iload_n 2, 1), (12, .putfield 52, 3), (15, .return_, 1)]
theorem dkX0_setMoon : dkAll cX0_setMoon lsX0_setMoon = true := by decide +kernel
noncomputable def fX0_setMoon (p0 : Int32) (p1 : Int32) : Int32 × Int32 × Int32 := ((1 : Int32), p0, p1)
abbrev pb_sX0_setMoon (dC : Nat → ClassId) (dI : Nat → Nat → Nat) (A9 : Nat → Prop) (h0 : Nat) (months : Int32) (full : Int32) (lean : Int32) (lines : Int32) (hasMoon : Int32) (moonStart : Int32) (moonStep : Int32) (placeCount : Int32) (reportCount : Int32) (deedCount : Int32) (places : Nat) (reports : Nat) (deeds : Nat) (p0 : Int32) (p1 : Int32) (w0_4 : Int32) (w0_5 : Int32) (w0_6 : Int32) (t : State) : Prop := gi w0_4 0 1 ∧ (w0_4, w0_5, w0_6) = fX0_setMoon p0 p1 ∧ va_P (dC, dI) vwCl [(h0, .inr (0, [.int months, .int full, .int lean, .int lines, .int w0_4, .int w0_5, .int w0_6, .int placeCount, .int reportCount, .int deedCount, .ref places, .ref reports, .ref deeds]))] t.heap ∧ va_D A9 [(h0, .inr (0, [.int months, .int full, .int lean, .int lines, .int w0_4, .int w0_5, .int w0_6, .int placeCount, .int reportCount, .int deedCount, .ref places, .ref reports, .ref deeds]))]
set_option maxHeartbeats 4000000 in
set_option maxRecDepth 100000 in
theorem sX0_setMoon (l : Launch) (dC : Nat → ClassId) (dI : Nat → Nat → Nat) (sz : Nat) (h0 : Nat) (months : Int32) (full : Int32) (lean : Int32) (lines : Int32) (hasMoon : Int32) (moonStart : Int32) (moonStep : Int32) (placeCount : Int32) (reportCount : Int32) (deedCount : Int32) (places : Nat) (reports : Nat) (deeds : Nat) (p0 : Int32) (p1 : Int32) (gmonths : gi months 0 24) (gfull : gi full 0 5) (glean : gi lean 0 5) (ghasMoon : gi hasMoon 0 1) (gplaceCount : gi placeCount 0 6) (greportCount : gi reportCount 0 24) (gdeedCount : gi deedCount 0 8) : Met l yX0_setMoon (.code yX0_setMoon cX0_setMoon 3 none :: wsGA) ({ frames := 0, cells := 0, slots := 0, locals := 0 }) (va_Pc [.ref h0, .int p0, .int p1] (fun U => U.heap.size = sz ∧ va_P (dC, dI) vwCl [(h0, .inr (0, [.int months, .int full, .int lean, .int lines, .int hasMoon, .int moonStart, .int moonStep, .int placeCount, .int reportCount, .int deedCount, .ref places, .ref reports, .ref deeds]))] U.heap ∧ va_K (dC, dI) vwCl [] U ∧ va_D (fun _ => True) [(h0, .inr (0, [.int months, .int full, .int lean, .int lines, .int hasMoon, .int moonStart, .int moonStep, .int placeCount, .int reportCount, .int deedCount, .ref places, .ref reports, .ref deeds]))] ∧ nzA U)) (va_Qv (fun (u : Unit) => True) (fun _ t => ∃ (w0_4 : Int32) (w0_5 : Int32) (w0_6 : Int32), pb_sX0_setMoon dC dI (va_A [(h0, .inr (0, [.int months, .int full, .int lean, .int lines, .int hasMoon, .int moonStart, .int moonStep, .int placeCount, .int reportCount, .int deedCount, .ref places, .ref reports, .ref deeds]))] sz) h0 months full lean lines hasMoon moonStart moonStep placeCount reportCount deedCount places reports deeds p0 p1 w0_4 w0_5 w0_6 t) (va_A [(h0, .inr (0, [.int months, .int full, .int lean, .int lines, .int hasMoon, .int moonStart, .int moonStep, .int placeCount, .int reportCount, .int deedCount, .ref places, .ref reports, .ref deeds]))] sz)) 0 0 (va_A [(h0, .inr (0, [.int months, .int full, .int lean, .int lines, .int hasMoon, .int moonStart, .int moonStep, .int placeCount, .int reportCount, .int deedCount, .ref places, .ref reports, .ref deeds]))] sz) := by
  refine Met.ofW (cc := cX0_setMoon) (maxL := 3) (ret := none) (by decide) rfl ?_
  intro p e s m args below meth c s₁ B hml hv
  obtain ⟨rfl, hsz, hP, hK, hD0, hz⟩ := hv
  have hx := B.exec
  have hb := B.bytes
  have hr := B.returns
  have hts := atoms_spec (ws := (.code yX0_setMoon cX0_setMoon 3 none :: wsGA)) B.pre
  have hown : s.vm.findClass RX0 = some m.cls := findClass_of_methodNamed B.named
  have hlocks := B.notSynchronized
  subst hsz
  have hD := hD0.self (sz := s.heap.size)
  generalize hAe : va_A [(h0, .inr (0, [.int months, .int full, .int lean, .int lines, .int hasMoon, .int moonStart, .int moonStep, .int placeCount, .int reportCount, .int deedCount, .ref places, .ref reports, .ref deeds]))] s.heap.size = A at hD ⊢
  have hA : ∀ q : Nat, s.heap.size ≤ q → A q := fun q h => by rw [← hAe]; exact Or.inr h
  have hS : va_S A s.heap s.heap [] := va_S.rf
  have hl := lv_entry ([.ref h0, .int p0, .int p1]) (n := 3) (Nat.le_of_ble_eq_true rfl)
  rw [lg_entry_eq]
  generalize (lg_sl ([.ref h0, .int p0, .int p1]) ++ List.replicate (3 - (lg_sl ([.ref h0, .int p0, .int p1])).length) Slot.unset).toArray = ls at hl ⊢
  have hl : lv_has ls 3 [(0, .ref h0), (1, .int p0), (2, .int p1)] := hl
  obtain ⟨RES, hF⟩ : ∃ R9, fX0_setMoon p0 p1 = R9 := ⟨_, rfl⟩
  have hR9 := hF
  refine lv_aload_n hx hb (dk_at dkX0_setMoon 0 rfl) rfl (lv_at hl 0 rfl) ?_
  refine lv_iconst (v := 1) hx hb (dk_at dkX0_setMoon 1 rfl) (by decide) ?_
  refine va_put (D := (dC, dI)) (ci := 0) (v := .int 1) (ty := .boolean) (C := RX0) (T := TX0) (N := 13) hx hb hts (fun w h => List.mem_cons_of_mem _ (jnGA_X0 w h)) tyX0 tyX0_ok nmX0 hown hK hP hD hS 0 rfl rfl 4 (by decide) (hts _ (List.mem_cons_of_mem _ mGA_156)) (fun _ h9 => h9) rfl (by decide +kernel) rfl rfl (Nat.le_of_ble_eq_true rfl) (dk_at dkX0_setMoon 2 rfl) (fun H locs hP hD hS => ?_)
  obtain ⟨hP, hD⟩ := gz_both (w := [(h0, .inr (0, [.int months, .int full, .int lean, .int lines, .int 1, .int moonStart, .int moonStep, .int placeCount, .int reportCount, .int deedCount, .ref places, .ref reports, .ref deeds]))]) hP hD
  refine lv_aload_n hx hb (dk_at dkX0_setMoon 3 rfl) rfl (lv_at hl 0 rfl) ?_
  refine lv_iload_n hx hb (dk_at dkX0_setMoon 4 rfl) rfl (lv_at hl 1 rfl) ?_
  refine va_put (D := (dC, dI)) (ci := 0) (v := .int p0) (ty := .int) (C := RX0) (T := TX0) (N := 13) hx hb hts (fun w h => List.mem_cons_of_mem _ (jnGA_X0 w h)) tyX0 tyX0_ok nmX0 hown hK hP hD hS 0 rfl rfl 5 (by decide) (hts _ (List.mem_cons_of_mem _ mGA_157)) (fun _ h9 => h9) rfl (by decide +kernel) rfl rfl (Nat.le_of_ble_eq_true rfl) (dk_at dkX0_setMoon 5 rfl) (fun H locs hP hD hS => ?_)
  obtain ⟨hP, hD⟩ := gz_both (w := [(h0, .inr (0, [.int months, .int full, .int lean, .int lines, .int 1, .int p0, .int moonStep, .int placeCount, .int reportCount, .int deedCount, .ref places, .ref reports, .ref deeds]))]) hP hD
  refine lv_aload_n hx hb (dk_at dkX0_setMoon 6 rfl) rfl (lv_at hl 0 rfl) ?_
  refine lv_iload_n hx hb (dk_at dkX0_setMoon 7 rfl) rfl (lv_at hl 2 rfl) ?_
  refine va_put (D := (dC, dI)) (ci := 0) (v := .int p1) (ty := .int) (C := RX0) (T := TX0) (N := 13) hx hb hts (fun w h => List.mem_cons_of_mem _ (jnGA_X0 w h)) tyX0 tyX0_ok nmX0 hown hK hP hD hS 0 rfl rfl 6 (by decide) (hts _ (List.mem_cons_of_mem _ mGA_158)) (fun _ h9 => h9) rfl (by decide +kernel) rfl rfl (Nat.le_of_ble_eq_true rfl) (dk_at dkX0_setMoon 8 rfl) (fun H locs hP hD hS => ?_)
  obtain ⟨hP, hD⟩ := gz_both (w := [(h0, .inr (0, [.int months, .int full, .int lean, .int lines, .int 1, .int p0, .int p1, .int placeCount, .int reportCount, .int deedCount, .ref places, .ref reports, .ref deeds]))]) hP hD
  exact W.vret hx hb hr (fun t ht hW => ⟨⟨(), rfl, trivial, 1, p0, p1, (gi_w (gi_c 1 1 (by decide)) (by decide)), hF.trans hR9.symm, by rw [ht]; exact hP, hD⟩, hS.F ht⟩) hS.2.2 (dk_at dkX0_setMoon 9 rfl)
noncomputable def lsX0_earlyOf : List (Nat × Instr × Nat) := [(0, .aload_n 0, 1), (1, .getfield 49, 3), (4, .iload_n 1, 1), (5, .aload_n 0, 1), (6, .getfield 52, 3), (9, .imul, 1), (10, .iadd, 1), (11, .sipush 1000, 3), (14, .idiv, 1), (15, .ireturn, 1)]
theorem dkX0_earlyOf : dkAll cX0_earlyOf lsX0_earlyOf = true := by decide +kernel
noncomputable def fX0_earlyOf (moonStart : Int32) (moonStep : Int32) (p0 : Int32) : Int32 := ((moonStart + (p0 * moonStep)) / (1000 : Int32))
set_option maxHeartbeats 4000000 in
set_option maxRecDepth 100000 in
theorem sX0_earlyOf (l : Launch) (dC : Nat → ClassId) (dI : Nat → Nat → Nat) (h0 : Nat) (months : Int32) (full : Int32) (lean : Int32) (lines : Int32) (hasMoon : Int32) (moonStart : Int32) (moonStep : Int32) (placeCount : Int32) (reportCount : Int32) (deedCount : Int32) (places : Nat) (reports : Nat) (deeds : Nat) (p0 : Int32) (gmonths : gi months 0 24) (gfull : gi full 0 5) (glean : gi lean 0 5) (ghasMoon : gi hasMoon 0 1) (gplaceCount : gi placeCount 0 6) (greportCount : gi reportCount 0 24) (gdeedCount : gi deedCount 0 8) : Met l yX0_earlyOf (.code yX0_earlyOf cX0_earlyOf 2 (some .int) :: wsGA) ({ frames := 0, cells := 0, slots := 0, locals := 0 }) (va_Pc [.ref h0, .int p0] (fun U => va_P (dC, dI) vwCl [(h0, .inr (0, [.int months, .int full, .int lean, .int lines, .int hasMoon, .int moonStart, .int moonStep, .int placeCount, .int reportCount, .int deedCount, .ref places, .ref reports, .ref deeds]))] U.heap ∧ va_K (dC, dI) vwCl [] U ∧ nzA U)) (va_Qi (fun (r : Int32) (u : Unit) => (gi r (-2147483648) 2147483647) ∧ r = fX0_earlyOf moonStart moonStep p0) (fun _ _ => True) (fun _ => False)) 0 0 (fun _ => False) := by
  refine Met.ofW (cc := cX0_earlyOf) (maxL := 2) (ret := (some .int)) (by decide) rfl ?_
  intro p e s m args below meth c s₁ B hml hv
  obtain ⟨rfl, hP, hK, hz⟩ := hv
  have hx := B.exec
  have hb := B.bytes
  have hr := B.returns
  have hts := atoms_spec (ws := (.code yX0_earlyOf cX0_earlyOf 2 (some .int) :: wsGA)) B.pre
  have hown : s.vm.findClass RX0 = some m.cls := findClass_of_methodNamed B.named
  have hlocks := B.notSynchronized
  have hS : va_S (fun _ => False) s.heap s.heap [] := va_S.rf
  have hl := lv_entry ([.ref h0, .int p0]) (n := 2) (Nat.le_of_ble_eq_true rfl)
  rw [lg_entry_eq]
  generalize (lg_sl ([.ref h0, .int p0]) ++ List.replicate (2 - (lg_sl ([.ref h0, .int p0])).length) Slot.unset).toArray = ls at hl ⊢
  have hl : lv_has ls 2 [(0, .ref h0), (1, .int p0)] := hl
  obtain ⟨RES, hF⟩ : ∃ R9, fX0_earlyOf moonStart moonStep p0 = R9 := ⟨_, rfl⟩
  have hR9 := hF
  refine lv_aload_n hx hb (dk_at dkX0_earlyOf 0 rfl) rfl (lv_at hl 0 rfl) ?_
  refine va_get (D := (dC, dI)) (ci := 0) (v := .int moonStart) (C := RX0) (T := TX0) (N := 13) hx hb hts (fun w h => List.mem_cons_of_mem _ (jnGA_X0 w h)) hown hK hP 0 rfl rfl 5 (by decide) (hts _ (List.mem_cons_of_mem _ mGA_157)) (fun _ h9 => h9) rfl (dk_at dkX0_earlyOf 1 rfl) ?_
  refine lv_iload_n hx hb (dk_at dkX0_earlyOf 2 rfl) rfl (lv_at hl 1 rfl) ?_
  refine lv_aload_n hx hb (dk_at dkX0_earlyOf 3 rfl) rfl (lv_at hl 0 rfl) ?_
  refine va_get (D := (dC, dI)) (ci := 0) (v := .int moonStep) (C := RX0) (T := TX0) (N := 13) hx hb hts (fun w h => List.mem_cons_of_mem _ (jnGA_X0 w h)) hown hK hP 0 rfl rfl 6 (by decide) (hts _ (List.mem_cons_of_mem _ mGA_158)) (fun _ h9 => h9) rfl (dk_at dkX0_earlyOf 4 rfl) ?_
  refine lv_imul hx hb (dk_at dkX0_earlyOf 5 rfl) ?_
  refine lv_topi (fun x_4 ex_4 => ?_)
  refine lv_iadd hx hb (dk_at dkX0_earlyOf 6 rfl) ?_
  refine lv_topi (fun x_5 ex_5 => ?_)
  refine lv_sipush (v := 1000) hx hb (dk_at dkX0_earlyOf 7 rfl) (by decide) ?_
  refine lv_idiv hx hb (dk_at dkX0_earlyOf 8 rfl) (by decide) ?_
  refine lv_topi (fun x_6 ex_6 => ?_)
  exact W.iret (v := x_6) hx hb hr (fun t ht hW => ⟨⟨x_6, (), rfl, ⟨(gi_any x_6), by rw [ex_6, ex_5, ex_4]; exact hF.trans hR9.symm⟩, trivial⟩, hS.F ht⟩) hS.2.2 (dk_at dkX0_earlyOf 9 rfl)
noncomputable def lsX10_put : List (Nat × Instr × Nat) := [(0, .aload_n 0, 1), (1, .getfield 15, 3), (4, .sipush 1596, 3), (7, .if_icmp .le 4, 3), (10, .return_, 1), (11, .aload_n 0, 1), (12, .getfield 9, 3), (15, .aload_n 0, 1), (16, .getfield 15, 3), (19, .iload_n 1, 1), (20, .bipush 24, 2), (22, .iushr, 1), (23, .i2b, 1), (24, .bastore, 1), (25, .aload_n 0, 1), (26, .getfield 9, 3), (29, .aload_n 0, 1), (30, .getfield 15, 3), (33, .iconst 1, 1), (34, .iadd, 1), (35, .iload_n 1, 1), (36, .bipush 16, 2), (38, .iushr, 1), (39, .i2b, 1), (40, .bastore, 1), (41, .aload_n 0, 1), (42, .getfield 9, 3), (45, .aload_n 0, 1), (46, .getfield 15, 3), (49, .iconst 2, 1), (50, .iadd, 1), (51, .iload_n 1, 1), (52, .bipush 8, 2), (54, .iushr, 1), (55, .i2b, 1), (56, .bastore, 1), (57, .aload_n 0, 1), (58, .getfield 9, 3), (61, .aload_n 0, 1), (62, .getfield 15, 3), (65, .iconst 3, 1), (66, .iadd, 1), (67, .iload_n 1, 1), (68, .i2b, 1), (69, .bastore, 1), (70, .aload_n 0, 1), (71, .dup, 1), (72, .getfield 15, 3), (75, .iconst 4, 1), (76, .iadd, 1), (77, .putfield 15, 3), (80, .return_, 1)]
theorem dkX10_put : dkAll cX10_put lsX10_put = true := by decide +kernel
noncomputable def fX10_put (length : Int32) (fbt : Nat → Int32) (p0 : Int32) : Int32 × (Nat → Int32) := if length ≤ (1596 : Int32) then ((length + (4 : Int32)), (upd (upd (upd (upd fbt length.toNatClampNeg (vp_nar .byte (((p0.toUInt32 >>> ((24 : Int32).toUInt32 &&& Int32.toUInt32 31)).toInt32).toInt8.toInt32))) (length + (1 : Int32)).toNatClampNeg (vp_nar .byte (((p0.toUInt32 >>> ((16 : Int32).toUInt32 &&& Int32.toUInt32 31)).toInt32).toInt8.toInt32))) (length + (2 : Int32)).toNatClampNeg (vp_nar .byte (((p0.toUInt32 >>> ((8 : Int32).toUInt32 &&& Int32.toUInt32 31)).toInt32).toInt8.toInt32))) (length + (3 : Int32)).toNatClampNeg (vp_nar .byte (p0.toInt8.toInt32)))) else (length, fbt)
abbrev pb_sX10_put (dC : Nat → ClassId) (dI : Nat → Nat → Nat) (A9 : Nat → Prop) (h0 : Nat) (bt : Nat) (length : Int32) (kbt : ClassId) (fbt : Nat → Int32) (p0 : Int32) (w0_1 : Int32) (z1 : Nat → Int32) (t : State) : Prop := gi w0_1 0 1600 ∧ ((1596 < length.toInt ∧ w0_1.toInt = length.toInt) ∨ (length.toInt ≤ 1596 ∧ w0_1.toInt = length.toInt + 4)) ∧ (w0_1, z1) = fX10_put length fbt p0 ∧ va_P (dC, dI) vwCl [(h0, .inr (10, [.ref bt, .int w0_1])), (bt, .inl (kbt, 1600, .inl z1))] t.heap ∧ va_D A9 [(h0, .inr (10, [.ref bt, .int w0_1])), (bt, .inl (kbt, 1600, .inl z1))]
set_option maxHeartbeats 4000000 in
set_option maxRecDepth 100000 in
theorem sX10_put (l : Launch) (dC : Nat → ClassId) (dI : Nat → Nat → Nat) (sz : Nat) (h0 : Nat) (bt : Nat) (length : Int32) (kbt : ClassId) (fbt : Nat → Int32) (p0 : Int32) (glength : gi length 0 1600) : Met l yX10_put (.code yX10_put cX10_put 2 none :: wsGA) ({ frames := 0, cells := 0, slots := 0, locals := 0 }) (va_Pc [.ref h0, .int p0] (fun U => U.heap.size = sz ∧ va_P (dC, dI) vwCl [(h0, .inr (10, [.ref bt, .int length])), (bt, .inl (kbt, 1600, .inl fbt))] U.heap ∧ va_K (dC, dI) vwCl [(kbt, .byte)] U ∧ va_D (fun _ => True) [(h0, .inr (10, [.ref bt, .int length])), (bt, .inl (kbt, 1600, .inl fbt))] ∧ nzA U)) (va_Qv (fun (u : Unit) => True) (fun _ t => ∃ (w0_1 : Int32) (z1 : Nat → Int32), pb_sX10_put dC dI (va_A [(h0, .inr (10, [.ref bt, .int length])), (bt, .inl (kbt, 1600, .inl fbt))] sz) h0 bt length kbt fbt p0 w0_1 z1 t) (va_A [(h0, .inr (10, [.ref bt, .int length])), (bt, .inl (kbt, 1600, .inl fbt))] sz)) 0 0 (va_A [(h0, .inr (10, [.ref bt, .int length])), (bt, .inl (kbt, 1600, .inl fbt))] sz) := by
  refine Met.ofW (cc := cX10_put) (maxL := 2) (ret := none) (by decide) rfl ?_
  intro p e s m args below meth c s₁ B hml hv
  obtain ⟨rfl, hsz, hP, hK, hD0, hz⟩ := hv
  have hx := B.exec
  have hb := B.bytes
  have hr := B.returns
  have hts := atoms_spec (ws := (.code yX10_put cX10_put 2 none :: wsGA)) B.pre
  have hown : s.vm.findClass RX10 = some m.cls := findClass_of_methodNamed B.named
  have hlocks := B.notSynchronized
  subst hsz
  have hD := hD0.self (sz := s.heap.size)
  generalize hAe : va_A [(h0, .inr (10, [.ref bt, .int length])), (bt, .inl (kbt, 1600, .inl fbt))] s.heap.size = A at hD ⊢
  have hA : ∀ q : Nat, s.heap.size ≤ q → A q := fun q h => by rw [← hAe]; exact Or.inr h
  have hS : va_S A s.heap s.heap [] := va_S.rf
  have hl := lv_entry ([.ref h0, .int p0]) (n := 2) (Nat.le_of_ble_eq_true rfl)
  rw [lg_entry_eq]
  generalize (lg_sl ([.ref h0, .int p0]) ++ List.replicate (2 - (lg_sl ([.ref h0, .int p0])).length) Slot.unset).toArray = ls at hl ⊢
  have hl : lv_has ls 2 [(0, .ref h0), (1, .int p0)] := hl
  obtain ⟨RES, hF⟩ : ∃ R9, fX10_put length fbt p0 = R9 := ⟨_, rfl⟩
  have hR9 := hF
  refine lv_aload_n hx hb (dk_at dkX10_put 0 rfl) rfl (lv_at hl 0 rfl) ?_
  refine va_get (D := (dC, dI)) (ci := 10) (v := .int length) (C := RX10) (T := TX10) (N := 2) hx hb hts (fun w h => List.mem_cons_of_mem _ (jnGA_X10 w h)) hown hK hP 0 rfl rfl 1 (by decide) (hts _ (List.mem_cons_of_mem _ mGA_64)) (fun _ h9 => h9) rfl (dk_at dkX10_put 1 rfl) ?_
  refine lv_sipush (v := 1596) hx hb (dk_at dkX10_put 2 rfl) (by decide) ?_
  refine lv_icmp_le (tgt := 11) hx hb (dk_at dkX10_put 3 rfl) (by decide) (fun c_37 => ?_) (fun c_37 => ?_)
  · have hF := gf_pos c_37 hF
    have g_38 : gi length 0 1596 := gi_le_l c_37 glength (gi_c 1596 1596 (by decide))
    refine lv_aload_n hx hb (dk_at dkX10_put 5 rfl) rfl (lv_at hl 0 rfl) ?_
    refine va_get (D := (dC, dI)) (ci := 10) (v := .ref bt) (C := RX10) (T := TX10) (N := 2) hx hb hts (fun w h => List.mem_cons_of_mem _ (jnGA_X10 w h)) hown hK hP 0 rfl rfl 0 (by decide) (hts _ (List.mem_cons_of_mem _ mGA_63)) (fun _ h9 => h9) rfl (dk_at dkX10_put 6 rfl) ?_
    refine lv_aload_n hx hb (dk_at dkX10_put 7 rfl) rfl (lv_at hl 0 rfl) ?_
    refine va_get (D := (dC, dI)) (ci := 10) (v := .int length) (C := RX10) (T := TX10) (N := 2) hx hb hts (fun w h => List.mem_cons_of_mem _ (jnGA_X10 w h)) hown hK hP 0 rfl rfl 1 (by decide) (hts _ (List.mem_cons_of_mem _ mGA_64)) (fun _ h9 => h9) rfl (dk_at dkX10_put 8 rfl) ?_
    refine lv_iload_n hx hb (dk_at dkX10_put 9 rfl) rfl (lv_at hl 1 rfl) ?_
    refine lv_bipush (v := 24) hx hb (dk_at dkX10_put 10 rfl) (by decide) ?_
    refine lv_iushr hx hb (dk_at dkX10_put 11 rfl) rfl ?_
    refine lv_topi (fun x_39 ex_39 => ?_)
    refine lv_i2b hx hb (dk_at dkX10_put 12 rfl) rfl ?_
    refine lv_topi (fun x_40 ex_40 => ?_)
    refine va_bast hx hb hK hP hD hS 1 0 rfl rfl (gi_in g_38 (by decide)) (dk_at dkX10_put 13 rfl) (fun H locs hP hD hS => ?_)
    obtain ⟨hP, hD⟩ := gz_both (w := [(h0, .inr (10, [.ref bt, .int length])), (bt, .inl (kbt, 1600, .inl (upd fbt (length : Int32).toNatClampNeg (vp_nar .byte x_40))))]) hP hD
    generalize ef_41 : upd fbt (length : Int32).toNatClampNeg (vp_nar .byte x_40) = f_41 at hP hD
    refine lv_aload_n hx hb (dk_at dkX10_put 14 rfl) rfl (lv_at hl 0 rfl) ?_
    refine va_get (D := (dC, dI)) (ci := 10) (v := .ref bt) (C := RX10) (T := TX10) (N := 2) hx hb hts (fun w h => List.mem_cons_of_mem _ (jnGA_X10 w h)) hown hK hP 0 rfl rfl 0 (by decide) (hts _ (List.mem_cons_of_mem _ mGA_63)) (fun _ h9 => h9) rfl (dk_at dkX10_put 15 rfl) ?_
    refine lv_aload_n hx hb (dk_at dkX10_put 16 rfl) rfl (lv_at hl 0 rfl) ?_
    refine va_get (D := (dC, dI)) (ci := 10) (v := .int length) (C := RX10) (T := TX10) (N := 2) hx hb hts (fun w h => List.mem_cons_of_mem _ (jnGA_X10 w h)) hown hK hP 0 rfl rfl 1 (by decide) (hts _ (List.mem_cons_of_mem _ mGA_64)) (fun _ h9 => h9) rfl (dk_at dkX10_put 17 rfl) ?_
    refine lv_iconst (v := 1) hx hb (dk_at dkX10_put 18 rfl) (by decide) ?_
    refine lv_iadd hx hb (dk_at dkX10_put 19 rfl) ?_
    refine lv_topi (fun x_42 ex_42 => ?_)
    have gx_42 : gi x_42 1 1597 := gi_add ex_42 g_38 (gi_c 1 1 (by decide)) (by decide)
    refine lv_iload_n hx hb (dk_at dkX10_put 20 rfl) rfl (lv_at hl 1 rfl) ?_
    refine lv_bipush (v := 16) hx hb (dk_at dkX10_put 21 rfl) (by decide) ?_
    refine lv_iushr hx hb (dk_at dkX10_put 22 rfl) rfl ?_
    refine lv_topi (fun x_43 ex_43 => ?_)
    refine lv_i2b hx hb (dk_at dkX10_put 23 rfl) rfl ?_
    refine lv_topi (fun x_44 ex_44 => ?_)
    refine va_bast hx hb hK hP hD hS 1 0 rfl rfl (gi_in gx_42 (by decide)) (dk_at dkX10_put 24 rfl) (fun H locs hP hD hS => ?_)
    obtain ⟨hP, hD⟩ := gz_both (w := [(h0, .inr (10, [.ref bt, .int length])), (bt, .inl (kbt, 1600, .inl (upd f_41 (x_42 : Int32).toNatClampNeg (vp_nar .byte x_44))))]) hP hD
    generalize ef_45 : upd f_41 (x_42 : Int32).toNatClampNeg (vp_nar .byte x_44) = f_45 at hP hD
    refine lv_aload_n hx hb (dk_at dkX10_put 25 rfl) rfl (lv_at hl 0 rfl) ?_
    refine va_get (D := (dC, dI)) (ci := 10) (v := .ref bt) (C := RX10) (T := TX10) (N := 2) hx hb hts (fun w h => List.mem_cons_of_mem _ (jnGA_X10 w h)) hown hK hP 0 rfl rfl 0 (by decide) (hts _ (List.mem_cons_of_mem _ mGA_63)) (fun _ h9 => h9) rfl (dk_at dkX10_put 26 rfl) ?_
    refine lv_aload_n hx hb (dk_at dkX10_put 27 rfl) rfl (lv_at hl 0 rfl) ?_
    refine va_get (D := (dC, dI)) (ci := 10) (v := .int length) (C := RX10) (T := TX10) (N := 2) hx hb hts (fun w h => List.mem_cons_of_mem _ (jnGA_X10 w h)) hown hK hP 0 rfl rfl 1 (by decide) (hts _ (List.mem_cons_of_mem _ mGA_64)) (fun _ h9 => h9) rfl (dk_at dkX10_put 28 rfl) ?_
    refine lv_iconst (v := 2) hx hb (dk_at dkX10_put 29 rfl) (by decide) ?_
    refine lv_iadd hx hb (dk_at dkX10_put 30 rfl) ?_
    refine lv_topi (fun x_46 ex_46 => ?_)
    have gx_46 : gi x_46 2 1598 := gi_add ex_46 g_38 (gi_c 2 2 (by decide)) (by decide)
    refine lv_iload_n hx hb (dk_at dkX10_put 31 rfl) rfl (lv_at hl 1 rfl) ?_
    refine lv_bipush (v := 8) hx hb (dk_at dkX10_put 32 rfl) (by decide) ?_
    refine lv_iushr hx hb (dk_at dkX10_put 33 rfl) rfl ?_
    refine lv_topi (fun x_47 ex_47 => ?_)
    refine lv_i2b hx hb (dk_at dkX10_put 34 rfl) rfl ?_
    refine lv_topi (fun x_48 ex_48 => ?_)
    refine va_bast hx hb hK hP hD hS 1 0 rfl rfl (gi_in gx_46 (by decide)) (dk_at dkX10_put 35 rfl) (fun H locs hP hD hS => ?_)
    obtain ⟨hP, hD⟩ := gz_both (w := [(h0, .inr (10, [.ref bt, .int length])), (bt, .inl (kbt, 1600, .inl (upd f_45 (x_46 : Int32).toNatClampNeg (vp_nar .byte x_48))))]) hP hD
    generalize ef_49 : upd f_45 (x_46 : Int32).toNatClampNeg (vp_nar .byte x_48) = f_49 at hP hD
    refine lv_aload_n hx hb (dk_at dkX10_put 36 rfl) rfl (lv_at hl 0 rfl) ?_
    refine va_get (D := (dC, dI)) (ci := 10) (v := .ref bt) (C := RX10) (T := TX10) (N := 2) hx hb hts (fun w h => List.mem_cons_of_mem _ (jnGA_X10 w h)) hown hK hP 0 rfl rfl 0 (by decide) (hts _ (List.mem_cons_of_mem _ mGA_63)) (fun _ h9 => h9) rfl (dk_at dkX10_put 37 rfl) ?_
    refine lv_aload_n hx hb (dk_at dkX10_put 38 rfl) rfl (lv_at hl 0 rfl) ?_
    refine va_get (D := (dC, dI)) (ci := 10) (v := .int length) (C := RX10) (T := TX10) (N := 2) hx hb hts (fun w h => List.mem_cons_of_mem _ (jnGA_X10 w h)) hown hK hP 0 rfl rfl 1 (by decide) (hts _ (List.mem_cons_of_mem _ mGA_64)) (fun _ h9 => h9) rfl (dk_at dkX10_put 39 rfl) ?_
    refine lv_iconst (v := 3) hx hb (dk_at dkX10_put 40 rfl) (by decide) ?_
    refine lv_iadd hx hb (dk_at dkX10_put 41 rfl) ?_
    refine lv_topi (fun x_50 ex_50 => ?_)
    have gx_50 : gi x_50 3 1599 := gi_add ex_50 g_38 (gi_c 3 3 (by decide)) (by decide)
    refine lv_iload_n hx hb (dk_at dkX10_put 42 rfl) rfl (lv_at hl 1 rfl) ?_
    refine lv_i2b hx hb (dk_at dkX10_put 43 rfl) rfl ?_
    refine lv_topi (fun x_51 ex_51 => ?_)
    refine va_bast hx hb hK hP hD hS 1 0 rfl rfl (gi_in gx_50 (by decide)) (dk_at dkX10_put 44 rfl) (fun H locs hP hD hS => ?_)
    obtain ⟨hP, hD⟩ := gz_both (w := [(h0, .inr (10, [.ref bt, .int length])), (bt, .inl (kbt, 1600, .inl (upd f_49 (x_50 : Int32).toNatClampNeg (vp_nar .byte x_51))))]) hP hD
    generalize ef_52 : upd f_49 (x_50 : Int32).toNatClampNeg (vp_nar .byte x_51) = f_52 at hP hD
    refine lv_aload_n hx hb (dk_at dkX10_put 45 rfl) rfl (lv_at hl 0 rfl) ?_
    refine lv_dup hx hb (dk_at dkX10_put 46 rfl) rfl ?_
    refine va_get (D := (dC, dI)) (ci := 10) (v := .int length) (C := RX10) (T := TX10) (N := 2) hx hb hts (fun w h => List.mem_cons_of_mem _ (jnGA_X10 w h)) hown hK hP 0 rfl rfl 1 (by decide) (hts _ (List.mem_cons_of_mem _ mGA_64)) (fun _ h9 => h9) rfl (dk_at dkX10_put 47 rfl) ?_
    refine lv_iconst (v := 4) hx hb (dk_at dkX10_put 48 rfl) (by decide) ?_
    refine lv_iadd hx hb (dk_at dkX10_put 49 rfl) ?_
    refine lv_topi (fun x_53 ex_53 => ?_)
    have gx_53 : gi x_53 4 1600 := gi_add ex_53 g_38 (gi_c 4 4 (by decide)) (by decide)
    refine va_put (D := (dC, dI)) (ci := 10) (v := .int x_53) (ty := .int) (C := RX10) (T := TX10) (N := 2) hx hb hts (fun w h => List.mem_cons_of_mem _ (jnGA_X10 w h)) tyX10 tyX10_ok nmX10 hown hK hP hD hS 0 rfl rfl 1 (by decide) (hts _ (List.mem_cons_of_mem _ mGA_64)) (fun _ h9 => h9) rfl (by decide +kernel) rfl rfl (Nat.le_of_ble_eq_true rfl) (dk_at dkX10_put 50 rfl) (fun H locs hP hD hS => ?_)
    obtain ⟨hP, hD⟩ := gz_both (w := [(h0, .inr (10, [.ref bt, .int x_53])), (bt, .inl (kbt, 1600, .inl f_52))]) hP hD
    exact W.vret hx hb hr (fun t ht hW => ⟨⟨(), rfl, trivial, x_53, f_52, (gi_w gx_53 (by decide)), by have qgx_53 := gx_53.1; have rgx_53 := gx_53.2; have igx_53 : x_53.toInt = length.toInt + 4 := (by have hc4 : (4 : Int32).toInt = 4 := (by decide); have h9 := gi_addI ex_53 (by have h1 := g_38.1; have h2 := (gi_c 4 4 (by decide)).1; have h3 := g_38.2; have h4 := (gi_c 4 4 (by decide)).2; omega) (by have h1 := g_38.1; have h2 := (gi_c 4 4 (by decide)).1; have h3 := g_38.2; have h4 := (gi_c 4 4 (by decide)).2; omega); rw [hc4] at h9; exact h9); have qglength := g_38.1; have rglength := g_38.2; omega, by rw [ex_53, ← ef_52, ex_51, ex_50, ← ef_49, ex_48, ex_47, ex_46, ← ef_45, ex_44, ex_43, ex_42, ← ef_41, ex_40, ex_39]; exact hF.trans hR9.symm, by rw [ht]; exact hP, hD⟩, hS.F ht⟩) hS.2.2 (dk_at dkX10_put 51 rfl)
  · have hF := gf_neg c_37 hF
    have g_54 : gi length 1597 1600 := gi_lt_r (Int32.not_le.mp c_37) (gi_c 1596 1596 (by decide)) glength (by decide)
    exact W.vret hx hb hr (fun t ht hW => ⟨⟨(), rfl, trivial, length, fbt, (gi_w g_54 (by decide)), by have qglength := g_54.1; have rglength := g_54.2; omega, hF.trans hR9.symm, by rw [ht]; exact hP, hD⟩, hS.F ht⟩) hS.2.2 (dk_at dkX10_put 4 rfl)
noncomputable def lsX0_placeNamed : List (Nat × Instr × Nat) := [(0, .iconst 0, 1), (1, .istore_n 2, 1), (2, .iload_n 2, 1), (3, .aload_n 0, 1), (4, .getfield 55, 3), (7, .if_icmp .ge 24, 3), (10, .aload_n 0, 1), (11, .getfield 11, 3), (14, .iload_n 2, 1), (15, .aaload, 1), (16, .getfield 67, 3), (19, .iload_n 1, 1), (20, .if_icmp .ne 5, 3), (23, .iload_n 2, 1), (24, .ireturn, 1), (25, .iinc 2 1, 3), (28, .goto (-26), 3), (31, .iconst (-1), 1), (32, .ireturn, 1)]
theorem dkX0_placeNamed : dkAll cX0_placeNamed lsX0_placeNamed = true := by decide +kernel
noncomputable def dfX0_placeNamed_2 (aplaceCount : Int32) (p_name : Nat → Int32) (p1 : Int32) (K : (Int32 → Int32)) (v2 : Int32) : Int32 := if aplaceCount ≤ v2 then (-1 : Int32) else (if (p_name v2.toNatClampNeg) = p1 then v2 else (K (v2 + (1 : Int32))))
noncomputable def lfX0_placeNamed (aplaceCount : Int32) (p_name : Nat → Int32) (p1 : Int32) (z : Nat) : (Int32 → Int32) := Nat.rec (motive := fun _ => (Int32 → Int32)) (fun _ => (0)) (fun _ K => dfX0_placeNamed_2 aplaceCount p_name p1 K) z
noncomputable def fX0_placeNamed (aplaceCount : Int32) (p_name : Nat → Int32) (p1 : Int32) : Int32 := (lfX0_placeNamed aplaceCount p_name p1 1000000000) (0 : Int32)
set_option maxHeartbeats 4000000 in
set_option maxRecDepth 100000 in
theorem lp_sX0_placeNamed {p : Program} {l : Launch} {e : Env} {R : Room} {s : State} {m : MethodId} {args : Array Value} {below : List Frame} {meth : Method} {c : Code} {Q : State → Prop} {A : Nat → Prop} {cells slots : Nat} {dC : Nat → ClassId} {dI : Nat → Nat → Nat} {RES : Int32} (h0 : Nat) (pl : Nat) (amonths : Int32) (afull : Int32) (alean : Int32) (alines : Int32) (ahasMoon : Int32) (amoonStart : Int32) (amoonStep : Int32) (aplaceCount : Int32) (areportCount : Int32) (adeedCount : Int32) (re : Nat) (de : Nat) (kpl : ClassId) (pa : Nat → Nat) (p_name : Nat → Int32) (p_trust : Nat → Int32) (p1 : Int32) (gamonths : gi amonths 0 24) (gafull : gi afull 0 5) (galean : gi alean 0 5) (gahasMoon : gi ahasMoon 0 1) (gaplaceCount : gi aplaceCount 0 6) (gareportCount : gi areportCount 0 24) (gadeedCount : gi adeedCount 0 8) (hx : p.tables.exec = Jvm.exec) (hb : c.code = cX0_placeNamed) (hml : c.maxLocals = 3) (hown : s.vm.findClass RX0 = some m.cls) (hts : ∀ w ∈ ((.code yX0_placeNamed cX0_placeNamed 3 (some .int) :: wsGA) : List Cond), w.before args s = true) (hK : va_K (dC, dI) vwCl [(kpl, .object RX5)] s) (hz : nzA s) (hF0 : va_P (dC, dI) vwCl (gz_fam 6 pa 5 (fun i => [.int (p_name i), .int (p_trust i)])) s.heap) (hFA0 : gz_ap A (gz_fam 6 pa 5 (fun i => [.int (p_name i), .int (p_trust i)]))) (hRf : 0 ≤ R.frames) (hRl : 0 ≤ R.locals) (hRc : cells ≤ R.cells) (hRs : slots ≤ R.slots) (kr32 : ∀ (v : Int32) (H : Heap) (locs : List Loc) (ls : Array Slot), gi v (-1) (-1) → v = RES → va_P (dC, dI) vwCl [(h0, .inr (0, [.int amonths, .int afull, .int alean, .int alines, .int ahasMoon, .int amoonStart, .int amoonStep, .int aplaceCount, .int areportCount, .int adeedCount, .ref pl, .ref re, .ref de])), (pl, .inl (kpl, 6, .inr (.inr (.inr (.inr (fun i => some (pa i)))))))] H → va_S A s.heap H locs → lv_has ls 3 [] → W p l e R s m args below meth c H locs cells slots Q (F0 m 32 ls [.int v])) (kr24 : ∀ (v : Int32) (H : Heap) (locs : List Loc) (ls : Array Slot), gi v 0 5 → v = RES → va_P (dC, dI) vwCl [(h0, .inr (0, [.int amonths, .int afull, .int alean, .int alines, .int ahasMoon, .int amoonStart, .int amoonStep, .int aplaceCount, .int areportCount, .int adeedCount, .ref pl, .ref re, .ref de])), (pl, .inl (kpl, 6, .inr (.inr (.inr (.inr (fun i => some (pa i)))))))] H → va_S A s.heap H locs → lv_has ls 3 [] → W p l e R s m args below meth c H locs cells slots Q (F0 m 24 ls [.int v])) : ∀ z : Nat, (∀ (v2 : Int32) (H : Heap) (locs : List Loc) (ls : Array Slot), gi v2 0 6 → (lfX0_placeNamed aplaceCount p_name p1 z) v2 = RES → 13 + (-2) * v2.toInt < (z : Int) → va_P (dC, dI) vwCl [(h0, .inr (0, [.int amonths, .int afull, .int alean, .int alines, .int ahasMoon, .int amoonStart, .int amoonStep, .int aplaceCount, .int areportCount, .int adeedCount, .ref pl, .ref re, .ref de])), (pl, .inl (kpl, 6, .inr (.inr (.inr (.inr (fun i => some (pa i)))))))] H → va_S A s.heap H locs → lv_has ls 3 [(0, .ref h0), (1, .int p1), (2, .int v2)] → W p l e R s m args below meth c H locs cells slots Q (F0 m 2 ls [])) := by
  intro z
  induction z with
  | zero =>
    intro v2 H locs ls gv2 hF hmu hP hS hl
    exact absurd hmu (by have hv21 := gv2.1; have hv22 := gv2.2; omega)
  | succ z ih =>
      intro v2 H locs ls gv2 hF hmu hP hS hl
      have hF : dfX0_placeNamed_2 aplaceCount p_name p1 (lfX0_placeNamed aplaceCount p_name p1 z) v2 = RES := hF
      refine lv_iload_n hx hb (dk_at dkX0_placeNamed 2 rfl) rfl (lv_at hl 2 rfl) ?_
      refine lv_aload_n hx hb (dk_at dkX0_placeNamed 3 rfl) rfl (lv_at hl 0 rfl) ?_
      refine va_get (D := (dC, dI)) (ci := 0) (v := .int aplaceCount) (C := RX0) (T := TX0) (N := 13) hx hb hts (fun w h => List.mem_cons_of_mem _ (jnGA_X0 w h)) hown hK hP 0 rfl rfl 7 (by decide) (hts _ (List.mem_cons_of_mem _ mGA_159)) (fun _ h9 => h9) rfl (dk_at dkX0_placeNamed 4 rfl) ?_
      refine lv_icmp_ge (tgt := 31) hx hb (dk_at dkX0_placeNamed 5 rfl) (by decide) (fun c_43 => ?_) (fun c_43 => ?_)
      · have hF := gf_pos c_43 hF
        refine lv_iconst (v := (-1)) hx hb (dk_at dkX0_placeNamed 17 rfl) (by decide) ?_
        exact kr32 (-1) _ _ _ (gi_c (-1) (-1) (by decide)) hF hP hS (lv_sub hl [] rfl)
      · have hF := gf_neg c_43 hF
        have g_44 : gi v2 0 5 := gi_lt_l (Int32.not_le.mp c_43) gv2 gaplaceCount (by decide)
        have g_45 : gi aplaceCount 1 6 := gi_lt_r (Int32.not_le.mp c_43) gv2 gaplaceCount (by decide)
        refine lv_aload_n hx hb (dk_at dkX0_placeNamed 6 rfl) rfl (lv_at hl 0 rfl) ?_
        refine va_get (D := (dC, dI)) (ci := 0) (v := .ref pl) (C := RX0) (T := TX0) (N := 13) hx hb hts (fun w h => List.mem_cons_of_mem _ (jnGA_X0 w h)) hown hK hP 0 rfl rfl 10 (by decide) (hts _ (List.mem_cons_of_mem _ mGA_70)) (fun _ h9 => h9) rfl (dk_at dkX0_placeNamed 7 rfl) ?_
        refine lv_iload_n hx hb (dk_at dkX0_placeNamed 8 rfl) rfl (lv_at hl 2 rfl) ?_
        refine va_aldq hx hb hK hP 1 0 rfl rfl (gi_in g_44 (by decide)) (dk_at dkX0_placeNamed 9 rfl) ?_
        refine W.eq (g2 := F0 m 16 ls [.ref (pa v2.toNatClampNeg)]) rfl ?_
        refine va_get (D := (dC, dI)) (ci := 5) (v := .int (p_name v2.toNatClampNeg)) (C := RX5) (T := TX5) (N := 2) hx hb hts (fun w h => List.mem_cons_of_mem _ (jnGA_X5 w h)) hown hK (gz_ro hF0 hFA0 hS) (v2.toNatClampNeg) (gz_fam_at (gz_clt (gi_in (n := 6) g_44 (by decide)))) rfl 0 (by decide) (hts _ (List.mem_cons_of_mem _ mGA_302)) (fun _ h9 => h9) rfl (dk_at dkX0_placeNamed 10 rfl) ?_
        refine lv_topi (fun x_46 ex_46 => ?_)
        refine lv_iload_n hx hb (dk_at dkX0_placeNamed 11 rfl) rfl (lv_at hl 1 rfl) ?_
        refine lv_icmp_ne (tgt := 25) hx hb (dk_at dkX0_placeNamed 12 rfl) (by decide) (fun c_47 => ?_) (fun c_47 => ?_)
        · have hF := gf_neg (by rw [ex_46] at c_47; exact c_47) hF
          obtain ⟨x_48, ex_48⟩ : ∃ y : Int32, y = v2 + 1 := ⟨_, rfl⟩
          have gx_48 : gi x_48 1 6 := gi_add ex_48 g_44 (gi_c 1 1 (by decide)) (by decide)
          refine lv_iinc (v := x_48) (lv' := [(2, .int x_48), (0, .ref h0), (1, .int p1)]) hx hb (dk_at dkX0_placeNamed 15 rfl) hl (k := 2) rfl (by rw [ex_48]; rfl) (by decide) rfl (fun ls hl => ?_)
          refine lv_goto (tgt := 2) hx hb (dk_at dkX0_placeNamed 16 rfl) (by decide) ?_
          exact ih x_48 _ _ _ (gi_w gx_48 (by decide)) (by rw [ex_48]; exact hF) (by have av2 := gv2.1; have bv2 := gv2.2; have qgx_48 := gx_48.1; have rgx_48 := gx_48.2; have igx_48 : x_48.toInt = v2.toInt + 1 := (by have hc1 : (1 : Int32).toInt = 1 := (by decide); have h9 := gi_addI ex_48 (by have h1 := g_44.1; have h2 := (gi_c 1 1 (by decide)).1; have h3 := g_44.2; have h4 := (gi_c 1 1 (by decide)).2; omega) (by have h1 := g_44.1; have h2 := (gi_c 1 1 (by decide)).1; have h3 := g_44.2; have h4 := (gi_c 1 1 (by decide)).2; omega); rw [hc1] at h9; exact h9); have qgv2 := g_44.1; have rgv2 := g_44.2; omega) hP hS (lv_sub hl [1, 2, 0] rfl)
        · have hF := gf_pos (by rw [ex_46] at c_47; exact c_47) hF
          refine lv_iload_n hx hb (dk_at dkX0_placeNamed 13 rfl) rfl (lv_at hl 2 rfl) ?_
          exact kr24 v2 _ _ _ g_44 hF hP hS (lv_sub hl [] rfl)
set_option maxHeartbeats 4000000 in
set_option maxRecDepth 100000 in
theorem sX0_placeNamed (l : Launch) (dC : Nat → ClassId) (dI : Nat → Nat → Nat) (h0 : Nat) (pl : Nat) (amonths : Int32) (afull : Int32) (alean : Int32) (alines : Int32) (ahasMoon : Int32) (amoonStart : Int32) (amoonStep : Int32) (aplaceCount : Int32) (areportCount : Int32) (adeedCount : Int32) (re : Nat) (de : Nat) (kpl : ClassId) (pa : Nat → Nat) (p_name : Nat → Int32) (p_trust : Nat → Int32) (p1 : Int32) (gamonths : gi amonths 0 24) (gafull : gi afull 0 5) (galean : gi alean 0 5) (gahasMoon : gi ahasMoon 0 1) (gaplaceCount : gi aplaceCount 0 6) (gareportCount : gi areportCount 0 24) (gadeedCount : gi adeedCount 0 8) : Met l yX0_placeNamed (.code yX0_placeNamed cX0_placeNamed 3 (some .int) :: wsGA) ({ frames := 0, cells := 0, slots := 0, locals := 0 }) (va_Pc [.ref h0, .int p1] (fun U => va_P (dC, dI) vwCl [(h0, .inr (0, [.int amonths, .int afull, .int alean, .int alines, .int ahasMoon, .int amoonStart, .int amoonStep, .int aplaceCount, .int areportCount, .int adeedCount, .ref pl, .ref re, .ref de])), (pl, .inl (kpl, 6, .inr (.inr (.inr (.inr (fun i => some (pa i)))))))] U.heap ∧ va_K (dC, dI) vwCl [(kpl, .object RX5)] U ∧ nzA U ∧ va_P (dC, dI) vwCl (gz_fam 6 pa 5 (fun i => [.int (p_name i), .int (p_trust i)])) U.heap)) (va_Qi (fun (r : Int32) (u : Unit) => (gi r (-1) 5) ∧ r = fX0_placeNamed aplaceCount p_name p1) (fun _ _ => True) (fun _ => False)) 0 0 (fun _ => False) := by
  refine Met.ofW (cc := cX0_placeNamed) (maxL := 3) (ret := (some .int)) (by decide) rfl ?_
  intro p e s m args below meth c s₁ B hml hv
  obtain ⟨rfl, hP, hK, hz, hF0⟩ := hv
  have hx := B.exec
  have hb := B.bytes
  have hr := B.returns
  have hts := atoms_spec (ws := (.code yX0_placeNamed cX0_placeNamed 3 (some .int) :: wsGA)) B.pre
  have hown : s.vm.findClass RX0 = some m.cls := findClass_of_methodNamed B.named
  have hlocks := B.notSynchronized
  have hS : va_S (fun _ => False) s.heap s.heap [] := va_S.rf
  have hFA0 : gz_ap (fun _ => False) (gz_fam 6 pa 5 (fun i => [.int (p_name i), .int (p_trust i)])) := gz_ap0
  have hl := lv_entry ([.ref h0, .int p1]) (n := 3) (Nat.le_of_ble_eq_true rfl)
  rw [lg_entry_eq]
  generalize (lg_sl ([.ref h0, .int p1]) ++ List.replicate (3 - (lg_sl ([.ref h0, .int p1])).length) Slot.unset).toArray = ls at hl ⊢
  have hl : lv_has ls 3 [(0, .ref h0), (1, .int p1)] := hl
  obtain ⟨RES, hF⟩ : ∃ R9, fX0_placeNamed aplaceCount p_name p1 = R9 := ⟨_, rfl⟩
  have hR9 := hF
  refine lv_iconst (v := 0) hx hb (dk_at dkX0_placeNamed 0 rfl) (by decide) ?_
  refine lv_istore_n (lv' := [(2, .int 0), (0, .ref h0), (1, .int p1)]) hx hb (dk_at dkX0_placeNamed 1 rfl) rfl hl (by decide) rfl (fun ls hl => ?_)
  refine (lp_sX0_placeNamed h0 pl amonths afull alean alines ahasMoon amoonStart amoonStep aplaceCount areportCount adeedCount re de kpl pa p_name p_trust p1 gamonths gafull galean gahasMoon gaplaceCount gareportCount gadeedCount hx hb hml hown hts hK hz hF0 hFA0 (Nat.le_of_ble_eq_true rfl) (Nat.le_of_ble_eq_true rfl) (Nat.zero_le _) (Nat.zero_le _) (fun v H locs ls gv hF hP hS hl => ?_) (fun v H locs ls gv hF hP hS hl => ?_) 1000000000) 0 _ _ _ (gi_w (gi_c 0 0 (by decide)) (by decide)) hF (by have k0 : (0 : Int32).toInt = 0 := (by decide); omega) hP hS (lv_sub hl [1, 2, 0] rfl)
  · skip
    exact W.iret (v := v) hx hb hr (fun t ht hW => ⟨⟨v, (), rfl, ⟨(gi_w gv (by decide)), hF.trans hR9.symm⟩, trivial⟩, hS.F ht⟩) hS.2.2 (dk_at dkX0_placeNamed 18 rfl)
  · skip
    exact W.iret (v := v) hx hb hr (fun t ht hW => ⟨⟨v, (), rfl, ⟨(gi_w gv (by decide)), hF.trans hR9.symm⟩, trivial⟩, hS.F ht⟩) hS.2.2 (dk_at dkX0_placeNamed 14 rfl)
noncomputable def lsX0_namesAhead : List (Nat × Instr × Nat) := [(0, .iconst 0, 1), (1, .istore_n 2, 1), (2, .iconst 0, 1), (3, .istore_n 3, 1), (4, .iload_n 3, 1), (5, .aload_n 0, 1), (6, .getfield 55, 3), (9, .if_icmp .ge 33, 3), (12, .aload_n 0, 1), (13, .getfield 11, 3), (16, .iload_n 3, 1), (17, .aaload, 1), (18, .getfield 67, 3), (21, .aload_n 0, 1), (22, .getfield 11, 3), (25, .iload_n 1, 1), (26, .aaload, 1), (27, .getfield 67, 3), (30, .if_icmp .ge 6, 3), (33, .iinc 2 1, 3), (36, .iinc 3 1, 3), (39, .goto (-35), 3), (42, .iload_n 2, 1), (43, .ireturn, 1)]
theorem dkX0_namesAhead : dkAll cX0_namesAhead lsX0_namesAhead = true := by decide +kernel
noncomputable def bfX0_namesAhead_36 (aplaceCount : Int32) (p_name : Nat → Int32) (p1 : Int32) (K : (Int32 → Int32 → Int32)) (v2 : Int32) (v3 : Int32) : Int32 := K v2 (v3 + (1 : Int32))
noncomputable def dfX0_namesAhead_4 (aplaceCount : Int32) (p_name : Nat → Int32) (p1 : Int32) (K : (Int32 → Int32 → Int32)) (v2 : Int32) (v3 : Int32) : Int32 := if aplaceCount ≤ v3 then v2 else (if (p_name p1.toNatClampNeg) ≤ (p_name v3.toNatClampNeg) then (bfX0_namesAhead_36 aplaceCount p_name p1 K v2 v3) else (bfX0_namesAhead_36 aplaceCount p_name p1 K (v2 + (1 : Int32)) v3))
noncomputable def lfX0_namesAhead (aplaceCount : Int32) (p_name : Nat → Int32) (p1 : Int32) (z : Nat) : (Int32 → Int32 → Int32) := Nat.rec (motive := fun _ => (Int32 → Int32 → Int32)) (fun _ _ => (0)) (fun _ K => dfX0_namesAhead_4 aplaceCount p_name p1 K) z
noncomputable def fX0_namesAhead (aplaceCount : Int32) (p_name : Nat → Int32) (p1 : Int32) : Int32 := (lfX0_namesAhead aplaceCount p_name p1 1000000000) (0 : Int32) (0 : Int32)
set_option maxHeartbeats 4000000 in
set_option maxRecDepth 100000 in
theorem lp_sX0_namesAhead {p : Program} {l : Launch} {e : Env} {R : Room} {s : State} {m : MethodId} {args : Array Value} {below : List Frame} {meth : Method} {c : Code} {Q : State → Prop} {A : Nat → Prop} {cells slots : Nat} {dC : Nat → ClassId} {dI : Nat → Nat → Nat} {RES : Int32} (h0 : Nat) (pl : Nat) (amonths : Int32) (afull : Int32) (alean : Int32) (alines : Int32) (ahasMoon : Int32) (amoonStart : Int32) (amoonStep : Int32) (aplaceCount : Int32) (areportCount : Int32) (adeedCount : Int32) (re : Nat) (de : Nat) (kpl : ClassId) (pa : Nat → Nat) (p_name : Nat → Int32) (p_trust : Nat → Int32) (p1 : Int32) (gamonths : gi amonths 0 24) (gafull : gi afull 0 5) (galean : gi alean 0 5) (gahasMoon : gi ahasMoon 0 1) (gaplaceCount : gi aplaceCount 0 6) (gareportCount : gi areportCount 0 24) (gadeedCount : gi adeedCount 0 8) (gp1 : gi p1 0 5) (hx : p.tables.exec = Jvm.exec) (hb : c.code = cX0_namesAhead) (hml : c.maxLocals = 4) (hown : s.vm.findClass RX0 = some m.cls) (hts : ∀ w ∈ ((.code yX0_namesAhead cX0_namesAhead 4 (some .int) :: wsGA) : List Cond), w.before args s = true) (hK : va_K (dC, dI) vwCl [(kpl, .object RX5)] s) (hz : nzA s) (hF0 : va_P (dC, dI) vwCl (gz_fam 6 pa 5 (fun i => [.int (p_name i), .int (p_trust i)])) s.heap) (hFA0 : gz_ap A (gz_fam 6 pa 5 (fun i => [.int (p_name i), .int (p_trust i)]))) (hRf : 0 ≤ R.frames) (hRl : 0 ≤ R.locals) (hRc : cells ≤ R.cells) (hRs : slots ≤ R.slots) (kr43 : ∀ (v : Int32) (H : Heap) (locs : List Loc) (ls : Array Slot), v = RES → va_P (dC, dI) vwCl [(h0, .inr (0, [.int amonths, .int afull, .int alean, .int alines, .int ahasMoon, .int amoonStart, .int amoonStep, .int aplaceCount, .int areportCount, .int adeedCount, .ref pl, .ref re, .ref de])), (pl, .inl (kpl, 6, .inr (.inr (.inr (.inr (fun i => some (pa i)))))))] H → va_S A s.heap H locs → lv_has ls 4 [] → W p l e R s m args below meth c H locs cells slots Q (F0 m 43 ls [.int v])) : ∀ z : Nat, (∀ (v2 : Int32) (v3 : Int32) (H : Heap) (locs : List Loc) (ls : Array Slot), gi v3 0 6 → (lfX0_namesAhead aplaceCount p_name p1 z) v2 v3 = RES → 13 + (-2) * v3.toInt < (z : Int) → va_P (dC, dI) vwCl [(h0, .inr (0, [.int amonths, .int afull, .int alean, .int alines, .int ahasMoon, .int amoonStart, .int amoonStep, .int aplaceCount, .int areportCount, .int adeedCount, .ref pl, .ref re, .ref de])), (pl, .inl (kpl, 6, .inr (.inr (.inr (.inr (fun i => some (pa i)))))))] H → va_S A s.heap H locs → lv_has ls 4 [(0, .ref h0), (1, .int p1), (2, .int v2), (3, .int v3)] → W p l e R s m args below meth c H locs cells slots Q (F0 m 4 ls [])) := by
  intro z
  induction z with
  | zero =>
    intro v2 v3 H locs ls gv3 hF hmu hP hS hl
    exact absurd hmu (by have hv31 := gv3.1; have hv32 := gv3.2; omega)
  | succ z ih =>
      intro v2 v3 H locs ls gv3 hF hmu hP hS hl
      have hF : dfX0_namesAhead_4 aplaceCount p_name p1 (lfX0_namesAhead aplaceCount p_name p1 z) v2 v3 = RES := hF
      refine lv_iload_n hx hb (dk_at dkX0_namesAhead 4 rfl) rfl (lv_at hl 3 rfl) ?_
      refine lv_aload_n hx hb (dk_at dkX0_namesAhead 5 rfl) rfl (lv_at hl 0 rfl) ?_
      refine va_get (D := (dC, dI)) (ci := 0) (v := .int aplaceCount) (C := RX0) (T := TX0) (N := 13) hx hb hts (fun w h => List.mem_cons_of_mem _ (jnGA_X0 w h)) hown hK hP 0 rfl rfl 7 (by decide) (hts _ (List.mem_cons_of_mem _ mGA_159)) (fun _ h9 => h9) rfl (dk_at dkX0_namesAhead 6 rfl) ?_
      refine lv_icmp_ge (tgt := 42) hx hb (dk_at dkX0_namesAhead 7 rfl) (by decide) (fun c_430 => ?_) (fun c_430 => ?_)
      · have hF := gf_pos c_430 hF
        refine lv_iload_n hx hb (dk_at dkX0_namesAhead 22 rfl) rfl (lv_at hl 2 rfl) ?_
        exact kr43 v2 _ _ _ hF hP hS (lv_sub hl [] rfl)
      · have hF := gf_neg c_430 hF
        have g_431 : gi v3 0 5 := gi_lt_l (Int32.not_le.mp c_430) gv3 gaplaceCount (by decide)
        have g_432 : gi aplaceCount 1 6 := gi_lt_r (Int32.not_le.mp c_430) gv3 gaplaceCount (by decide)
        refine lv_aload_n hx hb (dk_at dkX0_namesAhead 8 rfl) rfl (lv_at hl 0 rfl) ?_
        refine va_get (D := (dC, dI)) (ci := 0) (v := .ref pl) (C := RX0) (T := TX0) (N := 13) hx hb hts (fun w h => List.mem_cons_of_mem _ (jnGA_X0 w h)) hown hK hP 0 rfl rfl 10 (by decide) (hts _ (List.mem_cons_of_mem _ mGA_70)) (fun _ h9 => h9) rfl (dk_at dkX0_namesAhead 9 rfl) ?_
        refine lv_iload_n hx hb (dk_at dkX0_namesAhead 10 rfl) rfl (lv_at hl 3 rfl) ?_
        refine va_aldq hx hb hK hP 1 0 rfl rfl (gi_in g_431 (by decide)) (dk_at dkX0_namesAhead 11 rfl) ?_
        refine W.eq (g2 := F0 m 18 ls [.ref (pa v3.toNatClampNeg)]) rfl ?_
        refine va_get (D := (dC, dI)) (ci := 5) (v := .int (p_name v3.toNatClampNeg)) (C := RX5) (T := TX5) (N := 2) hx hb hts (fun w h => List.mem_cons_of_mem _ (jnGA_X5 w h)) hown hK (gz_ro hF0 hFA0 hS) (v3.toNatClampNeg) (gz_fam_at (gz_clt (gi_in (n := 6) g_431 (by decide)))) rfl 0 (by decide) (hts _ (List.mem_cons_of_mem _ mGA_302)) (fun _ h9 => h9) rfl (dk_at dkX0_namesAhead 12 rfl) ?_
        refine lv_topi (fun x_433 ex_433 => ?_)
        refine lv_aload_n hx hb (dk_at dkX0_namesAhead 13 rfl) rfl (lv_at hl 0 rfl) ?_
        refine va_get (D := (dC, dI)) (ci := 0) (v := .ref pl) (C := RX0) (T := TX0) (N := 13) hx hb hts (fun w h => List.mem_cons_of_mem _ (jnGA_X0 w h)) hown hK hP 0 rfl rfl 10 (by decide) (hts _ (List.mem_cons_of_mem _ mGA_70)) (fun _ h9 => h9) rfl (dk_at dkX0_namesAhead 14 rfl) ?_
        refine lv_iload_n hx hb (dk_at dkX0_namesAhead 15 rfl) rfl (lv_at hl 1 rfl) ?_
        refine va_aldq hx hb hK hP 1 0 rfl rfl (gi_in gp1 (by decide)) (dk_at dkX0_namesAhead 16 rfl) ?_
        refine W.eq (g2 := F0 m 27 ls [.ref (pa p1.toNatClampNeg), .int x_433]) rfl ?_
        refine va_get (D := (dC, dI)) (ci := 5) (v := .int (p_name p1.toNatClampNeg)) (C := RX5) (T := TX5) (N := 2) hx hb hts (fun w h => List.mem_cons_of_mem _ (jnGA_X5 w h)) hown hK (gz_ro hF0 hFA0 hS) (p1.toNatClampNeg) (gz_fam_at (gz_clt (gi_in (n := 6) gp1 (by decide)))) rfl 0 (by decide) (hts _ (List.mem_cons_of_mem _ mGA_302)) (fun _ h9 => h9) rfl (dk_at dkX0_namesAhead 17 rfl) ?_
        refine lv_topi (fun x_434 ex_434 => ?_)
        refine lv_icmp_ge (tgt := 36) hx hb (dk_at dkX0_namesAhead 18 rfl) (by decide) (fun c_435 => ?_) (fun c_435 => ?_)
        · have hF := gf_pos (by rw [ex_434, ex_433] at c_435; exact c_435) hF
          obtain ⟨x_436, ex_436⟩ : ∃ y : Int32, y = v3 + 1 := ⟨_, rfl⟩
          have gx_436 : gi x_436 1 6 := gi_add ex_436 g_431 (gi_c 1 1 (by decide)) (by decide)
          refine lv_iinc (v := x_436) (lv' := [(3, .int x_436), (0, .ref h0), (1, .int p1), (2, .int v2)]) hx hb (dk_at dkX0_namesAhead 20 rfl) hl (k := 3) rfl (by rw [ex_436]; rfl) (by decide) rfl (fun ls hl => ?_)
          refine lv_goto (tgt := 4) hx hb (dk_at dkX0_namesAhead 21 rfl) (by decide) ?_
          exact ih v2 x_436 _ _ _ (gi_w gx_436 (by decide)) (by rw [ex_436]; exact hF) (by have av3 := gv3.1; have bv3 := gv3.2; have qgx_436 := gx_436.1; have rgx_436 := gx_436.2; have igx_436 : x_436.toInt = v3.toInt + 1 := (by have hc1 : (1 : Int32).toInt = 1 := (by decide); have h9 := gi_addI ex_436 (by have h1 := g_431.1; have h2 := (gi_c 1 1 (by decide)).1; have h3 := g_431.2; have h4 := (gi_c 1 1 (by decide)).2; omega) (by have h1 := g_431.1; have h2 := (gi_c 1 1 (by decide)).1; have h3 := g_431.2; have h4 := (gi_c 1 1 (by decide)).2; omega); rw [hc1] at h9; exact h9); have qgv3 := g_431.1; have rgv3 := g_431.2; omega) hP hS (lv_sub hl [1, 2, 3, 0] rfl)
        · have hF := gf_neg (by rw [ex_434, ex_433] at c_435; exact c_435) hF
          have g_437 : gi x_433 (-2147483648) 2147483646 := gi_lt_l (Int32.not_le.mp c_435) (gi_any x_433) (gi_any x_434) (by decide)
          have g_438 : gi x_434 (-2147483647) 2147483647 := gi_lt_r (Int32.not_le.mp c_435) (gi_any x_433) (gi_any x_434) (by decide)
          obtain ⟨x_439, ex_439⟩ : ∃ y : Int32, y = v2 + 1 := ⟨_, rfl⟩
          refine lv_iinc (v := x_439) (lv' := [(2, .int x_439), (0, .ref h0), (1, .int p1), (3, .int v3)]) hx hb (dk_at dkX0_namesAhead 19 rfl) hl (k := 2) rfl (by rw [ex_439]; rfl) (by decide) rfl (fun ls hl => ?_)
          obtain ⟨x_440, ex_440⟩ : ∃ y : Int32, y = v3 + 1 := ⟨_, rfl⟩
          have gx_440 : gi x_440 1 6 := gi_add ex_440 g_431 (gi_c 1 1 (by decide)) (by decide)
          refine lv_iinc (v := x_440) (lv' := [(3, .int x_440), (2, .int x_439), (0, .ref h0), (1, .int p1)]) hx hb (dk_at dkX0_namesAhead 20 rfl) hl (k := 3) rfl (by rw [ex_440]; rfl) (by decide) rfl (fun ls hl => ?_)
          refine lv_goto (tgt := 4) hx hb (dk_at dkX0_namesAhead 21 rfl) (by decide) ?_
          exact ih x_439 x_440 _ _ _ (gi_w gx_440 (by decide)) (by rw [ex_440, ex_439]; exact hF) (by have av3 := gv3.1; have bv3 := gv3.2; have qgx_440 := gx_440.1; have rgx_440 := gx_440.2; have igx_440 : x_440.toInt = v3.toInt + 1 := (by have hc1 : (1 : Int32).toInt = 1 := (by decide); have h9 := gi_addI ex_440 (by have h1 := g_431.1; have h2 := (gi_c 1 1 (by decide)).1; have h3 := g_431.2; have h4 := (gi_c 1 1 (by decide)).2; omega) (by have h1 := g_431.1; have h2 := (gi_c 1 1 (by decide)).1; have h3 := g_431.2; have h4 := (gi_c 1 1 (by decide)).2; omega); rw [hc1] at h9; exact h9); have qgv3 := g_431.1; have rgv3 := g_431.2; omega) hP hS (lv_sub hl [2, 3, 1, 0] rfl)
set_option maxHeartbeats 4000000 in
set_option maxRecDepth 100000 in
theorem sX0_namesAhead (l : Launch) (dC : Nat → ClassId) (dI : Nat → Nat → Nat) (h0 : Nat) (pl : Nat) (amonths : Int32) (afull : Int32) (alean : Int32) (alines : Int32) (ahasMoon : Int32) (amoonStart : Int32) (amoonStep : Int32) (aplaceCount : Int32) (areportCount : Int32) (adeedCount : Int32) (re : Nat) (de : Nat) (kpl : ClassId) (pa : Nat → Nat) (p_name : Nat → Int32) (p_trust : Nat → Int32) (p1 : Int32) (gamonths : gi amonths 0 24) (gafull : gi afull 0 5) (galean : gi alean 0 5) (gahasMoon : gi ahasMoon 0 1) (gaplaceCount : gi aplaceCount 0 6) (gareportCount : gi areportCount 0 24) (gadeedCount : gi adeedCount 0 8) (gp1 : gi p1 0 5) : Met l yX0_namesAhead (.code yX0_namesAhead cX0_namesAhead 4 (some .int) :: wsGA) ({ frames := 0, cells := 0, slots := 0, locals := 0 }) (va_Pc [.ref h0, .int p1] (fun U => va_P (dC, dI) vwCl [(h0, .inr (0, [.int amonths, .int afull, .int alean, .int alines, .int ahasMoon, .int amoonStart, .int amoonStep, .int aplaceCount, .int areportCount, .int adeedCount, .ref pl, .ref re, .ref de])), (pl, .inl (kpl, 6, .inr (.inr (.inr (.inr (fun i => some (pa i)))))))] U.heap ∧ va_K (dC, dI) vwCl [(kpl, .object RX5)] U ∧ nzA U ∧ va_P (dC, dI) vwCl (gz_fam 6 pa 5 (fun i => [.int (p_name i), .int (p_trust i)])) U.heap)) (va_Qi (fun (r : Int32) (u : Unit) => (gi r (-2147483648) 2147483647) ∧ r = fX0_namesAhead aplaceCount p_name p1) (fun _ _ => True) (fun _ => False)) 0 0 (fun _ => False) := by
  refine Met.ofW (cc := cX0_namesAhead) (maxL := 4) (ret := (some .int)) (by decide) rfl ?_
  intro p e s m args below meth c s₁ B hml hv
  obtain ⟨rfl, hP, hK, hz, hF0⟩ := hv
  have hx := B.exec
  have hb := B.bytes
  have hr := B.returns
  have hts := atoms_spec (ws := (.code yX0_namesAhead cX0_namesAhead 4 (some .int) :: wsGA)) B.pre
  have hown : s.vm.findClass RX0 = some m.cls := findClass_of_methodNamed B.named
  have hlocks := B.notSynchronized
  have hS : va_S (fun _ => False) s.heap s.heap [] := va_S.rf
  have hFA0 : gz_ap (fun _ => False) (gz_fam 6 pa 5 (fun i => [.int (p_name i), .int (p_trust i)])) := gz_ap0
  have hl := lv_entry ([.ref h0, .int p1]) (n := 4) (Nat.le_of_ble_eq_true rfl)
  rw [lg_entry_eq]
  generalize (lg_sl ([.ref h0, .int p1]) ++ List.replicate (4 - (lg_sl ([.ref h0, .int p1])).length) Slot.unset).toArray = ls at hl ⊢
  have hl : lv_has ls 4 [(0, .ref h0), (1, .int p1)] := hl
  obtain ⟨RES, hF⟩ : ∃ R9, fX0_namesAhead aplaceCount p_name p1 = R9 := ⟨_, rfl⟩
  have hR9 := hF
  refine lv_iconst (v := 0) hx hb (dk_at dkX0_namesAhead 0 rfl) (by decide) ?_
  refine lv_istore_n (lv' := [(2, .int 0), (0, .ref h0), (1, .int p1)]) hx hb (dk_at dkX0_namesAhead 1 rfl) rfl hl (by decide) rfl (fun ls hl => ?_)
  refine lv_iconst (v := 0) hx hb (dk_at dkX0_namesAhead 2 rfl) (by decide) ?_
  refine lv_istore_n (lv' := [(3, .int 0), (2, .int 0), (0, .ref h0), (1, .int p1)]) hx hb (dk_at dkX0_namesAhead 3 rfl) rfl hl (by decide) rfl (fun ls hl => ?_)
  refine (lp_sX0_namesAhead h0 pl amonths afull alean alines ahasMoon amoonStart amoonStep aplaceCount areportCount adeedCount re de kpl pa p_name p_trust p1 gamonths gafull galean gahasMoon gaplaceCount gareportCount gadeedCount gp1 hx hb hml hown hts hK hz hF0 hFA0 (Nat.le_of_ble_eq_true rfl) (Nat.le_of_ble_eq_true rfl) (Nat.zero_le _) (Nat.zero_le _) (fun v H locs ls hF hP hS hl => ?_) 1000000000) 0 0 _ _ _ (gi_w (gi_c 0 0 (by decide)) (by decide)) hF (by have k0 : (0 : Int32).toInt = 0 := (by decide); omega) hP hS (lv_sub hl [2, 3, 1, 0] rfl)
  · skip
    exact W.iret (v := v) hx hb hr (fun t ht hW => ⟨⟨v, (), rfl, ⟨(gi_any v), hF.trans hR9.symm⟩, trivial⟩, hS.F ht⟩) hS.2.2 (dk_at dkX0_namesAhead 23 rfl)
noncomputable def lsX0_standingOf : List (Nat × Instr × Nat) := [(0, .iconst 0, 1), (1, .istore_n 2, 1), (2, .iconst 0, 1), (3, .istore_n 3, 1), (4, .iload_n 3, 1), (5, .aload_n 0, 1), (6, .getfield 58, 3), (9, .if_icmp .ge 37, 3), (12, .aload_n 0, 1), (13, .getfield 19, 3), (16, .iload_n 3, 1), (17, .aaload, 1), (18, .getfield 77, 3), (21, .iload_n 1, 1), (22, .if_icmp .ne 18, 3), (25, .aload_n 0, 1), (26, .getfield 19, 3), (29, .iload_n 3, 1), (30, .aaload, 1), (31, .getfield 96, 3), (34, .ifCond .ne 6, 3), (37, .iinc 2 1, 3), (40, .iinc 3 1, 3), (43, .goto (-39), 3), (46, .iload_n 2, 1), (47, .ireturn, 1)]
theorem dkX0_standingOf : dkAll cX0_standingOf lsX0_standingOf = true := by decide +kernel
noncomputable def bfX0_standingOf_40 (areportCount : Int32) (r_place : Nat → Int32) (r_struck : Nat → Int32) (p1 : Int32) (K : (Int32 → Int32 → Int32)) (v2 : Int32) (v3 : Int32) : Int32 := K v2 (v3 + (1 : Int32))
noncomputable def dfX0_standingOf_4 (areportCount : Int32) (r_place : Nat → Int32) (r_struck : Nat → Int32) (p1 : Int32) (K : (Int32 → Int32 → Int32)) (v2 : Int32) (v3 : Int32) : Int32 := if areportCount ≤ v3 then v2 else (if (r_place v3.toNatClampNeg) = p1 then (if (r_struck v3.toNatClampNeg) = (0 : Int32) then (bfX0_standingOf_40 areportCount r_place r_struck p1 K (v2 + (1 : Int32)) v3) else (bfX0_standingOf_40 areportCount r_place r_struck p1 K v2 v3)) else (bfX0_standingOf_40 areportCount r_place r_struck p1 K v2 v3))
noncomputable def lfX0_standingOf (areportCount : Int32) (r_place : Nat → Int32) (r_struck : Nat → Int32) (p1 : Int32) (z : Nat) : (Int32 → Int32 → Int32) := Nat.rec (motive := fun _ => (Int32 → Int32 → Int32)) (fun _ _ => (0)) (fun _ K => dfX0_standingOf_4 areportCount r_place r_struck p1 K) z
noncomputable def fX0_standingOf (areportCount : Int32) (r_place : Nat → Int32) (r_struck : Nat → Int32) (p1 : Int32) : Int32 := (lfX0_standingOf areportCount r_place r_struck p1 1000000000) (0 : Int32) (0 : Int32)
set_option maxHeartbeats 4000000 in
set_option maxRecDepth 100000 in
theorem lp_sX0_standingOf {p : Program} {l : Launch} {e : Env} {R : Room} {s : State} {m : MethodId} {args : Array Value} {below : List Frame} {meth : Method} {c : Code} {Q : State → Prop} {A : Nat → Prop} {cells slots : Nat} {dC : Nat → ClassId} {dI : Nat → Nat → Nat} {RES : Int32} (h0 : Nat) (re : Nat) (amonths : Int32) (afull : Int32) (alean : Int32) (alines : Int32) (ahasMoon : Int32) (amoonStart : Int32) (amoonStep : Int32) (aplaceCount : Int32) (areportCount : Int32) (adeedCount : Int32) (pl : Nat) (de : Nat) (kre : ClassId) (ra : Nat → Nat) (r_place : Nat → Int32) (r_kind : Nat → Int32) (r_month : Nat → Int32) (r_day : Nat → Int32) (r_known : Nat → Int32) (r_struck : Nat → Int32) (p1 : Int32) (gamonths : gi amonths 0 24) (gafull : gi afull 0 5) (galean : gi alean 0 5) (gahasMoon : gi ahasMoon 0 1) (gaplaceCount : gi aplaceCount 0 6) (gareportCount : gi areportCount 0 24) (gadeedCount : gi adeedCount 0 8) (gr_place : ga r_place 24 0 5) (gr_month : ga r_month 24 0 23) (gr_struck : ga r_struck 24 0 1) (hx : p.tables.exec = Jvm.exec) (hb : c.code = cX0_standingOf) (hml : c.maxLocals = 4) (hown : s.vm.findClass RX0 = some m.cls) (hts : ∀ w ∈ ((.code yX0_standingOf cX0_standingOf 4 (some .int) :: wsGA) : List Cond), w.before args s = true) (hK : va_K (dC, dI) vwCl [(kre, .object RX7)] s) (hz : nzA s) (hF0 : va_P (dC, dI) vwCl (gz_fam 24 ra 7 (fun i => [.int (r_place i), .int (r_kind i), .int (r_month i), .int (r_day i), .int (r_known i), .int (r_struck i)])) s.heap) (hFA0 : gz_ap A (gz_fam 24 ra 7 (fun i => [.int (r_place i), .int (r_kind i), .int (r_month i), .int (r_day i), .int (r_known i), .int (r_struck i)]))) (hRf : 0 ≤ R.frames) (hRl : 0 ≤ R.locals) (hRc : cells ≤ R.cells) (hRs : slots ≤ R.slots) (kr47 : ∀ (v : Int32) (H : Heap) (locs : List Loc) (ls : Array Slot), v = RES → va_P (dC, dI) vwCl [(h0, .inr (0, [.int amonths, .int afull, .int alean, .int alines, .int ahasMoon, .int amoonStart, .int amoonStep, .int aplaceCount, .int areportCount, .int adeedCount, .ref pl, .ref re, .ref de])), (re, .inl (kre, 24, .inr (.inr (.inr (.inr (fun i => some (ra i)))))))] H → va_S A s.heap H locs → lv_has ls 4 [] → W p l e R s m args below meth c H locs cells slots Q (F0 m 47 ls [.int v])) : ∀ z : Nat, (∀ (v2 : Int32) (v3 : Int32) (H : Heap) (locs : List Loc) (ls : Array Slot), gi v3 0 24 → (lfX0_standingOf areportCount r_place r_struck p1 z) v2 v3 = RES → 49 + (-2) * v3.toInt < (z : Int) → va_P (dC, dI) vwCl [(h0, .inr (0, [.int amonths, .int afull, .int alean, .int alines, .int ahasMoon, .int amoonStart, .int amoonStep, .int aplaceCount, .int areportCount, .int adeedCount, .ref pl, .ref re, .ref de])), (re, .inl (kre, 24, .inr (.inr (.inr (.inr (fun i => some (ra i)))))))] H → va_S A s.heap H locs → lv_has ls 4 [(0, .ref h0), (1, .int p1), (2, .int v2), (3, .int v3)] → W p l e R s m args below meth c H locs cells slots Q (F0 m 4 ls [])) := by
  intro z
  induction z with
  | zero =>
    intro v2 v3 H locs ls gv3 hF hmu hP hS hl
    exact absurd hmu (by have hv31 := gv3.1; have hv32 := gv3.2; omega)
  | succ z ih =>
      intro v2 v3 H locs ls gv3 hF hmu hP hS hl
      have hF : dfX0_standingOf_4 areportCount r_place r_struck p1 (lfX0_standingOf areportCount r_place r_struck p1 z) v2 v3 = RES := hF
      refine lv_iload_n hx hb (dk_at dkX0_standingOf 4 rfl) rfl (lv_at hl 3 rfl) ?_
      refine lv_aload_n hx hb (dk_at dkX0_standingOf 5 rfl) rfl (lv_at hl 0 rfl) ?_
      refine va_get (D := (dC, dI)) (ci := 0) (v := .int areportCount) (C := RX0) (T := TX0) (N := 13) hx hb hts (fun w h => List.mem_cons_of_mem _ (jnGA_X0 w h)) hown hK hP 0 rfl rfl 8 (by decide) (hts _ (List.mem_cons_of_mem _ mGA_160)) (fun _ h9 => h9) rfl (dk_at dkX0_standingOf 6 rfl) ?_
      refine lv_icmp_ge (tgt := 46) hx hb (dk_at dkX0_standingOf 7 rfl) (by decide) (fun c_547 => ?_) (fun c_547 => ?_)
      · have hF := gf_pos c_547 hF
        refine lv_iload_n hx hb (dk_at dkX0_standingOf 24 rfl) rfl (lv_at hl 2 rfl) ?_
        exact kr47 v2 _ _ _ hF hP hS (lv_sub hl [] rfl)
      · have hF := gf_neg c_547 hF
        have g_548 : gi v3 0 23 := gi_lt_l (Int32.not_le.mp c_547) gv3 gareportCount (by decide)
        have g_549 : gi areportCount 1 24 := gi_lt_r (Int32.not_le.mp c_547) gv3 gareportCount (by decide)
        refine lv_aload_n hx hb (dk_at dkX0_standingOf 8 rfl) rfl (lv_at hl 0 rfl) ?_
        refine va_get (D := (dC, dI)) (ci := 0) (v := .ref re) (C := RX0) (T := TX0) (N := 13) hx hb hts (fun w h => List.mem_cons_of_mem _ (jnGA_X0 w h)) hown hK hP 0 rfl rfl 11 (by decide) (hts _ (List.mem_cons_of_mem _ mGA_72)) (fun _ h9 => h9) rfl (dk_at dkX0_standingOf 9 rfl) ?_
        refine lv_iload_n hx hb (dk_at dkX0_standingOf 10 rfl) rfl (lv_at hl 3 rfl) ?_
        refine va_aldq hx hb hK hP 1 0 rfl rfl (gi_in g_548 (by decide)) (dk_at dkX0_standingOf 11 rfl) ?_
        refine W.eq (g2 := F0 m 18 ls [.ref (ra v3.toNatClampNeg)]) rfl ?_
        refine va_get (D := (dC, dI)) (ci := 7) (v := .int (r_place v3.toNatClampNeg)) (C := RX7) (T := TX7) (N := 6) hx hb hts (fun w h => List.mem_cons_of_mem _ (jnGA_X7 w h)) hown hK (gz_ro hF0 hFA0 hS) (v3.toNatClampNeg) (gz_fam_at (gz_clt (gi_in (n := 24) g_548 (by decide)))) rfl 0 (by decide) (hts _ (List.mem_cons_of_mem _ mGA_317)) (fun _ h9 => h9) rfl (dk_at dkX0_standingOf 12 rfl) ?_
        refine lv_topi (fun x_550 ex_550 => ?_)
        have gx_550 : gi x_550 0 5 := ga_at gr_place (gi_in (n := 24) g_548 (by decide)) ex_550
        refine lv_iload_n hx hb (dk_at dkX0_standingOf 13 rfl) rfl (lv_at hl 1 rfl) ?_
        refine lv_icmp_ne (tgt := 40) hx hb (dk_at dkX0_standingOf 14 rfl) (by decide) (fun c_551 => ?_) (fun c_551 => ?_)
        · have hF := gf_neg (by rw [ex_550] at c_551; exact c_551) hF
          obtain ⟨x_552, ex_552⟩ : ∃ y : Int32, y = v3 + 1 := ⟨_, rfl⟩
          have gx_552 : gi x_552 1 24 := gi_add ex_552 g_548 (gi_c 1 1 (by decide)) (by decide)
          refine lv_iinc (v := x_552) (lv' := [(3, .int x_552), (0, .ref h0), (1, .int p1), (2, .int v2)]) hx hb (dk_at dkX0_standingOf 22 rfl) hl (k := 3) rfl (by rw [ex_552]; rfl) (by decide) rfl (fun ls hl => ?_)
          refine lv_goto (tgt := 4) hx hb (dk_at dkX0_standingOf 23 rfl) (by decide) ?_
          exact ih v2 x_552 _ _ _ (gi_w gx_552 (by decide)) (by rw [ex_552]; exact hF) (by have av3 := gv3.1; have bv3 := gv3.2; have qgx_552 := gx_552.1; have rgx_552 := gx_552.2; have igx_552 : x_552.toInt = v3.toInt + 1 := (by have hc1 : (1 : Int32).toInt = 1 := (by decide); have h9 := gi_addI ex_552 (by have h1 := g_548.1; have h2 := (gi_c 1 1 (by decide)).1; have h3 := g_548.2; have h4 := (gi_c 1 1 (by decide)).2; omega) (by have h1 := g_548.1; have h2 := (gi_c 1 1 (by decide)).1; have h3 := g_548.2; have h4 := (gi_c 1 1 (by decide)).2; omega); rw [hc1] at h9; exact h9); have qgv3 := g_548.1; have rgv3 := g_548.2; omega) hP hS (lv_sub hl [1, 2, 3, 0] rfl)
        · have hF := gf_pos (by rw [ex_550] at c_551; exact c_551) hF
          have g_553 : gi p1 0 5 := gi_eq c_551.symm gx_550
          refine lv_aload_n hx hb (dk_at dkX0_standingOf 15 rfl) rfl (lv_at hl 0 rfl) ?_
          refine va_get (D := (dC, dI)) (ci := 0) (v := .ref re) (C := RX0) (T := TX0) (N := 13) hx hb hts (fun w h => List.mem_cons_of_mem _ (jnGA_X0 w h)) hown hK hP 0 rfl rfl 11 (by decide) (hts _ (List.mem_cons_of_mem _ mGA_72)) (fun _ h9 => h9) rfl (dk_at dkX0_standingOf 16 rfl) ?_
          refine lv_iload_n hx hb (dk_at dkX0_standingOf 17 rfl) rfl (lv_at hl 3 rfl) ?_
          refine va_aldq hx hb hK hP 1 0 rfl rfl (gi_in g_548 (by decide)) (dk_at dkX0_standingOf 18 rfl) ?_
          refine W.eq (g2 := F0 m 31 ls [.ref (ra v3.toNatClampNeg)]) rfl ?_
          refine va_get (D := (dC, dI)) (ci := 7) (v := .int (r_struck v3.toNatClampNeg)) (C := RX7) (T := TX7) (N := 6) hx hb hts (fun w h => List.mem_cons_of_mem _ (jnGA_X7 w h)) hown hK (gz_ro hF0 hFA0 hS) (v3.toNatClampNeg) (gz_fam_at (gz_clt (gi_in (n := 24) g_548 (by decide)))) rfl 5 (by decide) (hts _ (List.mem_cons_of_mem _ mGA_322)) (fun _ h9 => h9) rfl (dk_at dkX0_standingOf 19 rfl) ?_
          refine lv_topi (fun x_554 ex_554 => ?_)
          have gx_554 : gi x_554 0 1 := ga_at gr_struck (gi_in (n := 24) g_548 (by decide)) ex_554
          refine lv_if_ne (tgt := 40) hx hb (dk_at dkX0_standingOf 20 rfl) (by decide) (fun c_555 => ?_) (fun c_555 => ?_)
          · have hF := gf_neg (by rw [ex_554] at c_555; exact c_555) hF
            have g_556 : gi x_554 1 1 := gi_ne_lo c_555 gx_554 (gi_c 0 0 (by decide)) (by decide)
            obtain ⟨x_557, ex_557⟩ : ∃ y : Int32, y = v3 + 1 := ⟨_, rfl⟩
            have gx_557 : gi x_557 1 24 := gi_add ex_557 g_548 (gi_c 1 1 (by decide)) (by decide)
            refine lv_iinc (v := x_557) (lv' := [(3, .int x_557), (0, .ref h0), (1, .int p1), (2, .int v2)]) hx hb (dk_at dkX0_standingOf 22 rfl) hl (k := 3) rfl (by rw [ex_557]; rfl) (by decide) rfl (fun ls hl => ?_)
            refine lv_goto (tgt := 4) hx hb (dk_at dkX0_standingOf 23 rfl) (by decide) ?_
            exact ih v2 x_557 _ _ _ (gi_w gx_557 (by decide)) (by rw [ex_557]; exact hF) (by have av3 := gv3.1; have bv3 := gv3.2; have qgx_557 := gx_557.1; have rgx_557 := gx_557.2; have igx_557 : x_557.toInt = v3.toInt + 1 := (by have hc1 : (1 : Int32).toInt = 1 := (by decide); have h9 := gi_addI ex_557 (by have h1 := g_548.1; have h2 := (gi_c 1 1 (by decide)).1; have h3 := g_548.2; have h4 := (gi_c 1 1 (by decide)).2; omega) (by have h1 := g_548.1; have h2 := (gi_c 1 1 (by decide)).1; have h3 := g_548.2; have h4 := (gi_c 1 1 (by decide)).2; omega); rw [hc1] at h9; exact h9); have qgv3 := g_548.1; have rgv3 := g_548.2; omega) hP hS (lv_sub hl [1, 2, 3, 0] rfl)
          · have hF := gf_pos (by rw [ex_554] at c_555; exact c_555) hF
            have g_558 : gi x_554 0 0 := gi_eq c_555 (gi_c 0 0 (by decide))
            obtain ⟨x_559, ex_559⟩ : ∃ y : Int32, y = v2 + 1 := ⟨_, rfl⟩
            refine lv_iinc (v := x_559) (lv' := [(2, .int x_559), (0, .ref h0), (1, .int p1), (3, .int v3)]) hx hb (dk_at dkX0_standingOf 21 rfl) hl (k := 2) rfl (by rw [ex_559]; rfl) (by decide) rfl (fun ls hl => ?_)
            obtain ⟨x_560, ex_560⟩ : ∃ y : Int32, y = v3 + 1 := ⟨_, rfl⟩
            have gx_560 : gi x_560 1 24 := gi_add ex_560 g_548 (gi_c 1 1 (by decide)) (by decide)
            refine lv_iinc (v := x_560) (lv' := [(3, .int x_560), (2, .int x_559), (0, .ref h0), (1, .int p1)]) hx hb (dk_at dkX0_standingOf 22 rfl) hl (k := 3) rfl (by rw [ex_560]; rfl) (by decide) rfl (fun ls hl => ?_)
            refine lv_goto (tgt := 4) hx hb (dk_at dkX0_standingOf 23 rfl) (by decide) ?_
            exact ih x_559 x_560 _ _ _ (gi_w gx_560 (by decide)) (by rw [ex_560, ex_559]; exact hF) (by have av3 := gv3.1; have bv3 := gv3.2; have qgx_560 := gx_560.1; have rgx_560 := gx_560.2; have igx_560 : x_560.toInt = v3.toInt + 1 := (by have hc1 : (1 : Int32).toInt = 1 := (by decide); have h9 := gi_addI ex_560 (by have h1 := g_548.1; have h2 := (gi_c 1 1 (by decide)).1; have h3 := g_548.2; have h4 := (gi_c 1 1 (by decide)).2; omega) (by have h1 := g_548.1; have h2 := (gi_c 1 1 (by decide)).1; have h3 := g_548.2; have h4 := (gi_c 1 1 (by decide)).2; omega); rw [hc1] at h9; exact h9); have qgv3 := g_548.1; have rgv3 := g_548.2; omega) hP hS (lv_sub hl [2, 3, 1, 0] rfl)
set_option maxHeartbeats 4000000 in
set_option maxRecDepth 100000 in
theorem sX0_standingOf (l : Launch) (dC : Nat → ClassId) (dI : Nat → Nat → Nat) (h0 : Nat) (re : Nat) (amonths : Int32) (afull : Int32) (alean : Int32) (alines : Int32) (ahasMoon : Int32) (amoonStart : Int32) (amoonStep : Int32) (aplaceCount : Int32) (areportCount : Int32) (adeedCount : Int32) (pl : Nat) (de : Nat) (kre : ClassId) (ra : Nat → Nat) (r_place : Nat → Int32) (r_kind : Nat → Int32) (r_month : Nat → Int32) (r_day : Nat → Int32) (r_known : Nat → Int32) (r_struck : Nat → Int32) (p1 : Int32) (gamonths : gi amonths 0 24) (gafull : gi afull 0 5) (galean : gi alean 0 5) (gahasMoon : gi ahasMoon 0 1) (gaplaceCount : gi aplaceCount 0 6) (gareportCount : gi areportCount 0 24) (gadeedCount : gi adeedCount 0 8) (gr_place : ga r_place 24 0 5) (gr_month : ga r_month 24 0 23) (gr_struck : ga r_struck 24 0 1) : Met l yX0_standingOf (.code yX0_standingOf cX0_standingOf 4 (some .int) :: wsGA) ({ frames := 0, cells := 0, slots := 0, locals := 0 }) (va_Pc [.ref h0, .int p1] (fun U => va_P (dC, dI) vwCl [(h0, .inr (0, [.int amonths, .int afull, .int alean, .int alines, .int ahasMoon, .int amoonStart, .int amoonStep, .int aplaceCount, .int areportCount, .int adeedCount, .ref pl, .ref re, .ref de])), (re, .inl (kre, 24, .inr (.inr (.inr (.inr (fun i => some (ra i)))))))] U.heap ∧ va_K (dC, dI) vwCl [(kre, .object RX7)] U ∧ nzA U ∧ va_P (dC, dI) vwCl (gz_fam 24 ra 7 (fun i => [.int (r_place i), .int (r_kind i), .int (r_month i), .int (r_day i), .int (r_known i), .int (r_struck i)])) U.heap)) (va_Qi (fun (r : Int32) (u : Unit) => (gi r (-2147483648) 2147483647) ∧ r = fX0_standingOf areportCount r_place r_struck p1) (fun _ _ => True) (fun _ => False)) 0 0 (fun _ => False) := by
  refine Met.ofW (cc := cX0_standingOf) (maxL := 4) (ret := (some .int)) (by decide) rfl ?_
  intro p e s m args below meth c s₁ B hml hv
  obtain ⟨rfl, hP, hK, hz, hF0⟩ := hv
  have hx := B.exec
  have hb := B.bytes
  have hr := B.returns
  have hts := atoms_spec (ws := (.code yX0_standingOf cX0_standingOf 4 (some .int) :: wsGA)) B.pre
  have hown : s.vm.findClass RX0 = some m.cls := findClass_of_methodNamed B.named
  have hlocks := B.notSynchronized
  have hS : va_S (fun _ => False) s.heap s.heap [] := va_S.rf
  have hFA0 : gz_ap (fun _ => False) (gz_fam 24 ra 7 (fun i => [.int (r_place i), .int (r_kind i), .int (r_month i), .int (r_day i), .int (r_known i), .int (r_struck i)])) := gz_ap0
  have hl := lv_entry ([.ref h0, .int p1]) (n := 4) (Nat.le_of_ble_eq_true rfl)
  rw [lg_entry_eq]
  generalize (lg_sl ([.ref h0, .int p1]) ++ List.replicate (4 - (lg_sl ([.ref h0, .int p1])).length) Slot.unset).toArray = ls at hl ⊢
  have hl : lv_has ls 4 [(0, .ref h0), (1, .int p1)] := hl
  obtain ⟨RES, hF⟩ : ∃ R9, fX0_standingOf areportCount r_place r_struck p1 = R9 := ⟨_, rfl⟩
  have hR9 := hF
  refine lv_iconst (v := 0) hx hb (dk_at dkX0_standingOf 0 rfl) (by decide) ?_
  refine lv_istore_n (lv' := [(2, .int 0), (0, .ref h0), (1, .int p1)]) hx hb (dk_at dkX0_standingOf 1 rfl) rfl hl (by decide) rfl (fun ls hl => ?_)
  refine lv_iconst (v := 0) hx hb (dk_at dkX0_standingOf 2 rfl) (by decide) ?_
  refine lv_istore_n (lv' := [(3, .int 0), (2, .int 0), (0, .ref h0), (1, .int p1)]) hx hb (dk_at dkX0_standingOf 3 rfl) rfl hl (by decide) rfl (fun ls hl => ?_)
  refine (lp_sX0_standingOf h0 re amonths afull alean alines ahasMoon amoonStart amoonStep aplaceCount areportCount adeedCount pl de kre ra r_place r_kind r_month r_day r_known r_struck p1 gamonths gafull galean gahasMoon gaplaceCount gareportCount gadeedCount gr_place gr_month gr_struck hx hb hml hown hts hK hz hF0 hFA0 (Nat.le_of_ble_eq_true rfl) (Nat.le_of_ble_eq_true rfl) (Nat.zero_le _) (Nat.zero_le _) (fun v H locs ls hF hP hS hl => ?_) 1000000000) 0 0 _ _ _ (gi_w (gi_c 0 0 (by decide)) (by decide)) hF (by have k0 : (0 : Int32).toInt = 0 := (by decide); omega) hP hS (lv_sub hl [2, 3, 1, 0] rfl)
  · skip
    exact W.iret (v := v) hx hb hr (fun t ht hW => ⟨⟨v, (), rfl, ⟨(gi_any v), hF.trans hR9.symm⟩, trivial⟩, hS.F ht⟩) hS.2.2 (dk_at dkX0_standingOf 25 rfl)
noncomputable def lsX0_standing : List (Nat × Instr × Nat) := [(0, .iconst 0, 1), (1, .istore_n 1, 1), (2, .iconst 0, 1), (3, .istore_n 2, 1), (4, .iload_n 2, 1), (5, .aload_n 0, 1), (6, .getfield 55, 3), (9, .if_icmp .ge 17, 3), (12, .iload_n 1, 1), (13, .aload_n 0, 1), (14, .iload_n 2, 1), (15, .invokevirtual 107, 3), (18, .iadd, 1), (19, .istore_n 1, 1), (20, .iinc 2 1, 3), (23, .goto (-19), 3), (26, .iload_n 1, 1), (27, .ireturn, 1)]
theorem dkX0_standing : dkAll cX0_standing lsX0_standing = true := by decide +kernel
noncomputable def dfX0_standing_4 (aplaceCount : Int32) (areportCount : Int32) (r_place : Nat → Int32) (r_struck : Nat → Int32) (K : (Int32 → Int32 → Int32)) (v1 : Int32) (v2 : Int32) : Int32 := if aplaceCount ≤ v2 then v1 else (cal (fun o1 => K (v1 + o1) (v2 + (1 : Int32))) (fX0_standingOf areportCount r_place r_struck v2))
noncomputable def lfX0_standing (aplaceCount : Int32) (areportCount : Int32) (r_place : Nat → Int32) (r_struck : Nat → Int32) (z : Nat) : (Int32 → Int32 → Int32) := Nat.rec (motive := fun _ => (Int32 → Int32 → Int32)) (fun _ _ => (0)) (fun _ K => dfX0_standing_4 aplaceCount areportCount r_place r_struck K) z
noncomputable def fX0_standing (aplaceCount : Int32) (areportCount : Int32) (r_place : Nat → Int32) (r_struck : Nat → Int32) : Int32 := (lfX0_standing aplaceCount areportCount r_place r_struck 1000000000) (0 : Int32) (0 : Int32)
set_option maxHeartbeats 4000000 in
set_option maxRecDepth 100000 in
theorem lp_sX0_standing {p : Program} {l : Launch} {e : Env} {R : Room} {s : State} {m : MethodId} {args : Array Value} {below : List Frame} {meth : Method} {c : Code} {Q : State → Prop} {A : Nat → Prop} {cells slots : Nat} {dC : Nat → ClassId} {dI : Nat → Nat → Nat} {RES : Int32} (h0 : Nat) (re : Nat) (amonths : Int32) (afull : Int32) (alean : Int32) (alines : Int32) (ahasMoon : Int32) (amoonStart : Int32) (amoonStep : Int32) (aplaceCount : Int32) (areportCount : Int32) (adeedCount : Int32) (pl : Nat) (de : Nat) (kre : ClassId) (ra : Nat → Nat) (r_place : Nat → Int32) (r_kind : Nat → Int32) (r_month : Nat → Int32) (r_day : Nat → Int32) (r_known : Nat → Int32) (r_struck : Nat → Int32) (gamonths : gi amonths 0 24) (gafull : gi afull 0 5) (galean : gi alean 0 5) (gahasMoon : gi ahasMoon 0 1) (gaplaceCount : gi aplaceCount 0 6) (gareportCount : gi areportCount 0 24) (gadeedCount : gi adeedCount 0 8) (gr_place : ga r_place 24 0 5) (gr_month : ga r_month 24 0 23) (gr_struck : ga r_struck 24 0 1) (hx : p.tables.exec = Jvm.exec) (hb : c.code = cX0_standing) (hml : c.maxLocals = 3) (hown : s.vm.findClass RX0 = some m.cls) (hts : ∀ w ∈ ((.code yX0_standing cX0_standing 3 (some .int) :: wsGA) : List Cond), w.before args s = true) (hK : va_K (dC, dI) vwCl [(kre, .object RX7)] s) (hz : nzA s) (hF0 : va_P (dC, dI) vwCl (gz_fam 24 ra 7 (fun i => [.int (r_place i), .int (r_kind i), .int (r_month i), .int (r_day i), .int (r_known i), .int (r_struck i)])) s.heap) (hFA0 : gz_ap A (gz_fam 24 ra 7 (fun i => [.int (r_place i), .int (r_kind i), .int (r_month i), .int (r_day i), .int (r_known i), .int (r_struck i)]))) (hRf : 1 ≤ R.frames) (hRl : 23 ≤ R.locals) (hRc : cells ≤ R.cells) (hRs : slots ≤ R.slots) (kr27 : ∀ (v : Int32) (H : Heap) (locs : List Loc) (ls : Array Slot), v = RES → va_P (dC, dI) vwCl [(h0, .inr (0, [.int amonths, .int afull, .int alean, .int alines, .int ahasMoon, .int amoonStart, .int amoonStep, .int aplaceCount, .int areportCount, .int adeedCount, .ref pl, .ref re, .ref de])), (re, .inl (kre, 24, .inr (.inr (.inr (.inr (fun i => some (ra i)))))))] H → va_S A s.heap H locs → lv_has ls 3 [] → W p l e R s m args below meth c H locs cells slots Q (F0 m 27 ls [.int v])) : ∀ z : Nat, (∀ (v1 : Int32) (v2 : Int32) (H : Heap) (locs : List Loc) (ls : Array Slot), gi v2 0 6 → (lfX0_standing aplaceCount areportCount r_place r_struck z) v1 v2 = RES → 13 + (-2) * v2.toInt < (z : Int) → va_P (dC, dI) vwCl [(h0, .inr (0, [.int amonths, .int afull, .int alean, .int alines, .int ahasMoon, .int amoonStart, .int amoonStep, .int aplaceCount, .int areportCount, .int adeedCount, .ref pl, .ref re, .ref de])), (re, .inl (kre, 24, .inr (.inr (.inr (.inr (fun i => some (ra i)))))))] H → va_S A s.heap H locs → lv_has ls 3 [(0, .ref h0), (1, .int v1), (2, .int v2)] → W p l e R s m args below meth c H locs cells slots Q (F0 m 4 ls [])) := by
  intro z
  induction z with
  | zero =>
    intro v1 v2 H locs ls gv2 hF hmu hP hS hl
    exact absurd hmu (by have hv21 := gv2.1; have hv22 := gv2.2; omega)
  | succ z ih =>
      intro v1 v2 H locs ls gv2 hF hmu hP hS hl
      have hF : dfX0_standing_4 aplaceCount areportCount r_place r_struck (lfX0_standing aplaceCount areportCount r_place r_struck z) v1 v2 = RES := hF
      refine lv_iload_n hx hb (dk_at dkX0_standing 4 rfl) rfl (lv_at hl 2 rfl) ?_
      refine lv_aload_n hx hb (dk_at dkX0_standing 5 rfl) rfl (lv_at hl 0 rfl) ?_
      refine va_get (D := (dC, dI)) (ci := 0) (v := .int aplaceCount) (C := RX0) (T := TX0) (N := 13) hx hb hts (fun w h => List.mem_cons_of_mem _ (jnGA_X0 w h)) hown hK hP 0 rfl rfl 7 (by decide) (hts _ (List.mem_cons_of_mem _ mGA_159)) (fun _ h9 => h9) rfl (dk_at dkX0_standing 6 rfl) ?_
      refine lv_icmp_ge (tgt := 26) hx hb (dk_at dkX0_standing 7 rfl) (by decide) (fun c_43 => ?_) (fun c_43 => ?_)
      · have hF := gf_pos c_43 hF
        refine lv_iload_n hx hb (dk_at dkX0_standing 16 rfl) rfl (lv_at hl 1 rfl) ?_
        exact kr27 v1 _ _ _ hF hP hS (lv_sub hl [] rfl)
      · have hF := gf_neg c_43 hF
        have g_44 : gi v2 0 5 := gi_lt_l (Int32.not_le.mp c_43) gv2 gaplaceCount (by decide)
        have g_45 : gi aplaceCount 1 6 := gi_lt_r (Int32.not_le.mp c_43) gv2 gaplaceCount (by decide)
        refine lv_iload_n hx hb (dk_at dkX0_standing 8 rfl) rfl (lv_at hl 1 rfl) ?_
        refine lv_aload_n hx hb (dk_at dkX0_standing 9 rfl) rfl (lv_at hl 0 rfl) ?_
        refine lv_iload_n hx hb (dk_at dkX0_standing 10 rfl) rfl (lv_at hl 2 rfl) ?_
        have hPc := hP.sub (ws' := [(h0, .inr (0, [.int amonths, .int afull, .int alean, .int alines, .int ahasMoon, .int amoonStart, .int amoonStep, .int aplaceCount, .int areportCount, .int adeedCount, .ref pl, .ref re, .ref de])), (re, .inl (kre, 24, .inr (.inr (.inr (.inr (fun i => some (ra i)))))))]) [0, 1] rfl
        have hKc := hK.sub (tys' := [(kre, .object RX7)]) [0] rfl
        refine va_calli (va_runV (As := [.int v2]) (rest := [.int v1]) ⟨hx, hb, hml, hown, hts⟩ (sX0_standingOf l dC dI h0 re amonths afull alean alines ahasMoon amoonStart amoonStep aplaceCount areportCount adeedCount pl de kre ra r_place r_kind r_month r_day r_known r_struck v2 gamonths gafull galean gahasMoon (gi_w g_45 (by decide)) gareportCount gadeedCount gr_place gr_month gr_struck) (cwV 1 hts (gz_gV mGA_906 mGA_375 mGA_376 mGA_13 mGA_377 goodGA) rfl rfl rfl (by decide +kernel) ⟨Nat.le_trans (Nat.le_of_ble_eq_true rfl) hRf, Nat.le_trans (Nat.le_of_ble_eq_true rfl) hRl⟩) ⟨bl_I (bl_a bl_P (bl_a bl_K (bl_a bl_nz bl_P))), va_recv hKc hPc (ci := 0) (q0 := 0) rfl rfl, fun U hU hW => ⟨rfl, by rw [hU]; exact hPc, va_K.moved hW.alike hKc, nzA_warm hW hz, by rw [hU]; exact gz_ro hF0 hFA0 hS⟩⟩ rfl rfl hl.1 rfl (lv_room (Nat.le_of_ble_eq_true rfl)) (dk_at dkX0_standing 11 rfl) ⟨hRc, hRs⟩) hS (fun q _ h => h.elim) (fun q h => h.elim) (fun r_46 u t H1 locs ht hvm hw hB hz1 hk1 hS => ?_)
        obtain ⟨hw, hE⟩ := hw
        have hP := gz_keep hP hk1
        have hF := gf_call (a := r_46) hE hF
        generalize H1 = H at hP hS ⊢
        refine lv_iadd hx hb (dk_at dkX0_standing 12 rfl) ?_
        refine lv_topi (fun x_47 ex_47 => ?_)
        refine lv_istore_n (lv' := [(1, .int x_47), (0, .ref h0), (2, .int v2)]) hx hb (dk_at dkX0_standing 13 rfl) rfl hl (by decide) rfl (fun ls hl => ?_)
        obtain ⟨x_48, ex_48⟩ : ∃ y : Int32, y = v2 + 1 := ⟨_, rfl⟩
        have gx_48 : gi x_48 1 6 := gi_add ex_48 g_44 (gi_c 1 1 (by decide)) (by decide)
        refine lv_iinc (v := x_48) (lv' := [(2, .int x_48), (1, .int x_47), (0, .ref h0)]) hx hb (dk_at dkX0_standing 14 rfl) hl (k := 2) rfl (by rw [ex_48]; rfl) (by decide) rfl (fun ls hl => ?_)
        refine lv_goto (tgt := 4) hx hb (dk_at dkX0_standing 15 rfl) (by decide) ?_
        exact ih x_47 x_48 _ _ _ (gi_w gx_48 (by decide)) (by rw [ex_48, ex_47]; exact hF) (by have av2 := gv2.1; have bv2 := gv2.2; have qgx_48 := gx_48.1; have rgx_48 := gx_48.2; have igx_48 : x_48.toInt = v2.toInt + 1 := (by have hc1 : (1 : Int32).toInt = 1 := (by decide); have h9 := gi_addI ex_48 (by have h1 := g_44.1; have h2 := (gi_c 1 1 (by decide)).1; have h3 := g_44.2; have h4 := (gi_c 1 1 (by decide)).2; omega) (by have h1 := g_44.1; have h2 := (gi_c 1 1 (by decide)).1; have h3 := g_44.2; have h4 := (gi_c 1 1 (by decide)).2; omega); rw [hc1] at h9; exact h9); have qgv2 := g_44.1; have rgv2 := g_44.2; omega) hP hS (lv_sub hl [2, 1, 0] rfl)
set_option maxHeartbeats 4000000 in
set_option maxRecDepth 100000 in
theorem sX0_standing (l : Launch) (dC : Nat → ClassId) (dI : Nat → Nat → Nat) (h0 : Nat) (re : Nat) (amonths : Int32) (afull : Int32) (alean : Int32) (alines : Int32) (ahasMoon : Int32) (amoonStart : Int32) (amoonStep : Int32) (aplaceCount : Int32) (areportCount : Int32) (adeedCount : Int32) (pl : Nat) (de : Nat) (kre : ClassId) (ra : Nat → Nat) (r_place : Nat → Int32) (r_kind : Nat → Int32) (r_month : Nat → Int32) (r_day : Nat → Int32) (r_known : Nat → Int32) (r_struck : Nat → Int32) (gamonths : gi amonths 0 24) (gafull : gi afull 0 5) (galean : gi alean 0 5) (gahasMoon : gi ahasMoon 0 1) (gaplaceCount : gi aplaceCount 0 6) (gareportCount : gi areportCount 0 24) (gadeedCount : gi adeedCount 0 8) (gr_place : ga r_place 24 0 5) (gr_month : ga r_month 24 0 23) (gr_struck : ga r_struck 24 0 1) : Met l yX0_standing (.code yX0_standing cX0_standing 3 (some .int) :: wsGA) ({ frames := 1, cells := 0, slots := 0, locals := 23 }) (va_Pc [.ref h0] (fun U => va_P (dC, dI) vwCl [(h0, .inr (0, [.int amonths, .int afull, .int alean, .int alines, .int ahasMoon, .int amoonStart, .int amoonStep, .int aplaceCount, .int areportCount, .int adeedCount, .ref pl, .ref re, .ref de])), (re, .inl (kre, 24, .inr (.inr (.inr (.inr (fun i => some (ra i)))))))] U.heap ∧ va_K (dC, dI) vwCl [(kre, .object RX7)] U ∧ nzA U ∧ va_P (dC, dI) vwCl (gz_fam 24 ra 7 (fun i => [.int (r_place i), .int (r_kind i), .int (r_month i), .int (r_day i), .int (r_known i), .int (r_struck i)])) U.heap)) (va_Qi (fun (r : Int32) (u : Unit) => (gi r (-2147483648) 2147483647) ∧ r = fX0_standing aplaceCount areportCount r_place r_struck) (fun _ _ => True) (fun _ => False)) 0 0 (fun _ => False) := by
  refine Met.ofW (cc := cX0_standing) (maxL := 3) (ret := (some .int)) (by decide) rfl ?_
  intro p e s m args below meth c s₁ B hml hv
  obtain ⟨rfl, hP, hK, hz, hF0⟩ := hv
  have hx := B.exec
  have hb := B.bytes
  have hr := B.returns
  have hts := atoms_spec (ws := (.code yX0_standing cX0_standing 3 (some .int) :: wsGA)) B.pre
  have hown : s.vm.findClass RX0 = some m.cls := findClass_of_methodNamed B.named
  have hlocks := B.notSynchronized
  have hS : va_S (fun _ => False) s.heap s.heap [] := va_S.rf
  have hFA0 : gz_ap (fun _ => False) (gz_fam 24 ra 7 (fun i => [.int (r_place i), .int (r_kind i), .int (r_month i), .int (r_day i), .int (r_known i), .int (r_struck i)])) := gz_ap0
  have hl := lv_entry ([.ref h0]) (n := 3) (Nat.le_of_ble_eq_true rfl)
  rw [lg_entry_eq]
  generalize (lg_sl ([.ref h0]) ++ List.replicate (3 - (lg_sl ([.ref h0])).length) Slot.unset).toArray = ls at hl ⊢
  have hl : lv_has ls 3 [(0, .ref h0)] := hl
  obtain ⟨RES, hF⟩ : ∃ R9, fX0_standing aplaceCount areportCount r_place r_struck = R9 := ⟨_, rfl⟩
  have hR9 := hF
  refine lv_iconst (v := 0) hx hb (dk_at dkX0_standing 0 rfl) (by decide) ?_
  refine lv_istore_n (lv' := [(1, .int 0), (0, .ref h0)]) hx hb (dk_at dkX0_standing 1 rfl) rfl hl (by decide) rfl (fun ls hl => ?_)
  refine lv_iconst (v := 0) hx hb (dk_at dkX0_standing 2 rfl) (by decide) ?_
  refine lv_istore_n (lv' := [(2, .int 0), (1, .int 0), (0, .ref h0)]) hx hb (dk_at dkX0_standing 3 rfl) rfl hl (by decide) rfl (fun ls hl => ?_)
  refine (lp_sX0_standing h0 re amonths afull alean alines ahasMoon amoonStart amoonStep aplaceCount areportCount adeedCount pl de kre ra r_place r_kind r_month r_day r_known r_struck gamonths gafull galean gahasMoon gaplaceCount gareportCount gadeedCount gr_place gr_month gr_struck hx hb hml hown hts hK hz hF0 hFA0 (Nat.le_of_ble_eq_true rfl) (Nat.le_of_ble_eq_true rfl) (Nat.zero_le _) (Nat.zero_le _) (fun v H locs ls hF hP hS hl => ?_) 1000000000) 0 0 _ _ _ (gi_w (gi_c 0 0 (by decide)) (by decide)) hF (by have k0 : (0 : Int32).toInt = 0 := (by decide); omega) hP hS (lv_sub hl [2, 1, 0] rfl)
  · skip
    exact W.iret (v := v) hx hb hr (fun t ht hW => ⟨⟨v, (), rfl, ⟨(gi_any v), hF.trans hR9.symm⟩, trivial⟩, hS.F ht⟩) hS.2.2 (dk_at dkX0_standing 17 rfl)
noncomputable def lsX0_knownBits : List (Nat × Instr × Nat) := [(0, .iconst 0, 1), (1, .istore_n 2, 1), (2, .iconst 0, 1), (3, .istore_n 3, 1), (4, .iload_n 3, 1), (5, .aload_n 0, 1), (6, .getfield 58, 3), (9, .if_icmp .ge 28, 3), (12, .aload_n 0, 1), (13, .getfield 19, 3), (16, .iload_n 3, 1), (17, .aaload, 1), (18, .iload_n 1, 1), (19, .invokevirtual 111, 3), (22, .ifCond .eq 9, 3), (25, .iload_n 2, 1), (26, .iconst 1, 1), (27, .iload_n 3, 1), (28, .ishl, 1), (29, .ior, 1), (30, .istore_n 2, 1), (31, .iinc 3 1, 3), (34, .goto (-30), 3), (37, .iload_n 2, 1), (38, .ireturn, 1)]
theorem dkX0_knownBits : dkAll cX0_knownBits lsX0_knownBits = true := by decide +kernel
set_option maxHeartbeats 4000000 in
set_option maxRecDepth 100000 in
theorem lp_sX0_knownBits {p : Program} {l : Launch} {e : Env} {R : Room} {s : State} {m : MethodId} {args : Array Value} {below : List Frame} {meth : Method} {c : Code} {Q : State → Prop} {A : Nat → Prop} {cells slots : Nat} {dC : Nat → ClassId} {dI : Nat → Nat → Nat} (h0 : Nat) (re : Nat) (amonths : Int32) (afull : Int32) (alean : Int32) (alines : Int32) (ahasMoon : Int32) (amoonStart : Int32) (amoonStep : Int32) (aplaceCount : Int32) (areportCount : Int32) (adeedCount : Int32) (pl : Nat) (de : Nat) (kre : ClassId) (ra : Nat → Nat) (r_place : Nat → Int32) (r_kind : Nat → Int32) (r_month : Nat → Int32) (r_day : Nat → Int32) (r_known : Nat → Int32) (r_struck : Nat → Int32) (p1 : Int32) (gamonths : gi amonths 0 24) (gafull : gi afull 0 5) (galean : gi alean 0 5) (gahasMoon : gi ahasMoon 0 1) (gaplaceCount : gi aplaceCount 0 6) (gareportCount : gi areportCount 0 24) (gadeedCount : gi adeedCount 0 8) (gr_place : ga r_place 24 0 5) (gr_month : ga r_month 24 0 23) (gr_struck : ga r_struck 24 0 1) (hx : p.tables.exec = Jvm.exec) (hb : c.code = cX0_knownBits) (hml : c.maxLocals = 4) (hown : s.vm.findClass RX0 = some m.cls) (hts : ∀ w ∈ ((.code yX0_knownBits cX0_knownBits 4 (some .int) :: wsGA) : List Cond), w.before args s = true) (hK : va_K (dC, dI) vwCl [(kre, .object RX7)] s) (hz : nzA s) (hF0 : va_P (dC, dI) vwCl (gz_fam 24 ra 7 (fun i => [.int (r_place i), .int (r_kind i), .int (r_month i), .int (r_day i), .int (r_known i), .int (r_struck i)])) s.heap) (hFA0 : gz_ap A (gz_fam 24 ra 7 (fun i => [.int (r_place i), .int (r_kind i), .int (r_month i), .int (r_day i), .int (r_known i), .int (r_struck i)]))) (hRf : 1 ≤ R.frames) (hRl : 21 ≤ R.locals) (hRc : cells ≤ R.cells) (hRs : slots ≤ R.slots) (kr38 : ∀ (v : Int32) (H : Heap) (locs : List Loc) (ls : Array Slot), va_P (dC, dI) vwCl [(h0, .inr (0, [.int amonths, .int afull, .int alean, .int alines, .int ahasMoon, .int amoonStart, .int amoonStep, .int aplaceCount, .int areportCount, .int adeedCount, .ref pl, .ref re, .ref de])), (re, .inl (kre, 24, .inr (.inr (.inr (.inr (fun i => some (ra i)))))))] H → va_S A s.heap H locs → lv_has ls 4 [] → W p l e R s m args below meth c H locs cells slots Q (F0 m 38 ls [.int v])) : ∀ z : Nat, (∀ (v2 : Int32) (v3 : Int32) (H : Heap) (locs : List Loc) (ls : Array Slot), gi v3 0 24 → 49 + (-2) * v3.toInt < (z : Int) → va_P (dC, dI) vwCl [(h0, .inr (0, [.int amonths, .int afull, .int alean, .int alines, .int ahasMoon, .int amoonStart, .int amoonStep, .int aplaceCount, .int areportCount, .int adeedCount, .ref pl, .ref re, .ref de])), (re, .inl (kre, 24, .inr (.inr (.inr (.inr (fun i => some (ra i)))))))] H → va_S A s.heap H locs → lv_has ls 4 [(0, .ref h0), (1, .int p1), (2, .int v2), (3, .int v3)] → W p l e R s m args below meth c H locs cells slots Q (F0 m 4 ls [])) := by
  intro z
  induction z with
  | zero =>
    intro v2 v3 H locs ls gv3 hmu hP hS hl
    exact absurd hmu (by have hv31 := gv3.1; have hv32 := gv3.2; omega)
  | succ z ih =>
      intro v2 v3 H locs ls gv3 hmu hP hS hl
      refine lv_iload_n hx hb (dk_at dkX0_knownBits 4 rfl) rfl (lv_at hl 3 rfl) ?_
      refine lv_aload_n hx hb (dk_at dkX0_knownBits 5 rfl) rfl (lv_at hl 0 rfl) ?_
      refine va_get (D := (dC, dI)) (ci := 0) (v := .int areportCount) (C := RX0) (T := TX0) (N := 13) hx hb hts (fun w h => List.mem_cons_of_mem _ (jnGA_X0 w h)) hown hK hP 0 rfl rfl 8 (by decide) (hts _ (List.mem_cons_of_mem _ mGA_160)) (fun _ h9 => h9) rfl (dk_at dkX0_knownBits 6 rfl) ?_
      refine lv_icmp_ge (tgt := 37) hx hb (dk_at dkX0_knownBits 7 rfl) (by decide) (fun c_166 => ?_) (fun c_166 => ?_)
      · refine lv_iload_n hx hb (dk_at dkX0_knownBits 23 rfl) rfl (lv_at hl 2 rfl) ?_
        exact kr38 v2 _ _ _ hP hS (lv_sub hl [] rfl)
      · have g_167 : gi v3 0 23 := gi_lt_l (Int32.not_le.mp c_166) gv3 gareportCount (by decide)
        have g_168 : gi areportCount 1 24 := gi_lt_r (Int32.not_le.mp c_166) gv3 gareportCount (by decide)
        refine lv_aload_n hx hb (dk_at dkX0_knownBits 8 rfl) rfl (lv_at hl 0 rfl) ?_
        refine va_get (D := (dC, dI)) (ci := 0) (v := .ref re) (C := RX0) (T := TX0) (N := 13) hx hb hts (fun w h => List.mem_cons_of_mem _ (jnGA_X0 w h)) hown hK hP 0 rfl rfl 11 (by decide) (hts _ (List.mem_cons_of_mem _ mGA_72)) (fun _ h9 => h9) rfl (dk_at dkX0_knownBits 9 rfl) ?_
        refine lv_iload_n hx hb (dk_at dkX0_knownBits 10 rfl) rfl (lv_at hl 3 rfl) ?_
        refine va_aldq hx hb hK hP 1 0 rfl rfl (gi_in g_167 (by decide)) (dk_at dkX0_knownBits 11 rfl) ?_
        refine W.eq (g2 := F0 m 18 ls [.ref (ra v3.toNatClampNeg)]) rfl ?_
        refine lv_iload_n hx hb (dk_at dkX0_knownBits 12 rfl) rfl (lv_at hl 1 rfl) ?_
        have hPc : va_P (dC, dI) vwCl [((ra v3.toNatClampNeg), .inr (7, [.int (r_place v3.toNatClampNeg), .int (r_kind v3.toNatClampNeg), .int (r_month v3.toNatClampNeg), .int (r_day v3.toNatClampNeg), .int (r_known v3.toNatClampNeg), .int (r_struck v3.toNatClampNeg)]))] H := (gz_fam1 (gz_ro hF0 hFA0 hS) (gz_clt (gi_in (n := 24) g_167 (by decide))))
        have hKc := hK.sub (tys' := []) [] rfl
        refine va_calli (va_runV (As := [.int p1]) (rest := []) ⟨hx, hb, hml, hown, hts⟩ (sX7_isKnownBy l dC dI (ra v3.toNatClampNeg) (r_place v3.toNatClampNeg) (r_kind v3.toNatClampNeg) (r_month v3.toNatClampNeg) (r_day v3.toNatClampNeg) (r_known v3.toNatClampNeg) (r_struck v3.toNatClampNeg) p1 (ga_ix gr_place (gi_in (n := 24) g_167 (by decide))) (ga_ix gr_month (gi_in (n := 24) g_167 (by decide))) (ga_ix gr_struck (gi_in (n := 24) g_167 (by decide)))) (cwV 1 hts (gz_gV mGA_437 mGA_438 mGA_439 mGA_78 mGA_440 goodGA) rfl rfl rfl (by decide +kernel) ⟨Nat.le_trans (Nat.le_of_ble_eq_true rfl) hRf, Nat.le_trans (Nat.le_of_ble_eq_true rfl) hRl⟩) ⟨bl_I (bl_a bl_P (bl_a bl_K bl_nz)), va_recv hKc hPc (ci := 7) (q0 := 0) rfl rfl, fun U hU hW => ⟨rfl, by rw [hU]; exact hPc, va_K.moved hW.alike hKc, nzA_warm hW hz⟩⟩ rfl rfl hl.1 rfl (lv_room (Nat.le_of_ble_eq_true rfl)) (dk_at dkX0_knownBits 13 rfl) ⟨hRc, hRs⟩) hS (fun q _ h => h.elim) (fun q h => h.elim) (fun r_169 u t H1 locs ht hvm hw hB hz1 hk1 hS => ?_)
        obtain ⟨hw, hE⟩ := hw
        have hP := gz_keep hP hk1
        generalize H1 = H at hP hS ⊢
        have gr_169 : gi r_169 0 1 := hw
        refine lv_if_eq (tgt := 31) hx hb (dk_at dkX0_knownBits 14 rfl) (by decide) (fun c_170 => ?_) (fun c_170 => ?_)
        · have g_171 : gi r_169 0 0 := gi_eq c_170 (gi_c 0 0 (by decide))
          obtain ⟨x_172, ex_172⟩ : ∃ y : Int32, y = v3 + 1 := ⟨_, rfl⟩
          have gx_172 : gi x_172 1 24 := gi_add ex_172 g_167 (gi_c 1 1 (by decide)) (by decide)
          refine lv_iinc (v := x_172) (lv' := [(3, .int x_172), (0, .ref h0), (1, .int p1), (2, .int v2)]) hx hb (dk_at dkX0_knownBits 21 rfl) hl (k := 3) rfl (by rw [ex_172]; rfl) (by decide) rfl (fun ls hl => ?_)
          refine lv_goto (tgt := 4) hx hb (dk_at dkX0_knownBits 22 rfl) (by decide) ?_
          exact ih v2 x_172 _ _ _ (gi_w gx_172 (by decide)) (by have av3 := gv3.1; have bv3 := gv3.2; have qgx_172 := gx_172.1; have rgx_172 := gx_172.2; have igx_172 : x_172.toInt = v3.toInt + 1 := (by have hc1 : (1 : Int32).toInt = 1 := (by decide); have h9 := gi_addI ex_172 (by have h1 := g_167.1; have h2 := (gi_c 1 1 (by decide)).1; have h3 := g_167.2; have h4 := (gi_c 1 1 (by decide)).2; omega) (by have h1 := g_167.1; have h2 := (gi_c 1 1 (by decide)).1; have h3 := g_167.2; have h4 := (gi_c 1 1 (by decide)).2; omega); rw [hc1] at h9; exact h9); have qgv3 := g_167.1; have rgv3 := g_167.2; omega) hP hS (lv_sub hl [1, 2, 3, 0] rfl)
        · have g_173 : gi r_169 1 1 := gi_ne_lo c_170 gr_169 (gi_c 0 0 (by decide)) (by decide)
          refine lv_iload_n hx hb (dk_at dkX0_knownBits 15 rfl) rfl (lv_at hl 2 rfl) ?_
          refine lv_iconst (v := 1) hx hb (dk_at dkX0_knownBits 16 rfl) (by decide) ?_
          refine lv_iload_n hx hb (dk_at dkX0_knownBits 17 rfl) rfl (lv_at hl 3 rfl) ?_
          refine lv_ishl hx hb (dk_at dkX0_knownBits 18 rfl) ?_
          refine lv_topi (fun x_174 ex_174 => ?_)
          refine lv_ior hx hb (dk_at dkX0_knownBits 19 rfl) ?_
          refine lv_topi (fun x_175 ex_175 => ?_)
          refine lv_istore_n (lv' := [(2, .int x_175), (0, .ref h0), (1, .int p1), (3, .int v3)]) hx hb (dk_at dkX0_knownBits 20 rfl) rfl hl (by decide) rfl (fun ls hl => ?_)
          obtain ⟨x_176, ex_176⟩ : ∃ y : Int32, y = v3 + 1 := ⟨_, rfl⟩
          have gx_176 : gi x_176 1 24 := gi_add ex_176 g_167 (gi_c 1 1 (by decide)) (by decide)
          refine lv_iinc (v := x_176) (lv' := [(3, .int x_176), (2, .int x_175), (0, .ref h0), (1, .int p1)]) hx hb (dk_at dkX0_knownBits 21 rfl) hl (k := 3) rfl (by rw [ex_176]; rfl) (by decide) rfl (fun ls hl => ?_)
          refine lv_goto (tgt := 4) hx hb (dk_at dkX0_knownBits 22 rfl) (by decide) ?_
          exact ih x_175 x_176 _ _ _ (gi_w gx_176 (by decide)) (by have av3 := gv3.1; have bv3 := gv3.2; have qgx_176 := gx_176.1; have rgx_176 := gx_176.2; have igx_176 : x_176.toInt = v3.toInt + 1 := (by have hc1 : (1 : Int32).toInt = 1 := (by decide); have h9 := gi_addI ex_176 (by have h1 := g_167.1; have h2 := (gi_c 1 1 (by decide)).1; have h3 := g_167.2; have h4 := (gi_c 1 1 (by decide)).2; omega) (by have h1 := g_167.1; have h2 := (gi_c 1 1 (by decide)).1; have h3 := g_167.2; have h4 := (gi_c 1 1 (by decide)).2; omega); rw [hc1] at h9; exact h9); have qgv3 := g_167.1; have rgv3 := g_167.2; omega) hP hS (lv_sub hl [2, 3, 1, 0] rfl)
set_option maxHeartbeats 4000000 in
set_option maxRecDepth 100000 in
theorem sX0_knownBits (l : Launch) (dC : Nat → ClassId) (dI : Nat → Nat → Nat) (h0 : Nat) (re : Nat) (amonths : Int32) (afull : Int32) (alean : Int32) (alines : Int32) (ahasMoon : Int32) (amoonStart : Int32) (amoonStep : Int32) (aplaceCount : Int32) (areportCount : Int32) (adeedCount : Int32) (pl : Nat) (de : Nat) (kre : ClassId) (ra : Nat → Nat) (r_place : Nat → Int32) (r_kind : Nat → Int32) (r_month : Nat → Int32) (r_day : Nat → Int32) (r_known : Nat → Int32) (r_struck : Nat → Int32) (p1 : Int32) (gamonths : gi amonths 0 24) (gafull : gi afull 0 5) (galean : gi alean 0 5) (gahasMoon : gi ahasMoon 0 1) (gaplaceCount : gi aplaceCount 0 6) (gareportCount : gi areportCount 0 24) (gadeedCount : gi adeedCount 0 8) (gr_place : ga r_place 24 0 5) (gr_month : ga r_month 24 0 23) (gr_struck : ga r_struck 24 0 1) : Met l yX0_knownBits (.code yX0_knownBits cX0_knownBits 4 (some .int) :: wsGA) ({ frames := 1, cells := 0, slots := 0, locals := 21 }) (va_Pc [.ref h0, .int p1] (fun U => va_P (dC, dI) vwCl [(h0, .inr (0, [.int amonths, .int afull, .int alean, .int alines, .int ahasMoon, .int amoonStart, .int amoonStep, .int aplaceCount, .int areportCount, .int adeedCount, .ref pl, .ref re, .ref de])), (re, .inl (kre, 24, .inr (.inr (.inr (.inr (fun i => some (ra i)))))))] U.heap ∧ va_K (dC, dI) vwCl [(kre, .object RX7)] U ∧ nzA U ∧ va_P (dC, dI) vwCl (gz_fam 24 ra 7 (fun i => [.int (r_place i), .int (r_kind i), .int (r_month i), .int (r_day i), .int (r_known i), .int (r_struck i)])) U.heap)) (va_Qi (fun (r : Int32) (u : Unit) => gi r (-2147483648) 2147483647) (fun _ _ => True) (fun _ => False)) 0 0 (fun _ => False) := by
  refine Met.ofW (cc := cX0_knownBits) (maxL := 4) (ret := (some .int)) (by decide) rfl ?_
  intro p e s m args below meth c s₁ B hml hv
  obtain ⟨rfl, hP, hK, hz, hF0⟩ := hv
  have hx := B.exec
  have hb := B.bytes
  have hr := B.returns
  have hts := atoms_spec (ws := (.code yX0_knownBits cX0_knownBits 4 (some .int) :: wsGA)) B.pre
  have hown : s.vm.findClass RX0 = some m.cls := findClass_of_methodNamed B.named
  have hlocks := B.notSynchronized
  have hS : va_S (fun _ => False) s.heap s.heap [] := va_S.rf
  have hFA0 : gz_ap (fun _ => False) (gz_fam 24 ra 7 (fun i => [.int (r_place i), .int (r_kind i), .int (r_month i), .int (r_day i), .int (r_known i), .int (r_struck i)])) := gz_ap0
  have hl := lv_entry ([.ref h0, .int p1]) (n := 4) (Nat.le_of_ble_eq_true rfl)
  rw [lg_entry_eq]
  generalize (lg_sl ([.ref h0, .int p1]) ++ List.replicate (4 - (lg_sl ([.ref h0, .int p1])).length) Slot.unset).toArray = ls at hl ⊢
  have hl : lv_has ls 4 [(0, .ref h0), (1, .int p1)] := hl
  refine lv_iconst (v := 0) hx hb (dk_at dkX0_knownBits 0 rfl) (by decide) ?_
  refine lv_istore_n (lv' := [(2, .int 0), (0, .ref h0), (1, .int p1)]) hx hb (dk_at dkX0_knownBits 1 rfl) rfl hl (by decide) rfl (fun ls hl => ?_)
  refine lv_iconst (v := 0) hx hb (dk_at dkX0_knownBits 2 rfl) (by decide) ?_
  refine lv_istore_n (lv' := [(3, .int 0), (2, .int 0), (0, .ref h0), (1, .int p1)]) hx hb (dk_at dkX0_knownBits 3 rfl) rfl hl (by decide) rfl (fun ls hl => ?_)
  refine (lp_sX0_knownBits h0 re amonths afull alean alines ahasMoon amoonStart amoonStep aplaceCount areportCount adeedCount pl de kre ra r_place r_kind r_month r_day r_known r_struck p1 gamonths gafull galean gahasMoon gaplaceCount gareportCount gadeedCount gr_place gr_month gr_struck hx hb hml hown hts hK hz hF0 hFA0 (Nat.le_of_ble_eq_true rfl) (Nat.le_of_ble_eq_true rfl) (Nat.zero_le _) (Nat.zero_le _) (fun v H locs ls hP hS hl => ?_) 62) 0 0 _ _ _ (gi_w (gi_c 0 0 (by decide)) (by decide)) (by have k0 : (0 : Int32).toInt = 0 := (by decide); omega) hP hS (lv_sub hl [2, 3, 1, 0] rfl)
  · skip
    exact W.iret (v := v) hx hb hr (fun t ht hW => ⟨⟨v, (), rfl, (gi_any v), trivial⟩, hS.F ht⟩) hS.2.2 (dk_at dkX0_knownBits 24 rfl)
noncomputable def lsX0_latestNews : List (Nat × Instr × Nat) := [(0, .iconst (-1), 1), (1, .istore_n 2, 1), (2, .iconst 0, 1), (3, .istore_n 3, 1), (4, .iload_n 3, 1), (5, .aload_n 0, 1), (6, .getfield 58, 3), (9, .if_icmp .ge 36, 3), (12, .aload_n 0, 1), (13, .getfield 19, 3), (16, .iload_n 3, 1), (17, .aaload, 1), (18, .iload_n 1, 1), (19, .invokevirtual 111, 3), (22, .ifCond .eq 17, 3), (25, .iload_n 2, 1), (26, .aload_n 0, 1), (27, .getfield 19, 3), (30, .iload_n 3, 1), (31, .aaload, 1), (32, .getfield 89, 3), (35, .invokestatic 115, 3), (38, .istore_n 2, 1), (39, .iinc 3 1, 3), (42, .goto (-38), 3), (45, .iload_n 2, 1), (46, .ireturn, 1)]
theorem dkX0_latestNews : dkAll cX0_latestNews lsX0_latestNews = true := by decide +kernel
set_option maxHeartbeats 4000000 in
set_option maxRecDepth 100000 in
theorem lp_sX0_latestNews {p : Program} {l : Launch} {e : Env} {R : Room} {s : State} {m : MethodId} {args : Array Value} {below : List Frame} {meth : Method} {c : Code} {Q : State → Prop} {A : Nat → Prop} {cells slots : Nat} {dC : Nat → ClassId} {dI : Nat → Nat → Nat} (h0 : Nat) (re : Nat) (amonths : Int32) (afull : Int32) (alean : Int32) (alines : Int32) (ahasMoon : Int32) (amoonStart : Int32) (amoonStep : Int32) (aplaceCount : Int32) (areportCount : Int32) (adeedCount : Int32) (pl : Nat) (de : Nat) (kre : ClassId) (ra : Nat → Nat) (r_place : Nat → Int32) (r_kind : Nat → Int32) (r_month : Nat → Int32) (r_day : Nat → Int32) (r_known : Nat → Int32) (r_struck : Nat → Int32) (p1 : Int32) (gamonths : gi amonths 0 24) (gafull : gi afull 0 5) (galean : gi alean 0 5) (gahasMoon : gi ahasMoon 0 1) (gaplaceCount : gi aplaceCount 0 6) (gareportCount : gi areportCount 0 24) (gadeedCount : gi adeedCount 0 8) (gr_place : ga r_place 24 0 5) (gr_month : ga r_month 24 0 23) (gr_struck : ga r_struck 24 0 1) (hx : p.tables.exec = Jvm.exec) (hb : c.code = cX0_latestNews) (hml : c.maxLocals = 4) (hown : s.vm.findClass RX0 = some m.cls) (hts : ∀ w ∈ ((.code yX0_latestNews cX0_latestNews 4 (some .int) :: wsGA) : List Cond), w.before args s = true) (hK : va_K (dC, dI) vwCl [(kre, .object RX7)] s) (hz : nzA s) (hF0 : va_P (dC, dI) vwCl (gz_fam 24 ra 7 (fun i => [.int (r_place i), .int (r_kind i), .int (r_month i), .int (r_day i), .int (r_known i), .int (r_struck i)])) s.heap) (hFA0 : gz_ap A (gz_fam 24 ra 7 (fun i => [.int (r_place i), .int (r_kind i), .int (r_month i), .int (r_day i), .int (r_known i), .int (r_struck i)]))) (hRf : 1 ≤ R.frames) (hRl : 21 ≤ R.locals) (hRc : cells ≤ R.cells) (hRs : slots ≤ R.slots) (kr46 : ∀ (v : Int32) (H : Heap) (locs : List Loc) (ls : Array Slot), gi v (-1) 2147483647 → va_P (dC, dI) vwCl [(h0, .inr (0, [.int amonths, .int afull, .int alean, .int alines, .int ahasMoon, .int amoonStart, .int amoonStep, .int aplaceCount, .int areportCount, .int adeedCount, .ref pl, .ref re, .ref de])), (re, .inl (kre, 24, .inr (.inr (.inr (.inr (fun i => some (ra i)))))))] H → va_S A s.heap H locs → lv_has ls 4 [] → W p l e R s m args below meth c H locs cells slots Q (F0 m 46 ls [.int v])) : ∀ z : Nat, (∀ (v2 : Int32) (v3 : Int32) (H : Heap) (locs : List Loc) (ls : Array Slot), gi v2 (-1) 2147483647 → gi v3 0 24 → 49 + (-2) * v3.toInt < (z : Int) → va_P (dC, dI) vwCl [(h0, .inr (0, [.int amonths, .int afull, .int alean, .int alines, .int ahasMoon, .int amoonStart, .int amoonStep, .int aplaceCount, .int areportCount, .int adeedCount, .ref pl, .ref re, .ref de])), (re, .inl (kre, 24, .inr (.inr (.inr (.inr (fun i => some (ra i)))))))] H → va_S A s.heap H locs → lv_has ls 4 [(0, .ref h0), (1, .int p1), (2, .int v2), (3, .int v3)] → W p l e R s m args below meth c H locs cells slots Q (F0 m 4 ls [])) := by
  intro z
  induction z with
  | zero =>
    intro v2 v3 H locs ls gv2 gv3 hmu hP hS hl
    exact absurd hmu (by have hv31 := gv3.1; have hv32 := gv3.2; omega)
  | succ z ih =>
      intro v2 v3 H locs ls gv2 gv3 hmu hP hS hl
      refine lv_iload_n hx hb (dk_at dkX0_latestNews 4 rfl) rfl (lv_at hl 3 rfl) ?_
      refine lv_aload_n hx hb (dk_at dkX0_latestNews 5 rfl) rfl (lv_at hl 0 rfl) ?_
      refine va_get (D := (dC, dI)) (ci := 0) (v := .int areportCount) (C := RX0) (T := TX0) (N := 13) hx hb hts (fun w h => List.mem_cons_of_mem _ (jnGA_X0 w h)) hown hK hP 0 rfl rfl 8 (by decide) (hts _ (List.mem_cons_of_mem _ mGA_160)) (fun _ h9 => h9) rfl (dk_at dkX0_latestNews 6 rfl) ?_
      refine lv_icmp_ge (tgt := 45) hx hb (dk_at dkX0_latestNews 7 rfl) (by decide) (fun c_166 => ?_) (fun c_166 => ?_)
      · refine lv_iload_n hx hb (dk_at dkX0_latestNews 25 rfl) rfl (lv_at hl 2 rfl) ?_
        exact kr46 v2 _ _ _ gv2 hP hS (lv_sub hl [] rfl)
      · have g_167 : gi v3 0 23 := gi_lt_l (Int32.not_le.mp c_166) gv3 gareportCount (by decide)
        have g_168 : gi areportCount 1 24 := gi_lt_r (Int32.not_le.mp c_166) gv3 gareportCount (by decide)
        refine lv_aload_n hx hb (dk_at dkX0_latestNews 8 rfl) rfl (lv_at hl 0 rfl) ?_
        refine va_get (D := (dC, dI)) (ci := 0) (v := .ref re) (C := RX0) (T := TX0) (N := 13) hx hb hts (fun w h => List.mem_cons_of_mem _ (jnGA_X0 w h)) hown hK hP 0 rfl rfl 11 (by decide) (hts _ (List.mem_cons_of_mem _ mGA_72)) (fun _ h9 => h9) rfl (dk_at dkX0_latestNews 9 rfl) ?_
        refine lv_iload_n hx hb (dk_at dkX0_latestNews 10 rfl) rfl (lv_at hl 3 rfl) ?_
        refine va_aldq hx hb hK hP 1 0 rfl rfl (gi_in g_167 (by decide)) (dk_at dkX0_latestNews 11 rfl) ?_
        refine W.eq (g2 := F0 m 18 ls [.ref (ra v3.toNatClampNeg)]) rfl ?_
        refine lv_iload_n hx hb (dk_at dkX0_latestNews 12 rfl) rfl (lv_at hl 1 rfl) ?_
        have hPc : va_P (dC, dI) vwCl [((ra v3.toNatClampNeg), .inr (7, [.int (r_place v3.toNatClampNeg), .int (r_kind v3.toNatClampNeg), .int (r_month v3.toNatClampNeg), .int (r_day v3.toNatClampNeg), .int (r_known v3.toNatClampNeg), .int (r_struck v3.toNatClampNeg)]))] H := (gz_fam1 (gz_ro hF0 hFA0 hS) (gz_clt (gi_in (n := 24) g_167 (by decide))))
        have hKc := hK.sub (tys' := []) [] rfl
        refine va_calli (va_runV (As := [.int p1]) (rest := []) ⟨hx, hb, hml, hown, hts⟩ (sX7_isKnownBy l dC dI (ra v3.toNatClampNeg) (r_place v3.toNatClampNeg) (r_kind v3.toNatClampNeg) (r_month v3.toNatClampNeg) (r_day v3.toNatClampNeg) (r_known v3.toNatClampNeg) (r_struck v3.toNatClampNeg) p1 (ga_ix gr_place (gi_in (n := 24) g_167 (by decide))) (ga_ix gr_month (gi_in (n := 24) g_167 (by decide))) (ga_ix gr_struck (gi_in (n := 24) g_167 (by decide)))) (cwV 1 hts (gz_gV mGA_437 mGA_438 mGA_439 mGA_78 mGA_440 goodGA) rfl rfl rfl (by decide +kernel) ⟨Nat.le_trans (Nat.le_of_ble_eq_true rfl) hRf, Nat.le_trans (Nat.le_of_ble_eq_true rfl) hRl⟩) ⟨bl_I (bl_a bl_P (bl_a bl_K bl_nz)), va_recv hKc hPc (ci := 7) (q0 := 0) rfl rfl, fun U hU hW => ⟨rfl, by rw [hU]; exact hPc, va_K.moved hW.alike hKc, nzA_warm hW hz⟩⟩ rfl rfl hl.1 rfl (lv_room (Nat.le_of_ble_eq_true rfl)) (dk_at dkX0_latestNews 13 rfl) ⟨hRc, hRs⟩) hS (fun q _ h => h.elim) (fun q h => h.elim) (fun r_169 u t H1 locs ht hvm hw hB hz1 hk1 hS => ?_)
        obtain ⟨hw, hE⟩ := hw
        have hP := gz_keep hP hk1
        generalize H1 = H at hP hS ⊢
        have gr_169 : gi r_169 0 1 := hw
        refine lv_if_eq (tgt := 39) hx hb (dk_at dkX0_latestNews 14 rfl) (by decide) (fun c_170 => ?_) (fun c_170 => ?_)
        · have g_171 : gi r_169 0 0 := gi_eq c_170 (gi_c 0 0 (by decide))
          obtain ⟨x_172, ex_172⟩ : ∃ y : Int32, y = v3 + 1 := ⟨_, rfl⟩
          have gx_172 : gi x_172 1 24 := gi_add ex_172 g_167 (gi_c 1 1 (by decide)) (by decide)
          refine lv_iinc (v := x_172) (lv' := [(3, .int x_172), (0, .ref h0), (1, .int p1), (2, .int v2)]) hx hb (dk_at dkX0_latestNews 23 rfl) hl (k := 3) rfl (by rw [ex_172]; rfl) (by decide) rfl (fun ls hl => ?_)
          refine lv_goto (tgt := 4) hx hb (dk_at dkX0_latestNews 24 rfl) (by decide) ?_
          exact ih v2 x_172 _ _ _ gv2 (gi_w gx_172 (by decide)) (by have av3 := gv3.1; have bv3 := gv3.2; have qgx_172 := gx_172.1; have rgx_172 := gx_172.2; have igx_172 : x_172.toInt = v3.toInt + 1 := (by have hc1 : (1 : Int32).toInt = 1 := (by decide); have h9 := gi_addI ex_172 (by have h1 := g_167.1; have h2 := (gi_c 1 1 (by decide)).1; have h3 := g_167.2; have h4 := (gi_c 1 1 (by decide)).2; omega) (by have h1 := g_167.1; have h2 := (gi_c 1 1 (by decide)).1; have h3 := g_167.2; have h4 := (gi_c 1 1 (by decide)).2; omega); rw [hc1] at h9; exact h9); have qgv3 := g_167.1; have rgv3 := g_167.2; omega) hP hS (lv_sub hl [1, 2, 3, 0] rfl)
        · have g_173 : gi r_169 1 1 := gi_ne_lo c_170 gr_169 (gi_c 0 0 (by decide)) (by decide)
          refine lv_iload_n hx hb (dk_at dkX0_latestNews 15 rfl) rfl (lv_at hl 2 rfl) ?_
          refine lv_aload_n hx hb (dk_at dkX0_latestNews 16 rfl) rfl (lv_at hl 0 rfl) ?_
          refine va_get (D := (dC, dI)) (ci := 0) (v := .ref re) (C := RX0) (T := TX0) (N := 13) hx hb hts (fun w h => List.mem_cons_of_mem _ (jnGA_X0 w h)) hown hK hP 0 rfl rfl 11 (by decide) (hts _ (List.mem_cons_of_mem _ mGA_72)) (fun _ h9 => h9) rfl (dk_at dkX0_latestNews 17 rfl) ?_
          refine lv_iload_n hx hb (dk_at dkX0_latestNews 18 rfl) rfl (lv_at hl 3 rfl) ?_
          refine va_aldq hx hb hK hP 1 0 rfl rfl (gi_in g_167 (by decide)) (dk_at dkX0_latestNews 19 rfl) ?_
          refine W.eq (g2 := F0 m 32 ls [.ref (ra v3.toNatClampNeg), .int v2]) rfl ?_
          refine va_get (D := (dC, dI)) (ci := 7) (v := .int (r_known v3.toNatClampNeg)) (C := RX7) (T := TX7) (N := 6) hx hb hts (fun w h => List.mem_cons_of_mem _ (jnGA_X7 w h)) hown hK (gz_ro hF0 hFA0 hS) (v3.toNatClampNeg) (gz_fam_at (gz_clt (gi_in (n := 24) g_167 (by decide)))) rfl 4 (by decide) (hts _ (List.mem_cons_of_mem _ mGA_321)) (fun _ h9 => h9) rfl (dk_at dkX0_latestNews 20 rfl) ?_
          refine lv_topi (fun x_174 ex_174 => ?_)
          refine va_mmax (own := RX0) hx hb (by rw [hml]; exact hl.1.symm) hown (hts _ (List.mem_cons_of_mem _ mGA_436)) (hts _ (List.mem_cons_of_mem _ mGA_344)) (hts _ (List.mem_cons_of_mem _ mGA_269)) (hts _ (List.mem_cons_of_mem _ mGA_345)) (Nat.le_trans (Nat.le_of_ble_eq_true rfl) hRf) (Nat.le_trans (Nat.le_of_ble_eq_true rfl) hRl) hRc hRs (dk_at dkX0_latestNews 21 rfl) ?_
          refine lv_topi (fun x_175 ex_175 => ?_)
          have gx_175 : gi x_175 (-1) 2147483647 := gi_max ex_175 gv2 (gi_any x_174) (by decide)
          refine lv_istore_n (lv' := [(2, .int x_175), (0, .ref h0), (1, .int p1), (3, .int v3)]) hx hb (dk_at dkX0_latestNews 22 rfl) rfl hl (by decide) rfl (fun ls hl => ?_)
          obtain ⟨x_176, ex_176⟩ : ∃ y : Int32, y = v3 + 1 := ⟨_, rfl⟩
          have gx_176 : gi x_176 1 24 := gi_add ex_176 g_167 (gi_c 1 1 (by decide)) (by decide)
          refine lv_iinc (v := x_176) (lv' := [(3, .int x_176), (2, .int x_175), (0, .ref h0), (1, .int p1)]) hx hb (dk_at dkX0_latestNews 23 rfl) hl (k := 3) rfl (by rw [ex_176]; rfl) (by decide) rfl (fun ls hl => ?_)
          refine lv_goto (tgt := 4) hx hb (dk_at dkX0_latestNews 24 rfl) (by decide) ?_
          exact ih x_175 x_176 _ _ _ gx_175 (gi_w gx_176 (by decide)) (by have av3 := gv3.1; have bv3 := gv3.2; have qgx_176 := gx_176.1; have rgx_176 := gx_176.2; have igx_176 : x_176.toInt = v3.toInt + 1 := (by have hc1 : (1 : Int32).toInt = 1 := (by decide); have h9 := gi_addI ex_176 (by have h1 := g_167.1; have h2 := (gi_c 1 1 (by decide)).1; have h3 := g_167.2; have h4 := (gi_c 1 1 (by decide)).2; omega) (by have h1 := g_167.1; have h2 := (gi_c 1 1 (by decide)).1; have h3 := g_167.2; have h4 := (gi_c 1 1 (by decide)).2; omega); rw [hc1] at h9; exact h9); have qgv3 := g_167.1; have rgv3 := g_167.2; omega) hP hS (lv_sub hl [2, 3, 1, 0] rfl)
set_option maxHeartbeats 4000000 in
set_option maxRecDepth 100000 in
theorem sX0_latestNews (l : Launch) (dC : Nat → ClassId) (dI : Nat → Nat → Nat) (h0 : Nat) (re : Nat) (amonths : Int32) (afull : Int32) (alean : Int32) (alines : Int32) (ahasMoon : Int32) (amoonStart : Int32) (amoonStep : Int32) (aplaceCount : Int32) (areportCount : Int32) (adeedCount : Int32) (pl : Nat) (de : Nat) (kre : ClassId) (ra : Nat → Nat) (r_place : Nat → Int32) (r_kind : Nat → Int32) (r_month : Nat → Int32) (r_day : Nat → Int32) (r_known : Nat → Int32) (r_struck : Nat → Int32) (p1 : Int32) (gamonths : gi amonths 0 24) (gafull : gi afull 0 5) (galean : gi alean 0 5) (gahasMoon : gi ahasMoon 0 1) (gaplaceCount : gi aplaceCount 0 6) (gareportCount : gi areportCount 0 24) (gadeedCount : gi adeedCount 0 8) (gr_place : ga r_place 24 0 5) (gr_month : ga r_month 24 0 23) (gr_struck : ga r_struck 24 0 1) : Met l yX0_latestNews (.code yX0_latestNews cX0_latestNews 4 (some .int) :: wsGA) ({ frames := 1, cells := 0, slots := 0, locals := 21 }) (va_Pc [.ref h0, .int p1] (fun U => va_P (dC, dI) vwCl [(h0, .inr (0, [.int amonths, .int afull, .int alean, .int alines, .int ahasMoon, .int amoonStart, .int amoonStep, .int aplaceCount, .int areportCount, .int adeedCount, .ref pl, .ref re, .ref de])), (re, .inl (kre, 24, .inr (.inr (.inr (.inr (fun i => some (ra i)))))))] U.heap ∧ va_K (dC, dI) vwCl [(kre, .object RX7)] U ∧ nzA U ∧ va_P (dC, dI) vwCl (gz_fam 24 ra 7 (fun i => [.int (r_place i), .int (r_kind i), .int (r_month i), .int (r_day i), .int (r_known i), .int (r_struck i)])) U.heap)) (va_Qi (fun (r : Int32) (u : Unit) => gi r (-1) 2147483647) (fun _ _ => True) (fun _ => False)) 0 0 (fun _ => False) := by
  refine Met.ofW (cc := cX0_latestNews) (maxL := 4) (ret := (some .int)) (by decide) rfl ?_
  intro p e s m args below meth c s₁ B hml hv
  obtain ⟨rfl, hP, hK, hz, hF0⟩ := hv
  have hx := B.exec
  have hb := B.bytes
  have hr := B.returns
  have hts := atoms_spec (ws := (.code yX0_latestNews cX0_latestNews 4 (some .int) :: wsGA)) B.pre
  have hown : s.vm.findClass RX0 = some m.cls := findClass_of_methodNamed B.named
  have hlocks := B.notSynchronized
  have hS : va_S (fun _ => False) s.heap s.heap [] := va_S.rf
  have hFA0 : gz_ap (fun _ => False) (gz_fam 24 ra 7 (fun i => [.int (r_place i), .int (r_kind i), .int (r_month i), .int (r_day i), .int (r_known i), .int (r_struck i)])) := gz_ap0
  have hl := lv_entry ([.ref h0, .int p1]) (n := 4) (Nat.le_of_ble_eq_true rfl)
  rw [lg_entry_eq]
  generalize (lg_sl ([.ref h0, .int p1]) ++ List.replicate (4 - (lg_sl ([.ref h0, .int p1])).length) Slot.unset).toArray = ls at hl ⊢
  have hl : lv_has ls 4 [(0, .ref h0), (1, .int p1)] := hl
  refine lv_iconst (v := (-1)) hx hb (dk_at dkX0_latestNews 0 rfl) (by decide) ?_
  refine lv_istore_n (lv' := [(2, .int (-1)), (0, .ref h0), (1, .int p1)]) hx hb (dk_at dkX0_latestNews 1 rfl) rfl hl (by decide) rfl (fun ls hl => ?_)
  refine lv_iconst (v := 0) hx hb (dk_at dkX0_latestNews 2 rfl) (by decide) ?_
  refine lv_istore_n (lv' := [(3, .int 0), (2, .int (-1)), (0, .ref h0), (1, .int p1)]) hx hb (dk_at dkX0_latestNews 3 rfl) rfl hl (by decide) rfl (fun ls hl => ?_)
  refine (lp_sX0_latestNews h0 re amonths afull alean alines ahasMoon amoonStart amoonStep aplaceCount areportCount adeedCount pl de kre ra r_place r_kind r_month r_day r_known r_struck p1 gamonths gafull galean gahasMoon gaplaceCount gareportCount gadeedCount gr_place gr_month gr_struck hx hb hml hown hts hK hz hF0 hFA0 (Nat.le_of_ble_eq_true rfl) (Nat.le_of_ble_eq_true rfl) (Nat.zero_le _) (Nat.zero_le _) (fun v H locs ls gv hP hS hl => ?_) 62) (-1) 0 _ _ _ (gi_w (gi_c (-1) (-1) (by decide)) (by decide)) (gi_w (gi_c 0 0 (by decide)) (by decide)) (by have k0 : (0 : Int32).toInt = 0 := (by decide); omega) hP hS (lv_sub hl [2, 3, 1, 0] rfl)
  · skip
    exact W.iret (v := v) hx hb hr (fun t ht hW => ⟨⟨v, (), rfl, gv, trivial⟩, hS.F ht⟩) hS.2.2 (dk_at dkX0_latestNews 26 rfl)
noncomputable def lsX0_newsBehind : List (Nat × Instr × Nat) := [(0, .sipush 1000, 3), (3, .istore_n 2, 1), (4, .iconst 0, 1), (5, .istore_n 3, 1), (6, .iload_n 3, 1), (7, .aload_n 0, 1), (8, .getfield 58, 3), (11, .if_icmp .ge 48, 3), (14, .aload_n 0, 1), (15, .getfield 19, 3), (18, .iload_n 3, 1), (19, .aaload, 1), (20, .getfield 96, 3), (23, .ifCond .ne 30, 3), (26, .aload_n 0, 1), (27, .getfield 19, 3), (30, .iload_n 3, 1), (31, .aaload, 1), (32, .getfield 89, 3), (35, .iload_n 1, 1), (36, .if_icmp .le 17, 3), (39, .iload_n 2, 1), (40, .aload_n 0, 1), (41, .getfield 19, 3), (44, .iload_n 3, 1), (45, .aaload, 1), (46, .getfield 89, 3), (49, .invokestatic 121, 3), (52, .istore_n 2, 1), (53, .iinc 3 1, 3), (56, .goto (-50), 3), (59, .iload_n 2, 1), (60, .ireturn, 1)]
theorem dkX0_newsBehind : dkAll cX0_newsBehind lsX0_newsBehind = true := by decide +kernel
set_option maxHeartbeats 4000000 in
set_option maxRecDepth 100000 in
theorem lp_sX0_newsBehind {p : Program} {l : Launch} {e : Env} {R : Room} {s : State} {m : MethodId} {args : Array Value} {below : List Frame} {meth : Method} {c : Code} {Q : State → Prop} {A : Nat → Prop} {cells slots : Nat} {dC : Nat → ClassId} {dI : Nat → Nat → Nat} (h0 : Nat) (re : Nat) (amonths : Int32) (afull : Int32) (alean : Int32) (alines : Int32) (ahasMoon : Int32) (amoonStart : Int32) (amoonStep : Int32) (aplaceCount : Int32) (areportCount : Int32) (adeedCount : Int32) (pl : Nat) (de : Nat) (kre : ClassId) (ra : Nat → Nat) (r_place : Nat → Int32) (r_kind : Nat → Int32) (r_month : Nat → Int32) (r_day : Nat → Int32) (r_known : Nat → Int32) (r_struck : Nat → Int32) (p1 : Int32) (gamonths : gi amonths 0 24) (gafull : gi afull 0 5) (galean : gi alean 0 5) (gahasMoon : gi ahasMoon 0 1) (gaplaceCount : gi aplaceCount 0 6) (gareportCount : gi areportCount 0 24) (gadeedCount : gi adeedCount 0 8) (gr_place : ga r_place 24 0 5) (gr_month : ga r_month 24 0 23) (gr_struck : ga r_struck 24 0 1) (hx : p.tables.exec = Jvm.exec) (hb : c.code = cX0_newsBehind) (hml : c.maxLocals = 4) (hown : s.vm.findClass RX0 = some m.cls) (hts : ∀ w ∈ ((.code yX0_newsBehind cX0_newsBehind 4 (some .int) :: wsGA) : List Cond), w.before args s = true) (hK : va_K (dC, dI) vwCl [(kre, .object RX7)] s) (hz : nzA s) (hF0 : va_P (dC, dI) vwCl (gz_fam 24 ra 7 (fun i => [.int (r_place i), .int (r_kind i), .int (r_month i), .int (r_day i), .int (r_known i), .int (r_struck i)])) s.heap) (hFA0 : gz_ap A (gz_fam 24 ra 7 (fun i => [.int (r_place i), .int (r_kind i), .int (r_month i), .int (r_day i), .int (r_known i), .int (r_struck i)]))) (hRf : 1 ≤ R.frames) (hRl : 13 ≤ R.locals) (hRc : cells ≤ R.cells) (hRs : slots ≤ R.slots) (kr60 : ∀ (v : Int32) (H : Heap) (locs : List Loc) (ls : Array Slot), gi v (-2147483648) 1000 → va_P (dC, dI) vwCl [(h0, .inr (0, [.int amonths, .int afull, .int alean, .int alines, .int ahasMoon, .int amoonStart, .int amoonStep, .int aplaceCount, .int areportCount, .int adeedCount, .ref pl, .ref re, .ref de])), (re, .inl (kre, 24, .inr (.inr (.inr (.inr (fun i => some (ra i)))))))] H → va_S A s.heap H locs → lv_has ls 4 [] → W p l e R s m args below meth c H locs cells slots Q (F0 m 60 ls [.int v])) : ∀ z : Nat, (∀ (v2 : Int32) (v3 : Int32) (H : Heap) (locs : List Loc) (ls : Array Slot), gi v2 (-2147483648) 1000 → gi v3 0 24 → 49 + (-2) * v3.toInt < (z : Int) → va_P (dC, dI) vwCl [(h0, .inr (0, [.int amonths, .int afull, .int alean, .int alines, .int ahasMoon, .int amoonStart, .int amoonStep, .int aplaceCount, .int areportCount, .int adeedCount, .ref pl, .ref re, .ref de])), (re, .inl (kre, 24, .inr (.inr (.inr (.inr (fun i => some (ra i)))))))] H → va_S A s.heap H locs → lv_has ls 4 [(0, .ref h0), (1, .int p1), (2, .int v2), (3, .int v3)] → W p l e R s m args below meth c H locs cells slots Q (F0 m 6 ls [])) := by
  intro z
  induction z with
  | zero =>
    intro v2 v3 H locs ls gv2 gv3 hmu hP hS hl
    exact absurd hmu (by have hv31 := gv3.1; have hv32 := gv3.2; omega)
  | succ z ih =>
      intro v2 v3 H locs ls gv2 gv3 hmu hP hS hl
      refine lv_iload_n hx hb (dk_at dkX0_newsBehind 4 rfl) rfl (lv_at hl 3 rfl) ?_
      refine lv_aload_n hx hb (dk_at dkX0_newsBehind 5 rfl) rfl (lv_at hl 0 rfl) ?_
      refine va_get (D := (dC, dI)) (ci := 0) (v := .int areportCount) (C := RX0) (T := TX0) (N := 13) hx hb hts (fun w h => List.mem_cons_of_mem _ (jnGA_X0 w h)) hown hK hP 0 rfl rfl 8 (by decide) (hts _ (List.mem_cons_of_mem _ mGA_160)) (fun _ h9 => h9) rfl (dk_at dkX0_newsBehind 6 rfl) ?_
      refine lv_icmp_ge (tgt := 59) hx hb (dk_at dkX0_newsBehind 7 rfl) (by decide) (fun c_241 => ?_) (fun c_241 => ?_)
      · refine lv_iload_n hx hb (dk_at dkX0_newsBehind 31 rfl) rfl (lv_at hl 2 rfl) ?_
        exact kr60 v2 _ _ _ gv2 hP hS (lv_sub hl [] rfl)
      · have g_242 : gi v3 0 23 := gi_lt_l (Int32.not_le.mp c_241) gv3 gareportCount (by decide)
        have g_243 : gi areportCount 1 24 := gi_lt_r (Int32.not_le.mp c_241) gv3 gareportCount (by decide)
        refine lv_aload_n hx hb (dk_at dkX0_newsBehind 8 rfl) rfl (lv_at hl 0 rfl) ?_
        refine va_get (D := (dC, dI)) (ci := 0) (v := .ref re) (C := RX0) (T := TX0) (N := 13) hx hb hts (fun w h => List.mem_cons_of_mem _ (jnGA_X0 w h)) hown hK hP 0 rfl rfl 11 (by decide) (hts _ (List.mem_cons_of_mem _ mGA_72)) (fun _ h9 => h9) rfl (dk_at dkX0_newsBehind 9 rfl) ?_
        refine lv_iload_n hx hb (dk_at dkX0_newsBehind 10 rfl) rfl (lv_at hl 3 rfl) ?_
        refine va_aldq hx hb hK hP 1 0 rfl rfl (gi_in g_242 (by decide)) (dk_at dkX0_newsBehind 11 rfl) ?_
        refine W.eq (g2 := F0 m 20 ls [.ref (ra v3.toNatClampNeg)]) rfl ?_
        refine va_get (D := (dC, dI)) (ci := 7) (v := .int (r_struck v3.toNatClampNeg)) (C := RX7) (T := TX7) (N := 6) hx hb hts (fun w h => List.mem_cons_of_mem _ (jnGA_X7 w h)) hown hK (gz_ro hF0 hFA0 hS) (v3.toNatClampNeg) (gz_fam_at (gz_clt (gi_in (n := 24) g_242 (by decide)))) rfl 5 (by decide) (hts _ (List.mem_cons_of_mem _ mGA_322)) (fun _ h9 => h9) rfl (dk_at dkX0_newsBehind 12 rfl) ?_
        refine lv_topi (fun x_244 ex_244 => ?_)
        have gx_244 : gi x_244 0 1 := ga_at gr_struck (gi_in (n := 24) g_242 (by decide)) ex_244
        refine lv_if_ne (tgt := 53) hx hb (dk_at dkX0_newsBehind 13 rfl) (by decide) (fun c_245 => ?_) (fun c_245 => ?_)
        · have g_246 : gi x_244 1 1 := gi_ne_lo c_245 gx_244 (gi_c 0 0 (by decide)) (by decide)
          obtain ⟨x_247, ex_247⟩ : ∃ y : Int32, y = v3 + 1 := ⟨_, rfl⟩
          have gx_247 : gi x_247 1 24 := gi_add ex_247 g_242 (gi_c 1 1 (by decide)) (by decide)
          refine lv_iinc (v := x_247) (lv' := [(3, .int x_247), (0, .ref h0), (1, .int p1), (2, .int v2)]) hx hb (dk_at dkX0_newsBehind 29 rfl) hl (k := 3) rfl (by rw [ex_247]; rfl) (by decide) rfl (fun ls hl => ?_)
          refine lv_goto (tgt := 6) hx hb (dk_at dkX0_newsBehind 30 rfl) (by decide) ?_
          exact ih v2 x_247 _ _ _ gv2 (gi_w gx_247 (by decide)) (by have av3 := gv3.1; have bv3 := gv3.2; have qgx_247 := gx_247.1; have rgx_247 := gx_247.2; have igx_247 : x_247.toInt = v3.toInt + 1 := (by have hc1 : (1 : Int32).toInt = 1 := (by decide); have h9 := gi_addI ex_247 (by have h1 := g_242.1; have h2 := (gi_c 1 1 (by decide)).1; have h3 := g_242.2; have h4 := (gi_c 1 1 (by decide)).2; omega) (by have h1 := g_242.1; have h2 := (gi_c 1 1 (by decide)).1; have h3 := g_242.2; have h4 := (gi_c 1 1 (by decide)).2; omega); rw [hc1] at h9; exact h9); have qgv3 := g_242.1; have rgv3 := g_242.2; omega) hP hS (lv_sub hl [1, 2, 3, 0] rfl)
        · have g_248 : gi x_244 0 0 := gi_eq c_245 (gi_c 0 0 (by decide))
          refine lv_aload_n hx hb (dk_at dkX0_newsBehind 14 rfl) rfl (lv_at hl 0 rfl) ?_
          refine va_get (D := (dC, dI)) (ci := 0) (v := .ref re) (C := RX0) (T := TX0) (N := 13) hx hb hts (fun w h => List.mem_cons_of_mem _ (jnGA_X0 w h)) hown hK hP 0 rfl rfl 11 (by decide) (hts _ (List.mem_cons_of_mem _ mGA_72)) (fun _ h9 => h9) rfl (dk_at dkX0_newsBehind 15 rfl) ?_
          refine lv_iload_n hx hb (dk_at dkX0_newsBehind 16 rfl) rfl (lv_at hl 3 rfl) ?_
          refine va_aldq hx hb hK hP 1 0 rfl rfl (gi_in g_242 (by decide)) (dk_at dkX0_newsBehind 17 rfl) ?_
          refine W.eq (g2 := F0 m 32 ls [.ref (ra v3.toNatClampNeg)]) rfl ?_
          refine va_get (D := (dC, dI)) (ci := 7) (v := .int (r_known v3.toNatClampNeg)) (C := RX7) (T := TX7) (N := 6) hx hb hts (fun w h => List.mem_cons_of_mem _ (jnGA_X7 w h)) hown hK (gz_ro hF0 hFA0 hS) (v3.toNatClampNeg) (gz_fam_at (gz_clt (gi_in (n := 24) g_242 (by decide)))) rfl 4 (by decide) (hts _ (List.mem_cons_of_mem _ mGA_321)) (fun _ h9 => h9) rfl (dk_at dkX0_newsBehind 18 rfl) ?_
          refine lv_topi (fun x_249 ex_249 => ?_)
          refine lv_iload_n hx hb (dk_at dkX0_newsBehind 19 rfl) rfl (lv_at hl 1 rfl) ?_
          refine lv_icmp_le (tgt := 53) hx hb (dk_at dkX0_newsBehind 20 rfl) (by decide) (fun c_250 => ?_) (fun c_250 => ?_)
          · obtain ⟨x_251, ex_251⟩ : ∃ y : Int32, y = v3 + 1 := ⟨_, rfl⟩
            have gx_251 : gi x_251 1 24 := gi_add ex_251 g_242 (gi_c 1 1 (by decide)) (by decide)
            refine lv_iinc (v := x_251) (lv' := [(3, .int x_251), (0, .ref h0), (1, .int p1), (2, .int v2)]) hx hb (dk_at dkX0_newsBehind 29 rfl) hl (k := 3) rfl (by rw [ex_251]; rfl) (by decide) rfl (fun ls hl => ?_)
            refine lv_goto (tgt := 6) hx hb (dk_at dkX0_newsBehind 30 rfl) (by decide) ?_
            exact ih v2 x_251 _ _ _ gv2 (gi_w gx_251 (by decide)) (by have av3 := gv3.1; have bv3 := gv3.2; have qgx_251 := gx_251.1; have rgx_251 := gx_251.2; have igx_251 : x_251.toInt = v3.toInt + 1 := (by have hc1 : (1 : Int32).toInt = 1 := (by decide); have h9 := gi_addI ex_251 (by have h1 := g_242.1; have h2 := (gi_c 1 1 (by decide)).1; have h3 := g_242.2; have h4 := (gi_c 1 1 (by decide)).2; omega) (by have h1 := g_242.1; have h2 := (gi_c 1 1 (by decide)).1; have h3 := g_242.2; have h4 := (gi_c 1 1 (by decide)).2; omega); rw [hc1] at h9; exact h9); have qgv3 := g_242.1; have rgv3 := g_242.2; omega) hP hS (lv_sub hl [1, 2, 3, 0] rfl)
          · have g_252 : gi p1 (-2147483648) 2147483646 := gi_lt_l (Int32.not_le.mp c_250) (gi_any p1) (gi_any x_249) (by decide)
            have g_253 : gi x_249 (-2147483647) 2147483647 := gi_lt_r (Int32.not_le.mp c_250) (gi_any p1) (gi_any x_249) (by decide)
            refine lv_iload_n hx hb (dk_at dkX0_newsBehind 21 rfl) rfl (lv_at hl 2 rfl) ?_
            refine lv_aload_n hx hb (dk_at dkX0_newsBehind 22 rfl) rfl (lv_at hl 0 rfl) ?_
            refine va_get (D := (dC, dI)) (ci := 0) (v := .ref re) (C := RX0) (T := TX0) (N := 13) hx hb hts (fun w h => List.mem_cons_of_mem _ (jnGA_X0 w h)) hown hK hP 0 rfl rfl 11 (by decide) (hts _ (List.mem_cons_of_mem _ mGA_72)) (fun _ h9 => h9) rfl (dk_at dkX0_newsBehind 23 rfl) ?_
            refine lv_iload_n hx hb (dk_at dkX0_newsBehind 24 rfl) rfl (lv_at hl 3 rfl) ?_
            refine va_aldq hx hb hK hP 1 0 rfl rfl (gi_in g_242 (by decide)) (dk_at dkX0_newsBehind 25 rfl) ?_
            refine W.eq (g2 := F0 m 46 ls [.ref (ra v3.toNatClampNeg), .int v2]) rfl ?_
            refine va_get (D := (dC, dI)) (ci := 7) (v := .int (r_known v3.toNatClampNeg)) (C := RX7) (T := TX7) (N := 6) hx hb hts (fun w h => List.mem_cons_of_mem _ (jnGA_X7 w h)) hown hK (gz_ro hF0 hFA0 hS) (v3.toNatClampNeg) (gz_fam_at (gz_clt (gi_in (n := 24) g_242 (by decide)))) rfl 4 (by decide) (hts _ (List.mem_cons_of_mem _ mGA_321)) (fun _ h9 => h9) rfl (dk_at dkX0_newsBehind 26 rfl) ?_
            refine lv_topi (fun x_254 ex_254 => ?_)
            refine va_mmin (own := RX0) hx hb (by rw [hml]; exact hl.1.symm) hown (hts _ (List.mem_cons_of_mem _ mGA_718)) (hts _ (List.mem_cons_of_mem _ mGA_268)) (hts _ (List.mem_cons_of_mem _ mGA_269)) (hts _ (List.mem_cons_of_mem _ mGA_270)) (Nat.le_trans (Nat.le_of_ble_eq_true rfl) hRf) (Nat.le_trans (Nat.le_of_ble_eq_true rfl) hRl) hRc hRs (dk_at dkX0_newsBehind 27 rfl) ?_
            refine lv_topi (fun x_255 ex_255 => ?_)
            have gx_255 : gi x_255 (-2147483648) 1000 := gi_min ex_255 gv2 (gi_any x_254) (by decide)
            refine lv_istore_n (lv' := [(2, .int x_255), (0, .ref h0), (1, .int p1), (3, .int v3)]) hx hb (dk_at dkX0_newsBehind 28 rfl) rfl hl (by decide) rfl (fun ls hl => ?_)
            obtain ⟨x_256, ex_256⟩ : ∃ y : Int32, y = v3 + 1 := ⟨_, rfl⟩
            have gx_256 : gi x_256 1 24 := gi_add ex_256 g_242 (gi_c 1 1 (by decide)) (by decide)
            refine lv_iinc (v := x_256) (lv' := [(3, .int x_256), (2, .int x_255), (0, .ref h0), (1, .int p1)]) hx hb (dk_at dkX0_newsBehind 29 rfl) hl (k := 3) rfl (by rw [ex_256]; rfl) (by decide) rfl (fun ls hl => ?_)
            refine lv_goto (tgt := 6) hx hb (dk_at dkX0_newsBehind 30 rfl) (by decide) ?_
            exact ih x_255 x_256 _ _ _ gx_255 (gi_w gx_256 (by decide)) (by have av3 := gv3.1; have bv3 := gv3.2; have qgx_256 := gx_256.1; have rgx_256 := gx_256.2; have igx_256 : x_256.toInt = v3.toInt + 1 := (by have hc1 : (1 : Int32).toInt = 1 := (by decide); have h9 := gi_addI ex_256 (by have h1 := g_242.1; have h2 := (gi_c 1 1 (by decide)).1; have h3 := g_242.2; have h4 := (gi_c 1 1 (by decide)).2; omega) (by have h1 := g_242.1; have h2 := (gi_c 1 1 (by decide)).1; have h3 := g_242.2; have h4 := (gi_c 1 1 (by decide)).2; omega); rw [hc1] at h9; exact h9); have qgv3 := g_242.1; have rgv3 := g_242.2; omega) hP hS (lv_sub hl [2, 3, 1, 0] rfl)
set_option maxHeartbeats 4000000 in
set_option maxRecDepth 100000 in
theorem sX0_newsBehind (l : Launch) (dC : Nat → ClassId) (dI : Nat → Nat → Nat) (h0 : Nat) (re : Nat) (amonths : Int32) (afull : Int32) (alean : Int32) (alines : Int32) (ahasMoon : Int32) (amoonStart : Int32) (amoonStep : Int32) (aplaceCount : Int32) (areportCount : Int32) (adeedCount : Int32) (pl : Nat) (de : Nat) (kre : ClassId) (ra : Nat → Nat) (r_place : Nat → Int32) (r_kind : Nat → Int32) (r_month : Nat → Int32) (r_day : Nat → Int32) (r_known : Nat → Int32) (r_struck : Nat → Int32) (p1 : Int32) (gamonths : gi amonths 0 24) (gafull : gi afull 0 5) (galean : gi alean 0 5) (gahasMoon : gi ahasMoon 0 1) (gaplaceCount : gi aplaceCount 0 6) (gareportCount : gi areportCount 0 24) (gadeedCount : gi adeedCount 0 8) (gr_place : ga r_place 24 0 5) (gr_month : ga r_month 24 0 23) (gr_struck : ga r_struck 24 0 1) : Met l yX0_newsBehind (.code yX0_newsBehind cX0_newsBehind 4 (some .int) :: wsGA) ({ frames := 1, cells := 0, slots := 0, locals := 13 }) (va_Pc [.ref h0, .int p1] (fun U => va_P (dC, dI) vwCl [(h0, .inr (0, [.int amonths, .int afull, .int alean, .int alines, .int ahasMoon, .int amoonStart, .int amoonStep, .int aplaceCount, .int areportCount, .int adeedCount, .ref pl, .ref re, .ref de])), (re, .inl (kre, 24, .inr (.inr (.inr (.inr (fun i => some (ra i)))))))] U.heap ∧ va_K (dC, dI) vwCl [(kre, .object RX7)] U ∧ nzA U ∧ va_P (dC, dI) vwCl (gz_fam 24 ra 7 (fun i => [.int (r_place i), .int (r_kind i), .int (r_month i), .int (r_day i), .int (r_known i), .int (r_struck i)])) U.heap)) (va_Qi (fun (r : Int32) (u : Unit) => gi r (-2147483648) 1000) (fun _ _ => True) (fun _ => False)) 0 0 (fun _ => False) := by
  refine Met.ofW (cc := cX0_newsBehind) (maxL := 4) (ret := (some .int)) (by decide) rfl ?_
  intro p e s m args below meth c s₁ B hml hv
  obtain ⟨rfl, hP, hK, hz, hF0⟩ := hv
  have hx := B.exec
  have hb := B.bytes
  have hr := B.returns
  have hts := atoms_spec (ws := (.code yX0_newsBehind cX0_newsBehind 4 (some .int) :: wsGA)) B.pre
  have hown : s.vm.findClass RX0 = some m.cls := findClass_of_methodNamed B.named
  have hlocks := B.notSynchronized
  have hS : va_S (fun _ => False) s.heap s.heap [] := va_S.rf
  have hFA0 : gz_ap (fun _ => False) (gz_fam 24 ra 7 (fun i => [.int (r_place i), .int (r_kind i), .int (r_month i), .int (r_day i), .int (r_known i), .int (r_struck i)])) := gz_ap0
  have hl := lv_entry ([.ref h0, .int p1]) (n := 4) (Nat.le_of_ble_eq_true rfl)
  rw [lg_entry_eq]
  generalize (lg_sl ([.ref h0, .int p1]) ++ List.replicate (4 - (lg_sl ([.ref h0, .int p1])).length) Slot.unset).toArray = ls at hl ⊢
  have hl : lv_has ls 4 [(0, .ref h0), (1, .int p1)] := hl
  refine lv_sipush (v := 1000) hx hb (dk_at dkX0_newsBehind 0 rfl) (by decide) ?_
  refine lv_istore_n (lv' := [(2, .int 1000), (0, .ref h0), (1, .int p1)]) hx hb (dk_at dkX0_newsBehind 1 rfl) rfl hl (by decide) rfl (fun ls hl => ?_)
  refine lv_iconst (v := 0) hx hb (dk_at dkX0_newsBehind 2 rfl) (by decide) ?_
  refine lv_istore_n (lv' := [(3, .int 0), (2, .int 1000), (0, .ref h0), (1, .int p1)]) hx hb (dk_at dkX0_newsBehind 3 rfl) rfl hl (by decide) rfl (fun ls hl => ?_)
  refine (lp_sX0_newsBehind h0 re amonths afull alean alines ahasMoon amoonStart amoonStep aplaceCount areportCount adeedCount pl de kre ra r_place r_kind r_month r_day r_known r_struck p1 gamonths gafull galean gahasMoon gaplaceCount gareportCount gadeedCount gr_place gr_month gr_struck hx hb hml hown hts hK hz hF0 hFA0 (Nat.le_of_ble_eq_true rfl) (Nat.le_of_ble_eq_true rfl) (Nat.zero_le _) (Nat.zero_le _) (fun v H locs ls gv hP hS hl => ?_) 62) 1000 0 _ _ _ (gi_w (gi_c 1000 1000 (by decide)) (by decide)) (gi_w (gi_c 0 0 (by decide)) (by decide)) (by have k0 : (0 : Int32).toInt = 0 := (by decide); omega) hP hS (lv_sub hl [2, 3, 1, 0] rfl)
  · skip
    exact W.iret (v := v) hx hb hr (fun t ht hW => ⟨⟨v, (), rfl, gv, trivial⟩, hS.F ht⟩) hS.2.2 (dk_at dkX0_newsBehind 32 rfl)
abbrev fsMM (mi : Nat → Int32) (mr : Nat → Nat) : List Value := [.int (mi 0), .int (mi 1), .int (mi 2), .int (mi 3), .int (mi 4), .int (mi 5), .int (mi 6), .int (mi 7), .ref (mr 0), .ref (mr 1), .int (mi 10), .ref (mr 2), .ref (mr 3), .ref (mr 4), .ref (mr 5), .ref (mr 6), .ref (mr 7), .int (mi 17), .ref (mr 8), .ref (mr 9), .ref (mr 10), .ref (mr 11), .ref (mr 12), .int (mi 23), .int (mi 24), .ref (mr 13), .int (mi 26), .int (mi 27), .int (mi 28), .int (mi 29), .int (mi 30), .int (mi 31), .int (mi 32), .int (mi 33), .ref (mr 14), .ref (mr 15), .ref (mr 16), .int (mi 37), .ref (mr 17), .ref (mr 18), .ref (mr 19), .int (mi 41), .int (mi 42), .int (mi 43), .int (mi 44), .int (mi 45), .ref (mr 20), .int (mi 47), .int (mi 48), .int (mi 49), .int (mi 50), .int (mi 51), .ref (mr 21), .ref (mr 22), .int (mi 54), .ref (mr 23), .int (mi 56)]
abbrev MWn (hm : Nat) (mr : Nat → Nat) (km : Nat → ClassId) (i0 i1 i2 i3 i4 i5 i6 i7 i10 i17 i23 i24 i26 i27 i28 i29 i30 i31 i32 i33 i37 i41 i42 i43 i44 i45 i47 i48 i49 i50 i51 i54 i56 : Int32) (fm_trust fm_letter fm_reportPlace fm_reportKind fm_struck fm_reportMonth fm_reportDay fm_reportKnown fm_deedMonth fm_deedDay fm_deedLong fm_deedKind fm_kept fm_tape fm_must fm_least fm_pin fm_ways fm_verdict fm_row fm_official fm_aside fm_worth fm_out : Nat → Int32) : va_W := [(hm, .inr (12, [.int i0, .int i1, .int i2, .int i3, .int i4, .int i5, .int i6, .int i7, .ref (mr 0), .ref (mr 1), .int i10, .ref (mr 2), .ref (mr 3), .ref (mr 4), .ref (mr 5), .ref (mr 6), .ref (mr 7), .int i17, .ref (mr 8), .ref (mr 9), .ref (mr 10), .ref (mr 11), .ref (mr 12), .int i23, .int i24, .ref (mr 13), .int i26, .int i27, .int i28, .int i29, .int i30, .int i31, .int i32, .int i33, .ref (mr 14), .ref (mr 15), .ref (mr 16), .int i37, .ref (mr 17), .ref (mr 18), .ref (mr 19), .int i41, .int i42, .int i43, .int i44, .int i45, .ref (mr 20), .int i47, .int i48, .int i49, .int i50, .int i51, .ref (mr 21), .ref (mr 22), .int i54, .ref (mr 23), .int i56])), ((mr 0), .inl ((km 0), 6, .inl fm_trust)), ((mr 1), .inl ((km 1), 36, .inl fm_letter)), ((mr 2), .inl ((km 2), 24, .inl fm_reportPlace)), ((mr 3), .inl ((km 3), 24, .inl fm_reportKind)), ((mr 4), .inl ((km 4), 24, .inl fm_struck)), ((mr 5), .inl ((km 5), 24, .inl fm_reportMonth)), ((mr 6), .inl ((km 6), 24, .inl fm_reportDay)), ((mr 7), .inl ((km 7), 24, .inl fm_reportKnown)), ((mr 8), .inl ((km 8), 8, .inl fm_deedMonth)), ((mr 9), .inl ((km 9), 8, .inl fm_deedDay)), ((mr 10), .inl ((km 10), 8, .inl fm_deedLong)), ((mr 11), .inl ((km 11), 8, .inl fm_deedKind)), ((mr 12), .inl ((km 12), 300, .inl fm_kept)), ((mr 13), .inl ((km 13), 1600, .inl fm_tape)), ((mr 14), .inl ((km 14), 25, .inl fm_must)), ((mr 15), .inl ((km 15), 25, .inl fm_least)), ((mr 16), .inl ((km 16), 25, .inl fm_pin)), ((mr 17), .inl ((km 17), 6875, .inl fm_ways)), ((mr 18), .inl ((km 18), 24, .inl fm_verdict)), ((mr 19), .inl ((km 19), 24, .inl fm_row)), ((mr 20), .inl ((km 20), 25, .inl fm_official)), ((mr 21), .inl ((km 21), 25, .inl fm_aside)), ((mr 22), .inl ((km 22), 6875, .inl fm_worth)), ((mr 23), .inl ((km 23), 80, .inl fm_out))]
abbrev MT (km : Nat → ClassId) : List (ClassId × FieldType) := [((km 0), .int), ((km 1), .int), ((km 2), .int), ((km 3), .int), ((km 4), .boolean), ((km 5), .int), ((km 6), .int), ((km 7), .int), ((km 8), .int), ((km 9), .int), ((km 10), .int), ((km 11), .int), ((km 12), .int), ((km 13), .int), ((km 14), .int), ((km 15), .int), ((km 16), .int), ((km 17), .int), ((km 18), .int), ((km 19), .int), ((km 20), .int), ((km 21), .int), ((km 22), .int), ((km 23), .int)]
theorem mw_recv {s : State} {H : Heap} {dC : Nat → ClassId} {dI : Nat → Nat → Nat} {tys : List (ClassId × FieldType)} {hm : Nat} {mr : Nat → Nat} {km : Nat → ClassId} {i0 i1 i2 i3 i4 i5 i6 i7 i10 i17 i23 i24 i26 i27 i28 i29 i30 i31 i32 i33 i37 i41 i42 i43 i44 i45 i47 i48 i49 i50 i51 i54 i56 : Int32} {fm_trust fm_letter fm_reportPlace fm_reportKind fm_struck fm_reportMonth fm_reportDay fm_reportKnown fm_deedMonth fm_deedDay fm_deedLong fm_deedKind fm_kept fm_tape fm_must fm_least fm_pin fm_ways fm_verdict fm_row fm_official fm_aside fm_worth fm_out : Nat → Int32} (hK : va_K (dC, dI) vwCl tys s) (hP : va_P (dC, dI) vwCl (MWn hm mr km i0 i1 i2 i3 i4 i5 i6 i7 i10 i17 i23 i24 i26 i27 i28 i29 i30 i31 i32 i33 i37 i41 i42 i43 i44 i45 i47 i48 i49 i50 i51 i54 i56 fm_trust fm_letter fm_reportPlace fm_reportKind fm_struck fm_reportMonth fm_reportDay fm_reportKnown fm_deedMonth fm_deedDay fm_deedLong fm_deedKind fm_kept fm_tape fm_must fm_least fm_pin fm_ways fm_verdict fm_row fm_official fm_aside fm_worth fm_out) H) : ∃ cell : Cell, H[hm]? = some cell ∧ cell.vm.isStatics = false ∧ s.vm.findClass RX12 = some cell.cls := va_recv hK hP (ci := 12) (q0 := 0) rfl rfl
noncomputable def lsX12_in : List (Nat × Instr × Nat) := [(0, .lload_n 0, 1), (1, .lload_n 2, 1), (2, .lcmp, 1), (3, .ifCond .lt 14, 3), (6, .lload_n 0, 1), (7, .lload 4, 2), (9, .lcmp, 1), (10, .ifCond .gt 7, 3), (13, .iconst 1, 1), (14, .goto 4, 3), (17, .iconst 0, 1), (18, .ireturn, 1)]
theorem dkX12_in : dkAll cX12_in lsX12_in = true := by decide +kernel
noncomputable def bfX12_in_18 (p0 : Int64) (p1 : Int64) (p2 : Int64) (s0 : Int32) : Int32 := s0
noncomputable def bfX12_in_17 (p0 : Int64) (p1 : Int64) (p2 : Int64) : Int32 := bfX12_in_18 p0 p1 p2 (0 : Int32)
noncomputable def fX12_in (p0 : Int64) (p1 : Int64) (p2 : Int64) : Int32 := if (lg_cmp p0 p1) < (0 : Int32) then (bfX12_in_17 p0 p1 p2) else (if (0 : Int32) < (lg_cmp p0 p2) then (bfX12_in_17 p0 p1 p2) else (bfX12_in_18 p0 p1 p2 (1 : Int32)))
set_option maxHeartbeats 4000000 in
set_option maxRecDepth 100000 in
theorem sX12_in (l : Launch) (dC : Nat → ClassId) (dI : Nat → Nat → Nat) (p0 : Int64) (p1 : Int64) (p2 : Int64)  : Met l yX12_in (.code yX12_in cX12_in 6 (some .boolean) :: wsGB) ({ frames := 0, cells := 0, slots := 0, locals := 0 }) (va_Pc [.long p0, .long p1, .long p2] (fun U => va_P (dC, dI) vwCl [] U.heap ∧ va_K (dC, dI) vwCl [] U)) (va_Qi (fun (r : Int32) (u : Unit) => (gi r 0 1 ∧ (r.toInt = 1 → p1.toInt ≤ p0.toInt ∧ p0.toInt ≤ p2.toInt) ∧ (r.toInt = 0 → p0.toInt < p1.toInt ∨ p2.toInt < p0.toInt)) ∧ r = fX12_in p0 p1 p2) (fun _ _ => True) (fun _ => False)) 0 0 (fun _ => False) := by
  refine Met.ofW (cc := cX12_in) (maxL := 6) (ret := (some .boolean)) (by decide) rfl ?_
  intro p e s m args below meth c s₁ B hml hv
  obtain ⟨rfl, hP, hK⟩ := hv
  have hx := B.exec
  have hb := B.bytes
  have hr := B.returns
  have hts := atoms_spec (ws := (.code yX12_in cX12_in 6 (some .boolean) :: wsGB)) B.pre
  have hown : s.vm.findClass RX12 = some m.cls := findClass_of_methodNamed B.named
  have hlocks := B.notSynchronized
  have hS : va_S (fun _ => False) s.heap s.heap [] := va_S.rf
  have hl := lv_entry ([.long p0, .long p1, .long p2]) (n := 6) (Nat.le_of_ble_eq_true rfl)
  rw [lg_entry_eq]
  generalize (lg_sl ([.long p0, .long p1, .long p2]) ++ List.replicate (6 - (lg_sl ([.long p0, .long p1, .long p2])).length) Slot.unset).toArray = ls at hl ⊢
  have hl : lv_has ls 6 [(0, .long p0), (2, .long p1), (4, .long p2)] := hl
  obtain ⟨RES, hF⟩ : ∃ R9, fX12_in p0 p1 p2 = R9 := ⟨_, rfl⟩
  have hR9 := hF
  refine lv_lload_n hx hb (dk_at dkX12_in 0 rfl) rfl (lv_at hl 0 rfl) ?_
  refine lv_lload_n hx hb (dk_at dkX12_in 1 rfl) rfl (lv_at hl 1 rfl) ?_
  refine W.lcmp hx hb (dk_at dkX12_in 2 rfl) ?_
  refine lv_topi (fun x_9 ex_9 => ?_)
  refine lv_if_lt (tgt := 17) hx hb (dk_at dkX12_in 3 rfl) (by decide) (fun c_10 => ?_) (fun c_10 => ?_)
  · have hF := gf_pos (by rw [ex_9] at c_10; exact c_10) hF
    have g_11 : gi x_9 (-2147483648) (-1) := gi_lt_l c_10 (gi_any x_9) (gi_c 0 0 (by decide)) (by decide)
    refine lv_iconst (v := 0) hx hb (dk_at dkX12_in 10 rfl) (by decide) ?_
    exact W.zret (v := 0) hx hb hr (by decide) (fun t ht hW => ⟨⟨0, (), rfl, ⟨⟨(gi_w (gi_c 0 0 (by decide)) (by decide)), ⟨fun h => absurd h (by decide), fun _ => Or.inl (gz_llt (ex_9 ▸ c_10))⟩⟩, hF.trans hR9.symm⟩, trivial⟩, hS.F ht⟩) hS.2.2 (dk_at dkX12_in 11 rfl)
  · have hF := gf_neg (by rw [ex_9] at c_10; exact c_10) hF
    have g_12 : gi x_9 0 2147483647 := gi_le_r (Int32.not_lt.mp c_10) (gi_c 0 0 (by decide)) (gi_any x_9)
    refine lv_lload_n hx hb (dk_at dkX12_in 4 rfl) rfl (lv_at hl 0 rfl) ?_
    refine lv_lload hx hb (dk_at dkX12_in 5 rfl) (lv_at hl 2 rfl) ?_
    refine W.lcmp hx hb (dk_at dkX12_in 6 rfl) ?_
    refine lv_topi (fun x_13 ex_13 => ?_)
    refine lv_if_gt (tgt := 17) hx hb (dk_at dkX12_in 7 rfl) (by decide) (fun c_14 => ?_) (fun c_14 => ?_)
    · have hF := gf_pos (by rw [ex_13] at c_14; exact c_14) hF
      have g_15 : gi x_13 1 2147483647 := gi_lt_r c_14 (gi_c 0 0 (by decide)) (gi_any x_13) (by decide)
      refine lv_iconst (v := 0) hx hb (dk_at dkX12_in 10 rfl) (by decide) ?_
      exact W.zret (v := 0) hx hb hr (by decide) (fun t ht hW => ⟨⟨0, (), rfl, ⟨⟨(gi_w (gi_c 0 0 (by decide)) (by decide)), ⟨fun h => absurd h (by decide), fun _ => Or.inr (gz_lgt (ex_13 ▸ c_14))⟩⟩, hF.trans hR9.symm⟩, trivial⟩, hS.F ht⟩) hS.2.2 (dk_at dkX12_in 11 rfl)
    · have hF := gf_neg (by rw [ex_13] at c_14; exact c_14) hF
      have g_16 : gi x_13 (-2147483648) 0 := gi_le_l (Int32.not_lt.mp c_14) (gi_any x_13) (gi_c 0 0 (by decide))
      refine lv_iconst (v := 1) hx hb (dk_at dkX12_in 8 rfl) (by decide) ?_
      refine lv_goto (tgt := 18) hx hb (dk_at dkX12_in 9 rfl) (by decide) ?_
      exact W.zret (v := 1) hx hb hr (by decide) (fun t ht hW => ⟨⟨1, (), rfl, ⟨⟨(gi_w (gi_c 1 1 (by decide)) (by decide)), ⟨fun _ => ⟨(gz_lge (ex_9 ▸ c_10)), (gz_lle (ex_13 ▸ c_14))⟩, fun h => absurd h (by decide)⟩⟩, hF.trans hR9.symm⟩, trivial⟩, hS.F ht⟩) hS.2.2 (dk_at dkX12_in 11 rfl)
noncomputable def lsX12_isPlace : List (Nat × Instr × Nat) := [(0, .iload_n 1, 1), (1, .i2l, 1), (2, .lconst 0, 1), (3, .aload_n 0, 1), (4, .getfield 138, 3), (7, .iconst 1, 1), (8, .isub, 1), (9, .i2l, 1), (10, .invokestatic 102, 3), (13, .ireturn, 1)]
theorem dkX12_isPlace : dkAll cX12_isPlace lsX12_isPlace = true := by decide +kernel
noncomputable def fX12_isPlace (mi : Nat → Int32) (p1 : Int32) : Int32 := cal (fun o1 => o1) (fX12_in (p1.toInt64) (0 : Int64) (((mi 7) - (1 : Int32)).toInt64))
set_option maxHeartbeats 4000000 in
set_option maxRecDepth 100000 in
theorem sX12_isPlace (l : Launch) (dC : Nat → ClassId) (dI : Nat → Nat → Nat) (h0 : Nat) (mi : Nat → Int32) (mr : Nat → Nat) (km : Nat → ClassId) (fm_trust : Nat → Int32) (fm_letter : Nat → Int32) (fm_reportPlace : Nat → Int32) (fm_reportKind : Nat → Int32) (fm_struck : Nat → Int32) (fm_reportMonth : Nat → Int32) (fm_reportDay : Nat → Int32) (fm_reportKnown : Nat → Int32) (fm_deedMonth : Nat → Int32) (fm_deedDay : Nat → Int32) (fm_deedLong : Nat → Int32) (fm_deedKind : Nat → Int32) (fm_kept : Nat → Int32) (fm_tape : Nat → Int32) (fm_must : Nat → Int32) (fm_least : Nat → Int32) (fm_pin : Nat → Int32) (fm_ways : Nat → Int32) (fm_verdict : Nat → Int32) (fm_row : Nat → Int32) (fm_official : Nat → Int32) (fm_aside : Nat → Int32) (fm_worth : Nat → Int32) (fm_out : Nat → Int32) (p1 : Int32) (gmi_0 : gi (mi 0) 0 24) (gmi_1 : gi (mi 1) 0 5) (gmi_2 : gi (mi 2) 0 5) (gmi_4 : gi (mi 4) 0 1) (gmi_7 : gi (mi 7) 0 6) (gmi_10 : gi (mi 10) 0 24) (gmi_17 : gi (mi 17) 0 8) (gmi_23 : gi (mi 23) 0 300) (gmi_24 : gi (mi 24) 0 1) (gmi_26 : gi (mi 26) 0 1600) (gmi_29 : gi (mi 29) 0 1600) (gmi_30 : gi (mi 30) 0 1600) (gmi_33 : gi (mi 33) 0 1) (gmi_37 : gi (mi 37) 0 1) (gmi_41 : gi (mi 41) 0 24) (gmi_50 : gi (mi 50) 0 1) (gmi_51 : gi (mi 51) 0 1) (gmi_56 : gi (mi 56) 0 80) : Met l yX12_isPlace (.code yX12_isPlace cX12_isPlace 2 (some .boolean) :: wsGB) ({ frames := 1, cells := 0, slots := 0, locals := 25 }) (va_Pc [.ref h0, .int p1] (fun U => va_P (dC, dI) vwCl (MWn h0 mr km (mi 0) (mi 1) (mi 2) (mi 3) (mi 4) (mi 5) (mi 6) (mi 7) (mi 10) (mi 17) (mi 23) (mi 24) (mi 26) (mi 27) (mi 28) (mi 29) (mi 30) (mi 31) (mi 32) (mi 33) (mi 37) (mi 41) (mi 42) (mi 43) (mi 44) (mi 45) (mi 47) (mi 48) (mi 49) (mi 50) (mi 51) (mi 54) (mi 56) fm_trust fm_letter fm_reportPlace fm_reportKind fm_struck fm_reportMonth fm_reportDay fm_reportKnown fm_deedMonth fm_deedDay fm_deedLong fm_deedKind fm_kept fm_tape fm_must fm_least fm_pin fm_ways fm_verdict fm_row fm_official fm_aside fm_worth fm_out) U.heap ∧ va_K (dC, dI) vwCl (MT km) U)) (va_Qi (fun (r : Int32) (u : Unit) => (gi r 0 1 ∧ (r.toInt = 1 → gi p1 0 5)) ∧ r = fX12_isPlace mi p1) (fun _ _ => True) (fun _ => False)) 0 0 (fun _ => False) := by
  refine Met.ofW (cc := cX12_isPlace) (maxL := 2) (ret := (some .boolean)) (by decide) rfl ?_
  intro p e s m args below meth c s₁ B hml hv
  obtain ⟨rfl, hP, hK⟩ := hv
  have hx := B.exec
  have hb := B.bytes
  have hr := B.returns
  have hts := atoms_spec (ws := (.code yX12_isPlace cX12_isPlace 2 (some .boolean) :: wsGB)) B.pre
  have hown : s.vm.findClass RX12 = some m.cls := findClass_of_methodNamed B.named
  have hlocks := B.notSynchronized
  have hS : va_S (fun _ => False) s.heap s.heap [] := va_S.rf
  have hl := lv_entry ([.ref h0, .int p1]) (n := 2) (Nat.le_of_ble_eq_true rfl)
  rw [lg_entry_eq]
  generalize (lg_sl ([.ref h0, .int p1]) ++ List.replicate (2 - (lg_sl ([.ref h0, .int p1])).length) Slot.unset).toArray = ls at hl ⊢
  have hl : lv_has ls 2 [(0, .ref h0), (1, .int p1)] := hl
  obtain ⟨RES, hF⟩ : ∃ R9, fX12_isPlace mi p1 = R9 := ⟨_, rfl⟩
  have hR9 := hF
  refine lv_iload_n hx hb (dk_at dkX12_isPlace 0 rfl) rfl (lv_at hl 1 rfl) ?_
  refine lv_i2l (v := (p1).toInt64) hx hb (dk_at dkX12_isPlace 1 rfl) rfl ?_
  refine lv_topl (fun l_5 el_5 => ?_)
  refine lv_lconst (v := 0) hx hb (dk_at dkX12_isPlace 2 rfl) (by decide) ?_
  refine lv_aload_n hx hb (dk_at dkX12_isPlace 3 rfl) rfl (lv_at hl 0 rfl) ?_
  refine va_get (D := (dC, dI)) (ci := 12) (v := .int (mi 7)) (C := RX12) (T := TX12) (N := 57) hx hb hts (fun w h => List.mem_cons_of_mem _ (jnGB_X12 w h)) hown hK hP 0 rfl rfl 7 (by decide) (hts _ (List.mem_cons_of_mem _ mGB_110)) (fun _ h9 => h9) rfl (dk_at dkX12_isPlace 4 rfl) ?_
  refine lv_iconst (v := 1) hx hb (dk_at dkX12_isPlace 5 rfl) (by decide) ?_
  refine lv_isub hx hb (dk_at dkX12_isPlace 6 rfl) ?_
  refine lv_topi (fun x_6 ex_6 => ?_)
  have gx_6 : gi x_6 (-1) 5 := gi_sub ex_6 gmi_7 (gi_c 1 1 (by decide)) (by decide)
  refine lv_i2l (v := (x_6).toInt64) hx hb (dk_at dkX12_isPlace 7 rfl) rfl ?_
  refine lv_topl (fun l_7 el_7 => ?_)
  have hPc := hP.sub (ws' := []) [] rfl
  have hKc := hK.sub (tys' := []) [] rfl
  refine va_calli (va_runS (As := [.long l_5, .long 0, .long l_7]) (rest := []) ⟨hx, hb, hml, hown, hts⟩ (sX12_in l dC dI l_5 0 l_7) (cwS 3 hts (gz_gS mGB_47 mGB_48 mGB_1 mGB_49 goodGB) rfl rfl rfl (by decide +kernel) ⟨Nat.le_of_ble_eq_true rfl, Nat.le_of_ble_eq_true rfl⟩) ⟨bl_R, fun U hU hW => ⟨rfl, by rw [hU]; exact hPc, va_K.moved hW.alike hKc⟩⟩ rfl rfl hl.1 rfl (lv_room (Nat.le_of_ble_eq_true rfl)) (dk_at dkX12_isPlace 8 rfl) ⟨Nat.zero_le _, Nat.zero_le _⟩) hS (fun q _ h => h.elim) (fun q h => h.elim) (fun r_8 u t H1 locs ht hvm hw hB hz1 hk1 hS => ?_)
  obtain ⟨hw, hE⟩ := hw
  have hP := gz_keep hP hk1
  have hF := gf_call (a := r_8) (by rw [el_7, ex_6, el_5] at hE; exact hE) hF
  generalize H1 = H at hP hS ⊢
  have gr_8 : gi r_8 0 1 := hw.1
  have hqr_8 := hw.2
  exact W.zret (v := r_8) hx hb hr (gz_nb gr_8) (fun t ht hW => ⟨⟨r_8, (), rfl, ⟨⟨gr_8, (fun h1 => (gi_w (gz_inr (hqr_8.1 h1) el_5 (A := 0) (B := 5) (by decide) (gz_l2u el_7 gx_6)) (by decide)))⟩, hF.trans hR9.symm⟩, trivial⟩, hS.F ht⟩) hS.2.2 (dk_at dkX12_isPlace 9 rfl)
noncomputable def lsX12_isReport : List (Nat × Instr × Nat) := [(0, .iload_n 1, 1), (1, .i2l, 1), (2, .lconst 0, 1), (3, .aload_n 0, 1), (4, .getfield 141, 3), (7, .iconst 1, 1), (8, .isub, 1), (9, .i2l, 1), (10, .invokestatic 102, 3), (13, .ireturn, 1)]
theorem dkX12_isReport : dkAll cX12_isReport lsX12_isReport = true := by decide +kernel
noncomputable def fX12_isReport (mi : Nat → Int32) (p1 : Int32) : Int32 := cal (fun o1 => o1) (fX12_in (p1.toInt64) (0 : Int64) (((mi 10) - (1 : Int32)).toInt64))
set_option maxHeartbeats 4000000 in
set_option maxRecDepth 100000 in
theorem sX12_isReport (l : Launch) (dC : Nat → ClassId) (dI : Nat → Nat → Nat) (h0 : Nat) (mi : Nat → Int32) (mr : Nat → Nat) (km : Nat → ClassId) (fm_trust : Nat → Int32) (fm_letter : Nat → Int32) (fm_reportPlace : Nat → Int32) (fm_reportKind : Nat → Int32) (fm_struck : Nat → Int32) (fm_reportMonth : Nat → Int32) (fm_reportDay : Nat → Int32) (fm_reportKnown : Nat → Int32) (fm_deedMonth : Nat → Int32) (fm_deedDay : Nat → Int32) (fm_deedLong : Nat → Int32) (fm_deedKind : Nat → Int32) (fm_kept : Nat → Int32) (fm_tape : Nat → Int32) (fm_must : Nat → Int32) (fm_least : Nat → Int32) (fm_pin : Nat → Int32) (fm_ways : Nat → Int32) (fm_verdict : Nat → Int32) (fm_row : Nat → Int32) (fm_official : Nat → Int32) (fm_aside : Nat → Int32) (fm_worth : Nat → Int32) (fm_out : Nat → Int32) (p1 : Int32) (gmi_0 : gi (mi 0) 0 24) (gmi_1 : gi (mi 1) 0 5) (gmi_2 : gi (mi 2) 0 5) (gmi_4 : gi (mi 4) 0 1) (gmi_7 : gi (mi 7) 0 6) (gmi_10 : gi (mi 10) 0 24) (gmi_17 : gi (mi 17) 0 8) (gmi_23 : gi (mi 23) 0 300) (gmi_24 : gi (mi 24) 0 1) (gmi_26 : gi (mi 26) 0 1600) (gmi_29 : gi (mi 29) 0 1600) (gmi_30 : gi (mi 30) 0 1600) (gmi_33 : gi (mi 33) 0 1) (gmi_37 : gi (mi 37) 0 1) (gmi_41 : gi (mi 41) 0 24) (gmi_50 : gi (mi 50) 0 1) (gmi_51 : gi (mi 51) 0 1) (gmi_56 : gi (mi 56) 0 80) : Met l yX12_isReport (.code yX12_isReport cX12_isReport 2 (some .boolean) :: wsGB) ({ frames := 1, cells := 0, slots := 0, locals := 25 }) (va_Pc [.ref h0, .int p1] (fun U => va_P (dC, dI) vwCl (MWn h0 mr km (mi 0) (mi 1) (mi 2) (mi 3) (mi 4) (mi 5) (mi 6) (mi 7) (mi 10) (mi 17) (mi 23) (mi 24) (mi 26) (mi 27) (mi 28) (mi 29) (mi 30) (mi 31) (mi 32) (mi 33) (mi 37) (mi 41) (mi 42) (mi 43) (mi 44) (mi 45) (mi 47) (mi 48) (mi 49) (mi 50) (mi 51) (mi 54) (mi 56) fm_trust fm_letter fm_reportPlace fm_reportKind fm_struck fm_reportMonth fm_reportDay fm_reportKnown fm_deedMonth fm_deedDay fm_deedLong fm_deedKind fm_kept fm_tape fm_must fm_least fm_pin fm_ways fm_verdict fm_row fm_official fm_aside fm_worth fm_out) U.heap ∧ va_K (dC, dI) vwCl (MT km) U)) (va_Qi (fun (r : Int32) (u : Unit) => (gi r 0 1 ∧ (r.toInt = 1 → gi p1 0 23)) ∧ r = fX12_isReport mi p1) (fun _ _ => True) (fun _ => False)) 0 0 (fun _ => False) := by
  refine Met.ofW (cc := cX12_isReport) (maxL := 2) (ret := (some .boolean)) (by decide) rfl ?_
  intro p e s m args below meth c s₁ B hml hv
  obtain ⟨rfl, hP, hK⟩ := hv
  have hx := B.exec
  have hb := B.bytes
  have hr := B.returns
  have hts := atoms_spec (ws := (.code yX12_isReport cX12_isReport 2 (some .boolean) :: wsGB)) B.pre
  have hown : s.vm.findClass RX12 = some m.cls := findClass_of_methodNamed B.named
  have hlocks := B.notSynchronized
  have hS : va_S (fun _ => False) s.heap s.heap [] := va_S.rf
  have hl := lv_entry ([.ref h0, .int p1]) (n := 2) (Nat.le_of_ble_eq_true rfl)
  rw [lg_entry_eq]
  generalize (lg_sl ([.ref h0, .int p1]) ++ List.replicate (2 - (lg_sl ([.ref h0, .int p1])).length) Slot.unset).toArray = ls at hl ⊢
  have hl : lv_has ls 2 [(0, .ref h0), (1, .int p1)] := hl
  obtain ⟨RES, hF⟩ : ∃ R9, fX12_isReport mi p1 = R9 := ⟨_, rfl⟩
  have hR9 := hF
  refine lv_iload_n hx hb (dk_at dkX12_isReport 0 rfl) rfl (lv_at hl 1 rfl) ?_
  refine lv_i2l (v := (p1).toInt64) hx hb (dk_at dkX12_isReport 1 rfl) rfl ?_
  refine lv_topl (fun l_5 el_5 => ?_)
  refine lv_lconst (v := 0) hx hb (dk_at dkX12_isReport 2 rfl) (by decide) ?_
  refine lv_aload_n hx hb (dk_at dkX12_isReport 3 rfl) rfl (lv_at hl 0 rfl) ?_
  refine va_get (D := (dC, dI)) (ci := 12) (v := .int (mi 10)) (C := RX12) (T := TX12) (N := 57) hx hb hts (fun w h => List.mem_cons_of_mem _ (jnGB_X12 w h)) hown hK hP 0 rfl rfl 10 (by decide) (hts _ (List.mem_cons_of_mem _ mGB_111)) (fun _ h9 => h9) rfl (dk_at dkX12_isReport 4 rfl) ?_
  refine lv_iconst (v := 1) hx hb (dk_at dkX12_isReport 5 rfl) (by decide) ?_
  refine lv_isub hx hb (dk_at dkX12_isReport 6 rfl) ?_
  refine lv_topi (fun x_6 ex_6 => ?_)
  have gx_6 : gi x_6 (-1) 23 := gi_sub ex_6 gmi_10 (gi_c 1 1 (by decide)) (by decide)
  refine lv_i2l (v := (x_6).toInt64) hx hb (dk_at dkX12_isReport 7 rfl) rfl ?_
  refine lv_topl (fun l_7 el_7 => ?_)
  have hPc := hP.sub (ws' := []) [] rfl
  have hKc := hK.sub (tys' := []) [] rfl
  refine va_calli (va_runS (As := [.long l_5, .long 0, .long l_7]) (rest := []) ⟨hx, hb, hml, hown, hts⟩ (sX12_in l dC dI l_5 0 l_7) (cwS 3 hts (gz_gS mGB_47 mGB_48 mGB_1 mGB_49 goodGB) rfl rfl rfl (by decide +kernel) ⟨Nat.le_of_ble_eq_true rfl, Nat.le_of_ble_eq_true rfl⟩) ⟨bl_R, fun U hU hW => ⟨rfl, by rw [hU]; exact hPc, va_K.moved hW.alike hKc⟩⟩ rfl rfl hl.1 rfl (lv_room (Nat.le_of_ble_eq_true rfl)) (dk_at dkX12_isReport 8 rfl) ⟨Nat.zero_le _, Nat.zero_le _⟩) hS (fun q _ h => h.elim) (fun q h => h.elim) (fun r_8 u t H1 locs ht hvm hw hB hz1 hk1 hS => ?_)
  obtain ⟨hw, hE⟩ := hw
  have hP := gz_keep hP hk1
  have hF := gf_call (a := r_8) (by rw [el_7, ex_6, el_5] at hE; exact hE) hF
  generalize H1 = H at hP hS ⊢
  have gr_8 : gi r_8 0 1 := hw.1
  have hqr_8 := hw.2
  exact W.zret (v := r_8) hx hb hr (gz_nb gr_8) (fun t ht hW => ⟨⟨r_8, (), rfl, ⟨⟨gr_8, (fun h1 => (gi_w (gz_inr (hqr_8.1 h1) el_5 (A := 0) (B := 23) (by decide) (gz_l2u el_7 gx_6)) (by decide)))⟩, hF.trans hR9.symm⟩, trivial⟩, hS.F ht⟩) hS.2.2 (dk_at dkX12_isReport 9 rfl)
noncomputable def lsX12_isDeed : List (Nat × Instr × Nat) := [(0, .iload_n 1, 1), (1, .i2l, 1), (2, .lconst 0, 1), (3, .aload_n 0, 1), (4, .getfield 144, 3), (7, .iconst 1, 1), (8, .isub, 1), (9, .i2l, 1), (10, .invokestatic 102, 3), (13, .ireturn, 1)]
theorem dkX12_isDeed : dkAll cX12_isDeed lsX12_isDeed = true := by decide +kernel
noncomputable def fX12_isDeed (mi : Nat → Int32) (p1 : Int32) : Int32 := cal (fun o1 => o1) (fX12_in (p1.toInt64) (0 : Int64) (((mi 17) - (1 : Int32)).toInt64))
set_option maxHeartbeats 4000000 in
set_option maxRecDepth 100000 in
theorem sX12_isDeed (l : Launch) (dC : Nat → ClassId) (dI : Nat → Nat → Nat) (h0 : Nat) (mi : Nat → Int32) (mr : Nat → Nat) (km : Nat → ClassId) (fm_trust : Nat → Int32) (fm_letter : Nat → Int32) (fm_reportPlace : Nat → Int32) (fm_reportKind : Nat → Int32) (fm_struck : Nat → Int32) (fm_reportMonth : Nat → Int32) (fm_reportDay : Nat → Int32) (fm_reportKnown : Nat → Int32) (fm_deedMonth : Nat → Int32) (fm_deedDay : Nat → Int32) (fm_deedLong : Nat → Int32) (fm_deedKind : Nat → Int32) (fm_kept : Nat → Int32) (fm_tape : Nat → Int32) (fm_must : Nat → Int32) (fm_least : Nat → Int32) (fm_pin : Nat → Int32) (fm_ways : Nat → Int32) (fm_verdict : Nat → Int32) (fm_row : Nat → Int32) (fm_official : Nat → Int32) (fm_aside : Nat → Int32) (fm_worth : Nat → Int32) (fm_out : Nat → Int32) (p1 : Int32) (gmi_0 : gi (mi 0) 0 24) (gmi_1 : gi (mi 1) 0 5) (gmi_2 : gi (mi 2) 0 5) (gmi_4 : gi (mi 4) 0 1) (gmi_7 : gi (mi 7) 0 6) (gmi_10 : gi (mi 10) 0 24) (gmi_17 : gi (mi 17) 0 8) (gmi_23 : gi (mi 23) 0 300) (gmi_24 : gi (mi 24) 0 1) (gmi_26 : gi (mi 26) 0 1600) (gmi_29 : gi (mi 29) 0 1600) (gmi_30 : gi (mi 30) 0 1600) (gmi_33 : gi (mi 33) 0 1) (gmi_37 : gi (mi 37) 0 1) (gmi_41 : gi (mi 41) 0 24) (gmi_50 : gi (mi 50) 0 1) (gmi_51 : gi (mi 51) 0 1) (gmi_56 : gi (mi 56) 0 80) : Met l yX12_isDeed (.code yX12_isDeed cX12_isDeed 2 (some .boolean) :: wsGB) ({ frames := 1, cells := 0, slots := 0, locals := 25 }) (va_Pc [.ref h0, .int p1] (fun U => va_P (dC, dI) vwCl (MWn h0 mr km (mi 0) (mi 1) (mi 2) (mi 3) (mi 4) (mi 5) (mi 6) (mi 7) (mi 10) (mi 17) (mi 23) (mi 24) (mi 26) (mi 27) (mi 28) (mi 29) (mi 30) (mi 31) (mi 32) (mi 33) (mi 37) (mi 41) (mi 42) (mi 43) (mi 44) (mi 45) (mi 47) (mi 48) (mi 49) (mi 50) (mi 51) (mi 54) (mi 56) fm_trust fm_letter fm_reportPlace fm_reportKind fm_struck fm_reportMonth fm_reportDay fm_reportKnown fm_deedMonth fm_deedDay fm_deedLong fm_deedKind fm_kept fm_tape fm_must fm_least fm_pin fm_ways fm_verdict fm_row fm_official fm_aside fm_worth fm_out) U.heap ∧ va_K (dC, dI) vwCl (MT km) U)) (va_Qi (fun (r : Int32) (u : Unit) => (gi r 0 1 ∧ (r.toInt = 1 → gi p1 0 7)) ∧ r = fX12_isDeed mi p1) (fun _ _ => True) (fun _ => False)) 0 0 (fun _ => False) := by
  refine Met.ofW (cc := cX12_isDeed) (maxL := 2) (ret := (some .boolean)) (by decide) rfl ?_
  intro p e s m args below meth c s₁ B hml hv
  obtain ⟨rfl, hP, hK⟩ := hv
  have hx := B.exec
  have hb := B.bytes
  have hr := B.returns
  have hts := atoms_spec (ws := (.code yX12_isDeed cX12_isDeed 2 (some .boolean) :: wsGB)) B.pre
  have hown : s.vm.findClass RX12 = some m.cls := findClass_of_methodNamed B.named
  have hlocks := B.notSynchronized
  have hS : va_S (fun _ => False) s.heap s.heap [] := va_S.rf
  have hl := lv_entry ([.ref h0, .int p1]) (n := 2) (Nat.le_of_ble_eq_true rfl)
  rw [lg_entry_eq]
  generalize (lg_sl ([.ref h0, .int p1]) ++ List.replicate (2 - (lg_sl ([.ref h0, .int p1])).length) Slot.unset).toArray = ls at hl ⊢
  have hl : lv_has ls 2 [(0, .ref h0), (1, .int p1)] := hl
  obtain ⟨RES, hF⟩ : ∃ R9, fX12_isDeed mi p1 = R9 := ⟨_, rfl⟩
  have hR9 := hF
  refine lv_iload_n hx hb (dk_at dkX12_isDeed 0 rfl) rfl (lv_at hl 1 rfl) ?_
  refine lv_i2l (v := (p1).toInt64) hx hb (dk_at dkX12_isDeed 1 rfl) rfl ?_
  refine lv_topl (fun l_5 el_5 => ?_)
  refine lv_lconst (v := 0) hx hb (dk_at dkX12_isDeed 2 rfl) (by decide) ?_
  refine lv_aload_n hx hb (dk_at dkX12_isDeed 3 rfl) rfl (lv_at hl 0 rfl) ?_
  refine va_get (D := (dC, dI)) (ci := 12) (v := .int (mi 17)) (C := RX12) (T := TX12) (N := 57) hx hb hts (fun w h => List.mem_cons_of_mem _ (jnGB_X12 w h)) hown hK hP 0 rfl rfl 17 (by decide) (hts _ (List.mem_cons_of_mem _ mGB_112)) (fun _ h9 => h9) rfl (dk_at dkX12_isDeed 4 rfl) ?_
  refine lv_iconst (v := 1) hx hb (dk_at dkX12_isDeed 5 rfl) (by decide) ?_
  refine lv_isub hx hb (dk_at dkX12_isDeed 6 rfl) ?_
  refine lv_topi (fun x_6 ex_6 => ?_)
  have gx_6 : gi x_6 (-1) 7 := gi_sub ex_6 gmi_17 (gi_c 1 1 (by decide)) (by decide)
  refine lv_i2l (v := (x_6).toInt64) hx hb (dk_at dkX12_isDeed 7 rfl) rfl ?_
  refine lv_topl (fun l_7 el_7 => ?_)
  have hPc := hP.sub (ws' := []) [] rfl
  have hKc := hK.sub (tys' := []) [] rfl
  refine va_calli (va_runS (As := [.long l_5, .long 0, .long l_7]) (rest := []) ⟨hx, hb, hml, hown, hts⟩ (sX12_in l dC dI l_5 0 l_7) (cwS 3 hts (gz_gS mGB_47 mGB_48 mGB_1 mGB_49 goodGB) rfl rfl rfl (by decide +kernel) ⟨Nat.le_of_ble_eq_true rfl, Nat.le_of_ble_eq_true rfl⟩) ⟨bl_R, fun U hU hW => ⟨rfl, by rw [hU]; exact hPc, va_K.moved hW.alike hKc⟩⟩ rfl rfl hl.1 rfl (lv_room (Nat.le_of_ble_eq_true rfl)) (dk_at dkX12_isDeed 8 rfl) ⟨Nat.zero_le _, Nat.zero_le _⟩) hS (fun q _ h => h.elim) (fun q h => h.elim) (fun r_8 u t H1 locs ht hvm hw hB hz1 hk1 hS => ?_)
  obtain ⟨hw, hE⟩ := hw
  have hP := gz_keep hP hk1
  have hF := gf_call (a := r_8) (by rw [el_7, ex_6, el_5] at hE; exact hE) hF
  generalize H1 = H at hP hS ⊢
  have gr_8 : gi r_8 0 1 := hw.1
  have hqr_8 := hw.2
  exact W.zret (v := r_8) hx hb hr (gz_nb gr_8) (fun t ht hW => ⟨⟨r_8, (), rfl, ⟨⟨gr_8, (fun h1 => (gi_w (gz_inr (hqr_8.1 h1) el_5 (A := 0) (B := 7) (by decide) (gz_l2u el_7 gx_6)) (by decide)))⟩, hF.trans hR9.symm⟩, trivial⟩, hS.F ht⟩) hS.2.2 (dk_at dkX12_isDeed 9 rfl)
noncomputable def lsX12_isTime : List (Nat × Instr × Nat) := [(0, .aload_n 0, 1), (1, .getfield 126, 3), (4, .ifCond .le 19, 3), (7, .iload_n 1, 1), (8, .i2l, 1), (9, .lconst 0, 1), (10, .ldc2_w 292, 3), (13, .invokestatic 102, 3), (16, .ifCond .eq 7, 3), (19, .iconst 1, 1), (20, .goto 4, 3), (23, .iconst 0, 1), (24, .ireturn, 1)]
theorem dkX12_isTime : dkAll cX12_isTime lsX12_isTime = true := by decide +kernel
noncomputable def bfX12_isTime_24 (mi : Nat → Int32) (p1 : Int32) (s0 : Int32) : Int32 := s0
noncomputable def bfX12_isTime_23 (mi : Nat → Int32) (p1 : Int32) : Int32 := bfX12_isTime_24 mi p1 (0 : Int32)
noncomputable def fX12_isTime (mi : Nat → Int32) (p1 : Int32) : Int32 := if (mi 3) ≤ (0 : Int32) then (bfX12_isTime_23 mi p1) else (cal (fun o1 => if o1 = (0 : Int32) then (bfX12_isTime_23 mi p1) else (bfX12_isTime_24 mi p1 (1 : Int32))) (fX12_in (p1.toInt64) (0 : Int64) (999 : Int64)))
set_option maxHeartbeats 4000000 in
set_option maxRecDepth 100000 in
theorem sX12_isTime (l : Launch) (dC : Nat → ClassId) (dI : Nat → Nat → Nat) (h0 : Nat) (mi : Nat → Int32) (mr : Nat → Nat) (km : Nat → ClassId) (fm_trust : Nat → Int32) (fm_letter : Nat → Int32) (fm_reportPlace : Nat → Int32) (fm_reportKind : Nat → Int32) (fm_struck : Nat → Int32) (fm_reportMonth : Nat → Int32) (fm_reportDay : Nat → Int32) (fm_reportKnown : Nat → Int32) (fm_deedMonth : Nat → Int32) (fm_deedDay : Nat → Int32) (fm_deedLong : Nat → Int32) (fm_deedKind : Nat → Int32) (fm_kept : Nat → Int32) (fm_tape : Nat → Int32) (fm_must : Nat → Int32) (fm_least : Nat → Int32) (fm_pin : Nat → Int32) (fm_ways : Nat → Int32) (fm_verdict : Nat → Int32) (fm_row : Nat → Int32) (fm_official : Nat → Int32) (fm_aside : Nat → Int32) (fm_worth : Nat → Int32) (fm_out : Nat → Int32) (p1 : Int32) (gmi_0 : gi (mi 0) 0 24) (gmi_1 : gi (mi 1) 0 5) (gmi_2 : gi (mi 2) 0 5) (gmi_4 : gi (mi 4) 0 1) (gmi_7 : gi (mi 7) 0 6) (gmi_10 : gi (mi 10) 0 24) (gmi_17 : gi (mi 17) 0 8) (gmi_23 : gi (mi 23) 0 300) (gmi_24 : gi (mi 24) 0 1) (gmi_26 : gi (mi 26) 0 1600) (gmi_29 : gi (mi 29) 0 1600) (gmi_30 : gi (mi 30) 0 1600) (gmi_33 : gi (mi 33) 0 1) (gmi_37 : gi (mi 37) 0 1) (gmi_41 : gi (mi 41) 0 24) (gmi_50 : gi (mi 50) 0 1) (gmi_51 : gi (mi 51) 0 1) (gmi_56 : gi (mi 56) 0 80) : Met l yX12_isTime (.code yX12_isTime cX12_isTime 2 (some .boolean) :: wsGB) ({ frames := 1, cells := 0, slots := 0, locals := 25 }) (va_Pc [.ref h0, .int p1] (fun U => va_P (dC, dI) vwCl (MWn h0 mr km (mi 0) (mi 1) (mi 2) (mi 3) (mi 4) (mi 5) (mi 6) (mi 7) (mi 10) (mi 17) (mi 23) (mi 24) (mi 26) (mi 27) (mi 28) (mi 29) (mi 30) (mi 31) (mi 32) (mi 33) (mi 37) (mi 41) (mi 42) (mi 43) (mi 44) (mi 45) (mi 47) (mi 48) (mi 49) (mi 50) (mi 51) (mi 54) (mi 56) fm_trust fm_letter fm_reportPlace fm_reportKind fm_struck fm_reportMonth fm_reportDay fm_reportKnown fm_deedMonth fm_deedDay fm_deedLong fm_deedKind fm_kept fm_tape fm_must fm_least fm_pin fm_ways fm_verdict fm_row fm_official fm_aside fm_worth fm_out) U.heap ∧ va_K (dC, dI) vwCl (MT km) U)) (va_Qi (fun (r : Int32) (u : Unit) => (gi r 0 1 ∧ (r.toInt = 1 → gi p1 0 999)) ∧ r = fX12_isTime mi p1) (fun _ _ => True) (fun _ => False)) 0 0 (fun _ => False) := by
  refine Met.ofW (cc := cX12_isTime) (maxL := 2) (ret := (some .boolean)) (by decide) rfl ?_
  intro p e s m args below meth c s₁ B hml hv
  obtain ⟨rfl, hP, hK⟩ := hv
  have hx := B.exec
  have hb := B.bytes
  have hr := B.returns
  have hts := atoms_spec (ws := (.code yX12_isTime cX12_isTime 2 (some .boolean) :: wsGB)) B.pre
  have hown : s.vm.findClass RX12 = some m.cls := findClass_of_methodNamed B.named
  have hlocks := B.notSynchronized
  have hS : va_S (fun _ => False) s.heap s.heap [] := va_S.rf
  have hl := lv_entry ([.ref h0, .int p1]) (n := 2) (Nat.le_of_ble_eq_true rfl)
  rw [lg_entry_eq]
  generalize (lg_sl ([.ref h0, .int p1]) ++ List.replicate (2 - (lg_sl ([.ref h0, .int p1])).length) Slot.unset).toArray = ls at hl ⊢
  have hl : lv_has ls 2 [(0, .ref h0), (1, .int p1)] := hl
  obtain ⟨RES, hF⟩ : ∃ R9, fX12_isTime mi p1 = R9 := ⟨_, rfl⟩
  have hR9 := hF
  refine lv_aload_n hx hb (dk_at dkX12_isTime 0 rfl) rfl (lv_at hl 0 rfl) ?_
  refine va_get (D := (dC, dI)) (ci := 12) (v := .int (mi 3)) (C := RX12) (T := TX12) (N := 57) hx hb hts (fun w h => List.mem_cons_of_mem _ (jnGB_X12 w h)) hown hK hP 0 rfl rfl 3 (by decide) (hts _ (List.mem_cons_of_mem _ mGB_106)) (fun _ h9 => h9) rfl (dk_at dkX12_isTime 1 rfl) ?_
  refine lv_if_le (tgt := 23) hx hb (dk_at dkX12_isTime 2 rfl) (by decide) (fun c_10 => ?_) (fun c_10 => ?_)
  · have hF := gf_pos c_10 hF
    have g_11 : gi (mi 3) (-2147483648) 0 := gi_le_l c_10 (gi_any (mi 3)) (gi_c 0 0 (by decide))
    refine lv_iconst (v := 0) hx hb (dk_at dkX12_isTime 11 rfl) (by decide) ?_
    exact W.zret (v := 0) hx hb hr (by decide) (fun t ht hW => ⟨⟨0, (), rfl, ⟨⟨(gi_w (gi_c 0 0 (by decide)) (by decide)), (fun h => absurd h (by decide))⟩, hF.trans hR9.symm⟩, trivial⟩, hS.F ht⟩) hS.2.2 (dk_at dkX12_isTime 12 rfl)
  · have hF := gf_neg c_10 hF
    have g_12 : gi (mi 3) 1 2147483647 := gi_lt_r (Int32.not_le.mp c_10) (gi_c 0 0 (by decide)) (gi_any (mi 3)) (by decide)
    refine lv_iload_n hx hb (dk_at dkX12_isTime 3 rfl) rfl (lv_at hl 1 rfl) ?_
    refine lv_i2l (v := (p1).toInt64) hx hb (dk_at dkX12_isTime 4 rfl) rfl ?_
    refine lv_topl (fun l_13 el_13 => ?_)
    refine lv_lconst (v := 0) hx hb (dk_at dkX12_isTime 5 rfl) (by decide) ?_
    refine lv_ldc2 (own := RX12) (v := 999) hx hb hown (hts _ (List.mem_cons_of_mem _ mGB_260)) (dk_at dkX12_isTime 6 rfl) ?_
    have hPc := hP.sub (ws' := []) [] rfl
    have hKc := hK.sub (tys' := []) [] rfl
    refine va_calli (va_runS (As := [.long l_13, .long 0, .long 999]) (rest := []) ⟨hx, hb, hml, hown, hts⟩ (sX12_in l dC dI l_13 0 999) (cwS 3 hts (gz_gS mGB_47 mGB_48 mGB_1 mGB_49 goodGB) rfl rfl rfl (by decide +kernel) ⟨Nat.le_of_ble_eq_true rfl, Nat.le_of_ble_eq_true rfl⟩) ⟨bl_R, fun U hU hW => ⟨rfl, by rw [hU]; exact hPc, va_K.moved hW.alike hKc⟩⟩ rfl rfl hl.1 rfl (lv_room (Nat.le_of_ble_eq_true rfl)) (dk_at dkX12_isTime 7 rfl) ⟨Nat.zero_le _, Nat.zero_le _⟩) hS (fun q _ h => h.elim) (fun q h => h.elim) (fun r_14 u t H1 locs ht hvm hw hB hz1 hk1 hS => ?_)
    obtain ⟨hw, hE⟩ := hw
    have hP := gz_keep hP hk1
    have hF := gf_call (a := r_14) (by rw [el_13] at hE; exact hE) hF
    generalize H1 = H at hP hS ⊢
    have gr_14 : gi r_14 0 1 := hw.1
    have hqr_14 := hw.2
    refine lv_if_eq (tgt := 23) hx hb (dk_at dkX12_isTime 8 rfl) (by decide) (fun c_15 => ?_) (fun c_15 => ?_)
    · have hF := gf_pos c_15 hF
      have g_16 : gi r_14 0 0 := gi_eq c_15 (gi_c 0 0 (by decide))
      refine lv_iconst (v := 0) hx hb (dk_at dkX12_isTime 11 rfl) (by decide) ?_
      exact W.zret (v := 0) hx hb hr (by decide) (fun t ht hW => ⟨⟨0, (), rfl, ⟨⟨(gi_w (gi_c 0 0 (by decide)) (by decide)), (fun h => absurd h (by decide))⟩, hF.trans hR9.symm⟩, trivial⟩, hS.F ht⟩) hS.2.2 (dk_at dkX12_isTime 12 rfl)
    · have hF := gf_neg c_15 hF
      have g_17 : gi r_14 1 1 := gi_ne_lo c_15 gr_14 (gi_c 0 0 (by decide)) (by decide)
      have g_18 : gi p1 0 999 := gi_cap (gi_any p1) (gz_inr (hqr_14.1 (gz_one g_17)) el_13 (A := 0) (B := 999) (by decide) (by decide)) (by decide)
      refine lv_iconst (v := 1) hx hb (dk_at dkX12_isTime 9 rfl) (by decide) ?_
      refine lv_goto (tgt := 24) hx hb (dk_at dkX12_isTime 10 rfl) (by decide) ?_
      exact W.zret (v := 1) hx hb hr (by decide) (fun t ht hW => ⟨⟨1, (), rfl, ⟨⟨(gi_w (gi_c 1 1 (by decide)) (by decide)), (fun _ => g_18)⟩, hF.trans hR9.symm⟩, trivial⟩, hS.F ht⟩) hS.2.2 (dk_at dkX12_isTime 12 rfl)
noncomputable def lsX12_earlyOf : List (Nat × Instr × Nat) := [(0, .aload_n 0, 1), (1, .getfield 132, 3), (4, .iload_n 1, 1), (5, .aload_n 0, 1), (6, .getfield 135, 3), (9, .imul, 1), (10, .iadd, 1), (11, .sipush 1000, 3), (14, .idiv, 1), (15, .ireturn, 1)]
theorem dkX12_earlyOf : dkAll cX12_earlyOf lsX12_earlyOf = true := by decide +kernel
noncomputable def fX12_earlyOf (mi : Nat → Int32) (p1 : Int32) : Int32 := (((mi 5) + (p1 * (mi 6))) / (1000 : Int32))
set_option maxHeartbeats 4000000 in
set_option maxRecDepth 100000 in
theorem sX12_earlyOf (l : Launch) (dC : Nat → ClassId) (dI : Nat → Nat → Nat) (h0 : Nat) (mi : Nat → Int32) (mr : Nat → Nat) (km : Nat → ClassId) (fm_trust : Nat → Int32) (fm_letter : Nat → Int32) (fm_reportPlace : Nat → Int32) (fm_reportKind : Nat → Int32) (fm_struck : Nat → Int32) (fm_reportMonth : Nat → Int32) (fm_reportDay : Nat → Int32) (fm_reportKnown : Nat → Int32) (fm_deedMonth : Nat → Int32) (fm_deedDay : Nat → Int32) (fm_deedLong : Nat → Int32) (fm_deedKind : Nat → Int32) (fm_kept : Nat → Int32) (fm_tape : Nat → Int32) (fm_must : Nat → Int32) (fm_least : Nat → Int32) (fm_pin : Nat → Int32) (fm_ways : Nat → Int32) (fm_verdict : Nat → Int32) (fm_row : Nat → Int32) (fm_official : Nat → Int32) (fm_aside : Nat → Int32) (fm_worth : Nat → Int32) (fm_out : Nat → Int32) (p1 : Int32) (gmi_0 : gi (mi 0) 0 24) (gmi_1 : gi (mi 1) 0 5) (gmi_2 : gi (mi 2) 0 5) (gmi_4 : gi (mi 4) 0 1) (gmi_7 : gi (mi 7) 0 6) (gmi_10 : gi (mi 10) 0 24) (gmi_17 : gi (mi 17) 0 8) (gmi_23 : gi (mi 23) 0 300) (gmi_24 : gi (mi 24) 0 1) (gmi_26 : gi (mi 26) 0 1600) (gmi_29 : gi (mi 29) 0 1600) (gmi_30 : gi (mi 30) 0 1600) (gmi_33 : gi (mi 33) 0 1) (gmi_37 : gi (mi 37) 0 1) (gmi_41 : gi (mi 41) 0 24) (gmi_50 : gi (mi 50) 0 1) (gmi_51 : gi (mi 51) 0 1) (gmi_56 : gi (mi 56) 0 80) : Met l yX12_earlyOf (.code yX12_earlyOf cX12_earlyOf 2 (some .int) :: wsGB) ({ frames := 0, cells := 0, slots := 0, locals := 0 }) (va_Pc [.ref h0, .int p1] (fun U => va_P (dC, dI) vwCl (MWn h0 mr km (mi 0) (mi 1) (mi 2) (mi 3) (mi 4) (mi 5) (mi 6) (mi 7) (mi 10) (mi 17) (mi 23) (mi 24) (mi 26) (mi 27) (mi 28) (mi 29) (mi 30) (mi 31) (mi 32) (mi 33) (mi 37) (mi 41) (mi 42) (mi 43) (mi 44) (mi 45) (mi 47) (mi 48) (mi 49) (mi 50) (mi 51) (mi 54) (mi 56) fm_trust fm_letter fm_reportPlace fm_reportKind fm_struck fm_reportMonth fm_reportDay fm_reportKnown fm_deedMonth fm_deedDay fm_deedLong fm_deedKind fm_kept fm_tape fm_must fm_least fm_pin fm_ways fm_verdict fm_row fm_official fm_aside fm_worth fm_out) U.heap ∧ va_K (dC, dI) vwCl (MT km) U)) (va_Qi (fun (r : Int32) (u : Unit) => (gi r (-2147483648) 2147483647) ∧ r = fX12_earlyOf mi p1) (fun _ _ => True) (fun _ => False)) 0 0 (fun _ => False) := by
  refine Met.ofW (cc := cX12_earlyOf) (maxL := 2) (ret := (some .int)) (by decide) rfl ?_
  intro p e s m args below meth c s₁ B hml hv
  obtain ⟨rfl, hP, hK⟩ := hv
  have hx := B.exec
  have hb := B.bytes
  have hr := B.returns
  have hts := atoms_spec (ws := (.code yX12_earlyOf cX12_earlyOf 2 (some .int) :: wsGB)) B.pre
  have hown : s.vm.findClass RX12 = some m.cls := findClass_of_methodNamed B.named
  have hlocks := B.notSynchronized
  have hS : va_S (fun _ => False) s.heap s.heap [] := va_S.rf
  have hl := lv_entry ([.ref h0, .int p1]) (n := 2) (Nat.le_of_ble_eq_true rfl)
  rw [lg_entry_eq]
  generalize (lg_sl ([.ref h0, .int p1]) ++ List.replicate (2 - (lg_sl ([.ref h0, .int p1])).length) Slot.unset).toArray = ls at hl ⊢
  have hl : lv_has ls 2 [(0, .ref h0), (1, .int p1)] := hl
  obtain ⟨RES, hF⟩ : ∃ R9, fX12_earlyOf mi p1 = R9 := ⟨_, rfl⟩
  have hR9 := hF
  refine lv_aload_n hx hb (dk_at dkX12_earlyOf 0 rfl) rfl (lv_at hl 0 rfl) ?_
  refine va_get (D := (dC, dI)) (ci := 12) (v := .int (mi 5)) (C := RX12) (T := TX12) (N := 57) hx hb hts (fun w h => List.mem_cons_of_mem _ (jnGB_X12 w h)) hown hK hP 0 rfl rfl 5 (by decide) (hts _ (List.mem_cons_of_mem _ mGB_108)) (fun _ h9 => h9) rfl (dk_at dkX12_earlyOf 1 rfl) ?_
  refine lv_iload_n hx hb (dk_at dkX12_earlyOf 2 rfl) rfl (lv_at hl 1 rfl) ?_
  refine lv_aload_n hx hb (dk_at dkX12_earlyOf 3 rfl) rfl (lv_at hl 0 rfl) ?_
  refine va_get (D := (dC, dI)) (ci := 12) (v := .int (mi 6)) (C := RX12) (T := TX12) (N := 57) hx hb hts (fun w h => List.mem_cons_of_mem _ (jnGB_X12 w h)) hown hK hP 0 rfl rfl 6 (by decide) (hts _ (List.mem_cons_of_mem _ mGB_109)) (fun _ h9 => h9) rfl (dk_at dkX12_earlyOf 4 rfl) ?_
  refine lv_imul hx hb (dk_at dkX12_earlyOf 5 rfl) ?_
  refine lv_topi (fun x_4 ex_4 => ?_)
  refine lv_iadd hx hb (dk_at dkX12_earlyOf 6 rfl) ?_
  refine lv_topi (fun x_5 ex_5 => ?_)
  refine lv_sipush (v := 1000) hx hb (dk_at dkX12_earlyOf 7 rfl) (by decide) ?_
  refine lv_idiv hx hb (dk_at dkX12_earlyOf 8 rfl) (by decide) ?_
  refine lv_topi (fun x_6 ex_6 => ?_)
  exact W.iret (v := x_6) hx hb hr (fun t ht hW => ⟨⟨x_6, (), rfl, ⟨(gi_any x_6), by rw [ex_6, ex_5, ex_4]; exact hF.trans hR9.symm⟩, trivial⟩, hS.F ht⟩) hS.2.2 (dk_at dkX12_earlyOf 9 rfl)
noncomputable def lsX12_isNameAhead : List (Nat × Instr × Nat) := [(0, .iconst 0, 1), (1, .istore_n 3, 1), (2, .iload_n 3, 1), (3, .bipush 6, 2), (5, .if_icmp .ge 55, 3), (8, .aload_n 0, 1), (9, .getfield 13, 3), (12, .bipush 6, 2), (14, .iload_n 1, 1), (15, .imul, 1), (16, .iload_n 3, 1), (17, .iadd, 1), (18, .iaload, 1), (19, .istore 4, 2), (21, .aload_n 0, 1), (22, .getfield 13, 3), (25, .bipush 6, 2), (27, .iload_n 2, 1), (28, .imul, 1), (29, .iload_n 3, 1), (30, .iadd, 1), (31, .iaload, 1), (32, .istore 5, 2), (34, .iload 4, 2), (36, .iload 5, 2), (38, .if_icmp .eq 16, 3), (41, .iload 4, 2), (43, .iload 5, 2), (45, .if_icmp .ge 7, 3), (48, .iconst 1, 1), (49, .goto 4, 3), (52, .iconst 0, 1), (53, .ireturn, 1), (54, .iinc 3 1, 3), (57, .goto (-55), 3), (60, .iconst 0, 1), (61, .ireturn, 1)]
theorem dkX12_isNameAhead : dkAll cX12_isNameAhead lsX12_isNameAhead = true := by decide +kernel
noncomputable def bfX12_isNameAhead_53 (fm_letter : Nat → Int32) (p1 : Int32) (p2 : Int32) (K : (Int32 → Int32)) (s0 : Int32) : Int32 := s0
noncomputable def dfX12_isNameAhead_2 (fm_letter : Nat → Int32) (p1 : Int32) (p2 : Int32) (K : (Int32 → Int32)) (v3 : Int32) : Int32 := if (6 : Int32) ≤ v3 then (0 : Int32) else (if (fm_letter (((6 : Int32) * p1) + v3).toNatClampNeg) = (fm_letter (((6 : Int32) * p2) + v3).toNatClampNeg) then (K (v3 + (1 : Int32))) else (if (fm_letter (((6 : Int32) * p2) + v3).toNatClampNeg) ≤ (fm_letter (((6 : Int32) * p1) + v3).toNatClampNeg) then (bfX12_isNameAhead_53 fm_letter p1 p2 K (0 : Int32)) else (bfX12_isNameAhead_53 fm_letter p1 p2 K (1 : Int32))))
noncomputable def lfX12_isNameAhead (fm_letter : Nat → Int32) (p1 : Int32) (p2 : Int32) (z : Nat) : (Int32 → Int32) := Nat.rec (motive := fun _ => (Int32 → Int32)) (fun _ => (0)) (fun _ K => dfX12_isNameAhead_2 fm_letter p1 p2 K) z
noncomputable def fX12_isNameAhead (fm_letter : Nat → Int32) (p1 : Int32) (p2 : Int32) : Int32 := (lfX12_isNameAhead fm_letter p1 p2 1000000000) (0 : Int32)
set_option maxHeartbeats 4000000 in
set_option maxRecDepth 100000 in
theorem lp_sX12_isNameAhead {p : Program} {l : Launch} {e : Env} {R : Room} {s : State} {m : MethodId} {args : Array Value} {below : List Frame} {meth : Method} {c : Code} {Q : State → Prop} {A : Nat → Prop} {cells slots : Nat} {dC : Nat → ClassId} {dI : Nat → Nat → Nat} {RES : Int32} (h0 : Nat) (mi : Nat → Int32) (mr : Nat → Nat) (km : Nat → ClassId) (fm_letter : Nat → Int32) (fm_trust : Nat → Int32) (fm_reportPlace : Nat → Int32) (fm_reportKind : Nat → Int32) (fm_struck : Nat → Int32) (fm_reportMonth : Nat → Int32) (fm_reportDay : Nat → Int32) (fm_reportKnown : Nat → Int32) (fm_deedMonth : Nat → Int32) (fm_deedDay : Nat → Int32) (fm_deedLong : Nat → Int32) (fm_deedKind : Nat → Int32) (fm_kept : Nat → Int32) (fm_tape : Nat → Int32) (fm_must : Nat → Int32) (fm_least : Nat → Int32) (fm_pin : Nat → Int32) (fm_ways : Nat → Int32) (fm_verdict : Nat → Int32) (fm_row : Nat → Int32) (fm_official : Nat → Int32) (fm_aside : Nat → Int32) (fm_worth : Nat → Int32) (fm_out : Nat → Int32) (p1 : Int32) (p2 : Int32) (gmi_0 : gi (mi 0) 0 24) (gmi_1 : gi (mi 1) 0 5) (gmi_2 : gi (mi 2) 0 5) (gmi_4 : gi (mi 4) 0 1) (gmi_7 : gi (mi 7) 0 6) (gmi_10 : gi (mi 10) 0 24) (gmi_17 : gi (mi 17) 0 8) (gmi_23 : gi (mi 23) 0 300) (gmi_24 : gi (mi 24) 0 1) (gmi_26 : gi (mi 26) 0 1600) (gmi_29 : gi (mi 29) 0 1600) (gmi_30 : gi (mi 30) 0 1600) (gmi_33 : gi (mi 33) 0 1) (gmi_37 : gi (mi 37) 0 1) (gmi_41 : gi (mi 41) 0 24) (gmi_50 : gi (mi 50) 0 1) (gmi_51 : gi (mi 51) 0 1) (gmi_56 : gi (mi 56) 0 80) (gp1 : gi p1 0 5) (gp2 : gi p2 0 5) (hx : p.tables.exec = Jvm.exec) (hb : c.code = cX12_isNameAhead) (hml : c.maxLocals = 6) (hown : s.vm.findClass RX12 = some m.cls) (hts : ∀ w ∈ ((.code yX12_isNameAhead cX12_isNameAhead 6 (some .boolean) :: wsGB) : List Cond), w.before args s = true) (hK : va_K (dC, dI) vwCl (MT km) s) (hRf : 0 ≤ R.frames) (hRl : 0 ≤ R.locals) (hRc : cells ≤ R.cells) (hRs : slots ≤ R.slots) (kr61 : ∀ (v : Int32) (H : Heap) (locs : List Loc) (ls : Array Slot), gi v 0 0 → v = RES → va_P (dC, dI) vwCl (MWn h0 mr km (mi 0) (mi 1) (mi 2) (mi 3) (mi 4) (mi 5) (mi 6) (mi 7) (mi 10) (mi 17) (mi 23) (mi 24) (mi 26) (mi 27) (mi 28) (mi 29) (mi 30) (mi 31) (mi 32) (mi 33) (mi 37) (mi 41) (mi 42) (mi 43) (mi 44) (mi 45) (mi 47) (mi 48) (mi 49) (mi 50) (mi 51) (mi 54) (mi 56) fm_trust fm_letter fm_reportPlace fm_reportKind fm_struck fm_reportMonth fm_reportDay fm_reportKnown fm_deedMonth fm_deedDay fm_deedLong fm_deedKind fm_kept fm_tape fm_must fm_least fm_pin fm_ways fm_verdict fm_row fm_official fm_aside fm_worth fm_out) H → va_S A s.heap H locs → lv_has ls 6 [] → W p l e R s m args below meth c H locs cells slots Q (F0 m 61 ls [.int v])) (kr53 : ∀ (v : Int32) (H : Heap) (locs : List Loc) (ls : Array Slot), gi v 0 1 → v = RES → va_P (dC, dI) vwCl (MWn h0 mr km (mi 0) (mi 1) (mi 2) (mi 3) (mi 4) (mi 5) (mi 6) (mi 7) (mi 10) (mi 17) (mi 23) (mi 24) (mi 26) (mi 27) (mi 28) (mi 29) (mi 30) (mi 31) (mi 32) (mi 33) (mi 37) (mi 41) (mi 42) (mi 43) (mi 44) (mi 45) (mi 47) (mi 48) (mi 49) (mi 50) (mi 51) (mi 54) (mi 56) fm_trust fm_letter fm_reportPlace fm_reportKind fm_struck fm_reportMonth fm_reportDay fm_reportKnown fm_deedMonth fm_deedDay fm_deedLong fm_deedKind fm_kept fm_tape fm_must fm_least fm_pin fm_ways fm_verdict fm_row fm_official fm_aside fm_worth fm_out) H → va_S A s.heap H locs → lv_has ls 6 [] → W p l e R s m args below meth c H locs cells slots Q (F0 m 53 ls [.int v])) : ∀ z : Nat, (∀ (v3 : Int32) (H : Heap) (locs : List Loc) (ls : Array Slot), gi v3 0 6 → (lfX12_isNameAhead fm_letter p1 p2 z) v3 = RES → 13 + (-2) * v3.toInt < (z : Int) → va_P (dC, dI) vwCl (MWn h0 mr km (mi 0) (mi 1) (mi 2) (mi 3) (mi 4) (mi 5) (mi 6) (mi 7) (mi 10) (mi 17) (mi 23) (mi 24) (mi 26) (mi 27) (mi 28) (mi 29) (mi 30) (mi 31) (mi 32) (mi 33) (mi 37) (mi 41) (mi 42) (mi 43) (mi 44) (mi 45) (mi 47) (mi 48) (mi 49) (mi 50) (mi 51) (mi 54) (mi 56) fm_trust fm_letter fm_reportPlace fm_reportKind fm_struck fm_reportMonth fm_reportDay fm_reportKnown fm_deedMonth fm_deedDay fm_deedLong fm_deedKind fm_kept fm_tape fm_must fm_least fm_pin fm_ways fm_verdict fm_row fm_official fm_aside fm_worth fm_out) H → va_S A s.heap H locs → lv_has ls 6 [(0, .ref h0), (1, .int p1), (2, .int p2), (3, .int v3)] → W p l e R s m args below meth c H locs cells slots Q (F0 m 2 ls [])) := by
  intro z
  induction z with
  | zero =>
    intro v3 H locs ls gv3 hF hmu hP hS hl
    exact absurd hmu (by have hv31 := gv3.1; have hv32 := gv3.2; omega)
  | succ z ih =>
      intro v3 H locs ls gv3 hF hmu hP hS hl
      have hF : dfX12_isNameAhead_2 fm_letter p1 p2 (lfX12_isNameAhead fm_letter p1 p2 z) v3 = RES := hF
      refine lv_iload_n hx hb (dk_at dkX12_isNameAhead 2 rfl) rfl (lv_at hl 3 rfl) ?_
      refine lv_bipush (v := 6) hx hb (dk_at dkX12_isNameAhead 3 rfl) (by decide) ?_
      refine lv_icmp_ge (tgt := 60) hx hb (dk_at dkX12_isNameAhead 4 rfl) (by decide) (fun c_87 => ?_) (fun c_87 => ?_)
      · have hF := gf_pos c_87 hF
        have g_88 : gi v3 6 6 := gi_le_r c_87 (gi_c 6 6 (by decide)) gv3
        refine lv_iconst (v := 0) hx hb (dk_at dkX12_isNameAhead 35 rfl) (by decide) ?_
        exact kr61 0 _ _ _ (gi_c 0 0 (by decide)) hF hP hS (lv_sub hl [] rfl)
      · have hF := gf_neg c_87 hF
        have g_89 : gi v3 0 5 := gi_lt_l (Int32.not_le.mp c_87) gv3 (gi_c 6 6 (by decide)) (by decide)
        refine lv_aload_n hx hb (dk_at dkX12_isNameAhead 5 rfl) rfl (lv_at hl 0 rfl) ?_
        refine va_get (D := (dC, dI)) (ci := 12) (v := .ref (mr 1)) (C := RX12) (T := TX12) (N := 57) hx hb hts (fun w h => List.mem_cons_of_mem _ (jnGB_X12 w h)) hown hK hP 0 rfl rfl 9 (by decide) (hts _ (List.mem_cons_of_mem _ mGB_11)) (fun _ h9 => h9) rfl (dk_at dkX12_isNameAhead 6 rfl) ?_
        refine lv_bipush (v := 6) hx hb (dk_at dkX12_isNameAhead 7 rfl) (by decide) ?_
        refine lv_iload_n hx hb (dk_at dkX12_isNameAhead 8 rfl) rfl (lv_at hl 1 rfl) ?_
        refine lv_imul hx hb (dk_at dkX12_isNameAhead 9 rfl) ?_
        refine lv_topi (fun x_90 ex_90 => ?_)
        have gx_90 : gi x_90 0 30 := gi_mul ex_90 (gi_c 6 6 (by decide)) gp1 (by decide)
        refine lv_iload_n hx hb (dk_at dkX12_isNameAhead 10 rfl) rfl (lv_at hl 3 rfl) ?_
        refine lv_iadd hx hb (dk_at dkX12_isNameAhead 11 rfl) ?_
        refine lv_topi (fun x_91 ex_91 => ?_)
        have gx_91 : gi x_91 0 35 := gi_add ex_91 gx_90 g_89 (by decide)
        refine va_iald hx hb hK hP 2 1 rfl rfl (gi_in gx_91 (by decide)) (dk_at dkX12_isNameAhead 12 rfl) ?_
        refine lv_topi (fun x_92 ex_92 => ?_)
        refine lv_istore (lv' := [(4, .int x_92), (0, .ref h0), (1, .int p1), (2, .int p2), (3, .int v3)]) hx hb (dk_at dkX12_isNameAhead 13 rfl) hl (by decide) rfl (fun ls hl => ?_)
        refine lv_aload_n hx hb (dk_at dkX12_isNameAhead 14 rfl) rfl (lv_at hl 1 rfl) ?_
        refine va_get (D := (dC, dI)) (ci := 12) (v := .ref (mr 1)) (C := RX12) (T := TX12) (N := 57) hx hb hts (fun w h => List.mem_cons_of_mem _ (jnGB_X12 w h)) hown hK hP 0 rfl rfl 9 (by decide) (hts _ (List.mem_cons_of_mem _ mGB_11)) (fun _ h9 => h9) rfl (dk_at dkX12_isNameAhead 15 rfl) ?_
        refine lv_bipush (v := 6) hx hb (dk_at dkX12_isNameAhead 16 rfl) (by decide) ?_
        refine lv_iload_n hx hb (dk_at dkX12_isNameAhead 17 rfl) rfl (lv_at hl 3 rfl) ?_
        refine lv_imul hx hb (dk_at dkX12_isNameAhead 18 rfl) ?_
        refine lv_topi (fun x_93 ex_93 => ?_)
        have gx_93 : gi x_93 0 30 := gi_mul ex_93 (gi_c 6 6 (by decide)) gp2 (by decide)
        refine lv_iload_n hx hb (dk_at dkX12_isNameAhead 19 rfl) rfl (lv_at hl 4 rfl) ?_
        refine lv_iadd hx hb (dk_at dkX12_isNameAhead 20 rfl) ?_
        refine lv_topi (fun x_94 ex_94 => ?_)
        have gx_94 : gi x_94 0 35 := gi_add ex_94 gx_93 g_89 (by decide)
        refine va_iald hx hb hK hP 2 1 rfl rfl (gi_in gx_94 (by decide)) (dk_at dkX12_isNameAhead 21 rfl) ?_
        refine lv_topi (fun x_95 ex_95 => ?_)
        refine lv_istore (lv' := [(5, .int x_95), (4, .int x_92), (0, .ref h0), (1, .int p1), (2, .int p2), (3, .int v3)]) hx hb (dk_at dkX12_isNameAhead 22 rfl) hl (by decide) rfl (fun ls hl => ?_)
        refine lv_iload hx hb (dk_at dkX12_isNameAhead 23 rfl) (lv_at hl 1 rfl) ?_
        refine lv_iload hx hb (dk_at dkX12_isNameAhead 24 rfl) (lv_at hl 0 rfl) ?_
        refine lv_icmp_eq (tgt := 54) hx hb (dk_at dkX12_isNameAhead 25 rfl) (by decide) (fun c_96 => ?_) (fun c_96 => ?_)
        · have hF := gf_pos (by rw [ex_95, ex_94, ex_93, ex_92, ex_91, ex_90] at c_96; exact c_96) hF
          obtain ⟨x_97, ex_97⟩ : ∃ y : Int32, y = v3 + 1 := ⟨_, rfl⟩
          have gx_97 : gi x_97 1 6 := gi_add ex_97 g_89 (gi_c 1 1 (by decide)) (by decide)
          refine lv_iinc (v := x_97) (lv' := [(3, .int x_97), (5, .int x_95), (4, .int x_92), (0, .ref h0), (1, .int p1), (2, .int p2)]) hx hb (dk_at dkX12_isNameAhead 33 rfl) hl (k := 5) rfl (by rw [ex_97]; rfl) (by decide) rfl (fun ls hl => ?_)
          refine lv_goto (tgt := 2) hx hb (dk_at dkX12_isNameAhead 34 rfl) (by decide) ?_
          exact ih x_97 _ _ _ (gi_w gx_97 (by decide)) (by rw [ex_97]; exact hF) (by have av3 := gv3.1; have bv3 := gv3.2; have qgx_97 := gx_97.1; have rgx_97 := gx_97.2; have igx_97 : x_97.toInt = v3.toInt + 1 := (by have hc1 : (1 : Int32).toInt = 1 := (by decide); have h9 := gi_addI ex_97 (by have h1 := g_89.1; have h2 := (gi_c 1 1 (by decide)).1; have h3 := g_89.2; have h4 := (gi_c 1 1 (by decide)).2; omega) (by have h1 := g_89.1; have h2 := (gi_c 1 1 (by decide)).1; have h3 := g_89.2; have h4 := (gi_c 1 1 (by decide)).2; omega); rw [hc1] at h9; exact h9); have qgv3 := g_89.1; have rgv3 := g_89.2; omega) hP hS (lv_sub hl [3, 4, 5, 0] rfl)
        · have hF := gf_neg (by rw [ex_95, ex_94, ex_93, ex_92, ex_91, ex_90] at c_96; exact c_96) hF
          refine lv_iload hx hb (dk_at dkX12_isNameAhead 26 rfl) (lv_at hl 1 rfl) ?_
          refine lv_iload hx hb (dk_at dkX12_isNameAhead 27 rfl) (lv_at hl 0 rfl) ?_
          refine lv_icmp_ge (tgt := 52) hx hb (dk_at dkX12_isNameAhead 28 rfl) (by decide) (fun c_98 => ?_) (fun c_98 => ?_)
          · have hF := gf_pos (by rw [ex_95, ex_94, ex_93, ex_92, ex_91, ex_90] at c_98; exact c_98) hF
            refine lv_iconst (v := 0) hx hb (dk_at dkX12_isNameAhead 31 rfl) (by decide) ?_
            exact kr53 0 _ _ _ (gi_w (gi_c 0 0 (by decide)) (by decide)) hF hP hS (lv_sub hl [] rfl)
          · have hF := gf_neg (by rw [ex_95, ex_94, ex_93, ex_92, ex_91, ex_90] at c_98; exact c_98) hF
            have g_99 : gi x_92 (-2147483648) 2147483646 := gi_lt_l (Int32.not_le.mp c_98) (gi_any x_92) (gi_any x_95) (by decide)
            have g_100 : gi x_95 (-2147483647) 2147483647 := gi_lt_r (Int32.not_le.mp c_98) (gi_any x_92) (gi_any x_95) (by decide)
            refine lv_iconst (v := 1) hx hb (dk_at dkX12_isNameAhead 29 rfl) (by decide) ?_
            refine lv_goto (tgt := 53) hx hb (dk_at dkX12_isNameAhead 30 rfl) (by decide) ?_
            exact kr53 1 _ _ _ (gi_w (gi_c 1 1 (by decide)) (by decide)) hF hP hS (lv_sub hl [] rfl)
set_option maxHeartbeats 4000000 in
set_option maxRecDepth 100000 in
theorem sX12_isNameAhead (l : Launch) (dC : Nat → ClassId) (dI : Nat → Nat → Nat) (h0 : Nat) (mi : Nat → Int32) (mr : Nat → Nat) (km : Nat → ClassId) (fm_letter : Nat → Int32) (fm_trust : Nat → Int32) (fm_reportPlace : Nat → Int32) (fm_reportKind : Nat → Int32) (fm_struck : Nat → Int32) (fm_reportMonth : Nat → Int32) (fm_reportDay : Nat → Int32) (fm_reportKnown : Nat → Int32) (fm_deedMonth : Nat → Int32) (fm_deedDay : Nat → Int32) (fm_deedLong : Nat → Int32) (fm_deedKind : Nat → Int32) (fm_kept : Nat → Int32) (fm_tape : Nat → Int32) (fm_must : Nat → Int32) (fm_least : Nat → Int32) (fm_pin : Nat → Int32) (fm_ways : Nat → Int32) (fm_verdict : Nat → Int32) (fm_row : Nat → Int32) (fm_official : Nat → Int32) (fm_aside : Nat → Int32) (fm_worth : Nat → Int32) (fm_out : Nat → Int32) (p1 : Int32) (p2 : Int32) (gmi_0 : gi (mi 0) 0 24) (gmi_1 : gi (mi 1) 0 5) (gmi_2 : gi (mi 2) 0 5) (gmi_4 : gi (mi 4) 0 1) (gmi_7 : gi (mi 7) 0 6) (gmi_10 : gi (mi 10) 0 24) (gmi_17 : gi (mi 17) 0 8) (gmi_23 : gi (mi 23) 0 300) (gmi_24 : gi (mi 24) 0 1) (gmi_26 : gi (mi 26) 0 1600) (gmi_29 : gi (mi 29) 0 1600) (gmi_30 : gi (mi 30) 0 1600) (gmi_33 : gi (mi 33) 0 1) (gmi_37 : gi (mi 37) 0 1) (gmi_41 : gi (mi 41) 0 24) (gmi_50 : gi (mi 50) 0 1) (gmi_51 : gi (mi 51) 0 1) (gmi_56 : gi (mi 56) 0 80) (gp1 : gi p1 0 5) (gp2 : gi p2 0 5) : Met l yX12_isNameAhead (.code yX12_isNameAhead cX12_isNameAhead 6 (some .boolean) :: wsGB) ({ frames := 0, cells := 0, slots := 0, locals := 0 }) (va_Pc [.ref h0, .int p1, .int p2] (fun U => va_P (dC, dI) vwCl (MWn h0 mr km (mi 0) (mi 1) (mi 2) (mi 3) (mi 4) (mi 5) (mi 6) (mi 7) (mi 10) (mi 17) (mi 23) (mi 24) (mi 26) (mi 27) (mi 28) (mi 29) (mi 30) (mi 31) (mi 32) (mi 33) (mi 37) (mi 41) (mi 42) (mi 43) (mi 44) (mi 45) (mi 47) (mi 48) (mi 49) (mi 50) (mi 51) (mi 54) (mi 56) fm_trust fm_letter fm_reportPlace fm_reportKind fm_struck fm_reportMonth fm_reportDay fm_reportKnown fm_deedMonth fm_deedDay fm_deedLong fm_deedKind fm_kept fm_tape fm_must fm_least fm_pin fm_ways fm_verdict fm_row fm_official fm_aside fm_worth fm_out) U.heap ∧ va_K (dC, dI) vwCl (MT km) U)) (va_Qi (fun (r : Int32) (u : Unit) => (gi r 0 1) ∧ r = fX12_isNameAhead fm_letter p1 p2) (fun _ _ => True) (fun _ => False)) 0 0 (fun _ => False) := by
  refine Met.ofW (cc := cX12_isNameAhead) (maxL := 6) (ret := (some .boolean)) (by decide) rfl ?_
  intro p e s m args below meth c s₁ B hml hv
  obtain ⟨rfl, hP, hK⟩ := hv
  have hx := B.exec
  have hb := B.bytes
  have hr := B.returns
  have hts := atoms_spec (ws := (.code yX12_isNameAhead cX12_isNameAhead 6 (some .boolean) :: wsGB)) B.pre
  have hown : s.vm.findClass RX12 = some m.cls := findClass_of_methodNamed B.named
  have hlocks := B.notSynchronized
  have hS : va_S (fun _ => False) s.heap s.heap [] := va_S.rf
  have hl := lv_entry ([.ref h0, .int p1, .int p2]) (n := 6) (Nat.le_of_ble_eq_true rfl)
  rw [lg_entry_eq]
  generalize (lg_sl ([.ref h0, .int p1, .int p2]) ++ List.replicate (6 - (lg_sl ([.ref h0, .int p1, .int p2])).length) Slot.unset).toArray = ls at hl ⊢
  have hl : lv_has ls 6 [(0, .ref h0), (1, .int p1), (2, .int p2)] := hl
  obtain ⟨RES, hF⟩ : ∃ R9, fX12_isNameAhead fm_letter p1 p2 = R9 := ⟨_, rfl⟩
  have hR9 := hF
  refine lv_iconst (v := 0) hx hb (dk_at dkX12_isNameAhead 0 rfl) (by decide) ?_
  refine lv_istore_n (lv' := [(3, .int 0), (0, .ref h0), (1, .int p1), (2, .int p2)]) hx hb (dk_at dkX12_isNameAhead 1 rfl) rfl hl (by decide) rfl (fun ls hl => ?_)
  refine (lp_sX12_isNameAhead h0 mi mr km fm_letter fm_trust fm_reportPlace fm_reportKind fm_struck fm_reportMonth fm_reportDay fm_reportKnown fm_deedMonth fm_deedDay fm_deedLong fm_deedKind fm_kept fm_tape fm_must fm_least fm_pin fm_ways fm_verdict fm_row fm_official fm_aside fm_worth fm_out p1 p2 gmi_0 gmi_1 gmi_2 gmi_4 gmi_7 gmi_10 gmi_17 gmi_23 gmi_24 gmi_26 gmi_29 gmi_30 gmi_33 gmi_37 gmi_41 gmi_50 gmi_51 gmi_56 gp1 gp2 hx hb hml hown hts hK (Nat.le_of_ble_eq_true rfl) (Nat.le_of_ble_eq_true rfl) (Nat.zero_le _) (Nat.zero_le _) (fun v H locs ls gv hF hP hS hl => ?_) (fun v H locs ls gv hF hP hS hl => ?_) 1000000000) 0 _ _ _ (gi_w (gi_c 0 0 (by decide)) (by decide)) hF (by have k0 : (0 : Int32).toInt = 0 := (by decide); omega) hP hS (lv_sub hl [1, 2, 3, 0] rfl)
  · skip
    exact W.zret (v := v) hx hb hr (gz_nb (gi_w gv (by decide))) (fun t ht hW => ⟨⟨v, (), rfl, ⟨(gi_w gv (by decide)), hF.trans hR9.symm⟩, trivial⟩, hS.F ht⟩) hS.2.2 (dk_at dkX12_isNameAhead 36 rfl)
  · skip
    exact W.zret (v := v) hx hb hr (gz_nb gv) (fun t ht hW => ⟨⟨v, (), rfl, ⟨gv, hF.trans hR9.symm⟩, trivial⟩, hS.F ht⟩) hS.2.2 (dk_at dkX12_isNameAhead 32 rfl)
noncomputable def lsX12_isKnown : List (Nat × Instr × Nat) := [(0, .aload_n 0, 1), (1, .getfield 22, 3), (4, .iload_n 1, 1), (5, .baload, 1), (6, .ifCond .ne 17, 3), (9, .aload_n 0, 1), (10, .getfield 32, 3), (13, .iload_n 1, 1), (14, .iaload, 1), (15, .iload_n 2, 1), (16, .if_icmp .gt 7, 3), (19, .iconst 1, 1), (20, .goto 4, 3), (23, .iconst 0, 1), (24, .ireturn, 1)]
theorem dkX12_isKnown : dkAll cX12_isKnown lsX12_isKnown = true := by decide +kernel
noncomputable def bfX12_isKnown_24 (fm_struck : Nat → Int32) (fm_reportKnown : Nat → Int32) (p1 : Int32) (p2 : Int32) (s0 : Int32) : Int32 := s0
noncomputable def bfX12_isKnown_23 (fm_struck : Nat → Int32) (fm_reportKnown : Nat → Int32) (p1 : Int32) (p2 : Int32) : Int32 := bfX12_isKnown_24 fm_struck fm_reportKnown p1 p2 (0 : Int32)
noncomputable def fX12_isKnown (fm_struck : Nat → Int32) (fm_reportKnown : Nat → Int32) (p1 : Int32) (p2 : Int32) : Int32 := if (fm_struck p1.toNatClampNeg) = (0 : Int32) then (if p2 < (fm_reportKnown p1.toNatClampNeg) then (bfX12_isKnown_23 fm_struck fm_reportKnown p1 p2) else (bfX12_isKnown_24 fm_struck fm_reportKnown p1 p2 (1 : Int32))) else (bfX12_isKnown_23 fm_struck fm_reportKnown p1 p2)
set_option maxHeartbeats 4000000 in
set_option maxRecDepth 100000 in
theorem sX12_isKnown (l : Launch) (dC : Nat → ClassId) (dI : Nat → Nat → Nat) (h0 : Nat) (mi : Nat → Int32) (mr : Nat → Nat) (km : Nat → ClassId) (fm_struck : Nat → Int32) (fm_reportKnown : Nat → Int32) (fm_trust : Nat → Int32) (fm_letter : Nat → Int32) (fm_reportPlace : Nat → Int32) (fm_reportKind : Nat → Int32) (fm_reportMonth : Nat → Int32) (fm_reportDay : Nat → Int32) (fm_deedMonth : Nat → Int32) (fm_deedDay : Nat → Int32) (fm_deedLong : Nat → Int32) (fm_deedKind : Nat → Int32) (fm_kept : Nat → Int32) (fm_tape : Nat → Int32) (fm_must : Nat → Int32) (fm_least : Nat → Int32) (fm_pin : Nat → Int32) (fm_ways : Nat → Int32) (fm_verdict : Nat → Int32) (fm_row : Nat → Int32) (fm_official : Nat → Int32) (fm_aside : Nat → Int32) (fm_worth : Nat → Int32) (fm_out : Nat → Int32) (p1 : Int32) (p2 : Int32) (gmi_0 : gi (mi 0) 0 24) (gmi_1 : gi (mi 1) 0 5) (gmi_2 : gi (mi 2) 0 5) (gmi_4 : gi (mi 4) 0 1) (gmi_7 : gi (mi 7) 0 6) (gmi_10 : gi (mi 10) 0 24) (gmi_17 : gi (mi 17) 0 8) (gmi_23 : gi (mi 23) 0 300) (gmi_24 : gi (mi 24) 0 1) (gmi_26 : gi (mi 26) 0 1600) (gmi_29 : gi (mi 29) 0 1600) (gmi_30 : gi (mi 30) 0 1600) (gmi_33 : gi (mi 33) 0 1) (gmi_37 : gi (mi 37) 0 1) (gmi_41 : gi (mi 41) 0 24) (gmi_50 : gi (mi 50) 0 1) (gmi_51 : gi (mi 51) 0 1) (gmi_56 : gi (mi 56) 0 80) (gfm_struck : ga fm_struck 24 0 1) (gfm_reportKnown : ga fm_reportKnown 24 0 999) (gp1 : gi p1 0 23) : Met l yX12_isKnown (.code yX12_isKnown cX12_isKnown 3 (some .boolean) :: wsGB) ({ frames := 0, cells := 0, slots := 0, locals := 0 }) (va_Pc [.ref h0, .int p1, .int p2] (fun U => va_P (dC, dI) vwCl (MWn h0 mr km (mi 0) (mi 1) (mi 2) (mi 3) (mi 4) (mi 5) (mi 6) (mi 7) (mi 10) (mi 17) (mi 23) (mi 24) (mi 26) (mi 27) (mi 28) (mi 29) (mi 30) (mi 31) (mi 32) (mi 33) (mi 37) (mi 41) (mi 42) (mi 43) (mi 44) (mi 45) (mi 47) (mi 48) (mi 49) (mi 50) (mi 51) (mi 54) (mi 56) fm_trust fm_letter fm_reportPlace fm_reportKind fm_struck fm_reportMonth fm_reportDay fm_reportKnown fm_deedMonth fm_deedDay fm_deedLong fm_deedKind fm_kept fm_tape fm_must fm_least fm_pin fm_ways fm_verdict fm_row fm_official fm_aside fm_worth fm_out) U.heap ∧ va_K (dC, dI) vwCl (MT km) U)) (va_Qi (fun (r : Int32) (u : Unit) => (gi r 0 1) ∧ r = fX12_isKnown fm_struck fm_reportKnown p1 p2) (fun _ _ => True) (fun _ => False)) 0 0 (fun _ => False) := by
  refine Met.ofW (cc := cX12_isKnown) (maxL := 3) (ret := (some .boolean)) (by decide) rfl ?_
  intro p e s m args below meth c s₁ B hml hv
  obtain ⟨rfl, hP, hK⟩ := hv
  have hx := B.exec
  have hb := B.bytes
  have hr := B.returns
  have hts := atoms_spec (ws := (.code yX12_isKnown cX12_isKnown 3 (some .boolean) :: wsGB)) B.pre
  have hown : s.vm.findClass RX12 = some m.cls := findClass_of_methodNamed B.named
  have hlocks := B.notSynchronized
  have hS : va_S (fun _ => False) s.heap s.heap [] := va_S.rf
  have hl := lv_entry ([.ref h0, .int p1, .int p2]) (n := 3) (Nat.le_of_ble_eq_true rfl)
  rw [lg_entry_eq]
  generalize (lg_sl ([.ref h0, .int p1, .int p2]) ++ List.replicate (3 - (lg_sl ([.ref h0, .int p1, .int p2])).length) Slot.unset).toArray = ls at hl ⊢
  have hl : lv_has ls 3 [(0, .ref h0), (1, .int p1), (2, .int p2)] := hl
  obtain ⟨RES, hF⟩ : ∃ R9, fX12_isKnown fm_struck fm_reportKnown p1 p2 = R9 := ⟨_, rfl⟩
  have hR9 := hF
  refine lv_aload_n hx hb (dk_at dkX12_isKnown 0 rfl) rfl (lv_at hl 0 rfl) ?_
  refine va_get (D := (dC, dI)) (ci := 12) (v := .ref (mr 4)) (C := RX12) (T := TX12) (N := 57) hx hb hts (fun w h => List.mem_cons_of_mem _ (jnGB_X12 w h)) hown hK hP 0 rfl rfl 13 (by decide) (hts _ (List.mem_cons_of_mem _ mGB_15)) (fun _ h9 => h9) rfl (dk_at dkX12_isKnown 1 rfl) ?_
  refine lv_iload_n hx hb (dk_at dkX12_isKnown 2 rfl) rfl (lv_at hl 1 rfl) ?_
  refine va_zald hx hb hK hP 5 4 rfl rfl (gi_in gp1 (by decide)) (dk_at dkX12_isKnown 3 rfl) ?_
  refine lv_topi (fun x_9 ex_9 => ?_)
  have gx_9 : gi x_9 0 1 := ga_at gfm_struck (gi_in gp1 (by decide)) ex_9
  refine lv_if_ne (tgt := 23) hx hb (dk_at dkX12_isKnown 4 rfl) (by decide) (fun c_10 => ?_) (fun c_10 => ?_)
  · have hF := gf_neg (by rw [ex_9] at c_10; exact c_10) hF
    have g_11 : gi x_9 1 1 := gi_ne_lo c_10 gx_9 (gi_c 0 0 (by decide)) (by decide)
    refine lv_iconst (v := 0) hx hb (dk_at dkX12_isKnown 13 rfl) (by decide) ?_
    exact W.zret (v := 0) hx hb hr (by decide) (fun t ht hW => ⟨⟨0, (), rfl, ⟨(gi_w (gi_c 0 0 (by decide)) (by decide)), hF.trans hR9.symm⟩, trivial⟩, hS.F ht⟩) hS.2.2 (dk_at dkX12_isKnown 14 rfl)
  · have hF := gf_pos (by rw [ex_9] at c_10; exact c_10) hF
    have g_12 : gi x_9 0 0 := gi_eq c_10 (gi_c 0 0 (by decide))
    refine lv_aload_n hx hb (dk_at dkX12_isKnown 5 rfl) rfl (lv_at hl 0 rfl) ?_
    refine va_get (D := (dC, dI)) (ci := 12) (v := .ref (mr 7)) (C := RX12) (T := TX12) (N := 57) hx hb hts (fun w h => List.mem_cons_of_mem _ (jnGB_X12 w h)) hown hK hP 0 rfl rfl 16 (by decide) (hts _ (List.mem_cons_of_mem _ mGB_18)) (fun _ h9 => h9) rfl (dk_at dkX12_isKnown 6 rfl) ?_
    refine lv_iload_n hx hb (dk_at dkX12_isKnown 7 rfl) rfl (lv_at hl 1 rfl) ?_
    refine va_iald hx hb hK hP 8 7 rfl rfl (gi_in gp1 (by decide)) (dk_at dkX12_isKnown 8 rfl) ?_
    refine lv_topi (fun x_13 ex_13 => ?_)
    have gx_13 : gi x_13 0 999 := ga_at gfm_reportKnown (gi_in gp1 (by decide)) ex_13
    refine lv_iload_n hx hb (dk_at dkX12_isKnown 9 rfl) rfl (lv_at hl 2 rfl) ?_
    refine lv_icmp_gt (tgt := 23) hx hb (dk_at dkX12_isKnown 10 rfl) (by decide) (fun c_14 => ?_) (fun c_14 => ?_)
    · have hF := gf_pos (by rw [ex_13] at c_14; exact c_14) hF
      have g_15 : gi p2 (-2147483648) 998 := gi_lt_l c_14 (gi_any p2) gx_13 (by decide)
      refine lv_iconst (v := 0) hx hb (dk_at dkX12_isKnown 13 rfl) (by decide) ?_
      exact W.zret (v := 0) hx hb hr (by decide) (fun t ht hW => ⟨⟨0, (), rfl, ⟨(gi_w (gi_c 0 0 (by decide)) (by decide)), hF.trans hR9.symm⟩, trivial⟩, hS.F ht⟩) hS.2.2 (dk_at dkX12_isKnown 14 rfl)
    · have hF := gf_neg (by rw [ex_13] at c_14; exact c_14) hF
      have g_16 : gi p2 0 2147483647 := gi_le_r (Int32.not_lt.mp c_14) gx_13 (gi_any p2)
      refine lv_iconst (v := 1) hx hb (dk_at dkX12_isKnown 11 rfl) (by decide) ?_
      refine lv_goto (tgt := 24) hx hb (dk_at dkX12_isKnown 12 rfl) (by decide) ?_
      exact W.zret (v := 1) hx hb hr (by decide) (fun t ht hW => ⟨⟨1, (), rfl, ⟨(gi_w (gi_c 1 1 (by decide)) (by decide)), hF.trans hR9.symm⟩, trivial⟩, hS.F ht⟩) hS.2.2 (dk_at dkX12_isKnown 14 rfl)
noncomputable def lsX12_blind : List (Nat × Instr × Nat) := [(0, .aload_n 0, 1), (1, .iload_n 1, 1), (2, .invokevirtual 359, 3), (5, .ifCond .eq 19, 3), (8, .iload_n 2, 1), (9, .i2l, 1), (10, .lconst 1, 1), (11, .aload_n 0, 1), (12, .getfield 117, 3), (15, .iconst 1, 1), (16, .isub, 1), (17, .i2l, 1), (18, .invokestatic 102, 3), (21, .ifCond .ne 6, 3), (24, .bipush (-2), 2), (26, .ireturn, 1), (27, .iconst 0, 1), (28, .istore_n 3, 1), (29, .iconst 0, 1), (30, .istore 4, 2), (32, .iload 4, 2), (34, .aload_n 0, 1), (35, .getfield 141, 3), (38, .if_icmp .ge 48, 3), (41, .aload_n 0, 1), (42, .iload 4, 2), (44, .iload_n 1, 1), (45, .invokevirtual 341, 3), (48, .ifCond .eq 32, 3), (51, .aload_n 0, 1), (52, .getfield 26, 3), (55, .iload 4, 2), (57, .iaload, 1), (58, .iload_n 2, 1), (59, .if_icmp .eq 6, 3), (62, .goto 18, 3), (65, .aload_n 0, 1), (66, .getfield 19, 3), (69, .iload 4, 2), (71, .iaload, 1), (72, .iconst 2, 1), (73, .if_icmp .eq 5, 3), (76, .iconst 0, 1), (77, .ireturn, 1), (78, .iconst 1, 1), (79, .istore_n 3, 1), (80, .iinc 4 1, 3), (83, .goto (-51), 3), (86, .iload_n 3, 1), (87, .ifCond .eq 7, 3), (90, .iconst 1, 1), (91, .goto 4, 3), (94, .iconst 0, 1), (95, .ireturn, 1)]
theorem dkX12_blind : dkAll cX12_blind lsX12_blind = true := by decide +kernel
noncomputable def bfX12_blind_24 (mi : Nat → Int32) (fm_struck : Nat → Int32) (fm_reportKnown : Nat → Int32) (fm_reportMonth : Nat → Int32) (fm_reportKind : Nat → Int32) (p1 : Int32) (p2 : Int32) (K : (Int32 → Int32 → Int32)) : Int32 := (-2 : Int32)
noncomputable def bfX12_blind_80 (mi : Nat → Int32) (fm_struck : Nat → Int32) (fm_reportKnown : Nat → Int32) (fm_reportMonth : Nat → Int32) (fm_reportKind : Nat → Int32) (p1 : Int32) (p2 : Int32) (K : (Int32 → Int32 → Int32)) (v3 : Int32) (v4 : Int32) : Int32 := K v3 (v4 + (1 : Int32))
noncomputable def bfX12_blind_95 (mi : Nat → Int32) (fm_struck : Nat → Int32) (fm_reportKnown : Nat → Int32) (fm_reportMonth : Nat → Int32) (fm_reportKind : Nat → Int32) (p1 : Int32) (p2 : Int32) (K : (Int32 → Int32 → Int32)) (s0 : Int32) : Int32 := s0
noncomputable def dfX12_blind_32 (mi : Nat → Int32) (fm_struck : Nat → Int32) (fm_reportKnown : Nat → Int32) (fm_reportMonth : Nat → Int32) (fm_reportKind : Nat → Int32) (p1 : Int32) (p2 : Int32) (K : (Int32 → Int32 → Int32)) (v3 : Int32) (v4 : Int32) : Int32 := if (mi 10) ≤ v4 then (if v3 = (0 : Int32) then (bfX12_blind_95 mi fm_struck fm_reportKnown fm_reportMonth fm_reportKind p1 p2 K (0 : Int32)) else (bfX12_blind_95 mi fm_struck fm_reportKnown fm_reportMonth fm_reportKind p1 p2 K (1 : Int32))) else (cal (fun o3 => if o3 = (0 : Int32) then (bfX12_blind_80 mi fm_struck fm_reportKnown fm_reportMonth fm_reportKind p1 p2 K v3 v4) else (if (fm_reportMonth v4.toNatClampNeg) = p2 then (if (fm_reportKind v4.toNatClampNeg) = (2 : Int32) then (bfX12_blind_80 mi fm_struck fm_reportKnown fm_reportMonth fm_reportKind p1 p2 K (1 : Int32) v4) else (0 : Int32)) else (bfX12_blind_80 mi fm_struck fm_reportKnown fm_reportMonth fm_reportKind p1 p2 K v3 v4))) (fX12_isKnown fm_struck fm_reportKnown v4 p1))
noncomputable def lfX12_blind (mi : Nat → Int32) (fm_struck : Nat → Int32) (fm_reportKnown : Nat → Int32) (fm_reportMonth : Nat → Int32) (fm_reportKind : Nat → Int32) (p1 : Int32) (p2 : Int32) (z : Nat) : (Int32 → Int32 → Int32) := Nat.rec (motive := fun _ => (Int32 → Int32 → Int32)) (fun _ _ => (0)) (fun _ K => dfX12_blind_32 mi fm_struck fm_reportKnown fm_reportMonth fm_reportKind p1 p2 K) z
noncomputable def fX12_blind (mi : Nat → Int32) (fm_struck : Nat → Int32) (fm_reportKnown : Nat → Int32) (fm_reportMonth : Nat → Int32) (fm_reportKind : Nat → Int32) (p1 : Int32) (p2 : Int32) : Int32 := cal (fun o1 => if o1 = (0 : Int32) then (bfX12_blind_24 mi fm_struck fm_reportKnown fm_reportMonth fm_reportKind p1 p2 (lfX12_blind mi fm_struck fm_reportKnown fm_reportMonth fm_reportKind p1 p2 1000000000)) else (cal (fun o2 => if o2 = (0 : Int32) then (bfX12_blind_24 mi fm_struck fm_reportKnown fm_reportMonth fm_reportKind p1 p2 (lfX12_blind mi fm_struck fm_reportKnown fm_reportMonth fm_reportKind p1 p2 1000000000)) else ((lfX12_blind mi fm_struck fm_reportKnown fm_reportMonth fm_reportKind p1 p2 1000000000) (0 : Int32) (0 : Int32))) (fX12_in (p2.toInt64) (1 : Int64) (((mi 0) - (1 : Int32)).toInt64)))) (fX12_isTime mi p1)
set_option maxHeartbeats 4000000 in
set_option maxRecDepth 100000 in
theorem lp_sX12_blind {p : Program} {l : Launch} {e : Env} {R : Room} {s : State} {m : MethodId} {args : Array Value} {below : List Frame} {meth : Method} {c : Code} {Q : State → Prop} {A : Nat → Prop} {cells slots : Nat} {dC : Nat → ClassId} {dI : Nat → Nat → Nat} {RES : Int32} (h0 : Nat) (mi : Nat → Int32) (mr : Nat → Nat) (km : Nat → ClassId) (fm_must : Nat → Int32) (fm_least : Nat → Int32) (fm_pin : Nat → Int32) (fm_ways : Nat → Int32) (fm_verdict : Nat → Int32) (fm_row : Nat → Int32) (fm_struck : Nat → Int32) (fm_reportKnown : Nat → Int32) (fm_reportPlace : Nat → Int32) (fm_reportMonth : Nat → Int32) (fm_reportDay : Nat → Int32) (fm_reportKind : Nat → Int32) (fm_trust : Nat → Int32) (fm_letter : Nat → Int32) (fm_deedMonth : Nat → Int32) (fm_deedDay : Nat → Int32) (fm_deedLong : Nat → Int32) (fm_deedKind : Nat → Int32) (fm_kept : Nat → Int32) (fm_tape : Nat → Int32) (fm_official : Nat → Int32) (fm_aside : Nat → Int32) (fm_worth : Nat → Int32) (fm_out : Nat → Int32) (p1 : Int32) (p2 : Int32) (gmi_0 : gi (mi 0) 0 24) (gmi_1 : gi (mi 1) 0 5) (gmi_2 : gi (mi 2) 0 5) (gmi_4 : gi (mi 4) 0 1) (gmi_7 : gi (mi 7) 0 6) (gmi_10 : gi (mi 10) 0 24) (gmi_17 : gi (mi 17) 0 8) (gmi_23 : gi (mi 23) 0 300) (gmi_24 : gi (mi 24) 0 1) (gmi_26 : gi (mi 26) 0 1600) (gmi_29 : gi (mi 29) 0 1600) (gmi_30 : gi (mi 30) 0 1600) (gmi_33 : gi (mi 33) 0 1) (gmi_37 : gi (mi 37) 0 1) (gmi_41 : gi (mi 41) 0 24) (gmi_50 : gi (mi 50) 0 1) (gmi_51 : gi (mi 51) 0 1) (gmi_56 : gi (mi 56) 0 80) (gfm_row : ga fm_row 24 0 23) (gfm_struck : ga fm_struck 24 0 1) (gfm_reportKnown : ga fm_reportKnown 24 0 999) (gfm_reportPlace : ga fm_reportPlace 24 0 5) (gfm_reportMonth : ga fm_reportMonth 24 0 23) (gfm_reportDay : ga fm_reportDay 24 0 999) (hx : p.tables.exec = Jvm.exec) (hb : c.code = cX12_blind) (hml : c.maxLocals = 5) (hown : s.vm.findClass RX12 = some m.cls) (hts : ∀ w ∈ ((.code yX12_blind cX12_blind 5 (some .int) :: wsGB) : List Cond), w.before args s = true) (hK : va_K (dC, dI) vwCl (MT km) s) (hRf : 2 ≤ R.frames) (hRl : 46 ≤ R.locals) (hRc : cells ≤ R.cells) (hRs : slots ≤ R.slots) (kr26 : ∀ (v : Int32) (H : Heap) (locs : List Loc) (ls : Array Slot), gi v (-2) (-2) → v = RES → va_P (dC, dI) vwCl (MWn h0 mr km (mi 0) (mi 1) (mi 2) (mi 3) (mi 4) (mi 5) (mi 6) (mi 7) (mi 10) (mi 17) (mi 23) (mi 24) (mi 26) (mi 27) (mi 28) (mi 29) (mi 30) (mi 31) (mi 32) (mi 33) (mi 37) (mi 41) (mi 42) (mi 43) (mi 44) (mi 45) (mi 47) (mi 48) (mi 49) (mi 50) (mi 51) (mi 54) (mi 56) fm_trust fm_letter fm_reportPlace fm_reportKind fm_struck fm_reportMonth fm_reportDay fm_reportKnown fm_deedMonth fm_deedDay fm_deedLong fm_deedKind fm_kept fm_tape fm_must fm_least fm_pin fm_ways fm_verdict fm_row fm_official fm_aside fm_worth fm_out) H → va_S A s.heap H locs → lv_has ls 5 [] → W p l e R s m args below meth c H locs cells slots Q (F0 m 26 ls [.int v])) (kr95 : ∀ (v : Int32) (H : Heap) (locs : List Loc) (ls : Array Slot), gi v 0 1 → v = RES → va_P (dC, dI) vwCl (MWn h0 mr km (mi 0) (mi 1) (mi 2) (mi 3) (mi 4) (mi 5) (mi 6) (mi 7) (mi 10) (mi 17) (mi 23) (mi 24) (mi 26) (mi 27) (mi 28) (mi 29) (mi 30) (mi 31) (mi 32) (mi 33) (mi 37) (mi 41) (mi 42) (mi 43) (mi 44) (mi 45) (mi 47) (mi 48) (mi 49) (mi 50) (mi 51) (mi 54) (mi 56) fm_trust fm_letter fm_reportPlace fm_reportKind fm_struck fm_reportMonth fm_reportDay fm_reportKnown fm_deedMonth fm_deedDay fm_deedLong fm_deedKind fm_kept fm_tape fm_must fm_least fm_pin fm_ways fm_verdict fm_row fm_official fm_aside fm_worth fm_out) H → va_S A s.heap H locs → lv_has ls 5 [] → W p l e R s m args below meth c H locs cells slots Q (F0 m 95 ls [.int v])) (kr77 : ∀ (v : Int32) (H : Heap) (locs : List Loc) (ls : Array Slot), gi v 0 0 → v = RES → va_P (dC, dI) vwCl (MWn h0 mr km (mi 0) (mi 1) (mi 2) (mi 3) (mi 4) (mi 5) (mi 6) (mi 7) (mi 10) (mi 17) (mi 23) (mi 24) (mi 26) (mi 27) (mi 28) (mi 29) (mi 30) (mi 31) (mi 32) (mi 33) (mi 37) (mi 41) (mi 42) (mi 43) (mi 44) (mi 45) (mi 47) (mi 48) (mi 49) (mi 50) (mi 51) (mi 54) (mi 56) fm_trust fm_letter fm_reportPlace fm_reportKind fm_struck fm_reportMonth fm_reportDay fm_reportKnown fm_deedMonth fm_deedDay fm_deedLong fm_deedKind fm_kept fm_tape fm_must fm_least fm_pin fm_ways fm_verdict fm_row fm_official fm_aside fm_worth fm_out) H → va_S A s.heap H locs → lv_has ls 5 [] → W p l e R s m args below meth c H locs cells slots Q (F0 m 77 ls [.int v])) : ∀ z : Nat, (∀ (v3 : Int32) (v4 : Int32) (H : Heap) (locs : List Loc) (ls : Array Slot), gi p1 0 999 → gi p2 1 23 → gi v3 0 1 → gi v4 0 24 → (lfX12_blind mi fm_struck fm_reportKnown fm_reportMonth fm_reportKind p1 p2 z) v3 v4 = RES → 49 + (-2) * v4.toInt < (z : Int) → va_P (dC, dI) vwCl (MWn h0 mr km (mi 0) (mi 1) (mi 2) (mi 3) (mi 4) (mi 5) (mi 6) (mi 7) (mi 10) (mi 17) (mi 23) (mi 24) (mi 26) (mi 27) (mi 28) (mi 29) (mi 30) (mi 31) (mi 32) (mi 33) (mi 37) (mi 41) (mi 42) (mi 43) (mi 44) (mi 45) (mi 47) (mi 48) (mi 49) (mi 50) (mi 51) (mi 54) (mi 56) fm_trust fm_letter fm_reportPlace fm_reportKind fm_struck fm_reportMonth fm_reportDay fm_reportKnown fm_deedMonth fm_deedDay fm_deedLong fm_deedKind fm_kept fm_tape fm_must fm_least fm_pin fm_ways fm_verdict fm_row fm_official fm_aside fm_worth fm_out) H → va_S A s.heap H locs → lv_has ls 5 [(0, .ref h0), (1, .int p1), (2, .int p2), (3, .int v3), (4, .int v4)] → W p l e R s m args below meth c H locs cells slots Q (F0 m 32 ls [])) := by
  intro z
  induction z with
  | zero =>
    intro v3 v4 H locs ls gf_p1 gf_p2 gv3 gv4 hF hmu hP hS hl
    exact absurd hmu (by have hv41 := gv4.1; have hv42 := gv4.2; omega)
  | succ z ih =>
      intro v3 v4 H locs ls gf_p1 gf_p2 gv3 gv4 hF hmu hP hS hl
      have hF : dfX12_blind_32 mi fm_struck fm_reportKnown fm_reportMonth fm_reportKind p1 p2 (lfX12_blind mi fm_struck fm_reportKnown fm_reportMonth fm_reportKind p1 p2 z) v3 v4 = RES := hF
      refine lv_iload hx hb (dk_at dkX12_blind 20 rfl) (lv_at hl 4 rfl) ?_
      refine lv_aload_n hx hb (dk_at dkX12_blind 21 rfl) rfl (lv_at hl 0 rfl) ?_
      refine va_get (D := (dC, dI)) (ci := 12) (v := .int (mi 10)) (C := RX12) (T := TX12) (N := 57) hx hb hts (fun w h => List.mem_cons_of_mem _ (jnGB_X12 w h)) hown hK hP 0 rfl rfl 10 (by decide) (hts _ (List.mem_cons_of_mem _ mGB_111)) (fun _ h9 => h9) rfl (dk_at dkX12_blind 22 rfl) ?_
      refine lv_icmp_ge (tgt := 86) hx hb (dk_at dkX12_blind 23 rfl) (by decide) (fun c_479 => ?_) (fun c_479 => ?_)
      · have hF := gf_pos c_479 hF
        refine lv_iload_n hx hb (dk_at dkX12_blind 48 rfl) rfl (lv_at hl 3 rfl) ?_
        refine lv_if_eq (tgt := 94) hx hb (dk_at dkX12_blind 49 rfl) (by decide) (fun c_480 => ?_) (fun c_480 => ?_)
        · have hF := gf_pos c_480 hF
          have g_481 : gi v3 0 0 := gi_eq c_480 (gi_c 0 0 (by decide))
          refine lv_iconst (v := 0) hx hb (dk_at dkX12_blind 52 rfl) (by decide) ?_
          exact kr95 0 _ _ _ (gi_w (gi_c 0 0 (by decide)) (by decide)) hF hP hS (lv_sub hl [] rfl)
        · have hF := gf_neg c_480 hF
          have g_482 : gi v3 1 1 := gi_ne_lo c_480 gv3 (gi_c 0 0 (by decide)) (by decide)
          refine lv_iconst (v := 1) hx hb (dk_at dkX12_blind 50 rfl) (by decide) ?_
          refine lv_goto (tgt := 95) hx hb (dk_at dkX12_blind 51 rfl) (by decide) ?_
          exact kr95 1 _ _ _ (gi_w (gi_c 1 1 (by decide)) (by decide)) hF hP hS (lv_sub hl [] rfl)
      · have hF := gf_neg c_479 hF
        have g_483 : gi v4 0 23 := gi_lt_l (Int32.not_le.mp c_479) gv4 gmi_10 (by decide)
        have g_484 : gi (mi 10) 1 24 := gi_lt_r (Int32.not_le.mp c_479) gv4 gmi_10 (by decide)
        refine lv_aload_n hx hb (dk_at dkX12_blind 24 rfl) rfl (lv_at hl 0 rfl) ?_
        refine lv_iload hx hb (dk_at dkX12_blind 25 rfl) (lv_at hl 4 rfl) ?_
        refine lv_iload_n hx hb (dk_at dkX12_blind 26 rfl) rfl (lv_at hl 1 rfl) ?_
        refine va_calli (va_runV (As := [.int v4, .int p1]) (rest := []) ⟨hx, hb, hml, hown, hts⟩ (sX12_isKnown l dC dI h0 mi mr km fm_struck fm_reportKnown fm_trust fm_letter fm_reportPlace fm_reportKind fm_reportMonth fm_reportDay fm_deedMonth fm_deedDay fm_deedLong fm_deedKind fm_kept fm_tape fm_must fm_least fm_pin fm_ways fm_verdict fm_row fm_official fm_aside fm_worth fm_out v4 p1 gmi_0 gmi_1 gmi_2 gmi_4 gmi_7 (gi_w g_484 (by decide)) gmi_17 gmi_23 gmi_24 gmi_26 gmi_29 gmi_30 gmi_33 gmi_37 gmi_41 gmi_50 gmi_51 gmi_56 gfm_struck gfm_reportKnown g_483) (cwV 2 hts (gz_gV mGB_279 mGB_280 mGB_281 mGB_1 mGB_282 goodGB) rfl rfl rfl (by decide +kernel) ⟨Nat.le_trans (Nat.le_of_ble_eq_true rfl) hRf, Nat.le_trans (Nat.le_of_ble_eq_true rfl) hRl⟩) ⟨bl_R, mw_recv hK hP, fun U hU hW => ⟨rfl, by rw [hU]; exact hP, va_K.moved hW.alike hK⟩⟩ rfl rfl hl.1 rfl (lv_room (Nat.le_of_ble_eq_true rfl)) (dk_at dkX12_blind 27 rfl) ⟨hRc, hRs⟩) hS (fun q _ h => h.elim) (fun q h => h.elim) (fun r_485 u t H1 locs ht hvm hw hB hz1 hk1 hS => ?_)
        obtain ⟨hw, hE⟩ := hw
        have hP := gz_keep hP hk1
        have hF := gf_call (a := r_485) hE hF
        generalize H1 = H at hP hS ⊢
        have gr_485 : gi r_485 0 1 := hw
        refine lv_if_eq (tgt := 80) hx hb (dk_at dkX12_blind 28 rfl) (by decide) (fun c_486 => ?_) (fun c_486 => ?_)
        · have hF := gf_pos c_486 hF
          have g_487 : gi r_485 0 0 := gi_eq c_486 (gi_c 0 0 (by decide))
          obtain ⟨x_488, ex_488⟩ : ∃ y : Int32, y = v4 + 1 := ⟨_, rfl⟩
          have gx_488 : gi x_488 1 24 := gi_add ex_488 g_483 (gi_c 1 1 (by decide)) (by decide)
          refine lv_iinc (v := x_488) (lv' := [(4, .int x_488), (0, .ref h0), (1, .int p1), (2, .int p2), (3, .int v3)]) hx hb (dk_at dkX12_blind 46 rfl) hl (k := 4) rfl (by rw [ex_488]; rfl) (by decide) rfl (fun ls hl => ?_)
          refine lv_goto (tgt := 32) hx hb (dk_at dkX12_blind 47 rfl) (by decide) ?_
          exact ih v3 x_488 _ _ _ gf_p1 gf_p2 gv3 (gi_w gx_488 (by decide)) (by rw [ex_488]; exact hF) (by have av4 := gv4.1; have bv4 := gv4.2; have qgx_488 := gx_488.1; have rgx_488 := gx_488.2; have igx_488 : x_488.toInt = v4.toInt + 1 := (by have hc1 : (1 : Int32).toInt = 1 := (by decide); have h9 := gi_addI ex_488 (by have h1 := g_483.1; have h2 := (gi_c 1 1 (by decide)).1; have h3 := g_483.2; have h4 := (gi_c 1 1 (by decide)).2; omega) (by have h1 := g_483.1; have h2 := (gi_c 1 1 (by decide)).1; have h3 := g_483.2; have h4 := (gi_c 1 1 (by decide)).2; omega); rw [hc1] at h9; exact h9); have qgv4 := g_483.1; have rgv4 := g_483.2; omega) hP hS (lv_sub hl [1, 2, 3, 4, 0] rfl)
        · have hF := gf_neg c_486 hF
          have g_489 : gi r_485 1 1 := gi_ne_lo c_486 gr_485 (gi_c 0 0 (by decide)) (by decide)
          refine lv_aload_n hx hb (dk_at dkX12_blind 29 rfl) rfl (lv_at hl 0 rfl) ?_
          refine va_get (D := (dC, dI)) (ci := 12) (v := .ref (mr 5)) (C := RX12) (T := TX12) (N := 57) hx hb hts (fun w h => List.mem_cons_of_mem _ (jnGB_X12 w h)) hown hK hP 0 rfl rfl 14 (by decide) (hts _ (List.mem_cons_of_mem _ mGB_16)) (fun _ h9 => h9) rfl (dk_at dkX12_blind 30 rfl) ?_
          refine lv_iload hx hb (dk_at dkX12_blind 31 rfl) (lv_at hl 4 rfl) ?_
          refine va_iald hx hb hK hP 6 5 rfl rfl (gi_in g_483 (by decide)) (dk_at dkX12_blind 32 rfl) ?_
          refine lv_topi (fun x_490 ex_490 => ?_)
          have gx_490 : gi x_490 0 23 := ga_at gfm_reportMonth (gi_in g_483 (by decide)) ex_490
          refine lv_iload_n hx hb (dk_at dkX12_blind 33 rfl) rfl (lv_at hl 2 rfl) ?_
          refine lv_icmp_eq (tgt := 65) hx hb (dk_at dkX12_blind 34 rfl) (by decide) (fun c_491 => ?_) (fun c_491 => ?_)
          · have hF := gf_pos (by rw [ex_490] at c_491; exact c_491) hF
            have g_492 : gi x_490 1 23 := gi_eq c_491 gf_p2
            refine lv_aload_n hx hb (dk_at dkX12_blind 36 rfl) rfl (lv_at hl 0 rfl) ?_
            refine va_get (D := (dC, dI)) (ci := 12) (v := .ref (mr 3)) (C := RX12) (T := TX12) (N := 57) hx hb hts (fun w h => List.mem_cons_of_mem _ (jnGB_X12 w h)) hown hK hP 0 rfl rfl 12 (by decide) (hts _ (List.mem_cons_of_mem _ mGB_13)) (fun _ h9 => h9) rfl (dk_at dkX12_blind 37 rfl) ?_
            refine lv_iload hx hb (dk_at dkX12_blind 38 rfl) (lv_at hl 4 rfl) ?_
            refine va_iald hx hb hK hP 4 3 rfl rfl (gi_in g_483 (by decide)) (dk_at dkX12_blind 39 rfl) ?_
            refine lv_topi (fun x_493 ex_493 => ?_)
            refine lv_iconst (v := 2) hx hb (dk_at dkX12_blind 40 rfl) (by decide) ?_
            refine lv_icmp_eq (tgt := 78) hx hb (dk_at dkX12_blind 41 rfl) (by decide) (fun c_494 => ?_) (fun c_494 => ?_)
            · have hF := gf_pos (by rw [ex_493] at c_494; exact c_494) hF
              have g_495 : gi x_493 2 2 := gi_eq c_494 (gi_c 2 2 (by decide))
              refine lv_iconst (v := 1) hx hb (dk_at dkX12_blind 44 rfl) (by decide) ?_
              refine lv_istore_n (lv' := [(3, .int 1), (0, .ref h0), (1, .int p1), (2, .int p2), (4, .int v4)]) hx hb (dk_at dkX12_blind 45 rfl) rfl hl (by decide) rfl (fun ls hl => ?_)
              obtain ⟨x_496, ex_496⟩ : ∃ y : Int32, y = v4 + 1 := ⟨_, rfl⟩
              have gx_496 : gi x_496 1 24 := gi_add ex_496 g_483 (gi_c 1 1 (by decide)) (by decide)
              refine lv_iinc (v := x_496) (lv' := [(4, .int x_496), (3, .int 1), (0, .ref h0), (1, .int p1), (2, .int p2)]) hx hb (dk_at dkX12_blind 46 rfl) hl (k := 4) rfl (by rw [ex_496]; rfl) (by decide) rfl (fun ls hl => ?_)
              refine lv_goto (tgt := 32) hx hb (dk_at dkX12_blind 47 rfl) (by decide) ?_
              exact ih 1 x_496 _ _ _ gf_p1 gf_p2 (gi_w (gi_c 1 1 (by decide)) (by decide)) (gi_w gx_496 (by decide)) (by rw [ex_496]; exact hF) (by have av4 := gv4.1; have bv4 := gv4.2; have qgx_496 := gx_496.1; have rgx_496 := gx_496.2; have igx_496 : x_496.toInt = v4.toInt + 1 := (by have hc1 : (1 : Int32).toInt = 1 := (by decide); have h9 := gi_addI ex_496 (by have h1 := g_483.1; have h2 := (gi_c 1 1 (by decide)).1; have h3 := g_483.2; have h4 := (gi_c 1 1 (by decide)).2; omega) (by have h1 := g_483.1; have h2 := (gi_c 1 1 (by decide)).1; have h3 := g_483.2; have h4 := (gi_c 1 1 (by decide)).2; omega); rw [hc1] at h9; exact h9); have qgv4 := g_483.1; have rgv4 := g_483.2; omega) hP hS (lv_sub hl [2, 3, 4, 1, 0] rfl)
            · have hF := gf_neg (by rw [ex_493] at c_494; exact c_494) hF
              refine lv_iconst (v := 0) hx hb (dk_at dkX12_blind 42 rfl) (by decide) ?_
              exact kr77 0 _ _ _ (gi_c 0 0 (by decide)) hF hP hS (lv_sub hl [] rfl)
          · have hF := gf_neg (by rw [ex_490] at c_491; exact c_491) hF
            refine lv_goto (tgt := 80) hx hb (dk_at dkX12_blind 35 rfl) (by decide) ?_
            obtain ⟨x_497, ex_497⟩ : ∃ y : Int32, y = v4 + 1 := ⟨_, rfl⟩
            have gx_497 : gi x_497 1 24 := gi_add ex_497 g_483 (gi_c 1 1 (by decide)) (by decide)
            refine lv_iinc (v := x_497) (lv' := [(4, .int x_497), (0, .ref h0), (1, .int p1), (2, .int p2), (3, .int v3)]) hx hb (dk_at dkX12_blind 46 rfl) hl (k := 4) rfl (by rw [ex_497]; rfl) (by decide) rfl (fun ls hl => ?_)
            refine lv_goto (tgt := 32) hx hb (dk_at dkX12_blind 47 rfl) (by decide) ?_
            exact ih v3 x_497 _ _ _ gf_p1 gf_p2 gv3 (gi_w gx_497 (by decide)) (by rw [ex_497]; exact hF) (by have av4 := gv4.1; have bv4 := gv4.2; have qgx_497 := gx_497.1; have rgx_497 := gx_497.2; have igx_497 : x_497.toInt = v4.toInt + 1 := (by have hc1 : (1 : Int32).toInt = 1 := (by decide); have h9 := gi_addI ex_497 (by have h1 := g_483.1; have h2 := (gi_c 1 1 (by decide)).1; have h3 := g_483.2; have h4 := (gi_c 1 1 (by decide)).2; omega) (by have h1 := g_483.1; have h2 := (gi_c 1 1 (by decide)).1; have h3 := g_483.2; have h4 := (gi_c 1 1 (by decide)).2; omega); rw [hc1] at h9; exact h9); have qgv4 := g_483.1; have rgv4 := g_483.2; omega) hP hS (lv_sub hl [1, 2, 3, 4, 0] rfl)
set_option maxHeartbeats 4000000 in
set_option maxRecDepth 100000 in
theorem sX12_blind (l : Launch) (dC : Nat → ClassId) (dI : Nat → Nat → Nat) (h0 : Nat) (mi : Nat → Int32) (mr : Nat → Nat) (km : Nat → ClassId) (fm_must : Nat → Int32) (fm_least : Nat → Int32) (fm_pin : Nat → Int32) (fm_ways : Nat → Int32) (fm_verdict : Nat → Int32) (fm_row : Nat → Int32) (fm_struck : Nat → Int32) (fm_reportKnown : Nat → Int32) (fm_reportPlace : Nat → Int32) (fm_reportMonth : Nat → Int32) (fm_reportDay : Nat → Int32) (fm_reportKind : Nat → Int32) (fm_trust : Nat → Int32) (fm_letter : Nat → Int32) (fm_deedMonth : Nat → Int32) (fm_deedDay : Nat → Int32) (fm_deedLong : Nat → Int32) (fm_deedKind : Nat → Int32) (fm_kept : Nat → Int32) (fm_tape : Nat → Int32) (fm_official : Nat → Int32) (fm_aside : Nat → Int32) (fm_worth : Nat → Int32) (fm_out : Nat → Int32) (p1 : Int32) (p2 : Int32) (gmi_0 : gi (mi 0) 0 24) (gmi_1 : gi (mi 1) 0 5) (gmi_2 : gi (mi 2) 0 5) (gmi_4 : gi (mi 4) 0 1) (gmi_7 : gi (mi 7) 0 6) (gmi_10 : gi (mi 10) 0 24) (gmi_17 : gi (mi 17) 0 8) (gmi_23 : gi (mi 23) 0 300) (gmi_24 : gi (mi 24) 0 1) (gmi_26 : gi (mi 26) 0 1600) (gmi_29 : gi (mi 29) 0 1600) (gmi_30 : gi (mi 30) 0 1600) (gmi_33 : gi (mi 33) 0 1) (gmi_37 : gi (mi 37) 0 1) (gmi_41 : gi (mi 41) 0 24) (gmi_50 : gi (mi 50) 0 1) (gmi_51 : gi (mi 51) 0 1) (gmi_56 : gi (mi 56) 0 80) (gfm_row : ga fm_row 24 0 23) (gfm_struck : ga fm_struck 24 0 1) (gfm_reportKnown : ga fm_reportKnown 24 0 999) (gfm_reportPlace : ga fm_reportPlace 24 0 5) (gfm_reportMonth : ga fm_reportMonth 24 0 23) (gfm_reportDay : ga fm_reportDay 24 0 999) : Met l yX12_blind (.code yX12_blind cX12_blind 5 (some .int) :: wsGB) ({ frames := 2, cells := 0, slots := 0, locals := 46 }) (va_Pc [.ref h0, .int p1, .int p2] (fun U => va_P (dC, dI) vwCl (MWn h0 mr km (mi 0) (mi 1) (mi 2) (mi 3) (mi 4) (mi 5) (mi 6) (mi 7) (mi 10) (mi 17) (mi 23) (mi 24) (mi 26) (mi 27) (mi 28) (mi 29) (mi 30) (mi 31) (mi 32) (mi 33) (mi 37) (mi 41) (mi 42) (mi 43) (mi 44) (mi 45) (mi 47) (mi 48) (mi 49) (mi 50) (mi 51) (mi 54) (mi 56) fm_trust fm_letter fm_reportPlace fm_reportKind fm_struck fm_reportMonth fm_reportDay fm_reportKnown fm_deedMonth fm_deedDay fm_deedLong fm_deedKind fm_kept fm_tape fm_must fm_least fm_pin fm_ways fm_verdict fm_row fm_official fm_aside fm_worth fm_out) U.heap ∧ va_K (dC, dI) vwCl (MT km) U)) (va_Qi (fun (r : Int32) (u : Unit) => (gi r (-2) 1) ∧ r = fX12_blind mi fm_struck fm_reportKnown fm_reportMonth fm_reportKind p1 p2) (fun _ _ => True) (fun _ => False)) 0 0 (fun _ => False) := by
  refine Met.ofW (cc := cX12_blind) (maxL := 5) (ret := (some .int)) (by decide) rfl ?_
  intro p e s m args below meth c s₁ B hml hv
  obtain ⟨rfl, hP, hK⟩ := hv
  have hx := B.exec
  have hb := B.bytes
  have hr := B.returns
  have hts := atoms_spec (ws := (.code yX12_blind cX12_blind 5 (some .int) :: wsGB)) B.pre
  have hown : s.vm.findClass RX12 = some m.cls := findClass_of_methodNamed B.named
  have hlocks := B.notSynchronized
  have hS : va_S (fun _ => False) s.heap s.heap [] := va_S.rf
  have hl := lv_entry ([.ref h0, .int p1, .int p2]) (n := 5) (Nat.le_of_ble_eq_true rfl)
  rw [lg_entry_eq]
  generalize (lg_sl ([.ref h0, .int p1, .int p2]) ++ List.replicate (5 - (lg_sl ([.ref h0, .int p1, .int p2])).length) Slot.unset).toArray = ls at hl ⊢
  have hl : lv_has ls 5 [(0, .ref h0), (1, .int p1), (2, .int p2)] := hl
  obtain ⟨RES, hF⟩ : ∃ R9, fX12_blind mi fm_struck fm_reportKnown fm_reportMonth fm_reportKind p1 p2 = R9 := ⟨_, rfl⟩
  have hR9 := hF
  refine lv_aload_n hx hb (dk_at dkX12_blind 0 rfl) rfl (lv_at hl 0 rfl) ?_
  refine lv_iload_n hx hb (dk_at dkX12_blind 1 rfl) rfl (lv_at hl 1 rfl) ?_
  refine va_calli (va_runV (As := [.int p1]) (rest := []) ⟨hx, hb, hml, hown, hts⟩ (sX12_isTime l dC dI h0 mi mr km fm_trust fm_letter fm_reportPlace fm_reportKind fm_struck fm_reportMonth fm_reportDay fm_reportKnown fm_deedMonth fm_deedDay fm_deedLong fm_deedKind fm_kept fm_tape fm_must fm_least fm_pin fm_ways fm_verdict fm_row fm_official fm_aside fm_worth fm_out p1 gmi_0 gmi_1 gmi_2 gmi_4 gmi_7 gmi_10 gmi_17 gmi_23 gmi_24 gmi_26 gmi_29 gmi_30 gmi_33 gmi_37 gmi_41 gmi_50 gmi_51 gmi_56) (cwV 1 hts (gz_gV mGB_256 mGB_257 mGB_258 mGB_1 mGB_259 goodGB) rfl rfl rfl (by decide +kernel) ⟨Nat.le_of_ble_eq_true rfl, Nat.le_of_ble_eq_true rfl⟩) ⟨bl_R, mw_recv hK hP, fun U hU hW => ⟨rfl, by rw [hU]; exact hP, va_K.moved hW.alike hK⟩⟩ rfl rfl hl.1 rfl (lv_room (Nat.le_of_ble_eq_true rfl)) (dk_at dkX12_blind 2 rfl) ⟨Nat.zero_le _, Nat.zero_le _⟩) hS (fun q _ h => h.elim) (fun q h => h.elim) (fun r_498 u t H1 locs ht hvm hw hB hz1 hk1 hS => ?_)
  obtain ⟨hw, hE⟩ := hw
  have hP := gz_keep hP hk1
  have hF := gf_callm (a := r_498) hE hF (by first | with_reducible rfl | simp only [upd_same, upd_app, ↓reduceIte, Nat.reduceEqDiff])
  generalize H1 = H at hP hS ⊢
  have gr_498 : gi r_498 0 1 := hw.1
  have hqr_498 := hw.2
  refine lv_if_eq (tgt := 24) hx hb (dk_at dkX12_blind 3 rfl) (by decide) (fun c_499 => ?_) (fun c_499 => ?_)
  · have hF := gf_pos c_499 hF
    have g_500 : gi r_498 0 0 := gi_eq c_499 (gi_c 0 0 (by decide))
    refine lv_bipush (v := (-2)) hx hb (dk_at dkX12_blind 14 rfl) (by decide) ?_
    exact W.iret (v := (-2)) hx hb hr (fun t ht hW => ⟨⟨(-2), (), rfl, ⟨(gi_w (gi_c (-2) (-2) (by decide)) (by decide)), hF.trans hR9.symm⟩, trivial⟩, hS.F ht⟩) hS.2.2 (dk_at dkX12_blind 15 rfl)
  · have hF := gf_neg c_499 hF
    have g_501 : gi r_498 1 1 := gi_ne_lo c_499 gr_498 (gi_c 0 0 (by decide)) (by decide)
    have g_502 : gi p1 0 999 := gi_cap (gi_any p1) (hqr_498 (gz_one g_501)) (by decide)
    refine lv_iload_n hx hb (dk_at dkX12_blind 4 rfl) rfl (lv_at hl 2 rfl) ?_
    refine lv_i2l (v := (p2).toInt64) hx hb (dk_at dkX12_blind 5 rfl) rfl ?_
    refine lv_topl (fun l_503 el_503 => ?_)
    refine lv_lconst (v := 1) hx hb (dk_at dkX12_blind 6 rfl) (by decide) ?_
    refine lv_aload_n hx hb (dk_at dkX12_blind 7 rfl) rfl (lv_at hl 0 rfl) ?_
    refine va_get (D := (dC, dI)) (ci := 12) (v := .int (mi 0)) (C := RX12) (T := TX12) (N := 57) hx hb hts (fun w h => List.mem_cons_of_mem _ (jnGB_X12 w h)) hown hK hP 0 rfl rfl 0 (by decide) (hts _ (List.mem_cons_of_mem _ mGB_103)) (fun _ h9 => h9) rfl (dk_at dkX12_blind 8 rfl) ?_
    refine lv_iconst (v := 1) hx hb (dk_at dkX12_blind 9 rfl) (by decide) ?_
    refine lv_isub hx hb (dk_at dkX12_blind 10 rfl) ?_
    refine lv_topi (fun x_504 ex_504 => ?_)
    have gx_504 : gi x_504 (-1) 23 := gi_sub ex_504 gmi_0 (gi_c 1 1 (by decide)) (by decide)
    refine lv_i2l (v := (x_504).toInt64) hx hb (dk_at dkX12_blind 11 rfl) rfl ?_
    refine lv_topl (fun l_505 el_505 => ?_)
    have hPc := hP.sub (ws' := []) [] rfl
    have hKc := hK.sub (tys' := []) [] rfl
    refine va_calli (va_runS (As := [.long l_503, .long 1, .long l_505]) (rest := []) ⟨hx, hb, hml, hown, hts⟩ (sX12_in l dC dI l_503 1 l_505) (cwS 3 hts (gz_gS mGB_47 mGB_48 mGB_1 mGB_49 goodGB) rfl rfl rfl (by decide +kernel) ⟨Nat.le_of_ble_eq_true rfl, Nat.le_of_ble_eq_true rfl⟩) ⟨bl_R, fun U hU hW => ⟨rfl, by rw [hU]; exact hPc, va_K.moved hW.alike hKc⟩⟩ rfl rfl hl.1 rfl (lv_room (Nat.le_of_ble_eq_true rfl)) (dk_at dkX12_blind 12 rfl) ⟨Nat.zero_le _, Nat.zero_le _⟩) hS (fun q _ h => h.elim) (fun q h => h.elim) (fun r_506 u t H1 locs ht hvm hw hB hz1 hk1 hS => ?_)
    obtain ⟨hw, hE⟩ := hw
    have hP := gz_keep hP hk1
    have hF := gf_call (a := r_506) (by rw [el_505, ex_504, el_503] at hE; exact hE) hF
    generalize H1 = H at hP hS ⊢
    have gr_506 : gi r_506 0 1 := hw.1
    have hqr_506 := hw.2
    refine lv_if_ne (tgt := 27) hx hb (dk_at dkX12_blind 13 rfl) (by decide) (fun c_507 => ?_) (fun c_507 => ?_)
    · have hF := gf_neg c_507 hF
      have g_508 : gi r_506 1 1 := gi_ne_lo c_507 gr_506 (gi_c 0 0 (by decide)) (by decide)
      have g_509 : gi p2 1 23 := gi_cap (gi_any p2) (gz_inr (hqr_506.1 (gz_one g_508)) el_503 (A := 1) (B := 23) (by decide) (gz_l2u el_505 gx_504)) (by decide)
      refine lv_iconst (v := 0) hx hb (dk_at dkX12_blind 16 rfl) (by decide) ?_
      refine lv_istore_n (lv' := [(3, .int 0), (0, .ref h0), (1, .int p1), (2, .int p2)]) hx hb (dk_at dkX12_blind 17 rfl) rfl hl (by decide) rfl (fun ls hl => ?_)
      refine lv_iconst (v := 0) hx hb (dk_at dkX12_blind 18 rfl) (by decide) ?_
      refine lv_istore (lv' := [(4, .int 0), (3, .int 0), (0, .ref h0), (1, .int p1), (2, .int p2)]) hx hb (dk_at dkX12_blind 19 rfl) hl (by decide) rfl (fun ls hl => ?_)
      refine (lp_sX12_blind h0 mi mr km fm_must fm_least fm_pin fm_ways fm_verdict fm_row fm_struck fm_reportKnown fm_reportPlace fm_reportMonth fm_reportDay fm_reportKind fm_trust fm_letter fm_deedMonth fm_deedDay fm_deedLong fm_deedKind fm_kept fm_tape fm_official fm_aside fm_worth fm_out p1 p2 gmi_0 gmi_1 gmi_2 gmi_4 gmi_7 gmi_10 gmi_17 gmi_23 gmi_24 gmi_26 gmi_29 gmi_30 gmi_33 gmi_37 gmi_41 gmi_50 gmi_51 gmi_56 gfm_row gfm_struck gfm_reportKnown gfm_reportPlace gfm_reportMonth gfm_reportDay hx hb hml hown hts hK (Nat.le_of_ble_eq_true rfl) (Nat.le_of_ble_eq_true rfl) (Nat.zero_le _) (Nat.zero_le _) (fun v H locs ls gv hF hP hS hl => ?_) (fun v H locs ls gv hF hP hS hl => ?_) (fun v H locs ls gv hF hP hS hl => ?_) 1000000000) 0 0 _ _ _ g_502 g_509 (gi_w (gi_c 0 0 (by decide)) (by decide)) (gi_w (gi_c 0 0 (by decide)) (by decide)) hF (by have k0 : (0 : Int32).toInt = 0 := (by decide); omega) hP hS (lv_sub hl [2, 3, 4, 1, 0] rfl)
      · skip
        exact W.iret (v := v) hx hb hr (fun t ht hW => ⟨⟨v, (), rfl, ⟨(gi_w gv (by decide)), hF.trans hR9.symm⟩, trivial⟩, hS.F ht⟩) hS.2.2 (dk_at dkX12_blind 15 rfl)
      · skip
        exact W.iret (v := v) hx hb hr (fun t ht hW => ⟨⟨v, (), rfl, ⟨(gi_w gv (by decide)), hF.trans hR9.symm⟩, trivial⟩, hS.F ht⟩) hS.2.2 (dk_at dkX12_blind 53 rfl)
      · skip
        exact W.iret (v := v) hx hb hr (fun t ht hW => ⟨⟨v, (), rfl, ⟨(gi_w gv (by decide)), hF.trans hR9.symm⟩, trivial⟩, hS.F ht⟩) hS.2.2 (dk_at dkX12_blind 43 rfl)
    · have hF := gf_pos c_507 hF
      have g_510 : gi r_506 0 0 := gi_eq c_507 (gi_c 0 0 (by decide))
      refine lv_bipush (v := (-2)) hx hb (dk_at dkX12_blind 14 rfl) (by decide) ?_
      exact W.iret (v := (-2)) hx hb hr (fun t ht hW => ⟨⟨(-2), (), rfl, ⟨(gi_w (gi_c (-2) (-2) (by decide)) (by decide)), hF.trans hR9.symm⟩, trivial⟩, hS.F ht⟩) hS.2.2 (dk_at dkX12_blind 15 rfl)
noncomputable def lsX12_report : List (Nat × Instr × Nat) := [(0, .aload_n 0, 1), (1, .iload_n 1, 1), (2, .invokevirtual 303, 3), (5, .ifCond .ne 6, 3), (8, .bipush (-2), 2), (10, .ireturn, 1), (11, .iload_n 2, 1), (12, .tableswitch 84 0 4 #[36, 43, 63, 70, 77], 36), (48, .aload_n 0, 1), (49, .getfield 16, 3), (52, .iload_n 1, 1), (53, .iaload, 1), (54, .ireturn, 1), (55, .aload_n 0, 1), (56, .getfield 22, 3), (59, .iload_n 1, 1), (60, .baload, 1), (61, .ifCond .eq 7, 3), (64, .iconst 3, 1), (65, .goto 9, 3), (68, .aload_n 0, 1), (69, .getfield 19, 3), (72, .iload_n 1, 1), (73, .iaload, 1), (74, .ireturn, 1), (75, .aload_n 0, 1), (76, .getfield 26, 3), (79, .iload_n 1, 1), (80, .iaload, 1), (81, .ireturn, 1), (82, .aload_n 0, 1), (83, .getfield 29, 3), (86, .iload_n 1, 1), (87, .iaload, 1), (88, .ireturn, 1), (89, .aload_n 0, 1), (90, .getfield 32, 3), (93, .iload_n 1, 1), (94, .iaload, 1), (95, .ireturn, 1), (96, .bipush (-2), 2), (98, .ireturn, 1)]
theorem dkX12_report : dkAll cX12_report lsX12_report = true := by decide +kernel
noncomputable def bfX12_report_74 (mi : Nat → Int32) (fm_struck : Nat → Int32) (fm_reportKnown : Nat → Int32) (fm_reportPlace : Nat → Int32) (fm_reportMonth : Nat → Int32) (fm_reportDay : Nat → Int32) (fm_reportKind : Nat → Int32) (p1 : Int32) (p2 : Int32) (s0 : Int32) : Int32 := s0
noncomputable def fX12_report (mi : Nat → Int32) (fm_struck : Nat → Int32) (fm_reportKnown : Nat → Int32) (fm_reportPlace : Nat → Int32) (fm_reportMonth : Nat → Int32) (fm_reportDay : Nat → Int32) (fm_reportKind : Nat → Int32) (p1 : Int32) (p2 : Int32) : Int32 := cal (fun o1 => if o1 = (0 : Int32) then (-2 : Int32) else (if p2 = (0 : Int32) then (fm_reportPlace p1.toNatClampNeg) else (if p2 = (1 : Int32) then (if (fm_struck p1.toNatClampNeg) = (0 : Int32) then (bfX12_report_74 mi fm_struck fm_reportKnown fm_reportPlace fm_reportMonth fm_reportDay fm_reportKind p1 p2 (fm_reportKind p1.toNatClampNeg)) else (bfX12_report_74 mi fm_struck fm_reportKnown fm_reportPlace fm_reportMonth fm_reportDay fm_reportKind p1 p2 (3 : Int32))) else (if p2 = (2 : Int32) then (fm_reportMonth p1.toNatClampNeg) else (if p2 = (3 : Int32) then (fm_reportDay p1.toNatClampNeg) else (if p2 = (4 : Int32) then (fm_reportKnown p1.toNatClampNeg) else (-2 : Int32))))))) (fX12_isReport mi p1)
set_option maxHeartbeats 4000000 in
set_option maxRecDepth 100000 in
theorem sX12_report (l : Launch) (dC : Nat → ClassId) (dI : Nat → Nat → Nat) (h0 : Nat) (mi : Nat → Int32) (mr : Nat → Nat) (km : Nat → ClassId) (fm_verdict : Nat → Int32) (fm_row : Nat → Int32) (fm_struck : Nat → Int32) (fm_reportKnown : Nat → Int32) (fm_reportPlace : Nat → Int32) (fm_reportMonth : Nat → Int32) (fm_reportDay : Nat → Int32) (fm_reportKind : Nat → Int32) (fm_trust : Nat → Int32) (fm_letter : Nat → Int32) (fm_deedMonth : Nat → Int32) (fm_deedDay : Nat → Int32) (fm_deedLong : Nat → Int32) (fm_deedKind : Nat → Int32) (fm_kept : Nat → Int32) (fm_tape : Nat → Int32) (fm_must : Nat → Int32) (fm_least : Nat → Int32) (fm_pin : Nat → Int32) (fm_ways : Nat → Int32) (fm_official : Nat → Int32) (fm_aside : Nat → Int32) (fm_worth : Nat → Int32) (fm_out : Nat → Int32) (p1 : Int32) (p2 : Int32) (gmi_0 : gi (mi 0) 0 24) (gmi_1 : gi (mi 1) 0 5) (gmi_2 : gi (mi 2) 0 5) (gmi_4 : gi (mi 4) 0 1) (gmi_7 : gi (mi 7) 0 6) (gmi_10 : gi (mi 10) 0 24) (gmi_17 : gi (mi 17) 0 8) (gmi_23 : gi (mi 23) 0 300) (gmi_24 : gi (mi 24) 0 1) (gmi_26 : gi (mi 26) 0 1600) (gmi_29 : gi (mi 29) 0 1600) (gmi_30 : gi (mi 30) 0 1600) (gmi_33 : gi (mi 33) 0 1) (gmi_37 : gi (mi 37) 0 1) (gmi_41 : gi (mi 41) 0 24) (gmi_50 : gi (mi 50) 0 1) (gmi_51 : gi (mi 51) 0 1) (gmi_56 : gi (mi 56) 0 80) (gfm_row : ga fm_row 24 0 23) (gfm_struck : ga fm_struck 24 0 1) (gfm_reportKnown : ga fm_reportKnown 24 0 999) (gfm_reportPlace : ga fm_reportPlace 24 0 5) (gfm_reportMonth : ga fm_reportMonth 24 0 23) (gfm_reportDay : ga fm_reportDay 24 0 999) : Met l yX12_report (.code yX12_report cX12_report 3 (some .int) :: wsGB) ({ frames := 2, cells := 0, slots := 0, locals := 46 }) (va_Pc [.ref h0, .int p1, .int p2] (fun U => va_P (dC, dI) vwCl (MWn h0 mr km (mi 0) (mi 1) (mi 2) (mi 3) (mi 4) (mi 5) (mi 6) (mi 7) (mi 10) (mi 17) (mi 23) (mi 24) (mi 26) (mi 27) (mi 28) (mi 29) (mi 30) (mi 31) (mi 32) (mi 33) (mi 37) (mi 41) (mi 42) (mi 43) (mi 44) (mi 45) (mi 47) (mi 48) (mi 49) (mi 50) (mi 51) (mi 54) (mi 56) fm_trust fm_letter fm_reportPlace fm_reportKind fm_struck fm_reportMonth fm_reportDay fm_reportKnown fm_deedMonth fm_deedDay fm_deedLong fm_deedKind fm_kept fm_tape fm_must fm_least fm_pin fm_ways fm_verdict fm_row fm_official fm_aside fm_worth fm_out) U.heap ∧ va_K (dC, dI) vwCl (MT km) U)) (va_Qi (fun (r : Int32) (u : Unit) => (gi r (-2147483648) 2147483647) ∧ r = fX12_report mi fm_struck fm_reportKnown fm_reportPlace fm_reportMonth fm_reportDay fm_reportKind p1 p2) (fun _ _ => True) (fun _ => False)) 0 0 (fun _ => False) := by
  refine Met.ofW (cc := cX12_report) (maxL := 3) (ret := (some .int)) (by decide) rfl ?_
  intro p e s m args below meth c s₁ B hml hv
  obtain ⟨rfl, hP, hK⟩ := hv
  have hx := B.exec
  have hb := B.bytes
  have hr := B.returns
  have hts := atoms_spec (ws := (.code yX12_report cX12_report 3 (some .int) :: wsGB)) B.pre
  have hown : s.vm.findClass RX12 = some m.cls := findClass_of_methodNamed B.named
  have hlocks := B.notSynchronized
  have hS : va_S (fun _ => False) s.heap s.heap [] := va_S.rf
  have hl := lv_entry ([.ref h0, .int p1, .int p2]) (n := 3) (Nat.le_of_ble_eq_true rfl)
  rw [lg_entry_eq]
  generalize (lg_sl ([.ref h0, .int p1, .int p2]) ++ List.replicate (3 - (lg_sl ([.ref h0, .int p1, .int p2])).length) Slot.unset).toArray = ls at hl ⊢
  have hl : lv_has ls 3 [(0, .ref h0), (1, .int p1), (2, .int p2)] := hl
  obtain ⟨RES, hF⟩ : ∃ R9, fX12_report mi fm_struck fm_reportKnown fm_reportPlace fm_reportMonth fm_reportDay fm_reportKind p1 p2 = R9 := ⟨_, rfl⟩
  have hR9 := hF
  refine lv_aload_n hx hb (dk_at dkX12_report 0 rfl) rfl (lv_at hl 0 rfl) ?_
  refine lv_iload_n hx hb (dk_at dkX12_report 1 rfl) rfl (lv_at hl 1 rfl) ?_
  refine va_calli (va_runV (As := [.int p1]) (rest := []) ⟨hx, hb, hml, hown, hts⟩ (sX12_isReport l dC dI h0 mi mr km fm_trust fm_letter fm_reportPlace fm_reportKind fm_struck fm_reportMonth fm_reportDay fm_reportKnown fm_deedMonth fm_deedDay fm_deedLong fm_deedKind fm_kept fm_tape fm_must fm_least fm_pin fm_ways fm_verdict fm_row fm_official fm_aside fm_worth fm_out p1 gmi_0 gmi_1 gmi_2 gmi_4 gmi_7 gmi_10 gmi_17 gmi_23 gmi_24 gmi_26 gmi_29 gmi_30 gmi_33 gmi_37 gmi_41 gmi_50 gmi_51 gmi_56) (cwV 1 hts (gz_gV mGB_235 mGB_236 mGB_237 mGB_1 mGB_238 goodGB) rfl rfl rfl (by decide +kernel) ⟨Nat.le_of_ble_eq_true rfl, Nat.le_of_ble_eq_true rfl⟩) ⟨bl_R, mw_recv hK hP, fun U hU hW => ⟨rfl, by rw [hU]; exact hP, va_K.moved hW.alike hK⟩⟩ rfl rfl hl.1 rfl (lv_room (Nat.le_of_ble_eq_true rfl)) (dk_at dkX12_report 2 rfl) ⟨Nat.zero_le _, Nat.zero_le _⟩) hS (fun q _ h => h.elim) (fun q h => h.elim) (fun r_16 u t H1 locs ht hvm hw hB hz1 hk1 hS => ?_)
  obtain ⟨hw, hE⟩ := hw
  have hP := gz_keep hP hk1
  have hF := gf_callm (a := r_16) hE hF (by first | with_reducible rfl | simp only [upd_same, upd_app, ↓reduceIte, Nat.reduceEqDiff])
  generalize H1 = H at hP hS ⊢
  have gr_16 : gi r_16 0 1 := hw.1
  have hqr_16 := hw.2
  refine lv_if_ne (tgt := 11) hx hb (dk_at dkX12_report 3 rfl) (by decide) (fun c_17 => ?_) (fun c_17 => ?_)
  · have hF := gf_neg c_17 hF
    have g_18 : gi r_16 1 1 := gi_ne_lo c_17 gr_16 (gi_c 0 0 (by decide)) (by decide)
    have g_19 : gi p1 0 23 := gi_cap (gi_any p1) (hqr_16 (gz_one g_18)) (by decide)
    refine lv_iload_n hx hb (dk_at dkX12_report 6 rfl) rfl (lv_at hl 2 rfl) ?_
    rcases gz_sw p2 4 (Nat.le_of_ble_eq_true rfl) with hj_20 | ⟨j_20, hj_20, ej_20⟩
    · refine lv_tableOut (tgt := 96) hx hb (dk_at dkX12_report 7 rfl) hj_20 (by decide) ?_
      have hF := gf_neg (fun h9 => by have h8 := congrArg Int32.toInt h9; rw [show (0 : Int32).toInt = 0 from by decide] at h8; omega) hF
      have hF := gf_neg (fun h9 => by have h8 := congrArg Int32.toInt h9; rw [show (1 : Int32).toInt = 1 from by decide] at h8; omega) hF
      have hF := gf_neg (fun h9 => by have h8 := congrArg Int32.toInt h9; rw [show (2 : Int32).toInt = 2 from by decide] at h8; omega) hF
      have hF := gf_neg (fun h9 => by have h8 := congrArg Int32.toInt h9; rw [show (3 : Int32).toInt = 3 from by decide] at h8; omega) hF
      have hF := gf_neg (fun h9 => by have h8 := congrArg Int32.toInt h9; rw [show (4 : Int32).toInt = 4 from by decide] at h8; omega) hF
      refine lv_bipush (v := (-2)) hx hb (dk_at dkX12_report 40 rfl) (by decide) ?_
      exact W.iret (v := (-2)) hx hb hr (fun t ht hW => ⟨⟨(-2), (), rfl, ⟨(gi_any (-2)), hF.trans hR9.symm⟩, trivial⟩, hS.F ht⟩) hS.2.2 (dk_at dkX12_report 41 rfl)
    · rcases (show j_20 = 0 ∨ j_20 = 1 ∨ j_20 = 2 ∨ j_20 = 3 ∨ j_20 = 4 by omega) with rfl | rfl | rfl | rfl | rfl
      · refine lv_tableIn (off := 36) (tgt := 48) hx hb (dk_at dkX12_report 7 rfl) (by rw [ej_20]; decide +kernel) (by rw [ej_20]; decide +kernel) (by rw [ej_20]; decide +kernel) (by decide) ?_
        have hF := gf_pos (by rw [ej_20]; rfl) hF
        refine lv_aload_n hx hb (dk_at dkX12_report 8 rfl) rfl (lv_at hl 0 rfl) ?_
        refine va_get (D := (dC, dI)) (ci := 12) (v := .ref (mr 2)) (C := RX12) (T := TX12) (N := 57) hx hb hts (fun w h => List.mem_cons_of_mem _ (jnGB_X12 w h)) hown hK hP 0 rfl rfl 11 (by decide) (hts _ (List.mem_cons_of_mem _ mGB_12)) (fun _ h9 => h9) rfl (dk_at dkX12_report 9 rfl) ?_
        refine lv_iload_n hx hb (dk_at dkX12_report 10 rfl) rfl (lv_at hl 1 rfl) ?_
        refine va_iald hx hb hK hP 3 2 rfl rfl (gi_in g_19 (by decide)) (dk_at dkX12_report 11 rfl) ?_
        refine lv_topi (fun x_21 ex_21 => ?_)
        have gx_21 : gi x_21 0 5 := ga_at gfm_reportPlace (gi_in g_19 (by decide)) ex_21
        exact W.iret (v := x_21) hx hb hr (fun t ht hW => ⟨⟨x_21, (), rfl, ⟨(gi_any x_21), by rw [ex_21]; exact hF.trans hR9.symm⟩, trivial⟩, hS.F ht⟩) hS.2.2 (dk_at dkX12_report 12 rfl)
      · refine lv_tableIn (off := 43) (tgt := 55) hx hb (dk_at dkX12_report 7 rfl) (by rw [ej_20]; decide +kernel) (by rw [ej_20]; decide +kernel) (by rw [ej_20]; decide +kernel) (by decide) ?_
        have hF := gf_neg (by rw [ej_20]; decide) hF
        have hF := gf_pos (by rw [ej_20]; rfl) hF
        refine lv_aload_n hx hb (dk_at dkX12_report 13 rfl) rfl (lv_at hl 0 rfl) ?_
        refine va_get (D := (dC, dI)) (ci := 12) (v := .ref (mr 4)) (C := RX12) (T := TX12) (N := 57) hx hb hts (fun w h => List.mem_cons_of_mem _ (jnGB_X12 w h)) hown hK hP 0 rfl rfl 13 (by decide) (hts _ (List.mem_cons_of_mem _ mGB_15)) (fun _ h9 => h9) rfl (dk_at dkX12_report 14 rfl) ?_
        refine lv_iload_n hx hb (dk_at dkX12_report 15 rfl) rfl (lv_at hl 1 rfl) ?_
        refine va_zald hx hb hK hP 5 4 rfl rfl (gi_in g_19 (by decide)) (dk_at dkX12_report 16 rfl) ?_
        refine lv_topi (fun x_22 ex_22 => ?_)
        have gx_22 : gi x_22 0 1 := ga_at gfm_struck (gi_in g_19 (by decide)) ex_22
        refine lv_if_eq (tgt := 68) hx hb (dk_at dkX12_report 17 rfl) (by decide) (fun c_23 => ?_) (fun c_23 => ?_)
        · have hF := gf_pos (by rw [ex_22] at c_23; exact c_23) hF
          have g_24 : gi x_22 0 0 := gi_eq c_23 (gi_c 0 0 (by decide))
          refine lv_aload_n hx hb (dk_at dkX12_report 20 rfl) rfl (lv_at hl 0 rfl) ?_
          refine va_get (D := (dC, dI)) (ci := 12) (v := .ref (mr 3)) (C := RX12) (T := TX12) (N := 57) hx hb hts (fun w h => List.mem_cons_of_mem _ (jnGB_X12 w h)) hown hK hP 0 rfl rfl 12 (by decide) (hts _ (List.mem_cons_of_mem _ mGB_13)) (fun _ h9 => h9) rfl (dk_at dkX12_report 21 rfl) ?_
          refine lv_iload_n hx hb (dk_at dkX12_report 22 rfl) rfl (lv_at hl 1 rfl) ?_
          refine va_iald hx hb hK hP 4 3 rfl rfl (gi_in g_19 (by decide)) (dk_at dkX12_report 23 rfl) ?_
          refine lv_topi (fun x_25 ex_25 => ?_)
          exact W.iret (v := x_25) hx hb hr (fun t ht hW => ⟨⟨x_25, (), rfl, ⟨(gi_any x_25), by rw [ex_25]; exact hF.trans hR9.symm⟩, trivial⟩, hS.F ht⟩) hS.2.2 (dk_at dkX12_report 24 rfl)
        · have hF := gf_neg (by rw [ex_22] at c_23; exact c_23) hF
          have g_26 : gi x_22 1 1 := gi_ne_lo c_23 gx_22 (gi_c 0 0 (by decide)) (by decide)
          refine lv_iconst (v := 3) hx hb (dk_at dkX12_report 18 rfl) (by decide) ?_
          refine lv_goto (tgt := 74) hx hb (dk_at dkX12_report 19 rfl) (by decide) ?_
          exact W.iret (v := 3) hx hb hr (fun t ht hW => ⟨⟨3, (), rfl, ⟨(gi_any 3), hF.trans hR9.symm⟩, trivial⟩, hS.F ht⟩) hS.2.2 (dk_at dkX12_report 24 rfl)
      · refine lv_tableIn (off := 63) (tgt := 75) hx hb (dk_at dkX12_report 7 rfl) (by rw [ej_20]; decide +kernel) (by rw [ej_20]; decide +kernel) (by rw [ej_20]; decide +kernel) (by decide) ?_
        have hF := gf_neg (by rw [ej_20]; decide) hF
        have hF := gf_neg (by rw [ej_20]; decide) hF
        have hF := gf_pos (by rw [ej_20]; rfl) hF
        refine lv_aload_n hx hb (dk_at dkX12_report 25 rfl) rfl (lv_at hl 0 rfl) ?_
        refine va_get (D := (dC, dI)) (ci := 12) (v := .ref (mr 5)) (C := RX12) (T := TX12) (N := 57) hx hb hts (fun w h => List.mem_cons_of_mem _ (jnGB_X12 w h)) hown hK hP 0 rfl rfl 14 (by decide) (hts _ (List.mem_cons_of_mem _ mGB_16)) (fun _ h9 => h9) rfl (dk_at dkX12_report 26 rfl) ?_
        refine lv_iload_n hx hb (dk_at dkX12_report 27 rfl) rfl (lv_at hl 1 rfl) ?_
        refine va_iald hx hb hK hP 6 5 rfl rfl (gi_in g_19 (by decide)) (dk_at dkX12_report 28 rfl) ?_
        refine lv_topi (fun x_27 ex_27 => ?_)
        have gx_27 : gi x_27 0 23 := ga_at gfm_reportMonth (gi_in g_19 (by decide)) ex_27
        exact W.iret (v := x_27) hx hb hr (fun t ht hW => ⟨⟨x_27, (), rfl, ⟨(gi_any x_27), by rw [ex_27]; exact hF.trans hR9.symm⟩, trivial⟩, hS.F ht⟩) hS.2.2 (dk_at dkX12_report 29 rfl)
      · refine lv_tableIn (off := 70) (tgt := 82) hx hb (dk_at dkX12_report 7 rfl) (by rw [ej_20]; decide +kernel) (by rw [ej_20]; decide +kernel) (by rw [ej_20]; decide +kernel) (by decide) ?_
        have hF := gf_neg (by rw [ej_20]; decide) hF
        have hF := gf_neg (by rw [ej_20]; decide) hF
        have hF := gf_neg (by rw [ej_20]; decide) hF
        have hF := gf_pos (by rw [ej_20]; rfl) hF
        refine lv_aload_n hx hb (dk_at dkX12_report 30 rfl) rfl (lv_at hl 0 rfl) ?_
        refine va_get (D := (dC, dI)) (ci := 12) (v := .ref (mr 6)) (C := RX12) (T := TX12) (N := 57) hx hb hts (fun w h => List.mem_cons_of_mem _ (jnGB_X12 w h)) hown hK hP 0 rfl rfl 15 (by decide) (hts _ (List.mem_cons_of_mem _ mGB_17)) (fun _ h9 => h9) rfl (dk_at dkX12_report 31 rfl) ?_
        refine lv_iload_n hx hb (dk_at dkX12_report 32 rfl) rfl (lv_at hl 1 rfl) ?_
        refine va_iald hx hb hK hP 7 6 rfl rfl (gi_in g_19 (by decide)) (dk_at dkX12_report 33 rfl) ?_
        refine lv_topi (fun x_28 ex_28 => ?_)
        have gx_28 : gi x_28 0 999 := ga_at gfm_reportDay (gi_in g_19 (by decide)) ex_28
        exact W.iret (v := x_28) hx hb hr (fun t ht hW => ⟨⟨x_28, (), rfl, ⟨(gi_any x_28), by rw [ex_28]; exact hF.trans hR9.symm⟩, trivial⟩, hS.F ht⟩) hS.2.2 (dk_at dkX12_report 34 rfl)
      · refine lv_tableIn (off := 77) (tgt := 89) hx hb (dk_at dkX12_report 7 rfl) (by rw [ej_20]; decide +kernel) (by rw [ej_20]; decide +kernel) (by rw [ej_20]; decide +kernel) (by decide) ?_
        have hF := gf_neg (by rw [ej_20]; decide) hF
        have hF := gf_neg (by rw [ej_20]; decide) hF
        have hF := gf_neg (by rw [ej_20]; decide) hF
        have hF := gf_neg (by rw [ej_20]; decide) hF
        have hF := gf_pos (by rw [ej_20]; rfl) hF
        refine lv_aload_n hx hb (dk_at dkX12_report 35 rfl) rfl (lv_at hl 0 rfl) ?_
        refine va_get (D := (dC, dI)) (ci := 12) (v := .ref (mr 7)) (C := RX12) (T := TX12) (N := 57) hx hb hts (fun w h => List.mem_cons_of_mem _ (jnGB_X12 w h)) hown hK hP 0 rfl rfl 16 (by decide) (hts _ (List.mem_cons_of_mem _ mGB_18)) (fun _ h9 => h9) rfl (dk_at dkX12_report 36 rfl) ?_
        refine lv_iload_n hx hb (dk_at dkX12_report 37 rfl) rfl (lv_at hl 1 rfl) ?_
        refine va_iald hx hb hK hP 8 7 rfl rfl (gi_in g_19 (by decide)) (dk_at dkX12_report 38 rfl) ?_
        refine lv_topi (fun x_29 ex_29 => ?_)
        have gx_29 : gi x_29 0 999 := ga_at gfm_reportKnown (gi_in g_19 (by decide)) ex_29
        exact W.iret (v := x_29) hx hb hr (fun t ht hW => ⟨⟨x_29, (), rfl, ⟨(gi_any x_29), by rw [ex_29]; exact hF.trans hR9.symm⟩, trivial⟩, hS.F ht⟩) hS.2.2 (dk_at dkX12_report 39 rfl)
  · have hF := gf_pos c_17 hF
    have g_30 : gi r_16 0 0 := gi_eq c_17 (gi_c 0 0 (by decide))
    refine lv_bipush (v := (-2)) hx hb (dk_at dkX12_report 4 rfl) (by decide) ?_
    exact W.iret (v := (-2)) hx hb hr (fun t ht hW => ⟨⟨(-2), (), rfl, ⟨(gi_any (-2)), hF.trans hR9.symm⟩, trivial⟩, hS.F ht⟩) hS.2.2 (dk_at dkX12_report 5 rfl)
noncomputable def lsX12_fault : List (Nat × Instr × Nat) := [(0, .iload_n 1, 1), (1, .ifCond .ne 10, 3), (4, .aload_n 0, 1), (5, .getfield 177, 3), (8, .goto 16, 3), (11, .iload_n 1, 1), (12, .iconst 1, 1), (13, .if_icmp .ne 10, 3), (16, .aload_n 0, 1), (17, .getfield 53, 3), (20, .goto 4, 3), (23, .iconst (-1), 1), (24, .ireturn, 1)]
theorem dkX12_fault : dkAll cX12_fault lsX12_fault = true := by decide +kernel
noncomputable def bfX12_fault_24 (mi : Nat → Int32) (p1 : Int32) (s0 : Int32) : Int32 := s0
noncomputable def fX12_fault (mi : Nat → Int32) (p1 : Int32) : Int32 := if p1 = (0 : Int32) then (bfX12_fault_24 mi p1 (mi 27)) else (if p1 = (1 : Int32) then (bfX12_fault_24 mi p1 (mi 28)) else (bfX12_fault_24 mi p1 (-1 : Int32)))
set_option maxHeartbeats 4000000 in
set_option maxRecDepth 100000 in
theorem sX12_fault (l : Launch) (dC : Nat → ClassId) (dI : Nat → Nat → Nat) (h0 : Nat) (mi : Nat → Int32) (mr : Nat → Nat) (km : Nat → ClassId) (fm_trust : Nat → Int32) (fm_letter : Nat → Int32) (fm_reportPlace : Nat → Int32) (fm_reportKind : Nat → Int32) (fm_struck : Nat → Int32) (fm_reportMonth : Nat → Int32) (fm_reportDay : Nat → Int32) (fm_reportKnown : Nat → Int32) (fm_deedMonth : Nat → Int32) (fm_deedDay : Nat → Int32) (fm_deedLong : Nat → Int32) (fm_deedKind : Nat → Int32) (fm_kept : Nat → Int32) (fm_tape : Nat → Int32) (fm_must : Nat → Int32) (fm_least : Nat → Int32) (fm_pin : Nat → Int32) (fm_ways : Nat → Int32) (fm_verdict : Nat → Int32) (fm_row : Nat → Int32) (fm_official : Nat → Int32) (fm_aside : Nat → Int32) (fm_worth : Nat → Int32) (fm_out : Nat → Int32) (p1 : Int32) (gmi_0 : gi (mi 0) 0 24) (gmi_1 : gi (mi 1) 0 5) (gmi_2 : gi (mi 2) 0 5) (gmi_4 : gi (mi 4) 0 1) (gmi_7 : gi (mi 7) 0 6) (gmi_10 : gi (mi 10) 0 24) (gmi_17 : gi (mi 17) 0 8) (gmi_23 : gi (mi 23) 0 300) (gmi_24 : gi (mi 24) 0 1) (gmi_26 : gi (mi 26) 0 1600) (gmi_29 : gi (mi 29) 0 1600) (gmi_30 : gi (mi 30) 0 1600) (gmi_33 : gi (mi 33) 0 1) (gmi_37 : gi (mi 37) 0 1) (gmi_41 : gi (mi 41) 0 24) (gmi_50 : gi (mi 50) 0 1) (gmi_51 : gi (mi 51) 0 1) (gmi_56 : gi (mi 56) 0 80) : Met l yX12_fault (.code yX12_fault cX12_fault 2 (some .int) :: wsGB) ({ frames := 0, cells := 0, slots := 0, locals := 0 }) (va_Pc [.ref h0, .int p1] (fun U => va_P (dC, dI) vwCl (MWn h0 mr km (mi 0) (mi 1) (mi 2) (mi 3) (mi 4) (mi 5) (mi 6) (mi 7) (mi 10) (mi 17) (mi 23) (mi 24) (mi 26) (mi 27) (mi 28) (mi 29) (mi 30) (mi 31) (mi 32) (mi 33) (mi 37) (mi 41) (mi 42) (mi 43) (mi 44) (mi 45) (mi 47) (mi 48) (mi 49) (mi 50) (mi 51) (mi 54) (mi 56) fm_trust fm_letter fm_reportPlace fm_reportKind fm_struck fm_reportMonth fm_reportDay fm_reportKnown fm_deedMonth fm_deedDay fm_deedLong fm_deedKind fm_kept fm_tape fm_must fm_least fm_pin fm_ways fm_verdict fm_row fm_official fm_aside fm_worth fm_out) U.heap ∧ va_K (dC, dI) vwCl (MT km) U)) (va_Qi (fun (r : Int32) (u : Unit) => (gi r (-2147483648) 2147483647) ∧ r = fX12_fault mi p1) (fun _ _ => True) (fun _ => False)) 0 0 (fun _ => False) := by
  refine Met.ofW (cc := cX12_fault) (maxL := 2) (ret := (some .int)) (by decide) rfl ?_
  intro p e s m args below meth c s₁ B hml hv
  obtain ⟨rfl, hP, hK⟩ := hv
  have hx := B.exec
  have hb := B.bytes
  have hr := B.returns
  have hts := atoms_spec (ws := (.code yX12_fault cX12_fault 2 (some .int) :: wsGB)) B.pre
  have hown : s.vm.findClass RX12 = some m.cls := findClass_of_methodNamed B.named
  have hlocks := B.notSynchronized
  have hS : va_S (fun _ => False) s.heap s.heap [] := va_S.rf
  have hl := lv_entry ([.ref h0, .int p1]) (n := 2) (Nat.le_of_ble_eq_true rfl)
  rw [lg_entry_eq]
  generalize (lg_sl ([.ref h0, .int p1]) ++ List.replicate (2 - (lg_sl ([.ref h0, .int p1])).length) Slot.unset).toArray = ls at hl ⊢
  have hl : lv_has ls 2 [(0, .ref h0), (1, .int p1)] := hl
  obtain ⟨RES, hF⟩ : ∃ R9, fX12_fault mi p1 = R9 := ⟨_, rfl⟩
  have hR9 := hF
  refine lv_iload_n hx hb (dk_at dkX12_fault 0 rfl) rfl (lv_at hl 1 rfl) ?_
  refine lv_if_ne (tgt := 11) hx hb (dk_at dkX12_fault 1 rfl) (by decide) (fun c_5 => ?_) (fun c_5 => ?_)
  · have hF := gf_neg c_5 hF
    refine lv_iload_n hx hb (dk_at dkX12_fault 5 rfl) rfl (lv_at hl 1 rfl) ?_
    refine lv_iconst (v := 1) hx hb (dk_at dkX12_fault 6 rfl) (by decide) ?_
    refine lv_icmp_ne (tgt := 23) hx hb (dk_at dkX12_fault 7 rfl) (by decide) (fun c_6 => ?_) (fun c_6 => ?_)
    · have hF := gf_neg c_6 hF
      refine lv_iconst (v := (-1)) hx hb (dk_at dkX12_fault 11 rfl) (by decide) ?_
      exact W.iret (v := (-1)) hx hb hr (fun t ht hW => ⟨⟨(-1), (), rfl, ⟨(gi_any (-1)), hF.trans hR9.symm⟩, trivial⟩, hS.F ht⟩) hS.2.2 (dk_at dkX12_fault 12 rfl)
    · have hF := gf_pos c_6 hF
      have g_7 : gi p1 1 1 := gi_eq c_6 (gi_c 1 1 (by decide))
      refine lv_aload_n hx hb (dk_at dkX12_fault 8 rfl) rfl (lv_at hl 0 rfl) ?_
      refine va_get (D := (dC, dI)) (ci := 12) (v := .int (mi 28)) (C := RX12) (T := TX12) (N := 57) hx hb hts (fun w h => List.mem_cons_of_mem _ (jnGB_X12 w h)) hown hK hP 0 rfl rfl 28 (by decide) (hts _ (List.mem_cons_of_mem _ mGB_25)) (fun _ h9 => h9) rfl (dk_at dkX12_fault 9 rfl) ?_
      refine lv_goto (tgt := 24) hx hb (dk_at dkX12_fault 10 rfl) (by decide) ?_
      exact W.iret (v := (mi 28)) hx hb hr (fun t ht hW => ⟨⟨(mi 28), (), rfl, ⟨(gi_any (mi 28)), hF.trans hR9.symm⟩, trivial⟩, hS.F ht⟩) hS.2.2 (dk_at dkX12_fault 12 rfl)
  · have hF := gf_pos c_5 hF
    have g_8 : gi p1 0 0 := gi_eq c_5 (gi_c 0 0 (by decide))
    refine lv_aload_n hx hb (dk_at dkX12_fault 2 rfl) rfl (lv_at hl 0 rfl) ?_
    refine va_get (D := (dC, dI)) (ci := 12) (v := .int (mi 27)) (C := RX12) (T := TX12) (N := 57) hx hb hts (fun w h => List.mem_cons_of_mem _ (jnGB_X12 w h)) hown hK hP 0 rfl rfl 27 (by decide) (hts _ (List.mem_cons_of_mem _ mGB_115)) (fun _ h9 => h9) rfl (dk_at dkX12_fault 3 rfl) ?_
    refine lv_goto (tgt := 24) hx hb (dk_at dkX12_fault 4 rfl) (by decide) ?_
    exact W.iret (v := (mi 27)) hx hb hr (fun t ht hW => ⟨⟨(mi 27), (), rfl, ⟨(gi_any (mi 27)), hF.trans hR9.symm⟩, trivial⟩, hS.F ht⟩) hS.2.2 (dk_at dkX12_fault 12 rfl)
