noncomputable def lsX11_dayOf : List (Nat × Instr × Nat) := [(0, .bipush 29, 2), (2, .iload_n 0, 1), (3, .imul, 1), (4, .iload_n 1, 1), (5, .iadd, 1), (6, .ireturn, 1)]
theorem dkX11_dayOf : dkAll cX11_dayOf lsX11_dayOf = true := dk_fast (by decide +kernel)
noncomputable def fX11_dayOf (p0 : Int32) (p1 : Int32) : Int32 := (((29 : Int32) * p0) + p1)
set_option maxHeartbeats 4000000 in
set_option maxRecDepth 100000 in
theorem sX11_dayOf (l : Launch) (dC : Nat → ClassId) (dI : Nat → Nat → Nat) (p0 : Int32) (p1 : Int32)  : Met l yX11_dayOf (.code yX11_dayOf cX11_dayOf 2 (some .int) :: wsGA) ({ frames := 0, cells := 0, slots := 0, locals := 0 }) (va_Pc [.int p0, .int p1] (fun U => va_P (dC, dI) vwCl [] U.heap ∧ va_K (dC, dI) vwCl [] U ∧ nzA U)) (va_Qi (fun (r : Int32) (u : Unit) => (gi r (-2147483648) 2147483647) ∧ r = fX11_dayOf p0 p1) (fun _ _ => True) (fun _ => False)) 0 0 (fun _ => False) := by
  refine Met.ofW (cc := cX11_dayOf) (maxL := 2) (ret := (some .int)) (by decide) rfl ?_
  intro p e s m args below meth c s₁ B hml hv
  obtain ⟨rfl, hP, hK, hz⟩ := hv
  have hx := B.exec
  have hb := B.bytes
  have hr := B.returns
  have hts := atoms_spec (ws := (.code yX11_dayOf cX11_dayOf 2 (some .int) :: wsGA)) B.pre
  have hown : s.vm.findClass RX11 = some m.cls := findClass_of_methodNamed B.named
  have hlocks := B.notSynchronized
  have hS : va_S (fun _ => False) s.heap s.heap [] := va_S.rf
  have hl := lv_entry ([.int p0, .int p1]) (n := 2) (Nat.le_of_ble_eq_true rfl)
  rw [lg_entry_eq]
  generalize (lg_sl ([.int p0, .int p1]) ++ List.replicate (2 - (lg_sl ([.int p0, .int p1])).length) Slot.unset).toArray = ls at hl ⊢
  have hl : lv_has ls 2 [(0, .int p0), (1, .int p1)] := hl
  obtain ⟨RES, hF⟩ : ∃ R9, fX11_dayOf p0 p1 = R9 := ⟨_, rfl⟩
  have hR9 := hF
  refine lv_bipush (v := 29) hx hb (dk_at dkX11_dayOf 0 rfl) (by decide) ?_
  refine lv_iload_n hx hb (dk_at dkX11_dayOf 1 rfl) rfl (lv_at hl 0 rfl) ?_
  refine lv_imul hx hb (dk_at dkX11_dayOf 2 rfl) ?_
  refine lv_topi (fun x_3 ex_3 => ?_)
  refine lv_iload_n hx hb (dk_at dkX11_dayOf 3 rfl) rfl (lv_at hl 1 rfl) ?_
  refine lv_iadd hx hb (dk_at dkX11_dayOf 4 rfl) ?_
  refine lv_topi (fun x_4 ex_4 => ?_)
  exact W.iret (v := x_4) hx hb hr (fun t ht hW => ⟨⟨x_4, (), rfl, ⟨(gi_any x_4), by first | (rw [ex_4, ex_3]; exact hF.trans hR9.symm) | ((try rw [ex_4]); (try rw [ex_3]); exact hF.trans hR9.symm)⟩, trivial⟩, hS.F ht⟩) hS.2.2 (dk_at dkX11_dayOf 5 rfl)
noncomputable def lsX11_anchorOf : List (Nat × Instr × Nat) := [(0, .iload_n 1, 1), (1, .bipush 30, 2), (3, .if_icmp .ne 9, 3), (6, .iload_n 0, 1), (7, .iconst 1, 1), (8, .iadd, 1), (9, .goto 4, 3), (12, .iload_n 0, 1), (13, .ireturn, 1)]
theorem dkX11_anchorOf : dkAll cX11_anchorOf lsX11_anchorOf = true := dk_fast (by decide +kernel)
noncomputable def bfX11_anchorOf_13 (p0 : Int32) (p1 : Int32) (s0 : Int32) : Int32 := s0
noncomputable def fX11_anchorOf (p0 : Int32) (p1 : Int32) : Int32 := if p1 = (30 : Int32) then (bfX11_anchorOf_13 p0 p1 (p0 + (1 : Int32))) else (bfX11_anchorOf_13 p0 p1 p0)
set_option maxHeartbeats 4000000 in
set_option maxRecDepth 100000 in
theorem sX11_anchorOf (l : Launch) (dC : Nat → ClassId) (dI : Nat → Nat → Nat) (p0 : Int32) (p1 : Int32) (gp0 : gi p0 0 23) : Met l yX11_anchorOf (.code yX11_anchorOf cX11_anchorOf 2 (some .int) :: wsGA) ({ frames := 0, cells := 0, slots := 0, locals := 0 }) (va_Pc [.int p0, .int p1] (fun U => va_P (dC, dI) vwCl [] U.heap ∧ va_K (dC, dI) vwCl [] U ∧ nzA U)) (va_Qi (fun (r : Int32) (u : Unit) => (gi r 0 24) ∧ r = fX11_anchorOf p0 p1) (fun _ _ => True) (fun _ => False)) 0 0 (fun _ => False) := by
  refine Met.ofW (cc := cX11_anchorOf) (maxL := 2) (ret := (some .int)) (by decide) rfl ?_
  intro p e s m args below meth c s₁ B hml hv
  obtain ⟨rfl, hP, hK, hz⟩ := hv
  have hx := B.exec
  have hb := B.bytes
  have hr := B.returns
  have hts := atoms_spec (ws := (.code yX11_anchorOf cX11_anchorOf 2 (some .int) :: wsGA)) B.pre
  have hown : s.vm.findClass RX11 = some m.cls := findClass_of_methodNamed B.named
  have hlocks := B.notSynchronized
  have hS : va_S (fun _ => False) s.heap s.heap [] := va_S.rf
  have hl := lv_entry ([.int p0, .int p1]) (n := 2) (Nat.le_of_ble_eq_true rfl)
  rw [lg_entry_eq]
  generalize (lg_sl ([.int p0, .int p1]) ++ List.replicate (2 - (lg_sl ([.int p0, .int p1])).length) Slot.unset).toArray = ls at hl ⊢
  have hl : lv_has ls 2 [(0, .int p0), (1, .int p1)] := hl
  obtain ⟨RES, hF⟩ : ∃ R9, fX11_anchorOf p0 p1 = R9 := ⟨_, rfl⟩
  have hR9 := hF
  refine lv_iload_n hx hb (dk_at dkX11_anchorOf 0 rfl) rfl (lv_at hl 1 rfl) ?_
  refine lv_bipush (v := 30) hx hb (dk_at dkX11_anchorOf 1 rfl) (by decide) ?_
  refine lv_icmp_ne (tgt := 12) hx hb (dk_at dkX11_anchorOf 2 rfl) (by decide) (fun c_4 => ?_) (fun c_4 => ?_)
  · have hF := gf_neg c_4 hF
    refine lv_iload_n hx hb (dk_at dkX11_anchorOf 7 rfl) rfl (lv_at hl 0 rfl) ?_
    exact W.iret (v := p0) hx hb hr (fun t ht hW => ⟨⟨p0, (), rfl, ⟨(gi_w gp0 (by decide)), hF.trans hR9.symm⟩, trivial⟩, hS.F ht⟩) hS.2.2 (dk_at dkX11_anchorOf 8 rfl)
  · have hF := gf_pos c_4 hF
    have g_5 : gi p1 30 30 := gi_eq c_4 (gi_c 30 30 (by decide))
    refine lv_iload_n hx hb (dk_at dkX11_anchorOf 3 rfl) rfl (lv_at hl 0 rfl) ?_
    refine lv_iconst (v := 1) hx hb (dk_at dkX11_anchorOf 4 rfl) (by decide) ?_
    refine lv_iadd hx hb (dk_at dkX11_anchorOf 5 rfl) ?_
    refine lv_topi (fun x_6 ex_6 => ?_)
    have gx_6 : gi x_6 1 24 := gi_add ex_6 gp0 (gi_c 1 1 (by decide)) (by decide)
    refine lv_goto (tgt := 13) hx hb (dk_at dkX11_anchorOf 6 rfl) (by decide) ?_
    exact W.iret (v := x_6) hx hb hr (fun t ht hW => ⟨⟨x_6, (), rfl, ⟨(gi_w gx_6 (by decide)), by first | (rw [ex_6]; exact hF.trans hR9.symm) | ((try rw [ex_6]); exact hF.trans hR9.symm)⟩, trivial⟩, hS.F ht⟩) hS.2.2 (dk_at dkX11_anchorOf 8 rfl)
noncomputable def lsX11_offsetOf : List (Nat × Instr × Nat) := [(0, .iload_n 0, 1), (1, .bipush 30, 2), (3, .if_icmp .ne 7, 3), (6, .iconst (-1), 1), (7, .goto 6, 3), (10, .iload_n 0, 1), (11, .iconst 1, 1), (12, .isub, 1), (13, .ireturn, 1)]
theorem dkX11_offsetOf : dkAll cX11_offsetOf lsX11_offsetOf = true := dk_fast (by decide +kernel)
noncomputable def bfX11_offsetOf_13 (p0 : Int32) (s0 : Int32) : Int32 := s0
noncomputable def fX11_offsetOf (p0 : Int32) : Int32 := if p0 = (30 : Int32) then (bfX11_offsetOf_13 p0 (-1 : Int32)) else (bfX11_offsetOf_13 p0 (p0 - (1 : Int32)))
set_option maxHeartbeats 4000000 in
set_option maxRecDepth 100000 in
theorem sX11_offsetOf (l : Launch) (dC : Nat → ClassId) (dI : Nat → Nat → Nat) (p0 : Int32)  : Met l yX11_offsetOf (.code yX11_offsetOf cX11_offsetOf 1 (some .int) :: wsGA) ({ frames := 0, cells := 0, slots := 0, locals := 0 }) (va_Pc [.int p0] (fun U => va_P (dC, dI) vwCl [] U.heap ∧ va_K (dC, dI) vwCl [] U ∧ nzA U)) (va_Qi (fun (r : Int32) (u : Unit) => (gi r (-2147483648) 2147483647) ∧ r = fX11_offsetOf p0) (fun _ _ => True) (fun _ => False)) 0 0 (fun _ => False) := by
  refine Met.ofW (cc := cX11_offsetOf) (maxL := 1) (ret := (some .int)) (by decide) rfl ?_
  intro p e s m args below meth c s₁ B hml hv
  obtain ⟨rfl, hP, hK, hz⟩ := hv
  have hx := B.exec
  have hb := B.bytes
  have hr := B.returns
  have hts := atoms_spec (ws := (.code yX11_offsetOf cX11_offsetOf 1 (some .int) :: wsGA)) B.pre
  have hown : s.vm.findClass RX11 = some m.cls := findClass_of_methodNamed B.named
  have hlocks := B.notSynchronized
  have hS : va_S (fun _ => False) s.heap s.heap [] := va_S.rf
  have hl := lv_entry ([.int p0]) (n := 1) (Nat.le_of_ble_eq_true rfl)
  rw [lg_entry_eq]
  generalize (lg_sl ([.int p0]) ++ List.replicate (1 - (lg_sl ([.int p0])).length) Slot.unset).toArray = ls at hl ⊢
  have hl : lv_has ls 1 [(0, .int p0)] := hl
  obtain ⟨RES, hF⟩ : ∃ R9, fX11_offsetOf p0 = R9 := ⟨_, rfl⟩
  have hR9 := hF
  refine lv_iload_n hx hb (dk_at dkX11_offsetOf 0 rfl) rfl (lv_at hl 0 rfl) ?_
  refine lv_bipush (v := 30) hx hb (dk_at dkX11_offsetOf 1 rfl) (by decide) ?_
  refine lv_icmp_ne (tgt := 10) hx hb (dk_at dkX11_offsetOf 2 rfl) (by decide) (fun c_4 => ?_) (fun c_4 => ?_)
  · have hF := gf_neg c_4 hF
    refine lv_iload_n hx hb (dk_at dkX11_offsetOf 5 rfl) rfl (lv_at hl 0 rfl) ?_
    refine lv_iconst (v := 1) hx hb (dk_at dkX11_offsetOf 6 rfl) (by decide) ?_
    refine lv_isub hx hb (dk_at dkX11_offsetOf 7 rfl) ?_
    refine lv_topi (fun x_5 ex_5 => ?_)
    exact W.iret (v := x_5) hx hb hr (fun t ht hW => ⟨⟨x_5, (), rfl, ⟨(gi_any x_5), by first | (rw [ex_5]; exact hF.trans hR9.symm) | ((try rw [ex_5]); exact hF.trans hR9.symm)⟩, trivial⟩, hS.F ht⟩) hS.2.2 (dk_at dkX11_offsetOf 8 rfl)
  · have hF := gf_pos c_4 hF
    have g_6 : gi p0 30 30 := gi_eq c_4 (gi_c 30 30 (by decide))
    refine lv_iconst (v := (-1)) hx hb (dk_at dkX11_offsetOf 3 rfl) (by decide) ?_
    refine lv_goto (tgt := 13) hx hb (dk_at dkX11_offsetOf 4 rfl) (by decide) ?_
    exact W.iret (v := (-1)) hx hb hr (fun t ht hW => ⟨⟨(-1), (), rfl, ⟨(gi_any (-1)), hF.trans hR9.symm⟩, trivial⟩, hS.F ht⟩) hS.2.2 (dk_at dkX11_offsetOf 8 rfl)
noncomputable def lsX11_runWithFull : List (Nat × Instr × Nat) := [(0, .iload_n 0, 1), (1, .ifCond .eq 8, 3), (4, .iload_n 0, 1), (5, .iload_n 1, 1), (6, .if_icmp .le 5, 3), (9, .iconst 1, 1), (10, .ireturn, 1), (11, .iload_n 0, 1), (12, .iload_n 1, 1), (13, .if_icmp .ge 9, 3), (16, .iload_n 0, 1), (17, .iconst 1, 1), (18, .iadd, 1), (19, .goto 4, 3), (22, .iconst 0, 1), (23, .ireturn, 1)]
theorem dkX11_runWithFull : dkAll cX11_runWithFull lsX11_runWithFull = true := dk_fast (by decide +kernel)
noncomputable def bfX11_runWithFull_9 (p0 : Int32) (p1 : Int32) : Int32 := (1 : Int32)
noncomputable def bfX11_runWithFull_23 (p0 : Int32) (p1 : Int32) (s0 : Int32) : Int32 := s0
noncomputable def fX11_runWithFull (p0 : Int32) (p1 : Int32) : Int32 := if p0 = (0 : Int32) then (bfX11_runWithFull_9 p0 p1) else (if p0 ≤ p1 then (if p1 ≤ p0 then (bfX11_runWithFull_23 p0 p1 (0 : Int32)) else (bfX11_runWithFull_23 p0 p1 (p0 + (1 : Int32)))) else (bfX11_runWithFull_9 p0 p1))
set_option maxHeartbeats 4000000 in
set_option maxRecDepth 100000 in
theorem sX11_runWithFull (l : Launch) (dC : Nat → ClassId) (dI : Nat → Nat → Nat) (p0 : Int32) (p1 : Int32) (gp0 : gi p0 0 10) (gp1 : gi p1 0 5) : Met l yX11_runWithFull (.code yX11_runWithFull cX11_runWithFull 2 (some .int) :: wsGA) ({ frames := 0, cells := 0, slots := 0, locals := 0 }) (va_Pc [.int p0, .int p1] (fun U => va_P (dC, dI) vwCl [] U.heap ∧ va_K (dC, dI) vwCl [] U ∧ nzA U)) (va_Qi (fun (r : Int32) (u : Unit) => (gi r 0 5) ∧ r = fX11_runWithFull p0 p1) (fun _ _ => True) (fun _ => False)) 0 0 (fun _ => False) := by
  refine Met.ofW (cc := cX11_runWithFull) (maxL := 2) (ret := (some .int)) (by decide) rfl ?_
  intro p e s m args below meth c s₁ B hml hv
  obtain ⟨rfl, hP, hK, hz⟩ := hv
  have hx := B.exec
  have hb := B.bytes
  have hr := B.returns
  have hts := atoms_spec (ws := (.code yX11_runWithFull cX11_runWithFull 2 (some .int) :: wsGA)) B.pre
  have hown : s.vm.findClass RX11 = some m.cls := findClass_of_methodNamed B.named
  have hlocks := B.notSynchronized
  have hS : va_S (fun _ => False) s.heap s.heap [] := va_S.rf
  have hl := lv_entry ([.int p0, .int p1]) (n := 2) (Nat.le_of_ble_eq_true rfl)
  rw [lg_entry_eq]
  generalize (lg_sl ([.int p0, .int p1]) ++ List.replicate (2 - (lg_sl ([.int p0, .int p1])).length) Slot.unset).toArray = ls at hl ⊢
  have hl : lv_has ls 2 [(0, .int p0), (1, .int p1)] := hl
  obtain ⟨RES, hF⟩ : ∃ R9, fX11_runWithFull p0 p1 = R9 := ⟨_, rfl⟩
  have hR9 := hF
  refine lv_iload_n hx hb (dk_at dkX11_runWithFull 0 rfl) rfl (lv_at hl 0 rfl) ?_
  refine lv_if_eq (tgt := 9) hx hb (dk_at dkX11_runWithFull 1 rfl) (by decide) (fun c_11 => ?_) (fun c_11 => ?_)
  · have hF := gf_pos c_11 hF
    have g_12 : gi p0 0 0 := gi_eq c_11 (gi_c 0 0 (by decide))
    refine lv_iconst (v := 1) hx hb (dk_at dkX11_runWithFull 5 rfl) (by decide) ?_
    exact W.iret (v := 1) hx hb hr (fun t ht hW => ⟨⟨1, (), rfl, ⟨(gi_w (gi_c 1 1 (by decide)) (by decide)), hF.trans hR9.symm⟩, trivial⟩, hS.F ht⟩) hS.2.2 (dk_at dkX11_runWithFull 6 rfl)
  · have hF := gf_neg c_11 hF
    have g_13 : gi p0 1 10 := gi_ne_lo c_11 gp0 (gi_c 0 0 (by decide)) (by decide)
    refine lv_iload_n hx hb (dk_at dkX11_runWithFull 2 rfl) rfl (lv_at hl 0 rfl) ?_
    refine lv_iload_n hx hb (dk_at dkX11_runWithFull 3 rfl) rfl (lv_at hl 1 rfl) ?_
    refine lv_icmp_le (tgt := 11) hx hb (dk_at dkX11_runWithFull 4 rfl) (by decide) (fun c_14 => ?_) (fun c_14 => ?_)
    · have hF := gf_pos c_14 hF
      have g_15 : gi p0 1 5 := gi_le_l c_14 g_13 gp1
      have g_16 : gi p1 1 5 := gi_le_r c_14 g_13 gp1
      refine lv_iload_n hx hb (dk_at dkX11_runWithFull 7 rfl) rfl (lv_at hl 0 rfl) ?_
      refine lv_iload_n hx hb (dk_at dkX11_runWithFull 8 rfl) rfl (lv_at hl 1 rfl) ?_
      refine lv_icmp_ge (tgt := 22) hx hb (dk_at dkX11_runWithFull 9 rfl) (by decide) (fun c_17 => ?_) (fun c_17 => ?_)
      · have hF := gf_pos c_17 hF
        refine lv_iconst (v := 0) hx hb (dk_at dkX11_runWithFull 14 rfl) (by decide) ?_
        exact W.iret (v := 0) hx hb hr (fun t ht hW => ⟨⟨0, (), rfl, ⟨(gi_w (gi_c 0 0 (by decide)) (by decide)), hF.trans hR9.symm⟩, trivial⟩, hS.F ht⟩) hS.2.2 (dk_at dkX11_runWithFull 15 rfl)
      · have hF := gf_neg c_17 hF
        have g_18 : gi p0 1 4 := gi_lt_l (Int32.not_le.mp c_17) g_15 g_16 (by decide)
        have g_19 : gi p1 2 5 := gi_lt_r (Int32.not_le.mp c_17) g_15 g_16 (by decide)
        refine lv_iload_n hx hb (dk_at dkX11_runWithFull 10 rfl) rfl (lv_at hl 0 rfl) ?_
        refine lv_iconst (v := 1) hx hb (dk_at dkX11_runWithFull 11 rfl) (by decide) ?_
        refine lv_iadd hx hb (dk_at dkX11_runWithFull 12 rfl) ?_
        refine lv_topi (fun x_20 ex_20 => ?_)
        have gx_20 : gi x_20 2 5 := gi_add ex_20 g_18 (gi_c 1 1 (by decide)) (by decide)
        refine lv_goto (tgt := 23) hx hb (dk_at dkX11_runWithFull 13 rfl) (by decide) ?_
        exact W.iret (v := x_20) hx hb hr (fun t ht hW => ⟨⟨x_20, (), rfl, ⟨(gi_w gx_20 (by decide)), by first | (rw [ex_20]; exact hF.trans hR9.symm) | ((try rw [ex_20]); exact hF.trans hR9.symm)⟩, trivial⟩, hS.F ht⟩) hS.2.2 (dk_at dkX11_runWithFull 15 rfl)
    · have hF := gf_neg c_14 hF
      refine lv_iconst (v := 1) hx hb (dk_at dkX11_runWithFull 5 rfl) (by decide) ?_
      exact W.iret (v := 1) hx hb hr (fun t ht hW => ⟨⟨1, (), rfl, ⟨(gi_w (gi_c 1 1 (by decide)) (by decide)), hF.trans hR9.symm⟩, trivial⟩, hS.F ht⟩) hS.2.2 (dk_at dkX11_runWithFull 6 rfl)
noncomputable def lsX11_runWithLean : List (Nat × Instr × Nat) := [(0, .iload_n 0, 1), (1, .iload_n 1, 1), (2, .if_icmp .gt 7, 3), (5, .iload_n 1, 1), (6, .iconst 1, 1), (7, .iadd, 1), (8, .ireturn, 1), (9, .iload_n 0, 1), (10, .iload_n 1, 1), (11, .iload_n 2, 1), (12, .iadd, 1), (13, .if_icmp .ge 9, 3), (16, .iload_n 0, 1), (17, .iconst 1, 1), (18, .iadd, 1), (19, .goto 4, 3), (22, .iconst 0, 1), (23, .ireturn, 1)]
theorem dkX11_runWithLean : dkAll cX11_runWithLean lsX11_runWithLean = true := dk_fast (by decide +kernel)
noncomputable def bfX11_runWithLean_23 (p0 : Int32) (p1 : Int32) (p2 : Int32) (s0 : Int32) : Int32 := s0
noncomputable def fX11_runWithLean (p0 : Int32) (p1 : Int32) (p2 : Int32) : Int32 := if p1 < p0 then (if (p1 + p2) ≤ p0 then (bfX11_runWithLean_23 p0 p1 p2 (0 : Int32)) else (bfX11_runWithLean_23 p0 p1 p2 (p0 + (1 : Int32)))) else (p1 + (1 : Int32))
set_option maxHeartbeats 4000000 in
set_option maxRecDepth 100000 in
theorem sX11_runWithLean (l : Launch) (dC : Nat → ClassId) (dI : Nat → Nat → Nat) (p0 : Int32) (p1 : Int32) (p2 : Int32) (gp0 : gi p0 0 10) (gp1 : gi p1 0 5) (gp2 : gi p2 0 5) : Met l yX11_runWithLean (.code yX11_runWithLean cX11_runWithLean 3 (some .int) :: wsGA) ({ frames := 0, cells := 0, slots := 0, locals := 0 }) (va_Pc [.int p0, .int p1, .int p2] (fun U => va_P (dC, dI) vwCl [] U.heap ∧ va_K (dC, dI) vwCl [] U ∧ nzA U)) (va_Qi (fun (r : Int32) (u : Unit) => (gi r 0 10) ∧ r = fX11_runWithLean p0 p1 p2) (fun _ _ => True) (fun _ => False)) 0 0 (fun _ => False) := by
  refine Met.ofW (cc := cX11_runWithLean) (maxL := 3) (ret := (some .int)) (by decide) rfl ?_
  intro p e s m args below meth c s₁ B hml hv
  obtain ⟨rfl, hP, hK, hz⟩ := hv
  have hx := B.exec
  have hb := B.bytes
  have hr := B.returns
  have hts := atoms_spec (ws := (.code yX11_runWithLean cX11_runWithLean 3 (some .int) :: wsGA)) B.pre
  have hown : s.vm.findClass RX11 = some m.cls := findClass_of_methodNamed B.named
  have hlocks := B.notSynchronized
  have hS : va_S (fun _ => False) s.heap s.heap [] := va_S.rf
  have hl := lv_entry ([.int p0, .int p1, .int p2]) (n := 3) (Nat.le_of_ble_eq_true rfl)
  rw [lg_entry_eq]
  generalize (lg_sl ([.int p0, .int p1, .int p2]) ++ List.replicate (3 - (lg_sl ([.int p0, .int p1, .int p2])).length) Slot.unset).toArray = ls at hl ⊢
  have hl : lv_has ls 3 [(0, .int p0), (1, .int p1), (2, .int p2)] := hl
  obtain ⟨RES, hF⟩ : ∃ R9, fX11_runWithLean p0 p1 p2 = R9 := ⟨_, rfl⟩
  have hR9 := hF
  refine lv_iload_n hx hb (dk_at dkX11_runWithLean 0 rfl) rfl (lv_at hl 0 rfl) ?_
  refine lv_iload_n hx hb (dk_at dkX11_runWithLean 1 rfl) rfl (lv_at hl 1 rfl) ?_
  refine lv_icmp_gt (tgt := 9) hx hb (dk_at dkX11_runWithLean 2 rfl) (by decide) (fun c_10 => ?_) (fun c_10 => ?_)
  · have hF := gf_pos c_10 hF
    have g_11 : gi p0 1 10 := gi_lt_r c_10 gp1 gp0 (by decide)
    refine lv_iload_n hx hb (dk_at dkX11_runWithLean 7 rfl) rfl (lv_at hl 0 rfl) ?_
    refine lv_iload_n hx hb (dk_at dkX11_runWithLean 8 rfl) rfl (lv_at hl 1 rfl) ?_
    refine lv_iload_n hx hb (dk_at dkX11_runWithLean 9 rfl) rfl (lv_at hl 2 rfl) ?_
    refine lv_iadd hx hb (dk_at dkX11_runWithLean 10 rfl) ?_
    refine lv_topi (fun x_12 ex_12 => ?_)
    have gx_12 : gi x_12 0 10 := gi_add ex_12 gp1 gp2 (by decide)
    refine lv_icmp_ge (tgt := 22) hx hb (dk_at dkX11_runWithLean 11 rfl) (by decide) (fun c_13 => ?_) (fun c_13 => ?_)
    · have hF := gf_pos (by rw [ex_12] at c_13; exact c_13) hF
      refine lv_iconst (v := 0) hx hb (dk_at dkX11_runWithLean 16 rfl) (by decide) ?_
      exact W.iret (v := 0) hx hb hr (fun t ht hW => ⟨⟨0, (), rfl, ⟨(gi_w (gi_c 0 0 (by decide)) (by decide)), hF.trans hR9.symm⟩, trivial⟩, hS.F ht⟩) hS.2.2 (dk_at dkX11_runWithLean 17 rfl)
    · have hF := gf_neg (by rw [ex_12] at c_13; exact c_13) hF
      have g_14 : gi p0 1 9 := gi_lt_l (Int32.not_le.mp c_13) g_11 gx_12 (by decide)
      have g_15 : gi x_12 2 10 := gi_lt_r (Int32.not_le.mp c_13) g_11 gx_12 (by decide)
      refine lv_iload_n hx hb (dk_at dkX11_runWithLean 12 rfl) rfl (lv_at hl 0 rfl) ?_
      refine lv_iconst (v := 1) hx hb (dk_at dkX11_runWithLean 13 rfl) (by decide) ?_
      refine lv_iadd hx hb (dk_at dkX11_runWithLean 14 rfl) ?_
      refine lv_topi (fun x_16 ex_16 => ?_)
      have gx_16 : gi x_16 2 10 := gi_add ex_16 g_14 (gi_c 1 1 (by decide)) (by decide)
      refine lv_goto (tgt := 23) hx hb (dk_at dkX11_runWithLean 15 rfl) (by decide) ?_
      exact W.iret (v := x_16) hx hb hr (fun t ht hW => ⟨⟨x_16, (), rfl, ⟨(gi_w gx_16 (by decide)), by first | (rw [ex_16]; exact hF.trans hR9.symm) | ((try rw [ex_16]); exact hF.trans hR9.symm)⟩, trivial⟩, hS.F ht⟩) hS.2.2 (dk_at dkX11_runWithLean 17 rfl)
  · have hF := gf_neg c_10 hF
    have g_17 : gi p0 0 5 := gi_le_l (Int32.not_lt.mp c_10) gp0 gp1
    refine lv_iload_n hx hb (dk_at dkX11_runWithLean 3 rfl) rfl (lv_at hl 1 rfl) ?_
    refine lv_iconst (v := 1) hx hb (dk_at dkX11_runWithLean 4 rfl) (by decide) ?_
    refine lv_iadd hx hb (dk_at dkX11_runWithLean 5 rfl) ?_
    refine lv_topi (fun x_18 ex_18 => ?_)
    have gx_18 : gi x_18 1 6 := gi_add ex_18 gp1 (gi_c 1 1 (by decide)) (by decide)
    exact W.iret (v := x_18) hx hb hr (fun t ht hW => ⟨⟨x_18, (), rfl, ⟨(gi_w gx_18 (by decide)), by first | (rw [ex_18]; exact hF.trans hR9.symm) | ((try rw [ex_18]); exact hF.trans hR9.symm)⟩, trivial⟩, hS.F ht⟩) hS.2.2 (dk_at dkX11_runWithLean 6 rfl)
noncomputable def lsX11_firstRun : List (Nat × Instr × Nat) := [(0, .iload_n 0, 1), (1, .ifCond .ne 7, 3), (4, .iconst 0, 1), (5, .goto 4, 3), (8, .iconst 1, 1), (9, .ireturn, 1)]
theorem dkX11_firstRun : dkAll cX11_firstRun lsX11_firstRun = true := dk_fast (by decide +kernel)
noncomputable def bfX11_firstRun_9 (p0 : Int32) (s0 : Int32) : Int32 := s0
noncomputable def fX11_firstRun (p0 : Int32) : Int32 := if p0 = (0 : Int32) then (bfX11_firstRun_9 p0 (0 : Int32)) else (bfX11_firstRun_9 p0 (1 : Int32))
set_option maxHeartbeats 4000000 in
set_option maxRecDepth 100000 in
theorem sX11_firstRun (l : Launch) (dC : Nat → ClassId) (dI : Nat → Nat → Nat) (p0 : Int32) (gp0 : gi p0 0 24) : Met l yX11_firstRun (.code yX11_firstRun cX11_firstRun 1 (some .int) :: wsGA) ({ frames := 0, cells := 0, slots := 0, locals := 0 }) (va_Pc [.int p0] (fun U => va_P (dC, dI) vwCl [] U.heap ∧ va_K (dC, dI) vwCl [] U ∧ nzA U)) (va_Qi (fun (r : Int32) (u : Unit) => (gi r 0 1) ∧ r = fX11_firstRun p0) (fun _ _ => True) (fun _ => False)) 0 0 (fun _ => False) := by
  refine Met.ofW (cc := cX11_firstRun) (maxL := 1) (ret := (some .int)) (by decide) rfl ?_
  intro p e s m args below meth c s₁ B hml hv
  obtain ⟨rfl, hP, hK, hz⟩ := hv
  have hx := B.exec
  have hb := B.bytes
  have hr := B.returns
  have hts := atoms_spec (ws := (.code yX11_firstRun cX11_firstRun 1 (some .int) :: wsGA)) B.pre
  have hown : s.vm.findClass RX11 = some m.cls := findClass_of_methodNamed B.named
  have hlocks := B.notSynchronized
  have hS : va_S (fun _ => False) s.heap s.heap [] := va_S.rf
  have hl := lv_entry ([.int p0]) (n := 1) (Nat.le_of_ble_eq_true rfl)
  rw [lg_entry_eq]
  generalize (lg_sl ([.int p0]) ++ List.replicate (1 - (lg_sl ([.int p0])).length) Slot.unset).toArray = ls at hl ⊢
  have hl : lv_has ls 1 [(0, .int p0)] := hl
  obtain ⟨RES, hF⟩ : ∃ R9, fX11_firstRun p0 = R9 := ⟨_, rfl⟩
  have hR9 := hF
  refine lv_iload_n hx hb (dk_at dkX11_firstRun 0 rfl) rfl (lv_at hl 0 rfl) ?_
  refine lv_if_ne (tgt := 8) hx hb (dk_at dkX11_firstRun 1 rfl) (by decide) (fun c_4 => ?_) (fun c_4 => ?_)
  · have hF := gf_neg c_4 hF
    have g_5 : gi p0 1 24 := gi_ne_lo c_4 gp0 (gi_c 0 0 (by decide)) (by decide)
    refine lv_iconst (v := 1) hx hb (dk_at dkX11_firstRun 4 rfl) (by decide) ?_
    exact W.iret (v := 1) hx hb hr (fun t ht hW => ⟨⟨1, (), rfl, ⟨(gi_w (gi_c 1 1 (by decide)) (by decide)), hF.trans hR9.symm⟩, trivial⟩, hS.F ht⟩) hS.2.2 (dk_at dkX11_firstRun 5 rfl)
  · have hF := gf_pos c_4 hF
    have g_6 : gi p0 0 0 := gi_eq c_4 (gi_c 0 0 (by decide))
    refine lv_iconst (v := 0) hx hb (dk_at dkX11_firstRun 2 rfl) (by decide) ?_
    refine lv_goto (tgt := 9) hx hb (dk_at dkX11_firstRun 3 rfl) (by decide) ?_
    exact W.iret (v := 0) hx hb hr (fun t ht hW => ⟨⟨0, (), rfl, ⟨(gi_w (gi_c 0 0 (by decide)) (by decide)), hF.trans hR9.symm⟩, trivial⟩, hS.F ht⟩) hS.2.2 (dk_at dkX11_firstRun 5 rfl)
noncomputable def lsX11_lastRun : List (Nat × Instr × Nat) := [(0, .iload_n 0, 1), (1, .ifCond .ne 7, 3), (4, .iconst 0, 1), (5, .goto 6, 3), (8, .iload_n 1, 1), (9, .iload_n 2, 1), (10, .iadd, 1), (11, .ireturn, 1)]
theorem dkX11_lastRun : dkAll cX11_lastRun lsX11_lastRun = true := dk_fast (by decide +kernel)
noncomputable def bfX11_lastRun_11 (p0 : Int32) (p1 : Int32) (p2 : Int32) (s0 : Int32) : Int32 := s0
noncomputable def fX11_lastRun (p0 : Int32) (p1 : Int32) (p2 : Int32) : Int32 := if p0 = (0 : Int32) then (bfX11_lastRun_11 p0 p1 p2 (0 : Int32)) else (bfX11_lastRun_11 p0 p1 p2 (p1 + p2))
set_option maxHeartbeats 4000000 in
set_option maxRecDepth 100000 in
theorem sX11_lastRun (l : Launch) (dC : Nat → ClassId) (dI : Nat → Nat → Nat) (p0 : Int32) (p1 : Int32) (p2 : Int32) (gp0 : gi p0 0 24) (gp1 : gi p1 0 5) (gp2 : gi p2 0 5) : Met l yX11_lastRun (.code yX11_lastRun cX11_lastRun 3 (some .int) :: wsGA) ({ frames := 0, cells := 0, slots := 0, locals := 0 }) (va_Pc [.int p0, .int p1, .int p2] (fun U => va_P (dC, dI) vwCl [] U.heap ∧ va_K (dC, dI) vwCl [] U ∧ nzA U)) (va_Qi (fun (r : Int32) (u : Unit) => (gi r 0 10) ∧ r = fX11_lastRun p0 p1 p2) (fun _ _ => True) (fun _ => False)) 0 0 (fun _ => False) := by
  refine Met.ofW (cc := cX11_lastRun) (maxL := 3) (ret := (some .int)) (by decide) rfl ?_
  intro p e s m args below meth c s₁ B hml hv
  obtain ⟨rfl, hP, hK, hz⟩ := hv
  have hx := B.exec
  have hb := B.bytes
  have hr := B.returns
  have hts := atoms_spec (ws := (.code yX11_lastRun cX11_lastRun 3 (some .int) :: wsGA)) B.pre
  have hown : s.vm.findClass RX11 = some m.cls := findClass_of_methodNamed B.named
  have hlocks := B.notSynchronized
  have hS : va_S (fun _ => False) s.heap s.heap [] := va_S.rf
  have hl := lv_entry ([.int p0, .int p1, .int p2]) (n := 3) (Nat.le_of_ble_eq_true rfl)
  rw [lg_entry_eq]
  generalize (lg_sl ([.int p0, .int p1, .int p2]) ++ List.replicate (3 - (lg_sl ([.int p0, .int p1, .int p2])).length) Slot.unset).toArray = ls at hl ⊢
  have hl : lv_has ls 3 [(0, .int p0), (1, .int p1), (2, .int p2)] := hl
  obtain ⟨RES, hF⟩ : ∃ R9, fX11_lastRun p0 p1 p2 = R9 := ⟨_, rfl⟩
  have hR9 := hF
  refine lv_iload_n hx hb (dk_at dkX11_lastRun 0 rfl) rfl (lv_at hl 0 rfl) ?_
  refine lv_if_ne (tgt := 8) hx hb (dk_at dkX11_lastRun 1 rfl) (by decide) (fun c_5 => ?_) (fun c_5 => ?_)
  · have hF := gf_neg c_5 hF
    have g_6 : gi p0 1 24 := gi_ne_lo c_5 gp0 (gi_c 0 0 (by decide)) (by decide)
    refine lv_iload_n hx hb (dk_at dkX11_lastRun 4 rfl) rfl (lv_at hl 1 rfl) ?_
    refine lv_iload_n hx hb (dk_at dkX11_lastRun 5 rfl) rfl (lv_at hl 2 rfl) ?_
    refine lv_iadd hx hb (dk_at dkX11_lastRun 6 rfl) ?_
    refine lv_topi (fun x_7 ex_7 => ?_)
    have gx_7 : gi x_7 0 10 := gi_add ex_7 gp1 gp2 (by decide)
    exact W.iret (v := x_7) hx hb hr (fun t ht hW => ⟨⟨x_7, (), rfl, ⟨gx_7, by first | (rw [ex_7]; exact hF.trans hR9.symm) | ((try rw [ex_7]); exact hF.trans hR9.symm)⟩, trivial⟩, hS.F ht⟩) hS.2.2 (dk_at dkX11_lastRun 7 rfl)
  · have hF := gf_pos c_5 hF
    have g_8 : gi p0 0 0 := gi_eq c_5 (gi_c 0 0 (by decide))
    refine lv_iconst (v := 0) hx hb (dk_at dkX11_lastRun 2 rfl) (by decide) ?_
    refine lv_goto (tgt := 11) hx hb (dk_at dkX11_lastRun 3 rfl) (by decide) ?_
    exact W.iret (v := 0) hx hb hr (fun t ht hW => ⟨⟨0, (), rfl, ⟨(gi_w (gi_c 0 0 (by decide)) (by decide)), hF.trans hR9.symm⟩, trivial⟩, hS.F ht⟩) hS.2.2 (dk_at dkX11_lastRun 7 rfl)
noncomputable def lsX11_cell : List (Nat × Instr × Nat) := [(0, .iload_n 0, 1), (1, .iload_n 0, 1), (2, .iconst 1, 1), (3, .iadd, 1), (4, .imul, 1), (5, .iconst 2, 1), (6, .idiv, 1), (7, .iload_n 1, 1), (8, .iadd, 1), (9, .ireturn, 1)]
theorem dkX11_cell : dkAll cX11_cell lsX11_cell = true := dk_fast (by decide +kernel)
noncomputable def fX11_cell (p0 : Int32) (p1 : Int32) : Int32 := (((p0 * (p0 + (1 : Int32))) / (2 : Int32)) + p1)
set_option maxHeartbeats 4000000 in
set_option maxRecDepth 100000 in
theorem sX11_cell0 (l : Launch) (dC : Nat → ClassId) (dI : Nat → Nat → Nat) (p0 : Int32) (p1 : Int32) (gp0 : gi p0 0 24) (gp1 : gi p1 0 0) : Met l yX11_cell (.code yX11_cell cX11_cell 2 (some .int) :: wsGA) ({ frames := 0, cells := 0, slots := 0, locals := 0 }) (va_Pc [.int p0, .int p1] (fun U => va_P (dC, dI) vwCl [] U.heap ∧ va_K (dC, dI) vwCl [] U ∧ nzA U)) (va_Qi (fun (r : Int32) (u : Unit) => (gi r 0 300) ∧ r = fX11_cell p0 p1) (fun _ _ => True) (fun _ => False)) 0 0 (fun _ => False) := by
  refine Met.ofW (cc := cX11_cell) (maxL := 2) (ret := (some .int)) (by decide) rfl ?_
  intro p e s m args below meth c s₁ B hml hv
  obtain ⟨rfl, hP, hK, hz⟩ := hv
  have hx := B.exec
  have hb := B.bytes
  have hr := B.returns
  have hts := atoms_spec (ws := (.code yX11_cell cX11_cell 2 (some .int) :: wsGA)) B.pre
  have hown : s.vm.findClass RX11 = some m.cls := findClass_of_methodNamed B.named
  have hlocks := B.notSynchronized
  have hS : va_S (fun _ => False) s.heap s.heap [] := va_S.rf
  have hl := lv_entry ([.int p0, .int p1]) (n := 2) (Nat.le_of_ble_eq_true rfl)
  rw [lg_entry_eq]
  generalize (lg_sl ([.int p0, .int p1]) ++ List.replicate (2 - (lg_sl ([.int p0, .int p1])).length) Slot.unset).toArray = ls at hl ⊢
  have hl : lv_has ls 2 [(0, .int p0), (1, .int p1)] := hl
  obtain ⟨RES, hF⟩ : ∃ R9, fX11_cell p0 p1 = R9 := ⟨_, rfl⟩
  have hR9 := hF
  refine lv_iload_n hx hb (dk_at dkX11_cell 0 rfl) rfl (lv_at hl 0 rfl) ?_
  refine lv_iload_n hx hb (dk_at dkX11_cell 1 rfl) rfl (lv_at hl 0 rfl) ?_
  refine lv_iconst (v := 1) hx hb (dk_at dkX11_cell 2 rfl) (by decide) ?_
  refine lv_iadd hx hb (dk_at dkX11_cell 3 rfl) ?_
  refine lv_topi (fun x_5 ex_5 => ?_)
  have gx_5 : gi x_5 1 25 := gi_add ex_5 gp0 (gi_c 1 1 (by decide)) (by decide)
  refine lv_imul hx hb (dk_at dkX11_cell 4 rfl) ?_
  refine lv_topi (fun x_6 ex_6 => ?_)
  have gx_6 : gi x_6 0 600 := gi_mul ex_6 gp0 gx_5 (by decide)
  refine lv_iconst (v := 2) hx hb (dk_at dkX11_cell 5 rfl) (by decide) ?_
  refine lv_idiv hx hb (dk_at dkX11_cell 6 rfl) (by decide) ?_
  refine lv_topi (fun x_7 ex_7 => ?_)
  have gx_7 : gi x_7 0 300 := gi_div ex_7 gx_6 (gi_c 2 2 (by decide)) (by decide)
  refine lv_iload_n hx hb (dk_at dkX11_cell 7 rfl) rfl (lv_at hl 1 rfl) ?_
  refine lv_iadd hx hb (dk_at dkX11_cell 8 rfl) ?_
  refine lv_topi (fun x_8 ex_8 => ?_)
  have gx_8 : gi x_8 0 300 := gi_add ex_8 gx_7 gp1 (by decide)
  exact W.iret (v := x_8) hx hb hr (fun t ht hW => ⟨⟨x_8, (), rfl, ⟨gx_8, by first | (rw [ex_8, ex_7, ex_6, ex_5]; exact hF.trans hR9.symm) | ((try rw [ex_8]); (try rw [ex_7]); (try rw [ex_6]); (try rw [ex_5]); exact hF.trans hR9.symm)⟩, trivial⟩, hS.F ht⟩) hS.2.2 (dk_at dkX11_cell 9 rfl)
set_option maxHeartbeats 4000000 in
set_option maxRecDepth 100000 in
theorem sX11_cell (l : Launch) (dC : Nat → ClassId) (dI : Nat → Nat → Nat) (p0 : Int32) (p1 : Int32) (gp0 : gi p0 0 24) (gp1 : gi p1 0 24) : Met l yX11_cell (.code yX11_cell cX11_cell 2 (some .int) :: wsGA) ({ frames := 0, cells := 0, slots := 0, locals := 0 }) (va_Pc [.int p0, .int p1] (fun U => va_P (dC, dI) vwCl [] U.heap ∧ va_K (dC, dI) vwCl [] U ∧ nzA U)) (va_Qi (fun (r : Int32) (u : Unit) => (gi r 0 324) ∧ r = fX11_cell p0 p1) (fun _ _ => True) (fun _ => False)) 0 0 (fun _ => False) := by
  refine Met.ofW (cc := cX11_cell) (maxL := 2) (ret := (some .int)) (by decide) rfl ?_
  intro p e s m args below meth c s₁ B hml hv
  obtain ⟨rfl, hP, hK, hz⟩ := hv
  have hx := B.exec
  have hb := B.bytes
  have hr := B.returns
  have hts := atoms_spec (ws := (.code yX11_cell cX11_cell 2 (some .int) :: wsGA)) B.pre
  have hown : s.vm.findClass RX11 = some m.cls := findClass_of_methodNamed B.named
  have hlocks := B.notSynchronized
  have hS : va_S (fun _ => False) s.heap s.heap [] := va_S.rf
  have hl := lv_entry ([.int p0, .int p1]) (n := 2) (Nat.le_of_ble_eq_true rfl)
  rw [lg_entry_eq]
  generalize (lg_sl ([.int p0, .int p1]) ++ List.replicate (2 - (lg_sl ([.int p0, .int p1])).length) Slot.unset).toArray = ls at hl ⊢
  have hl : lv_has ls 2 [(0, .int p0), (1, .int p1)] := hl
  obtain ⟨RES, hF⟩ : ∃ R9, fX11_cell p0 p1 = R9 := ⟨_, rfl⟩
  have hR9 := hF
  refine lv_iload_n hx hb (dk_at dkX11_cell 0 rfl) rfl (lv_at hl 0 rfl) ?_
  refine lv_iload_n hx hb (dk_at dkX11_cell 1 rfl) rfl (lv_at hl 0 rfl) ?_
  refine lv_iconst (v := 1) hx hb (dk_at dkX11_cell 2 rfl) (by decide) ?_
  refine lv_iadd hx hb (dk_at dkX11_cell 3 rfl) ?_
  refine lv_topi (fun x_5 ex_5 => ?_)
  have gx_5 : gi x_5 1 25 := gi_add ex_5 gp0 (gi_c 1 1 (by decide)) (by decide)
  refine lv_imul hx hb (dk_at dkX11_cell 4 rfl) ?_
  refine lv_topi (fun x_6 ex_6 => ?_)
  have gx_6 : gi x_6 0 600 := gi_mul ex_6 gp0 gx_5 (by decide)
  refine lv_iconst (v := 2) hx hb (dk_at dkX11_cell 5 rfl) (by decide) ?_
  refine lv_idiv hx hb (dk_at dkX11_cell 6 rfl) (by decide) ?_
  refine lv_topi (fun x_7 ex_7 => ?_)
  have gx_7 : gi x_7 0 300 := gi_div ex_7 gx_6 (gi_c 2 2 (by decide)) (by decide)
  refine lv_iload_n hx hb (dk_at dkX11_cell 7 rfl) rfl (lv_at hl 1 rfl) ?_
  refine lv_iadd hx hb (dk_at dkX11_cell 8 rfl) ?_
  refine lv_topi (fun x_8 ex_8 => ?_)
  have gx_8 : gi x_8 0 324 := gi_add ex_8 gx_7 gp1 (by decide)
  exact W.iret (v := x_8) hx hb hr (fun t ht hW => ⟨⟨x_8, (), rfl, ⟨gx_8, by first | (rw [ex_8, ex_7, ex_6, ex_5]; exact hF.trans hR9.symm) | ((try rw [ex_8]); (try rw [ex_7]); (try rw [ex_6]); (try rw [ex_5]); exact hF.trans hR9.symm)⟩, trivial⟩, hS.F ht⟩) hS.2.2 (dk_at dkX11_cell 9 rfl)
noncomputable def lsX11_spot : List (Nat × Instr × Nat) := [(0, .iload_n 0, 1), (1, .iload_n 1, 1), (2, .invokestatic 425, 3), (5, .bipush 11, 2), (7, .imul, 1), (8, .iload_n 2, 1), (9, .iadd, 1), (10, .ireturn, 1)]
theorem dkX11_spot : dkAll cX11_spot lsX11_spot = true := dk_fast (by decide +kernel)
noncomputable def fX11_spot (p0 : Int32) (p1 : Int32) (p2 : Int32) : Int32 := cal (fun o1 => ((o1 * (11 : Int32)) + p2)) (fX11_cell p0 p1)
set_option maxHeartbeats 4000000 in
set_option maxRecDepth 100000 in
theorem sX11_spot00 (l : Launch) (dC : Nat → ClassId) (dI : Nat → Nat → Nat) (p0 : Int32) (p1 : Int32) (p2 : Int32) (gp0 : gi p0 0 24) (gp1 : gi p1 0 0) (gp2 : gi p2 0 0) : Met l yX11_spot (.code yX11_spot cX11_spot 3 (some .int) :: wsGA) ({ frames := 1, cells := 0, slots := 0, locals := 21 }) (va_Pc [.int p0, .int p1, .int p2] (fun U => va_P (dC, dI) vwCl [] U.heap ∧ va_K (dC, dI) vwCl [] U ∧ nzA U)) (va_Qi (fun (r : Int32) (u : Unit) => (gi r 0 3300) ∧ r = fX11_spot p0 p1 p2) (fun _ _ => True) (fun _ => False)) 0 0 (fun _ => False) := by
  refine Met.ofW (cc := cX11_spot) (maxL := 3) (ret := (some .int)) (by decide) rfl ?_
  intro p e s m args below meth c s₁ B hml hv
  obtain ⟨rfl, hP, hK, hz⟩ := hv
  have hx := B.exec
  have hb := B.bytes
  have hr := B.returns
  have hts := atoms_spec (ws := (.code yX11_spot cX11_spot 3 (some .int) :: wsGA)) B.pre
  have hown : s.vm.findClass RX11 = some m.cls := findClass_of_methodNamed B.named
  have hlocks := B.notSynchronized
  have hS : va_S (fun _ => False) s.heap s.heap [] := va_S.rf
  have hl := lv_entry ([.int p0, .int p1, .int p2]) (n := 3) (Nat.le_of_ble_eq_true rfl)
  rw [lg_entry_eq]
  generalize (lg_sl ([.int p0, .int p1, .int p2]) ++ List.replicate (3 - (lg_sl ([.int p0, .int p1, .int p2])).length) Slot.unset).toArray = ls at hl ⊢
  have hl : lv_has ls 3 [(0, .int p0), (1, .int p1), (2, .int p2)] := hl
  obtain ⟨RES, hF⟩ : ∃ R9, fX11_spot p0 p1 p2 = R9 := ⟨_, rfl⟩
  have hR9 := hF
  refine lv_iload_n hx hb (dk_at dkX11_spot 0 rfl) rfl (lv_at hl 0 rfl) ?_
  refine lv_iload_n hx hb (dk_at dkX11_spot 1 rfl) rfl (lv_at hl 1 rfl) ?_
  refine va_calli (va_runS (As := [.int p0, .int p1]) (rest := []) ⟨hx, hb, hml, hown, hts⟩ (sX11_cell0 l dC dI p0 p1 gp0 gp1) (cwS 2 hts (gz_gS mGA_583 mGA_584 mGA_1 mGA_585 goodGA) rfl rfl rfl hdS_X11_cell_X11_2 ⟨Nat.le_of_ble_eq_true rfl, Nat.le_of_ble_eq_true rfl⟩) ⟨bl_I (bl_a bl_P (bl_a bl_K bl_nz)), fun U hU hW => ⟨rfl, by rw [hU]; exact hP, va_K.moved hW.alike hK, nzA_warm hW hz⟩⟩ rfl rfl hl.1 rfl (lv_room (Nat.le_of_ble_eq_true rfl)) (dk_at dkX11_spot 2 rfl) ⟨Nat.zero_le _, Nat.zero_le _⟩) hS (fun q _ h => h.elim) (fun q h => h.elim) (fun r_4 u t H1 locs ht hvm hw hB hz1 hk1 hS => ?_)
  obtain ⟨hw, hE⟩ := hw
  have hP := gz_keep hP hk1
  have hF := gf_call (a := r_4) hE hF
  generalize H1 = H at hP hS ⊢
  have gr_4 : gi r_4 0 300 := hw
  refine lv_bipush (v := 11) hx hb (dk_at dkX11_spot 3 rfl) (by decide) ?_
  refine lv_imul hx hb (dk_at dkX11_spot 4 rfl) ?_
  refine lv_topi (fun x_5 ex_5 => ?_)
  have gx_5 : gi x_5 0 3300 := gi_mul ex_5 gr_4 (gi_c 11 11 (by decide)) (by decide)
  refine lv_iload_n hx hb (dk_at dkX11_spot 5 rfl) rfl (lv_at hl 2 rfl) ?_
  refine lv_iadd hx hb (dk_at dkX11_spot 6 rfl) ?_
  refine lv_topi (fun x_6 ex_6 => ?_)
  have gx_6 : gi x_6 0 3300 := gi_add ex_6 gx_5 gp2 (by decide)
  exact W.iret (v := x_6) hx hb hr (fun t ht hW => ⟨⟨x_6, (), rfl, ⟨gx_6, by first | (rw [ex_6, ex_5]; exact hF.trans hR9.symm) | ((try rw [ex_6]); (try rw [ex_5]); exact hF.trans hR9.symm)⟩, trivial⟩, hS.F ht⟩) hS.2.2 (dk_at dkX11_spot 7 rfl)
set_option maxHeartbeats 4000000 in
set_option maxRecDepth 100000 in
theorem sX11_spot0 (l : Launch) (dC : Nat → ClassId) (dI : Nat → Nat → Nat) (p0 : Int32) (p1 : Int32) (p2 : Int32) (gp0 : gi p0 0 24) (gp1 : gi p1 0 24) (gp2 : gi p2 0 0) : Met l yX11_spot (.code yX11_spot cX11_spot 3 (some .int) :: wsGA) ({ frames := 1, cells := 0, slots := 0, locals := 21 }) (va_Pc [.int p0, .int p1, .int p2] (fun U => va_P (dC, dI) vwCl [] U.heap ∧ va_K (dC, dI) vwCl [] U ∧ nzA U)) (va_Qi (fun (r : Int32) (u : Unit) => (gi r 0 3564) ∧ r = fX11_spot p0 p1 p2) (fun _ _ => True) (fun _ => False)) 0 0 (fun _ => False) := by
  refine Met.ofW (cc := cX11_spot) (maxL := 3) (ret := (some .int)) (by decide) rfl ?_
  intro p e s m args below meth c s₁ B hml hv
  obtain ⟨rfl, hP, hK, hz⟩ := hv
  have hx := B.exec
  have hb := B.bytes
  have hr := B.returns
  have hts := atoms_spec (ws := (.code yX11_spot cX11_spot 3 (some .int) :: wsGA)) B.pre
  have hown : s.vm.findClass RX11 = some m.cls := findClass_of_methodNamed B.named
  have hlocks := B.notSynchronized
  have hS : va_S (fun _ => False) s.heap s.heap [] := va_S.rf
  have hl := lv_entry ([.int p0, .int p1, .int p2]) (n := 3) (Nat.le_of_ble_eq_true rfl)
  rw [lg_entry_eq]
  generalize (lg_sl ([.int p0, .int p1, .int p2]) ++ List.replicate (3 - (lg_sl ([.int p0, .int p1, .int p2])).length) Slot.unset).toArray = ls at hl ⊢
  have hl : lv_has ls 3 [(0, .int p0), (1, .int p1), (2, .int p2)] := hl
  obtain ⟨RES, hF⟩ : ∃ R9, fX11_spot p0 p1 p2 = R9 := ⟨_, rfl⟩
  have hR9 := hF
  refine lv_iload_n hx hb (dk_at dkX11_spot 0 rfl) rfl (lv_at hl 0 rfl) ?_
  refine lv_iload_n hx hb (dk_at dkX11_spot 1 rfl) rfl (lv_at hl 1 rfl) ?_
  refine va_calli (va_runS (As := [.int p0, .int p1]) (rest := []) ⟨hx, hb, hml, hown, hts⟩ (sX11_cell l dC dI p0 p1 gp0 gp1) (cwS 2 hts (gz_gS mGA_583 mGA_584 mGA_1 mGA_585 goodGA) rfl rfl rfl hdS_X11_cell_X11_2 ⟨Nat.le_of_ble_eq_true rfl, Nat.le_of_ble_eq_true rfl⟩) ⟨bl_I (bl_a bl_P (bl_a bl_K bl_nz)), fun U hU hW => ⟨rfl, by rw [hU]; exact hP, va_K.moved hW.alike hK, nzA_warm hW hz⟩⟩ rfl rfl hl.1 rfl (lv_room (Nat.le_of_ble_eq_true rfl)) (dk_at dkX11_spot 2 rfl) ⟨Nat.zero_le _, Nat.zero_le _⟩) hS (fun q _ h => h.elim) (fun q h => h.elim) (fun r_4 u t H1 locs ht hvm hw hB hz1 hk1 hS => ?_)
  obtain ⟨hw, hE⟩ := hw
  have hP := gz_keep hP hk1
  have hF := gf_call (a := r_4) hE hF
  generalize H1 = H at hP hS ⊢
  have gr_4 : gi r_4 0 324 := hw
  refine lv_bipush (v := 11) hx hb (dk_at dkX11_spot 3 rfl) (by decide) ?_
  refine lv_imul hx hb (dk_at dkX11_spot 4 rfl) ?_
  refine lv_topi (fun x_5 ex_5 => ?_)
  have gx_5 : gi x_5 0 3564 := gi_mul ex_5 gr_4 (gi_c 11 11 (by decide)) (by decide)
  refine lv_iload_n hx hb (dk_at dkX11_spot 5 rfl) rfl (lv_at hl 2 rfl) ?_
  refine lv_iadd hx hb (dk_at dkX11_spot 6 rfl) ?_
  refine lv_topi (fun x_6 ex_6 => ?_)
  have gx_6 : gi x_6 0 3564 := gi_add ex_6 gx_5 gp2 (by decide)
  exact W.iret (v := x_6) hx hb hr (fun t ht hW => ⟨⟨x_6, (), rfl, ⟨gx_6, by first | (rw [ex_6, ex_5]; exact hF.trans hR9.symm) | ((try rw [ex_6]); (try rw [ex_5]); exact hF.trans hR9.symm)⟩, trivial⟩, hS.F ht⟩) hS.2.2 (dk_at dkX11_spot 7 rfl)
set_option maxHeartbeats 4000000 in
set_option maxRecDepth 100000 in
theorem sX11_spot (l : Launch) (dC : Nat → ClassId) (dI : Nat → Nat → Nat) (p0 : Int32) (p1 : Int32) (p2 : Int32) (gp0 : gi p0 0 24) (gp1 : gi p1 0 24) (gp2 : gi p2 0 10) : Met l yX11_spot (.code yX11_spot cX11_spot 3 (some .int) :: wsGA) ({ frames := 1, cells := 0, slots := 0, locals := 21 }) (va_Pc [.int p0, .int p1, .int p2] (fun U => va_P (dC, dI) vwCl [] U.heap ∧ va_K (dC, dI) vwCl [] U ∧ nzA U)) (va_Qi (fun (r : Int32) (u : Unit) => (gi r 0 3574) ∧ r = fX11_spot p0 p1 p2) (fun _ _ => True) (fun _ => False)) 0 0 (fun _ => False) := by
  refine Met.ofW (cc := cX11_spot) (maxL := 3) (ret := (some .int)) (by decide) rfl ?_
  intro p e s m args below meth c s₁ B hml hv
  obtain ⟨rfl, hP, hK, hz⟩ := hv
  have hx := B.exec
  have hb := B.bytes
  have hr := B.returns
  have hts := atoms_spec (ws := (.code yX11_spot cX11_spot 3 (some .int) :: wsGA)) B.pre
  have hown : s.vm.findClass RX11 = some m.cls := findClass_of_methodNamed B.named
  have hlocks := B.notSynchronized
  have hS : va_S (fun _ => False) s.heap s.heap [] := va_S.rf
  have hl := lv_entry ([.int p0, .int p1, .int p2]) (n := 3) (Nat.le_of_ble_eq_true rfl)
  rw [lg_entry_eq]
  generalize (lg_sl ([.int p0, .int p1, .int p2]) ++ List.replicate (3 - (lg_sl ([.int p0, .int p1, .int p2])).length) Slot.unset).toArray = ls at hl ⊢
  have hl : lv_has ls 3 [(0, .int p0), (1, .int p1), (2, .int p2)] := hl
  obtain ⟨RES, hF⟩ : ∃ R9, fX11_spot p0 p1 p2 = R9 := ⟨_, rfl⟩
  have hR9 := hF
  refine lv_iload_n hx hb (dk_at dkX11_spot 0 rfl) rfl (lv_at hl 0 rfl) ?_
  refine lv_iload_n hx hb (dk_at dkX11_spot 1 rfl) rfl (lv_at hl 1 rfl) ?_
  refine va_calli (va_runS (As := [.int p0, .int p1]) (rest := []) ⟨hx, hb, hml, hown, hts⟩ (sX11_cell l dC dI p0 p1 gp0 gp1) (cwS 2 hts (gz_gS mGA_583 mGA_584 mGA_1 mGA_585 goodGA) rfl rfl rfl hdS_X11_cell_X11_2 ⟨Nat.le_of_ble_eq_true rfl, Nat.le_of_ble_eq_true rfl⟩) ⟨bl_I (bl_a bl_P (bl_a bl_K bl_nz)), fun U hU hW => ⟨rfl, by rw [hU]; exact hP, va_K.moved hW.alike hK, nzA_warm hW hz⟩⟩ rfl rfl hl.1 rfl (lv_room (Nat.le_of_ble_eq_true rfl)) (dk_at dkX11_spot 2 rfl) ⟨Nat.zero_le _, Nat.zero_le _⟩) hS (fun q _ h => h.elim) (fun q h => h.elim) (fun r_4 u t H1 locs ht hvm hw hB hz1 hk1 hS => ?_)
  obtain ⟨hw, hE⟩ := hw
  have hP := gz_keep hP hk1
  have hF := gf_call (a := r_4) hE hF
  generalize H1 = H at hP hS ⊢
  have gr_4 : gi r_4 0 324 := hw
  refine lv_bipush (v := 11) hx hb (dk_at dkX11_spot 3 rfl) (by decide) ?_
  refine lv_imul hx hb (dk_at dkX11_spot 4 rfl) ?_
  refine lv_topi (fun x_5 ex_5 => ?_)
  have gx_5 : gi x_5 0 3564 := gi_mul ex_5 gr_4 (gi_c 11 11 (by decide)) (by decide)
  refine lv_iload_n hx hb (dk_at dkX11_spot 5 rfl) rfl (lv_at hl 2 rfl) ?_
  refine lv_iadd hx hb (dk_at dkX11_spot 6 rfl) ?_
  refine lv_topi (fun x_6 ex_6 => ?_)
  have gx_6 : gi x_6 0 3574 := gi_add ex_6 gx_5 gp2 (by decide)
  exact W.iret (v := x_6) hx hb hr (fun t ht hW => ⟨⟨x_6, (), rfl, ⟨gx_6, by first | (rw [ex_6, ex_5]; exact hF.trans hR9.symm) | ((try rw [ex_6]); (try rw [ex_5]); exact hF.trans hR9.symm)⟩, trivial⟩, hS.F ht⟩) hS.2.2 (dk_at dkX11_spot 7 rfl)
noncomputable def lsX11_isEither : List (Nat × Instr × Nat) := [(0, .iload_n 0, 1), (1, .ifCond .eq 8, 3), (4, .iload_n 0, 1), (5, .iconst 1, 1), (6, .if_icmp .ne 7, 3), (9, .iconst 1, 1), (10, .goto 4, 3), (13, .iconst 0, 1), (14, .ireturn, 1)]
theorem dkX11_isEither : dkAll cX11_isEither lsX11_isEither = true := dk_fast (by decide +kernel)
noncomputable def bfX11_isEither_14 (p0 : Int32) (s0 : Int32) : Int32 := s0
noncomputable def bfX11_isEither_9 (p0 : Int32) : Int32 := bfX11_isEither_14 p0 (1 : Int32)
noncomputable def fX11_isEither (p0 : Int32) : Int32 := if p0 = (0 : Int32) then (bfX11_isEither_9 p0) else (if p0 = (1 : Int32) then (bfX11_isEither_9 p0) else (bfX11_isEither_14 p0 (0 : Int32)))
set_option maxHeartbeats 4000000 in
set_option maxRecDepth 100000 in
theorem sX11_isEither (l : Launch) (dC : Nat → ClassId) (dI : Nat → Nat → Nat) (p0 : Int32)  : Met l yX11_isEither (.code yX11_isEither cX11_isEither 1 (some .boolean) :: wsGA) ({ frames := 0, cells := 0, slots := 0, locals := 0 }) (va_Pc [.int p0] (fun U => va_P (dC, dI) vwCl [] U.heap ∧ va_K (dC, dI) vwCl [] U ∧ nzA U)) (va_Qi (fun (r : Int32) (u : Unit) => (gi r 0 1) ∧ r = fX11_isEither p0) (fun _ _ => True) (fun _ => False)) 0 0 (fun _ => False) := by
  refine Met.ofW (cc := cX11_isEither) (maxL := 1) (ret := (some .boolean)) (by decide) rfl ?_
  intro p e s m args below meth c s₁ B hml hv
  obtain ⟨rfl, hP, hK, hz⟩ := hv
  have hx := B.exec
  have hb := B.bytes
  have hr := B.returns
  have hts := atoms_spec (ws := (.code yX11_isEither cX11_isEither 1 (some .boolean) :: wsGA)) B.pre
  have hown : s.vm.findClass RX11 = some m.cls := findClass_of_methodNamed B.named
  have hlocks := B.notSynchronized
  have hS : va_S (fun _ => False) s.heap s.heap [] := va_S.rf
  have hl := lv_entry ([.int p0]) (n := 1) (Nat.le_of_ble_eq_true rfl)
  rw [lg_entry_eq]
  generalize (lg_sl ([.int p0]) ++ List.replicate (1 - (lg_sl ([.int p0])).length) Slot.unset).toArray = ls at hl ⊢
  have hl : lv_has ls 1 [(0, .int p0)] := hl
  obtain ⟨RES, hF⟩ : ∃ R9, fX11_isEither p0 = R9 := ⟨_, rfl⟩
  have hR9 := hF
  refine lv_iload_n hx hb (dk_at dkX11_isEither 0 rfl) rfl (lv_at hl 0 rfl) ?_
  refine lv_if_eq (tgt := 9) hx hb (dk_at dkX11_isEither 1 rfl) (by decide) (fun c_5 => ?_) (fun c_5 => ?_)
  · have hF := gf_pos c_5 hF
    have g_6 : gi p0 0 0 := gi_eq c_5 (gi_c 0 0 (by decide))
    refine lv_iconst (v := 1) hx hb (dk_at dkX11_isEither 5 rfl) (by decide) ?_
    refine lv_goto (tgt := 14) hx hb (dk_at dkX11_isEither 6 rfl) (by decide) ?_
    exact W.zret (v := 1) hx hb hr (by decide) (fun t ht hW => ⟨⟨1, (), rfl, ⟨(gi_w (gi_c 1 1 (by decide)) (by decide)), hF.trans hR9.symm⟩, trivial⟩, hS.F ht⟩) hS.2.2 (dk_at dkX11_isEither 8 rfl)
  · have hF := gf_neg c_5 hF
    refine lv_iload_n hx hb (dk_at dkX11_isEither 2 rfl) rfl (lv_at hl 0 rfl) ?_
    refine lv_iconst (v := 1) hx hb (dk_at dkX11_isEither 3 rfl) (by decide) ?_
    refine lv_icmp_ne (tgt := 13) hx hb (dk_at dkX11_isEither 4 rfl) (by decide) (fun c_7 => ?_) (fun c_7 => ?_)
    · have hF := gf_neg c_7 hF
      refine lv_iconst (v := 0) hx hb (dk_at dkX11_isEither 7 rfl) (by decide) ?_
      exact W.zret (v := 0) hx hb hr (by decide) (fun t ht hW => ⟨⟨0, (), rfl, ⟨(gi_w (gi_c 0 0 (by decide)) (by decide)), hF.trans hR9.symm⟩, trivial⟩, hS.F ht⟩) hS.2.2 (dk_at dkX11_isEither 8 rfl)
    · have hF := gf_pos c_7 hF
      have g_8 : gi p0 1 1 := gi_eq c_7 (gi_c 1 1 (by decide))
      refine lv_iconst (v := 1) hx hb (dk_at dkX11_isEither 5 rfl) (by decide) ?_
      refine lv_goto (tgt := 14) hx hb (dk_at dkX11_isEither 6 rfl) (by decide) ?_
      exact W.zret (v := 1) hx hb hr (by decide) (fun t ht hW => ⟨⟨1, (), rfl, ⟨(gi_w (gi_c 1 1 (by decide)) (by decide)), hF.trans hR9.symm⟩, trivial⟩, hS.F ht⟩) hS.2.2 (dk_at dkX11_isEither 8 rfl)
noncomputable def lsX6_isLetter : List (Nat × Instr × Nat) := [(0, .iload_n 0, 1), (1, .bipush 97, 2), (3, .if_icmp .lt 13, 3), (6, .iload_n 0, 1), (7, .bipush 122, 2), (9, .if_icmp .gt 7, 3), (12, .iconst 1, 1), (13, .goto 4, 3), (16, .iconst 0, 1), (17, .ireturn, 1)]
theorem dkX6_isLetter : dkAll cX6_isLetter lsX6_isLetter = true := dk_fast (by decide +kernel)
noncomputable def bfX6_isLetter_17 (p0 : Int32) (s0 : Int32) : Int32 := s0
noncomputable def bfX6_isLetter_16 (p0 : Int32) : Int32 := bfX6_isLetter_17 p0 (0 : Int32)
noncomputable def fX6_isLetter (p0 : Int32) : Int32 := if p0 < (97 : Int32) then (bfX6_isLetter_16 p0) else (if (122 : Int32) < p0 then (bfX6_isLetter_16 p0) else (bfX6_isLetter_17 p0 (1 : Int32)))
set_option maxHeartbeats 4000000 in
set_option maxRecDepth 100000 in
theorem sX6_isLetter (l : Launch) (dC : Nat → ClassId) (dI : Nat → Nat → Nat) (p0 : Int32)  : Met l yX6_isLetter (.code yX6_isLetter cX6_isLetter 1 (some .boolean) :: wsGA) ({ frames := 0, cells := 0, slots := 0, locals := 0 }) (va_Pc [.int p0] (fun U => va_P (dC, dI) vwCl [] U.heap ∧ va_K (dC, dI) vwCl [] U ∧ nzA U)) (va_Qi (fun (r : Int32) (u : Unit) => (gi r 0 1) ∧ r = fX6_isLetter p0) (fun _ _ => True) (fun _ => False)) 0 0 (fun _ => False) := by
  refine Met.ofW (cc := cX6_isLetter) (maxL := 1) (ret := (some .boolean)) (by decide) rfl ?_
  intro p e s m args below meth c s₁ B hml hv
  obtain ⟨rfl, hP, hK, hz⟩ := hv
  have hx := B.exec
  have hb := B.bytes
  have hr := B.returns
  have hts := atoms_spec (ws := (.code yX6_isLetter cX6_isLetter 1 (some .boolean) :: wsGA)) B.pre
  have hown : s.vm.findClass RX6 = some m.cls := findClass_of_methodNamed B.named
  have hlocks := B.notSynchronized
  have hS : va_S (fun _ => False) s.heap s.heap [] := va_S.rf
  have hl := lv_entry ([.int p0]) (n := 1) (Nat.le_of_ble_eq_true rfl)
  rw [lg_entry_eq]
  generalize (lg_sl ([.int p0]) ++ List.replicate (1 - (lg_sl ([.int p0])).length) Slot.unset).toArray = ls at hl ⊢
  have hl : lv_has ls 1 [(0, .int p0)] := hl
  obtain ⟨RES, hF⟩ : ∃ R9, fX6_isLetter p0 = R9 := ⟨_, rfl⟩
  have hR9 := hF
  refine lv_iload_n hx hb (dk_at dkX6_isLetter 0 rfl) rfl (lv_at hl 0 rfl) ?_
  refine lv_bipush (v := 97) hx hb (dk_at dkX6_isLetter 1 rfl) (by decide) ?_
  refine lv_icmp_lt (tgt := 16) hx hb (dk_at dkX6_isLetter 2 rfl) (by decide) (fun c_7 => ?_) (fun c_7 => ?_)
  · have hF := gf_pos c_7 hF
    have g_8 : gi p0 (-2147483648) 96 := gi_lt_l c_7 (gi_any p0) (gi_c 97 97 (by decide)) (by decide)
    refine lv_iconst (v := 0) hx hb (dk_at dkX6_isLetter 8 rfl) (by decide) ?_
    exact W.zret (v := 0) hx hb hr (by decide) (fun t ht hW => ⟨⟨0, (), rfl, ⟨(gi_w (gi_c 0 0 (by decide)) (by decide)), hF.trans hR9.symm⟩, trivial⟩, hS.F ht⟩) hS.2.2 (dk_at dkX6_isLetter 9 rfl)
  · have hF := gf_neg c_7 hF
    have g_9 : gi p0 97 2147483647 := gi_le_r (Int32.not_lt.mp c_7) (gi_c 97 97 (by decide)) (gi_any p0)
    refine lv_iload_n hx hb (dk_at dkX6_isLetter 3 rfl) rfl (lv_at hl 0 rfl) ?_
    refine lv_bipush (v := 122) hx hb (dk_at dkX6_isLetter 4 rfl) (by decide) ?_
    refine lv_icmp_gt (tgt := 16) hx hb (dk_at dkX6_isLetter 5 rfl) (by decide) (fun c_10 => ?_) (fun c_10 => ?_)
    · have hF := gf_pos c_10 hF
      have g_11 : gi p0 123 2147483647 := gi_lt_r c_10 (gi_c 122 122 (by decide)) g_9 (by decide)
      refine lv_iconst (v := 0) hx hb (dk_at dkX6_isLetter 8 rfl) (by decide) ?_
      exact W.zret (v := 0) hx hb hr (by decide) (fun t ht hW => ⟨⟨0, (), rfl, ⟨(gi_w (gi_c 0 0 (by decide)) (by decide)), hF.trans hR9.symm⟩, trivial⟩, hS.F ht⟩) hS.2.2 (dk_at dkX6_isLetter 9 rfl)
    · have hF := gf_neg c_10 hF
      have g_12 : gi p0 97 122 := gi_le_l (Int32.not_lt.mp c_10) g_9 (gi_c 122 122 (by decide))
      refine lv_iconst (v := 1) hx hb (dk_at dkX6_isLetter 6 rfl) (by decide) ?_
      refine lv_goto (tgt := 17) hx hb (dk_at dkX6_isLetter 7 rfl) (by decide) ?_
      exact W.zret (v := 1) hx hb hr (by decide) (fun t ht hW => ⟨⟨1, (), rfl, ⟨(gi_w (gi_c 1 1 (by decide)) (by decide)), hF.trans hR9.symm⟩, trivial⟩, hS.F ht⟩) hS.2.2 (dk_at dkX6_isLetter 9 rfl)
noncomputable def lsX6_isDigit : List (Nat × Instr × Nat) := [(0, .iload_n 0, 1), (1, .bipush 48, 2), (3, .if_icmp .lt 13, 3), (6, .iload_n 0, 1), (7, .bipush 57, 2), (9, .if_icmp .gt 7, 3), (12, .iconst 1, 1), (13, .goto 4, 3), (16, .iconst 0, 1), (17, .ireturn, 1)]
theorem dkX6_isDigit : dkAll cX6_isDigit lsX6_isDigit = true := dk_fast (by decide +kernel)
noncomputable def bfX6_isDigit_17 (p0 : Int32) (s0 : Int32) : Int32 := s0
noncomputable def bfX6_isDigit_16 (p0 : Int32) : Int32 := bfX6_isDigit_17 p0 (0 : Int32)
noncomputable def fX6_isDigit (p0 : Int32) : Int32 := if p0 < (48 : Int32) then (bfX6_isDigit_16 p0) else (if (57 : Int32) < p0 then (bfX6_isDigit_16 p0) else (bfX6_isDigit_17 p0 (1 : Int32)))
set_option maxHeartbeats 4000000 in
set_option maxRecDepth 100000 in
theorem sX6_isDigit (l : Launch) (dC : Nat → ClassId) (dI : Nat → Nat → Nat) (p0 : Int32)  : Met l yX6_isDigit (.code yX6_isDigit cX6_isDigit 1 (some .boolean) :: wsGA) ({ frames := 0, cells := 0, slots := 0, locals := 0 }) (va_Pc [.int p0] (fun U => va_P (dC, dI) vwCl [] U.heap ∧ va_K (dC, dI) vwCl [] U ∧ nzA U)) (va_Qi (fun (r : Int32) (u : Unit) => (gi r 0 1) ∧ r = fX6_isDigit p0) (fun _ _ => True) (fun _ => False)) 0 0 (fun _ => False) := by
  refine Met.ofW (cc := cX6_isDigit) (maxL := 1) (ret := (some .boolean)) (by decide) rfl ?_
  intro p e s m args below meth c s₁ B hml hv
  obtain ⟨rfl, hP, hK, hz⟩ := hv
  have hx := B.exec
  have hb := B.bytes
  have hr := B.returns
  have hts := atoms_spec (ws := (.code yX6_isDigit cX6_isDigit 1 (some .boolean) :: wsGA)) B.pre
  have hown : s.vm.findClass RX6 = some m.cls := findClass_of_methodNamed B.named
  have hlocks := B.notSynchronized
  have hS : va_S (fun _ => False) s.heap s.heap [] := va_S.rf
  have hl := lv_entry ([.int p0]) (n := 1) (Nat.le_of_ble_eq_true rfl)
  rw [lg_entry_eq]
  generalize (lg_sl ([.int p0]) ++ List.replicate (1 - (lg_sl ([.int p0])).length) Slot.unset).toArray = ls at hl ⊢
  have hl : lv_has ls 1 [(0, .int p0)] := hl
  obtain ⟨RES, hF⟩ : ∃ R9, fX6_isDigit p0 = R9 := ⟨_, rfl⟩
  have hR9 := hF
  refine lv_iload_n hx hb (dk_at dkX6_isDigit 0 rfl) rfl (lv_at hl 0 rfl) ?_
  refine lv_bipush (v := 48) hx hb (dk_at dkX6_isDigit 1 rfl) (by decide) ?_
  refine lv_icmp_lt (tgt := 16) hx hb (dk_at dkX6_isDigit 2 rfl) (by decide) (fun c_7 => ?_) (fun c_7 => ?_)
  · have hF := gf_pos c_7 hF
    have g_8 : gi p0 (-2147483648) 47 := gi_lt_l c_7 (gi_any p0) (gi_c 48 48 (by decide)) (by decide)
    refine lv_iconst (v := 0) hx hb (dk_at dkX6_isDigit 8 rfl) (by decide) ?_
    exact W.zret (v := 0) hx hb hr (by decide) (fun t ht hW => ⟨⟨0, (), rfl, ⟨(gi_w (gi_c 0 0 (by decide)) (by decide)), hF.trans hR9.symm⟩, trivial⟩, hS.F ht⟩) hS.2.2 (dk_at dkX6_isDigit 9 rfl)
  · have hF := gf_neg c_7 hF
    have g_9 : gi p0 48 2147483647 := gi_le_r (Int32.not_lt.mp c_7) (gi_c 48 48 (by decide)) (gi_any p0)
    refine lv_iload_n hx hb (dk_at dkX6_isDigit 3 rfl) rfl (lv_at hl 0 rfl) ?_
    refine lv_bipush (v := 57) hx hb (dk_at dkX6_isDigit 4 rfl) (by decide) ?_
    refine lv_icmp_gt (tgt := 16) hx hb (dk_at dkX6_isDigit 5 rfl) (by decide) (fun c_10 => ?_) (fun c_10 => ?_)
    · have hF := gf_pos c_10 hF
      have g_11 : gi p0 58 2147483647 := gi_lt_r c_10 (gi_c 57 57 (by decide)) g_9 (by decide)
      refine lv_iconst (v := 0) hx hb (dk_at dkX6_isDigit 8 rfl) (by decide) ?_
      exact W.zret (v := 0) hx hb hr (by decide) (fun t ht hW => ⟨⟨0, (), rfl, ⟨(gi_w (gi_c 0 0 (by decide)) (by decide)), hF.trans hR9.symm⟩, trivial⟩, hS.F ht⟩) hS.2.2 (dk_at dkX6_isDigit 9 rfl)
    · have hF := gf_neg c_10 hF
      have g_12 : gi p0 48 57 := gi_le_l (Int32.not_lt.mp c_10) g_9 (gi_c 57 57 (by decide))
      refine lv_iconst (v := 1) hx hb (dk_at dkX6_isDigit 6 rfl) (by decide) ?_
      refine lv_goto (tgt := 17) hx hb (dk_at dkX6_isDigit 7 rfl) (by decide) ?_
      exact W.zret (v := 1) hx hb hr (by decide) (fun t ht hW => ⟨⟨1, (), rfl, ⟨(gi_w (gi_c 1 1 (by decide)) (by decide)), hF.trans hR9.symm⟩, trivial⟩, hS.F ht⟩) hS.2.2 (dk_at dkX6_isDigit 9 rfl)
noncomputable def lsX6_isBlank : List (Nat × Instr × Nat) := [(0, .iload_n 0, 1), (1, .bipush 32, 2), (3, .if_icmp .eq 9, 3), (6, .iload_n 0, 1), (7, .bipush 10, 2), (9, .if_icmp .ne 7, 3), (12, .iconst 1, 1), (13, .goto 4, 3), (16, .iconst 0, 1), (17, .ireturn, 1)]
theorem dkX6_isBlank : dkAll cX6_isBlank lsX6_isBlank = true := dk_fast (by decide +kernel)
noncomputable def bfX6_isBlank_17 (p0 : Int32) (s0 : Int32) : Int32 := s0
noncomputable def bfX6_isBlank_12 (p0 : Int32) : Int32 := bfX6_isBlank_17 p0 (1 : Int32)
noncomputable def fX6_isBlank (p0 : Int32) : Int32 := if p0 = (32 : Int32) then (bfX6_isBlank_12 p0) else (if p0 = (10 : Int32) then (bfX6_isBlank_12 p0) else (bfX6_isBlank_17 p0 (0 : Int32)))
set_option maxHeartbeats 4000000 in
set_option maxRecDepth 100000 in
theorem sX6_isBlank (l : Launch) (dC : Nat → ClassId) (dI : Nat → Nat → Nat) (p0 : Int32)  : Met l yX6_isBlank (.code yX6_isBlank cX6_isBlank 1 (some .boolean) :: wsGA) ({ frames := 0, cells := 0, slots := 0, locals := 0 }) (va_Pc [.int p0] (fun U => va_P (dC, dI) vwCl [] U.heap ∧ va_K (dC, dI) vwCl [] U ∧ nzA U)) (va_Qi (fun (r : Int32) (u : Unit) => (gi r 0 1) ∧ r = fX6_isBlank p0) (fun _ _ => True) (fun _ => False)) 0 0 (fun _ => False) := by
  refine Met.ofW (cc := cX6_isBlank) (maxL := 1) (ret := (some .boolean)) (by decide) rfl ?_
  intro p e s m args below meth c s₁ B hml hv
  obtain ⟨rfl, hP, hK, hz⟩ := hv
  have hx := B.exec
  have hb := B.bytes
  have hr := B.returns
  have hts := atoms_spec (ws := (.code yX6_isBlank cX6_isBlank 1 (some .boolean) :: wsGA)) B.pre
  have hown : s.vm.findClass RX6 = some m.cls := findClass_of_methodNamed B.named
  have hlocks := B.notSynchronized
  have hS : va_S (fun _ => False) s.heap s.heap [] := va_S.rf
  have hl := lv_entry ([.int p0]) (n := 1) (Nat.le_of_ble_eq_true rfl)
  rw [lg_entry_eq]
  generalize (lg_sl ([.int p0]) ++ List.replicate (1 - (lg_sl ([.int p0])).length) Slot.unset).toArray = ls at hl ⊢
  have hl : lv_has ls 1 [(0, .int p0)] := hl
  obtain ⟨RES, hF⟩ : ∃ R9, fX6_isBlank p0 = R9 := ⟨_, rfl⟩
  have hR9 := hF
  refine lv_iload_n hx hb (dk_at dkX6_isBlank 0 rfl) rfl (lv_at hl 0 rfl) ?_
  refine lv_bipush (v := 32) hx hb (dk_at dkX6_isBlank 1 rfl) (by decide) ?_
  refine lv_icmp_eq (tgt := 12) hx hb (dk_at dkX6_isBlank 2 rfl) (by decide) (fun c_5 => ?_) (fun c_5 => ?_)
  · have hF := gf_pos c_5 hF
    have g_6 : gi p0 32 32 := gi_eq c_5 (gi_c 32 32 (by decide))
    refine lv_iconst (v := 1) hx hb (dk_at dkX6_isBlank 6 rfl) (by decide) ?_
    refine lv_goto (tgt := 17) hx hb (dk_at dkX6_isBlank 7 rfl) (by decide) ?_
    exact W.zret (v := 1) hx hb hr (by decide) (fun t ht hW => ⟨⟨1, (), rfl, ⟨(gi_w (gi_c 1 1 (by decide)) (by decide)), hF.trans hR9.symm⟩, trivial⟩, hS.F ht⟩) hS.2.2 (dk_at dkX6_isBlank 9 rfl)
  · have hF := gf_neg c_5 hF
    refine lv_iload_n hx hb (dk_at dkX6_isBlank 3 rfl) rfl (lv_at hl 0 rfl) ?_
    refine lv_bipush (v := 10) hx hb (dk_at dkX6_isBlank 4 rfl) (by decide) ?_
    refine lv_icmp_ne (tgt := 16) hx hb (dk_at dkX6_isBlank 5 rfl) (by decide) (fun c_7 => ?_) (fun c_7 => ?_)
    · have hF := gf_neg c_7 hF
      refine lv_iconst (v := 0) hx hb (dk_at dkX6_isBlank 8 rfl) (by decide) ?_
      exact W.zret (v := 0) hx hb hr (by decide) (fun t ht hW => ⟨⟨0, (), rfl, ⟨(gi_w (gi_c 0 0 (by decide)) (by decide)), hF.trans hR9.symm⟩, trivial⟩, hS.F ht⟩) hS.2.2 (dk_at dkX6_isBlank 9 rfl)
    · have hF := gf_pos c_7 hF
      have g_8 : gi p0 10 10 := gi_eq c_7 (gi_c 10 10 (by decide))
      refine lv_iconst (v := 1) hx hb (dk_at dkX6_isBlank 6 rfl) (by decide) ?_
      refine lv_goto (tgt := 17) hx hb (dk_at dkX6_isBlank 7 rfl) (by decide) ?_
      exact W.zret (v := 1) hx hb hr (by decide) (fun t ht hW => ⟨⟨1, (), rfl, ⟨(gi_w (gi_c 1 1 (by decide)) (by decide)), hF.trans hR9.symm⟩, trivial⟩, hS.F ht⟩) hS.2.2 (dk_at dkX6_isBlank 9 rfl)
noncomputable def lsX3_allows : List (Nat × Instr × Nat) := [(0, .aload_n 0, 1), (1, .getfield 9, 3), (4, .iload_n 1, 1), (5, .iaload, 1), (6, .iload_n 2, 1), (7, .ishr, 1), (8, .iconst 1, 1), (9, .iand, 1), (10, .ifCond .eq 7, 3), (13, .iconst 1, 1), (14, .goto 4, 3), (17, .iconst 0, 1), (18, .ireturn, 1)]
theorem dkX3_allows : dkAll cX3_allows lsX3_allows = true := dk_fast (by decide +kernel)
noncomputable def bfX3_allows_18 (fal : Nat → Int32) (p0 : Int32) (p1 : Int32) (s0 : Int32) : Int32 := s0
noncomputable def fX3_allows (fal : Nat → Int32) (p0 : Int32) (p1 : Int32) : Int32 := if (((fal p0.toNatClampNeg) >>> (p1 &&& 31)) &&& (1 : Int32)) = (0 : Int32) then (bfX3_allows_18 fal p0 p1 (0 : Int32)) else (bfX3_allows_18 fal p0 p1 (1 : Int32))
set_option maxHeartbeats 4000000 in
set_option maxRecDepth 100000 in
theorem sX3_allows (l : Launch) (dC : Nat → ClassId) (dI : Nat → Nat → Nat) (h0 : Nat) (al : Nat) (months : Int32) (full : Int32) (lean : Int32) (on : Nat) (kal : ClassId) (fal : Nat → Int32) (p0 : Int32) (p1 : Int32) (gmonths : gi months 0 24) (gfull : gi full 0 5) (glean : gi lean 0 5) (gp0 : gi p0 0 24) : Met l yX3_allows (.code yX3_allows cX3_allows 3 (some .boolean) :: wsGA) ({ frames := 0, cells := 0, slots := 0, locals := 0 }) (va_Pc [.ref h0, .int p0, .int p1] (fun U => va_P (dC, dI) vwCl [(h0, .inr (3, [.int months, .int full, .int lean, .ref al, .ref on])), (al, .inl (kal, 25, .inl fal))] U.heap ∧ va_K (dC, dI) vwCl [(kal, .int)] U ∧ nzA U)) (va_Qi (fun (r : Int32) (u : Unit) => (gi r 0 1) ∧ r = fX3_allows fal p0 p1) (fun _ _ => True) (fun _ => False)) 0 0 (fun _ => False) := by
  refine Met.ofW (cc := cX3_allows) (maxL := 3) (ret := (some .boolean)) (by decide) rfl ?_
  intro p e s m args below meth c s₁ B hml hv
  obtain ⟨rfl, hP, hK, hz⟩ := hv
  have hx := B.exec
  have hb := B.bytes
  have hr := B.returns
  have hts := atoms_spec (ws := (.code yX3_allows cX3_allows 3 (some .boolean) :: wsGA)) B.pre
  have hown : s.vm.findClass RX3 = some m.cls := findClass_of_methodNamed B.named
  have hlocks := B.notSynchronized
  have hS : va_S (fun _ => False) s.heap s.heap [] := va_S.rf
  have hl := lv_entry ([.ref h0, .int p0, .int p1]) (n := 3) (Nat.le_of_ble_eq_true rfl)
  rw [lg_entry_eq]
  generalize (lg_sl ([.ref h0, .int p0, .int p1]) ++ List.replicate (3 - (lg_sl ([.ref h0, .int p0, .int p1])).length) Slot.unset).toArray = ls at hl ⊢
  have hl : lv_has ls 3 [(0, .ref h0), (1, .int p0), (2, .int p1)] := hl
  obtain ⟨RES, hF⟩ : ∃ R9, fX3_allows fal p0 p1 = R9 := ⟨_, rfl⟩
  have hR9 := hF
  refine lv_aload_n hx hb (dk_at dkX3_allows 0 rfl) rfl (lv_at hl 0 rfl) ?_
  refine va_get (D := (dC, dI)) (ci := 3) (v := .ref al) (C := RX3) (T := TX3) (N := 5) hx hb hts (fun w h => List.mem_cons_of_mem _ (jnGA_X3 w h)) hown hK hP 0 rfl rfl 3 (by decide) (hts _ (List.mem_cons_of_mem _ mGA_94)) (fun _ h9 => h9) rfl (dk_at dkX3_allows 1 rfl) ?_
  refine lv_iload_n hx hb (dk_at dkX3_allows 2 rfl) rfl (lv_at hl 1 rfl) ?_
  refine va_iald hx hb hK hP 1 0 rfl rfl (gi_in gp0 (by decide)) (dk_at dkX3_allows 3 rfl) ?_
  refine lv_topi (fun x_7 ex_7 => ?_)
  refine lv_iload_n hx hb (dk_at dkX3_allows 4 rfl) rfl (lv_at hl 2 rfl) ?_
  refine lv_ishr hx hb (dk_at dkX3_allows 5 rfl) ?_
  refine lv_topi (fun x_8 ex_8 => ?_)
  refine lv_iconst (v := 1) hx hb (dk_at dkX3_allows 6 rfl) (by decide) ?_
  refine lv_iand hx hb (dk_at dkX3_allows 7 rfl) ?_
  refine lv_topi (fun x_9 ex_9 => ?_)
  have gx_9 : gi x_9 0 1 := gi_and1 ex_9
  refine lv_if_eq (tgt := 17) hx hb (dk_at dkX3_allows 8 rfl) (by decide) (fun c_10 => ?_) (fun c_10 => ?_)
  · have hF := gf_pos (by rw [ex_9, ex_8, ex_7] at c_10; exact c_10) hF
    have g_11 : gi x_9 0 0 := gi_eq c_10 (gi_c 0 0 (by decide))
    refine lv_iconst (v := 0) hx hb (dk_at dkX3_allows 11 rfl) (by decide) ?_
    exact W.zret (v := 0) hx hb hr (by decide) (fun t ht hW => ⟨⟨0, (), rfl, ⟨(gi_w (gi_c 0 0 (by decide)) (by decide)), hF.trans hR9.symm⟩, trivial⟩, hS.F ht⟩) hS.2.2 (dk_at dkX3_allows 12 rfl)
  · have hF := gf_neg (by rw [ex_9, ex_8, ex_7] at c_10; exact c_10) hF
    have g_12 : gi x_9 1 1 := gi_ne_lo c_10 gx_9 (gi_c 0 0 (by decide)) (by decide)
    refine lv_iconst (v := 1) hx hb (dk_at dkX3_allows 9 rfl) (by decide) ?_
    refine lv_goto (tgt := 18) hx hb (dk_at dkX3_allows 10 rfl) (by decide) ?_
    exact W.zret (v := 1) hx hb hr (by decide) (fun t ht hW => ⟨⟨1, (), rfl, ⟨(gi_w (gi_c 1 1 (by decide)) (by decide)), hF.trans hR9.symm⟩, trivial⟩, hS.F ht⟩) hS.2.2 (dk_at dkX3_allows 12 rfl)
noncomputable def lsX3_fits : List (Nat × Instr × Nat) := [(0, .iconst 1, 1), (1, .istore_n 1, 1), (2, .iload_n 1, 1), (3, .aload_n 0, 1), (4, .getfield 28, 3), (7, .aload_n 0, 1), (8, .getfield 32, 3), (11, .iadd, 1), (12, .if_icmp .gt 32, 3), (15, .aload_n 0, 1), (16, .getfield 15, 3), (19, .aload_n 0, 1), (20, .getfield 24, 3), (23, .bipush 11, 2), (25, .imul, 1), (26, .iload_n 1, 1), (27, .iadd, 1), (28, .aload_n 0, 1), (29, .getfield 9, 3), (32, .aload_n 0, 1), (33, .getfield 24, 3), (36, .iaload, 1), (37, .iastore, 1), (38, .iinc 1 1, 3), (41, .goto (-39), 3), (44, .aload_n 0, 1), (45, .getfield 24, 3), (48, .iconst 1, 1), (49, .isub, 1), (50, .istore_n 1, 1), (51, .iload_n 1, 1), (52, .ifCond .lt 106, 3), (55, .iload_n 1, 1), (56, .iconst 1, 1), (57, .iadd, 1), (58, .bipush 11, 2), (60, .imul, 1), (61, .istore_n 2, 1), (62, .iload_n 1, 1), (63, .invokestatic 48, 3), (66, .istore_n 3, 1), (67, .iload_n 3, 1), (68, .iload_n 1, 1), (69, .aload_n 0, 1), (70, .getfield 28, 3), (73, .aload_n 0, 1), (74, .getfield 32, 3), (77, .invokestatic 52, 3), (80, .if_icmp .gt 72, 3), (83, .aload_n 0, 1), (84, .getfield 15, 3), (87, .iload_n 2, 1), (88, .iload_n 3, 1), (89, .aload_n 0, 1), (90, .getfield 28, 3), (93, .invokestatic 56, 3), (96, .iadd, 1), (97, .iaload, 1), (98, .iconst 1, 1), (99, .ishr, 1), (100, .istore 4, 2), (102, .aload_n 0, 1), (103, .getfield 15, 3), (106, .iload_n 2, 1), (107, .iload_n 3, 1), (108, .aload_n 0, 1), (109, .getfield 28, 3), (112, .aload_n 0, 1), (113, .getfield 32, 3), (116, .invokestatic 60, 3), (119, .iadd, 1), (120, .iaload, 1), (121, .istore 5, 2), (123, .aload_n 0, 1), (124, .getfield 15, 3), (127, .iload_n 1, 1), (128, .bipush 11, 2), (130, .imul, 1), (131, .iload_n 3, 1), (132, .iadd, 1), (133, .aload_n 0, 1), (134, .getfield 9, 3), (137, .iload_n 1, 1), (138, .iaload, 1), (139, .iload 4, 2), (141, .iload 5, 2), (143, .ior, 1), (144, .iand, 1), (145, .iastore, 1), (146, .iinc 3 1, 3), (149, .goto (-82), 3), (152, .iinc 1 (-1), 3), (155, .goto (-104), 3), (158, .aload_n 0, 1), (159, .getfield 15, 3), (162, .iconst 0, 1), (163, .iaload, 1), (164, .iconst 1, 1), (165, .iand, 1), (166, .ifCond .eq 7, 3), (169, .iconst 1, 1), (170, .goto 4, 3), (173, .iconst 0, 1), (174, .ireturn, 1)]
theorem dkX3_fits : dkAll cX3_fits lsX3_fits = true := dk_fast (by decide +kernel)
noncomputable def bfX3_fits_174 (months : Int32) (full : Int32) (lean : Int32) (fal : Nat → Int32) (fon : Nat → Int32) (K : (Int32 → (Nat → Int32) → (Int32 × (Nat → Int32))) × (Int32 → (Nat → Int32) → (Int32 × (Nat → Int32))) × (Int32 → Int32 → Int32 → (Nat → Int32) → (Int32 × (Nat → Int32)))) (s0 : Int32) (z2 : Nat → Int32) : Int32 × (Nat → Int32) := (s0, z2)
noncomputable def dfX3_fits_2 (months : Int32) (full : Int32) (lean : Int32) (fal : Nat → Int32) (fon : Nat → Int32) (K : (Int32 → (Nat → Int32) → (Int32 × (Nat → Int32))) × (Int32 → (Nat → Int32) → (Int32 × (Nat → Int32))) × (Int32 → Int32 → Int32 → (Nat → Int32) → (Int32 × (Nat → Int32)))) (v1 : Int32) (z2 : Nat → Int32) : Int32 × (Nat → Int32) := if (full + lean) < v1 then (K.2.1 (months - (1 : Int32)) z2) else (K.1 (v1 + (1 : Int32)) (upd z2 ((months * (11 : Int32)) + v1).toNatClampNeg (fal months.toNatClampNeg)))
noncomputable def dfX3_fits_51 (months : Int32) (full : Int32) (lean : Int32) (fal : Nat → Int32) (fon : Nat → Int32) (K : (Int32 → (Nat → Int32) → (Int32 × (Nat → Int32))) × (Int32 → (Nat → Int32) → (Int32 × (Nat → Int32))) × (Int32 → Int32 → Int32 → (Nat → Int32) → (Int32 × (Nat → Int32)))) (v1 : Int32) (z2 : Nat → Int32) : Int32 × (Nat → Int32) := if v1 < (0 : Int32) then (if ((z2 (0 : Int32).toNatClampNeg) &&& (1 : Int32)) = (0 : Int32) then (bfX3_fits_174 months full lean fal fon K (0 : Int32) z2) else (bfX3_fits_174 months full lean fal fon K (1 : Int32) z2)) else (cal (fun o1 => K.2.2 v1 ((v1 + (1 : Int32)) * (11 : Int32)) o1 z2) (fX11_firstRun v1))
noncomputable def dfX3_fits_67 (months : Int32) (full : Int32) (lean : Int32) (fal : Nat → Int32) (fon : Nat → Int32) (K : (Int32 → (Nat → Int32) → (Int32 × (Nat → Int32))) × (Int32 → (Nat → Int32) → (Int32 × (Nat → Int32))) × (Int32 → Int32 → Int32 → (Nat → Int32) → (Int32 × (Nat → Int32)))) (v1 : Int32) (v2 : Int32) (v3 : Int32) (z2 : Nat → Int32) : Int32 × (Nat → Int32) := cal (fun o2 => if o2 < v3 then (K.2.1 (v1 + (-1 : Int32)) z2) else (cal (fun o3 => cal (fun o4 => K.2.2 v1 v2 (v3 + (1 : Int32)) (upd z2 ((v1 * (11 : Int32)) + v3).toNatClampNeg ((fal v1.toNatClampNeg) &&& (((z2 (v2 + o3).toNatClampNeg) >>> ((1 : Int32) &&& 31)) ||| (z2 (v2 + o4).toNatClampNeg))))) (fX11_runWithLean v3 full lean)) (fX11_runWithFull v3 full))) (fX11_lastRun v1 full lean)
noncomputable def lfX3_fits (months : Int32) (full : Int32) (lean : Int32) (fal : Nat → Int32) (fon : Nat → Int32) (z : Nat) : (Int32 → (Nat → Int32) → (Int32 × (Nat → Int32))) × (Int32 → (Nat → Int32) → (Int32 × (Nat → Int32))) × (Int32 → Int32 → Int32 → (Nat → Int32) → (Int32 × (Nat → Int32))) := Nat.rec (motive := fun _ => (Int32 → (Nat → Int32) → (Int32 × (Nat → Int32))) × (Int32 → (Nat → Int32) → (Int32 × (Nat → Int32))) × (Int32 → Int32 → Int32 → (Nat → Int32) → (Int32 × (Nat → Int32)))) ((fun _ z2 => (0, z2), fun _ z2 => (0, z2), fun _ _ _ z2 => (0, z2))) (fun _ K => (dfX3_fits_2 months full lean fal fon K, dfX3_fits_51 months full lean fal fon K, dfX3_fits_67 months full lean fal fon K)) z
noncomputable def fX3_fits (months : Int32) (full : Int32) (lean : Int32) (fal : Nat → Int32) (fon : Nat → Int32) : Int32 × (Nat → Int32) := (lfX3_fits months full lean fal fon 1000000000).1 (1 : Int32) fon
set_option maxHeartbeats 4000000 in
set_option maxRecDepth 100000 in
theorem lp_sX3_fits {p : Program} {l : Launch} {e : Env} {R : Room} {s : State} {m : MethodId} {args : Array Value} {below : List Frame} {meth : Method} {c : Code} {Q : State → Prop} {A : Nat → Prop} {cells slots : Nat} {dC : Nat → ClassId} {dI : Nat → Nat → Nat} {RES : Int32 × (Nat → Int32)} (h0 : Nat) (al : Nat) (on : Nat) (months : Int32) (full : Int32) (lean : Int32) (kal : ClassId) (fal : Nat → Int32) (kon : ClassId) (fon : Nat → Int32) (gmonths : gi months 0 24) (gfull : gi full 0 5) (glean : gi lean 0 5) (hx : p.tables.exec = Jvm.exec) (hb : c.code = cX3_fits) (hml : c.maxLocals = 6) (hown : s.vm.findClass RX3 = some m.cls) (hts : ∀ w ∈ ((.code yX3_fits cX3_fits 6 (some .boolean) :: wsGA) : List Cond), w.before args s = true) (hK : va_K (dC, dI) vwCl [(kal, .int), (kon, .int)] s) (hz : nzA s) (hA : ∀ q : Nat, s.heap.size ≤ q → A q) (hRf : 1 ≤ R.frames) (hRl : 22 ≤ R.locals) (hRc : cells ≤ R.cells) (hRs : slots ≤ R.slots) (kr174 : ∀ (v : Int32) (z2 : Nat → Int32) (H : Heap) (locs : List Loc) (ls : Array Slot), gi v 0 1 → (v, z2) = RES → va_P (dC, dI) vwCl [(h0, .inr (3, [.int months, .int full, .int lean, .ref al, .ref on])), (al, .inl (kal, 25, .inl fal)), (on, .inl (kon, 275, .inl z2))] H → va_D A [(h0, .inr (3, [.int months, .int full, .int lean, .ref al, .ref on])), (al, .inl (kal, 25, .inl fal)), (on, .inl (kon, 275, .inl z2))] → va_S A s.heap H locs → lv_has ls 6 [] → W p l e R s m args below meth c H locs cells slots Q (F0 m 174 ls [.int v])) : ∀ z : Nat, (∀ (v1 : Int32) (z2 : Nat → Int32) (H : Heap) (locs : List Loc) (ls : Array Slot), gi v1 1 11 → (lfX3_fits months full lean fal fon z).1 v1 z2 = RES → 751 + (-2) * v1.toInt < (z : Int) → va_P (dC, dI) vwCl [(h0, .inr (3, [.int months, .int full, .int lean, .ref al, .ref on])), (al, .inl (kal, 25, .inl fal)), (on, .inl (kon, 275, .inl z2))] H → va_D A [(h0, .inr (3, [.int months, .int full, .int lean, .ref al, .ref on])), (al, .inl (kal, 25, .inl fal)), (on, .inl (kon, 275, .inl z2))] → va_S A s.heap H locs → lv_has ls 6 [(0, .ref h0), (1, .int v1)] → W p l e R s m args below meth c H locs cells slots Q (F0 m 2 ls [])) ∧ (∀ (v1 : Int32) (z2 : Nat → Int32) (H : Heap) (locs : List Loc) (ls : Array Slot), gi v1 (-1) 23 → (lfX3_fits months full lean fal fon z).2.1 v1 z2 = RES → 29 + 28 * v1.toInt < (z : Int) → va_P (dC, dI) vwCl [(h0, .inr (3, [.int months, .int full, .int lean, .ref al, .ref on])), (al, .inl (kal, 25, .inl fal)), (on, .inl (kon, 275, .inl z2))] H → va_D A [(h0, .inr (3, [.int months, .int full, .int lean, .ref al, .ref on])), (al, .inl (kal, 25, .inl fal)), (on, .inl (kon, 275, .inl z2))] → va_S A s.heap H locs → lv_has ls 6 [(0, .ref h0), (1, .int v1)] → W p l e R s m args below meth c H locs cells slots Q (F0 m 51 ls [])) ∧ (∀ (v1 : Int32) (v2 : Int32) (v3 : Int32) (z2 : Nat → Int32) (H : Heap) (locs : List Loc) (ls : Array Slot), gi v1 0 23 → gi v2 11 264 → gi v3 0 11 → (lfX3_fits months full lean fal fon z).2.2 v1 v2 v3 z2 = RES → 24 + 28 * v1.toInt + (-2) * v3.toInt < (z : Int) → va_P (dC, dI) vwCl [(h0, .inr (3, [.int months, .int full, .int lean, .ref al, .ref on])), (al, .inl (kal, 25, .inl fal)), (on, .inl (kon, 275, .inl z2))] H → va_D A [(h0, .inr (3, [.int months, .int full, .int lean, .ref al, .ref on])), (al, .inl (kal, 25, .inl fal)), (on, .inl (kon, 275, .inl z2))] → va_S A s.heap H locs → lv_has ls 6 [(0, .ref h0), (1, .int v1), (2, .int v2), (3, .int v3)] → W p l e R s m args below meth c H locs cells slots Q (F0 m 67 ls [])) := by
  intro z
  induction z with
  | zero =>
    refine ⟨?_, ?_, ?_⟩
    · intro v1 z2 H locs ls gv1 hF hmu hP hD hS hl
      exact absurd hmu (by have hv11 := gv1.1; have hv12 := gv1.2; omega)
    · intro v1 z2 H locs ls gv1 hF hmu hP hD hS hl
      exact absurd hmu (by have hv11 := gv1.1; have hv12 := gv1.2; omega)
    · intro v1 v2 v3 z2 H locs ls gv1 gv2 gv3 hF hmu hP hD hS hl
      exact absurd hmu (by have hv11 := gv1.1; have hv12 := gv1.2; have hv31 := gv3.1; have hv32 := gv3.2; omega)
  | succ z ih =>
    refine ⟨?_, ?_, ?_⟩
    · intro v1 z2 H locs ls gv1 hF hmu hP hD hS hl
      have hF : dfX3_fits_2 months full lean fal fon (lfX3_fits months full lean fal fon z) v1 z2 = RES := hF
      refine lv_iload_n hx hb (dk_at dkX3_fits 2 rfl) rfl (lv_at hl 1 rfl) ?_
      refine lv_aload_n hx hb (dk_at dkX3_fits 3 rfl) rfl (lv_at hl 0 rfl) ?_
      refine va_get (D := (dC, dI)) (ci := 3) (v := .int full) (C := RX3) (T := TX3) (N := 5) hx hb hts (fun w h => List.mem_cons_of_mem _ (jnGA_X3 w h)) hown hK hP 0 rfl rfl 1 (by decide) (hts _ (List.mem_cons_of_mem _ mGA_479)) (fun _ h9 => h9) rfl (dk_at dkX3_fits 4 rfl) ?_
      refine lv_aload_n hx hb (dk_at dkX3_fits 5 rfl) rfl (lv_at hl 0 rfl) ?_
      refine va_get (D := (dC, dI)) (ci := 3) (v := .int lean) (C := RX3) (T := TX3) (N := 5) hx hb hts (fun w h => List.mem_cons_of_mem _ (jnGA_X3 w h)) hown hK hP 0 rfl rfl 2 (by decide) (hts _ (List.mem_cons_of_mem _ mGA_481)) (fun _ h9 => h9) rfl (dk_at dkX3_fits 6 rfl) ?_
      refine lv_iadd hx hb (dk_at dkX3_fits 7 rfl) ?_
      refine lv_topi (fun x_401 ex_401 => ?_)
      have gx_401 : gi x_401 0 10 := gi_add ex_401 gfull glean (by decide)
      refine lv_icmp_gt (tgt := 44) hx hb (dk_at dkX3_fits 8 rfl) (by decide) (fun c_402 => ?_) (fun c_402 => ?_)
      · have hF := gf_pos (by rw [ex_401] at c_402; exact c_402) hF
        refine lv_aload_n hx hb (dk_at dkX3_fits 25 rfl) rfl (lv_at hl 0 rfl) ?_
        refine va_get (D := (dC, dI)) (ci := 3) (v := .int months) (C := RX3) (T := TX3) (N := 5) hx hb hts (fun w h => List.mem_cons_of_mem _ (jnGA_X3 w h)) hown hK hP 0 rfl rfl 0 (by decide) (hts _ (List.mem_cons_of_mem _ mGA_477)) (fun _ h9 => h9) rfl (dk_at dkX3_fits 26 rfl) ?_
        refine lv_iconst (v := 1) hx hb (dk_at dkX3_fits 27 rfl) (by decide) ?_
        refine lv_isub hx hb (dk_at dkX3_fits 28 rfl) ?_
        refine lv_topi (fun x_403 ex_403 => ?_)
        have gx_403 : gi x_403 (-1) 23 := gi_sub ex_403 gmonths (gi_c 1 1 (by decide)) (by decide)
        refine lv_istore_n (lv' := [(1, .int x_403), (0, .ref h0)]) hx hb (dk_at dkX3_fits 29 rfl) rfl hl (by decide) rfl (fun ls hl => ?_)
        exact ih.2.1 x_403 z2 _ _ _ gx_403 (by first | (rw [ex_403]; exact hF) | ((try rw [ex_403]); exact hF)) (by have av1 := gv1.1; have bv1 := gv1.2; have qgx_403 := gx_403.1; have rgx_403 := gx_403.2; have igx_403 : x_403.toInt = months.toInt - 1 := (by have hc1 : (1 : Int32).toInt = 1 := (by decide); have h9 := gi_subE ex_403 gmonths (gi_c 1 1 (by decide)) (by decide); rw [hc1] at h9; exact h9); have qgmonths := gmonths.1; have rgmonths := gmonths.2; omega) hP hD hS (lv_sub hl [1, 0] rfl)
      · have hF := gf_neg (by rw [ex_401] at c_402; exact c_402) hF
        have g_404 : gi v1 1 10 := gi_le_l (Int32.not_lt.mp c_402) gv1 gx_401
        have g_405 : gi x_401 1 10 := gi_le_r (Int32.not_lt.mp c_402) gv1 gx_401
        refine lv_aload_n hx hb (dk_at dkX3_fits 9 rfl) rfl (lv_at hl 0 rfl) ?_
        refine va_get (D := (dC, dI)) (ci := 3) (v := .ref on) (C := RX3) (T := TX3) (N := 5) hx hb hts (fun w h => List.mem_cons_of_mem _ (jnGA_X3 w h)) hown hK hP 0 rfl rfl 4 (by decide) (hts _ (List.mem_cons_of_mem _ mGA_95)) (fun _ h9 => h9) rfl (dk_at dkX3_fits 10 rfl) ?_
        refine lv_aload_n hx hb (dk_at dkX3_fits 11 rfl) rfl (lv_at hl 0 rfl) ?_
        refine va_get (D := (dC, dI)) (ci := 3) (v := .int months) (C := RX3) (T := TX3) (N := 5) hx hb hts (fun w h => List.mem_cons_of_mem _ (jnGA_X3 w h)) hown hK hP 0 rfl rfl 0 (by decide) (hts _ (List.mem_cons_of_mem _ mGA_477)) (fun _ h9 => h9) rfl (dk_at dkX3_fits 12 rfl) ?_
        refine lv_bipush (v := 11) hx hb (dk_at dkX3_fits 13 rfl) (by decide) ?_
        refine lv_imul hx hb (dk_at dkX3_fits 14 rfl) ?_
        refine lv_topi (fun x_406 ex_406 => ?_)
        have gx_406 : gi x_406 0 264 := gi_mul ex_406 gmonths (gi_c 11 11 (by decide)) (by decide)
        refine lv_iload_n hx hb (dk_at dkX3_fits 15 rfl) rfl (lv_at hl 1 rfl) ?_
        refine lv_iadd hx hb (dk_at dkX3_fits 16 rfl) ?_
        refine lv_topi (fun x_407 ex_407 => ?_)
        have gx_407 : gi x_407 1 274 := gi_add ex_407 gx_406 g_404 (by decide)
        refine lv_aload_n hx hb (dk_at dkX3_fits 17 rfl) rfl (lv_at hl 0 rfl) ?_
        refine va_get (D := (dC, dI)) (ci := 3) (v := .ref al) (C := RX3) (T := TX3) (N := 5) hx hb hts (fun w h => List.mem_cons_of_mem _ (jnGA_X3 w h)) hown hK hP 0 rfl rfl 3 (by decide) (hts _ (List.mem_cons_of_mem _ mGA_94)) (fun _ h9 => h9) rfl (dk_at dkX3_fits 18 rfl) ?_
        refine lv_aload_n hx hb (dk_at dkX3_fits 19 rfl) rfl (lv_at hl 0 rfl) ?_
        refine va_get (D := (dC, dI)) (ci := 3) (v := .int months) (C := RX3) (T := TX3) (N := 5) hx hb hts (fun w h => List.mem_cons_of_mem _ (jnGA_X3 w h)) hown hK hP 0 rfl rfl 0 (by decide) (hts _ (List.mem_cons_of_mem _ mGA_477)) (fun _ h9 => h9) rfl (dk_at dkX3_fits 20 rfl) ?_
        refine va_iald hx hb hK hP 1 0 rfl rfl (gi_in gmonths (by decide)) (dk_at dkX3_fits 21 rfl) ?_
        refine lv_topi (fun x_408 ex_408 => ?_)
        refine va_iast hx hb hK hP hD hS 2 1 rfl rfl (gi_in gx_407 (by decide)) (dk_at dkX3_fits 22 rfl) (fun H locs hP hD hS => ?_)
        obtain ⟨hP, hD⟩ := gz_both (w := [(h0, .inr (3, [.int months, .int full, .int lean, .ref al, .ref on])), (al, .inl (kal, 25, .inl fal)), (on, .inl (kon, 275, .inl (upd z2 (x_407 : Int32).toNatClampNeg x_408)))]) hP hD
        generalize ef_409 : upd z2 (x_407 : Int32).toNatClampNeg x_408 = f_409 at hP hD
        obtain ⟨x_410, ex_410⟩ : ∃ y : Int32, y = v1 + 1 := ⟨_, rfl⟩
        have gx_410 : gi x_410 2 11 := gi_add ex_410 g_404 (gi_c 1 1 (by decide)) (by decide)
        refine lv_iinc (v := x_410) (lv' := [(1, .int x_410), (0, .ref h0)]) hx hb (dk_at dkX3_fits 23 rfl) hl (k := 1) rfl (by rw [ex_410]; rfl) (by decide) rfl (fun ls hl => ?_)
        refine lv_goto (tgt := 2) hx hb (dk_at dkX3_fits 24 rfl) (by decide) ?_
        exact ih.1 x_410 f_409 _ _ _ (gi_w gx_410 (by decide)) (by first | (rw [ex_410, ← ef_409, ex_408, ex_407, ex_406]; exact hF) | ((try rw [ex_410]); (try rw [← ef_409]); (try rw [ex_408]); (try rw [ex_407]); (try rw [ex_406]); exact hF)) (by have av1 := gv1.1; have bv1 := gv1.2; have qgx_410 := gx_410.1; have rgx_410 := gx_410.2; have igx_410 : x_410.toInt = v1.toInt + 1 := (by have hc1 : (1 : Int32).toInt = 1 := (by decide); have h9 := gi_addE ex_410 g_404 (gi_c 1 1 (by decide)) (by decide); rw [hc1] at h9; exact h9); have qgv1 := g_404.1; have rgv1 := g_404.2; omega) hP hD hS (lv_sub hl [1, 0] rfl)
    · intro v1 z2 H locs ls gv1 hF hmu hP hD hS hl
      have hF : dfX3_fits_51 months full lean fal fon (lfX3_fits months full lean fal fon z) v1 z2 = RES := hF
      refine lv_iload_n hx hb (dk_at dkX3_fits 30 rfl) rfl (lv_at hl 1 rfl) ?_
      refine lv_if_lt (tgt := 158) hx hb (dk_at dkX3_fits 31 rfl) (by decide) (fun c_411 => ?_) (fun c_411 => ?_)
      · have hF := gf_pos c_411 hF
        have g_412 : gi v1 (-1) (-1) := gi_lt_l c_411 gv1 (gi_c 0 0 (by decide)) (by decide)
        refine lv_aload_n hx hb (dk_at dkX3_fits 93 rfl) rfl (lv_at hl 0 rfl) ?_
        refine va_get (D := (dC, dI)) (ci := 3) (v := .ref on) (C := RX3) (T := TX3) (N := 5) hx hb hts (fun w h => List.mem_cons_of_mem _ (jnGA_X3 w h)) hown hK hP 0 rfl rfl 4 (by decide) (hts _ (List.mem_cons_of_mem _ mGA_95)) (fun _ h9 => h9) rfl (dk_at dkX3_fits 94 rfl) ?_
        refine lv_iconst (v := 0) hx hb (dk_at dkX3_fits 95 rfl) (by decide) ?_
        refine va_iald hx hb hK hP 2 1 rfl rfl (gi_in (gi_c 0 0 (by decide)) (by decide)) (dk_at dkX3_fits 96 rfl) ?_
        refine lv_topi (fun x_413 ex_413 => ?_)
        refine lv_iconst (v := 1) hx hb (dk_at dkX3_fits 97 rfl) (by decide) ?_
        refine lv_iand hx hb (dk_at dkX3_fits 98 rfl) ?_
        refine lv_topi (fun x_414 ex_414 => ?_)
        have gx_414 : gi x_414 0 1 := gi_and1 ex_414
        refine lv_if_eq (tgt := 173) hx hb (dk_at dkX3_fits 99 rfl) (by decide) (fun c_415 => ?_) (fun c_415 => ?_)
        · have hF := gf_pos (by rw [ex_414, ex_413] at c_415; exact c_415) hF
          have g_416 : gi x_414 0 0 := gi_eq c_415 (gi_c 0 0 (by decide))
          refine lv_iconst (v := 0) hx hb (dk_at dkX3_fits 102 rfl) (by decide) ?_
          exact kr174 0 z2 _ _ _ (gi_w (gi_c 0 0 (by decide)) (by decide)) hF hP hD hS (lv_sub hl [] rfl)
        · have hF := gf_neg (by rw [ex_414, ex_413] at c_415; exact c_415) hF
          have g_417 : gi x_414 1 1 := gi_ne_lo c_415 gx_414 (gi_c 0 0 (by decide)) (by decide)
          refine lv_iconst (v := 1) hx hb (dk_at dkX3_fits 100 rfl) (by decide) ?_
          refine lv_goto (tgt := 174) hx hb (dk_at dkX3_fits 101 rfl) (by decide) ?_
          exact kr174 1 z2 _ _ _ (gi_w (gi_c 1 1 (by decide)) (by decide)) hF hP hD hS (lv_sub hl [] rfl)
      · have hF := gf_neg c_411 hF
        have g_418 : gi v1 0 23 := gi_le_r (Int32.not_lt.mp c_411) (gi_c 0 0 (by decide)) gv1
        refine lv_iload_n hx hb (dk_at dkX3_fits 32 rfl) rfl (lv_at hl 1 rfl) ?_
        refine lv_iconst (v := 1) hx hb (dk_at dkX3_fits 33 rfl) (by decide) ?_
        refine lv_iadd hx hb (dk_at dkX3_fits 34 rfl) ?_
        refine lv_topi (fun x_419 ex_419 => ?_)
        have gx_419 : gi x_419 1 24 := gi_add ex_419 g_418 (gi_c 1 1 (by decide)) (by decide)
        refine lv_bipush (v := 11) hx hb (dk_at dkX3_fits 35 rfl) (by decide) ?_
        refine lv_imul hx hb (dk_at dkX3_fits 36 rfl) ?_
        refine lv_topi (fun x_420 ex_420 => ?_)
        have gx_420 : gi x_420 11 264 := gi_mul ex_420 gx_419 (gi_c 11 11 (by decide)) (by decide)
        refine lv_istore_n (lv' := [(2, .int x_420), (0, .ref h0), (1, .int v1)]) hx hb (dk_at dkX3_fits 37 rfl) rfl hl (by decide) rfl (fun ls hl => ?_)
        refine lv_iload_n hx hb (dk_at dkX3_fits 38 rfl) rfl (lv_at hl 2 rfl) ?_
        have hPc := hP.sub (ws' := []) [] rfl
        have hKc := hK.sub (tys' := []) [] rfl
        refine va_calli (va_runSN (As := [.int v1]) (rest := []) ⟨hx, hb, hml, hown, hts⟩ (sX11_firstRun l dC dI v1 (gi_w g_418 (by decide))) (⟨va_cnB 1 hts (gz_gP mGA_504 goodGA) rfl rfl rfl (nzA_X3_48 hz) (hts _ (List.mem_cons_of_mem _ mGA_1)) hdS_X11_firstRun_X11_1.2 ⟨Nat.le_trans (Nat.le_of_ble_eq_true rfl) hRf, Nat.le_trans (Nat.le_of_ble_eq_true rfl) hRl⟩, (hts _ (List.mem_cons_of_mem _ mGA_503)), trivial⟩) ⟨bl_I (bl_a bl_P (bl_a bl_K bl_nz)), fun U hU hW => ⟨rfl, by rw [hU]; exact hPc, va_K.moved hW.alike hKc, nzA_warm hW hz⟩⟩ rfl rfl hl.1 rfl (lv_room (Nat.le_of_ble_eq_true rfl)) (dk_at dkX3_fits 39 rfl) ⟨hRc, hRs⟩) hS (fun q _ h => h.elim) (fun q h => h.elim) (fun r_421 u t H1 locs ht hvm hw hB hz1 hk1 hS => ?_)
        obtain ⟨hw, hE⟩ := hw
        have hP := gz_keep hP hk1
        have hF := gf_call (a := r_421) hE hF
        generalize H1 = H at hP hS ⊢
        have gr_421 : gi r_421 0 1 := hw
        refine lv_istore_n (lv' := [(3, .int r_421), (2, .int x_420), (0, .ref h0), (1, .int v1)]) hx hb (dk_at dkX3_fits 40 rfl) rfl hl (by decide) rfl (fun ls hl => ?_)
        exact ih.2.2 v1 x_420 r_421 z2 _ _ _ g_418 gx_420 (gi_w gr_421 (by decide)) (by first | (rw [ex_420, ex_419]; exact hF) | ((try rw [ex_420]); (try rw [ex_419]); exact hF)) (by have av1 := gv1.1; have bv1 := gv1.2; have qgv1 := g_418.1; have rgv1 := g_418.2; have qgr_421 := gr_421.1; have rgr_421 := gr_421.2; omega) hP hD hS (lv_sub hl [2, 3, 1, 0] rfl)
    · intro v1 v2 v3 z2 H locs ls gv1 gv2 gv3 hF hmu hP hD hS hl
      have hF : dfX3_fits_67 months full lean fal fon (lfX3_fits months full lean fal fon z) v1 v2 v3 z2 = RES := hF
      refine lv_iload_n hx hb (dk_at dkX3_fits 41 rfl) rfl (lv_at hl 3 rfl) ?_
      refine lv_iload_n hx hb (dk_at dkX3_fits 42 rfl) rfl (lv_at hl 1 rfl) ?_
      refine lv_aload_n hx hb (dk_at dkX3_fits 43 rfl) rfl (lv_at hl 0 rfl) ?_
      refine va_get (D := (dC, dI)) (ci := 3) (v := .int full) (C := RX3) (T := TX3) (N := 5) hx hb hts (fun w h => List.mem_cons_of_mem _ (jnGA_X3 w h)) hown hK hP 0 rfl rfl 1 (by decide) (hts _ (List.mem_cons_of_mem _ mGA_479)) (fun _ h9 => h9) rfl (dk_at dkX3_fits 44 rfl) ?_
      refine lv_aload_n hx hb (dk_at dkX3_fits 45 rfl) rfl (lv_at hl 0 rfl) ?_
      refine va_get (D := (dC, dI)) (ci := 3) (v := .int lean) (C := RX3) (T := TX3) (N := 5) hx hb hts (fun w h => List.mem_cons_of_mem _ (jnGA_X3 w h)) hown hK hP 0 rfl rfl 2 (by decide) (hts _ (List.mem_cons_of_mem _ mGA_481)) (fun _ h9 => h9) rfl (dk_at dkX3_fits 46 rfl) ?_
      have hPc := hP.sub (ws' := []) [] rfl
      have hKc := hK.sub (tys' := []) [] rfl
      refine va_calli (va_runSN (As := [.int v1, .int full, .int lean]) (rest := [.int v3]) ⟨hx, hb, hml, hown, hts⟩ (sX11_lastRun l dC dI v1 full lean (gi_w gv1 (by decide)) gfull glean) (⟨va_cnB 3 hts (gz_gP mGA_506 goodGA) rfl rfl rfl (nzA_X3_52 hz) (hts _ (List.mem_cons_of_mem _ mGA_1)) hdS_X11_lastRun_X11_3.2 ⟨Nat.le_trans (Nat.le_of_ble_eq_true rfl) hRf, Nat.le_trans (Nat.le_of_ble_eq_true rfl) hRl⟩, (hts _ (List.mem_cons_of_mem _ mGA_505)), trivial⟩) ⟨bl_I (bl_a bl_P (bl_a bl_K bl_nz)), fun U hU hW => ⟨rfl, by rw [hU]; exact hPc, va_K.moved hW.alike hKc, nzA_warm hW hz⟩⟩ rfl rfl hl.1 rfl (lv_room (Nat.le_of_ble_eq_true rfl)) (dk_at dkX3_fits 47 rfl) ⟨hRc, hRs⟩) hS (fun q _ h => h.elim) (fun q h => h.elim) (fun r_422 u t H1 locs ht hvm hw hB hz1 hk1 hS => ?_)
      obtain ⟨hw, hE⟩ := hw
      have hP := gz_keep hP hk1
      have hF := gf_call (a := r_422) hE hF
      generalize H1 = H at hP hS ⊢
      have gr_422 : gi r_422 0 10 := hw
      refine lv_icmp_gt (tgt := 152) hx hb (dk_at dkX3_fits 48 rfl) (by decide) (fun c_423 => ?_) (fun c_423 => ?_)
      · have hF := gf_pos c_423 hF
        have g_424 : gi v3 1 11 := gi_lt_r c_423 gr_422 gv3 (by decide)
        obtain ⟨x_425, ex_425⟩ : ∃ y : Int32, y = v1 + (-1) := ⟨_, rfl⟩
        have gx_425 : gi x_425 (-1) 22 := gi_add ex_425 gv1 (gi_c (-1) (-1) (by decide)) (by decide)
        refine lv_iinc (v := x_425) (lv' := [(1, .int x_425), (0, .ref h0), (2, .int v2), (3, .int v3)]) hx hb (dk_at dkX3_fits 91 rfl) hl (k := 1) rfl (by rw [ex_425]; rfl) (by decide) rfl (fun ls hl => ?_)
        refine lv_goto (tgt := 51) hx hb (dk_at dkX3_fits 92 rfl) (by decide) ?_
        exact ih.2.1 x_425 z2 _ _ _ (gi_w gx_425 (by decide)) (by first | (rw [ex_425]; exact hF) | ((try rw [ex_425]); exact hF)) (by have av1 := gv1.1; have bv1 := gv1.2; have av3 := gv3.1; have bv3 := gv3.2; have qgx_425 := gx_425.1; have rgx_425 := gx_425.2; have igx_425 : x_425.toInt = v1.toInt + (-1) := (by have hcm1 : ((-1) : Int32).toInt = (-1) := (by decide); have h9 := gi_addE ex_425 gv1 (gi_c (-1) (-1) (by decide)) (by decide); rw [hcm1] at h9; exact h9); have qgv1 := gv1.1; have rgv1 := gv1.2; omega) hP hD hS (lv_sub hl [1, 0] rfl)
      · have hF := gf_neg c_423 hF
        have g_426 : gi v3 0 10 := gi_le_l (Int32.not_lt.mp c_423) gv3 gr_422
        refine lv_aload_n hx hb (dk_at dkX3_fits 49 rfl) rfl (lv_at hl 0 rfl) ?_
        refine va_get (D := (dC, dI)) (ci := 3) (v := .ref on) (C := RX3) (T := TX3) (N := 5) hx hb hts (fun w h => List.mem_cons_of_mem _ (jnGA_X3 w h)) hown hK hP 0 rfl rfl 4 (by decide) (hts _ (List.mem_cons_of_mem _ mGA_95)) (fun _ h9 => h9) rfl (dk_at dkX3_fits 50 rfl) ?_
        refine lv_iload_n hx hb (dk_at dkX3_fits 51 rfl) rfl (lv_at hl 2 rfl) ?_
        refine lv_iload_n hx hb (dk_at dkX3_fits 52 rfl) rfl (lv_at hl 3 rfl) ?_
        refine lv_aload_n hx hb (dk_at dkX3_fits 53 rfl) rfl (lv_at hl 0 rfl) ?_
        refine va_get (D := (dC, dI)) (ci := 3) (v := .int full) (C := RX3) (T := TX3) (N := 5) hx hb hts (fun w h => List.mem_cons_of_mem _ (jnGA_X3 w h)) hown hK hP 0 rfl rfl 1 (by decide) (hts _ (List.mem_cons_of_mem _ mGA_479)) (fun _ h9 => h9) rfl (dk_at dkX3_fits 54 rfl) ?_
        have hPc := hP.sub (ws' := []) [] rfl
        have hKc := hK.sub (tys' := []) [] rfl
        refine va_calli (va_runSN (As := [.int v3, .int full]) (rest := [.int v2, .ref on]) ⟨hx, hb, hml, hown, hts⟩ (sX11_runWithFull l dC dI v3 full g_426 gfull) (⟨va_cnB 2 hts (gz_gP mGA_508 goodGA) rfl rfl rfl (nzA_X3_56 hz) (hts _ (List.mem_cons_of_mem _ mGA_1)) hdS_X11_runWithFull_X11_2.2 ⟨Nat.le_trans (Nat.le_of_ble_eq_true rfl) hRf, Nat.le_trans (Nat.le_of_ble_eq_true rfl) hRl⟩, (hts _ (List.mem_cons_of_mem _ mGA_507)), trivial⟩) ⟨bl_I (bl_a bl_P (bl_a bl_K bl_nz)), fun U hU hW => ⟨rfl, by rw [hU]; exact hPc, va_K.moved hW.alike hKc, nzA_warm hW hz⟩⟩ rfl rfl hl.1 rfl (lv_room (Nat.le_of_ble_eq_true rfl)) (dk_at dkX3_fits 55 rfl) ⟨hRc, hRs⟩) hS (fun q _ h => h.elim) (fun q h => h.elim) (fun r_427 u t H1 locs ht hvm hw hB hz1 hk1 hS => ?_)
        obtain ⟨hw, hE⟩ := hw
        have hP := gz_keep hP hk1
        have hF := gf_call (a := r_427) hE hF
        generalize H1 = H at hP hS ⊢
        have gr_427 : gi r_427 0 5 := hw
        refine lv_iadd hx hb (dk_at dkX3_fits 56 rfl) ?_
        refine lv_topi (fun x_428 ex_428 => ?_)
        have gx_428 : gi x_428 11 269 := gi_add ex_428 gv2 gr_427 (by decide)
        refine va_iald hx hb hK hP 2 1 rfl rfl (gi_in gx_428 (by decide)) (dk_at dkX3_fits 57 rfl) ?_
        refine lv_topi (fun x_429 ex_429 => ?_)
        refine lv_iconst (v := 1) hx hb (dk_at dkX3_fits 58 rfl) (by decide) ?_
        refine lv_ishr hx hb (dk_at dkX3_fits 59 rfl) ?_
        refine lv_topi (fun x_430 ex_430 => ?_)
        refine lv_istore (lv' := [(4, .int x_430), (0, .ref h0), (1, .int v1), (2, .int v2), (3, .int v3)]) hx hb (dk_at dkX3_fits 60 rfl) hl (by decide) rfl (fun ls hl => ?_)
        refine lv_aload_n hx hb (dk_at dkX3_fits 61 rfl) rfl (lv_at hl 1 rfl) ?_
        refine va_get (D := (dC, dI)) (ci := 3) (v := .ref on) (C := RX3) (T := TX3) (N := 5) hx hb hts (fun w h => List.mem_cons_of_mem _ (jnGA_X3 w h)) hown hK hP 0 rfl rfl 4 (by decide) (hts _ (List.mem_cons_of_mem _ mGA_95)) (fun _ h9 => h9) rfl (dk_at dkX3_fits 62 rfl) ?_
        refine lv_iload_n hx hb (dk_at dkX3_fits 63 rfl) rfl (lv_at hl 3 rfl) ?_
        refine lv_iload_n hx hb (dk_at dkX3_fits 64 rfl) rfl (lv_at hl 4 rfl) ?_
        refine lv_aload_n hx hb (dk_at dkX3_fits 65 rfl) rfl (lv_at hl 1 rfl) ?_
        refine va_get (D := (dC, dI)) (ci := 3) (v := .int full) (C := RX3) (T := TX3) (N := 5) hx hb hts (fun w h => List.mem_cons_of_mem _ (jnGA_X3 w h)) hown hK hP 0 rfl rfl 1 (by decide) (hts _ (List.mem_cons_of_mem _ mGA_479)) (fun _ h9 => h9) rfl (dk_at dkX3_fits 66 rfl) ?_
        refine lv_aload_n hx hb (dk_at dkX3_fits 67 rfl) rfl (lv_at hl 1 rfl) ?_
        refine va_get (D := (dC, dI)) (ci := 3) (v := .int lean) (C := RX3) (T := TX3) (N := 5) hx hb hts (fun w h => List.mem_cons_of_mem _ (jnGA_X3 w h)) hown hK hP 0 rfl rfl 2 (by decide) (hts _ (List.mem_cons_of_mem _ mGA_481)) (fun _ h9 => h9) rfl (dk_at dkX3_fits 68 rfl) ?_
        have hPc := hP.sub (ws' := []) [] rfl
        have hKc := hK.sub (tys' := []) [] rfl
        refine va_calli (va_runSN (As := [.int v3, .int full, .int lean]) (rest := [.int v2, .ref on]) ⟨hx, hb, hml, hown, hts⟩ (sX11_runWithLean l dC dI v3 full lean g_426 gfull glean) (⟨va_cnB 3 hts (gz_gP mGA_510 goodGA) rfl rfl rfl (nzA_X3_60 hz) (hts _ (List.mem_cons_of_mem _ mGA_1)) hdS_X11_runWithLean_X11_3.2 ⟨Nat.le_trans (Nat.le_of_ble_eq_true rfl) hRf, Nat.le_trans (Nat.le_of_ble_eq_true rfl) hRl⟩, (hts _ (List.mem_cons_of_mem _ mGA_509)), trivial⟩) ⟨bl_I (bl_a bl_P (bl_a bl_K bl_nz)), fun U hU hW => ⟨rfl, by rw [hU]; exact hPc, va_K.moved hW.alike hKc, nzA_warm hW hz⟩⟩ rfl rfl hl.1 rfl (lv_room (Nat.le_of_ble_eq_true rfl)) (dk_at dkX3_fits 69 rfl) ⟨hRc, hRs⟩) hS (fun q _ h => h.elim) (fun q h => h.elim) (fun r_431 u t H1 locs ht hvm hw hB hz1 hk1 hS => ?_)
        obtain ⟨hw, hE⟩ := hw
        have hP := gz_keep hP hk1
        have hF := gf_call (a := r_431) hE hF
        generalize H1 = H at hP hS ⊢
        have gr_431 : gi r_431 0 10 := hw
        refine lv_iadd hx hb (dk_at dkX3_fits 70 rfl) ?_
        refine lv_topi (fun x_432 ex_432 => ?_)
        have gx_432 : gi x_432 11 274 := gi_add ex_432 gv2 gr_431 (by decide)
        refine va_iald hx hb hK hP 2 1 rfl rfl (gi_in gx_432 (by decide)) (dk_at dkX3_fits 71 rfl) ?_
        refine lv_topi (fun x_433 ex_433 => ?_)
        refine lv_istore (lv' := [(5, .int x_433), (4, .int x_430), (0, .ref h0), (1, .int v1), (2, .int v2), (3, .int v3)]) hx hb (dk_at dkX3_fits 72 rfl) hl (by decide) rfl (fun ls hl => ?_)
        refine lv_aload_n hx hb (dk_at dkX3_fits 73 rfl) rfl (lv_at hl 2 rfl) ?_
        refine va_get (D := (dC, dI)) (ci := 3) (v := .ref on) (C := RX3) (T := TX3) (N := 5) hx hb hts (fun w h => List.mem_cons_of_mem _ (jnGA_X3 w h)) hown hK hP 0 rfl rfl 4 (by decide) (hts _ (List.mem_cons_of_mem _ mGA_95)) (fun _ h9 => h9) rfl (dk_at dkX3_fits 74 rfl) ?_
        refine lv_iload_n hx hb (dk_at dkX3_fits 75 rfl) rfl (lv_at hl 3 rfl) ?_
        refine lv_bipush (v := 11) hx hb (dk_at dkX3_fits 76 rfl) (by decide) ?_
        refine lv_imul hx hb (dk_at dkX3_fits 77 rfl) ?_
        refine lv_topi (fun x_434 ex_434 => ?_)
        have gx_434 : gi x_434 0 253 := gi_mul ex_434 gv1 (gi_c 11 11 (by decide)) (by decide)
        refine lv_iload_n hx hb (dk_at dkX3_fits 78 rfl) rfl (lv_at hl 5 rfl) ?_
        refine lv_iadd hx hb (dk_at dkX3_fits 79 rfl) ?_
        refine lv_topi (fun x_435 ex_435 => ?_)
        have gx_435 : gi x_435 0 263 := gi_add ex_435 gx_434 g_426 (by decide)
        refine lv_aload_n hx hb (dk_at dkX3_fits 80 rfl) rfl (lv_at hl 2 rfl) ?_
        refine va_get (D := (dC, dI)) (ci := 3) (v := .ref al) (C := RX3) (T := TX3) (N := 5) hx hb hts (fun w h => List.mem_cons_of_mem _ (jnGA_X3 w h)) hown hK hP 0 rfl rfl 3 (by decide) (hts _ (List.mem_cons_of_mem _ mGA_94)) (fun _ h9 => h9) rfl (dk_at dkX3_fits 81 rfl) ?_
        refine lv_iload_n hx hb (dk_at dkX3_fits 82 rfl) rfl (lv_at hl 3 rfl) ?_
        refine va_iald hx hb hK hP 1 0 rfl rfl (gi_in gv1 (by decide)) (dk_at dkX3_fits 83 rfl) ?_
        refine lv_topi (fun x_436 ex_436 => ?_)
        refine lv_iload hx hb (dk_at dkX3_fits 84 rfl) (lv_at hl 1 rfl) ?_
        refine lv_iload hx hb (dk_at dkX3_fits 85 rfl) (lv_at hl 0 rfl) ?_
        refine lv_ior hx hb (dk_at dkX3_fits 86 rfl) ?_
        refine lv_topi (fun x_437 ex_437 => ?_)
        refine lv_iand hx hb (dk_at dkX3_fits 87 rfl) ?_
        refine lv_topi (fun x_438 ex_438 => ?_)
        refine va_iast hx hb hK hP hD hS 2 1 rfl rfl (gi_in gx_435 (by decide)) (dk_at dkX3_fits 88 rfl) (fun H locs hP hD hS => ?_)
        obtain ⟨hP, hD⟩ := gz_both (w := [(h0, .inr (3, [.int months, .int full, .int lean, .ref al, .ref on])), (al, .inl (kal, 25, .inl fal)), (on, .inl (kon, 275, .inl (upd z2 (x_435 : Int32).toNatClampNeg x_438)))]) hP hD
        generalize ef_439 : upd z2 (x_435 : Int32).toNatClampNeg x_438 = f_439 at hP hD
        obtain ⟨x_440, ex_440⟩ : ∃ y : Int32, y = v3 + 1 := ⟨_, rfl⟩
        have gx_440 : gi x_440 1 11 := gi_add ex_440 g_426 (gi_c 1 1 (by decide)) (by decide)
        refine lv_iinc (v := x_440) (lv' := [(3, .int x_440), (5, .int x_433), (4, .int x_430), (0, .ref h0), (1, .int v1), (2, .int v2)]) hx hb (dk_at dkX3_fits 89 rfl) hl (k := 5) rfl (by rw [ex_440]; rfl) (by decide) rfl (fun ls hl => ?_)
        refine lv_goto (tgt := 67) hx hb (dk_at dkX3_fits 90 rfl) (by decide) ?_
        exact ih.2.2 v1 v2 x_440 f_439 _ _ _ gv1 gv2 (gi_w gx_440 (by decide)) (by first | (rw [ex_440, ← ef_439, ex_438, ex_437, ex_436, ex_435, ex_434, ex_433, ex_432, ex_430, ex_429, ex_428]; exact hF) | ((try rw [ex_440]); (try rw [← ef_439]); (try rw [ex_438]); (try rw [ex_437]); (try rw [ex_436]); (try rw [ex_435]); (try rw [ex_434]); (try rw [ex_433]); (try rw [ex_432]); (try rw [ex_430]); (try rw [ex_429]); (try rw [ex_428]); exact hF)) (by have av1 := gv1.1; have bv1 := gv1.2; have av3 := gv3.1; have bv3 := gv3.2; have qgx_440 := gx_440.1; have rgx_440 := gx_440.2; have igx_440 : x_440.toInt = v3.toInt + 1 := (by have hc1 : (1 : Int32).toInt = 1 := (by decide); have h9 := gi_addE ex_440 g_426 (gi_c 1 1 (by decide)) (by decide); rw [hc1] at h9; exact h9); have qgv3 := g_426.1; have rgv3 := g_426.2; have qgv1 := gv1.1; have rgv1 := gv1.2; omega) hP hD hS (lv_sub hl [3, 4, 5, 0] rfl)
abbrev pb_sX3_fits (dC : Nat → ClassId) (dI : Nat → Nat → Nat) (A9 : Nat → Prop) (h0 : Nat) (al : Nat) (on : Nat) (months : Int32) (full : Int32) (lean : Int32) (kal : ClassId) (fal : Nat → Int32) (kon : ClassId) (fon : Nat → Int32) (r : Int32) (z2 : Nat → Int32) (t : State) : Prop := (r, z2) = fX3_fits months full lean fal fon ∧ va_P (dC, dI) vwCl [(h0, .inr (3, [.int months, .int full, .int lean, .ref al, .ref on])), (al, .inl (kal, 25, .inl fal)), (on, .inl (kon, 275, .inl z2))] t.heap ∧ va_D A9 [(h0, .inr (3, [.int months, .int full, .int lean, .ref al, .ref on])), (al, .inl (kal, 25, .inl fal)), (on, .inl (kon, 275, .inl z2))]
set_option maxHeartbeats 4000000 in
set_option maxRecDepth 100000 in
theorem sX3_fits (l : Launch) (dC : Nat → ClassId) (dI : Nat → Nat → Nat) (sz : Nat) (h0 : Nat) (al : Nat) (on : Nat) (months : Int32) (full : Int32) (lean : Int32) (kal : ClassId) (fal : Nat → Int32) (kon : ClassId) (fon : Nat → Int32) (gmonths : gi months 0 24) (gfull : gi full 0 5) (glean : gi lean 0 5) : Met l yX3_fits (.code yX3_fits cX3_fits 6 (some .boolean) :: wsGA) ({ frames := 1, cells := 0, slots := 0, locals := 22 }) (va_Pc [.ref h0] (fun U => U.heap.size = sz ∧ va_P (dC, dI) vwCl [(h0, .inr (3, [.int months, .int full, .int lean, .ref al, .ref on])), (al, .inl (kal, 25, .inl fal)), (on, .inl (kon, 275, .inl fon))] U.heap ∧ va_K (dC, dI) vwCl [(kal, .int), (kon, .int)] U ∧ va_D (fun _ => True) [(h0, .inr (3, [.int months, .int full, .int lean, .ref al, .ref on])), (al, .inl (kal, 25, .inl fal)), (on, .inl (kon, 275, .inl fon))] ∧ nzA U)) (va_Qi (fun (r : Int32) (u : Int32) => r = u ∧ gi r 0 1) (fun r t => ∃ (z2 : Nat → Int32), pb_sX3_fits dC dI (va_A [(h0, .inr (3, [.int months, .int full, .int lean, .ref al, .ref on])), (al, .inl (kal, 25, .inl fal)), (on, .inl (kon, 275, .inl fon))] sz) h0 al on months full lean kal fal kon fon r z2 t) (va_A [(h0, .inr (3, [.int months, .int full, .int lean, .ref al, .ref on])), (al, .inl (kal, 25, .inl fal)), (on, .inl (kon, 275, .inl fon))] sz)) 0 0 (va_A [(h0, .inr (3, [.int months, .int full, .int lean, .ref al, .ref on])), (al, .inl (kal, 25, .inl fal)), (on, .inl (kon, 275, .inl fon))] sz) := by
  refine Met.ofW (cc := cX3_fits) (maxL := 6) (ret := (some .boolean)) (by decide) rfl ?_
  intro p e s m args below meth c s₁ B hml hv
  obtain ⟨rfl, hsz, hP, hK, hD0, hz⟩ := hv
  have hx := B.exec
  have hb := B.bytes
  have hr := B.returns
  have hts := atoms_spec (ws := (.code yX3_fits cX3_fits 6 (some .boolean) :: wsGA)) B.pre
  have hown : s.vm.findClass RX3 = some m.cls := findClass_of_methodNamed B.named
  have hlocks := B.notSynchronized
  subst hsz
  have hD := hD0.self (sz := s.heap.size)
  generalize hAe : va_A [(h0, .inr (3, [.int months, .int full, .int lean, .ref al, .ref on])), (al, .inl (kal, 25, .inl fal)), (on, .inl (kon, 275, .inl fon))] s.heap.size = A at hD ⊢
  have hA : ∀ q : Nat, s.heap.size ≤ q → A q := fun q h => by rw [← hAe]; exact Or.inr h
  have hS : va_S A s.heap s.heap [] := va_S.rf
  have hl := lv_entry ([.ref h0]) (n := 6) (Nat.le_of_ble_eq_true rfl)
  rw [lg_entry_eq]
  generalize (lg_sl ([.ref h0]) ++ List.replicate (6 - (lg_sl ([.ref h0])).length) Slot.unset).toArray = ls at hl ⊢
  have hl : lv_has ls 6 [(0, .ref h0)] := hl
  obtain ⟨RES, hF⟩ : ∃ R9, fX3_fits months full lean fal fon = R9 := ⟨_, rfl⟩
  have hR9 := hF
  refine lv_iconst (v := 1) hx hb (dk_at dkX3_fits 0 rfl) (by decide) ?_
  refine lv_istore_n (lv' := [(1, .int 1), (0, .ref h0)]) hx hb (dk_at dkX3_fits 1 rfl) rfl hl (by decide) rfl (fun ls hl => ?_)
  refine (lp_sX3_fits h0 al on months full lean kal fal kon fon gmonths gfull glean hx hb hml hown hts hK hz hA (Nat.le_of_ble_eq_true rfl) (Nat.le_of_ble_eq_true rfl) (Nat.zero_le _) (Nat.zero_le _) (fun v z2 H locs ls gv hF hP hD hS hl => ?_) 1000000000).1 1 fon _ _ _ (gi_w (gi_c 1 1 (by decide)) (by decide)) hF (by have k1 : (1 : Int32).toInt = 1 := (by decide); omega) hP hD hS (lv_sub hl [1, 0] rfl)
  · skip
    exact W.zret (v := v) hx hb hr (gz_nb gv) (fun t ht hW => ⟨⟨v, v, rfl, ⟨rfl, gv⟩, z2, hF.trans hR9.symm, by rw [ht]; exact hP, hD⟩, hS.F ht⟩) hS.2.2 (dk_at dkX3_fits 103 rfl)
noncomputable def lsX3_beginsInto : List (Nat × Instr × Nat) := [(0, .iconst 0, 1), (1, .istore_n 2, 1), (2, .iconst 0, 1), (3, .istore_n 3, 1), (4, .aload_n 1, 1), (5, .iconst 0, 1), (6, .iconst 0, 1), (7, .iastore, 1), (8, .iconst 0, 1), (9, .istore 4, 2), (11, .iload 4, 2), (13, .aload_n 0, 1), (14, .getfield 24, 3), (17, .if_icmp .ge 79, 3), (20, .iload_n 3, 1), (21, .aload_n 0, 1), (22, .getfield 28, 3), (25, .invokestatic 56, 3), (28, .istore 5, 2), (30, .aload_n 0, 1), (31, .getfield 15, 3), (34, .iload 4, 2), (36, .iconst 1, 1), (37, .iadd, 1), (38, .bipush 11, 2), (40, .imul, 1), (41, .iload 5, 2), (43, .iadd, 1), (44, .iaload, 1), (45, .iload_n 2, 1), (46, .iconst 1, 1), (47, .iadd, 1), (48, .ishr, 1), (49, .iconst 1, 1), (50, .iand, 1), (51, .ifCond .eq 12, 3), (54, .iload 5, 2), (56, .istore_n 3, 1), (57, .iinc 2 1, 3), (60, .goto 16, 3), (63, .iload_n 3, 1), (64, .aload_n 0, 1), (65, .getfield 28, 3), (68, .aload_n 0, 1), (69, .getfield 32, 3), (72, .invokestatic 60, 3), (75, .istore_n 3, 1), (76, .aload_n 1, 1), (77, .iload 4, 2), (79, .iconst 1, 1), (80, .iadd, 1), (81, .iload 4, 2), (83, .iconst 1, 1), (84, .iadd, 1), (85, .iload_n 2, 1), (86, .invokestatic 63, 3), (89, .iastore, 1), (90, .iinc 4 1, 3), (93, .goto (-82), 3), (96, .return_, 1)]
theorem dkX3_beginsInto : dkAll cX3_beginsInto lsX3_beginsInto = true := dk_fast (by decide +kernel)
noncomputable def bfX3_beginsInto_76 (months : Int32) (full : Int32) (lean : Int32) (fon : Nat → Int32) (fbg : Nat → Int32) (K : (Int32 → Int32 → Int32 → (Nat → Int32) → ((Nat → Int32)))) (v2 : Int32) (v3 : Int32) (v4 : Int32) (z3 : Nat → Int32) : (Nat → Int32) := cal (fun o3 => K v2 v3 (v4 + (1 : Int32)) (upd z3 (v4 + (1 : Int32)).toNatClampNeg o3)) (fX11_dayOf (v4 + (1 : Int32)) v2)
noncomputable def dfX3_beginsInto_11 (months : Int32) (full : Int32) (lean : Int32) (fon : Nat → Int32) (fbg : Nat → Int32) (K : (Int32 → Int32 → Int32 → (Nat → Int32) → ((Nat → Int32)))) (v2 : Int32) (v3 : Int32) (v4 : Int32) (z3 : Nat → Int32) : (Nat → Int32) := if months ≤ v4 then z3 else (cal (fun o1 => if (((fon (((v4 + (1 : Int32)) * (11 : Int32)) + o1).toNatClampNeg) >>> ((v2 + (1 : Int32)) &&& 31)) &&& (1 : Int32)) = (0 : Int32) then (cal (fun o2 => bfX3_beginsInto_76 months full lean fon fbg K v2 o2 v4 z3) (fX11_runWithLean v3 full lean)) else (bfX3_beginsInto_76 months full lean fon fbg K (v2 + (1 : Int32)) o1 v4 z3)) (fX11_runWithFull v3 full))
noncomputable def lfX3_beginsInto (months : Int32) (full : Int32) (lean : Int32) (fon : Nat → Int32) (fbg : Nat → Int32) (z : Nat) : (Int32 → Int32 → Int32 → (Nat → Int32) → ((Nat → Int32))) := Nat.rec (motive := fun _ => (Int32 → Int32 → Int32 → (Nat → Int32) → ((Nat → Int32)))) (fun _ _ _ z3 => (z3)) (fun _ K => dfX3_beginsInto_11 months full lean fon fbg K) z
noncomputable def fX3_beginsInto (months : Int32) (full : Int32) (lean : Int32) (fon : Nat → Int32) (fbg : Nat → Int32) : (Nat → Int32) := (lfX3_beginsInto months full lean fon fbg 1000000000) (0 : Int32) (0 : Int32) (0 : Int32) (upd fbg (0 : Int32).toNatClampNeg (0 : Int32))
set_option maxHeartbeats 4000000 in
set_option maxRecDepth 100000 in
theorem lp_sX3_beginsInto {p : Program} {l : Launch} {e : Env} {R : Room} {s : State} {m : MethodId} {args : Array Value} {below : List Frame} {meth : Method} {c : Code} {Q : State → Prop} {A : Nat → Prop} {cells slots : Nat} {dC : Nat → ClassId} {dI : Nat → Nat → Nat} {RES : (Nat → Int32)} (h0 : Nat) (al : Nat) (on : Nat) (bg : Nat) (months : Int32) (full : Int32) (lean : Int32) (kal : ClassId) (fal : Nat → Int32) (kon : ClassId) (fon : Nat → Int32) (kbg : ClassId) (fbg : Nat → Int32) (gmonths : gi months 0 24) (gfull : gi full 0 5) (glean : gi lean 0 5) (hx : p.tables.exec = Jvm.exec) (hb : c.code = cX3_beginsInto) (hml : c.maxLocals = 6) (hown : s.vm.findClass RX3 = some m.cls) (hts : ∀ w ∈ ((.code yX3_beginsInto cX3_beginsInto 6 none :: wsGA) : List Cond), w.before args s = true) (hK : va_K (dC, dI) vwCl [(kal, .int), (kon, .int), (kbg, .int)] s) (hz : nzA s) (hA : ∀ q : Nat, s.heap.size ≤ q → A q) (hRf : 1 ≤ R.frames) (hRl : 22 ≤ R.locals) (hRc : cells ≤ R.cells) (hRs : slots ≤ R.slots) (kr96 : ∀ (z3 : Nat → Int32) (H : Heap) (locs : List Loc) (ls : Array Slot), z3 = RES → va_P (dC, dI) vwCl [(h0, .inr (3, [.int months, .int full, .int lean, .ref al, .ref on])), (al, .inl (kal, 25, .inl fal)), (on, .inl (kon, 275, .inl fon)), (bg, .inl (kbg, 25, .inl z3))] H → va_D A [(h0, .inr (3, [.int months, .int full, .int lean, .ref al, .ref on])), (al, .inl (kal, 25, .inl fal)), (on, .inl (kon, 275, .inl fon)), (bg, .inl (kbg, 25, .inl z3))] → va_S A s.heap H locs → lv_has ls 6 [] → W p l e R s m args below meth c H locs cells slots Q (F0 m 96 ls [])) : ∀ z : Nat, (∀ (v2 : Int32) (v3 : Int32) (v4 : Int32) (z3 : Nat → Int32) (H : Heap) (locs : List Loc) (ls : Array Slot), gi v3 0 10 → gi v4 0 24 → (lfX3_beginsInto months full lean fon fbg z) v2 v3 v4 z3 = RES → 49 + (-2) * v4.toInt < (z : Int) → va_P (dC, dI) vwCl [(h0, .inr (3, [.int months, .int full, .int lean, .ref al, .ref on])), (al, .inl (kal, 25, .inl fal)), (on, .inl (kon, 275, .inl fon)), (bg, .inl (kbg, 25, .inl z3))] H → va_D A [(h0, .inr (3, [.int months, .int full, .int lean, .ref al, .ref on])), (al, .inl (kal, 25, .inl fal)), (on, .inl (kon, 275, .inl fon)), (bg, .inl (kbg, 25, .inl z3))] → va_S A s.heap H locs → lv_has ls 6 [(0, .ref h0), (1, .ref bg), (2, .int v2), (3, .int v3), (4, .int v4)] → W p l e R s m args below meth c H locs cells slots Q (F0 m 11 ls [])) := by
  intro z
  induction z with
  | zero =>
    intro v2 v3 v4 z3 H locs ls gv3 gv4 hF hmu hP hD hS hl
    exact absurd hmu (by have hv41 := gv4.1; have hv42 := gv4.2; omega)
  | succ z ih =>
      intro v2 v3 v4 z3 H locs ls gv3 gv4 hF hmu hP hD hS hl
      have hF : dfX3_beginsInto_11 months full lean fon fbg (lfX3_beginsInto months full lean fon fbg z) v2 v3 v4 z3 = RES := hF
      refine lv_iload hx hb (dk_at dkX3_beginsInto 10 rfl) (lv_at hl 4 rfl) ?_
      refine lv_aload_n hx hb (dk_at dkX3_beginsInto 11 rfl) rfl (lv_at hl 0 rfl) ?_
      refine va_get (D := (dC, dI)) (ci := 3) (v := .int months) (C := RX3) (T := TX3) (N := 5) hx hb hts (fun w h => List.mem_cons_of_mem _ (jnGA_X3 w h)) hown hK hP 0 rfl rfl 0 (by decide) (hts _ (List.mem_cons_of_mem _ mGA_477)) (fun _ h9 => h9) rfl (dk_at dkX3_beginsInto 12 rfl) ?_
      refine lv_icmp_ge (tgt := 96) hx hb (dk_at dkX3_beginsInto 13 rfl) (by decide) (fun c_1054 => ?_) (fun c_1054 => ?_)
      · have hF := gf_pos c_1054 hF
        exact kr96 z3 _ _ _ hF hP hD hS (lv_sub hl [] rfl)
      · have hF := gf_neg c_1054 hF
        have g_1055 : gi v4 0 23 := gi_lt_l (Int32.not_le.mp c_1054) gv4 gmonths (by decide)
        have g_1056 : gi months 1 24 := gi_lt_r (Int32.not_le.mp c_1054) gv4 gmonths (by decide)
        refine lv_iload_n hx hb (dk_at dkX3_beginsInto 14 rfl) rfl (lv_at hl 3 rfl) ?_
        refine lv_aload_n hx hb (dk_at dkX3_beginsInto 15 rfl) rfl (lv_at hl 0 rfl) ?_
        refine va_get (D := (dC, dI)) (ci := 3) (v := .int full) (C := RX3) (T := TX3) (N := 5) hx hb hts (fun w h => List.mem_cons_of_mem _ (jnGA_X3 w h)) hown hK hP 0 rfl rfl 1 (by decide) (hts _ (List.mem_cons_of_mem _ mGA_479)) (fun _ h9 => h9) rfl (dk_at dkX3_beginsInto 16 rfl) ?_
        have hPc := hP.sub (ws' := []) [] rfl
        have hKc := hK.sub (tys' := []) [] rfl
        refine va_calli (va_runSN (As := [.int v3, .int full]) (rest := []) ⟨hx, hb, hml, hown, hts⟩ (sX11_runWithFull l dC dI v3 full gv3 gfull) (⟨va_cnB 2 hts (gz_gP mGA_508 goodGA) rfl rfl rfl (nzA_X3_56 hz) (hts _ (List.mem_cons_of_mem _ mGA_1)) hdS_X11_runWithFull_X11_2.2 ⟨Nat.le_trans (Nat.le_of_ble_eq_true rfl) hRf, Nat.le_trans (Nat.le_of_ble_eq_true rfl) hRl⟩, (hts _ (List.mem_cons_of_mem _ mGA_507)), trivial⟩) ⟨bl_I (bl_a bl_P (bl_a bl_K bl_nz)), fun U hU hW => ⟨rfl, by rw [hU]; exact hPc, va_K.moved hW.alike hKc, nzA_warm hW hz⟩⟩ rfl rfl hl.1 rfl (lv_room (Nat.le_of_ble_eq_true rfl)) (dk_at dkX3_beginsInto 17 rfl) ⟨hRc, hRs⟩) hS (fun q _ h => h.elim) (fun q h => h.elim) (fun r_1057 u t H1 locs ht hvm hw hB hz1 hk1 hS => ?_)
        obtain ⟨hw, hE⟩ := hw
        have hP := gz_keep hP hk1
        have hF := gf_call (a := r_1057) hE hF
        generalize H1 = H at hP hS ⊢
        have gr_1057 : gi r_1057 0 5 := hw
        refine lv_istore (lv' := [(5, .int r_1057), (0, .ref h0), (1, .ref bg), (2, .int v2), (3, .int v3), (4, .int v4)]) hx hb (dk_at dkX3_beginsInto 18 rfl) hl (by decide) rfl (fun ls hl => ?_)
        refine lv_aload_n hx hb (dk_at dkX3_beginsInto 19 rfl) rfl (lv_at hl 1 rfl) ?_
        refine va_get (D := (dC, dI)) (ci := 3) (v := .ref on) (C := RX3) (T := TX3) (N := 5) hx hb hts (fun w h => List.mem_cons_of_mem _ (jnGA_X3 w h)) hown hK hP 0 rfl rfl 4 (by decide) (hts _ (List.mem_cons_of_mem _ mGA_95)) (fun _ h9 => h9) rfl (dk_at dkX3_beginsInto 20 rfl) ?_
        refine lv_iload hx hb (dk_at dkX3_beginsInto 21 rfl) (lv_at hl 5 rfl) ?_
        refine lv_iconst (v := 1) hx hb (dk_at dkX3_beginsInto 22 rfl) (by decide) ?_
        refine lv_iadd hx hb (dk_at dkX3_beginsInto 23 rfl) ?_
        refine lv_topi (fun x_1058 ex_1058 => ?_)
        have gx_1058 : gi x_1058 1 24 := gi_add ex_1058 g_1055 (gi_c 1 1 (by decide)) (by decide)
        refine lv_bipush (v := 11) hx hb (dk_at dkX3_beginsInto 24 rfl) (by decide) ?_
        refine lv_imul hx hb (dk_at dkX3_beginsInto 25 rfl) ?_
        refine lv_topi (fun x_1059 ex_1059 => ?_)
        have gx_1059 : gi x_1059 11 264 := gi_mul ex_1059 gx_1058 (gi_c 11 11 (by decide)) (by decide)
        refine lv_iload hx hb (dk_at dkX3_beginsInto 26 rfl) (lv_at hl 0 rfl) ?_
        refine lv_iadd hx hb (dk_at dkX3_beginsInto 27 rfl) ?_
        refine lv_topi (fun x_1060 ex_1060 => ?_)
        have gx_1060 : gi x_1060 11 269 := gi_add ex_1060 gx_1059 gr_1057 (by decide)
        refine va_iald hx hb hK hP 2 1 rfl rfl (gi_in gx_1060 (by decide)) (dk_at dkX3_beginsInto 28 rfl) ?_
        refine lv_topi (fun x_1061 ex_1061 => ?_)
        refine lv_iload_n hx hb (dk_at dkX3_beginsInto 29 rfl) rfl (lv_at hl 3 rfl) ?_
        refine lv_iconst (v := 1) hx hb (dk_at dkX3_beginsInto 30 rfl) (by decide) ?_
        refine lv_iadd hx hb (dk_at dkX3_beginsInto 31 rfl) ?_
        refine lv_topi (fun x_1062 ex_1062 => ?_)
        refine lv_ishr hx hb (dk_at dkX3_beginsInto 32 rfl) ?_
        refine lv_topi (fun x_1063 ex_1063 => ?_)
        refine lv_iconst (v := 1) hx hb (dk_at dkX3_beginsInto 33 rfl) (by decide) ?_
        refine lv_iand hx hb (dk_at dkX3_beginsInto 34 rfl) ?_
        refine lv_topi (fun x_1064 ex_1064 => ?_)
        have gx_1064 : gi x_1064 0 1 := gi_and1 ex_1064
        refine lv_if_eq (tgt := 63) hx hb (dk_at dkX3_beginsInto 35 rfl) (by decide) (fun c_1065 => ?_) (fun c_1065 => ?_)
        · have hF := gf_pos (by rw [ex_1064, ex_1063, ex_1062, ex_1061, ex_1060, ex_1059, ex_1058] at c_1065; exact c_1065) hF
          have g_1066 : gi x_1064 0 0 := gi_eq c_1065 (gi_c 0 0 (by decide))
          refine lv_iload_n hx hb (dk_at dkX3_beginsInto 40 rfl) rfl (lv_at hl 4 rfl) ?_
          refine lv_aload_n hx hb (dk_at dkX3_beginsInto 41 rfl) rfl (lv_at hl 1 rfl) ?_
          refine va_get (D := (dC, dI)) (ci := 3) (v := .int full) (C := RX3) (T := TX3) (N := 5) hx hb hts (fun w h => List.mem_cons_of_mem _ (jnGA_X3 w h)) hown hK hP 0 rfl rfl 1 (by decide) (hts _ (List.mem_cons_of_mem _ mGA_479)) (fun _ h9 => h9) rfl (dk_at dkX3_beginsInto 42 rfl) ?_
          refine lv_aload_n hx hb (dk_at dkX3_beginsInto 43 rfl) rfl (lv_at hl 1 rfl) ?_
          refine va_get (D := (dC, dI)) (ci := 3) (v := .int lean) (C := RX3) (T := TX3) (N := 5) hx hb hts (fun w h => List.mem_cons_of_mem _ (jnGA_X3 w h)) hown hK hP 0 rfl rfl 2 (by decide) (hts _ (List.mem_cons_of_mem _ mGA_481)) (fun _ h9 => h9) rfl (dk_at dkX3_beginsInto 44 rfl) ?_
          have hPc := hP.sub (ws' := []) [] rfl
          have hKc := hK.sub (tys' := []) [] rfl
          refine va_calli (va_runSN (As := [.int v3, .int full, .int lean]) (rest := []) ⟨hx, hb, hml, hown, hts⟩ (sX11_runWithLean l dC dI v3 full lean gv3 gfull glean) (⟨va_cnB 3 hts (gz_gP mGA_510 goodGA) rfl rfl rfl (nzA_X3_60 hz) (hts _ (List.mem_cons_of_mem _ mGA_1)) hdS_X11_runWithLean_X11_3.2 ⟨Nat.le_trans (Nat.le_of_ble_eq_true rfl) hRf, Nat.le_trans (Nat.le_of_ble_eq_true rfl) hRl⟩, (hts _ (List.mem_cons_of_mem _ mGA_509)), trivial⟩) ⟨bl_I (bl_a bl_P (bl_a bl_K bl_nz)), fun U hU hW => ⟨rfl, by rw [hU]; exact hPc, va_K.moved hW.alike hKc, nzA_warm hW hz⟩⟩ rfl rfl hl.1 rfl (lv_room (Nat.le_of_ble_eq_true rfl)) (dk_at dkX3_beginsInto 45 rfl) ⟨hRc, hRs⟩) hS (fun q _ h => h.elim) (fun q h => h.elim) (fun r_1067 u t H1 locs ht hvm hw hB hz1 hk1 hS => ?_)
          obtain ⟨hw, hE⟩ := hw
          have hP := gz_keep hP hk1
          have hF := gf_call (a := r_1067) hE hF
          generalize H1 = H at hP hS ⊢
          have gr_1067 : gi r_1067 0 10 := hw
          refine lv_istore_n (lv' := [(3, .int r_1067), (5, .int r_1057), (0, .ref h0), (1, .ref bg), (2, .int v2), (4, .int v4)]) hx hb (dk_at dkX3_beginsInto 46 rfl) rfl hl (by decide) rfl (fun ls hl => ?_)
          refine lv_aload_n hx hb (dk_at dkX3_beginsInto 47 rfl) rfl (lv_at hl 3 rfl) ?_
          refine lv_iload hx hb (dk_at dkX3_beginsInto 48 rfl) (lv_at hl 5 rfl) ?_
          refine lv_iconst (v := 1) hx hb (dk_at dkX3_beginsInto 49 rfl) (by decide) ?_
          refine lv_iadd hx hb (dk_at dkX3_beginsInto 50 rfl) ?_
          refine lv_topi (fun x_1068 ex_1068 => ?_)
          have gx_1068 : gi x_1068 1 24 := gi_add ex_1068 g_1055 (gi_c 1 1 (by decide)) (by decide)
          refine lv_iload hx hb (dk_at dkX3_beginsInto 51 rfl) (lv_at hl 5 rfl) ?_
          refine lv_iconst (v := 1) hx hb (dk_at dkX3_beginsInto 52 rfl) (by decide) ?_
          refine lv_iadd hx hb (dk_at dkX3_beginsInto 53 rfl) ?_
          refine lv_topi (fun x_1069 ex_1069 => ?_)
          have gx_1069 : gi x_1069 1 24 := gi_add ex_1069 g_1055 (gi_c 1 1 (by decide)) (by decide)
          refine lv_iload_n hx hb (dk_at dkX3_beginsInto 54 rfl) rfl (lv_at hl 4 rfl) ?_
          have hPc := hP.sub (ws' := []) [] rfl
          have hKc := hK.sub (tys' := []) [] rfl
          refine va_calli (va_runSN (As := [.int x_1069, .int v2]) (rest := [.int x_1068, .ref bg]) ⟨hx, hb, hml, hown, hts⟩ (sX11_dayOf l dC dI x_1069 v2) (⟨va_cnB 2 hts (gz_gP mGA_516 goodGA) rfl rfl rfl (nzA_X3_63 hz) (hts _ (List.mem_cons_of_mem _ mGA_1)) hdS_X11_dayOf_X11_2.2 ⟨Nat.le_trans (Nat.le_of_ble_eq_true rfl) hRf, Nat.le_trans (Nat.le_of_ble_eq_true rfl) hRl⟩, (hts _ (List.mem_cons_of_mem _ mGA_515)), trivial⟩) ⟨bl_I (bl_a bl_P (bl_a bl_K bl_nz)), fun U hU hW => ⟨rfl, by rw [hU]; exact hPc, va_K.moved hW.alike hKc, nzA_warm hW hz⟩⟩ rfl rfl hl.1 rfl (lv_room (Nat.le_of_ble_eq_true rfl)) (dk_at dkX3_beginsInto 55 rfl) ⟨hRc, hRs⟩) hS (fun q _ h => h.elim) (fun q h => h.elim) (fun r_1070 u t H1 locs ht hvm hw hB hz1 hk1 hS => ?_)
          obtain ⟨hw, hE⟩ := hw
          have hP := gz_keep hP hk1
          have hF := gf_call (a := r_1070) (by rw [ex_1069] at hE; exact hE) hF
          generalize H1 = H at hP hS ⊢
          refine va_iast hx hb hK hP hD hS 3 2 rfl rfl (gi_in gx_1068 (by decide)) (dk_at dkX3_beginsInto 56 rfl) (fun H locs hP hD hS => ?_)
          obtain ⟨hP, hD⟩ := gz_both (w := [(h0, .inr (3, [.int months, .int full, .int lean, .ref al, .ref on])), (al, .inl (kal, 25, .inl fal)), (on, .inl (kon, 275, .inl fon)), (bg, .inl (kbg, 25, .inl (upd z3 (x_1068 : Int32).toNatClampNeg r_1070)))]) hP hD
          generalize ef_1071 : upd z3 (x_1068 : Int32).toNatClampNeg r_1070 = f_1071 at hP hD
          obtain ⟨x_1072, ex_1072⟩ : ∃ y : Int32, y = v4 + 1 := ⟨_, rfl⟩
          have gx_1072 : gi x_1072 1 24 := gi_add ex_1072 g_1055 (gi_c 1 1 (by decide)) (by decide)
          refine lv_iinc (v := x_1072) (lv' := [(4, .int x_1072), (3, .int r_1067), (5, .int r_1057), (0, .ref h0), (1, .ref bg), (2, .int v2)]) hx hb (dk_at dkX3_beginsInto 57 rfl) hl (k := 5) rfl (by rw [ex_1072]; rfl) (by decide) rfl (fun ls hl => ?_)
          refine lv_goto (tgt := 11) hx hb (dk_at dkX3_beginsInto 58 rfl) (by decide) ?_
          exact ih v2 r_1067 x_1072 f_1071 _ _ _ gr_1067 (gi_w gx_1072 (by decide)) (by first | (rw [ex_1072, ← ef_1071, ex_1068]; exact hF) | ((try rw [ex_1072]); (try rw [← ef_1071]); (try rw [ex_1068]); exact hF)) (by have av4 := gv4.1; have bv4 := gv4.2; have qgx_1072 := gx_1072.1; have rgx_1072 := gx_1072.2; have igx_1072 : x_1072.toInt = v4.toInt + 1 := (by have hc1 : (1 : Int32).toInt = 1 := (by decide); have h9 := gi_addE ex_1072 g_1055 (gi_c 1 1 (by decide)) (by decide); rw [hc1] at h9; exact h9); have qgv4 := g_1055.1; have rgv4 := g_1055.2; omega) hP hD hS (lv_sub hl [3, 4, 5, 1, 0] rfl)
        · have hF := gf_neg (by rw [ex_1064, ex_1063, ex_1062, ex_1061, ex_1060, ex_1059, ex_1058] at c_1065; exact c_1065) hF
          have g_1073 : gi x_1064 1 1 := gi_ne_lo c_1065 gx_1064 (gi_c 0 0 (by decide)) (by decide)
          refine lv_iload hx hb (dk_at dkX3_beginsInto 36 rfl) (lv_at hl 0 rfl) ?_
          refine lv_istore_n (lv' := [(3, .int r_1057), (5, .int r_1057), (0, .ref h0), (1, .ref bg), (2, .int v2), (4, .int v4)]) hx hb (dk_at dkX3_beginsInto 37 rfl) rfl hl (by decide) rfl (fun ls hl => ?_)
          obtain ⟨x_1074, ex_1074⟩ : ∃ y : Int32, y = v2 + 1 := ⟨_, rfl⟩
          refine lv_iinc (v := x_1074) (lv' := [(2, .int x_1074), (3, .int r_1057), (5, .int r_1057), (0, .ref h0), (1, .ref bg), (4, .int v4)]) hx hb (dk_at dkX3_beginsInto 38 rfl) hl (k := 4) rfl (by rw [ex_1074]; rfl) (by decide) rfl (fun ls hl => ?_)
          refine lv_goto (tgt := 76) hx hb (dk_at dkX3_beginsInto 39 rfl) (by decide) ?_
          refine lv_aload_n hx hb (dk_at dkX3_beginsInto 47 rfl) rfl (lv_at hl 4 rfl) ?_
          refine lv_iload hx hb (dk_at dkX3_beginsInto 48 rfl) (lv_at hl 5 rfl) ?_
          refine lv_iconst (v := 1) hx hb (dk_at dkX3_beginsInto 49 rfl) (by decide) ?_
          refine lv_iadd hx hb (dk_at dkX3_beginsInto 50 rfl) ?_
          refine lv_topi (fun x_1075 ex_1075 => ?_)
          have gx_1075 : gi x_1075 1 24 := gi_add ex_1075 g_1055 (gi_c 1 1 (by decide)) (by decide)
          refine lv_iload hx hb (dk_at dkX3_beginsInto 51 rfl) (lv_at hl 5 rfl) ?_
          refine lv_iconst (v := 1) hx hb (dk_at dkX3_beginsInto 52 rfl) (by decide) ?_
          refine lv_iadd hx hb (dk_at dkX3_beginsInto 53 rfl) ?_
          refine lv_topi (fun x_1076 ex_1076 => ?_)
          have gx_1076 : gi x_1076 1 24 := gi_add ex_1076 g_1055 (gi_c 1 1 (by decide)) (by decide)
          refine lv_iload_n hx hb (dk_at dkX3_beginsInto 54 rfl) rfl (lv_at hl 0 rfl) ?_
          have hPc := hP.sub (ws' := []) [] rfl
          have hKc := hK.sub (tys' := []) [] rfl
          refine va_calli (va_runSN (As := [.int x_1076, .int x_1074]) (rest := [.int x_1075, .ref bg]) ⟨hx, hb, hml, hown, hts⟩ (sX11_dayOf l dC dI x_1076 x_1074) (⟨va_cnB 2 hts (gz_gP mGA_516 goodGA) rfl rfl rfl (nzA_X3_63 hz) (hts _ (List.mem_cons_of_mem _ mGA_1)) hdS_X11_dayOf_X11_2.2 ⟨Nat.le_trans (Nat.le_of_ble_eq_true rfl) hRf, Nat.le_trans (Nat.le_of_ble_eq_true rfl) hRl⟩, (hts _ (List.mem_cons_of_mem _ mGA_515)), trivial⟩) ⟨bl_I (bl_a bl_P (bl_a bl_K bl_nz)), fun U hU hW => ⟨rfl, by rw [hU]; exact hPc, va_K.moved hW.alike hKc, nzA_warm hW hz⟩⟩ rfl rfl hl.1 rfl (lv_room (Nat.le_of_ble_eq_true rfl)) (dk_at dkX3_beginsInto 55 rfl) ⟨hRc, hRs⟩) hS (fun q _ h => h.elim) (fun q h => h.elim) (fun r_1077 u t H1 locs ht hvm hw hB hz1 hk1 hS => ?_)
          obtain ⟨hw, hE⟩ := hw
          have hP := gz_keep hP hk1
          have hF := gf_call (a := r_1077) (by rw [ex_1076, ex_1074] at hE; exact hE) hF
          generalize H1 = H at hP hS ⊢
          refine va_iast hx hb hK hP hD hS 3 2 rfl rfl (gi_in gx_1075 (by decide)) (dk_at dkX3_beginsInto 56 rfl) (fun H locs hP hD hS => ?_)
          obtain ⟨hP, hD⟩ := gz_both (w := [(h0, .inr (3, [.int months, .int full, .int lean, .ref al, .ref on])), (al, .inl (kal, 25, .inl fal)), (on, .inl (kon, 275, .inl fon)), (bg, .inl (kbg, 25, .inl (upd z3 (x_1075 : Int32).toNatClampNeg r_1077)))]) hP hD
          generalize ef_1078 : upd z3 (x_1075 : Int32).toNatClampNeg r_1077 = f_1078 at hP hD
          obtain ⟨x_1079, ex_1079⟩ : ∃ y : Int32, y = v4 + 1 := ⟨_, rfl⟩
          have gx_1079 : gi x_1079 1 24 := gi_add ex_1079 g_1055 (gi_c 1 1 (by decide)) (by decide)
          refine lv_iinc (v := x_1079) (lv' := [(4, .int x_1079), (2, .int x_1074), (3, .int r_1057), (5, .int r_1057), (0, .ref h0), (1, .ref bg)]) hx hb (dk_at dkX3_beginsInto 57 rfl) hl (k := 5) rfl (by rw [ex_1079]; rfl) (by decide) rfl (fun ls hl => ?_)
          refine lv_goto (tgt := 11) hx hb (dk_at dkX3_beginsInto 58 rfl) (by decide) ?_
          exact ih x_1074 r_1057 x_1079 f_1078 _ _ _ (gi_w gr_1057 (by decide)) (gi_w gx_1079 (by decide)) (by first | (rw [ex_1079, ← ef_1078, ex_1075, ex_1074]; exact hF) | ((try rw [ex_1079]); (try rw [← ef_1078]); (try rw [ex_1075]); (try rw [ex_1074]); exact hF)) (by have av4 := gv4.1; have bv4 := gv4.2; have qgx_1079 := gx_1079.1; have rgx_1079 := gx_1079.2; have igx_1079 : x_1079.toInt = v4.toInt + 1 := (by have hc1 : (1 : Int32).toInt = 1 := (by decide); have h9 := gi_addE ex_1079 g_1055 (gi_c 1 1 (by decide)) (by decide); rw [hc1] at h9; exact h9); have qgv4 := g_1055.1; have rgv4 := g_1055.2; omega) hP hD hS (lv_sub hl [4, 5, 1, 2, 0] rfl)
abbrev pb_sX3_beginsInto (dC : Nat → ClassId) (dI : Nat → Nat → Nat) (A9 : Nat → Prop) (h0 : Nat) (al : Nat) (on : Nat) (bg : Nat) (months : Int32) (full : Int32) (lean : Int32) (kal : ClassId) (fal : Nat → Int32) (kon : ClassId) (fon : Nat → Int32) (kbg : ClassId) (fbg : Nat → Int32) (z3 : Nat → Int32) (t : State) : Prop := z3 = fX3_beginsInto months full lean fon fbg ∧ va_P (dC, dI) vwCl [(h0, .inr (3, [.int months, .int full, .int lean, .ref al, .ref on])), (al, .inl (kal, 25, .inl fal)), (on, .inl (kon, 275, .inl fon)), (bg, .inl (kbg, 25, .inl z3))] t.heap ∧ va_D A9 [(h0, .inr (3, [.int months, .int full, .int lean, .ref al, .ref on])), (al, .inl (kal, 25, .inl fal)), (on, .inl (kon, 275, .inl fon)), (bg, .inl (kbg, 25, .inl z3))]
set_option maxHeartbeats 4000000 in
set_option maxRecDepth 100000 in
theorem sX3_beginsInto (l : Launch) (dC : Nat → ClassId) (dI : Nat → Nat → Nat) (sz : Nat) (h0 : Nat) (al : Nat) (on : Nat) (bg : Nat) (months : Int32) (full : Int32) (lean : Int32) (kal : ClassId) (fal : Nat → Int32) (kon : ClassId) (fon : Nat → Int32) (kbg : ClassId) (fbg : Nat → Int32) (gmonths : gi months 0 24) (gfull : gi full 0 5) (glean : gi lean 0 5) : Met l yX3_beginsInto (.code yX3_beginsInto cX3_beginsInto 6 none :: wsGA) ({ frames := 1, cells := 0, slots := 0, locals := 22 }) (va_Pc [.ref h0, .ref bg] (fun U => U.heap.size = sz ∧ va_P (dC, dI) vwCl [(h0, .inr (3, [.int months, .int full, .int lean, .ref al, .ref on])), (al, .inl (kal, 25, .inl fal)), (on, .inl (kon, 275, .inl fon)), (bg, .inl (kbg, 25, .inl fbg))] U.heap ∧ va_K (dC, dI) vwCl [(kal, .int), (kon, .int), (kbg, .int)] U ∧ va_D (fun _ => True) [(h0, .inr (3, [.int months, .int full, .int lean, .ref al, .ref on])), (al, .inl (kal, 25, .inl fal)), (on, .inl (kon, 275, .inl fon)), (bg, .inl (kbg, 25, .inl fbg))] ∧ nzA U)) (va_Qv (fun (u : Unit) => True) (fun _ t => ∃ (z3 : Nat → Int32), pb_sX3_beginsInto dC dI (va_A [(h0, .inr (3, [.int months, .int full, .int lean, .ref al, .ref on])), (al, .inl (kal, 25, .inl fal)), (on, .inl (kon, 275, .inl fon)), (bg, .inl (kbg, 25, .inl fbg))] sz) h0 al on bg months full lean kal fal kon fon kbg fbg z3 t) (va_A [(h0, .inr (3, [.int months, .int full, .int lean, .ref al, .ref on])), (al, .inl (kal, 25, .inl fal)), (on, .inl (kon, 275, .inl fon)), (bg, .inl (kbg, 25, .inl fbg))] sz)) 0 0 (va_A [(h0, .inr (3, [.int months, .int full, .int lean, .ref al, .ref on])), (al, .inl (kal, 25, .inl fal)), (on, .inl (kon, 275, .inl fon)), (bg, .inl (kbg, 25, .inl fbg))] sz) := by
  refine Met.ofW (cc := cX3_beginsInto) (maxL := 6) (ret := none) (by decide) rfl ?_
  intro p e s m args below meth c s₁ B hml hv
  obtain ⟨rfl, hsz, hP, hK, hD0, hz⟩ := hv
  have hx := B.exec
  have hb := B.bytes
  have hr := B.returns
  have hts := atoms_spec (ws := (.code yX3_beginsInto cX3_beginsInto 6 none :: wsGA)) B.pre
  have hown : s.vm.findClass RX3 = some m.cls := findClass_of_methodNamed B.named
  have hlocks := B.notSynchronized
  subst hsz
  have hD := hD0.self (sz := s.heap.size)
  generalize hAe : va_A [(h0, .inr (3, [.int months, .int full, .int lean, .ref al, .ref on])), (al, .inl (kal, 25, .inl fal)), (on, .inl (kon, 275, .inl fon)), (bg, .inl (kbg, 25, .inl fbg))] s.heap.size = A at hD ⊢
  have hA : ∀ q : Nat, s.heap.size ≤ q → A q := fun q h => by rw [← hAe]; exact Or.inr h
  have hS : va_S A s.heap s.heap [] := va_S.rf
  have hl := lv_entry ([.ref h0, .ref bg]) (n := 6) (Nat.le_of_ble_eq_true rfl)
  rw [lg_entry_eq]
  generalize (lg_sl ([.ref h0, .ref bg]) ++ List.replicate (6 - (lg_sl ([.ref h0, .ref bg])).length) Slot.unset).toArray = ls at hl ⊢
  have hl : lv_has ls 6 [(0, .ref h0), (1, .ref bg)] := hl
  obtain ⟨RES, hF⟩ : ∃ R9, fX3_beginsInto months full lean fon fbg = R9 := ⟨_, rfl⟩
  have hR9 := hF
  refine lv_iconst (v := 0) hx hb (dk_at dkX3_beginsInto 0 rfl) (by decide) ?_
  refine lv_istore_n (lv' := [(2, .int 0), (0, .ref h0), (1, .ref bg)]) hx hb (dk_at dkX3_beginsInto 1 rfl) rfl hl (by decide) rfl (fun ls hl => ?_)
  refine lv_iconst (v := 0) hx hb (dk_at dkX3_beginsInto 2 rfl) (by decide) ?_
  refine lv_istore_n (lv' := [(3, .int 0), (2, .int 0), (0, .ref h0), (1, .ref bg)]) hx hb (dk_at dkX3_beginsInto 3 rfl) rfl hl (by decide) rfl (fun ls hl => ?_)
  refine lv_aload_n hx hb (dk_at dkX3_beginsInto 4 rfl) rfl (lv_at hl 3 rfl) ?_
  refine lv_iconst (v := 0) hx hb (dk_at dkX3_beginsInto 5 rfl) (by decide) ?_
  refine lv_iconst (v := 0) hx hb (dk_at dkX3_beginsInto 6 rfl) (by decide) ?_
  refine va_iast hx hb hK hP hD hS 3 2 rfl rfl (gi_in (gi_c 0 0 (by decide)) (by decide)) (dk_at dkX3_beginsInto 7 rfl) (fun H locs hP hD hS => ?_)
  obtain ⟨hP, hD⟩ := gz_both (w := [(h0, .inr (3, [.int months, .int full, .int lean, .ref al, .ref on])), (al, .inl (kal, 25, .inl fal)), (on, .inl (kon, 275, .inl fon)), (bg, .inl (kbg, 25, .inl (upd fbg (0 : Int32).toNatClampNeg 0)))]) hP hD
  generalize ef_1080 : upd fbg (0 : Int32).toNatClampNeg 0 = f_1080 at hP hD
  refine lv_iconst (v := 0) hx hb (dk_at dkX3_beginsInto 8 rfl) (by decide) ?_
  refine lv_istore (lv' := [(4, .int 0), (3, .int 0), (2, .int 0), (0, .ref h0), (1, .ref bg)]) hx hb (dk_at dkX3_beginsInto 9 rfl) hl (by decide) rfl (fun ls hl => ?_)
  refine (lp_sX3_beginsInto (RES := RES) h0 al on bg months full lean kal fal kon fon kbg fbg gmonths gfull glean hx hb hml hown hts hK hz hA (Nat.le_of_ble_eq_true rfl) (Nat.le_of_ble_eq_true rfl) (Nat.zero_le _) (Nat.zero_le _) (fun z3 H locs ls hF hP hD hS hl => ?_) 1000000000) 0 0 0 f_1080 _ _ _ (gi_w (gi_c 0 0 (by decide)) (by decide)) (gi_w (gi_c 0 0 (by decide)) (by decide)) (by first | (rw [← ef_1080]; exact hF) | ((try rw [← ef_1080]); exact hF)) (by have k0 : (0 : Int32).toInt = 0 := (by decide); omega) hP hD hS (lv_sub hl [3, 4, 2, 1, 0] rfl)
  · skip
    exact W.vret hx hb hr (fun t ht hW => ⟨⟨(), rfl, trivial, z3, hF.trans hR9.symm, by rw [ht]; exact hP, hD⟩, hS.F ht⟩) hS.2.2 (dk_at dkX3_beginsInto 59 rfl)
noncomputable def lsX3_open : List (Nat × Instr × Nat) := [(0, .aload_n 0, 1), (1, .aload_n 1, 1), (2, .getfield 18, 3), (5, .putfield 24, 3), (8, .aload_n 0, 1), (9, .aload_n 1, 1), (10, .getfield 25, 3), (13, .putfield 28, 3), (16, .aload_n 0, 1), (17, .aload_n 1, 1), (18, .getfield 29, 3), (21, .putfield 32, 3), (24, .iconst 0, 1), (25, .istore_n 2, 1), (26, .iload_n 2, 1), (27, .aload_n 0, 1), (28, .getfield 24, 3), (31, .if_icmp .gt 20, 3), (34, .aload_n 0, 1), (35, .getfield 9, 3), (38, .iload_n 2, 1), (39, .iconst 2, 1), (40, .iload_n 2, 1), (41, .ishl, 1), (42, .iconst 1, 1), (43, .isub, 1), (44, .iastore, 1), (45, .iinc 2 1, 3), (48, .goto (-22), 3), (51, .return_, 1)]
theorem dkX3_open : dkAll cX3_open lsX3_open = true := dk_fast (by decide +kernel)
noncomputable def dfX3_open_26 (fal : Nat → Int32) (amonths : Int32) (afull : Int32) (alean : Int32) (K : (Int32 → Int32 → Int32 → Int32 → (Nat → Int32) → (Int32 × Int32 × Int32 × (Nat → Int32)))) (v2 : Int32) (w0_0 : Int32) (w0_1 : Int32) (w0_2 : Int32) (z1 : Nat → Int32) : Int32 × Int32 × Int32 × (Nat → Int32) := if w0_0 < v2 then (w0_0, w0_1, w0_2, z1) else (K (v2 + (1 : Int32)) w0_0 w0_1 w0_2 (upd z1 v2.toNatClampNeg (((2 : Int32) <<< (v2 &&& 31)) - (1 : Int32))))
noncomputable def lfX3_open (fal : Nat → Int32) (amonths : Int32) (afull : Int32) (alean : Int32) (z : Nat) : (Int32 → Int32 → Int32 → Int32 → (Nat → Int32) → (Int32 × Int32 × Int32 × (Nat → Int32))) := Nat.rec (motive := fun _ => (Int32 → Int32 → Int32 → Int32 → (Nat → Int32) → (Int32 × Int32 × Int32 × (Nat → Int32)))) (fun _ w0_0 w0_1 w0_2 z1 => (w0_0, w0_1, w0_2, z1)) (fun _ K => dfX3_open_26 fal amonths afull alean K) z
noncomputable def fX3_open (fal : Nat → Int32) (amonths : Int32) (afull : Int32) (alean : Int32) : Int32 × Int32 × Int32 × (Nat → Int32) := (lfX3_open fal amonths afull alean 1000000000) (0 : Int32) amonths afull alean fal
set_option maxHeartbeats 4000000 in
set_option maxRecDepth 100000 in
theorem lp_sX3_open {p : Program} {l : Launch} {e : Env} {R : Room} {s : State} {m : MethodId} {args : Array Value} {below : List Frame} {meth : Method} {c : Code} {Q : State → Prop} {A : Nat → Prop} {cells slots : Nat} {dC : Nat → ClassId} {dI : Nat → Nat → Nat} {RES : Int32 × Int32 × Int32 × (Nat → Int32)} (h0 : Nat) (al : Nat) (am : Nat) (months : Int32) (full : Int32) (lean : Int32) (on : Nat) (kal : ClassId) (fal : Nat → Int32) (amonths : Int32) (afull : Int32) (alean : Int32) (alines : Int32) (ahasMoon : Int32) (amoonStart : Int32) (amoonStep : Int32) (aplaceCount : Int32) (areportCount : Int32) (adeedCount : Int32) (aplaces : Nat) (areports : Nat) (adeeds : Nat) (gmonths : gi months 0 24) (gfull : gi full 0 5) (glean : gi lean 0 5) (gamonths : gi amonths 0 24) (gafull : gi afull 0 5) (galean : gi alean 0 5) (gahasMoon : gi ahasMoon 0 1) (gaplaceCount : gi aplaceCount 0 6) (gareportCount : gi areportCount 0 24) (gadeedCount : gi adeedCount 0 8) (hx : p.tables.exec = Jvm.exec) (hb : c.code = cX3_open) (hml : c.maxLocals = 3) (hown : s.vm.findClass RX3 = some m.cls) (hts : ∀ w ∈ ((.code yX3_open cX3_open 3 none :: wsGA) : List Cond), w.before args s = true) (hK : va_K (dC, dI) vwCl [(kal, .int)] s) (hz : nzA s) (hR : va_P (dC, dI) vwCl [(am, .inr (0, [.int amonths, .int afull, .int alean, .int alines, .int ahasMoon, .int amoonStart, .int amoonStep, .int aplaceCount, .int areportCount, .int adeedCount, .ref aplaces, .ref areports, .ref adeeds]))] s.heap) (hRA : gz_ap A [(am, .inr (0, [.int amonths, .int afull, .int alean, .int alines, .int ahasMoon, .int amoonStart, .int amoonStep, .int aplaceCount, .int areportCount, .int adeedCount, .ref aplaces, .ref areports, .ref adeeds]))]) (hA : ∀ q : Nat, s.heap.size ≤ q → A q) (hRf : 0 ≤ R.frames) (hRl : 0 ≤ R.locals) (hRc : cells ≤ R.cells) (hRs : slots ≤ R.slots) (kr51 : ∀ (w0_0 : Int32) (w0_1 : Int32) (w0_2 : Int32) (z1 : Nat → Int32) (H : Heap) (locs : List Loc) (ls : Array Slot), gi w0_0 0 24 → gi w0_1 0 5 → gi w0_2 0 5 → (w0_0, w0_1, w0_2, z1) = RES → va_P (dC, dI) vwCl [(h0, .inr (3, [.int w0_0, .int w0_1, .int w0_2, .ref al, .ref on])), (al, .inl (kal, 25, .inl z1))] H → va_D A [(h0, .inr (3, [.int w0_0, .int w0_1, .int w0_2, .ref al, .ref on])), (al, .inl (kal, 25, .inl z1))] → va_S A s.heap H locs → lv_has ls 3 [] → W p l e R s m args below meth c H locs cells slots Q (F0 m 51 ls [])) : ∀ z : Nat, (∀ (v2 : Int32) (w0_0 : Int32) (w0_1 : Int32) (w0_2 : Int32) (z1 : Nat → Int32) (H : Heap) (locs : List Loc) (ls : Array Slot), gi v2 0 25 → gi w0_0 0 24 → gi w0_1 0 5 → gi w0_2 0 5 → (lfX3_open fal amonths afull alean z) v2 w0_0 w0_1 w0_2 z1 = RES → 51 + (-2) * v2.toInt < (z : Int) → va_P (dC, dI) vwCl [(h0, .inr (3, [.int w0_0, .int w0_1, .int w0_2, .ref al, .ref on])), (al, .inl (kal, 25, .inl z1))] H → va_D A [(h0, .inr (3, [.int w0_0, .int w0_1, .int w0_2, .ref al, .ref on])), (al, .inl (kal, 25, .inl z1))] → va_S A s.heap H locs → lv_has ls 3 [(0, .ref h0), (1, .ref am), (2, .int v2)] → W p l e R s m args below meth c H locs cells slots Q (F0 m 26 ls [])) := by
  intro z
  induction z with
  | zero =>
    intro v2 w0_0 w0_1 w0_2 z1 H locs ls gv2 gw0_0 gw0_1 gw0_2 hF hmu hP hD hS hl
    exact absurd hmu (by have hv21 := gv2.1; have hv22 := gv2.2; omega)
  | succ z ih =>
      intro v2 w0_0 w0_1 w0_2 z1 H locs ls gv2 gw0_0 gw0_1 gw0_2 hF hmu hP hD hS hl
      have hF : dfX3_open_26 fal amonths afull alean (lfX3_open fal amonths afull alean z) v2 w0_0 w0_1 w0_2 z1 = RES := hF
      refine lv_iload_n hx hb (dk_at dkX3_open 14 rfl) rfl (lv_at hl 2 rfl) ?_
      refine lv_aload_n hx hb (dk_at dkX3_open 15 rfl) rfl (lv_at hl 0 rfl) ?_
      refine va_get (D := (dC, dI)) (ci := 3) (v := .int w0_0) (C := RX3) (T := TX3) (N := 5) hx hb hts (fun w h => List.mem_cons_of_mem _ (jnGA_X3 w h)) hown hK hP 0 rfl rfl 0 (by decide) (hts _ (List.mem_cons_of_mem _ mGA_477)) (fun _ h9 => h9) rfl (dk_at dkX3_open 16 rfl) ?_
      refine lv_icmp_gt (tgt := 51) hx hb (dk_at dkX3_open 17 rfl) (by decide) (fun c_111 => ?_) (fun c_111 => ?_)
      · have hF := gf_pos c_111 hF
        have g_112 : gi v2 1 25 := gi_lt_r c_111 gw0_0 gv2 (by decide)
        exact kr51 w0_0 w0_1 w0_2 z1 _ _ _ gw0_0 gw0_1 gw0_2 hF hP hD hS (lv_sub hl [] rfl)
      · have hF := gf_neg c_111 hF
        have g_113 : gi v2 0 24 := gi_le_l (Int32.not_lt.mp c_111) gv2 gw0_0
        refine lv_aload_n hx hb (dk_at dkX3_open 18 rfl) rfl (lv_at hl 0 rfl) ?_
        refine va_get (D := (dC, dI)) (ci := 3) (v := .ref al) (C := RX3) (T := TX3) (N := 5) hx hb hts (fun w h => List.mem_cons_of_mem _ (jnGA_X3 w h)) hown hK hP 0 rfl rfl 3 (by decide) (hts _ (List.mem_cons_of_mem _ mGA_94)) (fun _ h9 => h9) rfl (dk_at dkX3_open 19 rfl) ?_
        refine lv_iload_n hx hb (dk_at dkX3_open 20 rfl) rfl (lv_at hl 2 rfl) ?_
        refine lv_iconst (v := 2) hx hb (dk_at dkX3_open 21 rfl) (by decide) ?_
        refine lv_iload_n hx hb (dk_at dkX3_open 22 rfl) rfl (lv_at hl 2 rfl) ?_
        refine lv_ishl hx hb (dk_at dkX3_open 23 rfl) ?_
        refine lv_topi (fun x_114 ex_114 => ?_)
        refine lv_iconst (v := 1) hx hb (dk_at dkX3_open 24 rfl) (by decide) ?_
        refine lv_isub hx hb (dk_at dkX3_open 25 rfl) ?_
        refine lv_topi (fun x_115 ex_115 => ?_)
        refine va_iast hx hb hK hP hD hS 1 0 rfl rfl (gi_in g_113 (by decide)) (dk_at dkX3_open 26 rfl) (fun H locs hP hD hS => ?_)
        obtain ⟨hP, hD⟩ := gz_both (w := [(h0, .inr (3, [.int w0_0, .int w0_1, .int w0_2, .ref al, .ref on])), (al, .inl (kal, 25, .inl (upd z1 (v2 : Int32).toNatClampNeg x_115)))]) hP hD
        generalize ef_116 : upd z1 (v2 : Int32).toNatClampNeg x_115 = f_116 at hP hD
        obtain ⟨x_117, ex_117⟩ : ∃ y : Int32, y = v2 + 1 := ⟨_, rfl⟩
        have gx_117 : gi x_117 1 25 := gi_add ex_117 g_113 (gi_c 1 1 (by decide)) (by decide)
        refine lv_iinc (v := x_117) (lv' := [(2, .int x_117), (0, .ref h0), (1, .ref am)]) hx hb (dk_at dkX3_open 27 rfl) hl (k := 2) rfl (by rw [ex_117]; rfl) (by decide) rfl (fun ls hl => ?_)
        refine lv_goto (tgt := 26) hx hb (dk_at dkX3_open 28 rfl) (by decide) ?_
        exact ih x_117 w0_0 w0_1 w0_2 f_116 _ _ _ (gi_w gx_117 (by decide)) gw0_0 gw0_1 gw0_2 (by first | (rw [ex_117, ← ef_116, ex_115, ex_114]; exact hF) | ((try rw [ex_117]); (try rw [← ef_116]); (try rw [ex_115]); (try rw [ex_114]); exact hF)) (by have av2 := gv2.1; have bv2 := gv2.2; have qgx_117 := gx_117.1; have rgx_117 := gx_117.2; have igx_117 : x_117.toInt = v2.toInt + 1 := (by have hc1 : (1 : Int32).toInt = 1 := (by decide); have h9 := gi_addE ex_117 g_113 (gi_c 1 1 (by decide)) (by decide); rw [hc1] at h9; exact h9); have qgv2 := g_113.1; have rgv2 := g_113.2; omega) hP hD hS (lv_sub hl [1, 2, 0] rfl)
abbrev pb_sX3_open (dC : Nat → ClassId) (dI : Nat → Nat → Nat) (A9 : Nat → Prop) (h0 : Nat) (al : Nat) (am : Nat) (months : Int32) (full : Int32) (lean : Int32) (on : Nat) (kal : ClassId) (fal : Nat → Int32) (amonths : Int32) (afull : Int32) (alean : Int32) (alines : Int32) (ahasMoon : Int32) (amoonStart : Int32) (amoonStep : Int32) (aplaceCount : Int32) (areportCount : Int32) (adeedCount : Int32) (aplaces : Nat) (areports : Nat) (adeeds : Nat) (w0_0 : Int32) (w0_1 : Int32) (w0_2 : Int32) (z1 : Nat → Int32) (t : State) : Prop := gi w0_0 0 24 ∧ gi w0_1 0 5 ∧ gi w0_2 0 5 ∧ (w0_0, w0_1, w0_2, z1) = fX3_open fal amonths afull alean ∧ va_P (dC, dI) vwCl [(h0, .inr (3, [.int w0_0, .int w0_1, .int w0_2, .ref al, .ref on])), (al, .inl (kal, 25, .inl z1))] t.heap ∧ va_D A9 [(h0, .inr (3, [.int w0_0, .int w0_1, .int w0_2, .ref al, .ref on])), (al, .inl (kal, 25, .inl z1))]
set_option maxHeartbeats 4000000 in
set_option maxRecDepth 100000 in
theorem sX3_open (l : Launch) (dC : Nat → ClassId) (dI : Nat → Nat → Nat) (sz : Nat) (h0 : Nat) (al : Nat) (am : Nat) (months : Int32) (full : Int32) (lean : Int32) (on : Nat) (kal : ClassId) (fal : Nat → Int32) (amonths : Int32) (afull : Int32) (alean : Int32) (alines : Int32) (ahasMoon : Int32) (amoonStart : Int32) (amoonStep : Int32) (aplaceCount : Int32) (areportCount : Int32) (adeedCount : Int32) (aplaces : Nat) (areports : Nat) (adeeds : Nat) (gmonths : gi months 0 24) (gfull : gi full 0 5) (glean : gi lean 0 5) (gamonths : gi amonths 0 24) (gafull : gi afull 0 5) (galean : gi alean 0 5) (gahasMoon : gi ahasMoon 0 1) (gaplaceCount : gi aplaceCount 0 6) (gareportCount : gi areportCount 0 24) (gadeedCount : gi adeedCount 0 8) : Met l yX3_open (.code yX3_open cX3_open 3 none :: wsGA) ({ frames := 0, cells := 0, slots := 0, locals := 0 }) (va_Pc [.ref h0, .ref am] (fun U => U.heap.size = sz ∧ va_P (dC, dI) vwCl [(h0, .inr (3, [.int months, .int full, .int lean, .ref al, .ref on])), (al, .inl (kal, 25, .inl fal))] U.heap ∧ va_K (dC, dI) vwCl [(kal, .int)] U ∧ va_D (fun _ => True) [(h0, .inr (3, [.int months, .int full, .int lean, .ref al, .ref on])), (al, .inl (kal, 25, .inl fal))] ∧ nzA U ∧ va_P (dC, dI) vwCl [(am, .inr (0, [.int amonths, .int afull, .int alean, .int alines, .int ahasMoon, .int amoonStart, .int amoonStep, .int aplaceCount, .int areportCount, .int adeedCount, .ref aplaces, .ref areports, .ref adeeds]))] U.heap ∧ gz_ap (va_A [(h0, .inr (3, [.int months, .int full, .int lean, .ref al, .ref on])), (al, .inl (kal, 25, .inl fal))] sz) [(am, .inr (0, [.int amonths, .int afull, .int alean, .int alines, .int ahasMoon, .int amoonStart, .int amoonStep, .int aplaceCount, .int areportCount, .int adeedCount, .ref aplaces, .ref areports, .ref adeeds]))])) (va_Qv (fun (u : Unit) => True) (fun _ t => ∃ (w0_0 : Int32) (w0_1 : Int32) (w0_2 : Int32) (z1 : Nat → Int32), pb_sX3_open dC dI (va_A [(h0, .inr (3, [.int months, .int full, .int lean, .ref al, .ref on])), (al, .inl (kal, 25, .inl fal))] sz) h0 al am months full lean on kal fal amonths afull alean alines ahasMoon amoonStart amoonStep aplaceCount areportCount adeedCount aplaces areports adeeds w0_0 w0_1 w0_2 z1 t) (va_A [(h0, .inr (3, [.int months, .int full, .int lean, .ref al, .ref on])), (al, .inl (kal, 25, .inl fal))] sz)) 0 0 (va_A [(h0, .inr (3, [.int months, .int full, .int lean, .ref al, .ref on])), (al, .inl (kal, 25, .inl fal))] sz) := by
  refine Met.ofW (cc := cX3_open) (maxL := 3) (ret := none) (by decide) rfl ?_
  intro p e s m args below meth c s₁ B hml hv
  obtain ⟨rfl, hsz, hP, hK, hD0, hz, hR, hRA⟩ := hv
  have hx := B.exec
  have hb := B.bytes
  have hr := B.returns
  have hts := atoms_spec (ws := (.code yX3_open cX3_open 3 none :: wsGA)) B.pre
  have hown : s.vm.findClass RX3 = some m.cls := findClass_of_methodNamed B.named
  have hlocks := B.notSynchronized
  subst hsz
  have hD := hD0.self (sz := s.heap.size)
  generalize hAe : va_A [(h0, .inr (3, [.int months, .int full, .int lean, .ref al, .ref on])), (al, .inl (kal, 25, .inl fal))] s.heap.size = A at hD hRA ⊢
  have hA : ∀ q : Nat, s.heap.size ≤ q → A q := fun q h => by rw [← hAe]; exact Or.inr h
  have hS : va_S A s.heap s.heap [] := va_S.rf
  have hl := lv_entry ([.ref h0, .ref am]) (n := 3) (Nat.le_of_ble_eq_true rfl)
  rw [lg_entry_eq]
  generalize (lg_sl ([.ref h0, .ref am]) ++ List.replicate (3 - (lg_sl ([.ref h0, .ref am])).length) Slot.unset).toArray = ls at hl ⊢
  have hl : lv_has ls 3 [(0, .ref h0), (1, .ref am)] := hl
  obtain ⟨RES, hF⟩ : ∃ R9, fX3_open fal amonths afull alean = R9 := ⟨_, rfl⟩
  have hR9 := hF
  refine lv_aload_n hx hb (dk_at dkX3_open 0 rfl) rfl (lv_at hl 0 rfl) ?_
  refine lv_aload_n hx hb (dk_at dkX3_open 1 rfl) rfl (lv_at hl 1 rfl) ?_
  refine va_get (D := (dC, dI)) (ci := 0) (v := .int amonths) (C := RX0) (T := TX0) (N := 13) hx hb hts (fun w h => List.mem_cons_of_mem _ (jnGA_X0 w h)) hown hK (gz_ro hR hRA hS) 0 rfl rfl 0 (by decide) (hts _ (List.mem_cons_of_mem _ mGA_476)) (fun _ h9 => h9) rfl (dk_at dkX3_open 2 rfl) ?_
  refine va_put (D := (dC, dI)) (ci := 3) (v := .int amonths) (ty := .int) (C := RX3) (T := TX3) (N := 5) hx hb hts (fun w h => List.mem_cons_of_mem _ (jnGA_X3 w h)) tyX3 tyX3_ok nmX3 hown hK hP hD hS 0 rfl rfl 0 (by decide) (hts _ (List.mem_cons_of_mem _ mGA_477)) (fun _ h9 => h9) rfl fdX3_0 rfl rfl (Nat.le_of_ble_eq_true rfl) (dk_at dkX3_open 3 rfl) (fun H locs hP hD hS => ?_)
  obtain ⟨hP, hD⟩ := gz_both (w := [(h0, .inr (3, [.int amonths, .int full, .int lean, .ref al, .ref on])), (al, .inl (kal, 25, .inl fal))]) hP hD
  refine lv_aload_n hx hb (dk_at dkX3_open 4 rfl) rfl (lv_at hl 0 rfl) ?_
  refine lv_aload_n hx hb (dk_at dkX3_open 5 rfl) rfl (lv_at hl 1 rfl) ?_
  refine va_get (D := (dC, dI)) (ci := 0) (v := .int afull) (C := RX0) (T := TX0) (N := 13) hx hb hts (fun w h => List.mem_cons_of_mem _ (jnGA_X0 w h)) hown hK (gz_ro hR hRA hS) 0 rfl rfl 1 (by decide) (hts _ (List.mem_cons_of_mem _ mGA_478)) (fun _ h9 => h9) rfl (dk_at dkX3_open 6 rfl) ?_
  refine va_put (D := (dC, dI)) (ci := 3) (v := .int afull) (ty := .int) (C := RX3) (T := TX3) (N := 5) hx hb hts (fun w h => List.mem_cons_of_mem _ (jnGA_X3 w h)) tyX3 tyX3_ok nmX3 hown hK hP hD hS 0 rfl rfl 1 (by decide) (hts _ (List.mem_cons_of_mem _ mGA_479)) (fun _ h9 => h9) rfl fdX3_1 rfl rfl (Nat.le_of_ble_eq_true rfl) (dk_at dkX3_open 7 rfl) (fun H locs hP hD hS => ?_)
  obtain ⟨hP, hD⟩ := gz_both (w := [(h0, .inr (3, [.int amonths, .int afull, .int lean, .ref al, .ref on])), (al, .inl (kal, 25, .inl fal))]) hP hD
  refine lv_aload_n hx hb (dk_at dkX3_open 8 rfl) rfl (lv_at hl 0 rfl) ?_
  refine lv_aload_n hx hb (dk_at dkX3_open 9 rfl) rfl (lv_at hl 1 rfl) ?_
  refine va_get (D := (dC, dI)) (ci := 0) (v := .int alean) (C := RX0) (T := TX0) (N := 13) hx hb hts (fun w h => List.mem_cons_of_mem _ (jnGA_X0 w h)) hown hK (gz_ro hR hRA hS) 0 rfl rfl 2 (by decide) (hts _ (List.mem_cons_of_mem _ mGA_480)) (fun _ h9 => h9) rfl (dk_at dkX3_open 10 rfl) ?_
  refine va_put (D := (dC, dI)) (ci := 3) (v := .int alean) (ty := .int) (C := RX3) (T := TX3) (N := 5) hx hb hts (fun w h => List.mem_cons_of_mem _ (jnGA_X3 w h)) tyX3 tyX3_ok nmX3 hown hK hP hD hS 0 rfl rfl 2 (by decide) (hts _ (List.mem_cons_of_mem _ mGA_481)) (fun _ h9 => h9) rfl fdX3_2 rfl rfl (Nat.le_of_ble_eq_true rfl) (dk_at dkX3_open 11 rfl) (fun H locs hP hD hS => ?_)
  obtain ⟨hP, hD⟩ := gz_both (w := [(h0, .inr (3, [.int amonths, .int afull, .int alean, .ref al, .ref on])), (al, .inl (kal, 25, .inl fal))]) hP hD
  refine lv_iconst (v := 0) hx hb (dk_at dkX3_open 12 rfl) (by decide) ?_
  refine lv_istore_n (lv' := [(2, .int 0), (0, .ref h0), (1, .ref am)]) hx hb (dk_at dkX3_open 13 rfl) rfl hl (by decide) rfl (fun ls hl => ?_)
  refine (lp_sX3_open h0 al am months full lean on kal fal amonths afull alean alines ahasMoon amoonStart amoonStep aplaceCount areportCount adeedCount aplaces areports adeeds gmonths gfull glean gamonths gafull galean gahasMoon gaplaceCount gareportCount gadeedCount hx hb hml hown hts hK hz hR hRA hA (Nat.le_of_ble_eq_true rfl) (Nat.le_of_ble_eq_true rfl) (Nat.zero_le _) (Nat.zero_le _) (fun w0_0 w0_1 w0_2 z1 H locs ls gw0_0 gw0_1 gw0_2 hF hP hD hS hl => ?_) 1000000000) 0 amonths afull alean fal _ _ _ (gi_w (gi_c 0 0 (by decide)) (by decide)) gamonths gafull galean hF (by have k0 : (0 : Int32).toInt = 0 := (by decide); omega) hP hD hS (lv_sub hl [1, 2, 0] rfl)
  · skip
    exact W.vret hx hb hr (fun t ht hW => ⟨⟨(), rfl, trivial, w0_0, w0_1, w0_2, z1, gw0_0, gw0_1, gw0_2, hF.trans hR9.symm, by rw [ht]; exact hP, hD⟩, hS.F ht⟩) hS.2.2 (dk_at dkX3_open 29 rfl)
noncomputable def lsX3_rightFor : List (Nat × Instr × Nat) := [(0, .iconst 2, 1), (1, .aload_n 0, 1), (2, .getfield 33, 3), (5, .ishl, 1), (6, .iconst 1, 1), (7, .isub, 1), (8, .istore_n 1, 1), (9, .aload_n 0, 1), (10, .getfield 38, 3), (13, .iconst 1, 1), (14, .iadd, 1), (15, .bipush 29, 2), (17, .aload_n 0, 1), (18, .getfield 33, 3), (21, .imul, 1), (22, .isub, 1), (23, .istore_n 2, 1), (24, .aload_n 0, 1), (25, .getfield 41, 3), (28, .iconst 2, 1), (29, .if_icmp .eq 15, 3), (32, .aload_n 0, 1), (33, .getfield 41, 3), (36, .iconst 1, 1), (37, .if_icmp .ne 9, 3), (40, .iload_n 2, 1), (41, .ifCond .ge 5, 3), (44, .iload_n 1, 1), (45, .ireturn, 1), (46, .iload_n 2, 1), (47, .ifCond .lt 11, 3), (50, .iload_n 2, 1), (51, .aload_n 0, 1), (52, .getfield 33, 3), (55, .if_icmp .le 5, 3), (58, .iconst 0, 1), (59, .ireturn, 1), (60, .aload_n 0, 1), (61, .getfield 41, 3), (64, .ifCond .ne 9, 3), (67, .iconst 1, 1), (68, .iload_n 2, 1), (69, .ishl, 1), (70, .goto 9, 3), (73, .iload_n 1, 1), (74, .bipush (-2), 2), (76, .iload_n 2, 1), (77, .ishl, 1), (78, .iand, 1), (79, .ireturn, 1)]
theorem dkX3_rightFor : dkAll cX3_rightFor lsX3_rightFor = true := dk_fast (by decide +kernel)
noncomputable def bfX3_rightFor_44 (qkind : Int32) (qmonth : Int32) (qday : Int32) (v1 : Int32) : Int32 := v1
noncomputable def bfX3_rightFor_58 (qkind : Int32) (qmonth : Int32) (qday : Int32) : Int32 := (0 : Int32)
noncomputable def bfX3_rightFor_79 (qkind : Int32) (qmonth : Int32) (qday : Int32) (s0 : Int32) : Int32 := s0
noncomputable def bfX3_rightFor_46 (qkind : Int32) (qmonth : Int32) (qday : Int32) (v1 : Int32) (v2 : Int32) : Int32 := if v2 < (0 : Int32) then (bfX3_rightFor_58 qkind qmonth qday) else (if v2 ≤ qmonth then (if qkind = (0 : Int32) then (bfX3_rightFor_79 qkind qmonth qday ((1 : Int32) <<< (v2 &&& 31))) else (bfX3_rightFor_79 qkind qmonth qday (v1 &&& ((-2 : Int32) <<< (v2 &&& 31))))) else (bfX3_rightFor_58 qkind qmonth qday))
noncomputable def fX3_rightFor (qkind : Int32) (qmonth : Int32) (qday : Int32) : Int32 := if qkind = (2 : Int32) then (bfX3_rightFor_44 qkind qmonth qday (((2 : Int32) <<< (qmonth &&& 31)) - (1 : Int32))) else (if qkind = (1 : Int32) then (if (0 : Int32) ≤ ((qday + (1 : Int32)) - ((29 : Int32) * qmonth)) then (bfX3_rightFor_46 qkind qmonth qday (((2 : Int32) <<< (qmonth &&& 31)) - (1 : Int32)) ((qday + (1 : Int32)) - ((29 : Int32) * qmonth))) else (bfX3_rightFor_44 qkind qmonth qday (((2 : Int32) <<< (qmonth &&& 31)) - (1 : Int32)))) else (bfX3_rightFor_46 qkind qmonth qday (((2 : Int32) <<< (qmonth &&& 31)) - (1 : Int32)) ((qday + (1 : Int32)) - ((29 : Int32) * qmonth))))
set_option maxHeartbeats 4000000 in
set_option maxRecDepth 100000 in
theorem sX3_rightFor (l : Launch) (dC : Nat → ClassId) (dI : Nat → Nat → Nat) (rp : Nat) (qplace : Int32) (qkind : Int32) (qmonth : Int32) (qday : Int32) (qknown : Int32) (qstruck : Int32) (gqplace : gi qplace 0 5) (gqmonth : gi qmonth 0 23) (gqstruck : gi qstruck 0 1) : Met l yX3_rightFor (.code yX3_rightFor cX3_rightFor 3 (some .int) :: wsGA) ({ frames := 0, cells := 0, slots := 0, locals := 0 }) (va_Pc [.ref rp] (fun U => va_P (dC, dI) vwCl [(rp, .inr (7, [.int qplace, .int qkind, .int qmonth, .int qday, .int qknown, .int qstruck]))] U.heap ∧ va_K (dC, dI) vwCl [] U ∧ nzA U)) (va_Qi (fun (r : Int32) (u : Unit) => (gi r (-2147483648) 2147483647) ∧ r = fX3_rightFor qkind qmonth qday) (fun _ _ => True) (fun _ => False)) 0 0 (fun _ => False) := by
  refine Met.ofW (cc := cX3_rightFor) (maxL := 3) (ret := (some .int)) (by decide) rfl ?_
  intro p e s m args below meth c s₁ B hml hv
  obtain ⟨rfl, hP, hK, hz⟩ := hv
  have hx := B.exec
  have hb := B.bytes
  have hr := B.returns
  have hts := atoms_spec (ws := (.code yX3_rightFor cX3_rightFor 3 (some .int) :: wsGA)) B.pre
  have hown : s.vm.findClass RX3 = some m.cls := findClass_of_methodNamed B.named
  have hlocks := B.notSynchronized
  have hS : va_S (fun _ => False) s.heap s.heap [] := va_S.rf
  have hl := lv_entry ([.ref rp]) (n := 3) (Nat.le_of_ble_eq_true rfl)
  rw [lg_entry_eq]
  generalize (lg_sl ([.ref rp]) ++ List.replicate (3 - (lg_sl ([.ref rp])).length) Slot.unset).toArray = ls at hl ⊢
  have hl : lv_has ls 3 [(0, .ref rp)] := hl
  obtain ⟨RES, hF⟩ : ∃ R9, fX3_rightFor qkind qmonth qday = R9 := ⟨_, rfl⟩
  have hR9 := hF
  refine lv_iconst (v := 2) hx hb (dk_at dkX3_rightFor 0 rfl) (by decide) ?_
  refine lv_aload_n hx hb (dk_at dkX3_rightFor 1 rfl) rfl (lv_at hl 0 rfl) ?_
  refine va_get (D := (dC, dI)) (ci := 7) (v := .int qmonth) (C := RX7) (T := TX7) (N := 6) hx hb hts (fun w h => List.mem_cons_of_mem _ (jnGA_X7 w h)) hown hK hP 0 rfl rfl 2 (by decide) (hts _ (List.mem_cons_of_mem _ mGA_493)) (fun _ h9 => h9) rfl (dk_at dkX3_rightFor 2 rfl) ?_
  refine lv_ishl hx hb (dk_at dkX3_rightFor 3 rfl) ?_
  refine lv_topi (fun x_31 ex_31 => ?_)
  refine lv_iconst (v := 1) hx hb (dk_at dkX3_rightFor 4 rfl) (by decide) ?_
  refine lv_isub hx hb (dk_at dkX3_rightFor 5 rfl) ?_
  refine lv_topi (fun x_32 ex_32 => ?_)
  refine lv_istore_n (lv' := [(1, .int x_32), (0, .ref rp)]) hx hb (dk_at dkX3_rightFor 6 rfl) rfl hl (by decide) rfl (fun ls hl => ?_)
  refine lv_aload_n hx hb (dk_at dkX3_rightFor 7 rfl) rfl (lv_at hl 1 rfl) ?_
  refine va_get (D := (dC, dI)) (ci := 7) (v := .int qday) (C := RX7) (T := TX7) (N := 6) hx hb hts (fun w h => List.mem_cons_of_mem _ (jnGA_X7 w h)) hown hK hP 0 rfl rfl 3 (by decide) (hts _ (List.mem_cons_of_mem _ mGA_497)) (fun _ h9 => h9) rfl (dk_at dkX3_rightFor 8 rfl) ?_
  refine lv_iconst (v := 1) hx hb (dk_at dkX3_rightFor 9 rfl) (by decide) ?_
  refine lv_iadd hx hb (dk_at dkX3_rightFor 10 rfl) ?_
  refine lv_topi (fun x_33 ex_33 => ?_)
  refine lv_bipush (v := 29) hx hb (dk_at dkX3_rightFor 11 rfl) (by decide) ?_
  refine lv_aload_n hx hb (dk_at dkX3_rightFor 12 rfl) rfl (lv_at hl 1 rfl) ?_
  refine va_get (D := (dC, dI)) (ci := 7) (v := .int qmonth) (C := RX7) (T := TX7) (N := 6) hx hb hts (fun w h => List.mem_cons_of_mem _ (jnGA_X7 w h)) hown hK hP 0 rfl rfl 2 (by decide) (hts _ (List.mem_cons_of_mem _ mGA_493)) (fun _ h9 => h9) rfl (dk_at dkX3_rightFor 13 rfl) ?_
  refine lv_imul hx hb (dk_at dkX3_rightFor 14 rfl) ?_
  refine lv_topi (fun x_34 ex_34 => ?_)
  have gx_34 : gi x_34 0 667 := gi_mul ex_34 (gi_c 29 29 (by decide)) gqmonth (by decide)
  refine lv_isub hx hb (dk_at dkX3_rightFor 15 rfl) ?_
  refine lv_topi (fun x_35 ex_35 => ?_)
  refine lv_istore_n (lv' := [(2, .int x_35), (1, .int x_32), (0, .ref rp)]) hx hb (dk_at dkX3_rightFor 16 rfl) rfl hl (by decide) rfl (fun ls hl => ?_)
  refine lv_aload_n hx hb (dk_at dkX3_rightFor 17 rfl) rfl (lv_at hl 2 rfl) ?_
  refine va_get (D := (dC, dI)) (ci := 7) (v := .int qkind) (C := RX7) (T := TX7) (N := 6) hx hb hts (fun w h => List.mem_cons_of_mem _ (jnGA_X7 w h)) hown hK hP 0 rfl rfl 1 (by decide) (hts _ (List.mem_cons_of_mem _ mGA_498)) (fun _ h9 => h9) rfl (dk_at dkX3_rightFor 18 rfl) ?_
  refine lv_iconst (v := 2) hx hb (dk_at dkX3_rightFor 19 rfl) (by decide) ?_
  refine lv_icmp_eq (tgt := 44) hx hb (dk_at dkX3_rightFor 20 rfl) (by decide) (fun c_36 => ?_) (fun c_36 => ?_)
  · have hF := gf_pos c_36 hF
    have g_37 : gi qkind 2 2 := gi_eq c_36 (gi_c 2 2 (by decide))
    refine lv_iload_n hx hb (dk_at dkX3_rightFor 27 rfl) rfl (lv_at hl 1 rfl) ?_
    exact W.iret (v := x_32) hx hb hr (fun t ht hW => ⟨⟨x_32, (), rfl, ⟨(gi_any x_32), by first | (rw [ex_32, ex_31]; exact hF.trans hR9.symm) | ((try rw [ex_32]); (try rw [ex_31]); exact hF.trans hR9.symm)⟩, trivial⟩, hS.F ht⟩) hS.2.2 (dk_at dkX3_rightFor 28 rfl)
  · have hF := gf_neg c_36 hF
    refine lv_aload_n hx hb (dk_at dkX3_rightFor 21 rfl) rfl (lv_at hl 2 rfl) ?_
    refine va_get (D := (dC, dI)) (ci := 7) (v := .int qkind) (C := RX7) (T := TX7) (N := 6) hx hb hts (fun w h => List.mem_cons_of_mem _ (jnGA_X7 w h)) hown hK hP 0 rfl rfl 1 (by decide) (hts _ (List.mem_cons_of_mem _ mGA_498)) (fun _ h9 => h9) rfl (dk_at dkX3_rightFor 22 rfl) ?_
    refine lv_iconst (v := 1) hx hb (dk_at dkX3_rightFor 23 rfl) (by decide) ?_
    refine lv_icmp_ne (tgt := 46) hx hb (dk_at dkX3_rightFor 24 rfl) (by decide) (fun c_38 => ?_) (fun c_38 => ?_)
    · have hF := gf_neg c_38 hF
      refine lv_iload_n hx hb (dk_at dkX3_rightFor 29 rfl) rfl (lv_at hl 0 rfl) ?_
      refine lv_if_lt (tgt := 58) hx hb (dk_at dkX3_rightFor 30 rfl) (by decide) (fun c_39 => ?_) (fun c_39 => ?_)
      · have hF := gf_pos (by rw [ex_35, ex_34, ex_33] at c_39; exact c_39) hF
        have g_40 : gi x_35 (-2147483648) (-1) := gi_lt_l c_39 (gi_any x_35) (gi_c 0 0 (by decide)) (by decide)
        refine lv_iconst (v := 0) hx hb (dk_at dkX3_rightFor 35 rfl) (by decide) ?_
        exact W.iret (v := 0) hx hb hr (fun t ht hW => ⟨⟨0, (), rfl, ⟨(gi_any 0), hF.trans hR9.symm⟩, trivial⟩, hS.F ht⟩) hS.2.2 (dk_at dkX3_rightFor 36 rfl)
      · have hF := gf_neg (by rw [ex_35, ex_34, ex_33] at c_39; exact c_39) hF
        have g_41 : gi x_35 0 2147483647 := gi_le_r (Int32.not_lt.mp c_39) (gi_c 0 0 (by decide)) (gi_any x_35)
        refine lv_iload_n hx hb (dk_at dkX3_rightFor 31 rfl) rfl (lv_at hl 0 rfl) ?_
        refine lv_aload_n hx hb (dk_at dkX3_rightFor 32 rfl) rfl (lv_at hl 2 rfl) ?_
        refine va_get (D := (dC, dI)) (ci := 7) (v := .int qmonth) (C := RX7) (T := TX7) (N := 6) hx hb hts (fun w h => List.mem_cons_of_mem _ (jnGA_X7 w h)) hown hK hP 0 rfl rfl 2 (by decide) (hts _ (List.mem_cons_of_mem _ mGA_493)) (fun _ h9 => h9) rfl (dk_at dkX3_rightFor 33 rfl) ?_
        refine lv_icmp_le (tgt := 60) hx hb (dk_at dkX3_rightFor 34 rfl) (by decide) (fun c_42 => ?_) (fun c_42 => ?_)
        · have hF := gf_pos (by rw [ex_35, ex_34, ex_33] at c_42; exact c_42) hF
          have g_43 : gi x_35 0 23 := gi_le_l c_42 g_41 gqmonth
          refine lv_aload_n hx hb (dk_at dkX3_rightFor 37 rfl) rfl (lv_at hl 2 rfl) ?_
          refine va_get (D := (dC, dI)) (ci := 7) (v := .int qkind) (C := RX7) (T := TX7) (N := 6) hx hb hts (fun w h => List.mem_cons_of_mem _ (jnGA_X7 w h)) hown hK hP 0 rfl rfl 1 (by decide) (hts _ (List.mem_cons_of_mem _ mGA_498)) (fun _ h9 => h9) rfl (dk_at dkX3_rightFor 38 rfl) ?_
          refine lv_if_ne (tgt := 73) hx hb (dk_at dkX3_rightFor 39 rfl) (by decide) (fun c_44 => ?_) (fun c_44 => ?_)
          · have hF := gf_neg c_44 hF
            refine lv_iload_n hx hb (dk_at dkX3_rightFor 44 rfl) rfl (lv_at hl 1 rfl) ?_
            refine lv_bipush (v := (-2)) hx hb (dk_at dkX3_rightFor 45 rfl) (by decide) ?_
            refine lv_iload_n hx hb (dk_at dkX3_rightFor 46 rfl) rfl (lv_at hl 0 rfl) ?_
            refine lv_ishl hx hb (dk_at dkX3_rightFor 47 rfl) ?_
            refine lv_topi (fun x_45 ex_45 => ?_)
            refine lv_iand hx hb (dk_at dkX3_rightFor 48 rfl) ?_
            refine lv_topi (fun x_46 ex_46 => ?_)
            exact W.iret (v := x_46) hx hb hr (fun t ht hW => ⟨⟨x_46, (), rfl, ⟨(gi_any x_46), by first | (rw [ex_46, ex_45, ex_35, ex_34, ex_33, ex_32, ex_31]; exact hF.trans hR9.symm) | ((try rw [ex_46]); (try rw [ex_45]); (try rw [ex_35]); (try rw [ex_34]); (try rw [ex_33]); (try rw [ex_32]); (try rw [ex_31]); exact hF.trans hR9.symm)⟩, trivial⟩, hS.F ht⟩) hS.2.2 (dk_at dkX3_rightFor 49 rfl)
          · have hF := gf_pos c_44 hF
            have g_47 : gi qkind 0 0 := gi_eq c_44 (gi_c 0 0 (by decide))
            refine lv_iconst (v := 1) hx hb (dk_at dkX3_rightFor 40 rfl) (by decide) ?_
            refine lv_iload_n hx hb (dk_at dkX3_rightFor 41 rfl) rfl (lv_at hl 0 rfl) ?_
            refine lv_ishl hx hb (dk_at dkX3_rightFor 42 rfl) ?_
            refine lv_topi (fun x_48 ex_48 => ?_)
            refine lv_goto (tgt := 79) hx hb (dk_at dkX3_rightFor 43 rfl) (by decide) ?_
            exact W.iret (v := x_48) hx hb hr (fun t ht hW => ⟨⟨x_48, (), rfl, ⟨(gi_any x_48), by first | (rw [ex_48, ex_35, ex_34, ex_33]; exact hF.trans hR9.symm) | ((try rw [ex_48]); (try rw [ex_35]); (try rw [ex_34]); (try rw [ex_33]); exact hF.trans hR9.symm)⟩, trivial⟩, hS.F ht⟩) hS.2.2 (dk_at dkX3_rightFor 49 rfl)
        · have hF := gf_neg (by rw [ex_35, ex_34, ex_33] at c_42; exact c_42) hF
          have g_49 : gi x_35 1 2147483647 := gi_lt_r (Int32.not_le.mp c_42) gqmonth g_41 (by decide)
          refine lv_iconst (v := 0) hx hb (dk_at dkX3_rightFor 35 rfl) (by decide) ?_
          exact W.iret (v := 0) hx hb hr (fun t ht hW => ⟨⟨0, (), rfl, ⟨(gi_any 0), hF.trans hR9.symm⟩, trivial⟩, hS.F ht⟩) hS.2.2 (dk_at dkX3_rightFor 36 rfl)
    · have hF := gf_pos c_38 hF
      have g_50 : gi qkind 1 1 := gi_eq c_38 (gi_c 1 1 (by decide))
      refine lv_iload_n hx hb (dk_at dkX3_rightFor 25 rfl) rfl (lv_at hl 0 rfl) ?_
      refine lv_if_ge (tgt := 46) hx hb (dk_at dkX3_rightFor 26 rfl) (by decide) (fun c_51 => ?_) (fun c_51 => ?_)
      · have hF := gf_pos (by rw [ex_35, ex_34, ex_33] at c_51; exact c_51) hF
        have g_52 : gi x_35 0 2147483647 := gi_le_r c_51 (gi_c 0 0 (by decide)) (gi_any x_35)
        refine lv_iload_n hx hb (dk_at dkX3_rightFor 29 rfl) rfl (lv_at hl 0 rfl) ?_
        refine lv_if_lt (tgt := 58) hx hb (dk_at dkX3_rightFor 30 rfl) (by decide) (fun c_53 => absurd c_53 (gi_no_lt g_52 (gi_c 0 0 (by decide)) (by decide))) (fun c_53 => ?_)
        have hF := gf_neg (by rw [ex_35, ex_34, ex_33] at c_53; exact c_53) hF
        refine lv_iload_n hx hb (dk_at dkX3_rightFor 31 rfl) rfl (lv_at hl 0 rfl) ?_
        refine lv_aload_n hx hb (dk_at dkX3_rightFor 32 rfl) rfl (lv_at hl 2 rfl) ?_
        refine va_get (D := (dC, dI)) (ci := 7) (v := .int qmonth) (C := RX7) (T := TX7) (N := 6) hx hb hts (fun w h => List.mem_cons_of_mem _ (jnGA_X7 w h)) hown hK hP 0 rfl rfl 2 (by decide) (hts _ (List.mem_cons_of_mem _ mGA_493)) (fun _ h9 => h9) rfl (dk_at dkX3_rightFor 33 rfl) ?_
        refine lv_icmp_le (tgt := 60) hx hb (dk_at dkX3_rightFor 34 rfl) (by decide) (fun c_54 => ?_) (fun c_54 => ?_)
        · have hF := gf_pos (by rw [ex_35, ex_34, ex_33] at c_54; exact c_54) hF
          have g_55 : gi x_35 0 23 := gi_le_l c_54 g_52 gqmonth
          refine lv_aload_n hx hb (dk_at dkX3_rightFor 37 rfl) rfl (lv_at hl 2 rfl) ?_
          refine va_get (D := (dC, dI)) (ci := 7) (v := .int qkind) (C := RX7) (T := TX7) (N := 6) hx hb hts (fun w h => List.mem_cons_of_mem _ (jnGA_X7 w h)) hown hK hP 0 rfl rfl 1 (by decide) (hts _ (List.mem_cons_of_mem _ mGA_498)) (fun _ h9 => h9) rfl (dk_at dkX3_rightFor 38 rfl) ?_
          refine lv_if_ne (tgt := 73) hx hb (dk_at dkX3_rightFor 39 rfl) (by decide) (fun c_56 => ?_) (fun c_56 => absurd c_56 (gi_no_eq g_50 (gi_c 0 0 (by decide)) (by decide)))
          have hF := gf_neg c_56 hF
          refine lv_iload_n hx hb (dk_at dkX3_rightFor 44 rfl) rfl (lv_at hl 1 rfl) ?_
          refine lv_bipush (v := (-2)) hx hb (dk_at dkX3_rightFor 45 rfl) (by decide) ?_
          refine lv_iload_n hx hb (dk_at dkX3_rightFor 46 rfl) rfl (lv_at hl 0 rfl) ?_
          refine lv_ishl hx hb (dk_at dkX3_rightFor 47 rfl) ?_
          refine lv_topi (fun x_57 ex_57 => ?_)
          refine lv_iand hx hb (dk_at dkX3_rightFor 48 rfl) ?_
          refine lv_topi (fun x_58 ex_58 => ?_)
          exact W.iret (v := x_58) hx hb hr (fun t ht hW => ⟨⟨x_58, (), rfl, ⟨(gi_any x_58), by first | (rw [ex_58, ex_57, ex_35, ex_34, ex_33, ex_32, ex_31]; exact hF.trans hR9.symm) | ((try rw [ex_58]); (try rw [ex_57]); (try rw [ex_35]); (try rw [ex_34]); (try rw [ex_33]); (try rw [ex_32]); (try rw [ex_31]); exact hF.trans hR9.symm)⟩, trivial⟩, hS.F ht⟩) hS.2.2 (dk_at dkX3_rightFor 49 rfl)
        · have hF := gf_neg (by rw [ex_35, ex_34, ex_33] at c_54; exact c_54) hF
          have g_59 : gi x_35 1 2147483647 := gi_lt_r (Int32.not_le.mp c_54) gqmonth g_52 (by decide)
          refine lv_iconst (v := 0) hx hb (dk_at dkX3_rightFor 35 rfl) (by decide) ?_
          exact W.iret (v := 0) hx hb hr (fun t ht hW => ⟨⟨0, (), rfl, ⟨(gi_any 0), hF.trans hR9.symm⟩, trivial⟩, hS.F ht⟩) hS.2.2 (dk_at dkX3_rightFor 36 rfl)
      · have hF := gf_neg (by rw [ex_35, ex_34, ex_33] at c_51; exact c_51) hF
        have g_60 : gi x_35 (-2147483648) (-1) := gi_lt_l (Int32.not_le.mp c_51) (gi_any x_35) (gi_c 0 0 (by decide)) (by decide)
        refine lv_iload_n hx hb (dk_at dkX3_rightFor 27 rfl) rfl (lv_at hl 1 rfl) ?_
        exact W.iret (v := x_32) hx hb hr (fun t ht hW => ⟨⟨x_32, (), rfl, ⟨(gi_any x_32), by first | (rw [ex_32, ex_31]; exact hF.trans hR9.symm) | ((try rw [ex_32]); (try rw [ex_31]); exact hF.trans hR9.symm)⟩, trivial⟩, hS.F ht⟩) hS.2.2 (dk_at dkX3_rightFor 28 rfl)
noncomputable def lsX3_narrow : List (Nat × Instr × Nat) := [(0, .aload_n 0, 1), (1, .getfield 9, 3), (4, .aload_n 1, 1), (5, .getfield 33, 3), (8, .dup2, 1), (9, .iaload, 1), (10, .aload_n 1, 1), (11, .invokestatic 44, 3), (14, .iand, 1), (15, .iastore, 1), (16, .return_, 1)]
theorem dkX3_narrow : dkAll cX3_narrow lsX3_narrow = true := dk_fast (by decide +kernel)
noncomputable def fX3_narrow (fal : Nat → Int32) (qkind : Int32) (qmonth : Int32) (qday : Int32) : (Nat → Int32) := cal (fun o1 => (upd fal qmonth.toNatClampNeg ((fal qmonth.toNatClampNeg) &&& o1))) (fX3_rightFor qkind qmonth qday)
abbrev pb_sX3_narrow (dC : Nat → ClassId) (dI : Nat → Nat → Nat) (A9 : Nat → Prop) (h0 : Nat) (al : Nat) (rp : Nat) (months : Int32) (full : Int32) (lean : Int32) (on : Nat) (kal : ClassId) (fal : Nat → Int32) (qplace : Int32) (qkind : Int32) (qmonth : Int32) (qday : Int32) (qknown : Int32) (qstruck : Int32) (z1 : Nat → Int32) (t : State) : Prop := z1 = fX3_narrow fal qkind qmonth qday ∧ va_P (dC, dI) vwCl [(h0, .inr (3, [.int months, .int full, .int lean, .ref al, .ref on])), (al, .inl (kal, 25, .inl z1))] t.heap ∧ va_D A9 [(h0, .inr (3, [.int months, .int full, .int lean, .ref al, .ref on])), (al, .inl (kal, 25, .inl z1))]
set_option maxHeartbeats 4000000 in
set_option maxRecDepth 100000 in
theorem sX3_narrow (l : Launch) (dC : Nat → ClassId) (dI : Nat → Nat → Nat) (sz : Nat) (h0 : Nat) (al : Nat) (rp : Nat) (months : Int32) (full : Int32) (lean : Int32) (on : Nat) (kal : ClassId) (fal : Nat → Int32) (qplace : Int32) (qkind : Int32) (qmonth : Int32) (qday : Int32) (qknown : Int32) (qstruck : Int32) (gmonths : gi months 0 24) (gfull : gi full 0 5) (glean : gi lean 0 5) (gqplace : gi qplace 0 5) (gqmonth : gi qmonth 0 23) (gqstruck : gi qstruck 0 1) : Met l yX3_narrow (.code yX3_narrow cX3_narrow 2 none :: wsGA) ({ frames := 1, cells := 0, slots := 0, locals := 22 }) (va_Pc [.ref h0, .ref rp] (fun U => U.heap.size = sz ∧ va_P (dC, dI) vwCl [(h0, .inr (3, [.int months, .int full, .int lean, .ref al, .ref on])), (al, .inl (kal, 25, .inl fal))] U.heap ∧ va_K (dC, dI) vwCl [(kal, .int)] U ∧ va_D (fun _ => True) [(h0, .inr (3, [.int months, .int full, .int lean, .ref al, .ref on])), (al, .inl (kal, 25, .inl fal))] ∧ nzA U ∧ va_P (dC, dI) vwCl [(rp, .inr (7, [.int qplace, .int qkind, .int qmonth, .int qday, .int qknown, .int qstruck]))] U.heap ∧ gz_ap (va_A [(h0, .inr (3, [.int months, .int full, .int lean, .ref al, .ref on])), (al, .inl (kal, 25, .inl fal))] sz) [(rp, .inr (7, [.int qplace, .int qkind, .int qmonth, .int qday, .int qknown, .int qstruck]))])) (va_Qv (fun (u : Unit) => True) (fun _ t => ∃ (z1 : Nat → Int32), pb_sX3_narrow dC dI (va_A [(h0, .inr (3, [.int months, .int full, .int lean, .ref al, .ref on])), (al, .inl (kal, 25, .inl fal))] sz) h0 al rp months full lean on kal fal qplace qkind qmonth qday qknown qstruck z1 t) (va_A [(h0, .inr (3, [.int months, .int full, .int lean, .ref al, .ref on])), (al, .inl (kal, 25, .inl fal))] sz)) 0 0 (va_A [(h0, .inr (3, [.int months, .int full, .int lean, .ref al, .ref on])), (al, .inl (kal, 25, .inl fal))] sz) := by
  refine Met.ofW (cc := cX3_narrow) (maxL := 2) (ret := none) (by decide) rfl ?_
  intro p e s m args below meth c s₁ B hml hv
  obtain ⟨rfl, hsz, hP, hK, hD0, hz, hR, hRA⟩ := hv
  have hx := B.exec
  have hb := B.bytes
  have hr := B.returns
  have hts := atoms_spec (ws := (.code yX3_narrow cX3_narrow 2 none :: wsGA)) B.pre
  have hown : s.vm.findClass RX3 = some m.cls := findClass_of_methodNamed B.named
  have hlocks := B.notSynchronized
  subst hsz
  have hD := hD0.self (sz := s.heap.size)
  generalize hAe : va_A [(h0, .inr (3, [.int months, .int full, .int lean, .ref al, .ref on])), (al, .inl (kal, 25, .inl fal))] s.heap.size = A at hD hRA ⊢
  have hA : ∀ q : Nat, s.heap.size ≤ q → A q := fun q h => by rw [← hAe]; exact Or.inr h
  have hS : va_S A s.heap s.heap [] := va_S.rf
  have hl := lv_entry ([.ref h0, .ref rp]) (n := 2) (Nat.le_of_ble_eq_true rfl)
  rw [lg_entry_eq]
  generalize (lg_sl ([.ref h0, .ref rp]) ++ List.replicate (2 - (lg_sl ([.ref h0, .ref rp])).length) Slot.unset).toArray = ls at hl ⊢
  have hl : lv_has ls 2 [(0, .ref h0), (1, .ref rp)] := hl
  obtain ⟨RES, hF⟩ : ∃ R9, fX3_narrow fal qkind qmonth qday = R9 := ⟨_, rfl⟩
  have hR9 := hF
  refine lv_aload_n hx hb (dk_at dkX3_narrow 0 rfl) rfl (lv_at hl 0 rfl) ?_
  refine va_get (D := (dC, dI)) (ci := 3) (v := .ref al) (C := RX3) (T := TX3) (N := 5) hx hb hts (fun w h => List.mem_cons_of_mem _ (jnGA_X3 w h)) hown hK hP 0 rfl rfl 3 (by decide) (hts _ (List.mem_cons_of_mem _ mGA_94)) (fun _ h9 => h9) rfl (dk_at dkX3_narrow 1 rfl) ?_
  refine lv_aload_n hx hb (dk_at dkX3_narrow 2 rfl) rfl (lv_at hl 1 rfl) ?_
  refine va_get (D := (dC, dI)) (ci := 7) (v := .int qmonth) (C := RX7) (T := TX7) (N := 6) hx hb hts (fun w h => List.mem_cons_of_mem _ (jnGA_X7 w h)) hown hK (gz_ro hR hRA hS) 0 rfl rfl 2 (by decide) (hts _ (List.mem_cons_of_mem _ mGA_493)) (fun _ h9 => h9) rfl (dk_at dkX3_narrow 3 rfl) ?_
  refine lv_dup2_11 hx hb (dk_at dkX3_narrow 4 rfl) rfl rfl ?_
  refine va_iald hx hb hK hP 1 0 rfl rfl (gi_in gqmonth (by decide)) (dk_at dkX3_narrow 5 rfl) ?_
  refine lv_topi (fun x_9 ex_9 => ?_)
  refine lv_aload_n hx hb (dk_at dkX3_narrow 6 rfl) rfl (lv_at hl 1 rfl) ?_
  have hPc : va_P (dC, dI) vwCl [(rp, .inr (7, [.int qplace, .int qkind, .int qmonth, .int qday, .int qknown, .int qstruck]))] s.heap := ((gz_ro hR hRA hS).sub [0] rfl)
  have hKc := hK.sub (tys' := []) [] rfl
  refine va_calli (va_runS (As := [.ref rp]) (rest := [.int x_9, .int qmonth, .ref al]) ⟨hx, hb, hml, hown, hts⟩ (sX3_rightFor l dC dI rp qplace qkind qmonth qday qknown qstruck gqplace gqmonth gqstruck) (cwS 1 hts (gz_gS mGA_494 mGA_495 mGA_18 mGA_496 goodGA) rfl rfl rfl hdS_X3_rightFor_X3_1 ⟨Nat.le_of_ble_eq_true rfl, Nat.le_of_ble_eq_true rfl⟩) ⟨bl_I (bl_a bl_P (bl_a bl_K bl_nz)), fun U hU hW => ⟨rfl, by rw [hU]; exact hPc, va_K.moved hW.alike hKc, nzA_warm hW hz⟩⟩ rfl rfl hl.1 rfl (lv_room (Nat.le_of_ble_eq_true rfl)) (dk_at dkX3_narrow 7 rfl) ⟨Nat.zero_le _, Nat.zero_le _⟩) hS (fun q _ h => h.elim) (fun q h => h.elim) (fun r_10 u t H1 locs ht hvm hw hB hz1 hk1 hS => ?_)
  obtain ⟨hw, hE⟩ := hw
  have hP := gz_keep hP hk1
  have hF := gf_call (a := r_10) hE hF
  generalize H1 = H at hP hS ⊢
  refine lv_iand hx hb (dk_at dkX3_narrow 8 rfl) ?_
  refine lv_topi (fun x_11 ex_11 => ?_)
  refine va_iast hx hb hK hP hD hS 1 0 rfl rfl (gi_in gqmonth (by decide)) (dk_at dkX3_narrow 9 rfl) (fun H locs hP hD hS => ?_)
  obtain ⟨hP, hD⟩ := gz_both (w := [(h0, .inr (3, [.int months, .int full, .int lean, .ref al, .ref on])), (al, .inl (kal, 25, .inl (upd fal (qmonth : Int32).toNatClampNeg x_11)))]) hP hD
  generalize ef_12 : upd fal (qmonth : Int32).toNatClampNeg x_11 = f_12 at hP hD
  exact W.vret hx hb hr (fun t ht hW => ⟨⟨(), rfl, trivial, f_12, by first | (rw [← ef_12, ex_11, ex_9]; exact hF.trans hR9.symm) | ((try rw [← ef_12]); (try rw [ex_11]); (try rw [ex_9]); exact hF.trans hR9.symm), by rw [ht]; exact hP, hD⟩, hS.F ht⟩) hS.2.2 (dk_at dkX3_narrow 10 rfl)
noncomputable def lsX7_isKnownBy : List (Nat × Instr × Nat) := [(0, .aload_n 0, 1), (1, .getfield 7, 3), (4, .ifCond .ne 15, 3), (7, .aload_n 0, 1), (8, .getfield 13, 3), (11, .iload_n 1, 1), (12, .if_icmp .gt 7, 3), (15, .iconst 1, 1), (16, .goto 4, 3), (19, .iconst 0, 1), (20, .ireturn, 1)]
theorem dkX7_isKnownBy : dkAll cX7_isKnownBy lsX7_isKnownBy = true := dk_fast (by decide +kernel)
noncomputable def bfX7_isKnownBy_20 (known : Int32) (struck : Int32) (p0 : Int32) (s0 : Int32) : Int32 := s0
noncomputable def bfX7_isKnownBy_19 (known : Int32) (struck : Int32) (p0 : Int32) : Int32 := bfX7_isKnownBy_20 known struck p0 (0 : Int32)
noncomputable def fX7_isKnownBy (known : Int32) (struck : Int32) (p0 : Int32) : Int32 := if struck = (0 : Int32) then (if p0 < known then (bfX7_isKnownBy_19 known struck p0) else (bfX7_isKnownBy_20 known struck p0 (1 : Int32))) else (bfX7_isKnownBy_19 known struck p0)
set_option maxHeartbeats 4000000 in
set_option maxRecDepth 100000 in
theorem sX7_isKnownBy (l : Launch) (dC : Nat → ClassId) (dI : Nat → Nat → Nat) (h0 : Nat) (place : Int32) (kind : Int32) (month : Int32) (day : Int32) (known : Int32) (struck : Int32) (p0 : Int32) (gplace : gi place 0 5) (gmonth : gi month 0 23) (gstruck : gi struck 0 1) : Met l yX7_isKnownBy (.code yX7_isKnownBy cX7_isKnownBy 2 (some .boolean) :: wsGA) ({ frames := 0, cells := 0, slots := 0, locals := 0 }) (va_Pc [.ref h0, .int p0] (fun U => va_P (dC, dI) vwCl [(h0, .inr (7, [.int place, .int kind, .int month, .int day, .int known, .int struck]))] U.heap ∧ va_K (dC, dI) vwCl [] U ∧ nzA U)) (va_Qi (fun (r : Int32) (u : Unit) => (gi r 0 1) ∧ r = fX7_isKnownBy known struck p0) (fun _ _ => True) (fun _ => False)) 0 0 (fun _ => False) := by
  refine Met.ofW (cc := cX7_isKnownBy) (maxL := 2) (ret := (some .boolean)) (by decide) rfl ?_
  intro p e s m args below meth c s₁ B hml hv
  obtain ⟨rfl, hP, hK, hz⟩ := hv
  have hx := B.exec
  have hb := B.bytes
  have hr := B.returns
  have hts := atoms_spec (ws := (.code yX7_isKnownBy cX7_isKnownBy 2 (some .boolean) :: wsGA)) B.pre
  have hown : s.vm.findClass RX7 = some m.cls := findClass_of_methodNamed B.named
  have hlocks := B.notSynchronized
  have hS : va_S (fun _ => False) s.heap s.heap [] := va_S.rf
  have hl := lv_entry ([.ref h0, .int p0]) (n := 2) (Nat.le_of_ble_eq_true rfl)
  rw [lg_entry_eq]
  generalize (lg_sl ([.ref h0, .int p0]) ++ List.replicate (2 - (lg_sl ([.ref h0, .int p0])).length) Slot.unset).toArray = ls at hl ⊢
  have hl : lv_has ls 2 [(0, .ref h0), (1, .int p0)] := hl
  obtain ⟨RES, hF⟩ : ∃ R9, fX7_isKnownBy known struck p0 = R9 := ⟨_, rfl⟩
  have hR9 := hF
  refine lv_aload_n hx hb (dk_at dkX7_isKnownBy 0 rfl) rfl (lv_at hl 0 rfl) ?_
  refine va_get (D := (dC, dI)) (ci := 7) (v := .int struck) (C := RX7) (T := TX7) (N := 6) hx hb hts (fun w h => List.mem_cons_of_mem _ (jnGA_X7 w h)) hown hK hP 0 rfl rfl 5 (by decide) (hts _ (List.mem_cons_of_mem _ mGA_441)) (fun _ h9 => h9) rfl (dk_at dkX7_isKnownBy 1 rfl) ?_
  refine lv_if_ne (tgt := 19) hx hb (dk_at dkX7_isKnownBy 2 rfl) (by decide) (fun c_7 => ?_) (fun c_7 => ?_)
  · have hF := gf_neg c_7 hF
    have g_8 : gi struck 1 1 := gi_ne_lo c_7 gstruck (gi_c 0 0 (by decide)) (by decide)
    refine lv_iconst (v := 0) hx hb (dk_at dkX7_isKnownBy 9 rfl) (by decide) ?_
    exact W.zret (v := 0) hx hb hr (by decide) (fun t ht hW => ⟨⟨0, (), rfl, ⟨(gi_w (gi_c 0 0 (by decide)) (by decide)), hF.trans hR9.symm⟩, trivial⟩, hS.F ht⟩) hS.2.2 (dk_at dkX7_isKnownBy 10 rfl)
  · have hF := gf_pos c_7 hF
    have g_9 : gi struck 0 0 := gi_eq c_7 (gi_c 0 0 (by decide))
    refine lv_aload_n hx hb (dk_at dkX7_isKnownBy 3 rfl) rfl (lv_at hl 0 rfl) ?_
    refine va_get (D := (dC, dI)) (ci := 7) (v := .int known) (C := RX7) (T := TX7) (N := 6) hx hb hts (fun w h => List.mem_cons_of_mem _ (jnGA_X7 w h)) hown hK hP 0 rfl rfl 4 (by decide) (hts _ (List.mem_cons_of_mem _ mGA_442)) (fun _ h9 => h9) rfl (dk_at dkX7_isKnownBy 4 rfl) ?_
    refine lv_iload_n hx hb (dk_at dkX7_isKnownBy 5 rfl) rfl (lv_at hl 1 rfl) ?_
    refine lv_icmp_gt (tgt := 19) hx hb (dk_at dkX7_isKnownBy 6 rfl) (by decide) (fun c_10 => ?_) (fun c_10 => ?_)
    · have hF := gf_pos c_10 hF
      have g_11 : gi p0 (-2147483648) 2147483646 := gi_lt_l c_10 (gi_any p0) (gi_any known) (by decide)
      have g_12 : gi known (-2147483647) 2147483647 := gi_lt_r c_10 (gi_any p0) (gi_any known) (by decide)
      refine lv_iconst (v := 0) hx hb (dk_at dkX7_isKnownBy 9 rfl) (by decide) ?_
      exact W.zret (v := 0) hx hb hr (by decide) (fun t ht hW => ⟨⟨0, (), rfl, ⟨(gi_w (gi_c 0 0 (by decide)) (by decide)), hF.trans hR9.symm⟩, trivial⟩, hS.F ht⟩) hS.2.2 (dk_at dkX7_isKnownBy 10 rfl)
    · have hF := gf_neg c_10 hF
      refine lv_iconst (v := 1) hx hb (dk_at dkX7_isKnownBy 7 rfl) (by decide) ?_
      refine lv_goto (tgt := 20) hx hb (dk_at dkX7_isKnownBy 8 rfl) (by decide) ?_
      exact W.zret (v := 1) hx hb hr (by decide) (fun t ht hW => ⟨⟨1, (), rfl, ⟨(gi_w (gi_c 1 1 (by decide)) (by decide)), hF.trans hR9.symm⟩, trivial⟩, hS.F ht⟩) hS.2.2 (dk_at dkX7_isKnownBy 10 rfl)
noncomputable def lsJ7_fill_53178 : List (Nat × Instr × Nat) := [(0, .iconst 0, 1), (1, .istore_n 2, 1), (2, .aload_n 0, 1), (3, .arraylength, 1), (4, .istore_n 3, 1), (5, .iload_n 2, 1), (6, .iload_n 3, 1), (7, .if_icmp .ge 13, 3), (10, .aload_n 0, 1), (11, .iload_n 2, 1), (12, .iload_n 1, 1), (13, .iastore, 1), (14, .iinc 2 1, 3), (17, .goto (-12), 3), (20, .return_, 1)]
theorem dkJ7_fill_53178 : dkAll cJ7_fill_53178 lsJ7_fill_53178 = true := dk_fast (by decide +kernel)
noncomputable def dfJ7_fill_53178_5 (fa : Nat → Int32) (p1 : Int32) (K : (Int32 → Int32 → (Nat → Int32) → ((Nat → Int32)))) (v2 : Int32) (v3 : Int32) (z0 : Nat → Int32) : (Nat → Int32) := if v3 ≤ v2 then z0 else (K (v2 + (1 : Int32)) v3 (upd z0 v2.toNatClampNeg p1))
noncomputable def lfJ7_fill_53178 (fa : Nat → Int32) (p1 : Int32) (z : Nat) : (Int32 → Int32 → (Nat → Int32) → ((Nat → Int32))) := Nat.rec (motive := fun _ => (Int32 → Int32 → (Nat → Int32) → ((Nat → Int32)))) (fun _ _ z0 => (z0)) (fun _ K => dfJ7_fill_53178_5 fa p1 K) z
noncomputable def fJ7_fill_53178 (fa : Nat → Int32) (p1 : Int32) : (Nat → Int32) := (lfJ7_fill_53178 fa p1 1000000000) (0 : Int32) (325 : Int32) fa
set_option maxHeartbeats 4000000 in
set_option maxRecDepth 100000 in
theorem lp_sJ7_fill325 {p : Program} {l : Launch} {e : Env} {R : Room} {s : State} {m : MethodId} {args : Array Value} {below : List Frame} {meth : Method} {c : Code} {Q : State → Prop} {A : Nat → Prop} {cells slots : Nat} {dC : Nat → ClassId} {dI : Nat → Nat → Nat} {RES : (Nat → Int32)} (a : Nat) (ka : ClassId) (fa : Nat → Int32) (p1 : Int32)  (hx : p.tables.exec = Jvm.exec) (hb : c.code = cJ7_fill_53178) (hml : c.maxLocals = 4) (hown : s.vm.findClass RJ7 = some m.cls) (hts : ∀ w ∈ ((.code yJ7_fill_53178 cJ7_fill_53178 4 none :: wsGA) : List Cond), w.before args s = true) (hK : va_K (dC, dI) vwCl [(ka, .int)] s) (hz : nzA s) (hA : ∀ q : Nat, s.heap.size ≤ q → A q) (hRf : 0 ≤ R.frames) (hRl : 0 ≤ R.locals) (hRc : cells ≤ R.cells) (hRs : slots ≤ R.slots) (kr20 : ∀ (z0 : Nat → Int32) (H : Heap) (locs : List Loc) (ls : Array Slot), z0 = RES → va_P (dC, dI) vwCl [(a, .inl (ka, 325, .inl z0))] H → va_D A [(a, .inl (ka, 325, .inl z0))] → va_S A s.heap H locs → lv_has ls 4 [] → W p l e R s m args below meth c H locs cells slots Q (F0 m 20 ls [])) : ∀ z : Nat, (∀ (v2 : Int32) (v3 : Int32) (z0 : Nat → Int32) (H : Heap) (locs : List Loc) (ls : Array Slot), gi v2 0 599 → gi v3 325 325 → (lfJ7_fill_53178 fa p1 z) v2 v3 z0 = RES → 1199 + (-2) * v2.toInt < (z : Int) → va_P (dC, dI) vwCl [(a, .inl (ka, 325, .inl z0))] H → va_D A [(a, .inl (ka, 325, .inl z0))] → va_S A s.heap H locs → lv_has ls 4 [(0, .ref a), (1, .int p1), (2, .int v2), (3, .int v3)] → W p l e R s m args below meth c H locs cells slots Q (F0 m 5 ls [])) := by
  intro z
  induction z with
  | zero =>
    intro v2 v3 z0 H locs ls gv2 gv3 hF hmu hP hD hS hl
    exact absurd hmu (by have hv21 := gv2.1; have hv22 := gv2.2; omega)
  | succ z ih =>
      intro v2 v3 z0 H locs ls gv2 gv3 hF hmu hP hD hS hl
      have hF : dfJ7_fill_53178_5 fa p1 (lfJ7_fill_53178 fa p1 z) v2 v3 z0 = RES := hF
      refine lv_iload_n hx hb (dk_at dkJ7_fill_53178 5 rfl) rfl (lv_at hl 2 rfl) ?_
      refine lv_iload_n hx hb (dk_at dkJ7_fill_53178 6 rfl) rfl (lv_at hl 3 rfl) ?_
      refine lv_icmp_ge (tgt := 20) hx hb (dk_at dkJ7_fill_53178 7 rfl) (by decide) (fun c_84 => ?_) (fun c_84 => ?_)
      · have hF := gf_pos c_84 hF
        have g_85 : gi v2 325 599 := gi_le_r c_84 gv3 gv2
        exact kr20 z0 _ _ _ hF hP hD hS (lv_sub hl [] rfl)
      · have hF := gf_neg c_84 hF
        have g_86 : gi v2 0 324 := gi_lt_l (Int32.not_le.mp c_84) gv2 gv3 (by decide)
        refine lv_aload_n hx hb (dk_at dkJ7_fill_53178 8 rfl) rfl (lv_at hl 0 rfl) ?_
        refine lv_iload_n hx hb (dk_at dkJ7_fill_53178 9 rfl) rfl (lv_at hl 2 rfl) ?_
        refine lv_iload_n hx hb (dk_at dkJ7_fill_53178 10 rfl) rfl (lv_at hl 1 rfl) ?_
        refine va_iast hx hb hK hP hD hS 0 0 rfl rfl (gi_in g_86 (by decide)) (dk_at dkJ7_fill_53178 11 rfl) (fun H locs hP hD hS => ?_)
        obtain ⟨hP, hD⟩ := gz_both (w := [(a, .inl (ka, 325, .inl (upd z0 (v2 : Int32).toNatClampNeg p1)))]) hP hD
        generalize ef_87 : upd z0 (v2 : Int32).toNatClampNeg p1 = f_87 at hP hD
        obtain ⟨x_88, ex_88⟩ : ∃ y : Int32, y = v2 + 1 := ⟨_, rfl⟩
        have gx_88 : gi x_88 1 325 := gi_add ex_88 g_86 (gi_c 1 1 (by decide)) (by decide)
        refine lv_iinc (v := x_88) (lv' := [(2, .int x_88), (0, .ref a), (1, .int p1), (3, .int v3)]) hx hb (dk_at dkJ7_fill_53178 12 rfl) hl (k := 2) rfl (by rw [ex_88]; rfl) (by decide) rfl (fun ls hl => ?_)
        refine lv_goto (tgt := 5) hx hb (dk_at dkJ7_fill_53178 13 rfl) (by decide) ?_
        exact ih x_88 v3 f_87 _ _ _ (gi_w gx_88 (by decide)) gv3 (by first | (rw [ex_88, ← ef_87]; exact hF) | ((try rw [ex_88]); (try rw [← ef_87]); exact hF)) (by have av2 := gv2.1; have bv2 := gv2.2; have qgx_88 := gx_88.1; have rgx_88 := gx_88.2; have igx_88 : x_88.toInt = v2.toInt + 1 := (by have hc1 : (1 : Int32).toInt = 1 := (by decide); have h9 := gi_addE ex_88 g_86 (gi_c 1 1 (by decide)) (by decide); rw [hc1] at h9; exact h9); have qgv2 := g_86.1; have rgv2 := g_86.2; omega) hP hD hS (lv_sub hl [1, 2, 0, 3] rfl)
abbrev pb_sJ7_fill325 (dC : Nat → ClassId) (dI : Nat → Nat → Nat) (A9 : Nat → Prop) (a : Nat) (ka : ClassId) (fa : Nat → Int32) (p1 : Int32) (z0 : Nat → Int32) (t : State) : Prop := z0 = fJ7_fill_53178 fa p1 ∧ va_P (dC, dI) vwCl [(a, .inl (ka, 325, .inl z0))] t.heap ∧ va_D A9 [(a, .inl (ka, 325, .inl z0))]
set_option maxHeartbeats 4000000 in
set_option maxRecDepth 100000 in
theorem sJ7_fill325 (l : Launch) (dC : Nat → ClassId) (dI : Nat → Nat → Nat) (sz : Nat) (a : Nat) (ka : ClassId) (fa : Nat → Int32) (p1 : Int32)  : Met l yJ7_fill_53178 (.code yJ7_fill_53178 cJ7_fill_53178 4 none :: wsGA) ({ frames := 0, cells := 0, slots := 0, locals := 0 }) (va_Pc [.ref a, .int p1] (fun U => U.heap.size = sz ∧ va_P (dC, dI) vwCl [(a, .inl (ka, 325, .inl fa))] U.heap ∧ va_K (dC, dI) vwCl [(ka, .int)] U ∧ va_D (fun _ => True) [(a, .inl (ka, 325, .inl fa))] ∧ nzA U)) (va_Qv (fun (u : Unit) => True) (fun _ t => ∃ (z0 : Nat → Int32), pb_sJ7_fill325 dC dI (va_A [(a, .inl (ka, 325, .inl fa))] sz) a ka fa p1 z0 t) (va_A [(a, .inl (ka, 325, .inl fa))] sz)) 0 0 (va_A [(a, .inl (ka, 325, .inl fa))] sz) := by
  refine Met.ofW (cc := cJ7_fill_53178) (maxL := 4) (ret := none) (by decide) rfl ?_
  intro p e s m args below meth c s₁ B hml hv
  obtain ⟨rfl, hsz, hP, hK, hD0, hz⟩ := hv
  have hx := B.exec
  have hb := B.bytes
  have hr := B.returns
  have hts := atoms_spec (ws := (.code yJ7_fill_53178 cJ7_fill_53178 4 none :: wsGA)) B.pre
  have hown : s.vm.findClass RJ7 = some m.cls := findClass_of_methodNamed B.named
  have hlocks := B.notSynchronized
  subst hsz
  have hD := hD0.self (sz := s.heap.size)
  generalize hAe : va_A [(a, .inl (ka, 325, .inl fa))] s.heap.size = A at hD ⊢
  have hA : ∀ q : Nat, s.heap.size ≤ q → A q := fun q h => by rw [← hAe]; exact Or.inr h
  have hS : va_S A s.heap s.heap [] := va_S.rf
  have hl := lv_entry ([.ref a, .int p1]) (n := 4) (Nat.le_of_ble_eq_true rfl)
  rw [lg_entry_eq]
  generalize (lg_sl ([.ref a, .int p1]) ++ List.replicate (4 - (lg_sl ([.ref a, .int p1])).length) Slot.unset).toArray = ls at hl ⊢
  have hl : lv_has ls 4 [(0, .ref a), (1, .int p1)] := hl
  obtain ⟨RES, hF⟩ : ∃ R9, fJ7_fill_53178 fa p1 = R9 := ⟨_, rfl⟩
  have hR9 := hF
  refine lv_iconst (v := 0) hx hb (dk_at dkJ7_fill_53178 0 rfl) (by decide) ?_
  refine lv_istore_n (lv' := [(2, .int 0), (0, .ref a), (1, .int p1)]) hx hb (dk_at dkJ7_fill_53178 1 rfl) rfl hl (by decide) rfl (fun ls hl => ?_)
  refine lv_aload_n hx hb (dk_at dkJ7_fill_53178 2 rfl) rfl (lv_at hl 1 rfl) ?_
  refine va_alen (v := 325) hx hb hK hP 0 0 rfl rfl rfl (dk_at dkJ7_fill_53178 3 rfl) ?_
  refine lv_istore_n (lv' := [(3, .int 325), (2, .int 0), (0, .ref a), (1, .int p1)]) hx hb (dk_at dkJ7_fill_53178 4 rfl) rfl hl (by decide) rfl (fun ls hl => ?_)
  refine (lp_sJ7_fill325 a ka fa p1  hx hb hml hown hts hK hz hA (Nat.le_of_ble_eq_true rfl) (Nat.le_of_ble_eq_true rfl) (Nat.zero_le _) (Nat.zero_le _) (fun z0 H locs ls hF hP hD hS hl => ?_) 1000000000) 0 325 fa _ _ _ (gi_w (gi_c 0 0 (by decide)) (by decide)) (gi_c 325 325 (by decide)) hF (by have k0 : (0 : Int32).toInt = 0 := (by decide); omega) hP hD hS (lv_sub hl [2, 3, 1, 0] rfl)
  · skip
    exact W.vret hx hb hr (fun t ht hW => ⟨⟨(), rfl, trivial, z0, hF.trans hR9.symm, by rw [ht]; exact hP, hD⟩, hS.F ht⟩) hS.2.2 (dk_at dkJ7_fill_53178 14 rfl)
noncomputable def dfJ7_fill_53178_sJ7_fill3575_5 (fa : Nat → Int32) (p1 : Int32) (K : (Int32 → Int32 → (Nat → Int32) → ((Nat → Int32)))) (v2 : Int32) (v3 : Int32) (z0 : Nat → Int32) : (Nat → Int32) := if v3 ≤ v2 then z0 else (K (v2 + (1 : Int32)) v3 (upd z0 v2.toNatClampNeg p1))
noncomputable def lfJ7_fill_53178_sJ7_fill3575 (fa : Nat → Int32) (p1 : Int32) (z : Nat) : (Int32 → Int32 → (Nat → Int32) → ((Nat → Int32))) := Nat.rec (motive := fun _ => (Int32 → Int32 → (Nat → Int32) → ((Nat → Int32)))) (fun _ _ z0 => (z0)) (fun _ K => dfJ7_fill_53178_sJ7_fill3575_5 fa p1 K) z
noncomputable def fJ7_fill_53178_sJ7_fill3575 (fa : Nat → Int32) (p1 : Int32) : (Nat → Int32) := (lfJ7_fill_53178_sJ7_fill3575 fa p1 1000000000) (0 : Int32) (3575 : Int32) fa
set_option maxHeartbeats 4000000 in
set_option maxRecDepth 100000 in
theorem lp_sJ7_fill3575 {p : Program} {l : Launch} {e : Env} {R : Room} {s : State} {m : MethodId} {args : Array Value} {below : List Frame} {meth : Method} {c : Code} {Q : State → Prop} {A : Nat → Prop} {cells slots : Nat} {dC : Nat → ClassId} {dI : Nat → Nat → Nat} {RES : (Nat → Int32)} (a : Nat) (ka : ClassId) (fa : Nat → Int32) (p1 : Int32)  (hx : p.tables.exec = Jvm.exec) (hb : c.code = cJ7_fill_53178) (hml : c.maxLocals = 4) (hown : s.vm.findClass RJ7 = some m.cls) (hts : ∀ w ∈ ((.code yJ7_fill_53178 cJ7_fill_53178 4 none :: wsGA) : List Cond), w.before args s = true) (hK : va_K (dC, dI) vwCl [(ka, .int)] s) (hz : nzA s) (hA : ∀ q : Nat, s.heap.size ≤ q → A q) (hRf : 0 ≤ R.frames) (hRl : 0 ≤ R.locals) (hRc : cells ≤ R.cells) (hRs : slots ≤ R.slots) (kr20 : ∀ (z0 : Nat → Int32) (H : Heap) (locs : List Loc) (ls : Array Slot), z0 = RES → va_P (dC, dI) vwCl [(a, .inl (ka, 3575, .inl z0))] H → va_D A [(a, .inl (ka, 3575, .inl z0))] → va_S A s.heap H locs → lv_has ls 4 [] → W p l e R s m args below meth c H locs cells slots Q (F0 m 20 ls [])) : ∀ z : Nat, (∀ (v2 : Int32) (v3 : Int32) (z0 : Nat → Int32) (H : Heap) (locs : List Loc) (ls : Array Slot), gi v2 0 3575 → gi v3 3575 3575 → (lfJ7_fill_53178_sJ7_fill3575 fa p1 z) v2 v3 z0 = RES → 7151 + (-2) * v2.toInt < (z : Int) → va_P (dC, dI) vwCl [(a, .inl (ka, 3575, .inl z0))] H → va_D A [(a, .inl (ka, 3575, .inl z0))] → va_S A s.heap H locs → lv_has ls 4 [(0, .ref a), (1, .int p1), (2, .int v2), (3, .int v3)] → W p l e R s m args below meth c H locs cells slots Q (F0 m 5 ls [])) := by
  intro z
  induction z with
  | zero =>
    intro v2 v3 z0 H locs ls gv2 gv3 hF hmu hP hD hS hl
    exact absurd hmu (by have hv21 := gv2.1; have hv22 := gv2.2; omega)
  | succ z ih =>
      intro v2 v3 z0 H locs ls gv2 gv3 hF hmu hP hD hS hl
      have hF : dfJ7_fill_53178_sJ7_fill3575_5 fa p1 (lfJ7_fill_53178_sJ7_fill3575 fa p1 z) v2 v3 z0 = RES := hF
      refine lv_iload_n hx hb (dk_at dkJ7_fill_53178 5 rfl) rfl (lv_at hl 2 rfl) ?_
      refine lv_iload_n hx hb (dk_at dkJ7_fill_53178 6 rfl) rfl (lv_at hl 3 rfl) ?_
      refine lv_icmp_ge (tgt := 20) hx hb (dk_at dkJ7_fill_53178 7 rfl) (by decide) (fun c_111 => ?_) (fun c_111 => ?_)
      · have hF := gf_pos c_111 hF
        have g_112 : gi v2 3575 3575 := gi_le_r c_111 gv3 gv2
        exact kr20 z0 _ _ _ hF hP hD hS (lv_sub hl [] rfl)
      · have hF := gf_neg c_111 hF
        have g_113 : gi v2 0 3574 := gi_lt_l (Int32.not_le.mp c_111) gv2 gv3 (by decide)
        refine lv_aload_n hx hb (dk_at dkJ7_fill_53178 8 rfl) rfl (lv_at hl 0 rfl) ?_
        refine lv_iload_n hx hb (dk_at dkJ7_fill_53178 9 rfl) rfl (lv_at hl 2 rfl) ?_
        refine lv_iload_n hx hb (dk_at dkJ7_fill_53178 10 rfl) rfl (lv_at hl 1 rfl) ?_
        refine va_iast hx hb hK hP hD hS 0 0 rfl rfl (gi_in g_113 (by decide)) (dk_at dkJ7_fill_53178 11 rfl) (fun H locs hP hD hS => ?_)
        obtain ⟨hP, hD⟩ := gz_both (w := [(a, .inl (ka, 3575, .inl (upd z0 (v2 : Int32).toNatClampNeg p1)))]) hP hD
        generalize ef_114 : upd z0 (v2 : Int32).toNatClampNeg p1 = f_114 at hP hD
        obtain ⟨x_115, ex_115⟩ : ∃ y : Int32, y = v2 + 1 := ⟨_, rfl⟩
        have gx_115 : gi x_115 1 3575 := gi_add ex_115 g_113 (gi_c 1 1 (by decide)) (by decide)
        refine lv_iinc (v := x_115) (lv' := [(2, .int x_115), (0, .ref a), (1, .int p1), (3, .int v3)]) hx hb (dk_at dkJ7_fill_53178 12 rfl) hl (k := 2) rfl (by rw [ex_115]; rfl) (by decide) rfl (fun ls hl => ?_)
        refine lv_goto (tgt := 5) hx hb (dk_at dkJ7_fill_53178 13 rfl) (by decide) ?_
        exact ih x_115 v3 f_114 _ _ _ (gi_w gx_115 (by decide)) gv3 (by first | (rw [ex_115, ← ef_114]; exact hF) | ((try rw [ex_115]); (try rw [← ef_114]); exact hF)) (by have av2 := gv2.1; have bv2 := gv2.2; have qgx_115 := gx_115.1; have rgx_115 := gx_115.2; have igx_115 : x_115.toInt = v2.toInt + 1 := (by have hc1 : (1 : Int32).toInt = 1 := (by decide); have h9 := gi_addE ex_115 g_113 (gi_c 1 1 (by decide)) (by decide); rw [hc1] at h9; exact h9); have qgv2 := g_113.1; have rgv2 := g_113.2; omega) hP hD hS (lv_sub hl [1, 2, 0, 3] rfl)
abbrev pb_sJ7_fill3575 (dC : Nat → ClassId) (dI : Nat → Nat → Nat) (A9 : Nat → Prop) (a : Nat) (ka : ClassId) (fa : Nat → Int32) (p1 : Int32) (z0 : Nat → Int32) (t : State) : Prop := z0 = fJ7_fill_53178_sJ7_fill3575 fa p1 ∧ va_P (dC, dI) vwCl [(a, .inl (ka, 3575, .inl z0))] t.heap ∧ va_D A9 [(a, .inl (ka, 3575, .inl z0))]
set_option maxHeartbeats 4000000 in
set_option maxRecDepth 100000 in
theorem sJ7_fill3575 (l : Launch) (dC : Nat → ClassId) (dI : Nat → Nat → Nat) (sz : Nat) (a : Nat) (ka : ClassId) (fa : Nat → Int32) (p1 : Int32)  : Met l yJ7_fill_53178 (.code yJ7_fill_53178 cJ7_fill_53178 4 none :: wsGA) ({ frames := 0, cells := 0, slots := 0, locals := 0 }) (va_Pc [.ref a, .int p1] (fun U => U.heap.size = sz ∧ va_P (dC, dI) vwCl [(a, .inl (ka, 3575, .inl fa))] U.heap ∧ va_K (dC, dI) vwCl [(ka, .int)] U ∧ va_D (fun _ => True) [(a, .inl (ka, 3575, .inl fa))] ∧ nzA U)) (va_Qv (fun (u : Unit) => True) (fun _ t => ∃ (z0 : Nat → Int32), pb_sJ7_fill3575 dC dI (va_A [(a, .inl (ka, 3575, .inl fa))] sz) a ka fa p1 z0 t) (va_A [(a, .inl (ka, 3575, .inl fa))] sz)) 0 0 (va_A [(a, .inl (ka, 3575, .inl fa))] sz) := by
  refine Met.ofW (cc := cJ7_fill_53178) (maxL := 4) (ret := none) (by decide) rfl ?_
  intro p e s m args below meth c s₁ B hml hv
  obtain ⟨rfl, hsz, hP, hK, hD0, hz⟩ := hv
  have hx := B.exec
  have hb := B.bytes
  have hr := B.returns
  have hts := atoms_spec (ws := (.code yJ7_fill_53178 cJ7_fill_53178 4 none :: wsGA)) B.pre
  have hown : s.vm.findClass RJ7 = some m.cls := findClass_of_methodNamed B.named
  have hlocks := B.notSynchronized
  subst hsz
  have hD := hD0.self (sz := s.heap.size)
  generalize hAe : va_A [(a, .inl (ka, 3575, .inl fa))] s.heap.size = A at hD ⊢
  have hA : ∀ q : Nat, s.heap.size ≤ q → A q := fun q h => by rw [← hAe]; exact Or.inr h
  have hS : va_S A s.heap s.heap [] := va_S.rf
  have hl := lv_entry ([.ref a, .int p1]) (n := 4) (Nat.le_of_ble_eq_true rfl)
  rw [lg_entry_eq]
  generalize (lg_sl ([.ref a, .int p1]) ++ List.replicate (4 - (lg_sl ([.ref a, .int p1])).length) Slot.unset).toArray = ls at hl ⊢
  have hl : lv_has ls 4 [(0, .ref a), (1, .int p1)] := hl
  obtain ⟨RES, hF⟩ : ∃ R9, fJ7_fill_53178_sJ7_fill3575 fa p1 = R9 := ⟨_, rfl⟩
  have hR9 := hF
  refine lv_iconst (v := 0) hx hb (dk_at dkJ7_fill_53178 0 rfl) (by decide) ?_
  refine lv_istore_n (lv' := [(2, .int 0), (0, .ref a), (1, .int p1)]) hx hb (dk_at dkJ7_fill_53178 1 rfl) rfl hl (by decide) rfl (fun ls hl => ?_)
  refine lv_aload_n hx hb (dk_at dkJ7_fill_53178 2 rfl) rfl (lv_at hl 1 rfl) ?_
  refine va_alen (v := 3575) hx hb hK hP 0 0 rfl rfl rfl (dk_at dkJ7_fill_53178 3 rfl) ?_
  refine lv_istore_n (lv' := [(3, .int 3575), (2, .int 0), (0, .ref a), (1, .int p1)]) hx hb (dk_at dkJ7_fill_53178 4 rfl) rfl hl (by decide) rfl (fun ls hl => ?_)
  refine (lp_sJ7_fill3575 a ka fa p1  hx hb hml hown hts hK hz hA (Nat.le_of_ble_eq_true rfl) (Nat.le_of_ble_eq_true rfl) (Nat.zero_le _) (Nat.zero_le _) (fun z0 H locs ls hF hP hD hS hl => ?_) 1000000000) 0 3575 fa _ _ _ (gi_w (gi_c 0 0 (by decide)) (by decide)) (gi_c 3575 3575 (by decide)) hF (by have k0 : (0 : Int32).toInt = 0 := (by decide); omega) hP hD hS (lv_sub hl [2, 3, 1, 0] rfl)
  · skip
    exact W.vret hx hb hr (fun t ht hW => ⟨⟨(), rfl, trivial, z0, hF.trans hR9.symm, by rw [ht]; exact hP, hD⟩, hS.F ht⟩) hS.2.2 (dk_at dkJ7_fill_53178 14 rfl)
noncomputable def lsX8_wipe : List (Nat × Instr × Nat) := [(0, .aload_n 0, 1), (1, .getfield 9, 3), (4, .iconst 0, 1), (5, .invokestatic 18, 3), (8, .return_, 1)]
theorem dkX8_wipe : dkAll cX8_wipe lsX8_wipe = true := dk_fast (by decide +kernel)
noncomputable def fX8_wipe (fco : Nat → Int32) : (Nat → Int32) := cal (fun o1 => o1) (fJ7_fill_53178 fco (0 : Int32))
abbrev pb_sX8_wipe (dC : Nat → ClassId) (dI : Nat → Nat → Nat) (A9 : Nat → Prop) (h0 : Nat) (co : Nat) (le : Nat) (months : Int32) (full : Int32) (lean : Int32) (kco : ClassId) (fco : Nat → Int32) (z1 : Nat → Int32) (t : State) : Prop := z1 = fX8_wipe fco ∧ va_P (dC, dI) vwCl [(h0, .inr (8, [.ref co, .ref le, .int months, .int full, .int lean])), (co, .inl (kco, 325, .inl z1))] t.heap ∧ va_D A9 [(h0, .inr (8, [.ref co, .ref le, .int months, .int full, .int lean])), (co, .inl (kco, 325, .inl z1))]
set_option maxHeartbeats 4000000 in
set_option maxRecDepth 100000 in
theorem sX8_wipe (l : Launch) (dC : Nat → ClassId) (dI : Nat → Nat → Nat) (sz : Nat) (h0 : Nat) (co : Nat) (le : Nat) (months : Int32) (full : Int32) (lean : Int32) (kco : ClassId) (fco : Nat → Int32) (gmonths : gi months 0 24) (gfull : gi full 0 5) (glean : gi lean 0 5) : Met l yX8_wipe (.code yX8_wipe cX8_wipe 1 none :: wsGA) ({ frames := 1, cells := 0, slots := 0, locals := 23 }) (va_Pc [.ref h0] (fun U => U.heap.size = sz ∧ va_P (dC, dI) vwCl [(h0, .inr (8, [.ref co, .ref le, .int months, .int full, .int lean])), (co, .inl (kco, 325, .inl fco))] U.heap ∧ va_K (dC, dI) vwCl [(kco, .int)] U ∧ va_D (fun _ => True) [(h0, .inr (8, [.ref co, .ref le, .int months, .int full, .int lean])), (co, .inl (kco, 325, .inl fco))] ∧ nzA U)) (va_Qv (fun (u : Unit) => True) (fun _ t => ∃ (z1 : Nat → Int32), pb_sX8_wipe dC dI (va_A [(h0, .inr (8, [.ref co, .ref le, .int months, .int full, .int lean])), (co, .inl (kco, 325, .inl fco))] sz) h0 co le months full lean kco fco z1 t) (va_A [(h0, .inr (8, [.ref co, .ref le, .int months, .int full, .int lean])), (co, .inl (kco, 325, .inl fco))] sz)) 0 0 (va_A [(h0, .inr (8, [.ref co, .ref le, .int months, .int full, .int lean])), (co, .inl (kco, 325, .inl fco))] sz) := by
  refine Met.ofW (cc := cX8_wipe) (maxL := 1) (ret := none) (by decide) rfl ?_
  intro p e s m args below meth c s₁ B hml hv
  obtain ⟨rfl, hsz, hP, hK, hD0, hz⟩ := hv
  have hx := B.exec
  have hb := B.bytes
  have hr := B.returns
  have hts := atoms_spec (ws := (.code yX8_wipe cX8_wipe 1 none :: wsGA)) B.pre
  have hown : s.vm.findClass RX8 = some m.cls := findClass_of_methodNamed B.named
  have hlocks := B.notSynchronized
  subst hsz
  have hD := hD0.self (sz := s.heap.size)
  generalize hAe : va_A [(h0, .inr (8, [.ref co, .ref le, .int months, .int full, .int lean])), (co, .inl (kco, 325, .inl fco))] s.heap.size = A at hD ⊢
  have hA : ∀ q : Nat, s.heap.size ≤ q → A q := fun q h => by rw [← hAe]; exact Or.inr h
  have hS : va_S A s.heap s.heap [] := va_S.rf
  have hl := lv_entry ([.ref h0]) (n := 1) (Nat.le_of_ble_eq_true rfl)
  rw [lg_entry_eq]
  generalize (lg_sl ([.ref h0]) ++ List.replicate (1 - (lg_sl ([.ref h0])).length) Slot.unset).toArray = ls at hl ⊢
  have hl : lv_has ls 1 [(0, .ref h0)] := hl
  obtain ⟨RES, hF⟩ : ∃ R9, fX8_wipe fco = R9 := ⟨_, rfl⟩
  have hR9 := hF
  refine lv_aload_n hx hb (dk_at dkX8_wipe 0 rfl) rfl (lv_at hl 0 rfl) ?_
  refine va_get (D := (dC, dI)) (ci := 8) (v := .ref co) (C := RX8) (T := TX8) (N := 5) hx hb hts (fun w h => List.mem_cons_of_mem _ (jnGA_X8 w h)) hown hK hP 0 rfl rfl 0 (by decide) (hts _ (List.mem_cons_of_mem _ mGA_117)) (fun _ h9 => h9) rfl (dk_at dkX8_wipe 1 rfl) ?_
  refine lv_iconst (v := 0) hx hb (dk_at dkX8_wipe 2 rfl) (by decide) ?_
  obtain ⟨hPc, hDc, hFc⟩ := gz_cut (wc := [(co, .inl (kco, 325, .inl fco))]) hP hD hS hA [1] (by decide) rfl
  refine va_callv (va_runS (As := [.ref co, .int 0]) (rest := []) ⟨hx, hb, hml, hown, hts⟩ (sJ7_fill325 l dC dI s.heap.size co kco fco 0) (⟨callB_of 2 hts (gz_gP mGA_568 goodGA) rfl rfl rfl (hts _ (List.mem_cons_of_mem _ mGA_567)) (hts _ (List.mem_cons_of_mem _ mGA_773)) hdS_J7_fill_53178_J7_2.2 ⟨Nat.le_of_ble_eq_true rfl, Nat.le_of_ble_eq_true rfl⟩, (hts _ (List.mem_cons_of_mem _ mGA_566))⟩) ⟨bl_I (bl_a bl_sz (bl_a bl_P (bl_a bl_K (bl_a bl_c bl_nz)))), fun U hU hW => ⟨rfl, by rw [hU], by rw [hU]; exact hPc, va_K.moved hW.alike hK, hDc.weaken (fun _ _ _ _ => trivial), nzA_warm hW hz⟩⟩ rfl rfl hl.1 rfl (lv_room (Nat.le_of_ble_eq_true rfl)) (dk_at dkX8_wipe 3 rfl) ⟨Nat.zero_le _, Nat.zero_le _⟩) hS (fun q _ h => hFc q h) hFc (fun u t H1 locs ht hvm hw hB hz1 hk1 hS => ?_)
  obtain ⟨f_6, hB⟩ := hB
  obtain ⟨hE, hP1, hD1⟩ := hB
  rw [ht] at hP1
  obtain ⟨hP, hD⟩ := gz_back hP hD hk1 hFc hP1 hD1 [1] rfl rfl
  obtain ⟨hP, hD⟩ := gz_both (w := [(h0, .inr (8, [.ref co, .ref le, .int months, .int full, .int lean])), (co, .inl (kco, 325, .inl f_6))]) hP hD
  have hF := gf_call (a := f_6) hE hF
  generalize H1 = H at hP hS ⊢
  exact W.vret hx hb hr (fun t ht hW => ⟨⟨(), rfl, trivial, f_6, hF.trans hR9.symm, by rw [ht]; exact hP, hD⟩, hS.F ht⟩) hS.2.2 (dk_at dkX8_wipe 4 rfl)
noncomputable def lsX8_charge : List (Nat × Instr × Nat) := [(0, .aload_n 0, 1), (1, .getfield 9, 3), (4, .iload_n 1, 1), (5, .iload_n 2, 1), (6, .invokestatic 24, 3), (9, .dup2, 1), (10, .iaload, 1), (11, .iload_n 3, 1), (12, .iadd, 1), (13, .iastore, 1), (14, .return_, 1)]
theorem dkX8_charge : dkAll cX8_charge lsX8_charge = true := dk_fast (by decide +kernel)
noncomputable def fX8_charge (fco : Nat → Int32) (p0 : Int32) (p1 : Int32) (p2 : Int32) : (Nat → Int32) := cal (fun o1 => (upd fco o1.toNatClampNeg ((fco o1.toNatClampNeg) + p2))) (fX11_cell p0 p1)
abbrev pb_sX8_charge (dC : Nat → ClassId) (dI : Nat → Nat → Nat) (A9 : Nat → Prop) (h0 : Nat) (co : Nat) (le : Nat) (months : Int32) (full : Int32) (lean : Int32) (kco : ClassId) (fco : Nat → Int32) (p0 : Int32) (p1 : Int32) (p2 : Int32) (z1 : Nat → Int32) (t : State) : Prop := z1 = fX8_charge fco p0 p1 p2 ∧ va_P (dC, dI) vwCl [(h0, .inr (8, [.ref co, .ref le, .int months, .int full, .int lean])), (co, .inl (kco, 325, .inl z1))] t.heap ∧ va_D A9 [(h0, .inr (8, [.ref co, .ref le, .int months, .int full, .int lean])), (co, .inl (kco, 325, .inl z1))]
set_option maxHeartbeats 4000000 in
set_option maxRecDepth 100000 in
theorem sX8_charge (l : Launch) (dC : Nat → ClassId) (dI : Nat → Nat → Nat) (sz : Nat) (h0 : Nat) (co : Nat) (le : Nat) (months : Int32) (full : Int32) (lean : Int32) (kco : ClassId) (fco : Nat → Int32) (p0 : Int32) (p1 : Int32) (p2 : Int32) (gmonths : gi months 0 24) (gfull : gi full 0 5) (glean : gi lean 0 5) (gp0 : gi p0 0 24) (gp1 : gi p1 0 24) : Met l yX8_charge (.code yX8_charge cX8_charge 4 none :: wsGA) ({ frames := 1, cells := 0, slots := 0, locals := 21 }) (va_Pc [.ref h0, .int p0, .int p1, .int p2] (fun U => U.heap.size = sz ∧ va_P (dC, dI) vwCl [(h0, .inr (8, [.ref co, .ref le, .int months, .int full, .int lean])), (co, .inl (kco, 325, .inl fco))] U.heap ∧ va_K (dC, dI) vwCl [(kco, .int)] U ∧ va_D (fun _ => True) [(h0, .inr (8, [.ref co, .ref le, .int months, .int full, .int lean])), (co, .inl (kco, 325, .inl fco))] ∧ nzA U)) (va_Qv (fun (u : Unit) => True) (fun _ t => ∃ (z1 : Nat → Int32), pb_sX8_charge dC dI (va_A [(h0, .inr (8, [.ref co, .ref le, .int months, .int full, .int lean])), (co, .inl (kco, 325, .inl fco))] sz) h0 co le months full lean kco fco p0 p1 p2 z1 t) (va_A [(h0, .inr (8, [.ref co, .ref le, .int months, .int full, .int lean])), (co, .inl (kco, 325, .inl fco))] sz)) 0 0 (va_A [(h0, .inr (8, [.ref co, .ref le, .int months, .int full, .int lean])), (co, .inl (kco, 325, .inl fco))] sz) := by
  refine Met.ofW (cc := cX8_charge) (maxL := 4) (ret := none) (by decide) rfl ?_
  intro p e s m args below meth c s₁ B hml hv
  obtain ⟨rfl, hsz, hP, hK, hD0, hz⟩ := hv
  have hx := B.exec
  have hb := B.bytes
  have hr := B.returns
  have hts := atoms_spec (ws := (.code yX8_charge cX8_charge 4 none :: wsGA)) B.pre
  have hown : s.vm.findClass RX8 = some m.cls := findClass_of_methodNamed B.named
  have hlocks := B.notSynchronized
  subst hsz
  have hD := hD0.self (sz := s.heap.size)
  generalize hAe : va_A [(h0, .inr (8, [.ref co, .ref le, .int months, .int full, .int lean])), (co, .inl (kco, 325, .inl fco))] s.heap.size = A at hD ⊢
  have hA : ∀ q : Nat, s.heap.size ≤ q → A q := fun q h => by rw [← hAe]; exact Or.inr h
  have hS : va_S A s.heap s.heap [] := va_S.rf
  have hl := lv_entry ([.ref h0, .int p0, .int p1, .int p2]) (n := 4) (Nat.le_of_ble_eq_true rfl)
  rw [lg_entry_eq]
  generalize (lg_sl ([.ref h0, .int p0, .int p1, .int p2]) ++ List.replicate (4 - (lg_sl ([.ref h0, .int p0, .int p1, .int p2])).length) Slot.unset).toArray = ls at hl ⊢
  have hl : lv_has ls 4 [(0, .ref h0), (1, .int p0), (2, .int p1), (3, .int p2)] := hl
  obtain ⟨RES, hF⟩ : ∃ R9, fX8_charge fco p0 p1 p2 = R9 := ⟨_, rfl⟩
  have hR9 := hF
  refine lv_aload_n hx hb (dk_at dkX8_charge 0 rfl) rfl (lv_at hl 0 rfl) ?_
  refine va_get (D := (dC, dI)) (ci := 8) (v := .ref co) (C := RX8) (T := TX8) (N := 5) hx hb hts (fun w h => List.mem_cons_of_mem _ (jnGA_X8 w h)) hown hK hP 0 rfl rfl 0 (by decide) (hts _ (List.mem_cons_of_mem _ mGA_117)) (fun _ h9 => h9) rfl (dk_at dkX8_charge 1 rfl) ?_
  refine lv_iload_n hx hb (dk_at dkX8_charge 2 rfl) rfl (lv_at hl 1 rfl) ?_
  refine lv_iload_n hx hb (dk_at dkX8_charge 3 rfl) rfl (lv_at hl 2 rfl) ?_
  have hPc := hP.sub (ws' := []) [] rfl
  have hKc := hK.sub (tys' := []) [] rfl
  refine va_calli (va_runSN (As := [.int p0, .int p1]) (rest := [.ref co]) ⟨hx, hb, hml, hown, hts⟩ (sX11_cell l dC dI p0 p1 gp0 gp1) (⟨va_cnB 2 hts (gz_gP mGA_585 goodGA) rfl rfl rfl (nzA_X8_24 hz) (hts _ (List.mem_cons_of_mem _ mGA_1)) hdS_X11_cell_X11_2.2 ⟨Nat.le_of_ble_eq_true rfl, Nat.le_of_ble_eq_true rfl⟩, (hts _ (List.mem_cons_of_mem _ mGA_584)), trivial⟩) ⟨bl_I (bl_a bl_P (bl_a bl_K bl_nz)), fun U hU hW => ⟨rfl, by rw [hU]; exact hPc, va_K.moved hW.alike hKc, nzA_warm hW hz⟩⟩ rfl rfl hl.1 rfl (lv_room (Nat.le_of_ble_eq_true rfl)) (dk_at dkX8_charge 4 rfl) ⟨Nat.zero_le _, Nat.zero_le _⟩) hS (fun q _ h => h.elim) (fun q h => h.elim) (fun r_9 u t H1 locs ht hvm hw hB hz1 hk1 hS => ?_)
  obtain ⟨hw, hE⟩ := hw
  have hP := gz_keep hP hk1
  have hF := gf_call (a := r_9) hE hF
  generalize H1 = H at hP hS ⊢
  have gr_9 : gi r_9 0 324 := hw
  refine lv_dup2_11 hx hb (dk_at dkX8_charge 5 rfl) rfl rfl ?_
  refine va_iald hx hb hK hP 1 0 rfl rfl (gi_in gr_9 (by decide)) (dk_at dkX8_charge 6 rfl) ?_
  refine lv_topi (fun x_10 ex_10 => ?_)
  refine lv_iload_n hx hb (dk_at dkX8_charge 7 rfl) rfl (lv_at hl 3 rfl) ?_
  refine lv_iadd hx hb (dk_at dkX8_charge 8 rfl) ?_
  refine lv_topi (fun x_11 ex_11 => ?_)
  refine va_iast hx hb hK hP hD hS 1 0 rfl rfl (gi_in gr_9 (by decide)) (dk_at dkX8_charge 9 rfl) (fun H locs hP hD hS => ?_)
  obtain ⟨hP, hD⟩ := gz_both (w := [(h0, .inr (8, [.ref co, .ref le, .int months, .int full, .int lean])), (co, .inl (kco, 325, .inl (upd fco (r_9 : Int32).toNatClampNeg x_11)))]) hP hD
  generalize ef_12 : upd fco (r_9 : Int32).toNatClampNeg x_11 = f_12 at hP hD
  exact W.vret hx hb hr (fun t ht hW => ⟨⟨(), rfl, trivial, f_12, by first | (rw [← ef_12, ex_11, ex_10]; exact hF.trans hR9.symm) | ((try rw [← ef_12]); (try rw [ex_11]); (try rw [ex_10]); exact hF.trans hR9.symm), by rw [ht]; exact hP, hD⟩, hS.F ht⟩) hS.2.2 (dk_at dkX8_charge 10 rfl)
noncomputable def lsX8_withFull : List (Nat × Instr × Nat) := [(0, .aload_n 0, 1), (1, .getfield 15, 3), (4, .iload_n 1, 1), (5, .iconst 1, 1), (6, .iadd, 1), (7, .iload_n 2, 1), (8, .iconst 1, 1), (9, .iadd, 1), (10, .iload_n 3, 1), (11, .aload_n 0, 1), (12, .getfield 38, 3), (15, .invokestatic 74, 3), (18, .invokestatic 71, 3), (21, .iaload, 1), (22, .ireturn, 1)]
theorem dkX8_withFull : dkAll cX8_withFull lsX8_withFull = true := dk_fast (by decide +kernel)
noncomputable def fX8_withFull (full : Int32) (fle : Nat → Int32) (p0 : Int32) (p1 : Int32) (p2 : Int32) : Int32 := cal (fun o1 => cal (fun o2 => (fle o2.toNatClampNeg)) (fX11_spot (p0 + (1 : Int32)) (p1 + (1 : Int32)) o1)) (fX11_runWithFull p2 full)
set_option maxHeartbeats 4000000 in
set_option maxRecDepth 100000 in
theorem sX8_withFull (l : Launch) (dC : Nat → ClassId) (dI : Nat → Nat → Nat) (h0 : Nat) (le : Nat) (co : Nat) (months : Int32) (full : Int32) (lean : Int32) (kle : ClassId) (fle : Nat → Int32) (p0 : Int32) (p1 : Int32) (p2 : Int32) (gmonths : gi months 0 24) (gfull : gi full 0 5) (glean : gi lean 0 5) (gp0 : gi p0 0 23) (gp1 : gi p1 0 23) (gp2 : gi p2 0 10) : Met l yX8_withFull (.code yX8_withFull cX8_withFull 4 (some .int) :: wsGA) ({ frames := 2, cells := 0, slots := 0, locals := 43 }) (va_Pc [.ref h0, .int p0, .int p1, .int p2] (fun U => va_P (dC, dI) vwCl [(h0, .inr (8, [.ref co, .ref le, .int months, .int full, .int lean])), (le, .inl (kle, 3575, .inl fle))] U.heap ∧ va_K (dC, dI) vwCl [(kle, .int)] U ∧ nzA U)) (va_Qi (fun (r : Int32) (u : Unit) => (gi r (-2147483648) 2147483647) ∧ r = fX8_withFull full fle p0 p1 p2) (fun _ _ => True) (fun _ => False)) 0 0 (fun _ => False) := by
  refine Met.ofW (cc := cX8_withFull) (maxL := 4) (ret := (some .int)) (by decide) rfl ?_
  intro p e s m args below meth c s₁ B hml hv
  obtain ⟨rfl, hP, hK, hz⟩ := hv
  have hx := B.exec
  have hb := B.bytes
  have hr := B.returns
  have hts := atoms_spec (ws := (.code yX8_withFull cX8_withFull 4 (some .int) :: wsGA)) B.pre
  have hown : s.vm.findClass RX8 = some m.cls := findClass_of_methodNamed B.named
  have hlocks := B.notSynchronized
  have hS : va_S (fun _ => False) s.heap s.heap [] := va_S.rf
  have hl := lv_entry ([.ref h0, .int p0, .int p1, .int p2]) (n := 4) (Nat.le_of_ble_eq_true rfl)
  rw [lg_entry_eq]
  generalize (lg_sl ([.ref h0, .int p0, .int p1, .int p2]) ++ List.replicate (4 - (lg_sl ([.ref h0, .int p0, .int p1, .int p2])).length) Slot.unset).toArray = ls at hl ⊢
  have hl : lv_has ls 4 [(0, .ref h0), (1, .int p0), (2, .int p1), (3, .int p2)] := hl
  obtain ⟨RES, hF⟩ : ∃ R9, fX8_withFull full fle p0 p1 p2 = R9 := ⟨_, rfl⟩
  have hR9 := hF
  refine lv_aload_n hx hb (dk_at dkX8_withFull 0 rfl) rfl (lv_at hl 0 rfl) ?_
  refine va_get (D := (dC, dI)) (ci := 8) (v := .ref le) (C := RX8) (T := TX8) (N := 5) hx hb hts (fun w h => List.mem_cons_of_mem _ (jnGA_X8 w h)) hown hK hP 0 rfl rfl 1 (by decide) (hts _ (List.mem_cons_of_mem _ mGA_118)) (fun _ h9 => h9) rfl (dk_at dkX8_withFull 1 rfl) ?_
  refine lv_iload_n hx hb (dk_at dkX8_withFull 2 rfl) rfl (lv_at hl 1 rfl) ?_
  refine lv_iconst (v := 1) hx hb (dk_at dkX8_withFull 3 rfl) (by decide) ?_
  refine lv_iadd hx hb (dk_at dkX8_withFull 4 rfl) ?_
  refine lv_topi (fun x_6 ex_6 => ?_)
  have gx_6 : gi x_6 1 24 := gi_add ex_6 gp0 (gi_c 1 1 (by decide)) (by decide)
  refine lv_iload_n hx hb (dk_at dkX8_withFull 5 rfl) rfl (lv_at hl 2 rfl) ?_
  refine lv_iconst (v := 1) hx hb (dk_at dkX8_withFull 6 rfl) (by decide) ?_
  refine lv_iadd hx hb (dk_at dkX8_withFull 7 rfl) ?_
  refine lv_topi (fun x_7 ex_7 => ?_)
  have gx_7 : gi x_7 1 24 := gi_add ex_7 gp1 (gi_c 1 1 (by decide)) (by decide)
  refine lv_iload_n hx hb (dk_at dkX8_withFull 8 rfl) rfl (lv_at hl 3 rfl) ?_
  refine lv_aload_n hx hb (dk_at dkX8_withFull 9 rfl) rfl (lv_at hl 0 rfl) ?_
  refine va_get (D := (dC, dI)) (ci := 8) (v := .int full) (C := RX8) (T := TX8) (N := 5) hx hb hts (fun w h => List.mem_cons_of_mem _ (jnGA_X8 w h)) hown hK hP 0 rfl rfl 3 (by decide) (hts _ (List.mem_cons_of_mem _ mGA_785)) (fun _ h9 => h9) rfl (dk_at dkX8_withFull 10 rfl) ?_
  have hPc := hP.sub (ws' := []) [] rfl
  have hKc := hK.sub (tys' := []) [] rfl
  refine va_calli (va_runSN (As := [.int p2, .int full]) (rest := [.int x_7, .int x_6, .ref le]) ⟨hx, hb, hml, hown, hts⟩ (sX11_runWithFull l dC dI p2 full gp2 gfull) (⟨va_cnB 2 hts (gz_gP mGA_508 goodGA) rfl rfl rfl (nzA_X8_74 hz) (hts _ (List.mem_cons_of_mem _ mGA_1)) hdS_X11_runWithFull_X11_2.2 ⟨Nat.le_of_ble_eq_true rfl, Nat.le_of_ble_eq_true rfl⟩, (hts _ (List.mem_cons_of_mem _ mGA_507)), trivial⟩) ⟨bl_I (bl_a bl_P (bl_a bl_K bl_nz)), fun U hU hW => ⟨rfl, by rw [hU]; exact hPc, va_K.moved hW.alike hKc, nzA_warm hW hz⟩⟩ rfl rfl hl.1 rfl (lv_room (Nat.le_of_ble_eq_true rfl)) (dk_at dkX8_withFull 11 rfl) ⟨Nat.zero_le _, Nat.zero_le _⟩) hS (fun q _ h => h.elim) (fun q h => h.elim) (fun r_8 u t H1 locs ht hvm hw hB hz1 hk1 hS => ?_)
  obtain ⟨hw, hE⟩ := hw
  have hP := gz_keep hP hk1
  have hF := gf_call (a := r_8) hE hF
  generalize H1 = H at hP hS ⊢
  have gr_8 : gi r_8 0 5 := hw
  have hPc := hP.sub (ws' := []) [] rfl
  have hKc := hK.sub (tys' := []) [] rfl
  refine va_calli (va_runSN (As := [.int x_6, .int x_7, .int r_8]) (rest := [.ref le]) ⟨hx, hb, hml, hown, hts⟩ (sX11_spot l dC dI x_6 x_7 r_8 (gi_w gx_6 (by decide)) (gi_w gx_7 (by decide)) (gi_w gr_8 (by decide))) (⟨va_cnB 3 hts (gz_gP mGA_582 goodGA) rfl rfl rfl (nzA_X8_71 hz) (hts _ (List.mem_cons_of_mem _ mGA_1)) hdS_X11_spot_X11_3.2 ⟨Nat.le_of_ble_eq_true rfl, Nat.le_of_ble_eq_true rfl⟩, (hts _ (List.mem_cons_of_mem _ mGA_581)), trivial⟩) ⟨bl_I (bl_a bl_P (bl_a bl_K bl_nz)), fun U hU hW => ⟨rfl, by rw [hU]; exact hPc, va_K.moved hW.alike hKc, nzA_warm hW hz⟩⟩ rfl rfl hl.1 rfl (lv_room (Nat.le_of_ble_eq_true rfl)) (dk_at dkX8_withFull 12 rfl) ⟨Nat.zero_le _, Nat.zero_le _⟩) hS (fun q _ h => h.elim) (fun q h => h.elim) (fun r_9 u t H1 locs ht hvm hw hB hz1 hk1 hS => ?_)
  obtain ⟨hw, hE⟩ := hw
  have hP := gz_keep hP hk1
  have hF := gf_call (a := r_9) (by rw [ex_7, ex_6] at hE; exact hE) hF
  generalize H1 = H at hP hS ⊢
  have gr_9 : gi r_9 0 3574 := hw
  refine va_iald hx hb hK hP 1 0 rfl rfl (gi_in gr_9 (by decide)) (dk_at dkX8_withFull 13 rfl) ?_
  refine lv_topi (fun x_10 ex_10 => ?_)
  exact W.iret (v := x_10) hx hb hr (fun t ht hW => ⟨⟨x_10, (), rfl, ⟨(gi_any x_10), by first | (rw [ex_10]; exact hF.trans hR9.symm) | ((try rw [ex_10]); exact hF.trans hR9.symm)⟩, trivial⟩, hS.F ht⟩) hS.2.2 (dk_at dkX8_withFull 14 rfl)
noncomputable def lsX8_withLean : List (Nat × Instr × Nat) := [(0, .aload_n 0, 1), (1, .getfield 15, 3), (4, .iload_n 1, 1), (5, .iconst 1, 1), (6, .iadd, 1), (7, .iload_n 2, 1), (8, .iload_n 3, 1), (9, .aload_n 0, 1), (10, .getfield 38, 3), (13, .aload_n 0, 1), (14, .getfield 42, 3), (17, .invokestatic 77, 3), (20, .invokestatic 71, 3), (23, .iaload, 1), (24, .ireturn, 1)]
theorem dkX8_withLean : dkAll cX8_withLean lsX8_withLean = true := dk_fast (by decide +kernel)
noncomputable def fX8_withLean (full : Int32) (lean : Int32) (fle : Nat → Int32) (p0 : Int32) (p1 : Int32) (p2 : Int32) : Int32 := cal (fun o1 => cal (fun o2 => (fle o2.toNatClampNeg)) (fX11_spot (p0 + (1 : Int32)) p1 o1)) (fX11_runWithLean p2 full lean)
set_option maxHeartbeats 4000000 in
set_option maxRecDepth 100000 in
theorem sX8_withLean (l : Launch) (dC : Nat → ClassId) (dI : Nat → Nat → Nat) (h0 : Nat) (le : Nat) (co : Nat) (months : Int32) (full : Int32) (lean : Int32) (kle : ClassId) (fle : Nat → Int32) (p0 : Int32) (p1 : Int32) (p2 : Int32) (gmonths : gi months 0 24) (gfull : gi full 0 5) (glean : gi lean 0 5) (gp0 : gi p0 0 23) (gp1 : gi p1 0 24) (gp2 : gi p2 0 10) : Met l yX8_withLean (.code yX8_withLean cX8_withLean 4 (some .int) :: wsGA) ({ frames := 2, cells := 0, slots := 0, locals := 43 }) (va_Pc [.ref h0, .int p0, .int p1, .int p2] (fun U => va_P (dC, dI) vwCl [(h0, .inr (8, [.ref co, .ref le, .int months, .int full, .int lean])), (le, .inl (kle, 3575, .inl fle))] U.heap ∧ va_K (dC, dI) vwCl [(kle, .int)] U ∧ nzA U)) (va_Qi (fun (r : Int32) (u : Unit) => (gi r (-2147483648) 2147483647) ∧ r = fX8_withLean full lean fle p0 p1 p2) (fun _ _ => True) (fun _ => False)) 0 0 (fun _ => False) := by
  refine Met.ofW (cc := cX8_withLean) (maxL := 4) (ret := (some .int)) (by decide) rfl ?_
  intro p e s m args below meth c s₁ B hml hv
  obtain ⟨rfl, hP, hK, hz⟩ := hv
  have hx := B.exec
  have hb := B.bytes
  have hr := B.returns
  have hts := atoms_spec (ws := (.code yX8_withLean cX8_withLean 4 (some .int) :: wsGA)) B.pre
  have hown : s.vm.findClass RX8 = some m.cls := findClass_of_methodNamed B.named
  have hlocks := B.notSynchronized
  have hS : va_S (fun _ => False) s.heap s.heap [] := va_S.rf
  have hl := lv_entry ([.ref h0, .int p0, .int p1, .int p2]) (n := 4) (Nat.le_of_ble_eq_true rfl)
  rw [lg_entry_eq]
  generalize (lg_sl ([.ref h0, .int p0, .int p1, .int p2]) ++ List.replicate (4 - (lg_sl ([.ref h0, .int p0, .int p1, .int p2])).length) Slot.unset).toArray = ls at hl ⊢
  have hl : lv_has ls 4 [(0, .ref h0), (1, .int p0), (2, .int p1), (3, .int p2)] := hl
  obtain ⟨RES, hF⟩ : ∃ R9, fX8_withLean full lean fle p0 p1 p2 = R9 := ⟨_, rfl⟩
  have hR9 := hF
  refine lv_aload_n hx hb (dk_at dkX8_withLean 0 rfl) rfl (lv_at hl 0 rfl) ?_
  refine va_get (D := (dC, dI)) (ci := 8) (v := .ref le) (C := RX8) (T := TX8) (N := 5) hx hb hts (fun w h => List.mem_cons_of_mem _ (jnGA_X8 w h)) hown hK hP 0 rfl rfl 1 (by decide) (hts _ (List.mem_cons_of_mem _ mGA_118)) (fun _ h9 => h9) rfl (dk_at dkX8_withLean 1 rfl) ?_
  refine lv_iload_n hx hb (dk_at dkX8_withLean 2 rfl) rfl (lv_at hl 1 rfl) ?_
  refine lv_iconst (v := 1) hx hb (dk_at dkX8_withLean 3 rfl) (by decide) ?_
  refine lv_iadd hx hb (dk_at dkX8_withLean 4 rfl) ?_
  refine lv_topi (fun x_5 ex_5 => ?_)
  have gx_5 : gi x_5 1 24 := gi_add ex_5 gp0 (gi_c 1 1 (by decide)) (by decide)
  refine lv_iload_n hx hb (dk_at dkX8_withLean 5 rfl) rfl (lv_at hl 2 rfl) ?_
  refine lv_iload_n hx hb (dk_at dkX8_withLean 6 rfl) rfl (lv_at hl 3 rfl) ?_
  refine lv_aload_n hx hb (dk_at dkX8_withLean 7 rfl) rfl (lv_at hl 0 rfl) ?_
  refine va_get (D := (dC, dI)) (ci := 8) (v := .int full) (C := RX8) (T := TX8) (N := 5) hx hb hts (fun w h => List.mem_cons_of_mem _ (jnGA_X8 w h)) hown hK hP 0 rfl rfl 3 (by decide) (hts _ (List.mem_cons_of_mem _ mGA_785)) (fun _ h9 => h9) rfl (dk_at dkX8_withLean 8 rfl) ?_
  refine lv_aload_n hx hb (dk_at dkX8_withLean 9 rfl) rfl (lv_at hl 0 rfl) ?_
  refine va_get (D := (dC, dI)) (ci := 8) (v := .int lean) (C := RX8) (T := TX8) (N := 5) hx hb hts (fun w h => List.mem_cons_of_mem _ (jnGA_X8 w h)) hown hK hP 0 rfl rfl 4 (by decide) (hts _ (List.mem_cons_of_mem _ mGA_787)) (fun _ h9 => h9) rfl (dk_at dkX8_withLean 10 rfl) ?_
  have hPc := hP.sub (ws' := []) [] rfl
  have hKc := hK.sub (tys' := []) [] rfl
  refine va_calli (va_runSN (As := [.int p2, .int full, .int lean]) (rest := [.int p1, .int x_5, .ref le]) ⟨hx, hb, hml, hown, hts⟩ (sX11_runWithLean l dC dI p2 full lean gp2 gfull glean) (⟨va_cnB 3 hts (gz_gP mGA_510 goodGA) rfl rfl rfl (nzA_X8_77 hz) (hts _ (List.mem_cons_of_mem _ mGA_1)) hdS_X11_runWithLean_X11_3.2 ⟨Nat.le_of_ble_eq_true rfl, Nat.le_of_ble_eq_true rfl⟩, (hts _ (List.mem_cons_of_mem _ mGA_509)), trivial⟩) ⟨bl_I (bl_a bl_P (bl_a bl_K bl_nz)), fun U hU hW => ⟨rfl, by rw [hU]; exact hPc, va_K.moved hW.alike hKc, nzA_warm hW hz⟩⟩ rfl rfl hl.1 rfl (lv_room (Nat.le_of_ble_eq_true rfl)) (dk_at dkX8_withLean 11 rfl) ⟨Nat.zero_le _, Nat.zero_le _⟩) hS (fun q _ h => h.elim) (fun q h => h.elim) (fun r_6 u t H1 locs ht hvm hw hB hz1 hk1 hS => ?_)
  obtain ⟨hw, hE⟩ := hw
  have hP := gz_keep hP hk1
  have hF := gf_call (a := r_6) hE hF
  generalize H1 = H at hP hS ⊢
  have gr_6 : gi r_6 0 10 := hw
  have hPc := hP.sub (ws' := []) [] rfl
  have hKc := hK.sub (tys' := []) [] rfl
  refine va_calli (va_runSN (As := [.int x_5, .int p1, .int r_6]) (rest := [.ref le]) ⟨hx, hb, hml, hown, hts⟩ (sX11_spot l dC dI x_5 p1 r_6 (gi_w gx_5 (by decide)) gp1 gr_6) (⟨va_cnB 3 hts (gz_gP mGA_582 goodGA) rfl rfl rfl (nzA_X8_71 hz) (hts _ (List.mem_cons_of_mem _ mGA_1)) hdS_X11_spot_X11_3.2 ⟨Nat.le_of_ble_eq_true rfl, Nat.le_of_ble_eq_true rfl⟩, (hts _ (List.mem_cons_of_mem _ mGA_581)), trivial⟩) ⟨bl_I (bl_a bl_P (bl_a bl_K bl_nz)), fun U hU hW => ⟨rfl, by rw [hU]; exact hPc, va_K.moved hW.alike hKc, nzA_warm hW hz⟩⟩ rfl rfl hl.1 rfl (lv_room (Nat.le_of_ble_eq_true rfl)) (dk_at dkX8_withLean 12 rfl) ⟨Nat.zero_le _, Nat.zero_le _⟩) hS (fun q _ h => h.elim) (fun q h => h.elim) (fun r_7 u t H1 locs ht hvm hw hB hz1 hk1 hS => ?_)
  obtain ⟨hw, hE⟩ := hw
  have hP := gz_keep hP hk1
  have hF := gf_call (a := r_7) (by rw [ex_5] at hE; exact hE) hF
  generalize H1 = H at hP hS ⊢
  have gr_7 : gi r_7 0 3574 := hw
  refine va_iald hx hb hK hP 1 0 rfl rfl (gi_in gr_7 (by decide)) (dk_at dkX8_withLean 13 rfl) ?_
  refine lv_topi (fun x_8 ex_8 => ?_)
  exact W.iret (v := x_8) hx hb hr (fun t ht hW => ⟨⟨x_8, (), rfl, ⟨(gi_any x_8), by first | (rw [ex_8]; exact hF.trans hR9.symm) | ((try rw [ex_8]); exact hF.trans hR9.symm)⟩, trivial⟩, hS.F ht⟩) hS.2.2 (dk_at dkX8_withLean 14 rfl)
noncomputable def lsX8_least : List (Nat × Instr × Nat) := [(0, .aload_n 0, 1), (1, .getfield 15, 3), (4, .iconst 0, 1), (5, .iaload, 1), (6, .ireturn, 1)]
theorem dkX8_least : dkAll cX8_least lsX8_least = true := dk_fast (by decide +kernel)
noncomputable def fX8_least (fle : Nat → Int32) : Int32 := (fle (0 : Int32).toNatClampNeg)
set_option maxHeartbeats 4000000 in
set_option maxRecDepth 100000 in
theorem sX8_least (l : Launch) (dC : Nat → ClassId) (dI : Nat → Nat → Nat) (h0 : Nat) (le : Nat) (co : Nat) (months : Int32) (full : Int32) (lean : Int32) (kle : ClassId) (fle : Nat → Int32) (gmonths : gi months 0 24) (gfull : gi full 0 5) (glean : gi lean 0 5) : Met l yX8_least (.code yX8_least cX8_least 1 (some .int) :: wsGA) ({ frames := 0, cells := 0, slots := 0, locals := 0 }) (va_Pc [.ref h0] (fun U => va_P (dC, dI) vwCl [(h0, .inr (8, [.ref co, .ref le, .int months, .int full, .int lean])), (le, .inl (kle, 3575, .inl fle))] U.heap ∧ va_K (dC, dI) vwCl [(kle, .int)] U ∧ nzA U)) (va_Qi (fun (r : Int32) (u : Unit) => (gi r (-2147483648) 2147483647) ∧ r = fX8_least fle) (fun _ _ => True) (fun _ => False)) 0 0 (fun _ => False) := by
  refine Met.ofW (cc := cX8_least) (maxL := 1) (ret := (some .int)) (by decide) rfl ?_
  intro p e s m args below meth c s₁ B hml hv
  obtain ⟨rfl, hP, hK, hz⟩ := hv
  have hx := B.exec
  have hb := B.bytes
  have hr := B.returns
  have hts := atoms_spec (ws := (.code yX8_least cX8_least 1 (some .int) :: wsGA)) B.pre
  have hown : s.vm.findClass RX8 = some m.cls := findClass_of_methodNamed B.named
  have hlocks := B.notSynchronized
  have hS : va_S (fun _ => False) s.heap s.heap [] := va_S.rf
  have hl := lv_entry ([.ref h0]) (n := 1) (Nat.le_of_ble_eq_true rfl)
  rw [lg_entry_eq]
  generalize (lg_sl ([.ref h0]) ++ List.replicate (1 - (lg_sl ([.ref h0])).length) Slot.unset).toArray = ls at hl ⊢
  have hl : lv_has ls 1 [(0, .ref h0)] := hl
  obtain ⟨RES, hF⟩ : ∃ R9, fX8_least fle = R9 := ⟨_, rfl⟩
  have hR9 := hF
  refine lv_aload_n hx hb (dk_at dkX8_least 0 rfl) rfl (lv_at hl 0 rfl) ?_
  refine va_get (D := (dC, dI)) (ci := 8) (v := .ref le) (C := RX8) (T := TX8) (N := 5) hx hb hts (fun w h => List.mem_cons_of_mem _ (jnGA_X8 w h)) hown hK hP 0 rfl rfl 1 (by decide) (hts _ (List.mem_cons_of_mem _ mGA_118)) (fun _ h9 => h9) rfl (dk_at dkX8_least 1 rfl) ?_
  refine lv_iconst (v := 0) hx hb (dk_at dkX8_least 2 rfl) (by decide) ?_
  refine va_iald hx hb hK hP 1 0 rfl rfl (gi_in (gi_c 0 0 (by decide)) (by decide)) (dk_at dkX8_least 3 rfl) ?_
  refine lv_topi (fun x_2 ex_2 => ?_)
  exact W.iret (v := x_2) hx hb hr (fun t ht hW => ⟨⟨x_2, (), rfl, ⟨(gi_any x_2), by first | (rw [ex_2]; exact hF.trans hR9.symm) | ((try rw [ex_2]); exact hF.trans hR9.symm)⟩, trivial⟩, hS.F ht⟩) hS.2.2 (dk_at dkX8_least 4 rfl)
noncomputable def lsX8_fillCell : List (Nat × Instr × Nat) := [(0, .iload_n 1, 1), (1, .invokestatic 52, 3), (4, .istore_n 3, 1), (5, .iload_n 3, 1), (6, .iload_n 1, 1), (7, .aload_n 0, 1), (8, .getfield 38, 3), (11, .aload_n 0, 1), (12, .getfield 42, 3), (15, .invokestatic 56, 3), (18, .if_icmp .gt 71, 3), (21, .iload_n 1, 1), (22, .aload_n 0, 1), (23, .getfield 34, 3), (26, .if_icmp .ne 7, 3), (29, .iconst 0, 1), (30, .goto 20, 3), (33, .aload_n 0, 1), (34, .iload_n 1, 1), (35, .iload_n 2, 1), (36, .iload_n 3, 1), (37, .invokevirtual 60, 3), (40, .aload_n 0, 1), (41, .iload_n 1, 1), (42, .iload_n 2, 1), (43, .iload_n 3, 1), (44, .invokevirtual 63, 3), (47, .invokestatic 66, 3), (50, .istore 4, 2), (52, .iload 4, 2), (54, .ldc 43, 2), (56, .if_icmp .ge 27, 3), (59, .aload_n 0, 1), (60, .getfield 15, 3), (63, .iload_n 1, 1), (64, .iload_n 2, 1), (65, .iload_n 3, 1), (66, .invokestatic 71, 3), (69, .iload 4, 2), (71, .aload_n 0, 1), (72, .getfield 9, 3), (75, .iload_n 1, 1), (76, .iload_n 2, 1), (77, .invokestatic 24, 3), (80, .iaload, 1), (81, .iadd, 1), (82, .iastore, 1), (83, .iinc 3 1, 3), (86, .goto (-81), 3), (89, .return_, 1)]
theorem dkX8_fillCell : dkAll cX8_fillCell lsX8_fillCell = true := dk_fast (by decide +kernel)
noncomputable def bfX8_fillCell_83 (months : Int32) (full : Int32) (lean : Int32) (fco : Nat → Int32) (fle : Nat → Int32) (p0 : Int32) (p1 : Int32) (K : (Int32 → (Nat → Int32) → ((Nat → Int32)))) (v3 : Int32) (z2 : Nat → Int32) : (Nat → Int32) := K (v3 + (1 : Int32)) z2
noncomputable def bfX8_fillCell_50 (months : Int32) (full : Int32) (lean : Int32) (fco : Nat → Int32) (fle : Nat → Int32) (p0 : Int32) (p1 : Int32) (K : (Int32 → (Nat → Int32) → ((Nat → Int32)))) (v3 : Int32) (s0 : Int32) (z2 : Nat → Int32) : (Nat → Int32) := if (1000000 : Int32) ≤ s0 then (bfX8_fillCell_83 months full lean fco fle p0 p1 K v3 z2) else (cal (fun o5 => cal (fun o6 => bfX8_fillCell_83 months full lean fco fle p0 p1 K v3 (upd z2 o5.toNatClampNeg (s0 + (fco o6.toNatClampNeg)))) (fX11_cell p0 p1)) (fX11_spot p0 p1 v3))
noncomputable def dfX8_fillCell_5 (months : Int32) (full : Int32) (lean : Int32) (fco : Nat → Int32) (fle : Nat → Int32) (p0 : Int32) (p1 : Int32) (K : (Int32 → (Nat → Int32) → ((Nat → Int32)))) (v3 : Int32) (z2 : Nat → Int32) : (Nat → Int32) := cal (fun o2 => if o2 < v3 then z2 else (if p0 = months then (bfX8_fillCell_50 months full lean fco fle p0 p1 K v3 (0 : Int32) z2) else (cal (fun o3 => cal (fun o4 => bfX8_fillCell_50 months full lean fco fle p0 p1 K v3 (if o4 < o3 then o4 else o3) z2) (fX8_withLean full lean z2 p0 p1 v3)) (fX8_withFull full z2 p0 p1 v3)))) (fX11_lastRun p0 full lean)
noncomputable def lfX8_fillCell (months : Int32) (full : Int32) (lean : Int32) (fco : Nat → Int32) (fle : Nat → Int32) (p0 : Int32) (p1 : Int32) (z : Nat) : (Int32 → (Nat → Int32) → ((Nat → Int32))) := Nat.rec (motive := fun _ => (Int32 → (Nat → Int32) → ((Nat → Int32)))) (fun _ z2 => (z2)) (fun _ K => dfX8_fillCell_5 months full lean fco fle p0 p1 K) z
noncomputable def fX8_fillCell (months : Int32) (full : Int32) (lean : Int32) (fco : Nat → Int32) (fle : Nat → Int32) (p0 : Int32) (p1 : Int32) : (Nat → Int32) := cal (fun o1 => (lfX8_fillCell months full lean fco fle p0 p1 1000000000) o1 fle) (fX11_firstRun p0)
set_option maxHeartbeats 4000000 in
set_option maxRecDepth 100000 in
theorem lp_sX8_fillCell {p : Program} {l : Launch} {e : Env} {R : Room} {s : State} {m : MethodId} {args : Array Value} {below : List Frame} {meth : Method} {c : Code} {Q : State → Prop} {A : Nat → Prop} {cells slots : Nat} {dC : Nat → ClassId} {dI : Nat → Nat → Nat} {RES : (Nat → Int32)} (h0 : Nat) (co : Nat) (le : Nat) (months : Int32) (full : Int32) (lean : Int32) (kco : ClassId) (fco : Nat → Int32) (kle : ClassId) (fle : Nat → Int32) (p0 : Int32) (p1 : Int32) (gmonths : gi months 0 24) (gfull : gi full 0 5) (glean : gi lean 0 5) (gp0 : gi p0 0 24) (gp1 : gi p1 0 24) (hle_gp0_gmonths : p0.toInt ≤ months.toInt) (hle_gp1_gp0 : p1.toInt ≤ p0.toInt) (hx : p.tables.exec = Jvm.exec) (hb : c.code = cX8_fillCell) (hml : c.maxLocals = 5) (hown : s.vm.findClass RX8 = some m.cls) (hts : ∀ w ∈ ((.code yX8_fillCell cX8_fillCell 5 none :: wsGA) : List Cond), w.before args s = true) (hK : va_K (dC, dI) vwCl [(kco, .int), (kle, .int)] s) (hz : nzA s) (hA : ∀ q : Nat, s.heap.size ≤ q → A q) (hRf : 3 ≤ R.frames) (hRl : 66 ≤ R.locals) (hRc : cells ≤ R.cells) (hRs : slots ≤ R.slots) (kr89 : ∀ (z2 : Nat → Int32) (H : Heap) (locs : List Loc) (ls : Array Slot), z2 = RES → va_P (dC, dI) vwCl [(h0, .inr (8, [.ref co, .ref le, .int months, .int full, .int lean])), (co, .inl (kco, 325, .inl fco)), (le, .inl (kle, 3575, .inl z2))] H → va_D A [(h0, .inr (8, [.ref co, .ref le, .int months, .int full, .int lean])), (co, .inl (kco, 325, .inl fco)), (le, .inl (kle, 3575, .inl z2))] → va_S A s.heap H locs → lv_has ls 5 [] → W p l e R s m args below meth c H locs cells slots Q (F0 m 89 ls [])) : ∀ z : Nat, (∀ (v3 : Int32) (z2 : Nat → Int32) (H : Heap) (locs : List Loc) (ls : Array Slot), gi v3 0 11 → (lfX8_fillCell months full lean fco fle p0 p1 z) v3 z2 = RES → 23 + (-2) * v3.toInt < (z : Int) → va_P (dC, dI) vwCl [(h0, .inr (8, [.ref co, .ref le, .int months, .int full, .int lean])), (co, .inl (kco, 325, .inl fco)), (le, .inl (kle, 3575, .inl z2))] H → va_D A [(h0, .inr (8, [.ref co, .ref le, .int months, .int full, .int lean])), (co, .inl (kco, 325, .inl fco)), (le, .inl (kle, 3575, .inl z2))] → va_S A s.heap H locs → lv_has ls 5 [(0, .ref h0), (1, .int p0), (2, .int p1), (3, .int v3)] → W p l e R s m args below meth c H locs cells slots Q (F0 m 5 ls [])) := by
  intro z
  induction z with
  | zero =>
    intro v3 z2 H locs ls gv3 hF hmu hP hD hS hl
    exact absurd hmu (by have hv31 := gv3.1; have hv32 := gv3.2; omega)
  | succ z ih =>
      intro v3 z2 H locs ls gv3 hF hmu hP hD hS hl
      have hF : dfX8_fillCell_5 months full lean fco fle p0 p1 (lfX8_fillCell months full lean fco fle p0 p1 z) v3 z2 = RES := hF
      refine lv_iload_n hx hb (dk_at dkX8_fillCell 3 rfl) rfl (lv_at hl 3 rfl) ?_
      refine lv_iload_n hx hb (dk_at dkX8_fillCell 4 rfl) rfl (lv_at hl 1 rfl) ?_
      refine lv_aload_n hx hb (dk_at dkX8_fillCell 5 rfl) rfl (lv_at hl 0 rfl) ?_
      refine va_get (D := (dC, dI)) (ci := 8) (v := .int full) (C := RX8) (T := TX8) (N := 5) hx hb hts (fun w h => List.mem_cons_of_mem _ (jnGA_X8 w h)) hown hK hP 0 rfl rfl 3 (by decide) (hts _ (List.mem_cons_of_mem _ mGA_785)) (fun _ h9 => h9) rfl (dk_at dkX8_fillCell 6 rfl) ?_
      refine lv_aload_n hx hb (dk_at dkX8_fillCell 7 rfl) rfl (lv_at hl 0 rfl) ?_
      refine va_get (D := (dC, dI)) (ci := 8) (v := .int lean) (C := RX8) (T := TX8) (N := 5) hx hb hts (fun w h => List.mem_cons_of_mem _ (jnGA_X8 w h)) hown hK hP 0 rfl rfl 4 (by decide) (hts _ (List.mem_cons_of_mem _ mGA_787)) (fun _ h9 => h9) rfl (dk_at dkX8_fillCell 8 rfl) ?_
      have hPc := hP.sub (ws' := []) [] rfl
      have hKc := hK.sub (tys' := []) [] rfl
      refine va_calli (va_runSN (As := [.int p0, .int full, .int lean]) (rest := [.int v3]) ⟨hx, hb, hml, hown, hts⟩ (sX11_lastRun l dC dI p0 full lean gp0 gfull glean) (⟨va_cnB 3 hts (gz_gP mGA_506 goodGA) rfl rfl rfl (nzA_X8_56 hz) (hts _ (List.mem_cons_of_mem _ mGA_1)) hdS_X11_lastRun_X11_3.2 ⟨Nat.le_trans (Nat.le_of_ble_eq_true rfl) hRf, Nat.le_trans (Nat.le_of_ble_eq_true rfl) hRl⟩, (hts _ (List.mem_cons_of_mem _ mGA_505)), trivial⟩) ⟨bl_I (bl_a bl_P (bl_a bl_K bl_nz)), fun U hU hW => ⟨rfl, by rw [hU]; exact hPc, va_K.moved hW.alike hKc, nzA_warm hW hz⟩⟩ rfl rfl hl.1 rfl (lv_room (Nat.le_of_ble_eq_true rfl)) (dk_at dkX8_fillCell 9 rfl) ⟨hRc, hRs⟩) hS (fun q _ h => h.elim) (fun q h => h.elim) (fun r_281 u t H1 locs ht hvm hw hB hz1 hk1 hS => ?_)
      obtain ⟨hw, hE⟩ := hw
      have hP := gz_keep hP hk1
      have hF := gf_call (a := r_281) hE hF
      generalize H1 = H at hP hS ⊢
      have gr_281 : gi r_281 0 10 := hw
      refine lv_icmp_gt (tgt := 89) hx hb (dk_at dkX8_fillCell 10 rfl) (by decide) (fun c_282 => ?_) (fun c_282 => ?_)
      · have hF := gf_pos c_282 hF
        have g_283 : gi v3 1 11 := gi_lt_r c_282 gr_281 gv3 (by decide)
        exact kr89 z2 _ _ _ hF hP hD hS (lv_sub hl [] rfl)
      · have hF := gf_neg c_282 hF
        have g_284 : gi v3 0 10 := gi_le_l (Int32.not_lt.mp c_282) gv3 gr_281
        refine lv_iload_n hx hb (dk_at dkX8_fillCell 11 rfl) rfl (lv_at hl 1 rfl) ?_
        refine lv_aload_n hx hb (dk_at dkX8_fillCell 12 rfl) rfl (lv_at hl 0 rfl) ?_
        refine va_get (D := (dC, dI)) (ci := 8) (v := .int months) (C := RX8) (T := TX8) (N := 5) hx hb hts (fun w h => List.mem_cons_of_mem _ (jnGA_X8 w h)) hown hK hP 0 rfl rfl 2 (by decide) (hts _ (List.mem_cons_of_mem _ mGA_783)) (fun _ h9 => h9) rfl (dk_at dkX8_fillCell 13 rfl) ?_
        refine lv_icmp_ne (tgt := 33) hx hb (dk_at dkX8_fillCell 14 rfl) (by decide) (fun c_285 => ?_) (fun c_285 => ?_)
        · have hF := gf_neg c_285 hF
          have g_286 : gi p0 0 23 := gi_nele hle_gp0_gmonths c_285 gp0 gmonths (by decide)
          have g_287 : gi p1 0 23 := gi_rel hle_gp1_gp0 gp1 g_286
          refine lv_aload_n hx hb (dk_at dkX8_fillCell 17 rfl) rfl (lv_at hl 0 rfl) ?_
          refine lv_iload_n hx hb (dk_at dkX8_fillCell 18 rfl) rfl (lv_at hl 1 rfl) ?_
          refine lv_iload_n hx hb (dk_at dkX8_fillCell 19 rfl) rfl (lv_at hl 2 rfl) ?_
          refine lv_iload_n hx hb (dk_at dkX8_fillCell 20 rfl) rfl (lv_at hl 3 rfl) ?_
          have hPc := hP.sub (ws' := [(h0, .inr (8, [.ref co, .ref le, .int months, .int full, .int lean])), (le, .inl (kle, 3575, .inl z2))]) [0, 2] rfl
          have hKc := hK.sub (tys' := [(kle, .int)]) [1] rfl
          refine va_calli (va_runV (As := [.int p0, .int p1, .int v3]) (rest := []) ⟨hx, hb, hml, hown, hts⟩ (sX8_withFull l dC dI h0 le co months full lean kle z2 p0 p1 v3 gmonths gfull glean g_286 g_287 g_284) (cwV 3 hts (gz_gV mGA_795 mGA_796 mGA_797 mGA_31 mGA_798 goodGA) rfl rfl rfl hdV_X8_withFull_X8_3 ⟨Nat.le_trans (Nat.le_of_ble_eq_true rfl) hRf, Nat.le_trans (Nat.le_of_ble_eq_true rfl) hRl⟩) ⟨bl_I (bl_a bl_P (bl_a bl_K bl_nz)), va_recv hKc hPc (ci := 8) (q0 := 0) rfl rfl, fun U hU hW => ⟨rfl, by rw [hU]; exact hPc, va_K.moved hW.alike hKc, nzA_warm hW hz⟩⟩ rfl rfl hl.1 rfl (lv_room (Nat.le_of_ble_eq_true rfl)) (dk_at dkX8_fillCell 21 rfl) ⟨hRc, hRs⟩) hS (fun q _ h => h.elim) (fun q h => h.elim) (fun r_288 u t H1 locs ht hvm hw hB hz1 hk1 hS => ?_)
          obtain ⟨hw, hE⟩ := hw
          have hP := gz_keep hP hk1
          have hF := gf_call (a := r_288) hE hF
          generalize H1 = H at hP hS ⊢
          refine lv_aload_n hx hb (dk_at dkX8_fillCell 22 rfl) rfl (lv_at hl 0 rfl) ?_
          refine lv_iload_n hx hb (dk_at dkX8_fillCell 23 rfl) rfl (lv_at hl 1 rfl) ?_
          refine lv_iload_n hx hb (dk_at dkX8_fillCell 24 rfl) rfl (lv_at hl 2 rfl) ?_
          refine lv_iload_n hx hb (dk_at dkX8_fillCell 25 rfl) rfl (lv_at hl 3 rfl) ?_
          have hPc := hP.sub (ws' := [(h0, .inr (8, [.ref co, .ref le, .int months, .int full, .int lean])), (le, .inl (kle, 3575, .inl z2))]) [0, 2] rfl
          have hKc := hK.sub (tys' := [(kle, .int)]) [1] rfl
          refine va_calli (va_runV (As := [.int p0, .int p1, .int v3]) (rest := [.int r_288]) ⟨hx, hb, hml, hown, hts⟩ (sX8_withLean l dC dI h0 le co months full lean kle z2 p0 p1 v3 gmonths gfull glean g_286 (gi_w g_287 (by decide)) g_284) (cwV 3 hts (gz_gV mGA_799 mGA_800 mGA_801 mGA_31 mGA_802 goodGA) rfl rfl rfl hdV_X8_withLean_X8_3 ⟨Nat.le_trans (Nat.le_of_ble_eq_true rfl) hRf, Nat.le_trans (Nat.le_of_ble_eq_true rfl) hRl⟩) ⟨bl_I (bl_a bl_P (bl_a bl_K bl_nz)), va_recv hKc hPc (ci := 8) (q0 := 0) rfl rfl, fun U hU hW => ⟨rfl, by rw [hU]; exact hPc, va_K.moved hW.alike hKc, nzA_warm hW hz⟩⟩ rfl rfl hl.1 rfl (lv_room (Nat.le_of_ble_eq_true rfl)) (dk_at dkX8_fillCell 26 rfl) ⟨hRc, hRs⟩) hS (fun q _ h => h.elim) (fun q h => h.elim) (fun r_289 u t H1 locs ht hvm hw hB hz1 hk1 hS => ?_)
          obtain ⟨hw, hE⟩ := hw
          have hP := gz_keep hP hk1
          have hF := gf_call (a := r_289) hE hF
          generalize H1 = H at hP hS ⊢
          refine va_mmin (own := RX8) hx hb (by rw [hml]; exact hl.1.symm) hown (hts _ (List.mem_cons_of_mem _ mGA_794)) (hts _ (List.mem_cons_of_mem _ mGA_268)) (hts _ (List.mem_cons_of_mem _ mGA_269)) (hts _ (List.mem_cons_of_mem _ mGA_270)) (Nat.le_trans (Nat.le_of_ble_eq_true rfl) hRf) (Nat.le_trans (Nat.le_of_ble_eq_true rfl) hRl) hRc hRs (dk_at dkX8_fillCell 27 rfl) ?_
          refine lv_topi (fun x_290 ex_290 => ?_)
          refine lv_istore (lv' := [(4, .int x_290), (0, .ref h0), (1, .int p0), (2, .int p1), (3, .int v3)]) hx hb (dk_at dkX8_fillCell 28 rfl) hl (by decide) rfl (fun ls hl => ?_)
          refine lv_iload hx hb (dk_at dkX8_fillCell 29 rfl) (lv_at hl 0 rfl) ?_
          refine lv_ldc (own := RX8) (v := 1000000) hx hb hown (hts _ (List.mem_cons_of_mem _ mGA_788)) (dk_at dkX8_fillCell 30 rfl) ?_
          refine lv_icmp_ge (tgt := 83) hx hb (dk_at dkX8_fillCell 31 rfl) (by decide) (fun c_291 => ?_) (fun c_291 => ?_)
          · have hF := gf_pos (by rw [ex_290] at c_291; exact c_291) hF
            have g_292 : gi x_290 1000000 2147483647 := gi_le_r c_291 (gi_c 1000000 1000000 (by decide)) (gi_any x_290)
            obtain ⟨x_293, ex_293⟩ : ∃ y : Int32, y = v3 + 1 := ⟨_, rfl⟩
            have gx_293 : gi x_293 1 11 := gi_add ex_293 g_284 (gi_c 1 1 (by decide)) (by decide)
            refine lv_iinc (v := x_293) (lv' := [(3, .int x_293), (4, .int x_290), (0, .ref h0), (1, .int p0), (2, .int p1)]) hx hb (dk_at dkX8_fillCell 47 rfl) hl (k := 4) rfl (by rw [ex_293]; rfl) (by decide) rfl (fun ls hl => ?_)
            refine lv_goto (tgt := 5) hx hb (dk_at dkX8_fillCell 48 rfl) (by decide) ?_
            exact ih x_293 z2 _ _ _ (gi_w gx_293 (by decide)) (by first | (rw [ex_293]; exact hF) | ((try rw [ex_293]); exact hF)) (by have av3 := gv3.1; have bv3 := gv3.2; have qgx_293 := gx_293.1; have rgx_293 := gx_293.2; have igx_293 : x_293.toInt = v3.toInt + 1 := (by have hc1 : (1 : Int32).toInt = 1 := (by decide); have h9 := gi_addE ex_293 g_284 (gi_c 1 1 (by decide)) (by decide); rw [hc1] at h9; exact h9); have qgv3 := g_284.1; have rgv3 := g_284.2; omega) hP hD hS (lv_sub hl [2, 3, 4, 0] rfl)
          · have hF := gf_neg (by rw [ex_290] at c_291; exact c_291) hF
            have g_294 : gi x_290 (-2147483648) 999999 := gi_lt_l (Int32.not_le.mp c_291) (gi_any x_290) (gi_c 1000000 1000000 (by decide)) (by decide)
            refine lv_aload_n hx hb (dk_at dkX8_fillCell 32 rfl) rfl (lv_at hl 1 rfl) ?_
            refine va_get (D := (dC, dI)) (ci := 8) (v := .ref le) (C := RX8) (T := TX8) (N := 5) hx hb hts (fun w h => List.mem_cons_of_mem _ (jnGA_X8 w h)) hown hK hP 0 rfl rfl 1 (by decide) (hts _ (List.mem_cons_of_mem _ mGA_118)) (fun _ h9 => h9) rfl (dk_at dkX8_fillCell 33 rfl) ?_
            refine lv_iload_n hx hb (dk_at dkX8_fillCell 34 rfl) rfl (lv_at hl 2 rfl) ?_
            refine lv_iload_n hx hb (dk_at dkX8_fillCell 35 rfl) rfl (lv_at hl 3 rfl) ?_
            refine lv_iload_n hx hb (dk_at dkX8_fillCell 36 rfl) rfl (lv_at hl 4 rfl) ?_
            have hPc := hP.sub (ws' := []) [] rfl
            have hKc := hK.sub (tys' := []) [] rfl
            refine va_calli (va_runSN (As := [.int p0, .int p1, .int v3]) (rest := [.ref le]) ⟨hx, hb, hml, hown, hts⟩ (sX11_spot l dC dI p0 p1 v3 (gi_w g_286 (by decide)) (gi_w g_287 (by decide)) g_284) (⟨va_cnB 3 hts (gz_gP mGA_582 goodGA) rfl rfl rfl (nzA_X8_71 hz) (hts _ (List.mem_cons_of_mem _ mGA_1)) hdS_X11_spot_X11_3.2 ⟨Nat.le_trans (Nat.le_of_ble_eq_true rfl) hRf, Nat.le_trans (Nat.le_of_ble_eq_true rfl) hRl⟩, (hts _ (List.mem_cons_of_mem _ mGA_581)), trivial⟩) ⟨bl_I (bl_a bl_P (bl_a bl_K bl_nz)), fun U hU hW => ⟨rfl, by rw [hU]; exact hPc, va_K.moved hW.alike hKc, nzA_warm hW hz⟩⟩ rfl rfl hl.1 rfl (lv_room (Nat.le_of_ble_eq_true rfl)) (dk_at dkX8_fillCell 37 rfl) ⟨hRc, hRs⟩) hS (fun q _ h => h.elim) (fun q h => h.elim) (fun r_295 u t H1 locs ht hvm hw hB hz1 hk1 hS => ?_)
            obtain ⟨hw, hE⟩ := hw
            have hP := gz_keep hP hk1
            have hF := gf_call (a := r_295) hE hF
            generalize H1 = H at hP hS ⊢
            have gr_295 : gi r_295 0 3574 := hw
            refine lv_iload hx hb (dk_at dkX8_fillCell 38 rfl) (lv_at hl 0 rfl) ?_
            refine lv_aload_n hx hb (dk_at dkX8_fillCell 39 rfl) rfl (lv_at hl 1 rfl) ?_
            refine va_get (D := (dC, dI)) (ci := 8) (v := .ref co) (C := RX8) (T := TX8) (N := 5) hx hb hts (fun w h => List.mem_cons_of_mem _ (jnGA_X8 w h)) hown hK hP 0 rfl rfl 0 (by decide) (hts _ (List.mem_cons_of_mem _ mGA_117)) (fun _ h9 => h9) rfl (dk_at dkX8_fillCell 40 rfl) ?_
            refine lv_iload_n hx hb (dk_at dkX8_fillCell 41 rfl) rfl (lv_at hl 2 rfl) ?_
            refine lv_iload_n hx hb (dk_at dkX8_fillCell 42 rfl) rfl (lv_at hl 3 rfl) ?_
            have hPc := hP.sub (ws' := []) [] rfl
            have hKc := hK.sub (tys' := []) [] rfl
            refine va_calli (va_runSN (As := [.int p0, .int p1]) (rest := [.ref co, .int x_290, .int r_295, .ref le]) ⟨hx, hb, hml, hown, hts⟩ (sX11_cell l dC dI p0 p1 (gi_w g_286 (by decide)) (gi_w g_287 (by decide))) (⟨va_cnB 2 hts (gz_gP mGA_585 goodGA) rfl rfl rfl (nzA_X8_24 hz) (hts _ (List.mem_cons_of_mem _ mGA_1)) hdS_X11_cell_X11_2.2 ⟨Nat.le_trans (Nat.le_of_ble_eq_true rfl) hRf, Nat.le_trans (Nat.le_of_ble_eq_true rfl) hRl⟩, (hts _ (List.mem_cons_of_mem _ mGA_584)), trivial⟩) ⟨bl_I (bl_a bl_P (bl_a bl_K bl_nz)), fun U hU hW => ⟨rfl, by rw [hU]; exact hPc, va_K.moved hW.alike hKc, nzA_warm hW hz⟩⟩ rfl rfl hl.1 rfl (lv_room (Nat.le_of_ble_eq_true rfl)) (dk_at dkX8_fillCell 43 rfl) ⟨hRc, hRs⟩) hS (fun q _ h => h.elim) (fun q h => h.elim) (fun r_296 u t H1 locs ht hvm hw hB hz1 hk1 hS => ?_)
            obtain ⟨hw, hE⟩ := hw
            have hP := gz_keep hP hk1
            have hF := gf_call (a := r_296) hE hF
            generalize H1 = H at hP hS ⊢
            have gr_296 : gi r_296 0 324 := hw
            refine va_iald hx hb hK hP 1 0 rfl rfl (gi_in gr_296 (by decide)) (dk_at dkX8_fillCell 44 rfl) ?_
            refine lv_topi (fun x_297 ex_297 => ?_)
            refine lv_iadd hx hb (dk_at dkX8_fillCell 45 rfl) ?_
            refine lv_topi (fun x_298 ex_298 => ?_)
            refine va_iast hx hb hK hP hD hS 2 1 rfl rfl (gi_in gr_295 (by decide)) (dk_at dkX8_fillCell 46 rfl) (fun H locs hP hD hS => ?_)
            obtain ⟨hP, hD⟩ := gz_both (w := [(h0, .inr (8, [.ref co, .ref le, .int months, .int full, .int lean])), (co, .inl (kco, 325, .inl fco)), (le, .inl (kle, 3575, .inl (upd z2 (r_295 : Int32).toNatClampNeg x_298)))]) hP hD
            generalize ef_299 : upd z2 (r_295 : Int32).toNatClampNeg x_298 = f_299 at hP hD
            obtain ⟨x_300, ex_300⟩ : ∃ y : Int32, y = v3 + 1 := ⟨_, rfl⟩
            have gx_300 : gi x_300 1 11 := gi_add ex_300 g_284 (gi_c 1 1 (by decide)) (by decide)
            refine lv_iinc (v := x_300) (lv' := [(3, .int x_300), (4, .int x_290), (0, .ref h0), (1, .int p0), (2, .int p1)]) hx hb (dk_at dkX8_fillCell 47 rfl) hl (k := 4) rfl (by rw [ex_300]; rfl) (by decide) rfl (fun ls hl => ?_)
            refine lv_goto (tgt := 5) hx hb (dk_at dkX8_fillCell 48 rfl) (by decide) ?_
            exact ih x_300 f_299 _ _ _ (gi_w gx_300 (by decide)) (by first | (rw [ex_300, ← ef_299, ex_298, ex_297, ex_290]; exact hF) | ((try rw [ex_300]); (try rw [← ef_299]); (try rw [ex_298]); (try rw [ex_297]); (try rw [ex_290]); exact hF)) (by have av3 := gv3.1; have bv3 := gv3.2; have qgx_300 := gx_300.1; have rgx_300 := gx_300.2; have igx_300 : x_300.toInt = v3.toInt + 1 := (by have hc1 : (1 : Int32).toInt = 1 := (by decide); have h9 := gi_addE ex_300 g_284 (gi_c 1 1 (by decide)) (by decide); rw [hc1] at h9; exact h9); have qgv3 := g_284.1; have rgv3 := g_284.2; omega) hP hD hS (lv_sub hl [2, 3, 4, 0] rfl)
        · have hF := gf_pos c_285 hF
          refine lv_iconst (v := 0) hx hb (dk_at dkX8_fillCell 15 rfl) (by decide) ?_
          refine lv_goto (tgt := 50) hx hb (dk_at dkX8_fillCell 16 rfl) (by decide) ?_
          refine lv_istore (lv' := [(4, .int 0), (0, .ref h0), (1, .int p0), (2, .int p1), (3, .int v3)]) hx hb (dk_at dkX8_fillCell 28 rfl) hl (by decide) rfl (fun ls hl => ?_)
          refine lv_iload hx hb (dk_at dkX8_fillCell 29 rfl) (lv_at hl 0 rfl) ?_
          refine lv_ldc (own := RX8) (v := 1000000) hx hb hown (hts _ (List.mem_cons_of_mem _ mGA_788)) (dk_at dkX8_fillCell 30 rfl) ?_
          refine lv_icmp_ge (tgt := 83) hx hb (dk_at dkX8_fillCell 31 rfl) (by decide) (fun c_301 => absurd c_301 (gi_no_le (gi_c 1000000 1000000 (by decide)) (gi_c 0 0 (by decide)) (by decide))) (fun c_301 => ?_)
          first | have hF := gf_neg c_301 hF | (unfold bfX8_fillCell_50 at hF; have hF := gf_neg c_301 hF) | (unfold bfX8_fillCell_83 at hF; have hF := gf_neg c_301 hF) | (unfold bfX8_fillCell_50 at hF; unfold bfX8_fillCell_83 at hF; have hF := gf_neg c_301 hF) | (unfold bfX8_fillCell_83 at hF; unfold bfX8_fillCell_50 at hF; have hF := gf_neg c_301 hF) | skip
          refine lv_aload_n hx hb (dk_at dkX8_fillCell 32 rfl) rfl (lv_at hl 1 rfl) ?_
          refine va_get (D := (dC, dI)) (ci := 8) (v := .ref le) (C := RX8) (T := TX8) (N := 5) hx hb hts (fun w h => List.mem_cons_of_mem _ (jnGA_X8 w h)) hown hK hP 0 rfl rfl 1 (by decide) (hts _ (List.mem_cons_of_mem _ mGA_118)) (fun _ h9 => h9) rfl (dk_at dkX8_fillCell 33 rfl) ?_
          refine lv_iload_n hx hb (dk_at dkX8_fillCell 34 rfl) rfl (lv_at hl 2 rfl) ?_
          refine lv_iload_n hx hb (dk_at dkX8_fillCell 35 rfl) rfl (lv_at hl 3 rfl) ?_
          refine lv_iload_n hx hb (dk_at dkX8_fillCell 36 rfl) rfl (lv_at hl 4 rfl) ?_
          have hPc := hP.sub (ws' := []) [] rfl
          have hKc := hK.sub (tys' := []) [] rfl
          refine va_calli (va_runSN (As := [.int p0, .int p1, .int v3]) (rest := [.ref le]) ⟨hx, hb, hml, hown, hts⟩ (sX11_spot l dC dI p0 p1 v3 gp0 gp1 g_284) (⟨va_cnB 3 hts (gz_gP mGA_582 goodGA) rfl rfl rfl (nzA_X8_71 hz) (hts _ (List.mem_cons_of_mem _ mGA_1)) hdS_X11_spot_X11_3.2 ⟨Nat.le_trans (Nat.le_of_ble_eq_true rfl) hRf, Nat.le_trans (Nat.le_of_ble_eq_true rfl) hRl⟩, (hts _ (List.mem_cons_of_mem _ mGA_581)), trivial⟩) ⟨bl_I (bl_a bl_P (bl_a bl_K bl_nz)), fun U hU hW => ⟨rfl, by rw [hU]; exact hPc, va_K.moved hW.alike hKc, nzA_warm hW hz⟩⟩ rfl rfl hl.1 rfl (lv_room (Nat.le_of_ble_eq_true rfl)) (dk_at dkX8_fillCell 37 rfl) ⟨hRc, hRs⟩) hS (fun q _ h => h.elim) (fun q h => h.elim) (fun r_302 u t H1 locs ht hvm hw hB hz1 hk1 hS => ?_)
          obtain ⟨hw, hE⟩ := hw
          have hP := gz_keep hP hk1
          have hF := gf_call (a := r_302) hE hF
          generalize H1 = H at hP hS ⊢
          have gr_302 : gi r_302 0 3574 := hw
          refine lv_iload hx hb (dk_at dkX8_fillCell 38 rfl) (lv_at hl 0 rfl) ?_
          refine lv_aload_n hx hb (dk_at dkX8_fillCell 39 rfl) rfl (lv_at hl 1 rfl) ?_
          refine va_get (D := (dC, dI)) (ci := 8) (v := .ref co) (C := RX8) (T := TX8) (N := 5) hx hb hts (fun w h => List.mem_cons_of_mem _ (jnGA_X8 w h)) hown hK hP 0 rfl rfl 0 (by decide) (hts _ (List.mem_cons_of_mem _ mGA_117)) (fun _ h9 => h9) rfl (dk_at dkX8_fillCell 40 rfl) ?_
          refine lv_iload_n hx hb (dk_at dkX8_fillCell 41 rfl) rfl (lv_at hl 2 rfl) ?_
          refine lv_iload_n hx hb (dk_at dkX8_fillCell 42 rfl) rfl (lv_at hl 3 rfl) ?_
          have hPc := hP.sub (ws' := []) [] rfl
          have hKc := hK.sub (tys' := []) [] rfl
          refine va_calli (va_runSN (As := [.int p0, .int p1]) (rest := [.ref co, .int 0, .int r_302, .ref le]) ⟨hx, hb, hml, hown, hts⟩ (sX11_cell l dC dI p0 p1 gp0 gp1) (⟨va_cnB 2 hts (gz_gP mGA_585 goodGA) rfl rfl rfl (nzA_X8_24 hz) (hts _ (List.mem_cons_of_mem _ mGA_1)) hdS_X11_cell_X11_2.2 ⟨Nat.le_trans (Nat.le_of_ble_eq_true rfl) hRf, Nat.le_trans (Nat.le_of_ble_eq_true rfl) hRl⟩, (hts _ (List.mem_cons_of_mem _ mGA_584)), trivial⟩) ⟨bl_I (bl_a bl_P (bl_a bl_K bl_nz)), fun U hU hW => ⟨rfl, by rw [hU]; exact hPc, va_K.moved hW.alike hKc, nzA_warm hW hz⟩⟩ rfl rfl hl.1 rfl (lv_room (Nat.le_of_ble_eq_true rfl)) (dk_at dkX8_fillCell 43 rfl) ⟨hRc, hRs⟩) hS (fun q _ h => h.elim) (fun q h => h.elim) (fun r_303 u t H1 locs ht hvm hw hB hz1 hk1 hS => ?_)
          obtain ⟨hw, hE⟩ := hw
          have hP := gz_keep hP hk1
          have hF := gf_call (a := r_303) hE hF
          generalize H1 = H at hP hS ⊢
          have gr_303 : gi r_303 0 324 := hw
          refine va_iald hx hb hK hP 1 0 rfl rfl (gi_in gr_303 (by decide)) (dk_at dkX8_fillCell 44 rfl) ?_
          refine lv_topi (fun x_304 ex_304 => ?_)
          refine lv_iadd hx hb (dk_at dkX8_fillCell 45 rfl) ?_
          refine lv_topi (fun x_305 ex_305 => ?_)
          refine va_iast hx hb hK hP hD hS 2 1 rfl rfl (gi_in gr_302 (by decide)) (dk_at dkX8_fillCell 46 rfl) (fun H locs hP hD hS => ?_)
          obtain ⟨hP, hD⟩ := gz_both (w := [(h0, .inr (8, [.ref co, .ref le, .int months, .int full, .int lean])), (co, .inl (kco, 325, .inl fco)), (le, .inl (kle, 3575, .inl (upd z2 (r_302 : Int32).toNatClampNeg x_305)))]) hP hD
          generalize ef_306 : upd z2 (r_302 : Int32).toNatClampNeg x_305 = f_306 at hP hD
          obtain ⟨x_307, ex_307⟩ : ∃ y : Int32, y = v3 + 1 := ⟨_, rfl⟩
          have gx_307 : gi x_307 1 11 := gi_add ex_307 g_284 (gi_c 1 1 (by decide)) (by decide)
          refine lv_iinc (v := x_307) (lv' := [(3, .int x_307), (4, .int 0), (0, .ref h0), (1, .int p0), (2, .int p1)]) hx hb (dk_at dkX8_fillCell 47 rfl) hl (k := 4) rfl (by rw [ex_307]; rfl) (by decide) rfl (fun ls hl => ?_)
          refine lv_goto (tgt := 5) hx hb (dk_at dkX8_fillCell 48 rfl) (by decide) ?_
          exact ih x_307 f_306 _ _ _ (gi_w gx_307 (by decide)) (by first | (rw [ex_307, ← ef_306, ex_305, ex_304]; exact hF) | ((try rw [ex_307]); (try rw [← ef_306]); (try rw [ex_305]); (try rw [ex_304]); exact hF)) (by have av3 := gv3.1; have bv3 := gv3.2; have qgx_307 := gx_307.1; have rgx_307 := gx_307.2; have igx_307 : x_307.toInt = v3.toInt + 1 := (by have hc1 : (1 : Int32).toInt = 1 := (by decide); have h9 := gi_addE ex_307 g_284 (gi_c 1 1 (by decide)) (by decide); rw [hc1] at h9; exact h9); have qgv3 := g_284.1; have rgv3 := g_284.2; omega) hP hD hS (lv_sub hl [2, 3, 4, 0] rfl)
abbrev pb_sX8_fillCell (dC : Nat → ClassId) (dI : Nat → Nat → Nat) (A9 : Nat → Prop) (h0 : Nat) (co : Nat) (le : Nat) (months : Int32) (full : Int32) (lean : Int32) (kco : ClassId) (fco : Nat → Int32) (kle : ClassId) (fle : Nat → Int32) (p0 : Int32) (p1 : Int32) (z2 : Nat → Int32) (t : State) : Prop := z2 = fX8_fillCell months full lean fco fle p0 p1 ∧ va_P (dC, dI) vwCl [(h0, .inr (8, [.ref co, .ref le, .int months, .int full, .int lean])), (co, .inl (kco, 325, .inl fco)), (le, .inl (kle, 3575, .inl z2))] t.heap ∧ va_D A9 [(h0, .inr (8, [.ref co, .ref le, .int months, .int full, .int lean])), (co, .inl (kco, 325, .inl fco)), (le, .inl (kle, 3575, .inl z2))]
set_option maxHeartbeats 4000000 in
set_option maxRecDepth 100000 in
theorem sX8_fillCell (l : Launch) (dC : Nat → ClassId) (dI : Nat → Nat → Nat) (sz : Nat) (h0 : Nat) (co : Nat) (le : Nat) (months : Int32) (full : Int32) (lean : Int32) (kco : ClassId) (fco : Nat → Int32) (kle : ClassId) (fle : Nat → Int32) (p0 : Int32) (p1 : Int32) (gmonths : gi months 0 24) (gfull : gi full 0 5) (glean : gi lean 0 5) (gp0 : gi p0 0 24) (gp1 : gi p1 0 24) (hle_gp0_gmonths : p0.toInt ≤ months.toInt) (hle_gp1_gp0 : p1.toInt ≤ p0.toInt) : Met l yX8_fillCell (.code yX8_fillCell cX8_fillCell 5 none :: wsGA) ({ frames := 3, cells := 0, slots := 0, locals := 66 }) (va_Pc [.ref h0, .int p0, .int p1] (fun U => U.heap.size = sz ∧ va_P (dC, dI) vwCl [(h0, .inr (8, [.ref co, .ref le, .int months, .int full, .int lean])), (co, .inl (kco, 325, .inl fco)), (le, .inl (kle, 3575, .inl fle))] U.heap ∧ va_K (dC, dI) vwCl [(kco, .int), (kle, .int)] U ∧ va_D (fun _ => True) [(h0, .inr (8, [.ref co, .ref le, .int months, .int full, .int lean])), (co, .inl (kco, 325, .inl fco)), (le, .inl (kle, 3575, .inl fle))] ∧ nzA U)) (va_Qv (fun (u : Unit) => True) (fun _ t => ∃ (z2 : Nat → Int32), pb_sX8_fillCell dC dI (va_A [(h0, .inr (8, [.ref co, .ref le, .int months, .int full, .int lean])), (co, .inl (kco, 325, .inl fco)), (le, .inl (kle, 3575, .inl fle))] sz) h0 co le months full lean kco fco kle fle p0 p1 z2 t) (va_A [(h0, .inr (8, [.ref co, .ref le, .int months, .int full, .int lean])), (co, .inl (kco, 325, .inl fco)), (le, .inl (kle, 3575, .inl fle))] sz)) 0 0 (va_A [(h0, .inr (8, [.ref co, .ref le, .int months, .int full, .int lean])), (co, .inl (kco, 325, .inl fco)), (le, .inl (kle, 3575, .inl fle))] sz) := by
  refine Met.ofW (cc := cX8_fillCell) (maxL := 5) (ret := none) (by decide) rfl ?_
  intro p e s m args below meth c s₁ B hml hv
  obtain ⟨rfl, hsz, hP, hK, hD0, hz⟩ := hv
  have hx := B.exec
  have hb := B.bytes
  have hr := B.returns
  have hts := atoms_spec (ws := (.code yX8_fillCell cX8_fillCell 5 none :: wsGA)) B.pre
  have hown : s.vm.findClass RX8 = some m.cls := findClass_of_methodNamed B.named
  have hlocks := B.notSynchronized
  subst hsz
  have hD := hD0.self (sz := s.heap.size)
  generalize hAe : va_A [(h0, .inr (8, [.ref co, .ref le, .int months, .int full, .int lean])), (co, .inl (kco, 325, .inl fco)), (le, .inl (kle, 3575, .inl fle))] s.heap.size = A at hD ⊢
  have hA : ∀ q : Nat, s.heap.size ≤ q → A q := fun q h => by rw [← hAe]; exact Or.inr h
  have hS : va_S A s.heap s.heap [] := va_S.rf
  have hl := lv_entry ([.ref h0, .int p0, .int p1]) (n := 5) (Nat.le_of_ble_eq_true rfl)
  rw [lg_entry_eq]
  generalize (lg_sl ([.ref h0, .int p0, .int p1]) ++ List.replicate (5 - (lg_sl ([.ref h0, .int p0, .int p1])).length) Slot.unset).toArray = ls at hl ⊢
  have hl : lv_has ls 5 [(0, .ref h0), (1, .int p0), (2, .int p1)] := hl
  obtain ⟨RES, hF⟩ : ∃ R9, fX8_fillCell months full lean fco fle p0 p1 = R9 := ⟨_, rfl⟩
  have hR9 := hF
  refine lv_iload_n hx hb (dk_at dkX8_fillCell 0 rfl) rfl (lv_at hl 1 rfl) ?_
  have hPc := hP.sub (ws' := []) [] rfl
  have hKc := hK.sub (tys' := []) [] rfl
  refine va_calli (va_runSN (As := [.int p0]) (rest := []) ⟨hx, hb, hml, hown, hts⟩ (sX11_firstRun l dC dI p0 gp0) (⟨va_cnB 1 hts (gz_gP mGA_504 goodGA) rfl rfl rfl (nzA_X8_52 hz) (hts _ (List.mem_cons_of_mem _ mGA_1)) hdS_X11_firstRun_X11_1.2 ⟨Nat.le_of_ble_eq_true rfl, Nat.le_of_ble_eq_true rfl⟩, (hts _ (List.mem_cons_of_mem _ mGA_503)), trivial⟩) ⟨bl_I (bl_a bl_P (bl_a bl_K bl_nz)), fun U hU hW => ⟨rfl, by rw [hU]; exact hPc, va_K.moved hW.alike hKc, nzA_warm hW hz⟩⟩ rfl rfl hl.1 rfl (lv_room (Nat.le_of_ble_eq_true rfl)) (dk_at dkX8_fillCell 1 rfl) ⟨Nat.zero_le _, Nat.zero_le _⟩) hS (fun q _ h => h.elim) (fun q h => h.elim) (fun r_308 u t H1 locs ht hvm hw hB hz1 hk1 hS => ?_)
  obtain ⟨hw, hE⟩ := hw
  have hP := gz_keep hP hk1
  have hF := gf_call (a := r_308) hE hF
  generalize H1 = H at hP hS ⊢
  have gr_308 : gi r_308 0 1 := hw
  refine lv_istore_n (lv' := [(3, .int r_308), (0, .ref h0), (1, .int p0), (2, .int p1)]) hx hb (dk_at dkX8_fillCell 2 rfl) rfl hl (by decide) rfl (fun ls hl => ?_)
  refine (lp_sX8_fillCell h0 co le months full lean kco fco kle fle p0 p1 gmonths gfull glean gp0 gp1 hle_gp0_gmonths hle_gp1_gp0 hx hb hml hown hts hK hz hA (Nat.le_of_ble_eq_true rfl) (Nat.le_of_ble_eq_true rfl) (Nat.zero_le _) (Nat.zero_le _) (fun z2 H locs ls hF hP hD hS hl => ?_) 1000000000) r_308 fle _ _ _ (gi_w gr_308 (by decide)) hF (by have qgr_308 := gr_308.1; have rgr_308 := gr_308.2; omega) hP hD hS (lv_sub hl [1, 2, 3, 0] rfl)
  · skip
    exact W.vret hx hb hr (fun t ht hW => ⟨⟨(), rfl, trivial, z2, hF.trans hR9.symm, by rw [ht]; exact hP, hD⟩, hS.F ht⟩) hS.2.2 (dk_at dkX8_fillCell 49 rfl)
noncomputable def lsX8_run : List (Nat × Instr × Nat) := [(0, .aload_n 0, 1), (1, .aload_n 1, 1), (2, .getfield 28, 3), (5, .putfield 34, 3), (8, .aload_n 0, 1), (9, .aload_n 1, 1), (10, .getfield 35, 3), (13, .putfield 38, 3), (16, .aload_n 0, 1), (17, .aload_n 1, 1), (18, .getfield 39, 3), (21, .putfield 42, 3), (24, .aload_n 0, 1), (25, .getfield 15, 3), (28, .ldc 43, 2), (30, .invokestatic 18, 3), (33, .aload_n 0, 1), (34, .getfield 34, 3), (37, .istore_n 2, 1), (38, .iload_n 2, 1), (39, .ifCond .lt 37, 3), (42, .iconst 0, 1), (43, .istore_n 3, 1), (44, .iload_n 3, 1), (45, .iload_n 2, 1), (46, .if_icmp .gt 24, 3), (49, .aload_n 1, 1), (50, .iload_n 2, 1), (51, .iload_n 3, 1), (52, .invokevirtual 44, 3), (55, .ifCond .eq 9, 3), (58, .aload_n 0, 1), (59, .iload_n 2, 1), (60, .iload_n 3, 1), (61, .invokevirtual 48, 3), (64, .iinc 3 1, 3), (67, .goto (-23), 3), (70, .iinc 2 (-1), 3), (73, .goto (-35), 3), (76, .return_, 1)]
theorem dkX8_run : dkAll cX8_run lsX8_run = true := dk_fast (by decide +kernel)
noncomputable def bfX8_run_64 (fco : Nat → Int32) (fle : Nat → Int32) (frmonths : Int32) (frfull : Int32) (frlean : Int32) (ffral : Nat → Int32) (K : (Int32 → Int32 → Int32 → Int32 → (Nat → Int32) → (Int32 × Int32 × Int32 × (Nat → Int32))) × (Int32 → Int32 → Int32 → Int32 → Int32 → (Nat → Int32) → (Int32 × Int32 × Int32 × (Nat → Int32)))) (v2 : Int32) (v3 : Int32) (w0_2 : Int32) (w0_3 : Int32) (w0_4 : Int32) (z2 : Nat → Int32) : Int32 × Int32 × Int32 × (Nat → Int32) := K.2 v2 (v3 + (1 : Int32)) w0_2 w0_3 w0_4 z2
noncomputable def dfX8_run_38 (fco : Nat → Int32) (fle : Nat → Int32) (frmonths : Int32) (frfull : Int32) (frlean : Int32) (ffral : Nat → Int32) (K : (Int32 → Int32 → Int32 → Int32 → (Nat → Int32) → (Int32 × Int32 × Int32 × (Nat → Int32))) × (Int32 → Int32 → Int32 → Int32 → Int32 → (Nat → Int32) → (Int32 × Int32 × Int32 × (Nat → Int32)))) (v2 : Int32) (w0_2 : Int32) (w0_3 : Int32) (w0_4 : Int32) (z2 : Nat → Int32) : Int32 × Int32 × Int32 × (Nat → Int32) := if v2 < (0 : Int32) then (w0_2, w0_3, w0_4, z2) else (K.2 v2 (0 : Int32) w0_2 w0_3 w0_4 z2)
noncomputable def dfX8_run_44 (fco : Nat → Int32) (fle : Nat → Int32) (frmonths : Int32) (frfull : Int32) (frlean : Int32) (ffral : Nat → Int32) (K : (Int32 → Int32 → Int32 → Int32 → (Nat → Int32) → (Int32 × Int32 × Int32 × (Nat → Int32))) × (Int32 → Int32 → Int32 → Int32 → Int32 → (Nat → Int32) → (Int32 × Int32 × Int32 × (Nat → Int32)))) (v2 : Int32) (v3 : Int32) (w0_2 : Int32) (w0_3 : Int32) (w0_4 : Int32) (z2 : Nat → Int32) : Int32 × Int32 × Int32 × (Nat → Int32) := if v2 < v3 then (K.1 (v2 + (-1 : Int32)) w0_2 w0_3 w0_4 z2) else (cal (fun o2 => if o2 = (0 : Int32) then (bfX8_run_64 fco fle frmonths frfull frlean ffral K v2 v3 w0_2 w0_3 w0_4 z2) else (cal (fun o3 => bfX8_run_64 fco fle frmonths frfull frlean ffral K v2 v3 w0_2 w0_3 w0_4 o3) (fX8_fillCell w0_2 w0_3 w0_4 fco z2 v2 v3))) (fX3_allows ffral v2 v3))
noncomputable def lfX8_run (fco : Nat → Int32) (fle : Nat → Int32) (frmonths : Int32) (frfull : Int32) (frlean : Int32) (ffral : Nat → Int32) (z : Nat) : (Int32 → Int32 → Int32 → Int32 → (Nat → Int32) → (Int32 × Int32 × Int32 × (Nat → Int32))) × (Int32 → Int32 → Int32 → Int32 → Int32 → (Nat → Int32) → (Int32 × Int32 × Int32 × (Nat → Int32))) := Nat.rec (motive := fun _ => (Int32 → Int32 → Int32 → Int32 → (Nat → Int32) → (Int32 × Int32 × Int32 × (Nat → Int32))) × (Int32 → Int32 → Int32 → Int32 → Int32 → (Nat → Int32) → (Int32 × Int32 × Int32 × (Nat → Int32)))) ((fun _ w0_2 w0_3 w0_4 z2 => (w0_2, w0_3, w0_4, z2), fun _ _ w0_2 w0_3 w0_4 z2 => (w0_2, w0_3, w0_4, z2))) (fun _ K => (dfX8_run_38 fco fle frmonths frfull frlean ffral K, dfX8_run_44 fco fle frmonths frfull frlean ffral K)) z
noncomputable def fX8_run (fco : Nat → Int32) (fle : Nat → Int32) (frmonths : Int32) (frfull : Int32) (frlean : Int32) (ffral : Nat → Int32) : Int32 × Int32 × Int32 × (Nat → Int32) := cal (fun o1 => (lfX8_run fco fle frmonths frfull frlean ffral 1000000000).1 frmonths frmonths frfull frlean o1) (fJ7_fill_53178_sJ7_fill3575 fle (1000000 : Int32))
set_option maxHeartbeats 4000000 in
set_option maxRecDepth 100000 in
theorem lp_sX8_run {p : Program} {l : Launch} {e : Env} {R : Room} {s : State} {m : MethodId} {args : Array Value} {below : List Frame} {meth : Method} {c : Code} {Q : State → Prop} {A : Nat → Prop} {cells slots : Nat} {dC : Nat → ClassId} {dI : Nat → Nat → Nat} {RES : Int32 × Int32 × Int32 × (Nat → Int32)} (h0 : Nat) (co : Nat) (le : Nat) (fr : Nat) (fral : Nat) (months : Int32) (full : Int32) (lean : Int32) (kco : ClassId) (fco : Nat → Int32) (kle : ClassId) (fle : Nat → Int32) (frmonths : Int32) (frfull : Int32) (frlean : Int32) (fron : Nat) (kfral : ClassId) (ffral : Nat → Int32) (gmonths : gi months 0 24) (gfull : gi full 0 5) (glean : gi lean 0 5) (gfrmonths : gi frmonths 0 24) (gfrfull : gi frfull 0 5) (gfrlean : gi frlean 0 5) (hx : p.tables.exec = Jvm.exec) (hb : c.code = cX8_run) (hml : c.maxLocals = 4) (hown : s.vm.findClass RX8 = some m.cls) (hts : ∀ w ∈ ((.code yX8_run cX8_run 4 none :: wsGA) : List Cond), w.before args s = true) (hK : va_K (dC, dI) vwCl [(kco, .int), (kle, .int), (kfral, .int)] s) (hz : nzA s) (hA : ∀ q : Nat, s.heap.size ≤ q → A q) (hRf : 4 ≤ R.frames) (hRl : 90 ≤ R.locals) (hRc : cells ≤ R.cells) (hRs : slots ≤ R.slots) (kr76 : ∀ (w0_2 : Int32) (w0_3 : Int32) (w0_4 : Int32) (z2 : Nat → Int32) (H : Heap) (locs : List Loc) (ls : Array Slot), gi w0_2 0 24 → gi w0_3 0 5 → gi w0_4 0 5 → (w0_2, w0_3, w0_4, z2) = RES → va_P (dC, dI) vwCl [(h0, .inr (8, [.ref co, .ref le, .int w0_2, .int w0_3, .int w0_4])), (co, .inl (kco, 325, .inl fco)), (le, .inl (kle, 3575, .inl z2)), (fr, .inr (3, [.int frmonths, .int frfull, .int frlean, .ref fral, .ref fron])), (fral, .inl (kfral, 25, .inl ffral))] H → va_D A [(h0, .inr (8, [.ref co, .ref le, .int w0_2, .int w0_3, .int w0_4])), (co, .inl (kco, 325, .inl fco)), (le, .inl (kle, 3575, .inl z2)), (fr, .inr (3, [.int frmonths, .int frfull, .int frlean, .ref fral, .ref fron])), (fral, .inl (kfral, 25, .inl ffral))] → va_S A s.heap H locs → lv_has ls 4 [] → W p l e R s m args below meth c H locs cells slots Q (F0 m 76 ls [])) : ∀ z : Nat, (∀ (v2 : Int32) (w0_2 : Int32) (w0_3 : Int32) (w0_4 : Int32) (z2 : Nat → Int32) (H : Heap) (locs : List Loc) (ls : Array Slot), gi v2 (-1) 24 → gi w0_2 0 24 → gi w0_3 0 5 → gi w0_4 0 5 → v2.toInt ≤ w0_2.toInt → (lfX8_run fco fle frmonths frfull frlean ffral z).1 v2 w0_2 w0_3 w0_4 z2 = RES → 57 + 56 * v2.toInt < (z : Int) → va_P (dC, dI) vwCl [(h0, .inr (8, [.ref co, .ref le, .int w0_2, .int w0_3, .int w0_4])), (co, .inl (kco, 325, .inl fco)), (le, .inl (kle, 3575, .inl z2)), (fr, .inr (3, [.int frmonths, .int frfull, .int frlean, .ref fral, .ref fron])), (fral, .inl (kfral, 25, .inl ffral))] H → va_D A [(h0, .inr (8, [.ref co, .ref le, .int w0_2, .int w0_3, .int w0_4])), (co, .inl (kco, 325, .inl fco)), (le, .inl (kle, 3575, .inl z2)), (fr, .inr (3, [.int frmonths, .int frfull, .int frlean, .ref fral, .ref fron])), (fral, .inl (kfral, 25, .inl ffral))] → va_S A s.heap H locs → lv_has ls 4 [(0, .ref h0), (1, .ref fr), (2, .int v2)] → W p l e R s m args below meth c H locs cells slots Q (F0 m 38 ls [])) ∧ (∀ (v2 : Int32) (v3 : Int32) (w0_2 : Int32) (w0_3 : Int32) (w0_4 : Int32) (z2 : Nat → Int32) (H : Heap) (locs : List Loc) (ls : Array Slot), gi v2 0 24 → gi v3 0 25 → gi w0_2 0 24 → gi w0_3 0 5 → gi w0_4 0 5 → v2.toInt ≤ w0_2.toInt → (lfX8_run fco fle frmonths frfull frlean ffral z).2 v2 v3 w0_2 w0_3 w0_4 z2 = RES → 52 + 56 * v2.toInt + (-2) * v3.toInt < (z : Int) → va_P (dC, dI) vwCl [(h0, .inr (8, [.ref co, .ref le, .int w0_2, .int w0_3, .int w0_4])), (co, .inl (kco, 325, .inl fco)), (le, .inl (kle, 3575, .inl z2)), (fr, .inr (3, [.int frmonths, .int frfull, .int frlean, .ref fral, .ref fron])), (fral, .inl (kfral, 25, .inl ffral))] H → va_D A [(h0, .inr (8, [.ref co, .ref le, .int w0_2, .int w0_3, .int w0_4])), (co, .inl (kco, 325, .inl fco)), (le, .inl (kle, 3575, .inl z2)), (fr, .inr (3, [.int frmonths, .int frfull, .int frlean, .ref fral, .ref fron])), (fral, .inl (kfral, 25, .inl ffral))] → va_S A s.heap H locs → lv_has ls 4 [(0, .ref h0), (1, .ref fr), (2, .int v2), (3, .int v3)] → W p l e R s m args below meth c H locs cells slots Q (F0 m 44 ls [])) := by
  intro z
  induction z with
  | zero =>
    refine ⟨?_, ?_⟩
    · intro v2 w0_2 w0_3 w0_4 z2 H locs ls gv2 gw0_2 gw0_3 gw0_4 hle_gv2_gw0_2 hF hmu hP hD hS hl
      exact absurd hmu (by have hv21 := gv2.1; have hv22 := gv2.2; omega)
    · intro v2 v3 w0_2 w0_3 w0_4 z2 H locs ls gv2 gv3 gw0_2 gw0_3 gw0_4 hle_gv2_gw0_2 hF hmu hP hD hS hl
      exact absurd hmu (by have hv21 := gv2.1; have hv22 := gv2.2; have hv31 := gv3.1; have hv32 := gv3.2; omega)
  | succ z ih =>
    refine ⟨?_, ?_⟩
    · intro v2 w0_2 w0_3 w0_4 z2 H locs ls gv2 gw0_2 gw0_3 gw0_4 hle_gv2_gw0_2 hF hmu hP hD hS hl
      have hF : dfX8_run_38 fco fle frmonths frfull frlean ffral (lfX8_run fco fle frmonths frfull frlean ffral z) v2 w0_2 w0_3 w0_4 z2 = RES := hF
      refine lv_iload_n hx hb (dk_at dkX8_run 19 rfl) rfl (lv_at hl 2 rfl) ?_
      refine lv_if_lt (tgt := 76) hx hb (dk_at dkX8_run 20 rfl) (by decide) (fun c_266 => ?_) (fun c_266 => ?_)
      · have hF := gf_pos c_266 hF
        have g_267 : gi v2 (-1) (-1) := gi_lt_l c_266 gv2 (gi_c 0 0 (by decide)) (by decide)
        exact kr76 w0_2 w0_3 w0_4 z2 _ _ _ gw0_2 gw0_3 gw0_4 hF hP hD hS (lv_sub hl [] rfl)
      · have hF := gf_neg c_266 hF
        have g_268 : gi v2 0 24 := gi_le_r (Int32.not_lt.mp c_266) (gi_c 0 0 (by decide)) gv2
        refine lv_iconst (v := 0) hx hb (dk_at dkX8_run 21 rfl) (by decide) ?_
        refine lv_istore_n (lv' := [(3, .int 0), (0, .ref h0), (1, .ref fr), (2, .int v2)]) hx hb (dk_at dkX8_run 22 rfl) rfl hl (by decide) rfl (fun ls hl => ?_)
        exact ih.2 v2 0 w0_2 w0_3 w0_4 z2 _ _ _ g_268 (gi_w (gi_c 0 0 (by decide)) (by decide)) gw0_2 gw0_3 gw0_4 (by have qgw0_2 := gw0_2.1; have rgw0_2 := gw0_2.2; have qgv2 := g_268.1; have rgv2 := g_268.2; omega) hF (by have k0 : (0 : Int32).toInt = 0 := (by decide); have av2 := gv2.1; have bv2 := gv2.2; have qgv2 := g_268.1; have rgv2 := g_268.2; omega) hP hD hS (lv_sub hl [1, 2, 3, 0] rfl)
    · intro v2 v3 w0_2 w0_3 w0_4 z2 H locs ls gv2 gv3 gw0_2 gw0_3 gw0_4 hle_gv2_gw0_2 hF hmu hP hD hS hl
      have hF : dfX8_run_44 fco fle frmonths frfull frlean ffral (lfX8_run fco fle frmonths frfull frlean ffral z) v2 v3 w0_2 w0_3 w0_4 z2 = RES := hF
      refine lv_iload_n hx hb (dk_at dkX8_run 23 rfl) rfl (lv_at hl 3 rfl) ?_
      refine lv_iload_n hx hb (dk_at dkX8_run 24 rfl) rfl (lv_at hl 2 rfl) ?_
      refine lv_icmp_gt (tgt := 70) hx hb (dk_at dkX8_run 25 rfl) (by decide) (fun c_269 => ?_) (fun c_269 => ?_)
      · have hF := gf_pos c_269 hF
        have g_270 : gi v3 1 25 := gi_lt_r c_269 gv2 gv3 (by decide)
        obtain ⟨x_271, ex_271⟩ : ∃ y : Int32, y = v2 + (-1) := ⟨_, rfl⟩
        have gx_271 : gi x_271 (-1) 23 := gi_add ex_271 gv2 (gi_c (-1) (-1) (by decide)) (by decide)
        refine lv_iinc (v := x_271) (lv' := [(2, .int x_271), (0, .ref h0), (1, .ref fr), (3, .int v3)]) hx hb (dk_at dkX8_run 37 rfl) hl (k := 2) rfl (by rw [ex_271]; rfl) (by decide) rfl (fun ls hl => ?_)
        refine lv_goto (tgt := 38) hx hb (dk_at dkX8_run 38 rfl) (by decide) ?_
        exact ih.1 x_271 w0_2 w0_3 w0_4 z2 _ _ _ (gi_w gx_271 (by decide)) gw0_2 gw0_3 gw0_4 (by have qgw0_2 := gw0_2.1; have rgw0_2 := gw0_2.2; have qgx_271 := gx_271.1; have rgx_271 := gx_271.2; have igx_271 : x_271.toInt = v2.toInt + (-1) := (by have hcm1 : ((-1) : Int32).toInt = (-1) := (by decide); have h9 := gi_addE ex_271 gv2 (gi_c (-1) (-1) (by decide)) (by decide); rw [hcm1] at h9; exact h9); have qgv2 := gv2.1; have rgv2 := gv2.2; have y1 := (Int32.lt_iff_toInt_lt.mp c_269); omega) (by first | (rw [ex_271]; exact hF) | ((try rw [ex_271]); exact hF)) (by have av2 := gv2.1; have bv2 := gv2.2; have av3 := gv3.1; have bv3 := gv3.2; have qgx_271 := gx_271.1; have rgx_271 := gx_271.2; have igx_271 : x_271.toInt = v2.toInt + (-1) := (by have hcm1 : ((-1) : Int32).toInt = (-1) := (by decide); have h9 := gi_addE ex_271 gv2 (gi_c (-1) (-1) (by decide)) (by decide); rw [hcm1] at h9; exact h9); have qgv2 := gv2.1; have rgv2 := gv2.2; omega) hP hD hS (lv_sub hl [1, 2, 0] rfl)
      · have hF := gf_neg c_269 hF
        have g_272 : gi v3 0 24 := gi_le_l (Int32.not_lt.mp c_269) gv3 gv2
        refine lv_aload_n hx hb (dk_at dkX8_run 26 rfl) rfl (lv_at hl 1 rfl) ?_
        refine lv_iload_n hx hb (dk_at dkX8_run 27 rfl) rfl (lv_at hl 2 rfl) ?_
        refine lv_iload_n hx hb (dk_at dkX8_run 28 rfl) rfl (lv_at hl 3 rfl) ?_
        have hPc := hP.sub (ws' := [(fr, .inr (3, [.int frmonths, .int frfull, .int frlean, .ref fral, .ref fron])), (fral, .inl (kfral, 25, .inl ffral))]) [3, 4] rfl
        have hKc := hK.sub (tys' := [(kfral, .int)]) [2] rfl
        refine va_calli (va_runV (As := [.int v2, .int v3]) (rest := []) ⟨hx, hb, hml, hown, hts⟩ (sX3_allows l dC dI fr fral frmonths frfull frlean fron kfral ffral v2 v3 gfrmonths gfrfull gfrlean gv2) (cwV 2 hts (gz_gV mGA_789 mGA_574 mGA_575 mGA_18 mGA_576 goodGA) rfl rfl rfl hdV_X3_allows_X3_2 ⟨Nat.le_trans (Nat.le_of_ble_eq_true rfl) hRf, Nat.le_trans (Nat.le_of_ble_eq_true rfl) hRl⟩) ⟨bl_I (bl_a bl_P (bl_a bl_K bl_nz)), va_recv hKc hPc (ci := 3) (q0 := 0) rfl rfl, fun U hU hW => ⟨rfl, by rw [hU]; exact hPc, va_K.moved hW.alike hKc, nzA_warm hW hz⟩⟩ rfl rfl hl.1 rfl (lv_room (Nat.le_of_ble_eq_true rfl)) (dk_at dkX8_run 29 rfl) ⟨hRc, hRs⟩) hS (fun q _ h => h.elim) (fun q h => h.elim) (fun r_273 u t H1 locs ht hvm hw hB hz1 hk1 hS => ?_)
        obtain ⟨hw, hE⟩ := hw
        have hP := gz_keep hP hk1
        have hF := gf_call (a := r_273) hE hF
        generalize H1 = H at hP hS ⊢
        have gr_273 : gi r_273 0 1 := hw
        refine lv_if_eq (tgt := 64) hx hb (dk_at dkX8_run 30 rfl) (by decide) (fun c_274 => ?_) (fun c_274 => ?_)
        · have hF := gf_pos c_274 hF
          have g_275 : gi r_273 0 0 := gi_eq c_274 (gi_c 0 0 (by decide))
          obtain ⟨x_276, ex_276⟩ : ∃ y : Int32, y = v3 + 1 := ⟨_, rfl⟩
          have gx_276 : gi x_276 1 25 := gi_add ex_276 g_272 (gi_c 1 1 (by decide)) (by decide)
          refine lv_iinc (v := x_276) (lv' := [(3, .int x_276), (0, .ref h0), (1, .ref fr), (2, .int v2)]) hx hb (dk_at dkX8_run 35 rfl) hl (k := 3) rfl (by rw [ex_276]; rfl) (by decide) rfl (fun ls hl => ?_)
          refine lv_goto (tgt := 44) hx hb (dk_at dkX8_run 36 rfl) (by decide) ?_
          exact ih.2 v2 x_276 w0_2 w0_3 w0_4 z2 _ _ _ gv2 (gi_w gx_276 (by decide)) gw0_2 gw0_3 gw0_4 (by have qgw0_2 := gw0_2.1; have rgw0_2 := gw0_2.2; have qgv2 := gv2.1; have rgv2 := gv2.2; have y1 := (Int32.le_iff_toInt_le.mp (Int32.not_lt.mp c_269)); omega) (by first | (rw [ex_276]; exact hF) | ((try rw [ex_276]); exact hF)) (by have av2 := gv2.1; have bv2 := gv2.2; have av3 := gv3.1; have bv3 := gv3.2; have qgx_276 := gx_276.1; have rgx_276 := gx_276.2; have igx_276 : x_276.toInt = v3.toInt + 1 := (by have hc1 : (1 : Int32).toInt = 1 := (by decide); have h9 := gi_addE ex_276 g_272 (gi_c 1 1 (by decide)) (by decide); rw [hc1] at h9; exact h9); have qgv3 := g_272.1; have rgv3 := g_272.2; have qgv2 := gv2.1; have rgv2 := gv2.2; omega) hP hD hS (lv_sub hl [1, 2, 3, 0] rfl)
        · have hF := gf_neg c_274 hF
          have g_277 : gi r_273 1 1 := gi_ne_lo c_274 gr_273 (gi_c 0 0 (by decide)) (by decide)
          refine lv_aload_n hx hb (dk_at dkX8_run 31 rfl) rfl (lv_at hl 0 rfl) ?_
          refine lv_iload_n hx hb (dk_at dkX8_run 32 rfl) rfl (lv_at hl 2 rfl) ?_
          refine lv_iload_n hx hb (dk_at dkX8_run 33 rfl) rfl (lv_at hl 3 rfl) ?_
          obtain ⟨hPc, hDc, hFc⟩ := gz_cut (wc := [(h0, .inr (8, [.ref co, .ref le, .int w0_2, .int w0_3, .int w0_4])), (co, .inl (kco, 325, .inl fco)), (le, .inl (kle, 3575, .inl z2))]) hP hD hS hA [0, 1, 2] (by decide) rfl
          have hKc := hK.sub (tys' := [(kco, .int), (kle, .int)]) [0, 1] rfl
          refine va_callv (va_runV (As := [.int v2, .int v3]) (rest := []) ⟨hx, hb, hml, hown, hts⟩ (sX8_fillCell l dC dI H.size h0 co le w0_2 w0_3 w0_4 kco fco kle z2 v2 v3 gw0_2 gw0_3 gw0_4 gv2 g_272 (by have qgw0_2 := gw0_2.1; have rgw0_2 := gw0_2.2; have qgv2 := gv2.1; have rgv2 := gv2.2; have y1 := (Int32.le_iff_toInt_le.mp (Int32.not_lt.mp c_269)); omega) (by have qgv2 := gv2.1; have rgv2 := gv2.2; have qgv3 := g_272.1; have rgv3 := g_272.2; have y1 := (Int32.le_iff_toInt_le.mp (Int32.not_lt.mp c_269)); omega)) (cwV 2 hts (gz_gV mGA_790 mGA_791 mGA_792 mGA_31 mGA_793 goodGA) rfl rfl rfl hdV_X8_fillCell_X8_2 ⟨Nat.le_trans (Nat.le_of_ble_eq_true rfl) hRf, Nat.le_trans (Nat.le_of_ble_eq_true rfl) hRl⟩) ⟨bl_I (bl_a bl_sz (bl_a bl_P (bl_a bl_K (bl_a bl_c bl_nz)))), va_recv hKc hPc (ci := 8) (q0 := 0) rfl rfl, fun U hU hW => ⟨rfl, by rw [hU], by rw [hU]; exact hPc, va_K.moved hW.alike hKc, hDc.weaken (fun _ _ _ _ => trivial), nzA_warm hW hz⟩⟩ rfl rfl hl.1 rfl (lv_room (Nat.le_of_ble_eq_true rfl)) (dk_at dkX8_run 34 rfl) ⟨hRc, hRs⟩) hS (fun q _ h => hFc q h) hFc (fun u t H1 locs ht hvm hw hB hz1 hk1 hS => ?_)
          obtain ⟨f_279, hB⟩ := hB
          obtain ⟨hE, hP1, hD1⟩ := hB
          rw [ht] at hP1
          obtain ⟨hP, hD⟩ := gz_back hP hD hk1 hFc hP1 hD1 [0, 1, 2] rfl rfl
          obtain ⟨hP, hD⟩ := gz_both (w := [(h0, .inr (8, [.ref co, .ref le, .int w0_2, .int w0_3, .int w0_4])), (co, .inl (kco, 325, .inl fco)), (le, .inl (kle, 3575, .inl f_279)), (fr, .inr (3, [.int frmonths, .int frfull, .int frlean, .ref fral, .ref fron])), (fral, .inl (kfral, 25, .inl ffral))]) hP hD
          have hF := gf_call (a := f_279) hE hF
          generalize H1 = H at hP hS ⊢
          obtain ⟨x_280, ex_280⟩ : ∃ y : Int32, y = v3 + 1 := ⟨_, rfl⟩
          have gx_280 : gi x_280 1 25 := gi_add ex_280 g_272 (gi_c 1 1 (by decide)) (by decide)
          refine lv_iinc (v := x_280) (lv' := [(3, .int x_280), (0, .ref h0), (1, .ref fr), (2, .int v2)]) hx hb (dk_at dkX8_run 35 rfl) hl (k := 3) rfl (by rw [ex_280]; rfl) (by decide) rfl (fun ls hl => ?_)
          refine lv_goto (tgt := 44) hx hb (dk_at dkX8_run 36 rfl) (by decide) ?_
          exact ih.2 v2 x_280 w0_2 w0_3 w0_4 f_279 _ _ _ gv2 (gi_w gx_280 (by decide)) gw0_2 gw0_3 gw0_4 (by have qgw0_2 := gw0_2.1; have rgw0_2 := gw0_2.2; have qgv2 := gv2.1; have rgv2 := gv2.2; have y1 := (Int32.le_iff_toInt_le.mp (Int32.not_lt.mp c_269)); omega) (by first | (rw [ex_280]; exact hF) | ((try rw [ex_280]); exact hF)) (by have av2 := gv2.1; have bv2 := gv2.2; have av3 := gv3.1; have bv3 := gv3.2; have qgx_280 := gx_280.1; have rgx_280 := gx_280.2; have igx_280 : x_280.toInt = v3.toInt + 1 := (by have hc1 : (1 : Int32).toInt = 1 := (by decide); have h9 := gi_addE ex_280 g_272 (gi_c 1 1 (by decide)) (by decide); rw [hc1] at h9; exact h9); have qgv3 := g_272.1; have rgv3 := g_272.2; have qgv2 := gv2.1; have rgv2 := gv2.2; omega) hP hD hS (lv_sub hl [1, 2, 3, 0] rfl)
abbrev pb_sX8_run (dC : Nat → ClassId) (dI : Nat → Nat → Nat) (A9 : Nat → Prop) (h0 : Nat) (co : Nat) (le : Nat) (fr : Nat) (fral : Nat) (months : Int32) (full : Int32) (lean : Int32) (kco : ClassId) (fco : Nat → Int32) (kle : ClassId) (fle : Nat → Int32) (frmonths : Int32) (frfull : Int32) (frlean : Int32) (fron : Nat) (kfral : ClassId) (ffral : Nat → Int32) (w0_2 : Int32) (w0_3 : Int32) (w0_4 : Int32) (z2 : Nat → Int32) (t : State) : Prop := gi w0_2 0 24 ∧ gi w0_3 0 5 ∧ gi w0_4 0 5 ∧ (w0_2, w0_3, w0_4, z2) = fX8_run fco fle frmonths frfull frlean ffral ∧ va_P (dC, dI) vwCl [(h0, .inr (8, [.ref co, .ref le, .int w0_2, .int w0_3, .int w0_4])), (co, .inl (kco, 325, .inl fco)), (le, .inl (kle, 3575, .inl z2)), (fr, .inr (3, [.int frmonths, .int frfull, .int frlean, .ref fral, .ref fron])), (fral, .inl (kfral, 25, .inl ffral))] t.heap ∧ va_D A9 [(h0, .inr (8, [.ref co, .ref le, .int w0_2, .int w0_3, .int w0_4])), (co, .inl (kco, 325, .inl fco)), (le, .inl (kle, 3575, .inl z2)), (fr, .inr (3, [.int frmonths, .int frfull, .int frlean, .ref fral, .ref fron])), (fral, .inl (kfral, 25, .inl ffral))]
set_option maxHeartbeats 4000000 in
set_option maxRecDepth 100000 in
theorem sX8_run (l : Launch) (dC : Nat → ClassId) (dI : Nat → Nat → Nat) (sz : Nat) (h0 : Nat) (co : Nat) (le : Nat) (fr : Nat) (fral : Nat) (months : Int32) (full : Int32) (lean : Int32) (kco : ClassId) (fco : Nat → Int32) (kle : ClassId) (fle : Nat → Int32) (frmonths : Int32) (frfull : Int32) (frlean : Int32) (fron : Nat) (kfral : ClassId) (ffral : Nat → Int32) (gmonths : gi months 0 24) (gfull : gi full 0 5) (glean : gi lean 0 5) (gfrmonths : gi frmonths 0 24) (gfrfull : gi frfull 0 5) (gfrlean : gi frlean 0 5) : Met l yX8_run (.code yX8_run cX8_run 4 none :: wsGA) ({ frames := 4, cells := 0, slots := 0, locals := 90 }) (va_Pc [.ref h0, .ref fr] (fun U => U.heap.size = sz ∧ va_P (dC, dI) vwCl [(h0, .inr (8, [.ref co, .ref le, .int months, .int full, .int lean])), (co, .inl (kco, 325, .inl fco)), (le, .inl (kle, 3575, .inl fle)), (fr, .inr (3, [.int frmonths, .int frfull, .int frlean, .ref fral, .ref fron])), (fral, .inl (kfral, 25, .inl ffral))] U.heap ∧ va_K (dC, dI) vwCl [(kco, .int), (kle, .int), (kfral, .int)] U ∧ va_D (fun _ => True) [(h0, .inr (8, [.ref co, .ref le, .int months, .int full, .int lean])), (co, .inl (kco, 325, .inl fco)), (le, .inl (kle, 3575, .inl fle)), (fr, .inr (3, [.int frmonths, .int frfull, .int frlean, .ref fral, .ref fron])), (fral, .inl (kfral, 25, .inl ffral))] ∧ nzA U)) (va_Qv (fun (u : Unit) => True) (fun _ t => ∃ (w0_2 : Int32) (w0_3 : Int32) (w0_4 : Int32) (z2 : Nat → Int32), pb_sX8_run dC dI (va_A [(h0, .inr (8, [.ref co, .ref le, .int months, .int full, .int lean])), (co, .inl (kco, 325, .inl fco)), (le, .inl (kle, 3575, .inl fle)), (fr, .inr (3, [.int frmonths, .int frfull, .int frlean, .ref fral, .ref fron])), (fral, .inl (kfral, 25, .inl ffral))] sz) h0 co le fr fral months full lean kco fco kle fle frmonths frfull frlean fron kfral ffral w0_2 w0_3 w0_4 z2 t) (va_A [(h0, .inr (8, [.ref co, .ref le, .int months, .int full, .int lean])), (co, .inl (kco, 325, .inl fco)), (le, .inl (kle, 3575, .inl fle)), (fr, .inr (3, [.int frmonths, .int frfull, .int frlean, .ref fral, .ref fron])), (fral, .inl (kfral, 25, .inl ffral))] sz)) 0 0 (va_A [(h0, .inr (8, [.ref co, .ref le, .int months, .int full, .int lean])), (co, .inl (kco, 325, .inl fco)), (le, .inl (kle, 3575, .inl fle)), (fr, .inr (3, [.int frmonths, .int frfull, .int frlean, .ref fral, .ref fron])), (fral, .inl (kfral, 25, .inl ffral))] sz) := by
  refine Met.ofW (cc := cX8_run) (maxL := 4) (ret := none) (by decide) rfl ?_
  intro p e s m args below meth c s₁ B hml hv
  obtain ⟨rfl, hsz, hP, hK, hD0, hz⟩ := hv
  have hx := B.exec
  have hb := B.bytes
  have hr := B.returns
  have hts := atoms_spec (ws := (.code yX8_run cX8_run 4 none :: wsGA)) B.pre
  have hown : s.vm.findClass RX8 = some m.cls := findClass_of_methodNamed B.named
  have hlocks := B.notSynchronized
  subst hsz
  have hD := hD0.self (sz := s.heap.size)
  generalize hAe : va_A [(h0, .inr (8, [.ref co, .ref le, .int months, .int full, .int lean])), (co, .inl (kco, 325, .inl fco)), (le, .inl (kle, 3575, .inl fle)), (fr, .inr (3, [.int frmonths, .int frfull, .int frlean, .ref fral, .ref fron])), (fral, .inl (kfral, 25, .inl ffral))] s.heap.size = A at hD ⊢
  have hA : ∀ q : Nat, s.heap.size ≤ q → A q := fun q h => by rw [← hAe]; exact Or.inr h
  have hS : va_S A s.heap s.heap [] := va_S.rf
  have hl := lv_entry ([.ref h0, .ref fr]) (n := 4) (Nat.le_of_ble_eq_true rfl)
  rw [lg_entry_eq]
  generalize (lg_sl ([.ref h0, .ref fr]) ++ List.replicate (4 - (lg_sl ([.ref h0, .ref fr])).length) Slot.unset).toArray = ls at hl ⊢
  have hl : lv_has ls 4 [(0, .ref h0), (1, .ref fr)] := hl
  obtain ⟨RES, hF⟩ : ∃ R9, fX8_run fco fle frmonths frfull frlean ffral = R9 := ⟨_, rfl⟩
  have hR9 := hF
  refine lv_aload_n hx hb (dk_at dkX8_run 0 rfl) rfl (lv_at hl 0 rfl) ?_
  refine lv_aload_n hx hb (dk_at dkX8_run 1 rfl) rfl (lv_at hl 1 rfl) ?_
  refine va_get (D := (dC, dI)) (ci := 3) (v := .int frmonths) (C := RX3) (T := TX3) (N := 5) hx hb hts (fun w h => List.mem_cons_of_mem _ (jnGA_X3 w h)) hown hK hP 3 rfl rfl 0 (by decide) (hts _ (List.mem_cons_of_mem _ mGA_782)) (fun _ h9 => h9) rfl (dk_at dkX8_run 2 rfl) ?_
  refine va_put (D := (dC, dI)) (ci := 8) (v := .int frmonths) (ty := .int) (C := RX8) (T := TX8) (N := 5) hx hb hts (fun w h => List.mem_cons_of_mem _ (jnGA_X8 w h)) tyX8 tyX8_ok nmX8 hown hK hP hD hS 0 rfl rfl 2 (by decide) (hts _ (List.mem_cons_of_mem _ mGA_783)) (fun _ h9 => h9) rfl fdX8_2 rfl rfl (Nat.le_of_ble_eq_true rfl) (dk_at dkX8_run 3 rfl) (fun H locs hP hD hS => ?_)
  obtain ⟨hP, hD⟩ := gz_both (w := [(h0, .inr (8, [.ref co, .ref le, .int frmonths, .int full, .int lean])), (co, .inl (kco, 325, .inl fco)), (le, .inl (kle, 3575, .inl fle)), (fr, .inr (3, [.int frmonths, .int frfull, .int frlean, .ref fral, .ref fron])), (fral, .inl (kfral, 25, .inl ffral))]) hP hD
  refine lv_aload_n hx hb (dk_at dkX8_run 4 rfl) rfl (lv_at hl 0 rfl) ?_
  refine lv_aload_n hx hb (dk_at dkX8_run 5 rfl) rfl (lv_at hl 1 rfl) ?_
  refine va_get (D := (dC, dI)) (ci := 3) (v := .int frfull) (C := RX3) (T := TX3) (N := 5) hx hb hts (fun w h => List.mem_cons_of_mem _ (jnGA_X3 w h)) hown hK hP 3 rfl rfl 1 (by decide) (hts _ (List.mem_cons_of_mem _ mGA_784)) (fun _ h9 => h9) rfl (dk_at dkX8_run 6 rfl) ?_
  refine va_put (D := (dC, dI)) (ci := 8) (v := .int frfull) (ty := .int) (C := RX8) (T := TX8) (N := 5) hx hb hts (fun w h => List.mem_cons_of_mem _ (jnGA_X8 w h)) tyX8 tyX8_ok nmX8 hown hK hP hD hS 0 rfl rfl 3 (by decide) (hts _ (List.mem_cons_of_mem _ mGA_785)) (fun _ h9 => h9) rfl fdX8_3 rfl rfl (Nat.le_of_ble_eq_true rfl) (dk_at dkX8_run 7 rfl) (fun H locs hP hD hS => ?_)
  obtain ⟨hP, hD⟩ := gz_both (w := [(h0, .inr (8, [.ref co, .ref le, .int frmonths, .int frfull, .int lean])), (co, .inl (kco, 325, .inl fco)), (le, .inl (kle, 3575, .inl fle)), (fr, .inr (3, [.int frmonths, .int frfull, .int frlean, .ref fral, .ref fron])), (fral, .inl (kfral, 25, .inl ffral))]) hP hD
  refine lv_aload_n hx hb (dk_at dkX8_run 8 rfl) rfl (lv_at hl 0 rfl) ?_
  refine lv_aload_n hx hb (dk_at dkX8_run 9 rfl) rfl (lv_at hl 1 rfl) ?_
  refine va_get (D := (dC, dI)) (ci := 3) (v := .int frlean) (C := RX3) (T := TX3) (N := 5) hx hb hts (fun w h => List.mem_cons_of_mem _ (jnGA_X3 w h)) hown hK hP 3 rfl rfl 2 (by decide) (hts _ (List.mem_cons_of_mem _ mGA_786)) (fun _ h9 => h9) rfl (dk_at dkX8_run 10 rfl) ?_
  refine va_put (D := (dC, dI)) (ci := 8) (v := .int frlean) (ty := .int) (C := RX8) (T := TX8) (N := 5) hx hb hts (fun w h => List.mem_cons_of_mem _ (jnGA_X8 w h)) tyX8 tyX8_ok nmX8 hown hK hP hD hS 0 rfl rfl 4 (by decide) (hts _ (List.mem_cons_of_mem _ mGA_787)) (fun _ h9 => h9) rfl fdX8_4 rfl rfl (Nat.le_of_ble_eq_true rfl) (dk_at dkX8_run 11 rfl) (fun H locs hP hD hS => ?_)
  obtain ⟨hP, hD⟩ := gz_both (w := [(h0, .inr (8, [.ref co, .ref le, .int frmonths, .int frfull, .int frlean])), (co, .inl (kco, 325, .inl fco)), (le, .inl (kle, 3575, .inl fle)), (fr, .inr (3, [.int frmonths, .int frfull, .int frlean, .ref fral, .ref fron])), (fral, .inl (kfral, 25, .inl ffral))]) hP hD
  refine lv_aload_n hx hb (dk_at dkX8_run 12 rfl) rfl (lv_at hl 0 rfl) ?_
  refine va_get (D := (dC, dI)) (ci := 8) (v := .ref le) (C := RX8) (T := TX8) (N := 5) hx hb hts (fun w h => List.mem_cons_of_mem _ (jnGA_X8 w h)) hown hK hP 0 rfl rfl 1 (by decide) (hts _ (List.mem_cons_of_mem _ mGA_118)) (fun _ h9 => h9) rfl (dk_at dkX8_run 13 rfl) ?_
  refine lv_ldc (own := RX8) (v := 1000000) hx hb hown (hts _ (List.mem_cons_of_mem _ mGA_788)) (dk_at dkX8_run 14 rfl) ?_
  obtain ⟨hPc, hDc, hFc⟩ := gz_cut (wc := [(le, .inl (kle, 3575, .inl fle))]) hP hD hS hA [2] (by decide) rfl
  have hKc := hK.sub (tys' := [(kle, .int)]) [1] rfl
  refine va_callv (va_runS (As := [.ref le, .int 1000000]) (rest := []) ⟨hx, hb, hml, hown, hts⟩ (sJ7_fill3575 l dC dI H.size le kle fle 1000000) (⟨callB_of 2 hts (gz_gP mGA_568 goodGA) rfl rfl rfl (hts _ (List.mem_cons_of_mem _ mGA_567)) (hts _ (List.mem_cons_of_mem _ mGA_773)) hdS_J7_fill_53178_J7_2.2 ⟨Nat.le_of_ble_eq_true rfl, Nat.le_of_ble_eq_true rfl⟩, (hts _ (List.mem_cons_of_mem _ mGA_566))⟩) ⟨bl_I (bl_a bl_sz (bl_a bl_P (bl_a bl_K (bl_a bl_c bl_nz)))), fun U hU hW => ⟨rfl, by rw [hU], by rw [hU]; exact hPc, va_K.moved hW.alike hKc, hDc.weaken (fun _ _ _ _ => trivial), nzA_warm hW hz⟩⟩ rfl rfl hl.1 rfl (lv_room (Nat.le_of_ble_eq_true rfl)) (dk_at dkX8_run 15 rfl) ⟨Nat.zero_le _, Nat.zero_le _⟩) hS (fun q _ h => hFc q h) hFc (fun u t H1 locs ht hvm hw hB hz1 hk1 hS => ?_)
  obtain ⟨f_282, hB⟩ := hB
  obtain ⟨hE, hP1, hD1⟩ := hB
  rw [ht] at hP1
  obtain ⟨hP, hD⟩ := gz_back hP hD hk1 hFc hP1 hD1 [2] rfl rfl
  obtain ⟨hP, hD⟩ := gz_both (w := [(h0, .inr (8, [.ref co, .ref le, .int frmonths, .int frfull, .int frlean])), (co, .inl (kco, 325, .inl fco)), (le, .inl (kle, 3575, .inl f_282)), (fr, .inr (3, [.int frmonths, .int frfull, .int frlean, .ref fral, .ref fron])), (fral, .inl (kfral, 25, .inl ffral))]) hP hD
  have hF := gf_call (a := f_282) hE hF
  generalize H1 = H at hP hS ⊢
  refine lv_aload_n hx hb (dk_at dkX8_run 16 rfl) rfl (lv_at hl 0 rfl) ?_
  refine va_get (D := (dC, dI)) (ci := 8) (v := .int frmonths) (C := RX8) (T := TX8) (N := 5) hx hb hts (fun w h => List.mem_cons_of_mem _ (jnGA_X8 w h)) hown hK hP 0 rfl rfl 2 (by decide) (hts _ (List.mem_cons_of_mem _ mGA_783)) (fun _ h9 => h9) rfl (dk_at dkX8_run 17 rfl) ?_
  refine lv_istore_n (lv' := [(2, .int frmonths), (0, .ref h0), (1, .ref fr)]) hx hb (dk_at dkX8_run 18 rfl) rfl hl (by decide) rfl (fun ls hl => ?_)
  refine (lp_sX8_run h0 co le fr fral months full lean kco fco kle fle frmonths frfull frlean fron kfral ffral gmonths gfull glean gfrmonths gfrfull gfrlean hx hb hml hown hts hK hz hA (Nat.le_of_ble_eq_true rfl) (Nat.le_of_ble_eq_true rfl) (Nat.zero_le _) (Nat.zero_le _) (fun w0_2 w0_3 w0_4 z2 H locs ls gw0_2 gw0_3 gw0_4 hF hP hD hS hl => ?_) 1000000000).1 frmonths frmonths frfull frlean f_282 _ _ _ (gi_w gfrmonths (by decide)) gfrmonths gfrfull gfrlean (by have qgfrmonths := gfrmonths.1; have rgfrmonths := gfrmonths.2; omega) hF (by have qgfrmonths := gfrmonths.1; have rgfrmonths := gfrmonths.2; omega) hP hD hS (lv_sub hl [1, 2, 0] rfl)
  · skip
    exact W.vret hx hb hr (fun t ht hW => ⟨⟨(), rfl, trivial, w0_2, w0_3, w0_4, z2, gw0_2, gw0_3, gw0_4, hF.trans hR9.symm, by rw [ht]; exact hP, hD⟩, hS.F ht⟩) hS.2.2 (dk_at dkX8_run 39 rfl)
noncomputable def lsX8_fullBits : List (Nat × Instr × Nat) := [(0, .iconst 0, 1), (1, .istore_n 1, 1), (2, .iconst 0, 1), (3, .istore_n 2, 1), (4, .iconst 0, 1), (5, .istore_n 3, 1), (6, .iconst 0, 1), (7, .istore 4, 2), (9, .iload 4, 2), (11, .aload_n 0, 1), (12, .getfield 34, 3), (15, .if_icmp .ge 63, 3), (18, .aload_n 0, 1), (19, .iload 4, 2), (21, .iload_n 2, 1), (22, .iload_n 3, 1), (23, .invokevirtual 63, 3), (26, .aload_n 0, 1), (27, .iload 4, 2), (29, .iload_n 2, 1), (30, .iload_n 3, 1), (31, .invokevirtual 60, 3), (34, .if_icmp .gt 19, 3), (37, .iload_n 3, 1), (38, .aload_n 0, 1), (39, .getfield 38, 3), (42, .aload_n 0, 1), (43, .getfield 42, 3), (46, .invokestatic 77, 3), (49, .istore_n 3, 1), (50, .goto 22, 3), (53, .iload_n 1, 1), (54, .iconst 1, 1), (55, .iload 4, 2), (57, .ishl, 1), (58, .ior, 1), (59, .istore_n 1, 1), (60, .iload_n 3, 1), (61, .aload_n 0, 1), (62, .getfield 38, 3), (65, .invokestatic 74, 3), (68, .istore_n 3, 1), (69, .iinc 2 1, 3), (72, .iinc 4 1, 3), (75, .goto (-66), 3), (78, .iload_n 1, 1), (79, .ireturn, 1)]
theorem dkX8_fullBits : dkAll cX8_fullBits lsX8_fullBits = true := dk_fast (by decide +kernel)
noncomputable def bfX8_fullBits_72 (months : Int32) (full : Int32) (lean : Int32) (fle : Nat → Int32) (K : (Int32 → Int32 → Int32 → Int32 → Int32)) (v1 : Int32) (v2 : Int32) (v3 : Int32) (v4 : Int32) : Int32 := K v1 v2 v3 (v4 + (1 : Int32))
noncomputable def dfX8_fullBits_9 (months : Int32) (full : Int32) (lean : Int32) (fle : Nat → Int32) (K : (Int32 → Int32 → Int32 → Int32 → Int32)) (v1 : Int32) (v2 : Int32) (v3 : Int32) (v4 : Int32) : Int32 := if months ≤ v4 then v1 else (cal (fun o1 => cal (fun o2 => if o2 < o1 then (cal (fun o3 => bfX8_fullBits_72 months full lean fle K (v1 ||| ((1 : Int32) <<< (v4 &&& 31))) (v2 + (1 : Int32)) o3 v4) (fX11_runWithFull v3 full)) else (cal (fun o4 => bfX8_fullBits_72 months full lean fle K v1 v2 o4 v4) (fX11_runWithLean v3 full lean))) (fX8_withFull full fle v4 v2 v3)) (fX8_withLean full lean fle v4 v2 v3))
noncomputable def lfX8_fullBits (months : Int32) (full : Int32) (lean : Int32) (fle : Nat → Int32) (z : Nat) : (Int32 → Int32 → Int32 → Int32 → Int32) := Nat.rec (motive := fun _ => (Int32 → Int32 → Int32 → Int32 → Int32)) (fun _ _ _ _ => (0)) (fun _ K => dfX8_fullBits_9 months full lean fle K) z
noncomputable def fX8_fullBits (months : Int32) (full : Int32) (lean : Int32) (fle : Nat → Int32) : Int32 := (lfX8_fullBits months full lean fle 1000000000) (0 : Int32) (0 : Int32) (0 : Int32) (0 : Int32)
set_option maxHeartbeats 4000000 in
set_option maxRecDepth 100000 in
theorem lp_sX8_fullBits {p : Program} {l : Launch} {e : Env} {R : Room} {s : State} {m : MethodId} {args : Array Value} {below : List Frame} {meth : Method} {c : Code} {Q : State → Prop} {A : Nat → Prop} {cells slots : Nat} {dC : Nat → ClassId} {dI : Nat → Nat → Nat} {RES : Int32} (h0 : Nat) (le : Nat) (co : Nat) (months : Int32) (full : Int32) (lean : Int32) (kle : ClassId) (fle : Nat → Int32) (gmonths : gi months 0 24) (gfull : gi full 0 5) (glean : gi lean 0 5) (hx : p.tables.exec = Jvm.exec) (hb : c.code = cX8_fullBits) (hml : c.maxLocals = 5) (hown : s.vm.findClass RX8 = some m.cls) (hts : ∀ w ∈ ((.code yX8_fullBits cX8_fullBits 5 (some .int) :: wsGA) : List Cond), w.before args s = true) (hK : va_K (dC, dI) vwCl [(kle, .int)] s) (hz : nzA s) (hRf : 3 ≤ R.frames) (hRl : 66 ≤ R.locals) (hRc : cells ≤ R.cells) (hRs : slots ≤ R.slots) (kr79 : ∀ (v : Int32) (H : Heap) (locs : List Loc) (ls : Array Slot), v = RES → va_P (dC, dI) vwCl [(h0, .inr (8, [.ref co, .ref le, .int months, .int full, .int lean])), (le, .inl (kle, 3575, .inl fle))] H → va_S A s.heap H locs → lv_has ls 5 [] → W p l e R s m args below meth c H locs cells slots Q (F0 m 79 ls [.int v])) : ∀ z : Nat, (∀ (v1 : Int32) (v2 : Int32) (v3 : Int32) (v4 : Int32) (H : Heap) (locs : List Loc) (ls : Array Slot), gi v2 0 24 → gi v3 0 10 → gi v4 0 24 → v2.toInt ≤ v4.toInt → (lfX8_fullBits months full lean fle z) v1 v2 v3 v4 = RES → 49 + (-2) * v4.toInt < (z : Int) → va_P (dC, dI) vwCl [(h0, .inr (8, [.ref co, .ref le, .int months, .int full, .int lean])), (le, .inl (kle, 3575, .inl fle))] H → va_S A s.heap H locs → lv_has ls 5 [(0, .ref h0), (1, .int v1), (2, .int v2), (3, .int v3), (4, .int v4)] → W p l e R s m args below meth c H locs cells slots Q (F0 m 9 ls [])) := by
  intro z
  induction z with
  | zero =>
    intro v1 v2 v3 v4 H locs ls gv2 gv3 gv4 hle_gv2_gv4 hF hmu hP hS hl
    exact absurd hmu (by have hv41 := gv4.1; have hv42 := gv4.2; omega)
  | succ z ih =>
      intro v1 v2 v3 v4 H locs ls gv2 gv3 gv4 hle_gv2_gv4 hF hmu hP hS hl
      have hF : dfX8_fullBits_9 months full lean fle (lfX8_fullBits months full lean fle z) v1 v2 v3 v4 = RES := hF
      refine lv_iload hx hb (dk_at dkX8_fullBits 8 rfl) (lv_at hl 4 rfl) ?_
      refine lv_aload_n hx hb (dk_at dkX8_fullBits 9 rfl) rfl (lv_at hl 0 rfl) ?_
      refine va_get (D := (dC, dI)) (ci := 8) (v := .int months) (C := RX8) (T := TX8) (N := 5) hx hb hts (fun w h => List.mem_cons_of_mem _ (jnGA_X8 w h)) hown hK hP 0 rfl rfl 2 (by decide) (hts _ (List.mem_cons_of_mem _ mGA_783)) (fun _ h9 => h9) rfl (dk_at dkX8_fullBits 10 rfl) ?_
      refine lv_icmp_ge (tgt := 78) hx hb (dk_at dkX8_fullBits 11 rfl) (by decide) (fun c_227 => ?_) (fun c_227 => ?_)
      · have hF := gf_pos c_227 hF
        refine lv_iload_n hx hb (dk_at dkX8_fullBits 45 rfl) rfl (lv_at hl 1 rfl) ?_
        exact kr79 v1 _ _ _ hF hP hS (lv_sub hl [] rfl)
      · have hF := gf_neg c_227 hF
        have g_228 : gi v4 0 23 := gi_lt_l (Int32.not_le.mp c_227) gv4 gmonths (by decide)
        have g_229 : gi v2 0 23 := gi_rel hle_gv2_gv4 gv2 g_228
        have g_230 : gi months 1 24 := gi_lt_r (Int32.not_le.mp c_227) gv4 gmonths (by decide)
        refine lv_aload_n hx hb (dk_at dkX8_fullBits 12 rfl) rfl (lv_at hl 0 rfl) ?_
        refine lv_iload hx hb (dk_at dkX8_fullBits 13 rfl) (lv_at hl 4 rfl) ?_
        refine lv_iload_n hx hb (dk_at dkX8_fullBits 14 rfl) rfl (lv_at hl 2 rfl) ?_
        refine lv_iload_n hx hb (dk_at dkX8_fullBits 15 rfl) rfl (lv_at hl 3 rfl) ?_
        refine va_calli (va_runV (As := [.int v4, .int v2, .int v3]) (rest := []) ⟨hx, hb, hml, hown, hts⟩ (sX8_withLean l dC dI h0 le co months full lean kle fle v4 v2 v3 (gi_w g_230 (by decide)) gfull glean g_228 (gi_w g_229 (by decide)) gv3) (cwV 3 hts (gz_gV mGA_799 mGA_800 mGA_801 mGA_31 mGA_802 goodGA) rfl rfl rfl hdV_X8_withLean_X8_3 ⟨Nat.le_trans (Nat.le_of_ble_eq_true rfl) hRf, Nat.le_trans (Nat.le_of_ble_eq_true rfl) hRl⟩) ⟨bl_I (bl_a bl_P (bl_a bl_K bl_nz)), va_recv hK hP (ci := 8) (q0 := 0) rfl rfl, fun U hU hW => ⟨rfl, by rw [hU]; exact hP, va_K.moved hW.alike hK, nzA_warm hW hz⟩⟩ rfl rfl hl.1 rfl (lv_room (Nat.le_of_ble_eq_true rfl)) (dk_at dkX8_fullBits 16 rfl) ⟨hRc, hRs⟩) hS (fun q _ h => h.elim) (fun q h => h.elim) (fun r_231 u t H1 locs ht hvm hw hB hz1 hk1 hS => ?_)
        obtain ⟨hw, hE⟩ := hw
        have hP := gz_keep hP hk1
        have hF := gf_call (a := r_231) hE hF
        generalize H1 = H at hP hS ⊢
        refine lv_aload_n hx hb (dk_at dkX8_fullBits 17 rfl) rfl (lv_at hl 0 rfl) ?_
        refine lv_iload hx hb (dk_at dkX8_fullBits 18 rfl) (lv_at hl 4 rfl) ?_
        refine lv_iload_n hx hb (dk_at dkX8_fullBits 19 rfl) rfl (lv_at hl 2 rfl) ?_
        refine lv_iload_n hx hb (dk_at dkX8_fullBits 20 rfl) rfl (lv_at hl 3 rfl) ?_
        refine va_calli (va_runV (As := [.int v4, .int v2, .int v3]) (rest := [.int r_231]) ⟨hx, hb, hml, hown, hts⟩ (sX8_withFull l dC dI h0 le co months full lean kle fle v4 v2 v3 (gi_w g_230 (by decide)) gfull glean g_228 g_229 gv3) (cwV 3 hts (gz_gV mGA_795 mGA_796 mGA_797 mGA_31 mGA_798 goodGA) rfl rfl rfl hdV_X8_withFull_X8_3 ⟨Nat.le_trans (Nat.le_of_ble_eq_true rfl) hRf, Nat.le_trans (Nat.le_of_ble_eq_true rfl) hRl⟩) ⟨bl_I (bl_a bl_P (bl_a bl_K bl_nz)), va_recv hK hP (ci := 8) (q0 := 0) rfl rfl, fun U hU hW => ⟨rfl, by rw [hU]; exact hP, va_K.moved hW.alike hK, nzA_warm hW hz⟩⟩ rfl rfl hl.1 rfl (lv_room (Nat.le_of_ble_eq_true rfl)) (dk_at dkX8_fullBits 21 rfl) ⟨hRc, hRs⟩) hS (fun q _ h => h.elim) (fun q h => h.elim) (fun r_232 u t H1 locs ht hvm hw hB hz1 hk1 hS => ?_)
        obtain ⟨hw, hE⟩ := hw
        have hP := gz_keep hP hk1
        have hF := gf_call (a := r_232) hE hF
        generalize H1 = H at hP hS ⊢
        refine lv_icmp_gt (tgt := 53) hx hb (dk_at dkX8_fullBits 22 rfl) (by decide) (fun c_233 => ?_) (fun c_233 => ?_)
        · have hF := gf_pos c_233 hF
          have g_234 : gi r_232 (-2147483648) 2147483646 := gi_lt_l c_233 (gi_any r_232) (gi_any r_231) (by decide)
          have g_235 : gi r_231 (-2147483647) 2147483647 := gi_lt_r c_233 (gi_any r_232) (gi_any r_231) (by decide)
          refine lv_iload_n hx hb (dk_at dkX8_fullBits 31 rfl) rfl (lv_at hl 1 rfl) ?_
          refine lv_iconst (v := 1) hx hb (dk_at dkX8_fullBits 32 rfl) (by decide) ?_
          refine lv_iload hx hb (dk_at dkX8_fullBits 33 rfl) (lv_at hl 4 rfl) ?_
          refine lv_ishl hx hb (dk_at dkX8_fullBits 34 rfl) ?_
          refine lv_topi (fun x_236 ex_236 => ?_)
          refine lv_ior hx hb (dk_at dkX8_fullBits 35 rfl) ?_
          refine lv_topi (fun x_237 ex_237 => ?_)
          refine lv_istore_n (lv' := [(1, .int x_237), (0, .ref h0), (2, .int v2), (3, .int v3), (4, .int v4)]) hx hb (dk_at dkX8_fullBits 36 rfl) rfl hl (by decide) rfl (fun ls hl => ?_)
          refine lv_iload_n hx hb (dk_at dkX8_fullBits 37 rfl) rfl (lv_at hl 3 rfl) ?_
          refine lv_aload_n hx hb (dk_at dkX8_fullBits 38 rfl) rfl (lv_at hl 1 rfl) ?_
          refine va_get (D := (dC, dI)) (ci := 8) (v := .int full) (C := RX8) (T := TX8) (N := 5) hx hb hts (fun w h => List.mem_cons_of_mem _ (jnGA_X8 w h)) hown hK hP 0 rfl rfl 3 (by decide) (hts _ (List.mem_cons_of_mem _ mGA_785)) (fun _ h9 => h9) rfl (dk_at dkX8_fullBits 39 rfl) ?_
          have hPc := hP.sub (ws' := []) [] rfl
          have hKc := hK.sub (tys' := []) [] rfl
          refine va_calli (va_runSN (As := [.int v3, .int full]) (rest := []) ⟨hx, hb, hml, hown, hts⟩ (sX11_runWithFull l dC dI v3 full gv3 gfull) (⟨va_cnB 2 hts (gz_gP mGA_508 goodGA) rfl rfl rfl (nzA_X8_74 hz) (hts _ (List.mem_cons_of_mem _ mGA_1)) hdS_X11_runWithFull_X11_2.2 ⟨Nat.le_trans (Nat.le_of_ble_eq_true rfl) hRf, Nat.le_trans (Nat.le_of_ble_eq_true rfl) hRl⟩, (hts _ (List.mem_cons_of_mem _ mGA_507)), trivial⟩) ⟨bl_I (bl_a bl_P (bl_a bl_K bl_nz)), fun U hU hW => ⟨rfl, by rw [hU]; exact hPc, va_K.moved hW.alike hKc, nzA_warm hW hz⟩⟩ rfl rfl hl.1 rfl (lv_room (Nat.le_of_ble_eq_true rfl)) (dk_at dkX8_fullBits 40 rfl) ⟨hRc, hRs⟩) hS (fun q _ h => h.elim) (fun q h => h.elim) (fun r_238 u t H1 locs ht hvm hw hB hz1 hk1 hS => ?_)
          obtain ⟨hw, hE⟩ := hw
          have hP := gz_keep hP hk1
          have hF := gf_call (a := r_238) hE hF
          generalize H1 = H at hP hS ⊢
          have gr_238 : gi r_238 0 5 := hw
          refine lv_istore_n (lv' := [(3, .int r_238), (1, .int x_237), (0, .ref h0), (2, .int v2), (4, .int v4)]) hx hb (dk_at dkX8_fullBits 41 rfl) rfl hl (by decide) rfl (fun ls hl => ?_)
          obtain ⟨x_239, ex_239⟩ : ∃ y : Int32, y = v2 + 1 := ⟨_, rfl⟩
          have gx_239 : gi x_239 1 24 := gi_add ex_239 g_229 (gi_c 1 1 (by decide)) (by decide)
          refine lv_iinc (v := x_239) (lv' := [(2, .int x_239), (3, .int r_238), (1, .int x_237), (0, .ref h0), (4, .int v4)]) hx hb (dk_at dkX8_fullBits 42 rfl) hl (k := 3) rfl (by rw [ex_239]; rfl) (by decide) rfl (fun ls hl => ?_)
          obtain ⟨x_240, ex_240⟩ : ∃ y : Int32, y = v4 + 1 := ⟨_, rfl⟩
          have gx_240 : gi x_240 1 24 := gi_add ex_240 g_228 (gi_c 1 1 (by decide)) (by decide)
          refine lv_iinc (v := x_240) (lv' := [(4, .int x_240), (2, .int x_239), (3, .int r_238), (1, .int x_237), (0, .ref h0)]) hx hb (dk_at dkX8_fullBits 43 rfl) hl (k := 4) rfl (by rw [ex_240]; rfl) (by decide) rfl (fun ls hl => ?_)
          refine lv_goto (tgt := 9) hx hb (dk_at dkX8_fullBits 44 rfl) (by decide) ?_
          exact ih x_237 x_239 r_238 x_240 _ _ _ (gi_w gx_239 (by decide)) (gi_w gr_238 (by decide)) (gi_w gx_240 (by decide)) (by have qgx_240 := gx_240.1; have rgx_240 := gx_240.2; have igx_240 : x_240.toInt = v4.toInt + 1 := (by have hc1 : (1 : Int32).toInt = 1 := (by decide); have h9 := gi_addE ex_240 g_228 (gi_c 1 1 (by decide)) (by decide); rw [hc1] at h9; exact h9); have qgv4 := g_228.1; have rgv4 := g_228.2; have qgx_239 := gx_239.1; have rgx_239 := gx_239.2; have igx_239 : x_239.toInt = v2.toInt + 1 := (by have hc1 : (1 : Int32).toInt = 1 := (by decide); have h9 := gi_addE ex_239 g_229 (gi_c 1 1 (by decide)) (by decide); rw [hc1] at h9; exact h9); have qgv2 := g_229.1; have rgv2 := g_229.2; have y1 := (Int32.lt_iff_toInt_lt.mp (Int32.not_le.mp c_227)); have y2 := (Int32.lt_iff_toInt_lt.mp c_233); omega) (by first | (rw [ex_240, ex_239, ex_237, ex_236]; exact hF) | ((try rw [ex_240]); (try rw [ex_239]); (try rw [ex_237]); (try rw [ex_236]); exact hF)) (by have av4 := gv4.1; have bv4 := gv4.2; have qgx_240 := gx_240.1; have rgx_240 := gx_240.2; have igx_240 : x_240.toInt = v4.toInt + 1 := (by have hc1 : (1 : Int32).toInt = 1 := (by decide); have h9 := gi_addE ex_240 g_228 (gi_c 1 1 (by decide)) (by decide); rw [hc1] at h9; exact h9); have qgv4 := g_228.1; have rgv4 := g_228.2; omega) hP hS (lv_sub hl [4, 3, 1, 2, 0] rfl)
        · have hF := gf_neg c_233 hF
          refine lv_iload_n hx hb (dk_at dkX8_fullBits 23 rfl) rfl (lv_at hl 3 rfl) ?_
          refine lv_aload_n hx hb (dk_at dkX8_fullBits 24 rfl) rfl (lv_at hl 0 rfl) ?_
          refine va_get (D := (dC, dI)) (ci := 8) (v := .int full) (C := RX8) (T := TX8) (N := 5) hx hb hts (fun w h => List.mem_cons_of_mem _ (jnGA_X8 w h)) hown hK hP 0 rfl rfl 3 (by decide) (hts _ (List.mem_cons_of_mem _ mGA_785)) (fun _ h9 => h9) rfl (dk_at dkX8_fullBits 25 rfl) ?_
          refine lv_aload_n hx hb (dk_at dkX8_fullBits 26 rfl) rfl (lv_at hl 0 rfl) ?_
          refine va_get (D := (dC, dI)) (ci := 8) (v := .int lean) (C := RX8) (T := TX8) (N := 5) hx hb hts (fun w h => List.mem_cons_of_mem _ (jnGA_X8 w h)) hown hK hP 0 rfl rfl 4 (by decide) (hts _ (List.mem_cons_of_mem _ mGA_787)) (fun _ h9 => h9) rfl (dk_at dkX8_fullBits 27 rfl) ?_
          have hPc := hP.sub (ws' := []) [] rfl
          have hKc := hK.sub (tys' := []) [] rfl
          refine va_calli (va_runSN (As := [.int v3, .int full, .int lean]) (rest := []) ⟨hx, hb, hml, hown, hts⟩ (sX11_runWithLean l dC dI v3 full lean gv3 gfull glean) (⟨va_cnB 3 hts (gz_gP mGA_510 goodGA) rfl rfl rfl (nzA_X8_77 hz) (hts _ (List.mem_cons_of_mem _ mGA_1)) hdS_X11_runWithLean_X11_3.2 ⟨Nat.le_trans (Nat.le_of_ble_eq_true rfl) hRf, Nat.le_trans (Nat.le_of_ble_eq_true rfl) hRl⟩, (hts _ (List.mem_cons_of_mem _ mGA_509)), trivial⟩) ⟨bl_I (bl_a bl_P (bl_a bl_K bl_nz)), fun U hU hW => ⟨rfl, by rw [hU]; exact hPc, va_K.moved hW.alike hKc, nzA_warm hW hz⟩⟩ rfl rfl hl.1 rfl (lv_room (Nat.le_of_ble_eq_true rfl)) (dk_at dkX8_fullBits 28 rfl) ⟨hRc, hRs⟩) hS (fun q _ h => h.elim) (fun q h => h.elim) (fun r_241 u t H1 locs ht hvm hw hB hz1 hk1 hS => ?_)
          obtain ⟨hw, hE⟩ := hw
          have hP := gz_keep hP hk1
          have hF := gf_call (a := r_241) hE hF
          generalize H1 = H at hP hS ⊢
          have gr_241 : gi r_241 0 10 := hw
          refine lv_istore_n (lv' := [(3, .int r_241), (0, .ref h0), (1, .int v1), (2, .int v2), (4, .int v4)]) hx hb (dk_at dkX8_fullBits 29 rfl) rfl hl (by decide) rfl (fun ls hl => ?_)
          refine lv_goto (tgt := 72) hx hb (dk_at dkX8_fullBits 30 rfl) (by decide) ?_
          obtain ⟨x_242, ex_242⟩ : ∃ y : Int32, y = v4 + 1 := ⟨_, rfl⟩
          have gx_242 : gi x_242 1 24 := gi_add ex_242 g_228 (gi_c 1 1 (by decide)) (by decide)
          refine lv_iinc (v := x_242) (lv' := [(4, .int x_242), (3, .int r_241), (0, .ref h0), (1, .int v1), (2, .int v2)]) hx hb (dk_at dkX8_fullBits 43 rfl) hl (k := 4) rfl (by rw [ex_242]; rfl) (by decide) rfl (fun ls hl => ?_)
          refine lv_goto (tgt := 9) hx hb (dk_at dkX8_fullBits 44 rfl) (by decide) ?_
          exact ih v1 v2 r_241 x_242 _ _ _ (gi_w g_229 (by decide)) gr_241 (gi_w gx_242 (by decide)) (by have qgx_242 := gx_242.1; have rgx_242 := gx_242.2; have igx_242 : x_242.toInt = v4.toInt + 1 := (by have hc1 : (1 : Int32).toInt = 1 := (by decide); have h9 := gi_addE ex_242 g_228 (gi_c 1 1 (by decide)) (by decide); rw [hc1] at h9; exact h9); have qgv4 := g_228.1; have rgv4 := g_228.2; have qgv2 := g_229.1; have rgv2 := g_229.2; have y1 := (Int32.lt_iff_toInt_lt.mp (Int32.not_le.mp c_227)); have y2 := (Int32.le_iff_toInt_le.mp (Int32.not_lt.mp c_233)); omega) (by first | (rw [ex_242]; exact hF) | ((try rw [ex_242]); exact hF)) (by have av4 := gv4.1; have bv4 := gv4.2; have qgx_242 := gx_242.1; have rgx_242 := gx_242.2; have igx_242 : x_242.toInt = v4.toInt + 1 := (by have hc1 : (1 : Int32).toInt = 1 := (by decide); have h9 := gi_addE ex_242 g_228 (gi_c 1 1 (by decide)) (by decide); rw [hc1] at h9; exact h9); have qgv4 := g_228.1; have rgv4 := g_228.2; omega) hP hS (lv_sub hl [2, 3, 4, 1, 0] rfl)
set_option maxHeartbeats 4000000 in
set_option maxRecDepth 100000 in
theorem sX8_fullBits (l : Launch) (dC : Nat → ClassId) (dI : Nat → Nat → Nat) (h0 : Nat) (le : Nat) (co : Nat) (months : Int32) (full : Int32) (lean : Int32) (kle : ClassId) (fle : Nat → Int32) (gmonths : gi months 0 24) (gfull : gi full 0 5) (glean : gi lean 0 5) : Met l yX8_fullBits (.code yX8_fullBits cX8_fullBits 5 (some .int) :: wsGA) ({ frames := 3, cells := 0, slots := 0, locals := 66 }) (va_Pc [.ref h0] (fun U => va_P (dC, dI) vwCl [(h0, .inr (8, [.ref co, .ref le, .int months, .int full, .int lean])), (le, .inl (kle, 3575, .inl fle))] U.heap ∧ va_K (dC, dI) vwCl [(kle, .int)] U ∧ nzA U)) (va_Qi (fun (r : Int32) (u : Unit) => (gi r (-2147483648) 2147483647) ∧ r = fX8_fullBits months full lean fle) (fun _ _ => True) (fun _ => False)) 0 0 (fun _ => False) := by
  refine Met.ofW (cc := cX8_fullBits) (maxL := 5) (ret := (some .int)) (by decide) rfl ?_
  intro p e s m args below meth c s₁ B hml hv
  obtain ⟨rfl, hP, hK, hz⟩ := hv
  have hx := B.exec
  have hb := B.bytes
  have hr := B.returns
  have hts := atoms_spec (ws := (.code yX8_fullBits cX8_fullBits 5 (some .int) :: wsGA)) B.pre
  have hown : s.vm.findClass RX8 = some m.cls := findClass_of_methodNamed B.named
  have hlocks := B.notSynchronized
  have hS : va_S (fun _ => False) s.heap s.heap [] := va_S.rf
  have hl := lv_entry ([.ref h0]) (n := 5) (Nat.le_of_ble_eq_true rfl)
  rw [lg_entry_eq]
  generalize (lg_sl ([.ref h0]) ++ List.replicate (5 - (lg_sl ([.ref h0])).length) Slot.unset).toArray = ls at hl ⊢
  have hl : lv_has ls 5 [(0, .ref h0)] := hl
  obtain ⟨RES, hF⟩ : ∃ R9, fX8_fullBits months full lean fle = R9 := ⟨_, rfl⟩
  have hR9 := hF
  refine lv_iconst (v := 0) hx hb (dk_at dkX8_fullBits 0 rfl) (by decide) ?_
  refine lv_istore_n (lv' := [(1, .int 0), (0, .ref h0)]) hx hb (dk_at dkX8_fullBits 1 rfl) rfl hl (by decide) rfl (fun ls hl => ?_)
  refine lv_iconst (v := 0) hx hb (dk_at dkX8_fullBits 2 rfl) (by decide) ?_
  refine lv_istore_n (lv' := [(2, .int 0), (1, .int 0), (0, .ref h0)]) hx hb (dk_at dkX8_fullBits 3 rfl) rfl hl (by decide) rfl (fun ls hl => ?_)
  refine lv_iconst (v := 0) hx hb (dk_at dkX8_fullBits 4 rfl) (by decide) ?_
  refine lv_istore_n (lv' := [(3, .int 0), (2, .int 0), (1, .int 0), (0, .ref h0)]) hx hb (dk_at dkX8_fullBits 5 rfl) rfl hl (by decide) rfl (fun ls hl => ?_)
  refine lv_iconst (v := 0) hx hb (dk_at dkX8_fullBits 6 rfl) (by decide) ?_
  refine lv_istore (lv' := [(4, .int 0), (3, .int 0), (2, .int 0), (1, .int 0), (0, .ref h0)]) hx hb (dk_at dkX8_fullBits 7 rfl) hl (by decide) rfl (fun ls hl => ?_)
  refine (lp_sX8_fullBits h0 le co months full lean kle fle gmonths gfull glean hx hb hml hown hts hK hz (Nat.le_of_ble_eq_true rfl) (Nat.le_of_ble_eq_true rfl) (Nat.zero_le _) (Nat.zero_le _) (fun v H locs ls hF hP hS hl => ?_) 1000000000) 0 0 0 0 _ _ _ (gi_w (gi_c 0 0 (by decide)) (by decide)) (gi_w (gi_c 0 0 (by decide)) (by decide)) (gi_w (gi_c 0 0 (by decide)) (by decide)) (by have k0 : (0 : Int32).toInt = 0 := (by decide); have k0 : (0 : Int32).toInt = 0 := (by decide); omega) hF (by have k0 : (0 : Int32).toInt = 0 := (by decide); omega) hP hS (lv_sub hl [4, 3, 2, 1, 0] rfl)
  · skip
    exact W.iret (v := v) hx hb hr (fun t ht hW => ⟨⟨v, (), rfl, ⟨(gi_any v), hF.trans hR9.symm⟩, trivial⟩, hS.F ht⟩) hS.2.2 (dk_at dkX8_fullBits 46 rfl)
noncomputable def lsX9_withFull : List (Nat × Instr × Nat) := [(0, .aload_n 0, 1), (1, .getfield 15, 3), (4, .iload_n 1, 1), (5, .iconst 1, 1), (6, .iadd, 1), (7, .iload_n 2, 1), (8, .iconst 1, 1), (9, .iadd, 1), (10, .iload_n 3, 1), (11, .aload_n 0, 1), (12, .getfield 31, 3), (15, .invokestatic 74, 3), (18, .invokestatic 63, 3), (21, .iaload, 1), (22, .ireturn, 1)]
theorem dkX9_withFull : dkAll cX9_withFull lsX9_withFull = true := dk_fast (by decide +kernel)
noncomputable def fX9_withFull (full : Int32) (fbh : Nat → Int32) (p0 : Int32) (p1 : Int32) (p2 : Int32) : Int32 := cal (fun o1 => cal (fun o2 => (fbh o2.toNatClampNeg)) (fX11_spot (p0 + (1 : Int32)) (p1 + (1 : Int32)) o1)) (fX11_runWithFull p2 full)
set_option maxHeartbeats 4000000 in
set_option maxRecDepth 100000 in
theorem sX9_withFull (l : Launch) (dC : Nat → ClassId) (dI : Nat → Nat → Nat) (h0 : Nat) (bh : Nat) (bf : Nat) (sa : Nat) (months : Int32) (full : Int32) (lean : Int32) (kbh : ClassId) (fbh : Nat → Int32) (p0 : Int32) (p1 : Int32) (p2 : Int32) (gmonths : gi months 0 24) (gfull : gi full 0 5) (glean : gi lean 0 5) (gp0 : gi p0 0 23) (gp1 : gi p1 0 23) (gp2 : gi p2 0 10) : Met l yX9_withFull (.code yX9_withFull cX9_withFull 4 (some .int) :: wsGA) ({ frames := 2, cells := 0, slots := 0, locals := 43 }) (va_Pc [.ref h0, .int p0, .int p1, .int p2] (fun U => va_P (dC, dI) vwCl [(h0, .inr (9, [.ref bf, .ref bh, .ref sa, .int months, .int full, .int lean])), (bh, .inl (kbh, 3575, .inl fbh))] U.heap ∧ va_K (dC, dI) vwCl [(kbh, .int)] U ∧ nzA U)) (va_Qi (fun (r : Int32) (u : Unit) => (gi r (-2147483648) 2147483647) ∧ r = fX9_withFull full fbh p0 p1 p2) (fun _ _ => True) (fun _ => False)) 0 0 (fun _ => False) := by
  refine Met.ofW (cc := cX9_withFull) (maxL := 4) (ret := (some .int)) (by decide) rfl ?_
  intro p e s m args below meth c s₁ B hml hv
  obtain ⟨rfl, hP, hK, hz⟩ := hv
  have hx := B.exec
  have hb := B.bytes
  have hr := B.returns
  have hts := atoms_spec (ws := (.code yX9_withFull cX9_withFull 4 (some .int) :: wsGA)) B.pre
  have hown : s.vm.findClass RX9 = some m.cls := findClass_of_methodNamed B.named
  have hlocks := B.notSynchronized
  have hS : va_S (fun _ => False) s.heap s.heap [] := va_S.rf
  have hl := lv_entry ([.ref h0, .int p0, .int p1, .int p2]) (n := 4) (Nat.le_of_ble_eq_true rfl)
  rw [lg_entry_eq]
  generalize (lg_sl ([.ref h0, .int p0, .int p1, .int p2]) ++ List.replicate (4 - (lg_sl ([.ref h0, .int p0, .int p1, .int p2])).length) Slot.unset).toArray = ls at hl ⊢
  have hl : lv_has ls 4 [(0, .ref h0), (1, .int p0), (2, .int p1), (3, .int p2)] := hl
  obtain ⟨RES, hF⟩ : ∃ R9, fX9_withFull full fbh p0 p1 p2 = R9 := ⟨_, rfl⟩
  have hR9 := hF
  refine lv_aload_n hx hb (dk_at dkX9_withFull 0 rfl) rfl (lv_at hl 0 rfl) ?_
  refine va_get (D := (dC, dI)) (ci := 9) (v := .ref bh) (C := RX9) (T := TX9) (N := 6) hx hb hts (fun w h => List.mem_cons_of_mem _ (jnGA_X9 w h)) hown hK hP 0 rfl rfl 1 (by decide) (hts _ (List.mem_cons_of_mem _ mGA_112)) (fun _ h9 => h9) rfl (dk_at dkX9_withFull 1 rfl) ?_
  refine lv_iload_n hx hb (dk_at dkX9_withFull 2 rfl) rfl (lv_at hl 1 rfl) ?_
  refine lv_iconst (v := 1) hx hb (dk_at dkX9_withFull 3 rfl) (by decide) ?_
  refine lv_iadd hx hb (dk_at dkX9_withFull 4 rfl) ?_
  refine lv_topi (fun x_6 ex_6 => ?_)
  have gx_6 : gi x_6 1 24 := gi_add ex_6 gp0 (gi_c 1 1 (by decide)) (by decide)
  refine lv_iload_n hx hb (dk_at dkX9_withFull 5 rfl) rfl (lv_at hl 2 rfl) ?_
  refine lv_iconst (v := 1) hx hb (dk_at dkX9_withFull 6 rfl) (by decide) ?_
  refine lv_iadd hx hb (dk_at dkX9_withFull 7 rfl) ?_
  refine lv_topi (fun x_7 ex_7 => ?_)
  have gx_7 : gi x_7 1 24 := gi_add ex_7 gp1 (gi_c 1 1 (by decide)) (by decide)
  refine lv_iload_n hx hb (dk_at dkX9_withFull 8 rfl) rfl (lv_at hl 3 rfl) ?_
  refine lv_aload_n hx hb (dk_at dkX9_withFull 9 rfl) rfl (lv_at hl 0 rfl) ?_
  refine va_get (D := (dC, dI)) (ci := 9) (v := .int full) (C := RX9) (T := TX9) (N := 6) hx hb hts (fun w h => List.mem_cons_of_mem _ (jnGA_X9 w h)) hown hK hP 0 rfl rfl 4 (by decide) (hts _ (List.mem_cons_of_mem _ mGA_562)) (fun _ h9 => h9) rfl (dk_at dkX9_withFull 10 rfl) ?_
  have hPc := hP.sub (ws' := []) [] rfl
  have hKc := hK.sub (tys' := []) [] rfl
  refine va_calli (va_runSN (As := [.int p2, .int full]) (rest := [.int x_7, .int x_6, .ref bh]) ⟨hx, hb, hml, hown, hts⟩ (sX11_runWithFull l dC dI p2 full gp2 gfull) (⟨va_cnB 2 hts (gz_gP mGA_508 goodGA) rfl rfl rfl (nzA_X9_74 hz) (hts _ (List.mem_cons_of_mem _ mGA_1)) hdS_X11_runWithFull_X11_2.2 ⟨Nat.le_of_ble_eq_true rfl, Nat.le_of_ble_eq_true rfl⟩, (hts _ (List.mem_cons_of_mem _ mGA_507)), trivial⟩) ⟨bl_I (bl_a bl_P (bl_a bl_K bl_nz)), fun U hU hW => ⟨rfl, by rw [hU]; exact hPc, va_K.moved hW.alike hKc, nzA_warm hW hz⟩⟩ rfl rfl hl.1 rfl (lv_room (Nat.le_of_ble_eq_true rfl)) (dk_at dkX9_withFull 11 rfl) ⟨Nat.zero_le _, Nat.zero_le _⟩) hS (fun q _ h => h.elim) (fun q h => h.elim) (fun r_8 u t H1 locs ht hvm hw hB hz1 hk1 hS => ?_)
  obtain ⟨hw, hE⟩ := hw
  have hP := gz_keep hP hk1
  have hF := gf_call (a := r_8) hE hF
  generalize H1 = H at hP hS ⊢
  have gr_8 : gi r_8 0 5 := hw
  have hPc := hP.sub (ws' := []) [] rfl
  have hKc := hK.sub (tys' := []) [] rfl
  refine va_calli (va_runSN (As := [.int x_6, .int x_7, .int r_8]) (rest := [.ref bh]) ⟨hx, hb, hml, hown, hts⟩ (sX11_spot l dC dI x_6 x_7 r_8 (gi_w gx_6 (by decide)) (gi_w gx_7 (by decide)) (gi_w gr_8 (by decide))) (⟨va_cnB 3 hts (gz_gP mGA_582 goodGA) rfl rfl rfl (nzA_X9_63 hz) (hts _ (List.mem_cons_of_mem _ mGA_1)) hdS_X11_spot_X11_3.2 ⟨Nat.le_of_ble_eq_true rfl, Nat.le_of_ble_eq_true rfl⟩, (hts _ (List.mem_cons_of_mem _ mGA_581)), trivial⟩) ⟨bl_I (bl_a bl_P (bl_a bl_K bl_nz)), fun U hU hW => ⟨rfl, by rw [hU]; exact hPc, va_K.moved hW.alike hKc, nzA_warm hW hz⟩⟩ rfl rfl hl.1 rfl (lv_room (Nat.le_of_ble_eq_true rfl)) (dk_at dkX9_withFull 12 rfl) ⟨Nat.zero_le _, Nat.zero_le _⟩) hS (fun q _ h => h.elim) (fun q h => h.elim) (fun r_9 u t H1 locs ht hvm hw hB hz1 hk1 hS => ?_)
  obtain ⟨hw, hE⟩ := hw
  have hP := gz_keep hP hk1
  have hF := gf_call (a := r_9) (by rw [ex_7, ex_6] at hE; exact hE) hF
  generalize H1 = H at hP hS ⊢
  have gr_9 : gi r_9 0 3574 := hw
  refine va_iald hx hb hK hP 1 0 rfl rfl (gi_in gr_9 (by decide)) (dk_at dkX9_withFull 13 rfl) ?_
  refine lv_topi (fun x_10 ex_10 => ?_)
  exact W.iret (v := x_10) hx hb hr (fun t ht hW => ⟨⟨x_10, (), rfl, ⟨(gi_any x_10), by first | (rw [ex_10]; exact hF.trans hR9.symm) | ((try rw [ex_10]); exact hF.trans hR9.symm)⟩, trivial⟩, hS.F ht⟩) hS.2.2 (dk_at dkX9_withFull 14 rfl)
noncomputable def lsX9_withLean : List (Nat × Instr × Nat) := [(0, .aload_n 0, 1), (1, .getfield 15, 3), (4, .iload_n 1, 1), (5, .iconst 1, 1), (6, .iadd, 1), (7, .iload_n 2, 1), (8, .iload_n 3, 1), (9, .aload_n 0, 1), (10, .getfield 31, 3), (13, .aload_n 0, 1), (14, .getfield 35, 3), (17, .invokestatic 78, 3), (20, .invokestatic 63, 3), (23, .iaload, 1), (24, .ireturn, 1)]
theorem dkX9_withLean : dkAll cX9_withLean lsX9_withLean = true := dk_fast (by decide +kernel)
noncomputable def fX9_withLean (full : Int32) (lean : Int32) (fbh : Nat → Int32) (p0 : Int32) (p1 : Int32) (p2 : Int32) : Int32 := cal (fun o1 => cal (fun o2 => (fbh o2.toNatClampNeg)) (fX11_spot (p0 + (1 : Int32)) p1 o1)) (fX11_runWithLean p2 full lean)
set_option maxHeartbeats 4000000 in
set_option maxRecDepth 100000 in
theorem sX9_withLean (l : Launch) (dC : Nat → ClassId) (dI : Nat → Nat → Nat) (h0 : Nat) (bh : Nat) (bf : Nat) (sa : Nat) (months : Int32) (full : Int32) (lean : Int32) (kbh : ClassId) (fbh : Nat → Int32) (p0 : Int32) (p1 : Int32) (p2 : Int32) (gmonths : gi months 0 24) (gfull : gi full 0 5) (glean : gi lean 0 5) (gp0 : gi p0 0 23) (gp1 : gi p1 0 24) (gp2 : gi p2 0 10) : Met l yX9_withLean (.code yX9_withLean cX9_withLean 4 (some .int) :: wsGA) ({ frames := 2, cells := 0, slots := 0, locals := 43 }) (va_Pc [.ref h0, .int p0, .int p1, .int p2] (fun U => va_P (dC, dI) vwCl [(h0, .inr (9, [.ref bf, .ref bh, .ref sa, .int months, .int full, .int lean])), (bh, .inl (kbh, 3575, .inl fbh))] U.heap ∧ va_K (dC, dI) vwCl [(kbh, .int)] U ∧ nzA U)) (va_Qi (fun (r : Int32) (u : Unit) => (gi r (-2147483648) 2147483647) ∧ r = fX9_withLean full lean fbh p0 p1 p2) (fun _ _ => True) (fun _ => False)) 0 0 (fun _ => False) := by
  refine Met.ofW (cc := cX9_withLean) (maxL := 4) (ret := (some .int)) (by decide) rfl ?_
  intro p e s m args below meth c s₁ B hml hv
  obtain ⟨rfl, hP, hK, hz⟩ := hv
  have hx := B.exec
  have hb := B.bytes
  have hr := B.returns
  have hts := atoms_spec (ws := (.code yX9_withLean cX9_withLean 4 (some .int) :: wsGA)) B.pre
  have hown : s.vm.findClass RX9 = some m.cls := findClass_of_methodNamed B.named
  have hlocks := B.notSynchronized
  have hS : va_S (fun _ => False) s.heap s.heap [] := va_S.rf
  have hl := lv_entry ([.ref h0, .int p0, .int p1, .int p2]) (n := 4) (Nat.le_of_ble_eq_true rfl)
  rw [lg_entry_eq]
  generalize (lg_sl ([.ref h0, .int p0, .int p1, .int p2]) ++ List.replicate (4 - (lg_sl ([.ref h0, .int p0, .int p1, .int p2])).length) Slot.unset).toArray = ls at hl ⊢
  have hl : lv_has ls 4 [(0, .ref h0), (1, .int p0), (2, .int p1), (3, .int p2)] := hl
  obtain ⟨RES, hF⟩ : ∃ R9, fX9_withLean full lean fbh p0 p1 p2 = R9 := ⟨_, rfl⟩
  have hR9 := hF
  refine lv_aload_n hx hb (dk_at dkX9_withLean 0 rfl) rfl (lv_at hl 0 rfl) ?_
  refine va_get (D := (dC, dI)) (ci := 9) (v := .ref bh) (C := RX9) (T := TX9) (N := 6) hx hb hts (fun w h => List.mem_cons_of_mem _ (jnGA_X9 w h)) hown hK hP 0 rfl rfl 1 (by decide) (hts _ (List.mem_cons_of_mem _ mGA_112)) (fun _ h9 => h9) rfl (dk_at dkX9_withLean 1 rfl) ?_
  refine lv_iload_n hx hb (dk_at dkX9_withLean 2 rfl) rfl (lv_at hl 1 rfl) ?_
  refine lv_iconst (v := 1) hx hb (dk_at dkX9_withLean 3 rfl) (by decide) ?_
  refine lv_iadd hx hb (dk_at dkX9_withLean 4 rfl) ?_
  refine lv_topi (fun x_5 ex_5 => ?_)
  have gx_5 : gi x_5 1 24 := gi_add ex_5 gp0 (gi_c 1 1 (by decide)) (by decide)
  refine lv_iload_n hx hb (dk_at dkX9_withLean 5 rfl) rfl (lv_at hl 2 rfl) ?_
  refine lv_iload_n hx hb (dk_at dkX9_withLean 6 rfl) rfl (lv_at hl 3 rfl) ?_
  refine lv_aload_n hx hb (dk_at dkX9_withLean 7 rfl) rfl (lv_at hl 0 rfl) ?_
  refine va_get (D := (dC, dI)) (ci := 9) (v := .int full) (C := RX9) (T := TX9) (N := 6) hx hb hts (fun w h => List.mem_cons_of_mem _ (jnGA_X9 w h)) hown hK hP 0 rfl rfl 4 (by decide) (hts _ (List.mem_cons_of_mem _ mGA_562)) (fun _ h9 => h9) rfl (dk_at dkX9_withLean 8 rfl) ?_
  refine lv_aload_n hx hb (dk_at dkX9_withLean 9 rfl) rfl (lv_at hl 0 rfl) ?_
  refine va_get (D := (dC, dI)) (ci := 9) (v := .int lean) (C := RX9) (T := TX9) (N := 6) hx hb hts (fun w h => List.mem_cons_of_mem _ (jnGA_X9 w h)) hown hK hP 0 rfl rfl 5 (by decide) (hts _ (List.mem_cons_of_mem _ mGA_564)) (fun _ h9 => h9) rfl (dk_at dkX9_withLean 10 rfl) ?_
  have hPc := hP.sub (ws' := []) [] rfl
  have hKc := hK.sub (tys' := []) [] rfl
  refine va_calli (va_runSN (As := [.int p2, .int full, .int lean]) (rest := [.int p1, .int x_5, .ref bh]) ⟨hx, hb, hml, hown, hts⟩ (sX11_runWithLean l dC dI p2 full lean gp2 gfull glean) (⟨va_cnB 3 hts (gz_gP mGA_510 goodGA) rfl rfl rfl (nzA_X9_78 hz) (hts _ (List.mem_cons_of_mem _ mGA_1)) hdS_X11_runWithLean_X11_3.2 ⟨Nat.le_of_ble_eq_true rfl, Nat.le_of_ble_eq_true rfl⟩, (hts _ (List.mem_cons_of_mem _ mGA_509)), trivial⟩) ⟨bl_I (bl_a bl_P (bl_a bl_K bl_nz)), fun U hU hW => ⟨rfl, by rw [hU]; exact hPc, va_K.moved hW.alike hKc, nzA_warm hW hz⟩⟩ rfl rfl hl.1 rfl (lv_room (Nat.le_of_ble_eq_true rfl)) (dk_at dkX9_withLean 11 rfl) ⟨Nat.zero_le _, Nat.zero_le _⟩) hS (fun q _ h => h.elim) (fun q h => h.elim) (fun r_6 u t H1 locs ht hvm hw hB hz1 hk1 hS => ?_)
  obtain ⟨hw, hE⟩ := hw
  have hP := gz_keep hP hk1
  have hF := gf_call (a := r_6) hE hF
  generalize H1 = H at hP hS ⊢
  have gr_6 : gi r_6 0 10 := hw
  have hPc := hP.sub (ws' := []) [] rfl
  have hKc := hK.sub (tys' := []) [] rfl
  refine va_calli (va_runSN (As := [.int x_5, .int p1, .int r_6]) (rest := [.ref bh]) ⟨hx, hb, hml, hown, hts⟩ (sX11_spot l dC dI x_5 p1 r_6 (gi_w gx_5 (by decide)) gp1 gr_6) (⟨va_cnB 3 hts (gz_gP mGA_582 goodGA) rfl rfl rfl (nzA_X9_63 hz) (hts _ (List.mem_cons_of_mem _ mGA_1)) hdS_X11_spot_X11_3.2 ⟨Nat.le_of_ble_eq_true rfl, Nat.le_of_ble_eq_true rfl⟩, (hts _ (List.mem_cons_of_mem _ mGA_581)), trivial⟩) ⟨bl_I (bl_a bl_P (bl_a bl_K bl_nz)), fun U hU hW => ⟨rfl, by rw [hU]; exact hPc, va_K.moved hW.alike hKc, nzA_warm hW hz⟩⟩ rfl rfl hl.1 rfl (lv_room (Nat.le_of_ble_eq_true rfl)) (dk_at dkX9_withLean 12 rfl) ⟨Nat.zero_le _, Nat.zero_le _⟩) hS (fun q _ h => h.elim) (fun q h => h.elim) (fun r_7 u t H1 locs ht hvm hw hB hz1 hk1 hS => ?_)
  obtain ⟨hw, hE⟩ := hw
  have hP := gz_keep hP hk1
  have hF := gf_call (a := r_7) (by rw [ex_5] at hE; exact hE) hF
  generalize H1 = H at hP hS ⊢
  have gr_7 : gi r_7 0 3574 := hw
  refine va_iald hx hb hK hP 1 0 rfl rfl (gi_in gr_7 (by decide)) (dk_at dkX9_withLean 13 rfl) ?_
  refine lv_topi (fun x_8 ex_8 => ?_)
  exact W.iret (v := x_8) hx hb hr (fun t ht hW => ⟨⟨x_8, (), rfl, ⟨(gi_any x_8), by first | (rw [ex_8]; exact hF.trans hR9.symm) | ((try rw [ex_8]); exact hF.trans hR9.symm)⟩, trivial⟩, hS.F ht⟩) hS.2.2 (dk_at dkX9_withLean 14 rfl)
noncomputable def lsX9_total : List (Nat × Instr × Nat) := [(0, .aload_n 0, 1), (1, .getfield 15, 3), (4, .iconst 0, 1), (5, .iaload, 1), (6, .ireturn, 1)]
theorem dkX9_total : dkAll cX9_total lsX9_total = true := dk_fast (by decide +kernel)
noncomputable def fX9_total (fbh : Nat → Int32) : Int32 := (fbh (0 : Int32).toNatClampNeg)
set_option maxHeartbeats 4000000 in
set_option maxRecDepth 100000 in
theorem sX9_total (l : Launch) (dC : Nat → ClassId) (dI : Nat → Nat → Nat) (h0 : Nat) (bh : Nat) (bf : Nat) (sa : Nat) (months : Int32) (full : Int32) (lean : Int32) (kbh : ClassId) (fbh : Nat → Int32) (gmonths : gi months 0 24) (gfull : gi full 0 5) (glean : gi lean 0 5) : Met l yX9_total (.code yX9_total cX9_total 1 (some .int) :: wsGA) ({ frames := 0, cells := 0, slots := 0, locals := 0 }) (va_Pc [.ref h0] (fun U => va_P (dC, dI) vwCl [(h0, .inr (9, [.ref bf, .ref bh, .ref sa, .int months, .int full, .int lean])), (bh, .inl (kbh, 3575, .inl fbh))] U.heap ∧ va_K (dC, dI) vwCl [(kbh, .int)] U ∧ nzA U)) (va_Qi (fun (r : Int32) (u : Unit) => (gi r (-2147483648) 2147483647) ∧ r = fX9_total fbh) (fun _ _ => True) (fun _ => False)) 0 0 (fun _ => False) := by
  refine Met.ofW (cc := cX9_total) (maxL := 1) (ret := (some .int)) (by decide) rfl ?_
  intro p e s m args below meth c s₁ B hml hv
  obtain ⟨rfl, hP, hK, hz⟩ := hv
  have hx := B.exec
  have hb := B.bytes
  have hr := B.returns
  have hts := atoms_spec (ws := (.code yX9_total cX9_total 1 (some .int) :: wsGA)) B.pre
  have hown : s.vm.findClass RX9 = some m.cls := findClass_of_methodNamed B.named
  have hlocks := B.notSynchronized
  have hS : va_S (fun _ => False) s.heap s.heap [] := va_S.rf
  have hl := lv_entry ([.ref h0]) (n := 1) (Nat.le_of_ble_eq_true rfl)
  rw [lg_entry_eq]
  generalize (lg_sl ([.ref h0]) ++ List.replicate (1 - (lg_sl ([.ref h0])).length) Slot.unset).toArray = ls at hl ⊢
  have hl : lv_has ls 1 [(0, .ref h0)] := hl
  obtain ⟨RES, hF⟩ : ∃ R9, fX9_total fbh = R9 := ⟨_, rfl⟩
  have hR9 := hF
  refine lv_aload_n hx hb (dk_at dkX9_total 0 rfl) rfl (lv_at hl 0 rfl) ?_
  refine va_get (D := (dC, dI)) (ci := 9) (v := .ref bh) (C := RX9) (T := TX9) (N := 6) hx hb hts (fun w h => List.mem_cons_of_mem _ (jnGA_X9 w h)) hown hK hP 0 rfl rfl 1 (by decide) (hts _ (List.mem_cons_of_mem _ mGA_112)) (fun _ h9 => h9) rfl (dk_at dkX9_total 1 rfl) ?_
  refine lv_iconst (v := 0) hx hb (dk_at dkX9_total 2 rfl) (by decide) ?_
  refine va_iald hx hb hK hP 1 0 rfl rfl (gi_in (gi_c 0 0 (by decide)) (by decide)) (dk_at dkX9_total 3 rfl) ?_
  refine lv_topi (fun x_2 ex_2 => ?_)
  exact W.iret (v := x_2) hx hb hr (fun t ht hW => ⟨⟨x_2, (), rfl, ⟨(gi_any x_2), by first | (rw [ex_2]; exact hF.trans hR9.symm) | ((try rw [ex_2]); exact hF.trans hR9.symm)⟩, trivial⟩, hS.F ht⟩) hS.2.2 (dk_at dkX9_total 4 rfl)
noncomputable def lsX9_onDay : List (Nat × Instr × Nat) := [(0, .iload_n 2, 1), (1, .bipush 29, 2), (3, .iload_n 1, 1), (4, .imul, 1), (5, .isub, 1), (6, .istore_n 3, 1), (7, .iload_n 3, 1), (8, .ifCond .lt 8, 3), (11, .iload_n 3, 1), (12, .iload_n 1, 1), (13, .if_icmp .le 7, 3), (16, .iconst 0, 1), (17, .goto 13, 3), (20, .aload_n 0, 1), (21, .getfield 18, 3), (24, .iload_n 1, 1), (25, .iload_n 3, 1), (26, .invokestatic 92, 3), (29, .iaload, 1), (30, .ireturn, 1)]
theorem dkX9_onDay : dkAll cX9_onDay lsX9_onDay = true := dk_fast (by decide +kernel)
noncomputable def bfX9_onDay_30 (fsa : Nat → Int32) (p0 : Int32) (p1 : Int32) (s0 : Int32) : Int32 := s0
noncomputable def bfX9_onDay_16 (fsa : Nat → Int32) (p0 : Int32) (p1 : Int32) : Int32 := bfX9_onDay_30 fsa p0 p1 (0 : Int32)
noncomputable def fX9_onDay (fsa : Nat → Int32) (p0 : Int32) (p1 : Int32) : Int32 := if (p1 - ((29 : Int32) * p0)) < (0 : Int32) then (bfX9_onDay_16 fsa p0 p1) else (if (p1 - ((29 : Int32) * p0)) ≤ p0 then (cal (fun o1 => bfX9_onDay_30 fsa p0 p1 (fsa o1.toNatClampNeg)) (fX11_cell p0 (p1 - ((29 : Int32) * p0)))) else (bfX9_onDay_16 fsa p0 p1))
set_option maxHeartbeats 4000000 in
set_option maxRecDepth 100000 in
theorem sX9_onDay (l : Launch) (dC : Nat → ClassId) (dI : Nat → Nat → Nat) (h0 : Nat) (sa : Nat) (bf : Nat) (bh : Nat) (months : Int32) (full : Int32) (lean : Int32) (ksa : ClassId) (fsa : Nat → Int32) (p0 : Int32) (p1 : Int32) (gmonths : gi months 0 24) (gfull : gi full 0 5) (glean : gi lean 0 5) (gp0 : gi p0 0 24) : Met l yX9_onDay (.code yX9_onDay cX9_onDay 4 (some .int) :: wsGA) ({ frames := 1, cells := 0, slots := 0, locals := 21 }) (va_Pc [.ref h0, .int p0, .int p1] (fun U => va_P (dC, dI) vwCl [(h0, .inr (9, [.ref bf, .ref bh, .ref sa, .int months, .int full, .int lean])), (sa, .inl (ksa, 325, .inl fsa))] U.heap ∧ va_K (dC, dI) vwCl [(ksa, .int)] U ∧ nzA U)) (va_Qi (fun (r : Int32) (u : Unit) => (gi r (-2147483648) 2147483647) ∧ r = fX9_onDay fsa p0 p1) (fun _ _ => True) (fun _ => False)) 0 0 (fun _ => False) := by
  refine Met.ofW (cc := cX9_onDay) (maxL := 4) (ret := (some .int)) (by decide) rfl ?_
  intro p e s m args below meth c s₁ B hml hv
  obtain ⟨rfl, hP, hK, hz⟩ := hv
  have hx := B.exec
  have hb := B.bytes
  have hr := B.returns
  have hts := atoms_spec (ws := (.code yX9_onDay cX9_onDay 4 (some .int) :: wsGA)) B.pre
  have hown : s.vm.findClass RX9 = some m.cls := findClass_of_methodNamed B.named
  have hlocks := B.notSynchronized
  have hS : va_S (fun _ => False) s.heap s.heap [] := va_S.rf
  have hl := lv_entry ([.ref h0, .int p0, .int p1]) (n := 4) (Nat.le_of_ble_eq_true rfl)
  rw [lg_entry_eq]
  generalize (lg_sl ([.ref h0, .int p0, .int p1]) ++ List.replicate (4 - (lg_sl ([.ref h0, .int p0, .int p1])).length) Slot.unset).toArray = ls at hl ⊢
  have hl : lv_has ls 4 [(0, .ref h0), (1, .int p0), (2, .int p1)] := hl
  obtain ⟨RES, hF⟩ : ∃ R9, fX9_onDay fsa p0 p1 = R9 := ⟨_, rfl⟩
  have hR9 := hF
  refine lv_iload_n hx hb (dk_at dkX9_onDay 0 rfl) rfl (lv_at hl 2 rfl) ?_
  refine lv_bipush (v := 29) hx hb (dk_at dkX9_onDay 1 rfl) (by decide) ?_
  refine lv_iload_n hx hb (dk_at dkX9_onDay 2 rfl) rfl (lv_at hl 1 rfl) ?_
  refine lv_imul hx hb (dk_at dkX9_onDay 3 rfl) ?_
  refine lv_topi (fun x_11 ex_11 => ?_)
  have gx_11 : gi x_11 0 696 := gi_mul ex_11 (gi_c 29 29 (by decide)) gp0 (by decide)
  refine lv_isub hx hb (dk_at dkX9_onDay 4 rfl) ?_
  refine lv_topi (fun x_12 ex_12 => ?_)
  refine lv_istore_n (lv' := [(3, .int x_12), (0, .ref h0), (1, .int p0), (2, .int p1)]) hx hb (dk_at dkX9_onDay 5 rfl) rfl hl (by decide) rfl (fun ls hl => ?_)
  refine lv_iload_n hx hb (dk_at dkX9_onDay 6 rfl) rfl (lv_at hl 0 rfl) ?_
  refine lv_if_lt (tgt := 16) hx hb (dk_at dkX9_onDay 7 rfl) (by decide) (fun c_13 => ?_) (fun c_13 => ?_)
  · have hF := gf_pos (by rw [ex_12, ex_11] at c_13; exact c_13) hF
    have g_14 : gi x_12 (-2147483648) (-1) := gi_lt_l c_13 (gi_any x_12) (gi_c 0 0 (by decide)) (by decide)
    refine lv_iconst (v := 0) hx hb (dk_at dkX9_onDay 11 rfl) (by decide) ?_
    refine lv_goto (tgt := 30) hx hb (dk_at dkX9_onDay 12 rfl) (by decide) ?_
    exact W.iret (v := 0) hx hb hr (fun t ht hW => ⟨⟨0, (), rfl, ⟨(gi_any 0), hF.trans hR9.symm⟩, trivial⟩, hS.F ht⟩) hS.2.2 (dk_at dkX9_onDay 19 rfl)
  · have hF := gf_neg (by rw [ex_12, ex_11] at c_13; exact c_13) hF
    have g_15 : gi x_12 0 2147483647 := gi_le_r (Int32.not_lt.mp c_13) (gi_c 0 0 (by decide)) (gi_any x_12)
    refine lv_iload_n hx hb (dk_at dkX9_onDay 8 rfl) rfl (lv_at hl 0 rfl) ?_
    refine lv_iload_n hx hb (dk_at dkX9_onDay 9 rfl) rfl (lv_at hl 2 rfl) ?_
    refine lv_icmp_le (tgt := 20) hx hb (dk_at dkX9_onDay 10 rfl) (by decide) (fun c_16 => ?_) (fun c_16 => ?_)
    · have hF := gf_pos (by rw [ex_12, ex_11] at c_16; exact c_16) hF
      have g_17 : gi x_12 0 24 := gi_le_l c_16 g_15 gp0
      refine lv_aload_n hx hb (dk_at dkX9_onDay 13 rfl) rfl (lv_at hl 1 rfl) ?_
      refine va_get (D := (dC, dI)) (ci := 9) (v := .ref sa) (C := RX9) (T := TX9) (N := 6) hx hb hts (fun w h => List.mem_cons_of_mem _ (jnGA_X9 w h)) hown hK hP 0 rfl rfl 2 (by decide) (hts _ (List.mem_cons_of_mem _ mGA_113)) (fun _ h9 => h9) rfl (dk_at dkX9_onDay 14 rfl) ?_
      refine lv_iload_n hx hb (dk_at dkX9_onDay 15 rfl) rfl (lv_at hl 2 rfl) ?_
      refine lv_iload_n hx hb (dk_at dkX9_onDay 16 rfl) rfl (lv_at hl 0 rfl) ?_
      have hPc := hP.sub (ws' := []) [] rfl
      have hKc := hK.sub (tys' := []) [] rfl
      refine va_calli (va_runSN (As := [.int p0, .int x_12]) (rest := [.ref sa]) ⟨hx, hb, hml, hown, hts⟩ (sX11_cell l dC dI p0 x_12 gp0 g_17) (⟨va_cnB 2 hts (gz_gP mGA_585 goodGA) rfl rfl rfl (nzA_X9_92 hz) (hts _ (List.mem_cons_of_mem _ mGA_1)) hdS_X11_cell_X11_2.2 ⟨Nat.le_of_ble_eq_true rfl, Nat.le_of_ble_eq_true rfl⟩, (hts _ (List.mem_cons_of_mem _ mGA_584)), trivial⟩) ⟨bl_I (bl_a bl_P (bl_a bl_K bl_nz)), fun U hU hW => ⟨rfl, by rw [hU]; exact hPc, va_K.moved hW.alike hKc, nzA_warm hW hz⟩⟩ rfl rfl hl.1 rfl (lv_room (Nat.le_of_ble_eq_true rfl)) (dk_at dkX9_onDay 17 rfl) ⟨Nat.zero_le _, Nat.zero_le _⟩) hS (fun q _ h => h.elim) (fun q h => h.elim) (fun r_18 u t H1 locs ht hvm hw hB hz1 hk1 hS => ?_)
      obtain ⟨hw, hE⟩ := hw
      have hP := gz_keep hP hk1
      have hF := gf_call (a := r_18) (by rw [ex_12, ex_11] at hE; exact hE) hF
      generalize H1 = H at hP hS ⊢
      have gr_18 : gi r_18 0 324 := hw
      refine va_iald hx hb hK hP 1 0 rfl rfl (gi_in gr_18 (by decide)) (dk_at dkX9_onDay 18 rfl) ?_
      refine lv_topi (fun x_19 ex_19 => ?_)
      exact W.iret (v := x_19) hx hb hr (fun t ht hW => ⟨⟨x_19, (), rfl, ⟨(gi_any x_19), by first | (rw [ex_19]; exact hF.trans hR9.symm) | ((try rw [ex_19]); exact hF.trans hR9.symm)⟩, trivial⟩, hS.F ht⟩) hS.2.2 (dk_at dkX9_onDay 19 rfl)
    · have hF := gf_neg (by rw [ex_12, ex_11] at c_16; exact c_16) hF
      have g_20 : gi x_12 1 2147483647 := gi_lt_r (Int32.not_le.mp c_16) gp0 g_15 (by decide)
      refine lv_iconst (v := 0) hx hb (dk_at dkX9_onDay 11 rfl) (by decide) ?_
      refine lv_goto (tgt := 30) hx hb (dk_at dkX9_onDay 12 rfl) (by decide) ?_
      exact W.iret (v := 0) hx hb hr (fun t ht hW => ⟨⟨0, (), rfl, ⟨(gi_any 0), hF.trans hR9.symm⟩, trivial⟩, hS.F ht⟩) hS.2.2 (dk_at dkX9_onDay 19 rfl)
noncomputable def lsX9_onWeekday : List (Nat × Instr × Nat) := [(0, .iconst 0, 1), (1, .istore 4, 2), (3, .iconst 0, 1), (4, .istore 5, 2), (6, .iload 5, 2), (8, .iload_n 1, 1), (9, .if_icmp .gt 40, 3), (12, .iload_n 1, 1), (13, .iload 5, 2), (15, .invokestatic 95, 3), (18, .iload_n 2, 1), (19, .iadd, 1), (20, .bipush 7, 2), (22, .irem, 1), (23, .iload_n 3, 1), (24, .if_icmp .ne 19, 3), (27, .iload 4, 2), (29, .aload_n 0, 1), (30, .getfield 18, 3), (33, .iload_n 1, 1), (34, .iload 5, 2), (36, .invokestatic 92, 3), (39, .iaload, 1), (40, .iadd, 1), (41, .istore 4, 2), (43, .iinc 5 1, 3), (46, .goto (-40), 3), (49, .iload 4, 2), (51, .ireturn, 1)]
theorem dkX9_onWeekday : dkAll cX9_onWeekday lsX9_onWeekday = true := dk_fast (by decide +kernel)
noncomputable def bfX9_onWeekday_43 (fsa : Nat → Int32) (p0 : Int32) (p1 : Int32) (p2 : Int32) (K : (Int32 → Int32 → Int32)) (v4 : Int32) (v5 : Int32) : Int32 := K v4 (v5 + (1 : Int32))
noncomputable def dfX9_onWeekday_6 (fsa : Nat → Int32) (p0 : Int32) (p1 : Int32) (p2 : Int32) (K : (Int32 → Int32 → Int32)) (v4 : Int32) (v5 : Int32) : Int32 := if p0 < v5 then v4 else (cal (fun o1 => if ((o1 + p1) - (o1 + p1) / (7 : Int32) * (7 : Int32)) = p2 then (cal (fun o2 => bfX9_onWeekday_43 fsa p0 p1 p2 K (v4 + (fsa o2.toNatClampNeg)) v5) (fX11_cell p0 v5)) else (bfX9_onWeekday_43 fsa p0 p1 p2 K v4 v5)) (fX11_dayOf p0 v5))
noncomputable def lfX9_onWeekday (fsa : Nat → Int32) (p0 : Int32) (p1 : Int32) (p2 : Int32) (z : Nat) : (Int32 → Int32 → Int32) := Nat.rec (motive := fun _ => (Int32 → Int32 → Int32)) (fun _ _ => (0)) (fun _ K => dfX9_onWeekday_6 fsa p0 p1 p2 K) z
noncomputable def fX9_onWeekday (fsa : Nat → Int32) (p0 : Int32) (p1 : Int32) (p2 : Int32) : Int32 := (lfX9_onWeekday fsa p0 p1 p2 1000000000) (0 : Int32) (0 : Int32)
set_option maxHeartbeats 4000000 in
set_option maxRecDepth 100000 in
theorem lp_sX9_onWeekday {p : Program} {l : Launch} {e : Env} {R : Room} {s : State} {m : MethodId} {args : Array Value} {below : List Frame} {meth : Method} {c : Code} {Q : State → Prop} {A : Nat → Prop} {cells slots : Nat} {dC : Nat → ClassId} {dI : Nat → Nat → Nat} {RES : Int32} (h0 : Nat) (sa : Nat) (bf : Nat) (bh : Nat) (months : Int32) (full : Int32) (lean : Int32) (ksa : ClassId) (fsa : Nat → Int32) (p0 : Int32) (p1 : Int32) (p2 : Int32) (gmonths : gi months 0 24) (gfull : gi full 0 5) (glean : gi lean 0 5) (gp0 : gi p0 0 24) (hx : p.tables.exec = Jvm.exec) (hb : c.code = cX9_onWeekday) (hml : c.maxLocals = 6) (hown : s.vm.findClass RX9 = some m.cls) (hts : ∀ w ∈ ((.code yX9_onWeekday cX9_onWeekday 6 (some .int) :: wsGA) : List Cond), w.before args s = true) (hK : va_K (dC, dI) vwCl [(ksa, .int)] s) (hz : nzA s) (hRf : 1 ≤ R.frames) (hRl : 21 ≤ R.locals) (hRc : cells ≤ R.cells) (hRs : slots ≤ R.slots) (kr51 : ∀ (v : Int32) (H : Heap) (locs : List Loc) (ls : Array Slot), v = RES → va_P (dC, dI) vwCl [(h0, .inr (9, [.ref bf, .ref bh, .ref sa, .int months, .int full, .int lean])), (sa, .inl (ksa, 325, .inl fsa))] H → va_S A s.heap H locs → lv_has ls 6 [] → W p l e R s m args below meth c H locs cells slots Q (F0 m 51 ls [.int v])) : ∀ z : Nat, (∀ (v4 : Int32) (v5 : Int32) (H : Heap) (locs : List Loc) (ls : Array Slot), gi v5 0 25 → (lfX9_onWeekday fsa p0 p1 p2 z) v4 v5 = RES → 51 + (-2) * v5.toInt < (z : Int) → va_P (dC, dI) vwCl [(h0, .inr (9, [.ref bf, .ref bh, .ref sa, .int months, .int full, .int lean])), (sa, .inl (ksa, 325, .inl fsa))] H → va_S A s.heap H locs → lv_has ls 6 [(0, .ref h0), (1, .int p0), (2, .int p1), (3, .int p2), (4, .int v4), (5, .int v5)] → W p l e R s m args below meth c H locs cells slots Q (F0 m 6 ls [])) := by
  intro z
  induction z with
  | zero =>
    intro v4 v5 H locs ls gv5 hF hmu hP hS hl
    exact absurd hmu (by have hv51 := gv5.1; have hv52 := gv5.2; omega)
  | succ z ih =>
      intro v4 v5 H locs ls gv5 hF hmu hP hS hl
      have hF : dfX9_onWeekday_6 fsa p0 p1 p2 (lfX9_onWeekday fsa p0 p1 p2 z) v4 v5 = RES := hF
      refine lv_iload hx hb (dk_at dkX9_onWeekday 4 rfl) (lv_at hl 5 rfl) ?_
      refine lv_iload_n hx hb (dk_at dkX9_onWeekday 5 rfl) rfl (lv_at hl 1 rfl) ?_
      refine lv_icmp_gt (tgt := 49) hx hb (dk_at dkX9_onWeekday 6 rfl) (by decide) (fun c_191 => ?_) (fun c_191 => ?_)
      · have hF := gf_pos c_191 hF
        have g_192 : gi v5 1 25 := gi_lt_r c_191 gp0 gv5 (by decide)
        refine lv_iload hx hb (dk_at dkX9_onWeekday 27 rfl) (lv_at hl 4 rfl) ?_
        exact kr51 v4 _ _ _ hF hP hS (lv_sub hl [] rfl)
      · have hF := gf_neg c_191 hF
        have g_193 : gi v5 0 24 := gi_le_l (Int32.not_lt.mp c_191) gv5 gp0
        refine lv_iload_n hx hb (dk_at dkX9_onWeekday 7 rfl) rfl (lv_at hl 1 rfl) ?_
        refine lv_iload hx hb (dk_at dkX9_onWeekday 8 rfl) (lv_at hl 5 rfl) ?_
        have hPc := hP.sub (ws' := []) [] rfl
        have hKc := hK.sub (tys' := []) [] rfl
        refine va_calli (va_runSN (As := [.int p0, .int v5]) (rest := []) ⟨hx, hb, hml, hown, hts⟩ (sX11_dayOf l dC dI p0 v5) (⟨va_cnB 2 hts (gz_gP mGA_516 goodGA) rfl rfl rfl (nzA_X9_95 hz) (hts _ (List.mem_cons_of_mem _ mGA_1)) hdS_X11_dayOf_X11_2.2 ⟨Nat.le_trans (Nat.le_of_ble_eq_true rfl) hRf, Nat.le_trans (Nat.le_of_ble_eq_true rfl) hRl⟩, (hts _ (List.mem_cons_of_mem _ mGA_515)), trivial⟩) ⟨bl_I (bl_a bl_P (bl_a bl_K bl_nz)), fun U hU hW => ⟨rfl, by rw [hU]; exact hPc, va_K.moved hW.alike hKc, nzA_warm hW hz⟩⟩ rfl rfl hl.1 rfl (lv_room (Nat.le_of_ble_eq_true rfl)) (dk_at dkX9_onWeekday 9 rfl) ⟨hRc, hRs⟩) hS (fun q _ h => h.elim) (fun q h => h.elim) (fun r_194 u t H1 locs ht hvm hw hB hz1 hk1 hS => ?_)
        obtain ⟨hw, hE⟩ := hw
        have hP := gz_keep hP hk1
        have hF := gf_call (a := r_194) hE hF
        generalize H1 = H at hP hS ⊢
        refine lv_iload_n hx hb (dk_at dkX9_onWeekday 10 rfl) rfl (lv_at hl 2 rfl) ?_
        refine lv_iadd hx hb (dk_at dkX9_onWeekday 11 rfl) ?_
        refine lv_topi (fun x_195 ex_195 => ?_)
        refine lv_bipush (v := 7) hx hb (dk_at dkX9_onWeekday 12 rfl) (by decide) ?_
        refine lv_irem hx hb (dk_at dkX9_onWeekday 13 rfl) (by decide) ?_
        refine lv_topi (fun x_196 ex_196 => ?_)
        refine lv_iload_n hx hb (dk_at dkX9_onWeekday 14 rfl) rfl (lv_at hl 3 rfl) ?_
        refine lv_icmp_ne (tgt := 43) hx hb (dk_at dkX9_onWeekday 15 rfl) (by decide) (fun c_197 => ?_) (fun c_197 => ?_)
        · have hF := gf_neg (by rw [ex_196, ex_195] at c_197; exact c_197) hF
          obtain ⟨x_198, ex_198⟩ : ∃ y : Int32, y = v5 + 1 := ⟨_, rfl⟩
          have gx_198 : gi x_198 1 25 := gi_add ex_198 g_193 (gi_c 1 1 (by decide)) (by decide)
          refine lv_iinc (v := x_198) (lv' := [(5, .int x_198), (0, .ref h0), (1, .int p0), (2, .int p1), (3, .int p2), (4, .int v4)]) hx hb (dk_at dkX9_onWeekday 25 rfl) hl (k := 5) rfl (by rw [ex_198]; rfl) (by decide) rfl (fun ls hl => ?_)
          refine lv_goto (tgt := 6) hx hb (dk_at dkX9_onWeekday 26 rfl) (by decide) ?_
          exact ih v4 x_198 _ _ _ (gi_w gx_198 (by decide)) (by first | (rw [ex_198]; exact hF) | ((try rw [ex_198]); exact hF)) (by have av5 := gv5.1; have bv5 := gv5.2; have qgx_198 := gx_198.1; have rgx_198 := gx_198.2; have igx_198 : x_198.toInt = v5.toInt + 1 := (by have hc1 : (1 : Int32).toInt = 1 := (by decide); have h9 := gi_addE ex_198 g_193 (gi_c 1 1 (by decide)) (by decide); rw [hc1] at h9; exact h9); have qgv5 := g_193.1; have rgv5 := g_193.2; omega) hP hS (lv_sub hl [1, 2, 3, 4, 5, 0] rfl)
        · have hF := gf_pos (by rw [ex_196, ex_195] at c_197; exact c_197) hF
          refine lv_iload hx hb (dk_at dkX9_onWeekday 16 rfl) (lv_at hl 4 rfl) ?_
          refine lv_aload_n hx hb (dk_at dkX9_onWeekday 17 rfl) rfl (lv_at hl 0 rfl) ?_
          refine va_get (D := (dC, dI)) (ci := 9) (v := .ref sa) (C := RX9) (T := TX9) (N := 6) hx hb hts (fun w h => List.mem_cons_of_mem _ (jnGA_X9 w h)) hown hK hP 0 rfl rfl 2 (by decide) (hts _ (List.mem_cons_of_mem _ mGA_113)) (fun _ h9 => h9) rfl (dk_at dkX9_onWeekday 18 rfl) ?_
          refine lv_iload_n hx hb (dk_at dkX9_onWeekday 19 rfl) rfl (lv_at hl 1 rfl) ?_
          refine lv_iload hx hb (dk_at dkX9_onWeekday 20 rfl) (lv_at hl 5 rfl) ?_
          have hPc := hP.sub (ws' := []) [] rfl
          have hKc := hK.sub (tys' := []) [] rfl
          refine va_calli (va_runSN (As := [.int p0, .int v5]) (rest := [.ref sa, .int v4]) ⟨hx, hb, hml, hown, hts⟩ (sX11_cell l dC dI p0 v5 gp0 g_193) (⟨va_cnB 2 hts (gz_gP mGA_585 goodGA) rfl rfl rfl (nzA_X9_92 hz) (hts _ (List.mem_cons_of_mem _ mGA_1)) hdS_X11_cell_X11_2.2 ⟨Nat.le_trans (Nat.le_of_ble_eq_true rfl) hRf, Nat.le_trans (Nat.le_of_ble_eq_true rfl) hRl⟩, (hts _ (List.mem_cons_of_mem _ mGA_584)), trivial⟩) ⟨bl_I (bl_a bl_P (bl_a bl_K bl_nz)), fun U hU hW => ⟨rfl, by rw [hU]; exact hPc, va_K.moved hW.alike hKc, nzA_warm hW hz⟩⟩ rfl rfl hl.1 rfl (lv_room (Nat.le_of_ble_eq_true rfl)) (dk_at dkX9_onWeekday 21 rfl) ⟨hRc, hRs⟩) hS (fun q _ h => h.elim) (fun q h => h.elim) (fun r_199 u t H1 locs ht hvm hw hB hz1 hk1 hS => ?_)
          obtain ⟨hw, hE⟩ := hw
          have hP := gz_keep hP hk1
          have hF := gf_call (a := r_199) hE hF
          generalize H1 = H at hP hS ⊢
          have gr_199 : gi r_199 0 324 := hw
          refine va_iald hx hb hK hP 1 0 rfl rfl (gi_in gr_199 (by decide)) (dk_at dkX9_onWeekday 22 rfl) ?_
          refine lv_topi (fun x_200 ex_200 => ?_)
          refine lv_iadd hx hb (dk_at dkX9_onWeekday 23 rfl) ?_
          refine lv_topi (fun x_201 ex_201 => ?_)
          refine lv_istore (lv' := [(4, .int x_201), (0, .ref h0), (1, .int p0), (2, .int p1), (3, .int p2), (5, .int v5)]) hx hb (dk_at dkX9_onWeekday 24 rfl) hl (by decide) rfl (fun ls hl => ?_)
          obtain ⟨x_202, ex_202⟩ : ∃ y : Int32, y = v5 + 1 := ⟨_, rfl⟩
          have gx_202 : gi x_202 1 25 := gi_add ex_202 g_193 (gi_c 1 1 (by decide)) (by decide)
          refine lv_iinc (v := x_202) (lv' := [(5, .int x_202), (4, .int x_201), (0, .ref h0), (1, .int p0), (2, .int p1), (3, .int p2)]) hx hb (dk_at dkX9_onWeekday 25 rfl) hl (k := 5) rfl (by rw [ex_202]; rfl) (by decide) rfl (fun ls hl => ?_)
          refine lv_goto (tgt := 6) hx hb (dk_at dkX9_onWeekday 26 rfl) (by decide) ?_
          exact ih x_201 x_202 _ _ _ (gi_w gx_202 (by decide)) (by first | (rw [ex_202, ex_201, ex_200]; exact hF) | ((try rw [ex_202]); (try rw [ex_201]); (try rw [ex_200]); exact hF)) (by have av5 := gv5.1; have bv5 := gv5.2; have qgx_202 := gx_202.1; have rgx_202 := gx_202.2; have igx_202 : x_202.toInt = v5.toInt + 1 := (by have hc1 : (1 : Int32).toInt = 1 := (by decide); have h9 := gi_addE ex_202 g_193 (gi_c 1 1 (by decide)) (by decide); rw [hc1] at h9; exact h9); have qgv5 := g_193.1; have rgv5 := g_193.2; omega) hP hS (lv_sub hl [2, 3, 4, 5, 1, 0] rfl)
set_option maxHeartbeats 4000000 in
set_option maxRecDepth 100000 in
theorem sX9_onWeekday (l : Launch) (dC : Nat → ClassId) (dI : Nat → Nat → Nat) (h0 : Nat) (sa : Nat) (bf : Nat) (bh : Nat) (months : Int32) (full : Int32) (lean : Int32) (ksa : ClassId) (fsa : Nat → Int32) (p0 : Int32) (p1 : Int32) (p2 : Int32) (gmonths : gi months 0 24) (gfull : gi full 0 5) (glean : gi lean 0 5) (gp0 : gi p0 0 24) : Met l yX9_onWeekday (.code yX9_onWeekday cX9_onWeekday 6 (some .int) :: wsGA) ({ frames := 1, cells := 0, slots := 0, locals := 21 }) (va_Pc [.ref h0, .int p0, .int p1, .int p2] (fun U => va_P (dC, dI) vwCl [(h0, .inr (9, [.ref bf, .ref bh, .ref sa, .int months, .int full, .int lean])), (sa, .inl (ksa, 325, .inl fsa))] U.heap ∧ va_K (dC, dI) vwCl [(ksa, .int)] U ∧ nzA U)) (va_Qi (fun (r : Int32) (u : Unit) => (gi r (-2147483648) 2147483647) ∧ r = fX9_onWeekday fsa p0 p1 p2) (fun _ _ => True) (fun _ => False)) 0 0 (fun _ => False) := by
  refine Met.ofW (cc := cX9_onWeekday) (maxL := 6) (ret := (some .int)) (by decide) rfl ?_
  intro p e s m args below meth c s₁ B hml hv
  obtain ⟨rfl, hP, hK, hz⟩ := hv
  have hx := B.exec
  have hb := B.bytes
  have hr := B.returns
  have hts := atoms_spec (ws := (.code yX9_onWeekday cX9_onWeekday 6 (some .int) :: wsGA)) B.pre
  have hown : s.vm.findClass RX9 = some m.cls := findClass_of_methodNamed B.named
  have hlocks := B.notSynchronized
  have hS : va_S (fun _ => False) s.heap s.heap [] := va_S.rf
  have hl := lv_entry ([.ref h0, .int p0, .int p1, .int p2]) (n := 6) (Nat.le_of_ble_eq_true rfl)
  rw [lg_entry_eq]
  generalize (lg_sl ([.ref h0, .int p0, .int p1, .int p2]) ++ List.replicate (6 - (lg_sl ([.ref h0, .int p0, .int p1, .int p2])).length) Slot.unset).toArray = ls at hl ⊢
  have hl : lv_has ls 6 [(0, .ref h0), (1, .int p0), (2, .int p1), (3, .int p2)] := hl
  obtain ⟨RES, hF⟩ : ∃ R9, fX9_onWeekday fsa p0 p1 p2 = R9 := ⟨_, rfl⟩
  have hR9 := hF
  refine lv_iconst (v := 0) hx hb (dk_at dkX9_onWeekday 0 rfl) (by decide) ?_
  refine lv_istore (lv' := [(4, .int 0), (0, .ref h0), (1, .int p0), (2, .int p1), (3, .int p2)]) hx hb (dk_at dkX9_onWeekday 1 rfl) hl (by decide) rfl (fun ls hl => ?_)
  refine lv_iconst (v := 0) hx hb (dk_at dkX9_onWeekday 2 rfl) (by decide) ?_
  refine lv_istore (lv' := [(5, .int 0), (4, .int 0), (0, .ref h0), (1, .int p0), (2, .int p1), (3, .int p2)]) hx hb (dk_at dkX9_onWeekday 3 rfl) hl (by decide) rfl (fun ls hl => ?_)
  refine (lp_sX9_onWeekday h0 sa bf bh months full lean ksa fsa p0 p1 p2 gmonths gfull glean gp0 hx hb hml hown hts hK hz (Nat.le_of_ble_eq_true rfl) (Nat.le_of_ble_eq_true rfl) (Nat.zero_le _) (Nat.zero_le _) (fun v H locs ls hF hP hS hl => ?_) 1000000000) 0 0 _ _ _ (gi_w (gi_c 0 0 (by decide)) (by decide)) hF (by have k0 : (0 : Int32).toInt = 0 := (by decide); omega) hP hS (lv_sub hl [2, 3, 4, 5, 1, 0] rfl)
  · skip
    exact W.iret (v := v) hx hb hr (fun t ht hW => ⟨⟨v, (), rfl, ⟨(gi_any v), hF.trans hR9.symm⟩, trivial⟩, hS.F ht⟩) hS.2.2 (dk_at dkX9_onWeekday 28 rfl)
noncomputable def lsX9_bound : List (Nat × Instr × Nat) := [(0, .iconst 0, 1), (1, .istore_n 3, 1), (2, .iload_n 3, 1), (3, .iload_n 1, 1), (4, .if_icmp .gt 43, 3), (7, .iload_n 2, 1), (8, .ifCond .eq 9, 3), (11, .iload_n 1, 1), (12, .iload_n 3, 1), (13, .isub, 1), (14, .goto 4, 3), (17, .iload_n 3, 1), (18, .istore 4, 2), (20, .aload_n 0, 1), (21, .getfield 18, 3), (24, .iload_n 1, 1), (25, .iload 4, 2), (27, .invokestatic 92, 3), (30, .iaload, 1), (31, .ifCond .le 10, 3), (34, .iload_n 1, 1), (35, .iload 4, 2), (37, .invokestatic 95, 3), (40, .ireturn, 1), (41, .iinc 3 1, 3), (44, .goto (-42), 3), (47, .iconst (-1), 1), (48, .ireturn, 1)]
theorem dkX9_bound : dkAll cX9_bound lsX9_bound = true := dk_fast (by decide +kernel)
noncomputable def bfX9_bound_18 (fsa : Nat → Int32) (p0 : Int32) (p1 : Int32) (K : (Int32 → Int32)) (v3 : Int32) (s0 : Int32) : Int32 := cal (fun o1 => if (fsa o1.toNatClampNeg) ≤ (0 : Int32) then (K (v3 + (1 : Int32))) else (cal (fun o2 => o2) (fX11_dayOf p0 s0))) (fX11_cell p0 s0)
noncomputable def dfX9_bound_2 (fsa : Nat → Int32) (p0 : Int32) (p1 : Int32) (K : (Int32 → Int32)) (v3 : Int32) : Int32 := if p0 < v3 then (-1 : Int32) else (if p1 = (0 : Int32) then (bfX9_bound_18 fsa p0 p1 K v3 v3) else (bfX9_bound_18 fsa p0 p1 K v3 (p0 - v3)))
noncomputable def lfX9_bound (fsa : Nat → Int32) (p0 : Int32) (p1 : Int32) (z : Nat) : (Int32 → Int32) := Nat.rec (motive := fun _ => (Int32 → Int32)) (fun _ => (0)) (fun _ K => dfX9_bound_2 fsa p0 p1 K) z
noncomputable def fX9_bound (fsa : Nat → Int32) (p0 : Int32) (p1 : Int32) : Int32 := (lfX9_bound fsa p0 p1 1000000000) (0 : Int32)
set_option maxHeartbeats 4000000 in
set_option maxRecDepth 100000 in
theorem lp_sX9_bound {p : Program} {l : Launch} {e : Env} {R : Room} {s : State} {m : MethodId} {args : Array Value} {below : List Frame} {meth : Method} {c : Code} {Q : State → Prop} {A : Nat → Prop} {cells slots : Nat} {dC : Nat → ClassId} {dI : Nat → Nat → Nat} {RES : Int32} (h0 : Nat) (sa : Nat) (bf : Nat) (bh : Nat) (months : Int32) (full : Int32) (lean : Int32) (ksa : ClassId) (fsa : Nat → Int32) (p0 : Int32) (p1 : Int32) (gmonths : gi months 0 24) (gfull : gi full 0 5) (glean : gi lean 0 5) (gp0 : gi p0 0 24) (gp1 : gi p1 0 1) (hx : p.tables.exec = Jvm.exec) (hb : c.code = cX9_bound) (hml : c.maxLocals = 5) (hown : s.vm.findClass RX9 = some m.cls) (hts : ∀ w ∈ ((.code yX9_bound cX9_bound 5 (some .int) :: wsGA) : List Cond), w.before args s = true) (hK : va_K (dC, dI) vwCl [(ksa, .int)] s) (hz : nzA s) (hRf : 1 ≤ R.frames) (hRl : 21 ≤ R.locals) (hRc : cells ≤ R.cells) (hRs : slots ≤ R.slots) (kr48 : ∀ (v : Int32) (H : Heap) (locs : List Loc) (ls : Array Slot), gi v (-1) (-1) → v = RES → va_P (dC, dI) vwCl [(h0, .inr (9, [.ref bf, .ref bh, .ref sa, .int months, .int full, .int lean])), (sa, .inl (ksa, 325, .inl fsa))] H → va_S A s.heap H locs → lv_has ls 5 [] → W p l e R s m args below meth c H locs cells slots Q (F0 m 48 ls [.int v])) (kr40 : ∀ (v : Int32) (H : Heap) (locs : List Loc) (ls : Array Slot), v = RES → va_P (dC, dI) vwCl [(h0, .inr (9, [.ref bf, .ref bh, .ref sa, .int months, .int full, .int lean])), (sa, .inl (ksa, 325, .inl fsa))] H → va_S A s.heap H locs → lv_has ls 5 [] → W p l e R s m args below meth c H locs cells slots Q (F0 m 40 ls [.int v])) : ∀ z : Nat, (∀ (v3 : Int32) (H : Heap) (locs : List Loc) (ls : Array Slot), gi v3 0 25 → (lfX9_bound fsa p0 p1 z) v3 = RES → 51 + (-2) * v3.toInt < (z : Int) → va_P (dC, dI) vwCl [(h0, .inr (9, [.ref bf, .ref bh, .ref sa, .int months, .int full, .int lean])), (sa, .inl (ksa, 325, .inl fsa))] H → va_S A s.heap H locs → lv_has ls 5 [(0, .ref h0), (1, .int p0), (2, .int p1), (3, .int v3)] → W p l e R s m args below meth c H locs cells slots Q (F0 m 2 ls [])) := by
  intro z
  induction z with
  | zero =>
    intro v3 H locs ls gv3 hF hmu hP hS hl
    exact absurd hmu (by have hv31 := gv3.1; have hv32 := gv3.2; omega)
  | succ z ih =>
      intro v3 H locs ls gv3 hF hmu hP hS hl
      have hF : dfX9_bound_2 fsa p0 p1 (lfX9_bound fsa p0 p1 z) v3 = RES := hF
      refine lv_iload_n hx hb (dk_at dkX9_bound 2 rfl) rfl (lv_at hl 3 rfl) ?_
      refine lv_iload_n hx hb (dk_at dkX9_bound 3 rfl) rfl (lv_at hl 1 rfl) ?_
      refine lv_icmp_gt (tgt := 47) hx hb (dk_at dkX9_bound 4 rfl) (by decide) (fun c_335 => ?_) (fun c_335 => ?_)
      · have hF := gf_pos c_335 hF
        have g_336 : gi v3 1 25 := gi_lt_r c_335 gp0 gv3 (by decide)
        refine lv_iconst (v := (-1)) hx hb (dk_at dkX9_bound 26 rfl) (by decide) ?_
        exact kr48 (-1) _ _ _ (gi_c (-1) (-1) (by decide)) hF hP hS (lv_sub hl [] rfl)
      · have hF := gf_neg c_335 hF
        have g_337 : gi v3 0 24 := gi_le_l (Int32.not_lt.mp c_335) gv3 gp0
        refine lv_iload_n hx hb (dk_at dkX9_bound 5 rfl) rfl (lv_at hl 2 rfl) ?_
        refine lv_if_eq (tgt := 17) hx hb (dk_at dkX9_bound 6 rfl) (by decide) (fun c_338 => ?_) (fun c_338 => ?_)
        · have hF := gf_pos c_338 hF
          have g_339 : gi p1 0 0 := gi_eq c_338 (gi_c 0 0 (by decide))
          refine lv_iload_n hx hb (dk_at dkX9_bound 11 rfl) rfl (lv_at hl 3 rfl) ?_
          refine lv_istore (lv' := [(4, .int v3), (0, .ref h0), (1, .int p0), (2, .int p1), (3, .int v3)]) hx hb (dk_at dkX9_bound 12 rfl) hl (by decide) rfl (fun ls hl => ?_)
          refine lv_aload_n hx hb (dk_at dkX9_bound 13 rfl) rfl (lv_at hl 1 rfl) ?_
          refine va_get (D := (dC, dI)) (ci := 9) (v := .ref sa) (C := RX9) (T := TX9) (N := 6) hx hb hts (fun w h => List.mem_cons_of_mem _ (jnGA_X9 w h)) hown hK hP 0 rfl rfl 2 (by decide) (hts _ (List.mem_cons_of_mem _ mGA_113)) (fun _ h9 => h9) rfl (dk_at dkX9_bound 14 rfl) ?_
          refine lv_iload_n hx hb (dk_at dkX9_bound 15 rfl) rfl (lv_at hl 2 rfl) ?_
          refine lv_iload hx hb (dk_at dkX9_bound 16 rfl) (lv_at hl 0 rfl) ?_
          have hPc := hP.sub (ws' := []) [] rfl
          have hKc := hK.sub (tys' := []) [] rfl
          refine va_calli (va_runSN (As := [.int p0, .int v3]) (rest := [.ref sa]) ⟨hx, hb, hml, hown, hts⟩ (sX11_cell l dC dI p0 v3 gp0 g_337) (⟨va_cnB 2 hts (gz_gP mGA_585 goodGA) rfl rfl rfl (nzA_X9_92 hz) (hts _ (List.mem_cons_of_mem _ mGA_1)) hdS_X11_cell_X11_2.2 ⟨Nat.le_trans (Nat.le_of_ble_eq_true rfl) hRf, Nat.le_trans (Nat.le_of_ble_eq_true rfl) hRl⟩, (hts _ (List.mem_cons_of_mem _ mGA_584)), trivial⟩) ⟨bl_I (bl_a bl_P (bl_a bl_K bl_nz)), fun U hU hW => ⟨rfl, by rw [hU]; exact hPc, va_K.moved hW.alike hKc, nzA_warm hW hz⟩⟩ rfl rfl hl.1 rfl (lv_room (Nat.le_of_ble_eq_true rfl)) (dk_at dkX9_bound 17 rfl) ⟨hRc, hRs⟩) hS (fun q _ h => h.elim) (fun q h => h.elim) (fun r_340 u t H1 locs ht hvm hw hB hz1 hk1 hS => ?_)
          obtain ⟨hw, hE⟩ := hw
          have hP := gz_keep hP hk1
          have hF := gf_call (a := r_340) hE hF
          generalize H1 = H at hP hS ⊢
          have gr_340 : gi r_340 0 324 := hw
          refine va_iald hx hb hK hP 1 0 rfl rfl (gi_in gr_340 (by decide)) (dk_at dkX9_bound 18 rfl) ?_
          refine lv_topi (fun x_341 ex_341 => ?_)
          refine lv_if_le (tgt := 41) hx hb (dk_at dkX9_bound 19 rfl) (by decide) (fun c_342 => ?_) (fun c_342 => ?_)
          · have hF := gf_pos (by rw [ex_341] at c_342; exact c_342) hF
            have g_343 : gi x_341 (-2147483648) 0 := gi_le_l c_342 (gi_any x_341) (gi_c 0 0 (by decide))
            obtain ⟨x_344, ex_344⟩ : ∃ y : Int32, y = v3 + 1 := ⟨_, rfl⟩
            have gx_344 : gi x_344 1 25 := gi_add ex_344 g_337 (gi_c 1 1 (by decide)) (by decide)
            refine lv_iinc (v := x_344) (lv' := [(3, .int x_344), (4, .int v3), (0, .ref h0), (1, .int p0), (2, .int p1)]) hx hb (dk_at dkX9_bound 24 rfl) hl (k := 4) rfl (by rw [ex_344]; rfl) (by decide) rfl (fun ls hl => ?_)
            refine lv_goto (tgt := 2) hx hb (dk_at dkX9_bound 25 rfl) (by decide) ?_
            exact ih x_344 _ _ _ (gi_w gx_344 (by decide)) (by first | (rw [ex_344]; exact hF) | ((try rw [ex_344]); exact hF)) (by have av3 := gv3.1; have bv3 := gv3.2; have qgx_344 := gx_344.1; have rgx_344 := gx_344.2; have igx_344 : x_344.toInt = v3.toInt + 1 := (by have hc1 : (1 : Int32).toInt = 1 := (by decide); have h9 := gi_addE ex_344 g_337 (gi_c 1 1 (by decide)) (by decide); rw [hc1] at h9; exact h9); have qgv3 := g_337.1; have rgv3 := g_337.2; omega) hP hS (lv_sub hl [2, 3, 4, 0] rfl)
          · have hF := gf_neg (by rw [ex_341] at c_342; exact c_342) hF
            have g_345 : gi x_341 1 2147483647 := gi_lt_r (Int32.not_le.mp c_342) (gi_c 0 0 (by decide)) (gi_any x_341) (by decide)
            refine lv_iload_n hx hb (dk_at dkX9_bound 20 rfl) rfl (lv_at hl 2 rfl) ?_
            refine lv_iload hx hb (dk_at dkX9_bound 21 rfl) (lv_at hl 0 rfl) ?_
            have hPc := hP.sub (ws' := []) [] rfl
            have hKc := hK.sub (tys' := []) [] rfl
            refine va_calli (va_runSN (As := [.int p0, .int v3]) (rest := []) ⟨hx, hb, hml, hown, hts⟩ (sX11_dayOf l dC dI p0 v3) (⟨va_cnB 2 hts (gz_gP mGA_516 goodGA) rfl rfl rfl (nzA_X9_95 hz) (hts _ (List.mem_cons_of_mem _ mGA_1)) hdS_X11_dayOf_X11_2.2 ⟨Nat.le_trans (Nat.le_of_ble_eq_true rfl) hRf, Nat.le_trans (Nat.le_of_ble_eq_true rfl) hRl⟩, (hts _ (List.mem_cons_of_mem _ mGA_515)), trivial⟩) ⟨bl_I (bl_a bl_P (bl_a bl_K bl_nz)), fun U hU hW => ⟨rfl, by rw [hU]; exact hPc, va_K.moved hW.alike hKc, nzA_warm hW hz⟩⟩ rfl rfl hl.1 rfl (lv_room (Nat.le_of_ble_eq_true rfl)) (dk_at dkX9_bound 22 rfl) ⟨hRc, hRs⟩) hS (fun q _ h => h.elim) (fun q h => h.elim) (fun r_346 u t H1 locs ht hvm hw hB hz1 hk1 hS => ?_)
            obtain ⟨hw, hE⟩ := hw
            have hP := gz_keep hP hk1
            have hF := gf_call (a := r_346) hE hF
            generalize H1 = H at hP hS ⊢
            exact kr40 r_346 _ _ _ hF hP hS (lv_sub hl [] rfl)
        · have hF := gf_neg c_338 hF
          have g_347 : gi p1 1 1 := gi_ne_lo c_338 gp1 (gi_c 0 0 (by decide)) (by decide)
          refine lv_iload_n hx hb (dk_at dkX9_bound 7 rfl) rfl (lv_at hl 1 rfl) ?_
          refine lv_iload_n hx hb (dk_at dkX9_bound 8 rfl) rfl (lv_at hl 3 rfl) ?_
          refine lv_isub hx hb (dk_at dkX9_bound 9 rfl) ?_
          refine lv_topi (fun x_348 ex_348 => ?_)
          have gx_348 : gi x_348 0 24 := gi_subrel ex_348 (Int32.le_iff_toInt_le.mp (Int32.not_lt.mp c_335)) gp0 g_337 (by decide)
          refine lv_goto (tgt := 18) hx hb (dk_at dkX9_bound 10 rfl) (by decide) ?_
          refine lv_istore (lv' := [(4, .int x_348), (0, .ref h0), (1, .int p0), (2, .int p1), (3, .int v3)]) hx hb (dk_at dkX9_bound 12 rfl) hl (by decide) rfl (fun ls hl => ?_)
          refine lv_aload_n hx hb (dk_at dkX9_bound 13 rfl) rfl (lv_at hl 1 rfl) ?_
          refine va_get (D := (dC, dI)) (ci := 9) (v := .ref sa) (C := RX9) (T := TX9) (N := 6) hx hb hts (fun w h => List.mem_cons_of_mem _ (jnGA_X9 w h)) hown hK hP 0 rfl rfl 2 (by decide) (hts _ (List.mem_cons_of_mem _ mGA_113)) (fun _ h9 => h9) rfl (dk_at dkX9_bound 14 rfl) ?_
          refine lv_iload_n hx hb (dk_at dkX9_bound 15 rfl) rfl (lv_at hl 2 rfl) ?_
          refine lv_iload hx hb (dk_at dkX9_bound 16 rfl) (lv_at hl 0 rfl) ?_
          have hPc := hP.sub (ws' := []) [] rfl
          have hKc := hK.sub (tys' := []) [] rfl
          refine va_calli (va_runSN (As := [.int p0, .int x_348]) (rest := [.ref sa]) ⟨hx, hb, hml, hown, hts⟩ (sX11_cell l dC dI p0 x_348 gp0 gx_348) (⟨va_cnB 2 hts (gz_gP mGA_585 goodGA) rfl rfl rfl (nzA_X9_92 hz) (hts _ (List.mem_cons_of_mem _ mGA_1)) hdS_X11_cell_X11_2.2 ⟨Nat.le_trans (Nat.le_of_ble_eq_true rfl) hRf, Nat.le_trans (Nat.le_of_ble_eq_true rfl) hRl⟩, (hts _ (List.mem_cons_of_mem _ mGA_584)), trivial⟩) ⟨bl_I (bl_a bl_P (bl_a bl_K bl_nz)), fun U hU hW => ⟨rfl, by rw [hU]; exact hPc, va_K.moved hW.alike hKc, nzA_warm hW hz⟩⟩ rfl rfl hl.1 rfl (lv_room (Nat.le_of_ble_eq_true rfl)) (dk_at dkX9_bound 17 rfl) ⟨hRc, hRs⟩) hS (fun q _ h => h.elim) (fun q h => h.elim) (fun r_349 u t H1 locs ht hvm hw hB hz1 hk1 hS => ?_)
          obtain ⟨hw, hE⟩ := hw
          have hP := gz_keep hP hk1
          have hF := gf_call (a := r_349) (by rw [ex_348] at hE; exact hE) hF
          generalize H1 = H at hP hS ⊢
          have gr_349 : gi r_349 0 324 := hw
          refine va_iald hx hb hK hP 1 0 rfl rfl (gi_in gr_349 (by decide)) (dk_at dkX9_bound 18 rfl) ?_
          refine lv_topi (fun x_350 ex_350 => ?_)
          refine lv_if_le (tgt := 41) hx hb (dk_at dkX9_bound 19 rfl) (by decide) (fun c_351 => ?_) (fun c_351 => ?_)
          · have hF := gf_pos (by rw [ex_350] at c_351; exact c_351) hF
            have g_352 : gi x_350 (-2147483648) 0 := gi_le_l c_351 (gi_any x_350) (gi_c 0 0 (by decide))
            obtain ⟨x_353, ex_353⟩ : ∃ y : Int32, y = v3 + 1 := ⟨_, rfl⟩
            have gx_353 : gi x_353 1 25 := gi_add ex_353 g_337 (gi_c 1 1 (by decide)) (by decide)
            refine lv_iinc (v := x_353) (lv' := [(3, .int x_353), (4, .int x_348), (0, .ref h0), (1, .int p0), (2, .int p1)]) hx hb (dk_at dkX9_bound 24 rfl) hl (k := 4) rfl (by rw [ex_353]; rfl) (by decide) rfl (fun ls hl => ?_)
            refine lv_goto (tgt := 2) hx hb (dk_at dkX9_bound 25 rfl) (by decide) ?_
            exact ih x_353 _ _ _ (gi_w gx_353 (by decide)) (by first | (rw [ex_353]; exact hF) | ((try rw [ex_353]); exact hF)) (by have av3 := gv3.1; have bv3 := gv3.2; have qgx_353 := gx_353.1; have rgx_353 := gx_353.2; have igx_353 : x_353.toInt = v3.toInt + 1 := (by have hc1 : (1 : Int32).toInt = 1 := (by decide); have h9 := gi_addE ex_353 g_337 (gi_c 1 1 (by decide)) (by decide); rw [hc1] at h9; exact h9); have qgv3 := g_337.1; have rgv3 := g_337.2; omega) hP hS (lv_sub hl [2, 3, 4, 0] rfl)
          · have hF := gf_neg (by rw [ex_350] at c_351; exact c_351) hF
            have g_354 : gi x_350 1 2147483647 := gi_lt_r (Int32.not_le.mp c_351) (gi_c 0 0 (by decide)) (gi_any x_350) (by decide)
            refine lv_iload_n hx hb (dk_at dkX9_bound 20 rfl) rfl (lv_at hl 2 rfl) ?_
            refine lv_iload hx hb (dk_at dkX9_bound 21 rfl) (lv_at hl 0 rfl) ?_
            have hPc := hP.sub (ws' := []) [] rfl
            have hKc := hK.sub (tys' := []) [] rfl
            refine va_calli (va_runSN (As := [.int p0, .int x_348]) (rest := []) ⟨hx, hb, hml, hown, hts⟩ (sX11_dayOf l dC dI p0 x_348) (⟨va_cnB 2 hts (gz_gP mGA_516 goodGA) rfl rfl rfl (nzA_X9_95 hz) (hts _ (List.mem_cons_of_mem _ mGA_1)) hdS_X11_dayOf_X11_2.2 ⟨Nat.le_trans (Nat.le_of_ble_eq_true rfl) hRf, Nat.le_trans (Nat.le_of_ble_eq_true rfl) hRl⟩, (hts _ (List.mem_cons_of_mem _ mGA_515)), trivial⟩) ⟨bl_I (bl_a bl_P (bl_a bl_K bl_nz)), fun U hU hW => ⟨rfl, by rw [hU]; exact hPc, va_K.moved hW.alike hKc, nzA_warm hW hz⟩⟩ rfl rfl hl.1 rfl (lv_room (Nat.le_of_ble_eq_true rfl)) (dk_at dkX9_bound 22 rfl) ⟨hRc, hRs⟩) hS (fun q _ h => h.elim) (fun q h => h.elim) (fun r_355 u t H1 locs ht hvm hw hB hz1 hk1 hS => ?_)
            obtain ⟨hw, hE⟩ := hw
            have hP := gz_keep hP hk1
            have hF := gf_call (a := r_355) (by rw [ex_348] at hE; exact hE) hF
            generalize H1 = H at hP hS ⊢
            exact kr40 r_355 _ _ _ hF hP hS (lv_sub hl [] rfl)
set_option maxHeartbeats 4000000 in
set_option maxRecDepth 100000 in
theorem sX9_bound (l : Launch) (dC : Nat → ClassId) (dI : Nat → Nat → Nat) (h0 : Nat) (sa : Nat) (bf : Nat) (bh : Nat) (months : Int32) (full : Int32) (lean : Int32) (ksa : ClassId) (fsa : Nat → Int32) (p0 : Int32) (p1 : Int32) (gmonths : gi months 0 24) (gfull : gi full 0 5) (glean : gi lean 0 5) (gp0 : gi p0 0 24) (gp1 : gi p1 0 1) : Met l yX9_bound (.code yX9_bound cX9_bound 5 (some .int) :: wsGA) ({ frames := 1, cells := 0, slots := 0, locals := 21 }) (va_Pc [.ref h0, .int p0, .int p1] (fun U => va_P (dC, dI) vwCl [(h0, .inr (9, [.ref bf, .ref bh, .ref sa, .int months, .int full, .int lean])), (sa, .inl (ksa, 325, .inl fsa))] U.heap ∧ va_K (dC, dI) vwCl [(ksa, .int)] U ∧ nzA U)) (va_Qi (fun (r : Int32) (u : Unit) => (gi r (-2147483648) 2147483647) ∧ r = fX9_bound fsa p0 p1) (fun _ _ => True) (fun _ => False)) 0 0 (fun _ => False) := by
  refine Met.ofW (cc := cX9_bound) (maxL := 5) (ret := (some .int)) (by decide) rfl ?_
  intro p e s m args below meth c s₁ B hml hv
  obtain ⟨rfl, hP, hK, hz⟩ := hv
  have hx := B.exec
  have hb := B.bytes
  have hr := B.returns
  have hts := atoms_spec (ws := (.code yX9_bound cX9_bound 5 (some .int) :: wsGA)) B.pre
  have hown : s.vm.findClass RX9 = some m.cls := findClass_of_methodNamed B.named
  have hlocks := B.notSynchronized
  have hS : va_S (fun _ => False) s.heap s.heap [] := va_S.rf
  have hl := lv_entry ([.ref h0, .int p0, .int p1]) (n := 5) (Nat.le_of_ble_eq_true rfl)
  rw [lg_entry_eq]
  generalize (lg_sl ([.ref h0, .int p0, .int p1]) ++ List.replicate (5 - (lg_sl ([.ref h0, .int p0, .int p1])).length) Slot.unset).toArray = ls at hl ⊢
  have hl : lv_has ls 5 [(0, .ref h0), (1, .int p0), (2, .int p1)] := hl
  obtain ⟨RES, hF⟩ : ∃ R9, fX9_bound fsa p0 p1 = R9 := ⟨_, rfl⟩
  have hR9 := hF
  refine lv_iconst (v := 0) hx hb (dk_at dkX9_bound 0 rfl) (by decide) ?_
  refine lv_istore_n (lv' := [(3, .int 0), (0, .ref h0), (1, .int p0), (2, .int p1)]) hx hb (dk_at dkX9_bound 1 rfl) rfl hl (by decide) rfl (fun ls hl => ?_)
  refine (lp_sX9_bound h0 sa bf bh months full lean ksa fsa p0 p1 gmonths gfull glean gp0 gp1 hx hb hml hown hts hK hz (Nat.le_of_ble_eq_true rfl) (Nat.le_of_ble_eq_true rfl) (Nat.zero_le _) (Nat.zero_le _) (fun v H locs ls gv hF hP hS hl => ?_) (fun v H locs ls hF hP hS hl => ?_) 1000000000) 0 _ _ _ (gi_w (gi_c 0 0 (by decide)) (by decide)) hF (by have k0 : (0 : Int32).toInt = 0 := (by decide); omega) hP hS (lv_sub hl [1, 2, 3, 0] rfl)
  · skip
    exact W.iret (v := v) hx hb hr (fun t ht hW => ⟨⟨v, (), rfl, ⟨(gi_any v), hF.trans hR9.symm⟩, trivial⟩, hS.F ht⟩) hS.2.2 (dk_at dkX9_bound 27 rfl)
  · skip
    exact W.iret (v := v) hx hb hr (fun t ht hW => ⟨⟨v, (), rfl, ⟨(gi_any v), hF.trans hR9.symm⟩, trivial⟩, hS.F ht⟩) hS.2.2 (dk_at dkX9_bound 23 rfl)
noncomputable def lsX9_mostLeft : List (Nat × Instr × Nat) := [(0, .iconst 0, 1), (1, .istore_n 2, 1), (2, .iconst 0, 1), (3, .istore_n 3, 1), (4, .iload_n 3, 1), (5, .iload_n 1, 1), (6, .if_icmp .gt 24, 3), (9, .iload_n 2, 1), (10, .aload_n 0, 1), (11, .getfield 18, 3), (14, .iload_n 1, 1), (15, .iload_n 3, 1), (16, .invokestatic 92, 3), (19, .iaload, 1), (20, .invokestatic 98, 3), (23, .istore_n 2, 1), (24, .iinc 3 1, 3), (27, .goto (-23), 3), (30, .iload_n 2, 1), (31, .ireturn, 1)]
theorem dkX9_mostLeft : dkAll cX9_mostLeft lsX9_mostLeft = true := dk_fast (by decide +kernel)
noncomputable def dfX9_mostLeft_4 (fsa : Nat → Int32) (p0 : Int32) (K : (Int32 → Int32 → Int32)) (v2 : Int32) (v3 : Int32) : Int32 := if p0 < v3 then v2 else (cal (fun o1 => K (if v2 < (fsa o1.toNatClampNeg) then (fsa o1.toNatClampNeg) else v2) (v3 + (1 : Int32))) (fX11_cell p0 v3))
noncomputable def lfX9_mostLeft (fsa : Nat → Int32) (p0 : Int32) (z : Nat) : (Int32 → Int32 → Int32) := Nat.rec (motive := fun _ => (Int32 → Int32 → Int32)) (fun _ _ => (0)) (fun _ K => dfX9_mostLeft_4 fsa p0 K) z
noncomputable def fX9_mostLeft (fsa : Nat → Int32) (p0 : Int32) : Int32 := (lfX9_mostLeft fsa p0 1000000000) (0 : Int32) (0 : Int32)
set_option maxHeartbeats 4000000 in
set_option maxRecDepth 100000 in
theorem lp_sX9_mostLeft {p : Program} {l : Launch} {e : Env} {R : Room} {s : State} {m : MethodId} {args : Array Value} {below : List Frame} {meth : Method} {c : Code} {Q : State → Prop} {A : Nat → Prop} {cells slots : Nat} {dC : Nat → ClassId} {dI : Nat → Nat → Nat} {RES : Int32} (h0 : Nat) (sa : Nat) (bf : Nat) (bh : Nat) (months : Int32) (full : Int32) (lean : Int32) (ksa : ClassId) (fsa : Nat → Int32) (p0 : Int32) (gmonths : gi months 0 24) (gfull : gi full 0 5) (glean : gi lean 0 5) (gp0 : gi p0 0 24) (hx : p.tables.exec = Jvm.exec) (hb : c.code = cX9_mostLeft) (hml : c.maxLocals = 4) (hown : s.vm.findClass RX9 = some m.cls) (hts : ∀ w ∈ ((.code yX9_mostLeft cX9_mostLeft 4 (some .int) :: wsGA) : List Cond), w.before args s = true) (hK : va_K (dC, dI) vwCl [(ksa, .int)] s) (hz : nzA s) (hRf : 1 ≤ R.frames) (hRl : 21 ≤ R.locals) (hRc : cells ≤ R.cells) (hRs : slots ≤ R.slots) (kr31 : ∀ (v : Int32) (H : Heap) (locs : List Loc) (ls : Array Slot), gi v 0 2147483647 → v = RES → va_P (dC, dI) vwCl [(h0, .inr (9, [.ref bf, .ref bh, .ref sa, .int months, .int full, .int lean])), (sa, .inl (ksa, 325, .inl fsa))] H → va_S A s.heap H locs → lv_has ls 4 [] → W p l e R s m args below meth c H locs cells slots Q (F0 m 31 ls [.int v])) : ∀ z : Nat, (∀ (v2 : Int32) (v3 : Int32) (H : Heap) (locs : List Loc) (ls : Array Slot), gi v2 0 2147483647 → gi v3 0 25 → (lfX9_mostLeft fsa p0 z) v2 v3 = RES → 51 + (-2) * v3.toInt < (z : Int) → va_P (dC, dI) vwCl [(h0, .inr (9, [.ref bf, .ref bh, .ref sa, .int months, .int full, .int lean])), (sa, .inl (ksa, 325, .inl fsa))] H → va_S A s.heap H locs → lv_has ls 4 [(0, .ref h0), (1, .int p0), (2, .int v2), (3, .int v3)] → W p l e R s m args below meth c H locs cells slots Q (F0 m 4 ls [])) := by
  intro z
  induction z with
  | zero =>
    intro v2 v3 H locs ls gv2 gv3 hF hmu hP hS hl
    exact absurd hmu (by have hv31 := gv3.1; have hv32 := gv3.2; omega)
  | succ z ih =>
      intro v2 v3 H locs ls gv2 gv3 hF hmu hP hS hl
      have hF : dfX9_mostLeft_4 fsa p0 (lfX9_mostLeft fsa p0 z) v2 v3 = RES := hF
      refine lv_iload_n hx hb (dk_at dkX9_mostLeft 4 rfl) rfl (lv_at hl 3 rfl) ?_
      refine lv_iload_n hx hb (dk_at dkX9_mostLeft 5 rfl) rfl (lv_at hl 1 rfl) ?_
      refine lv_icmp_gt (tgt := 30) hx hb (dk_at dkX9_mostLeft 6 rfl) (by decide) (fun c_111 => ?_) (fun c_111 => ?_)
      · have hF := gf_pos c_111 hF
        have g_112 : gi v3 1 25 := gi_lt_r c_111 gp0 gv3 (by decide)
        refine lv_iload_n hx hb (dk_at dkX9_mostLeft 18 rfl) rfl (lv_at hl 2 rfl) ?_
        exact kr31 v2 _ _ _ gv2 hF hP hS (lv_sub hl [] rfl)
      · have hF := gf_neg c_111 hF
        have g_113 : gi v3 0 24 := gi_le_l (Int32.not_lt.mp c_111) gv3 gp0
        refine lv_iload_n hx hb (dk_at dkX9_mostLeft 7 rfl) rfl (lv_at hl 2 rfl) ?_
        refine lv_aload_n hx hb (dk_at dkX9_mostLeft 8 rfl) rfl (lv_at hl 0 rfl) ?_
        refine va_get (D := (dC, dI)) (ci := 9) (v := .ref sa) (C := RX9) (T := TX9) (N := 6) hx hb hts (fun w h => List.mem_cons_of_mem _ (jnGA_X9 w h)) hown hK hP 0 rfl rfl 2 (by decide) (hts _ (List.mem_cons_of_mem _ mGA_113)) (fun _ h9 => h9) rfl (dk_at dkX9_mostLeft 9 rfl) ?_
        refine lv_iload_n hx hb (dk_at dkX9_mostLeft 10 rfl) rfl (lv_at hl 1 rfl) ?_
        refine lv_iload_n hx hb (dk_at dkX9_mostLeft 11 rfl) rfl (lv_at hl 3 rfl) ?_
        have hPc := hP.sub (ws' := []) [] rfl
        have hKc := hK.sub (tys' := []) [] rfl
        refine va_calli (va_runSN (As := [.int p0, .int v3]) (rest := [.ref sa, .int v2]) ⟨hx, hb, hml, hown, hts⟩ (sX11_cell l dC dI p0 v3 gp0 g_113) (⟨va_cnB 2 hts (gz_gP mGA_585 goodGA) rfl rfl rfl (nzA_X9_92 hz) (hts _ (List.mem_cons_of_mem _ mGA_1)) hdS_X11_cell_X11_2.2 ⟨Nat.le_trans (Nat.le_of_ble_eq_true rfl) hRf, Nat.le_trans (Nat.le_of_ble_eq_true rfl) hRl⟩, (hts _ (List.mem_cons_of_mem _ mGA_584)), trivial⟩) ⟨bl_I (bl_a bl_P (bl_a bl_K bl_nz)), fun U hU hW => ⟨rfl, by rw [hU]; exact hPc, va_K.moved hW.alike hKc, nzA_warm hW hz⟩⟩ rfl rfl hl.1 rfl (lv_room (Nat.le_of_ble_eq_true rfl)) (dk_at dkX9_mostLeft 12 rfl) ⟨hRc, hRs⟩) hS (fun q _ h => h.elim) (fun q h => h.elim) (fun r_114 u t H1 locs ht hvm hw hB hz1 hk1 hS => ?_)
        obtain ⟨hw, hE⟩ := hw
        have hP := gz_keep hP hk1
        have hF := gf_call (a := r_114) hE hF
        generalize H1 = H at hP hS ⊢
        have gr_114 : gi r_114 0 324 := hw
        refine va_iald hx hb hK hP 1 0 rfl rfl (gi_in gr_114 (by decide)) (dk_at dkX9_mostLeft 13 rfl) ?_
        refine lv_topi (fun x_115 ex_115 => ?_)
        refine va_mmax (own := RX9) hx hb (by rw [hml]; exact hl.1.symm) hown (hts _ (List.mem_cons_of_mem _ mGA_843)) (hts _ (List.mem_cons_of_mem _ mGA_344)) (hts _ (List.mem_cons_of_mem _ mGA_269)) (hts _ (List.mem_cons_of_mem _ mGA_345)) (Nat.le_trans (Nat.le_of_ble_eq_true rfl) hRf) (Nat.le_trans (Nat.le_of_ble_eq_true rfl) hRl) hRc hRs (dk_at dkX9_mostLeft 14 rfl) ?_
        refine lv_topi (fun x_116 ex_116 => ?_)
        have gx_116 : gi x_116 0 2147483647 := gi_max ex_116 gv2 (gi_any x_115) (by decide)
        refine lv_istore_n (lv' := [(2, .int x_116), (0, .ref h0), (1, .int p0), (3, .int v3)]) hx hb (dk_at dkX9_mostLeft 15 rfl) rfl hl (by decide) rfl (fun ls hl => ?_)
        obtain ⟨x_117, ex_117⟩ : ∃ y : Int32, y = v3 + 1 := ⟨_, rfl⟩
        have gx_117 : gi x_117 1 25 := gi_add ex_117 g_113 (gi_c 1 1 (by decide)) (by decide)
        refine lv_iinc (v := x_117) (lv' := [(3, .int x_117), (2, .int x_116), (0, .ref h0), (1, .int p0)]) hx hb (dk_at dkX9_mostLeft 16 rfl) hl (k := 3) rfl (by rw [ex_117]; rfl) (by decide) rfl (fun ls hl => ?_)
        refine lv_goto (tgt := 4) hx hb (dk_at dkX9_mostLeft 17 rfl) (by decide) ?_
        exact ih x_116 x_117 _ _ _ gx_116 (gi_w gx_117 (by decide)) (by first | (rw [ex_117, ex_116, ex_115]; exact hF) | ((try rw [ex_117]); (try rw [ex_116]); (try rw [ex_115]); exact hF)) (by have av3 := gv3.1; have bv3 := gv3.2; have qgx_117 := gx_117.1; have rgx_117 := gx_117.2; have igx_117 : x_117.toInt = v3.toInt + 1 := (by have hc1 : (1 : Int32).toInt = 1 := (by decide); have h9 := gi_addE ex_117 g_113 (gi_c 1 1 (by decide)) (by decide); rw [hc1] at h9; exact h9); have qgv3 := g_113.1; have rgv3 := g_113.2; omega) hP hS (lv_sub hl [2, 3, 1, 0] rfl)
set_option maxHeartbeats 4000000 in
set_option maxRecDepth 100000 in
theorem sX9_mostLeft (l : Launch) (dC : Nat → ClassId) (dI : Nat → Nat → Nat) (h0 : Nat) (sa : Nat) (bf : Nat) (bh : Nat) (months : Int32) (full : Int32) (lean : Int32) (ksa : ClassId) (fsa : Nat → Int32) (p0 : Int32) (gmonths : gi months 0 24) (gfull : gi full 0 5) (glean : gi lean 0 5) (gp0 : gi p0 0 24) : Met l yX9_mostLeft (.code yX9_mostLeft cX9_mostLeft 4 (some .int) :: wsGA) ({ frames := 1, cells := 0, slots := 0, locals := 21 }) (va_Pc [.ref h0, .int p0] (fun U => va_P (dC, dI) vwCl [(h0, .inr (9, [.ref bf, .ref bh, .ref sa, .int months, .int full, .int lean])), (sa, .inl (ksa, 325, .inl fsa))] U.heap ∧ va_K (dC, dI) vwCl [(ksa, .int)] U ∧ nzA U)) (va_Qi (fun (r : Int32) (u : Unit) => (gi r 0 2147483647) ∧ r = fX9_mostLeft fsa p0) (fun _ _ => True) (fun _ => False)) 0 0 (fun _ => False) := by
  refine Met.ofW (cc := cX9_mostLeft) (maxL := 4) (ret := (some .int)) (by decide) rfl ?_
  intro p e s m args below meth c s₁ B hml hv
  obtain ⟨rfl, hP, hK, hz⟩ := hv
  have hx := B.exec
  have hb := B.bytes
  have hr := B.returns
  have hts := atoms_spec (ws := (.code yX9_mostLeft cX9_mostLeft 4 (some .int) :: wsGA)) B.pre
  have hown : s.vm.findClass RX9 = some m.cls := findClass_of_methodNamed B.named
  have hlocks := B.notSynchronized
  have hS : va_S (fun _ => False) s.heap s.heap [] := va_S.rf
  have hl := lv_entry ([.ref h0, .int p0]) (n := 4) (Nat.le_of_ble_eq_true rfl)
  rw [lg_entry_eq]
  generalize (lg_sl ([.ref h0, .int p0]) ++ List.replicate (4 - (lg_sl ([.ref h0, .int p0])).length) Slot.unset).toArray = ls at hl ⊢
  have hl : lv_has ls 4 [(0, .ref h0), (1, .int p0)] := hl
  obtain ⟨RES, hF⟩ : ∃ R9, fX9_mostLeft fsa p0 = R9 := ⟨_, rfl⟩
  have hR9 := hF
  refine lv_iconst (v := 0) hx hb (dk_at dkX9_mostLeft 0 rfl) (by decide) ?_
  refine lv_istore_n (lv' := [(2, .int 0), (0, .ref h0), (1, .int p0)]) hx hb (dk_at dkX9_mostLeft 1 rfl) rfl hl (by decide) rfl (fun ls hl => ?_)
  refine lv_iconst (v := 0) hx hb (dk_at dkX9_mostLeft 2 rfl) (by decide) ?_
  refine lv_istore_n (lv' := [(3, .int 0), (2, .int 0), (0, .ref h0), (1, .int p0)]) hx hb (dk_at dkX9_mostLeft 3 rfl) rfl hl (by decide) rfl (fun ls hl => ?_)
  refine (lp_sX9_mostLeft h0 sa bf bh months full lean ksa fsa p0 gmonths gfull glean gp0 hx hb hml hown hts hK hz (Nat.le_of_ble_eq_true rfl) (Nat.le_of_ble_eq_true rfl) (Nat.zero_le _) (Nat.zero_le _) (fun v H locs ls gv hF hP hS hl => ?_) 1000000000) 0 0 _ _ _ (gi_w (gi_c 0 0 (by decide)) (by decide)) (gi_w (gi_c 0 0 (by decide)) (by decide)) hF (by have k0 : (0 : Int32).toInt = 0 := (by decide); omega) hP hS (lv_sub hl [2, 3, 1, 0] rfl)
  · skip
    exact W.iret (v := v) hx hb hr (fun t ht hW => ⟨⟨v, (), rfl, ⟨gv, hF.trans hR9.symm⟩, trivial⟩, hS.F ht⟩) hS.2.2 (dk_at dkX9_mostLeft 19 rfl)
noncomputable def lsX9_leanIn : List (Nat × Instr × Nat) := [(0, .iconst 0, 1), (1, .istore_n 2, 1), (2, .iconst 0, 1), (3, .istore_n 3, 1), (4, .iload_n 3, 1), (5, .iload_n 1, 1), (6, .if_icmp .gt 62, 3), (9, .iload_n 1, 1), (10, .invokestatic 67, 3), (13, .istore 4, 2), (15, .iload 4, 2), (17, .iload_n 1, 1), (18, .aload_n 0, 1), (19, .getfield 31, 3), (22, .aload_n 0, 1), (23, .getfield 35, 3), (26, .invokestatic 71, 3), (29, .if_icmp .gt 33, 3), (32, .iload_n 2, 1), (33, .aload_n 0, 1), (34, .getfield 9, 3), (37, .iload_n 1, 1), (38, .iload_n 3, 1), (39, .iload 4, 2), (41, .invokestatic 63, 3), (44, .iaload, 1), (45, .aload_n 0, 1), (46, .iload_n 1, 1), (47, .iload_n 3, 1), (48, .iload 4, 2), (50, .invokevirtual 89, 3), (53, .imul, 1), (54, .iadd, 1), (55, .istore_n 2, 1), (56, .iinc 4 1, 3), (59, .goto (-44), 3), (62, .iinc 3 1, 3), (65, .goto (-61), 3), (68, .iload_n 2, 1), (69, .ireturn, 1)]
theorem dkX9_leanIn : dkAll cX9_leanIn lsX9_leanIn = true := dk_fast (by decide +kernel)
noncomputable def dfX9_leanIn_4 (full : Int32) (lean : Int32) (fbf : Nat → Int32) (fbh : Nat → Int32) (p0 : Int32) (K : (Int32 → Int32 → Int32) × (Int32 → Int32 → Int32 → Int32)) (v2 : Int32) (v3 : Int32) : Int32 := if p0 < v3 then v2 else (cal (fun o1 => K.2 v2 v3 o1) (fX11_firstRun p0))
noncomputable def dfX9_leanIn_15 (full : Int32) (lean : Int32) (fbf : Nat → Int32) (fbh : Nat → Int32) (p0 : Int32) (K : (Int32 → Int32 → Int32) × (Int32 → Int32 → Int32 → Int32)) (v2 : Int32) (v3 : Int32) (v4 : Int32) : Int32 := cal (fun o2 => if o2 < v4 then (K.1 v2 (v3 + (1 : Int32))) else (cal (fun o3 => cal (fun o4 => K.2 (v2 + ((fbf o3.toNatClampNeg) * o4)) v3 (v4 + (1 : Int32))) (fX9_withLean full lean fbh p0 v3 v4)) (fX11_spot p0 v3 v4))) (fX11_lastRun p0 full lean)
noncomputable def lfX9_leanIn (full : Int32) (lean : Int32) (fbf : Nat → Int32) (fbh : Nat → Int32) (p0 : Int32) (z : Nat) : (Int32 → Int32 → Int32) × (Int32 → Int32 → Int32 → Int32) := Nat.rec (motive := fun _ => (Int32 → Int32 → Int32) × (Int32 → Int32 → Int32 → Int32)) ((fun _ _ => (0), fun _ _ _ => (0))) (fun _ K => (dfX9_leanIn_4 full lean fbf fbh p0 K, dfX9_leanIn_15 full lean fbf fbh p0 K)) z
noncomputable def fX9_leanIn (full : Int32) (lean : Int32) (fbf : Nat → Int32) (fbh : Nat → Int32) (p0 : Int32) : Int32 := (lfX9_leanIn full lean fbf fbh p0 1000000000).1 (0 : Int32) (0 : Int32)
set_option maxHeartbeats 4000000 in
set_option maxRecDepth 100000 in
theorem lp_sX9_leanIn {p : Program} {l : Launch} {e : Env} {R : Room} {s : State} {m : MethodId} {args : Array Value} {below : List Frame} {meth : Method} {c : Code} {Q : State → Prop} {A : Nat → Prop} {cells slots : Nat} {dC : Nat → ClassId} {dI : Nat → Nat → Nat} {RES : Int32} (h0 : Nat) (bf : Nat) (bh : Nat) (sa : Nat) (months : Int32) (full : Int32) (lean : Int32) (kbf : ClassId) (fbf : Nat → Int32) (kbh : ClassId) (fbh : Nat → Int32) (p0 : Int32) (gmonths : gi months 0 24) (gfull : gi full 0 5) (glean : gi lean 0 5) (gp0 : gi p0 0 23) (hx : p.tables.exec = Jvm.exec) (hb : c.code = cX9_leanIn) (hml : c.maxLocals = 5) (hown : s.vm.findClass RX9 = some m.cls) (hts : ∀ w ∈ ((.code yX9_leanIn cX9_leanIn 5 (some .int) :: wsGA) : List Cond), w.before args s = true) (hK : va_K (dC, dI) vwCl [(kbf, .int), (kbh, .int)] s) (hz : nzA s) (hRf : 3 ≤ R.frames) (hRl : 66 ≤ R.locals) (hRc : cells ≤ R.cells) (hRs : slots ≤ R.slots) (kr69 : ∀ (v : Int32) (H : Heap) (locs : List Loc) (ls : Array Slot), v = RES → va_P (dC, dI) vwCl [(h0, .inr (9, [.ref bf, .ref bh, .ref sa, .int months, .int full, .int lean])), (bf, .inl (kbf, 3575, .inl fbf)), (bh, .inl (kbh, 3575, .inl fbh))] H → va_S A s.heap H locs → lv_has ls 5 [] → W p l e R s m args below meth c H locs cells slots Q (F0 m 69 ls [.int v])) : ∀ z : Nat, (∀ (v2 : Int32) (v3 : Int32) (H : Heap) (locs : List Loc) (ls : Array Slot), gi v3 0 24 → (lfX9_leanIn full lean fbf fbh p0 z).1 v2 v3 = RES → 673 + (-28) * v3.toInt < (z : Int) → va_P (dC, dI) vwCl [(h0, .inr (9, [.ref bf, .ref bh, .ref sa, .int months, .int full, .int lean])), (bf, .inl (kbf, 3575, .inl fbf)), (bh, .inl (kbh, 3575, .inl fbh))] H → va_S A s.heap H locs → lv_has ls 5 [(0, .ref h0), (1, .int p0), (2, .int v2), (3, .int v3)] → W p l e R s m args below meth c H locs cells slots Q (F0 m 4 ls [])) ∧ (∀ (v2 : Int32) (v3 : Int32) (v4 : Int32) (H : Heap) (locs : List Loc) (ls : Array Slot), gi v3 0 23 → gi v4 0 11 → (lfX9_leanIn full lean fbf fbh p0 z).2 v2 v3 v4 = RES → 668 + (-28) * v3.toInt + (-2) * v4.toInt < (z : Int) → va_P (dC, dI) vwCl [(h0, .inr (9, [.ref bf, .ref bh, .ref sa, .int months, .int full, .int lean])), (bf, .inl (kbf, 3575, .inl fbf)), (bh, .inl (kbh, 3575, .inl fbh))] H → va_S A s.heap H locs → lv_has ls 5 [(0, .ref h0), (1, .int p0), (2, .int v2), (3, .int v3), (4, .int v4)] → W p l e R s m args below meth c H locs cells slots Q (F0 m 15 ls [])) := by
  intro z
  induction z with
  | zero =>
    refine ⟨?_, ?_⟩
    · intro v2 v3 H locs ls gv3 hF hmu hP hS hl
      exact absurd hmu (by have hv31 := gv3.1; have hv32 := gv3.2; omega)
    · intro v2 v3 v4 H locs ls gv3 gv4 hF hmu hP hS hl
      exact absurd hmu (by have hv31 := gv3.1; have hv32 := gv3.2; have hv41 := gv4.1; have hv42 := gv4.2; omega)
  | succ z ih =>
    refine ⟨?_, ?_⟩
    · intro v2 v3 H locs ls gv3 hF hmu hP hS hl
      have hF : dfX9_leanIn_4 full lean fbf fbh p0 (lfX9_leanIn full lean fbf fbh p0 z) v2 v3 = RES := hF
      refine lv_iload_n hx hb (dk_at dkX9_leanIn 4 rfl) rfl (lv_at hl 3 rfl) ?_
      refine lv_iload_n hx hb (dk_at dkX9_leanIn 5 rfl) rfl (lv_at hl 1 rfl) ?_
      refine lv_icmp_gt (tgt := 68) hx hb (dk_at dkX9_leanIn 6 rfl) (by decide) (fun c_224 => ?_) (fun c_224 => ?_)
      · have hF := gf_pos c_224 hF
        have g_225 : gi v3 1 24 := gi_lt_r c_224 gp0 gv3 (by decide)
        refine lv_iload_n hx hb (dk_at dkX9_leanIn 38 rfl) rfl (lv_at hl 2 rfl) ?_
        exact kr69 v2 _ _ _ hF hP hS (lv_sub hl [] rfl)
      · have hF := gf_neg c_224 hF
        have g_226 : gi v3 0 23 := gi_le_l (Int32.not_lt.mp c_224) gv3 gp0
        refine lv_iload_n hx hb (dk_at dkX9_leanIn 7 rfl) rfl (lv_at hl 1 rfl) ?_
        have hPc := hP.sub (ws' := []) [] rfl
        have hKc := hK.sub (tys' := []) [] rfl
        refine va_calli (va_runSN (As := [.int p0]) (rest := []) ⟨hx, hb, hml, hown, hts⟩ (sX11_firstRun l dC dI p0 (gi_w gp0 (by decide))) (⟨va_cnB 1 hts (gz_gP mGA_504 goodGA) rfl rfl rfl (nzA_X9_67 hz) (hts _ (List.mem_cons_of_mem _ mGA_1)) hdS_X11_firstRun_X11_1.2 ⟨Nat.le_trans (Nat.le_of_ble_eq_true rfl) hRf, Nat.le_trans (Nat.le_of_ble_eq_true rfl) hRl⟩, (hts _ (List.mem_cons_of_mem _ mGA_503)), trivial⟩) ⟨bl_I (bl_a bl_P (bl_a bl_K bl_nz)), fun U hU hW => ⟨rfl, by rw [hU]; exact hPc, va_K.moved hW.alike hKc, nzA_warm hW hz⟩⟩ rfl rfl hl.1 rfl (lv_room (Nat.le_of_ble_eq_true rfl)) (dk_at dkX9_leanIn 8 rfl) ⟨hRc, hRs⟩) hS (fun q _ h => h.elim) (fun q h => h.elim) (fun r_227 u t H1 locs ht hvm hw hB hz1 hk1 hS => ?_)
        obtain ⟨hw, hE⟩ := hw
        have hP := gz_keep hP hk1
        have hF := gf_call (a := r_227) hE hF
        generalize H1 = H at hP hS ⊢
        have gr_227 : gi r_227 0 1 := hw
        refine lv_istore (lv' := [(4, .int r_227), (0, .ref h0), (1, .int p0), (2, .int v2), (3, .int v3)]) hx hb (dk_at dkX9_leanIn 9 rfl) hl (by decide) rfl (fun ls hl => ?_)
        exact ih.2 v2 v3 r_227 _ _ _ g_226 (gi_w gr_227 (by decide)) hF (by have av3 := gv3.1; have bv3 := gv3.2; have qgv3 := g_226.1; have rgv3 := g_226.2; have qgr_227 := gr_227.1; have rgr_227 := gr_227.2; omega) hP hS (lv_sub hl [1, 2, 3, 4, 0] rfl)
    · intro v2 v3 v4 H locs ls gv3 gv4 hF hmu hP hS hl
      have hF : dfX9_leanIn_15 full lean fbf fbh p0 (lfX9_leanIn full lean fbf fbh p0 z) v2 v3 v4 = RES := hF
      refine lv_iload hx hb (dk_at dkX9_leanIn 10 rfl) (lv_at hl 4 rfl) ?_
      refine lv_iload_n hx hb (dk_at dkX9_leanIn 11 rfl) rfl (lv_at hl 1 rfl) ?_
      refine lv_aload_n hx hb (dk_at dkX9_leanIn 12 rfl) rfl (lv_at hl 0 rfl) ?_
      refine va_get (D := (dC, dI)) (ci := 9) (v := .int full) (C := RX9) (T := TX9) (N := 6) hx hb hts (fun w h => List.mem_cons_of_mem _ (jnGA_X9 w h)) hown hK hP 0 rfl rfl 4 (by decide) (hts _ (List.mem_cons_of_mem _ mGA_562)) (fun _ h9 => h9) rfl (dk_at dkX9_leanIn 13 rfl) ?_
      refine lv_aload_n hx hb (dk_at dkX9_leanIn 14 rfl) rfl (lv_at hl 0 rfl) ?_
      refine va_get (D := (dC, dI)) (ci := 9) (v := .int lean) (C := RX9) (T := TX9) (N := 6) hx hb hts (fun w h => List.mem_cons_of_mem _ (jnGA_X9 w h)) hown hK hP 0 rfl rfl 5 (by decide) (hts _ (List.mem_cons_of_mem _ mGA_564)) (fun _ h9 => h9) rfl (dk_at dkX9_leanIn 15 rfl) ?_
      have hPc := hP.sub (ws' := []) [] rfl
      have hKc := hK.sub (tys' := []) [] rfl
      refine va_calli (va_runSN (As := [.int p0, .int full, .int lean]) (rest := [.int v4]) ⟨hx, hb, hml, hown, hts⟩ (sX11_lastRun l dC dI p0 full lean (gi_w gp0 (by decide)) gfull glean) (⟨va_cnB 3 hts (gz_gP mGA_506 goodGA) rfl rfl rfl (nzA_X9_71 hz) (hts _ (List.mem_cons_of_mem _ mGA_1)) hdS_X11_lastRun_X11_3.2 ⟨Nat.le_trans (Nat.le_of_ble_eq_true rfl) hRf, Nat.le_trans (Nat.le_of_ble_eq_true rfl) hRl⟩, (hts _ (List.mem_cons_of_mem _ mGA_505)), trivial⟩) ⟨bl_I (bl_a bl_P (bl_a bl_K bl_nz)), fun U hU hW => ⟨rfl, by rw [hU]; exact hPc, va_K.moved hW.alike hKc, nzA_warm hW hz⟩⟩ rfl rfl hl.1 rfl (lv_room (Nat.le_of_ble_eq_true rfl)) (dk_at dkX9_leanIn 16 rfl) ⟨hRc, hRs⟩) hS (fun q _ h => h.elim) (fun q h => h.elim) (fun r_228 u t H1 locs ht hvm hw hB hz1 hk1 hS => ?_)
      obtain ⟨hw, hE⟩ := hw
      have hP := gz_keep hP hk1
      have hF := gf_call (a := r_228) hE hF
      generalize H1 = H at hP hS ⊢
      have gr_228 : gi r_228 0 10 := hw
      refine lv_icmp_gt (tgt := 62) hx hb (dk_at dkX9_leanIn 17 rfl) (by decide) (fun c_229 => ?_) (fun c_229 => ?_)
      · have hF := gf_pos c_229 hF
        have g_230 : gi v4 1 11 := gi_lt_r c_229 gr_228 gv4 (by decide)
        obtain ⟨x_231, ex_231⟩ : ∃ y : Int32, y = v3 + 1 := ⟨_, rfl⟩
        have gx_231 : gi x_231 1 24 := gi_add ex_231 gv3 (gi_c 1 1 (by decide)) (by decide)
        refine lv_iinc (v := x_231) (lv' := [(3, .int x_231), (0, .ref h0), (1, .int p0), (2, .int v2), (4, .int v4)]) hx hb (dk_at dkX9_leanIn 36 rfl) hl (k := 3) rfl (by rw [ex_231]; rfl) (by decide) rfl (fun ls hl => ?_)
        refine lv_goto (tgt := 4) hx hb (dk_at dkX9_leanIn 37 rfl) (by decide) ?_
        exact ih.1 v2 x_231 _ _ _ (gi_w gx_231 (by decide)) (by first | (rw [ex_231]; exact hF) | ((try rw [ex_231]); exact hF)) (by have av3 := gv3.1; have bv3 := gv3.2; have av4 := gv4.1; have bv4 := gv4.2; have qgx_231 := gx_231.1; have rgx_231 := gx_231.2; have igx_231 : x_231.toInt = v3.toInt + 1 := (by have hc1 : (1 : Int32).toInt = 1 := (by decide); have h9 := gi_addE ex_231 gv3 (gi_c 1 1 (by decide)) (by decide); rw [hc1] at h9; exact h9); have qgv3 := gv3.1; have rgv3 := gv3.2; omega) hP hS (lv_sub hl [1, 2, 3, 0] rfl)
      · have hF := gf_neg c_229 hF
        have g_232 : gi v4 0 10 := gi_le_l (Int32.not_lt.mp c_229) gv4 gr_228
        refine lv_iload_n hx hb (dk_at dkX9_leanIn 18 rfl) rfl (lv_at hl 2 rfl) ?_
        refine lv_aload_n hx hb (dk_at dkX9_leanIn 19 rfl) rfl (lv_at hl 0 rfl) ?_
        refine va_get (D := (dC, dI)) (ci := 9) (v := .ref bf) (C := RX9) (T := TX9) (N := 6) hx hb hts (fun w h => List.mem_cons_of_mem _ (jnGA_X9 w h)) hown hK hP 0 rfl rfl 0 (by decide) (hts _ (List.mem_cons_of_mem _ mGA_111)) (fun _ h9 => h9) rfl (dk_at dkX9_leanIn 20 rfl) ?_
        refine lv_iload_n hx hb (dk_at dkX9_leanIn 21 rfl) rfl (lv_at hl 1 rfl) ?_
        refine lv_iload_n hx hb (dk_at dkX9_leanIn 22 rfl) rfl (lv_at hl 3 rfl) ?_
        refine lv_iload hx hb (dk_at dkX9_leanIn 23 rfl) (lv_at hl 4 rfl) ?_
        have hPc := hP.sub (ws' := []) [] rfl
        have hKc := hK.sub (tys' := []) [] rfl
        refine va_calli (va_runSN (As := [.int p0, .int v3, .int v4]) (rest := [.ref bf, .int v2]) ⟨hx, hb, hml, hown, hts⟩ (sX11_spot l dC dI p0 v3 v4 (gi_w gp0 (by decide)) (gi_w gv3 (by decide)) g_232) (⟨va_cnB 3 hts (gz_gP mGA_582 goodGA) rfl rfl rfl (nzA_X9_63 hz) (hts _ (List.mem_cons_of_mem _ mGA_1)) hdS_X11_spot_X11_3.2 ⟨Nat.le_trans (Nat.le_of_ble_eq_true rfl) hRf, Nat.le_trans (Nat.le_of_ble_eq_true rfl) hRl⟩, (hts _ (List.mem_cons_of_mem _ mGA_581)), trivial⟩) ⟨bl_I (bl_a bl_P (bl_a bl_K bl_nz)), fun U hU hW => ⟨rfl, by rw [hU]; exact hPc, va_K.moved hW.alike hKc, nzA_warm hW hz⟩⟩ rfl rfl hl.1 rfl (lv_room (Nat.le_of_ble_eq_true rfl)) (dk_at dkX9_leanIn 24 rfl) ⟨hRc, hRs⟩) hS (fun q _ h => h.elim) (fun q h => h.elim) (fun r_233 u t H1 locs ht hvm hw hB hz1 hk1 hS => ?_)
        obtain ⟨hw, hE⟩ := hw
        have hP := gz_keep hP hk1
        have hF := gf_call (a := r_233) hE hF
        generalize H1 = H at hP hS ⊢
        have gr_233 : gi r_233 0 3574 := hw
        refine va_iald hx hb hK hP 1 0 rfl rfl (gi_in gr_233 (by decide)) (dk_at dkX9_leanIn 25 rfl) ?_
        refine lv_topi (fun x_234 ex_234 => ?_)
        refine lv_aload_n hx hb (dk_at dkX9_leanIn 26 rfl) rfl (lv_at hl 0 rfl) ?_
        refine lv_iload_n hx hb (dk_at dkX9_leanIn 27 rfl) rfl (lv_at hl 1 rfl) ?_
        refine lv_iload_n hx hb (dk_at dkX9_leanIn 28 rfl) rfl (lv_at hl 3 rfl) ?_
        refine lv_iload hx hb (dk_at dkX9_leanIn 29 rfl) (lv_at hl 4 rfl) ?_
        have hPc := hP.sub (ws' := [(h0, .inr (9, [.ref bf, .ref bh, .ref sa, .int months, .int full, .int lean])), (bh, .inl (kbh, 3575, .inl fbh))]) [0, 2] rfl
        have hKc := hK.sub (tys' := [(kbh, .int)]) [1] rfl
        refine va_calli (va_runV (As := [.int p0, .int v3, .int v4]) (rest := [.int x_234, .int v2]) ⟨hx, hb, hml, hown, hts⟩ (sX9_withLean l dC dI h0 bh bf sa months full lean kbh fbh p0 v3 v4 gmonths gfull glean gp0 (gi_w gv3 (by decide)) g_232) (cwV 3 hts (gz_gV mGA_599 mGA_600 mGA_601 mGA_27 mGA_602 goodGA) rfl rfl rfl hdV_X9_withLean_X9_3 ⟨Nat.le_trans (Nat.le_of_ble_eq_true rfl) hRf, Nat.le_trans (Nat.le_of_ble_eq_true rfl) hRl⟩) ⟨bl_I (bl_a bl_P (bl_a bl_K bl_nz)), va_recv hKc hPc (ci := 9) (q0 := 0) rfl rfl, fun U hU hW => ⟨rfl, by rw [hU]; exact hPc, va_K.moved hW.alike hKc, nzA_warm hW hz⟩⟩ rfl rfl hl.1 rfl (lv_room (Nat.le_of_ble_eq_true rfl)) (dk_at dkX9_leanIn 30 rfl) ⟨hRc, hRs⟩) hS (fun q _ h => h.elim) (fun q h => h.elim) (fun r_235 u t H1 locs ht hvm hw hB hz1 hk1 hS => ?_)
        obtain ⟨hw, hE⟩ := hw
        have hP := gz_keep hP hk1
        have hF := gf_call (a := r_235) hE hF
        generalize H1 = H at hP hS ⊢
        refine lv_imul hx hb (dk_at dkX9_leanIn 31 rfl) ?_
        refine lv_topi (fun x_236 ex_236 => ?_)
        refine lv_iadd hx hb (dk_at dkX9_leanIn 32 rfl) ?_
        refine lv_topi (fun x_237 ex_237 => ?_)
        refine lv_istore_n (lv' := [(2, .int x_237), (0, .ref h0), (1, .int p0), (3, .int v3), (4, .int v4)]) hx hb (dk_at dkX9_leanIn 33 rfl) rfl hl (by decide) rfl (fun ls hl => ?_)
        obtain ⟨x_238, ex_238⟩ : ∃ y : Int32, y = v4 + 1 := ⟨_, rfl⟩
        have gx_238 : gi x_238 1 11 := gi_add ex_238 g_232 (gi_c 1 1 (by decide)) (by decide)
        refine lv_iinc (v := x_238) (lv' := [(4, .int x_238), (2, .int x_237), (0, .ref h0), (1, .int p0), (3, .int v3)]) hx hb (dk_at dkX9_leanIn 34 rfl) hl (k := 4) rfl (by rw [ex_238]; rfl) (by decide) rfl (fun ls hl => ?_)
        refine lv_goto (tgt := 15) hx hb (dk_at dkX9_leanIn 35 rfl) (by decide) ?_
        exact ih.2 x_237 v3 x_238 _ _ _ gv3 (gi_w gx_238 (by decide)) (by first | (rw [ex_238, ex_237, ex_236, ex_234]; exact hF) | ((try rw [ex_238]); (try rw [ex_237]); (try rw [ex_236]); (try rw [ex_234]); exact hF)) (by have av3 := gv3.1; have bv3 := gv3.2; have av4 := gv4.1; have bv4 := gv4.2; have qgx_238 := gx_238.1; have rgx_238 := gx_238.2; have igx_238 : x_238.toInt = v4.toInt + 1 := (by have hc1 : (1 : Int32).toInt = 1 := (by decide); have h9 := gi_addE ex_238 g_232 (gi_c 1 1 (by decide)) (by decide); rw [hc1] at h9; exact h9); have qgv4 := g_232.1; have rgv4 := g_232.2; have qgv3 := gv3.1; have rgv3 := gv3.2; omega) hP hS (lv_sub hl [2, 3, 1, 4, 0] rfl)
set_option maxHeartbeats 4000000 in
set_option maxRecDepth 100000 in
theorem sX9_leanIn (l : Launch) (dC : Nat → ClassId) (dI : Nat → Nat → Nat) (h0 : Nat) (bf : Nat) (bh : Nat) (sa : Nat) (months : Int32) (full : Int32) (lean : Int32) (kbf : ClassId) (fbf : Nat → Int32) (kbh : ClassId) (fbh : Nat → Int32) (p0 : Int32) (gmonths : gi months 0 24) (gfull : gi full 0 5) (glean : gi lean 0 5) (gp0 : gi p0 0 23) : Met l yX9_leanIn (.code yX9_leanIn cX9_leanIn 5 (some .int) :: wsGA) ({ frames := 3, cells := 0, slots := 0, locals := 66 }) (va_Pc [.ref h0, .int p0] (fun U => va_P (dC, dI) vwCl [(h0, .inr (9, [.ref bf, .ref bh, .ref sa, .int months, .int full, .int lean])), (bf, .inl (kbf, 3575, .inl fbf)), (bh, .inl (kbh, 3575, .inl fbh))] U.heap ∧ va_K (dC, dI) vwCl [(kbf, .int), (kbh, .int)] U ∧ nzA U)) (va_Qi (fun (r : Int32) (u : Unit) => (gi r (-2147483648) 2147483647) ∧ r = fX9_leanIn full lean fbf fbh p0) (fun _ _ => True) (fun _ => False)) 0 0 (fun _ => False) := by
  refine Met.ofW (cc := cX9_leanIn) (maxL := 5) (ret := (some .int)) (by decide) rfl ?_
  intro p e s m args below meth c s₁ B hml hv
  obtain ⟨rfl, hP, hK, hz⟩ := hv
  have hx := B.exec
  have hb := B.bytes
  have hr := B.returns
  have hts := atoms_spec (ws := (.code yX9_leanIn cX9_leanIn 5 (some .int) :: wsGA)) B.pre
  have hown : s.vm.findClass RX9 = some m.cls := findClass_of_methodNamed B.named
  have hlocks := B.notSynchronized
  have hS : va_S (fun _ => False) s.heap s.heap [] := va_S.rf
  have hl := lv_entry ([.ref h0, .int p0]) (n := 5) (Nat.le_of_ble_eq_true rfl)
  rw [lg_entry_eq]
  generalize (lg_sl ([.ref h0, .int p0]) ++ List.replicate (5 - (lg_sl ([.ref h0, .int p0])).length) Slot.unset).toArray = ls at hl ⊢
  have hl : lv_has ls 5 [(0, .ref h0), (1, .int p0)] := hl
  obtain ⟨RES, hF⟩ : ∃ R9, fX9_leanIn full lean fbf fbh p0 = R9 := ⟨_, rfl⟩
  have hR9 := hF
  refine lv_iconst (v := 0) hx hb (dk_at dkX9_leanIn 0 rfl) (by decide) ?_
  refine lv_istore_n (lv' := [(2, .int 0), (0, .ref h0), (1, .int p0)]) hx hb (dk_at dkX9_leanIn 1 rfl) rfl hl (by decide) rfl (fun ls hl => ?_)
  refine lv_iconst (v := 0) hx hb (dk_at dkX9_leanIn 2 rfl) (by decide) ?_
  refine lv_istore_n (lv' := [(3, .int 0), (2, .int 0), (0, .ref h0), (1, .int p0)]) hx hb (dk_at dkX9_leanIn 3 rfl) rfl hl (by decide) rfl (fun ls hl => ?_)
  refine (lp_sX9_leanIn h0 bf bh sa months full lean kbf fbf kbh fbh p0 gmonths gfull glean gp0 hx hb hml hown hts hK hz (Nat.le_of_ble_eq_true rfl) (Nat.le_of_ble_eq_true rfl) (Nat.zero_le _) (Nat.zero_le _) (fun v H locs ls hF hP hS hl => ?_) 1000000000).1 0 0 _ _ _ (gi_w (gi_c 0 0 (by decide)) (by decide)) hF (by have k0 : (0 : Int32).toInt = 0 := (by decide); omega) hP hS (lv_sub hl [2, 3, 1, 0] rfl)
  · skip
    exact W.iret (v := v) hx hb hr (fun t ht hW => ⟨⟨v, (), rfl, ⟨(gi_any v), hF.trans hR9.symm⟩, trivial⟩, hS.F ht⟩) hS.2.2 (dk_at dkX9_leanIn 39 rfl)
noncomputable def lsX9_dated : List (Nat × Instr × Nat) := [(0, .iload_n 3, 1), (1, .iload_n 1, 1), (2, .iload_n 2, 1), (3, .invokestatic 95, 3), (6, .isub, 1), (7, .istore 4, 2), (9, .iload 4, 2), (11, .ifCond .lt 10, 3), (14, .iload 4, 2), (16, .bipush 30, 2), (18, .if_icmp .lt 5, 3), (21, .iconst 0, 1), (22, .ireturn, 1), (23, .iload 4, 2), (25, .bipush 29, 2), (27, .if_icmp .ge 14, 3), (30, .aload_n 0, 1), (31, .getfield 18, 3), (34, .iload_n 1, 1), (35, .iload_n 2, 1), (36, .invokestatic 92, 3), (39, .iaload, 1), (40, .ireturn, 1), (41, .iconst 0, 1), (42, .istore 5, 2), (44, .iload_n 1, 1), (45, .invokestatic 67, 3), (48, .istore 6, 2), (50, .iload 6, 2), (52, .iload_n 1, 1), (53, .aload_n 0, 1), (54, .getfield 31, 3), (57, .aload_n 0, 1), (58, .getfield 35, 3), (61, .invokestatic 71, 3), (64, .if_icmp .gt 35, 3), (67, .iload 5, 2), (69, .aload_n 0, 1), (70, .getfield 9, 3), (73, .iload_n 1, 1), (74, .iload_n 2, 1), (75, .iload 6, 2), (77, .invokestatic 63, 3), (80, .iaload, 1), (81, .aload_n 0, 1), (82, .iload_n 1, 1), (83, .iload_n 2, 1), (84, .iload 6, 2), (86, .invokevirtual 86, 3), (89, .imul, 1), (90, .iadd, 1), (91, .istore 5, 2), (93, .iinc 6 1, 3), (96, .goto (-46), 3), (99, .iload 5, 2), (101, .ireturn, 1)]
theorem dkX9_dated : dkAll cX9_dated lsX9_dated = true := dk_fast (by decide +kernel)
noncomputable def bfX9_dated_21 (full : Int32) (lean : Int32) (fbf : Nat → Int32) (fbh : Nat → Int32) (fsa : Nat → Int32) (p0 : Int32) (p1 : Int32) (p2 : Int32) (K : (Int32 → Int32 → Int32)) : Int32 := (0 : Int32)
noncomputable def dfX9_dated_50 (full : Int32) (lean : Int32) (fbf : Nat → Int32) (fbh : Nat → Int32) (fsa : Nat → Int32) (p0 : Int32) (p1 : Int32) (p2 : Int32) (K : (Int32 → Int32 → Int32)) (v5 : Int32) (v6 : Int32) : Int32 := cal (fun o4 => if o4 < v6 then v5 else (cal (fun o5 => cal (fun o6 => K (v5 + ((fbf o5.toNatClampNeg) * o6)) (v6 + (1 : Int32))) (fX9_withFull full fbh p0 p1 v6)) (fX11_spot p0 p1 v6))) (fX11_lastRun p0 full lean)
noncomputable def lfX9_dated (full : Int32) (lean : Int32) (fbf : Nat → Int32) (fbh : Nat → Int32) (fsa : Nat → Int32) (p0 : Int32) (p1 : Int32) (p2 : Int32) (z : Nat) : (Int32 → Int32 → Int32) := Nat.rec (motive := fun _ => (Int32 → Int32 → Int32)) (fun _ _ => (0)) (fun _ K => dfX9_dated_50 full lean fbf fbh fsa p0 p1 p2 K) z
noncomputable def fX9_dated (full : Int32) (lean : Int32) (fbf : Nat → Int32) (fbh : Nat → Int32) (fsa : Nat → Int32) (p0 : Int32) (p1 : Int32) (p2 : Int32) : Int32 := cal (fun o1 => if (p2 - o1) < (0 : Int32) then (bfX9_dated_21 full lean fbf fbh fsa p0 p1 p2 (lfX9_dated full lean fbf fbh fsa p0 p1 p2 1000000000)) else (if (p2 - o1) < (30 : Int32) then (if (29 : Int32) ≤ (p2 - o1) then (cal (fun o2 => (lfX9_dated full lean fbf fbh fsa p0 p1 p2 1000000000) (0 : Int32) o2) (fX11_firstRun p0)) else (cal (fun o3 => (fsa o3.toNatClampNeg)) (fX11_cell p0 p1))) else (bfX9_dated_21 full lean fbf fbh fsa p0 p1 p2 (lfX9_dated full lean fbf fbh fsa p0 p1 p2 1000000000)))) (fX11_dayOf p0 p1)
set_option maxHeartbeats 4000000 in
set_option maxRecDepth 100000 in
theorem lp_sX9_dated {p : Program} {l : Launch} {e : Env} {R : Room} {s : State} {m : MethodId} {args : Array Value} {below : List Frame} {meth : Method} {c : Code} {Q : State → Prop} {A : Nat → Prop} {cells slots : Nat} {dC : Nat → ClassId} {dI : Nat → Nat → Nat} {RES : Int32} (h0 : Nat) (bf : Nat) (bh : Nat) (sa : Nat) (months : Int32) (full : Int32) (lean : Int32) (kbf : ClassId) (fbf : Nat → Int32) (kbh : ClassId) (fbh : Nat → Int32) (ksa : ClassId) (fsa : Nat → Int32) (p0 : Int32) (p1 : Int32) (p2 : Int32) (gmonths : gi months 0 24) (gfull : gi full 0 5) (glean : gi lean 0 5) (gp0 : gi p0 0 23) (gp1 : gi p1 0 23) (hx : p.tables.exec = Jvm.exec) (hb : c.code = cX9_dated) (hml : c.maxLocals = 7) (hown : s.vm.findClass RX9 = some m.cls) (hts : ∀ w ∈ ((.code yX9_dated cX9_dated 7 (some .int) :: wsGA) : List Cond), w.before args s = true) (hK : va_K (dC, dI) vwCl [(kbf, .int), (kbh, .int), (ksa, .int)] s) (hz : nzA s) (hRf : 3 ≤ R.frames) (hRl : 66 ≤ R.locals) (hRc : cells ≤ R.cells) (hRs : slots ≤ R.slots) (kr22 : ∀ (v : Int32) (H : Heap) (locs : List Loc) (ls : Array Slot), gi v 0 0 → v = RES → va_P (dC, dI) vwCl [(h0, .inr (9, [.ref bf, .ref bh, .ref sa, .int months, .int full, .int lean])), (bf, .inl (kbf, 3575, .inl fbf)), (bh, .inl (kbh, 3575, .inl fbh)), (sa, .inl (ksa, 325, .inl fsa))] H → va_S A s.heap H locs → lv_has ls 7 [] → W p l e R s m args below meth c H locs cells slots Q (F0 m 22 ls [.int v])) (kr40 : ∀ (v : Int32) (H : Heap) (locs : List Loc) (ls : Array Slot), v = RES → va_P (dC, dI) vwCl [(h0, .inr (9, [.ref bf, .ref bh, .ref sa, .int months, .int full, .int lean])), (bf, .inl (kbf, 3575, .inl fbf)), (bh, .inl (kbh, 3575, .inl fbh)), (sa, .inl (ksa, 325, .inl fsa))] H → va_S A s.heap H locs → lv_has ls 7 [] → W p l e R s m args below meth c H locs cells slots Q (F0 m 40 ls [.int v])) (kr101 : ∀ (v : Int32) (H : Heap) (locs : List Loc) (ls : Array Slot), v = RES → va_P (dC, dI) vwCl [(h0, .inr (9, [.ref bf, .ref bh, .ref sa, .int months, .int full, .int lean])), (bf, .inl (kbf, 3575, .inl fbf)), (bh, .inl (kbh, 3575, .inl fbh)), (sa, .inl (ksa, 325, .inl fsa))] H → va_S A s.heap H locs → lv_has ls 7 [] → W p l e R s m args below meth c H locs cells slots Q (F0 m 101 ls [.int v])) : ∀ z : Nat, (∀ (v4 : Int32) (v5 : Int32) (v6 : Int32) (H : Heap) (locs : List Loc) (ls : Array Slot), gi v4 29 29 → gi v6 0 11 → (lfX9_dated full lean fbf fbh fsa p0 p1 p2 z) v5 v6 = RES → 23 + (-2) * v6.toInt < (z : Int) → va_P (dC, dI) vwCl [(h0, .inr (9, [.ref bf, .ref bh, .ref sa, .int months, .int full, .int lean])), (bf, .inl (kbf, 3575, .inl fbf)), (bh, .inl (kbh, 3575, .inl fbh)), (sa, .inl (ksa, 325, .inl fsa))] H → va_S A s.heap H locs → lv_has ls 7 [(0, .ref h0), (1, .int p0), (2, .int p1), (3, .int p2), (4, .int v4), (5, .int v5), (6, .int v6)] → W p l e R s m args below meth c H locs cells slots Q (F0 m 50 ls [])) := by
  intro z
  induction z with
  | zero =>
    intro v4 v5 v6 H locs ls gv4 gv6 hF hmu hP hS hl
    exact absurd hmu (by have hv61 := gv6.1; have hv62 := gv6.2; omega)
  | succ z ih =>
      intro v4 v5 v6 H locs ls gv4 gv6 hF hmu hP hS hl
      have hF : dfX9_dated_50 full lean fbf fbh fsa p0 p1 p2 (lfX9_dated full lean fbf fbh fsa p0 p1 p2 z) v5 v6 = RES := hF
      refine lv_iload hx hb (dk_at dkX9_dated 28 rfl) (lv_at hl 6 rfl) ?_
      refine lv_iload_n hx hb (dk_at dkX9_dated 29 rfl) rfl (lv_at hl 1 rfl) ?_
      refine lv_aload_n hx hb (dk_at dkX9_dated 30 rfl) rfl (lv_at hl 0 rfl) ?_
      refine va_get (D := (dC, dI)) (ci := 9) (v := .int full) (C := RX9) (T := TX9) (N := 6) hx hb hts (fun w h => List.mem_cons_of_mem _ (jnGA_X9 w h)) hown hK hP 0 rfl rfl 4 (by decide) (hts _ (List.mem_cons_of_mem _ mGA_562)) (fun _ h9 => h9) rfl (dk_at dkX9_dated 31 rfl) ?_
      refine lv_aload_n hx hb (dk_at dkX9_dated 32 rfl) rfl (lv_at hl 0 rfl) ?_
      refine va_get (D := (dC, dI)) (ci := 9) (v := .int lean) (C := RX9) (T := TX9) (N := 6) hx hb hts (fun w h => List.mem_cons_of_mem _ (jnGA_X9 w h)) hown hK hP 0 rfl rfl 5 (by decide) (hts _ (List.mem_cons_of_mem _ mGA_564)) (fun _ h9 => h9) rfl (dk_at dkX9_dated 33 rfl) ?_
      have hPc := hP.sub (ws' := []) [] rfl
      have hKc := hK.sub (tys' := []) [] rfl
      refine va_calli (va_runSN (As := [.int p0, .int full, .int lean]) (rest := [.int v6]) ⟨hx, hb, hml, hown, hts⟩ (sX11_lastRun l dC dI p0 full lean (gi_w gp0 (by decide)) gfull glean) (⟨va_cnB 3 hts (gz_gP mGA_506 goodGA) rfl rfl rfl (nzA_X9_71 hz) (hts _ (List.mem_cons_of_mem _ mGA_1)) hdS_X11_lastRun_X11_3.2 ⟨Nat.le_trans (Nat.le_of_ble_eq_true rfl) hRf, Nat.le_trans (Nat.le_of_ble_eq_true rfl) hRl⟩, (hts _ (List.mem_cons_of_mem _ mGA_505)), trivial⟩) ⟨bl_I (bl_a bl_P (bl_a bl_K bl_nz)), fun U hU hW => ⟨rfl, by rw [hU]; exact hPc, va_K.moved hW.alike hKc, nzA_warm hW hz⟩⟩ rfl rfl hl.1 rfl (lv_room (Nat.le_of_ble_eq_true rfl)) (dk_at dkX9_dated 34 rfl) ⟨hRc, hRs⟩) hS (fun q _ h => h.elim) (fun q h => h.elim) (fun r_241 u t H1 locs ht hvm hw hB hz1 hk1 hS => ?_)
      obtain ⟨hw, hE⟩ := hw
      have hP := gz_keep hP hk1
      have hF := gf_call (a := r_241) hE hF
      generalize H1 = H at hP hS ⊢
      have gr_241 : gi r_241 0 10 := hw
      refine lv_icmp_gt (tgt := 99) hx hb (dk_at dkX9_dated 35 rfl) (by decide) (fun c_242 => ?_) (fun c_242 => ?_)
      · have hF := gf_pos c_242 hF
        have g_243 : gi v6 1 11 := gi_lt_r c_242 gr_241 gv6 (by decide)
        refine lv_iload hx hb (dk_at dkX9_dated 54 rfl) (lv_at hl 5 rfl) ?_
        exact kr101 v5 _ _ _ hF hP hS (lv_sub hl [] rfl)
      · have hF := gf_neg c_242 hF
        have g_244 : gi v6 0 10 := gi_le_l (Int32.not_lt.mp c_242) gv6 gr_241
        refine lv_iload hx hb (dk_at dkX9_dated 36 rfl) (lv_at hl 5 rfl) ?_
        refine lv_aload_n hx hb (dk_at dkX9_dated 37 rfl) rfl (lv_at hl 0 rfl) ?_
        refine va_get (D := (dC, dI)) (ci := 9) (v := .ref bf) (C := RX9) (T := TX9) (N := 6) hx hb hts (fun w h => List.mem_cons_of_mem _ (jnGA_X9 w h)) hown hK hP 0 rfl rfl 0 (by decide) (hts _ (List.mem_cons_of_mem _ mGA_111)) (fun _ h9 => h9) rfl (dk_at dkX9_dated 38 rfl) ?_
        refine lv_iload_n hx hb (dk_at dkX9_dated 39 rfl) rfl (lv_at hl 1 rfl) ?_
        refine lv_iload_n hx hb (dk_at dkX9_dated 40 rfl) rfl (lv_at hl 2 rfl) ?_
        refine lv_iload hx hb (dk_at dkX9_dated 41 rfl) (lv_at hl 6 rfl) ?_
        have hPc := hP.sub (ws' := []) [] rfl
        have hKc := hK.sub (tys' := []) [] rfl
        refine va_calli (va_runSN (As := [.int p0, .int p1, .int v6]) (rest := [.ref bf, .int v5]) ⟨hx, hb, hml, hown, hts⟩ (sX11_spot l dC dI p0 p1 v6 (gi_w gp0 (by decide)) (gi_w gp1 (by decide)) g_244) (⟨va_cnB 3 hts (gz_gP mGA_582 goodGA) rfl rfl rfl (nzA_X9_63 hz) (hts _ (List.mem_cons_of_mem _ mGA_1)) hdS_X11_spot_X11_3.2 ⟨Nat.le_trans (Nat.le_of_ble_eq_true rfl) hRf, Nat.le_trans (Nat.le_of_ble_eq_true rfl) hRl⟩, (hts _ (List.mem_cons_of_mem _ mGA_581)), trivial⟩) ⟨bl_I (bl_a bl_P (bl_a bl_K bl_nz)), fun U hU hW => ⟨rfl, by rw [hU]; exact hPc, va_K.moved hW.alike hKc, nzA_warm hW hz⟩⟩ rfl rfl hl.1 rfl (lv_room (Nat.le_of_ble_eq_true rfl)) (dk_at dkX9_dated 42 rfl) ⟨hRc, hRs⟩) hS (fun q _ h => h.elim) (fun q h => h.elim) (fun r_245 u t H1 locs ht hvm hw hB hz1 hk1 hS => ?_)
        obtain ⟨hw, hE⟩ := hw
        have hP := gz_keep hP hk1
        have hF := gf_call (a := r_245) hE hF
        generalize H1 = H at hP hS ⊢
        have gr_245 : gi r_245 0 3574 := hw
        refine va_iald hx hb hK hP 1 0 rfl rfl (gi_in gr_245 (by decide)) (dk_at dkX9_dated 43 rfl) ?_
        refine lv_topi (fun x_246 ex_246 => ?_)
        refine lv_aload_n hx hb (dk_at dkX9_dated 44 rfl) rfl (lv_at hl 0 rfl) ?_
        refine lv_iload_n hx hb (dk_at dkX9_dated 45 rfl) rfl (lv_at hl 1 rfl) ?_
        refine lv_iload_n hx hb (dk_at dkX9_dated 46 rfl) rfl (lv_at hl 2 rfl) ?_
        refine lv_iload hx hb (dk_at dkX9_dated 47 rfl) (lv_at hl 6 rfl) ?_
        have hPc := hP.sub (ws' := [(h0, .inr (9, [.ref bf, .ref bh, .ref sa, .int months, .int full, .int lean])), (bh, .inl (kbh, 3575, .inl fbh))]) [0, 2] rfl
        have hKc := hK.sub (tys' := [(kbh, .int)]) [1] rfl
        refine va_calli (va_runV (As := [.int p0, .int p1, .int v6]) (rest := [.int x_246, .int v5]) ⟨hx, hb, hml, hown, hts⟩ (sX9_withFull l dC dI h0 bh bf sa months full lean kbh fbh p0 p1 v6 gmonths gfull glean gp0 gp1 g_244) (cwV 3 hts (gz_gV mGA_595 mGA_596 mGA_597 mGA_27 mGA_598 goodGA) rfl rfl rfl hdV_X9_withFull_X9_3 ⟨Nat.le_trans (Nat.le_of_ble_eq_true rfl) hRf, Nat.le_trans (Nat.le_of_ble_eq_true rfl) hRl⟩) ⟨bl_I (bl_a bl_P (bl_a bl_K bl_nz)), va_recv hKc hPc (ci := 9) (q0 := 0) rfl rfl, fun U hU hW => ⟨rfl, by rw [hU]; exact hPc, va_K.moved hW.alike hKc, nzA_warm hW hz⟩⟩ rfl rfl hl.1 rfl (lv_room (Nat.le_of_ble_eq_true rfl)) (dk_at dkX9_dated 48 rfl) ⟨hRc, hRs⟩) hS (fun q _ h => h.elim) (fun q h => h.elim) (fun r_247 u t H1 locs ht hvm hw hB hz1 hk1 hS => ?_)
        obtain ⟨hw, hE⟩ := hw
        have hP := gz_keep hP hk1
        have hF := gf_call (a := r_247) hE hF
        generalize H1 = H at hP hS ⊢
        refine lv_imul hx hb (dk_at dkX9_dated 49 rfl) ?_
        refine lv_topi (fun x_248 ex_248 => ?_)
        refine lv_iadd hx hb (dk_at dkX9_dated 50 rfl) ?_
        refine lv_topi (fun x_249 ex_249 => ?_)
        refine lv_istore (lv' := [(5, .int x_249), (0, .ref h0), (1, .int p0), (2, .int p1), (3, .int p2), (4, .int v4), (6, .int v6)]) hx hb (dk_at dkX9_dated 51 rfl) hl (by decide) rfl (fun ls hl => ?_)
        obtain ⟨x_250, ex_250⟩ : ∃ y : Int32, y = v6 + 1 := ⟨_, rfl⟩
        have gx_250 : gi x_250 1 11 := gi_add ex_250 g_244 (gi_c 1 1 (by decide)) (by decide)
        refine lv_iinc (v := x_250) (lv' := [(6, .int x_250), (5, .int x_249), (0, .ref h0), (1, .int p0), (2, .int p1), (3, .int p2), (4, .int v4)]) hx hb (dk_at dkX9_dated 52 rfl) hl (k := 6) rfl (by rw [ex_250]; rfl) (by decide) rfl (fun ls hl => ?_)
        refine lv_goto (tgt := 50) hx hb (dk_at dkX9_dated 53 rfl) (by decide) ?_
        exact ih v4 x_249 x_250 _ _ _ gv4 (gi_w gx_250 (by decide)) (by first | (rw [ex_250, ex_249, ex_248, ex_246]; exact hF) | ((try rw [ex_250]); (try rw [ex_249]); (try rw [ex_248]); (try rw [ex_246]); exact hF)) (by have av6 := gv6.1; have bv6 := gv6.2; have qgx_250 := gx_250.1; have rgx_250 := gx_250.2; have igx_250 : x_250.toInt = v6.toInt + 1 := (by have hc1 : (1 : Int32).toInt = 1 := (by decide); have h9 := gi_addE ex_250 g_244 (gi_c 1 1 (by decide)) (by decide); rw [hc1] at h9; exact h9); have qgv6 := g_244.1; have rgv6 := g_244.2; omega) hP hS (lv_sub hl [2, 3, 4, 5, 6, 1, 0] rfl)
set_option maxHeartbeats 4000000 in
set_option maxRecDepth 100000 in
theorem sX9_dated (l : Launch) (dC : Nat → ClassId) (dI : Nat → Nat → Nat) (h0 : Nat) (bf : Nat) (bh : Nat) (sa : Nat) (months : Int32) (full : Int32) (lean : Int32) (kbf : ClassId) (fbf : Nat → Int32) (kbh : ClassId) (fbh : Nat → Int32) (ksa : ClassId) (fsa : Nat → Int32) (p0 : Int32) (p1 : Int32) (p2 : Int32) (gmonths : gi months 0 24) (gfull : gi full 0 5) (glean : gi lean 0 5) (gp0 : gi p0 0 23) (gp1 : gi p1 0 23) : Met l yX9_dated (.code yX9_dated cX9_dated 7 (some .int) :: wsGA) ({ frames := 3, cells := 0, slots := 0, locals := 66 }) (va_Pc [.ref h0, .int p0, .int p1, .int p2] (fun U => va_P (dC, dI) vwCl [(h0, .inr (9, [.ref bf, .ref bh, .ref sa, .int months, .int full, .int lean])), (bf, .inl (kbf, 3575, .inl fbf)), (bh, .inl (kbh, 3575, .inl fbh)), (sa, .inl (ksa, 325, .inl fsa))] U.heap ∧ va_K (dC, dI) vwCl [(kbf, .int), (kbh, .int), (ksa, .int)] U ∧ nzA U)) (va_Qi (fun (r : Int32) (u : Unit) => (gi r (-2147483648) 2147483647) ∧ r = fX9_dated full lean fbf fbh fsa p0 p1 p2) (fun _ _ => True) (fun _ => False)) 0 0 (fun _ => False) := by
  refine Met.ofW (cc := cX9_dated) (maxL := 7) (ret := (some .int)) (by decide) rfl ?_
  intro p e s m args below meth c s₁ B hml hv
  obtain ⟨rfl, hP, hK, hz⟩ := hv
  have hx := B.exec
  have hb := B.bytes
  have hr := B.returns
  have hts := atoms_spec (ws := (.code yX9_dated cX9_dated 7 (some .int) :: wsGA)) B.pre
  have hown : s.vm.findClass RX9 = some m.cls := findClass_of_methodNamed B.named
  have hlocks := B.notSynchronized
  have hS : va_S (fun _ => False) s.heap s.heap [] := va_S.rf
  have hl := lv_entry ([.ref h0, .int p0, .int p1, .int p2]) (n := 7) (Nat.le_of_ble_eq_true rfl)
  rw [lg_entry_eq]
  generalize (lg_sl ([.ref h0, .int p0, .int p1, .int p2]) ++ List.replicate (7 - (lg_sl ([.ref h0, .int p0, .int p1, .int p2])).length) Slot.unset).toArray = ls at hl ⊢
  have hl : lv_has ls 7 [(0, .ref h0), (1, .int p0), (2, .int p1), (3, .int p2)] := hl
  obtain ⟨RES, hF⟩ : ∃ R9, fX9_dated full lean fbf fbh fsa p0 p1 p2 = R9 := ⟨_, rfl⟩
  have hR9 := hF
  refine lv_iload_n hx hb (dk_at dkX9_dated 0 rfl) rfl (lv_at hl 3 rfl) ?_
  refine lv_iload_n hx hb (dk_at dkX9_dated 1 rfl) rfl (lv_at hl 1 rfl) ?_
  refine lv_iload_n hx hb (dk_at dkX9_dated 2 rfl) rfl (lv_at hl 2 rfl) ?_
  have hPc := hP.sub (ws' := []) [] rfl
  have hKc := hK.sub (tys' := []) [] rfl
  refine va_calli (va_runSN (As := [.int p0, .int p1]) (rest := [.int p2]) ⟨hx, hb, hml, hown, hts⟩ (sX11_dayOf l dC dI p0 p1) (⟨va_cnB 2 hts (gz_gP mGA_516 goodGA) rfl rfl rfl (nzA_X9_95 hz) (hts _ (List.mem_cons_of_mem _ mGA_1)) hdS_X11_dayOf_X11_2.2 ⟨Nat.le_of_ble_eq_true rfl, Nat.le_of_ble_eq_true rfl⟩, (hts _ (List.mem_cons_of_mem _ mGA_515)), trivial⟩) ⟨bl_I (bl_a bl_P (bl_a bl_K bl_nz)), fun U hU hW => ⟨rfl, by rw [hU]; exact hPc, va_K.moved hW.alike hKc, nzA_warm hW hz⟩⟩ rfl rfl hl.1 rfl (lv_room (Nat.le_of_ble_eq_true rfl)) (dk_at dkX9_dated 3 rfl) ⟨Nat.zero_le _, Nat.zero_le _⟩) hS (fun q _ h => h.elim) (fun q h => h.elim) (fun r_251 u t H1 locs ht hvm hw hB hz1 hk1 hS => ?_)
  obtain ⟨hw, hE⟩ := hw
  have hP := gz_keep hP hk1
  have hF := gf_call (a := r_251) hE hF
  generalize H1 = H at hP hS ⊢
  refine lv_isub hx hb (dk_at dkX9_dated 4 rfl) ?_
  refine lv_topi (fun x_252 ex_252 => ?_)
  refine lv_istore (lv' := [(4, .int x_252), (0, .ref h0), (1, .int p0), (2, .int p1), (3, .int p2)]) hx hb (dk_at dkX9_dated 5 rfl) hl (by decide) rfl (fun ls hl => ?_)
  refine lv_iload hx hb (dk_at dkX9_dated 6 rfl) (lv_at hl 0 rfl) ?_
  refine lv_if_lt (tgt := 21) hx hb (dk_at dkX9_dated 7 rfl) (by decide) (fun c_253 => ?_) (fun c_253 => ?_)
  · have hF := gf_pos (by rw [ex_252] at c_253; exact c_253) hF
    have g_254 : gi x_252 (-2147483648) (-1) := gi_lt_l c_253 (gi_any x_252) (gi_c 0 0 (by decide)) (by decide)
    refine lv_iconst (v := 0) hx hb (dk_at dkX9_dated 11 rfl) (by decide) ?_
    exact W.iret (v := 0) hx hb hr (fun t ht hW => ⟨⟨0, (), rfl, ⟨(gi_any 0), hF.trans hR9.symm⟩, trivial⟩, hS.F ht⟩) hS.2.2 (dk_at dkX9_dated 12 rfl)
  · have hF := gf_neg (by rw [ex_252] at c_253; exact c_253) hF
    have g_255 : gi x_252 0 2147483647 := gi_le_r (Int32.not_lt.mp c_253) (gi_c 0 0 (by decide)) (gi_any x_252)
    refine lv_iload hx hb (dk_at dkX9_dated 8 rfl) (lv_at hl 0 rfl) ?_
    refine lv_bipush (v := 30) hx hb (dk_at dkX9_dated 9 rfl) (by decide) ?_
    refine lv_icmp_lt (tgt := 23) hx hb (dk_at dkX9_dated 10 rfl) (by decide) (fun c_256 => ?_) (fun c_256 => ?_)
    · have hF := gf_pos (by rw [ex_252] at c_256; exact c_256) hF
      have g_257 : gi x_252 0 29 := gi_lt_l c_256 g_255 (gi_c 30 30 (by decide)) (by decide)
      refine lv_iload hx hb (dk_at dkX9_dated 13 rfl) (lv_at hl 0 rfl) ?_
      refine lv_bipush (v := 29) hx hb (dk_at dkX9_dated 14 rfl) (by decide) ?_
      refine lv_icmp_ge (tgt := 41) hx hb (dk_at dkX9_dated 15 rfl) (by decide) (fun c_258 => ?_) (fun c_258 => ?_)
      · have hF := gf_pos (by rw [ex_252] at c_258; exact c_258) hF
        have g_259 : gi x_252 29 29 := gi_le_r c_258 (gi_c 29 29 (by decide)) g_257
        refine lv_iconst (v := 0) hx hb (dk_at dkX9_dated 23 rfl) (by decide) ?_
        refine lv_istore (lv' := [(5, .int 0), (4, .int x_252), (0, .ref h0), (1, .int p0), (2, .int p1), (3, .int p2)]) hx hb (dk_at dkX9_dated 24 rfl) hl (by decide) rfl (fun ls hl => ?_)
        refine lv_iload_n hx hb (dk_at dkX9_dated 25 rfl) rfl (lv_at hl 3 rfl) ?_
        have hPc := hP.sub (ws' := []) [] rfl
        have hKc := hK.sub (tys' := []) [] rfl
        refine va_calli (va_runSN (As := [.int p0]) (rest := []) ⟨hx, hb, hml, hown, hts⟩ (sX11_firstRun l dC dI p0 (gi_w gp0 (by decide))) (⟨va_cnB 1 hts (gz_gP mGA_504 goodGA) rfl rfl rfl (nzA_X9_67 hz) (hts _ (List.mem_cons_of_mem _ mGA_1)) hdS_X11_firstRun_X11_1.2 ⟨Nat.le_of_ble_eq_true rfl, Nat.le_of_ble_eq_true rfl⟩, (hts _ (List.mem_cons_of_mem _ mGA_503)), trivial⟩) ⟨bl_I (bl_a bl_P (bl_a bl_K bl_nz)), fun U hU hW => ⟨rfl, by rw [hU]; exact hPc, va_K.moved hW.alike hKc, nzA_warm hW hz⟩⟩ rfl rfl hl.1 rfl (lv_room (Nat.le_of_ble_eq_true rfl)) (dk_at dkX9_dated 26 rfl) ⟨Nat.zero_le _, Nat.zero_le _⟩) hS (fun q _ h => h.elim) (fun q h => h.elim) (fun r_260 u t H1 locs ht hvm hw hB hz1 hk1 hS => ?_)
        obtain ⟨hw, hE⟩ := hw
        have hP := gz_keep hP hk1
        have hF := gf_call (a := r_260) hE hF
        generalize H1 = H at hP hS ⊢
        have gr_260 : gi r_260 0 1 := hw
        refine lv_istore (lv' := [(6, .int r_260), (5, .int 0), (4, .int x_252), (0, .ref h0), (1, .int p0), (2, .int p1), (3, .int p2)]) hx hb (dk_at dkX9_dated 27 rfl) hl (by decide) rfl (fun ls hl => ?_)
        refine (lp_sX9_dated (RES := RES) h0 bf bh sa months full lean kbf fbf kbh fbh ksa fsa p0 p1 p2 gmonths gfull glean gp0 gp1 hx hb hml hown hts hK hz (Nat.le_of_ble_eq_true rfl) (Nat.le_of_ble_eq_true rfl) (Nat.zero_le _) (Nat.zero_le _) (fun v H locs ls gv hF hP hS hl => ?_) (fun v H locs ls hF hP hS hl => ?_) (fun v H locs ls hF hP hS hl => ?_) 1000000000) x_252 0 r_260 _ _ _ g_259 (gi_w gr_260 (by decide)) (by first | (rw [ex_252]; exact hF) | ((try rw [ex_252]); exact hF)) (by have qgr_260 := gr_260.1; have rgr_260 := gr_260.2; omega) hP hS (lv_sub hl [3, 4, 5, 6, 2, 1, 0] rfl)
        · skip
          exact W.iret (v := v) hx hb hr (fun t ht hW => ⟨⟨v, (), rfl, ⟨(gi_any v), hF.trans hR9.symm⟩, trivial⟩, hS.F ht⟩) hS.2.2 (dk_at dkX9_dated 12 rfl)
        · skip
          exact W.iret (v := v) hx hb hr (fun t ht hW => ⟨⟨v, (), rfl, ⟨(gi_any v), hF.trans hR9.symm⟩, trivial⟩, hS.F ht⟩) hS.2.2 (dk_at dkX9_dated 22 rfl)
        · skip
          exact W.iret (v := v) hx hb hr (fun t ht hW => ⟨⟨v, (), rfl, ⟨(gi_any v), hF.trans hR9.symm⟩, trivial⟩, hS.F ht⟩) hS.2.2 (dk_at dkX9_dated 55 rfl)
      · have hF := gf_neg (by rw [ex_252] at c_258; exact c_258) hF
        have g_261 : gi x_252 0 28 := gi_lt_l (Int32.not_le.mp c_258) g_257 (gi_c 29 29 (by decide)) (by decide)
        refine lv_aload_n hx hb (dk_at dkX9_dated 16 rfl) rfl (lv_at hl 1 rfl) ?_
        refine va_get (D := (dC, dI)) (ci := 9) (v := .ref sa) (C := RX9) (T := TX9) (N := 6) hx hb hts (fun w h => List.mem_cons_of_mem _ (jnGA_X9 w h)) hown hK hP 0 rfl rfl 2 (by decide) (hts _ (List.mem_cons_of_mem _ mGA_113)) (fun _ h9 => h9) rfl (dk_at dkX9_dated 17 rfl) ?_
        refine lv_iload_n hx hb (dk_at dkX9_dated 18 rfl) rfl (lv_at hl 2 rfl) ?_
        refine lv_iload_n hx hb (dk_at dkX9_dated 19 rfl) rfl (lv_at hl 3 rfl) ?_
        have hPc := hP.sub (ws' := []) [] rfl
        have hKc := hK.sub (tys' := []) [] rfl
        refine va_calli (va_runSN (As := [.int p0, .int p1]) (rest := [.ref sa]) ⟨hx, hb, hml, hown, hts⟩ (sX11_cell l dC dI p0 p1 (gi_w gp0 (by decide)) (gi_w gp1 (by decide))) (⟨va_cnB 2 hts (gz_gP mGA_585 goodGA) rfl rfl rfl (nzA_X9_92 hz) (hts _ (List.mem_cons_of_mem _ mGA_1)) hdS_X11_cell_X11_2.2 ⟨Nat.le_of_ble_eq_true rfl, Nat.le_of_ble_eq_true rfl⟩, (hts _ (List.mem_cons_of_mem _ mGA_584)), trivial⟩) ⟨bl_I (bl_a bl_P (bl_a bl_K bl_nz)), fun U hU hW => ⟨rfl, by rw [hU]; exact hPc, va_K.moved hW.alike hKc, nzA_warm hW hz⟩⟩ rfl rfl hl.1 rfl (lv_room (Nat.le_of_ble_eq_true rfl)) (dk_at dkX9_dated 20 rfl) ⟨Nat.zero_le _, Nat.zero_le _⟩) hS (fun q _ h => h.elim) (fun q h => h.elim) (fun r_262 u t H1 locs ht hvm hw hB hz1 hk1 hS => ?_)
        obtain ⟨hw, hE⟩ := hw
        have hP := gz_keep hP hk1
        have hF := gf_call (a := r_262) hE hF
        generalize H1 = H at hP hS ⊢
        have gr_262 : gi r_262 0 324 := hw
        refine va_iald hx hb hK hP 3 2 rfl rfl (gi_in gr_262 (by decide)) (dk_at dkX9_dated 21 rfl) ?_
        refine lv_topi (fun x_263 ex_263 => ?_)
        exact W.iret (v := x_263) hx hb hr (fun t ht hW => ⟨⟨x_263, (), rfl, ⟨(gi_any x_263), by first | (rw [ex_263]; exact hF.trans hR9.symm) | ((try rw [ex_263]); exact hF.trans hR9.symm)⟩, trivial⟩, hS.F ht⟩) hS.2.2 (dk_at dkX9_dated 22 rfl)
    · have hF := gf_neg (by rw [ex_252] at c_256; exact c_256) hF
      have g_264 : gi x_252 30 2147483647 := gi_le_r (Int32.not_lt.mp c_256) (gi_c 30 30 (by decide)) g_255
      refine lv_iconst (v := 0) hx hb (dk_at dkX9_dated 11 rfl) (by decide) ?_
      exact W.iret (v := 0) hx hb hr (fun t ht hW => ⟨⟨0, (), rfl, ⟨(gi_any 0), hF.trans hR9.symm⟩, trivial⟩, hS.F ht⟩) hS.2.2 (dk_at dkX9_dated 12 rfl)
noncomputable def lsX9_takeOnWithFull : List (Nat × Instr × Nat) := [(0, .iload_n 1, 1), (1, .iload_n 2, 1), (2, .iconst 0, 1), (3, .invokestatic 63, 3), (6, .istore_n 3, 1), (7, .iload_n 1, 1), (8, .iconst 1, 1), (9, .iadd, 1), (10, .iload_n 2, 1), (11, .iconst 1, 1), (12, .iadd, 1), (13, .iconst 0, 1), (14, .invokestatic 63, 3), (17, .istore 4, 2), (19, .iload_n 1, 1), (20, .invokestatic 67, 3), (23, .istore 5, 2), (25, .iload 5, 2), (27, .iload_n 1, 1), (28, .aload_n 0, 1), (29, .getfield 31, 3), (32, .aload_n 0, 1), (33, .getfield 35, 3), (36, .invokestatic 71, 3), (39, .if_icmp .gt 47, 3), (42, .iload 5, 2), (44, .aload_n 0, 1), (45, .getfield 31, 3), (48, .invokestatic 74, 3), (51, .istore 6, 2), (53, .iload 6, 2), (55, .ifCond .eq 25, 3), (58, .aload_n 0, 1), (59, .getfield 9, 3), (62, .iload 4, 2), (64, .iload 6, 2), (66, .iadd, 1), (67, .dup2, 1), (68, .iaload, 1), (69, .aload_n 0, 1), (70, .getfield 9, 3), (73, .iload_n 3, 1), (74, .iload 5, 2), (76, .iadd, 1), (77, .iaload, 1), (78, .iadd, 1), (79, .iastore, 1), (80, .iinc 5 1, 3), (83, .goto (-58), 3), (86, .return_, 1)]
theorem dkX9_takeOnWithFull : dkAll cX9_takeOnWithFull lsX9_takeOnWithFull = true := dk_fast (by decide +kernel)
noncomputable def bfX9_takeOnWithFull_80 (full : Int32) (lean : Int32) (fbf : Nat → Int32) (p0 : Int32) (p1 : Int32) (K : (Int32 → Int32 → Int32 → (Nat → Int32) → ((Nat → Int32)))) (v3 : Int32) (v4 : Int32) (v5 : Int32) (z1 : Nat → Int32) : (Nat → Int32) := K v3 v4 (v5 + (1 : Int32)) z1
noncomputable def dfX9_takeOnWithFull_25 (full : Int32) (lean : Int32) (fbf : Nat → Int32) (p0 : Int32) (p1 : Int32) (K : (Int32 → Int32 → Int32 → (Nat → Int32) → ((Nat → Int32)))) (v3 : Int32) (v4 : Int32) (v5 : Int32) (z1 : Nat → Int32) : (Nat → Int32) := cal (fun o4 => if o4 < v5 then z1 else (cal (fun o5 => if o5 = (0 : Int32) then (bfX9_takeOnWithFull_80 full lean fbf p0 p1 K v3 v4 v5 z1) else (bfX9_takeOnWithFull_80 full lean fbf p0 p1 K v3 v4 v5 (upd z1 (v4 + o5).toNatClampNeg ((z1 (v4 + o5).toNatClampNeg) + (z1 (v3 + v5).toNatClampNeg))))) (fX11_runWithFull v5 full))) (fX11_lastRun p0 full lean)
noncomputable def lfX9_takeOnWithFull (full : Int32) (lean : Int32) (fbf : Nat → Int32) (p0 : Int32) (p1 : Int32) (z : Nat) : (Int32 → Int32 → Int32 → (Nat → Int32) → ((Nat → Int32))) := Nat.rec (motive := fun _ => (Int32 → Int32 → Int32 → (Nat → Int32) → ((Nat → Int32)))) (fun _ _ _ z1 => (z1)) (fun _ K => dfX9_takeOnWithFull_25 full lean fbf p0 p1 K) z
noncomputable def fX9_takeOnWithFull (full : Int32) (lean : Int32) (fbf : Nat → Int32) (p0 : Int32) (p1 : Int32) : (Nat → Int32) := cal (fun o1 => cal (fun o2 => cal (fun o3 => (lfX9_takeOnWithFull full lean fbf p0 p1 1000000000) o1 o2 o3 fbf) (fX11_firstRun p0)) (fX11_spot (p0 + (1 : Int32)) (p1 + (1 : Int32)) (0 : Int32))) (fX11_spot p0 p1 (0 : Int32))
set_option maxHeartbeats 4000000 in
set_option maxRecDepth 100000 in
theorem lp_sX9_takeOnWithFull {p : Program} {l : Launch} {e : Env} {R : Room} {s : State} {m : MethodId} {args : Array Value} {below : List Frame} {meth : Method} {c : Code} {Q : State → Prop} {A : Nat → Prop} {cells slots : Nat} {dC : Nat → ClassId} {dI : Nat → Nat → Nat} {RES : (Nat → Int32)} (h0 : Nat) (bf : Nat) (bh : Nat) (sa : Nat) (months : Int32) (full : Int32) (lean : Int32) (kbf : ClassId) (fbf : Nat → Int32) (p0 : Int32) (p1 : Int32) (gmonths : gi months 0 24) (gfull : gi full 0 5) (glean : gi lean 0 5) (gp0 : gi p0 0 23) (gp1 : gi p1 0 23) (hx : p.tables.exec = Jvm.exec) (hb : c.code = cX9_takeOnWithFull) (hml : c.maxLocals = 7) (hown : s.vm.findClass RX9 = some m.cls) (hts : ∀ w ∈ ((.code yX9_takeOnWithFull cX9_takeOnWithFull 7 none :: wsGA) : List Cond), w.before args s = true) (hK : va_K (dC, dI) vwCl [(kbf, .int)] s) (hz : nzA s) (hA : ∀ q : Nat, s.heap.size ≤ q → A q) (hRf : 2 ≤ R.frames) (hRl : 43 ≤ R.locals) (hRc : cells ≤ R.cells) (hRs : slots ≤ R.slots) (kr86 : ∀ (z1 : Nat → Int32) (H : Heap) (locs : List Loc) (ls : Array Slot), z1 = RES → va_P (dC, dI) vwCl [(h0, .inr (9, [.ref bf, .ref bh, .ref sa, .int months, .int full, .int lean])), (bf, .inl (kbf, 3575, .inl z1))] H → va_D A [(h0, .inr (9, [.ref bf, .ref bh, .ref sa, .int months, .int full, .int lean])), (bf, .inl (kbf, 3575, .inl z1))] → va_S A s.heap H locs → lv_has ls 7 [] → W p l e R s m args below meth c H locs cells slots Q (F0 m 86 ls [])) : ∀ z : Nat, (∀ (v3 : Int32) (v4 : Int32) (v5 : Int32) (z1 : Nat → Int32) (H : Heap) (locs : List Loc) (ls : Array Slot), gi v3 0 3564 → gi v4 0 3564 → gi v5 0 11 → (lfX9_takeOnWithFull full lean fbf p0 p1 z) v3 v4 v5 z1 = RES → 23 + (-2) * v5.toInt < (z : Int) → va_P (dC, dI) vwCl [(h0, .inr (9, [.ref bf, .ref bh, .ref sa, .int months, .int full, .int lean])), (bf, .inl (kbf, 3575, .inl z1))] H → va_D A [(h0, .inr (9, [.ref bf, .ref bh, .ref sa, .int months, .int full, .int lean])), (bf, .inl (kbf, 3575, .inl z1))] → va_S A s.heap H locs → lv_has ls 7 [(0, .ref h0), (1, .int p0), (2, .int p1), (3, .int v3), (4, .int v4), (5, .int v5)] → W p l e R s m args below meth c H locs cells slots Q (F0 m 25 ls [])) := by
  intro z
  induction z with
  | zero =>
    intro v3 v4 v5 z1 H locs ls gv3 gv4 gv5 hF hmu hP hD hS hl
    exact absurd hmu (by have hv51 := gv5.1; have hv52 := gv5.2; omega)
  | succ z ih =>
      intro v3 v4 v5 z1 H locs ls gv3 gv4 gv5 hF hmu hP hD hS hl
      have hF : dfX9_takeOnWithFull_25 full lean fbf p0 p1 (lfX9_takeOnWithFull full lean fbf p0 p1 z) v3 v4 v5 z1 = RES := hF
      refine lv_iload hx hb (dk_at dkX9_takeOnWithFull 17 rfl) (lv_at hl 5 rfl) ?_
      refine lv_iload_n hx hb (dk_at dkX9_takeOnWithFull 18 rfl) rfl (lv_at hl 1 rfl) ?_
      refine lv_aload_n hx hb (dk_at dkX9_takeOnWithFull 19 rfl) rfl (lv_at hl 0 rfl) ?_
      refine va_get (D := (dC, dI)) (ci := 9) (v := .int full) (C := RX9) (T := TX9) (N := 6) hx hb hts (fun w h => List.mem_cons_of_mem _ (jnGA_X9 w h)) hown hK hP 0 rfl rfl 4 (by decide) (hts _ (List.mem_cons_of_mem _ mGA_562)) (fun _ h9 => h9) rfl (dk_at dkX9_takeOnWithFull 20 rfl) ?_
      refine lv_aload_n hx hb (dk_at dkX9_takeOnWithFull 21 rfl) rfl (lv_at hl 0 rfl) ?_
      refine va_get (D := (dC, dI)) (ci := 9) (v := .int lean) (C := RX9) (T := TX9) (N := 6) hx hb hts (fun w h => List.mem_cons_of_mem _ (jnGA_X9 w h)) hown hK hP 0 rfl rfl 5 (by decide) (hts _ (List.mem_cons_of_mem _ mGA_564)) (fun _ h9 => h9) rfl (dk_at dkX9_takeOnWithFull 22 rfl) ?_
      have hPc := hP.sub (ws' := []) [] rfl
      have hKc := hK.sub (tys' := []) [] rfl
      refine va_calli (va_runSN (As := [.int p0, .int full, .int lean]) (rest := [.int v5]) ⟨hx, hb, hml, hown, hts⟩ (sX11_lastRun l dC dI p0 full lean (gi_w gp0 (by decide)) gfull glean) (⟨va_cnB 3 hts (gz_gP mGA_506 goodGA) rfl rfl rfl (nzA_X9_71 hz) (hts _ (List.mem_cons_of_mem _ mGA_1)) hdS_X11_lastRun_X11_3.2 ⟨Nat.le_trans (Nat.le_of_ble_eq_true rfl) hRf, Nat.le_trans (Nat.le_of_ble_eq_true rfl) hRl⟩, (hts _ (List.mem_cons_of_mem _ mGA_505)), trivial⟩) ⟨bl_I (bl_a bl_P (bl_a bl_K bl_nz)), fun U hU hW => ⟨rfl, by rw [hU]; exact hPc, va_K.moved hW.alike hKc, nzA_warm hW hz⟩⟩ rfl rfl hl.1 rfl (lv_room (Nat.le_of_ble_eq_true rfl)) (dk_at dkX9_takeOnWithFull 23 rfl) ⟨hRc, hRs⟩) hS (fun q _ h => h.elim) (fun q h => h.elim) (fun r_211 u t H1 locs ht hvm hw hB hz1 hk1 hS => ?_)
      obtain ⟨hw, hE⟩ := hw
      have hP := gz_keep hP hk1
      have hF := gf_call (a := r_211) hE hF
      generalize H1 = H at hP hS ⊢
      have gr_211 : gi r_211 0 10 := hw
      refine lv_icmp_gt (tgt := 86) hx hb (dk_at dkX9_takeOnWithFull 24 rfl) (by decide) (fun c_212 => ?_) (fun c_212 => ?_)
      · have hF := gf_pos c_212 hF
        have g_213 : gi v5 1 11 := gi_lt_r c_212 gr_211 gv5 (by decide)
        exact kr86 z1 _ _ _ hF hP hD hS (lv_sub hl [] rfl)
      · have hF := gf_neg c_212 hF
        have g_214 : gi v5 0 10 := gi_le_l (Int32.not_lt.mp c_212) gv5 gr_211
        refine lv_iload hx hb (dk_at dkX9_takeOnWithFull 25 rfl) (lv_at hl 5 rfl) ?_
        refine lv_aload_n hx hb (dk_at dkX9_takeOnWithFull 26 rfl) rfl (lv_at hl 0 rfl) ?_
        refine va_get (D := (dC, dI)) (ci := 9) (v := .int full) (C := RX9) (T := TX9) (N := 6) hx hb hts (fun w h => List.mem_cons_of_mem _ (jnGA_X9 w h)) hown hK hP 0 rfl rfl 4 (by decide) (hts _ (List.mem_cons_of_mem _ mGA_562)) (fun _ h9 => h9) rfl (dk_at dkX9_takeOnWithFull 27 rfl) ?_
        have hPc := hP.sub (ws' := []) [] rfl
        have hKc := hK.sub (tys' := []) [] rfl
        refine va_calli (va_runSN (As := [.int v5, .int full]) (rest := []) ⟨hx, hb, hml, hown, hts⟩ (sX11_runWithFull l dC dI v5 full g_214 gfull) (⟨va_cnB 2 hts (gz_gP mGA_508 goodGA) rfl rfl rfl (nzA_X9_74 hz) (hts _ (List.mem_cons_of_mem _ mGA_1)) hdS_X11_runWithFull_X11_2.2 ⟨Nat.le_trans (Nat.le_of_ble_eq_true rfl) hRf, Nat.le_trans (Nat.le_of_ble_eq_true rfl) hRl⟩, (hts _ (List.mem_cons_of_mem _ mGA_507)), trivial⟩) ⟨bl_I (bl_a bl_P (bl_a bl_K bl_nz)), fun U hU hW => ⟨rfl, by rw [hU]; exact hPc, va_K.moved hW.alike hKc, nzA_warm hW hz⟩⟩ rfl rfl hl.1 rfl (lv_room (Nat.le_of_ble_eq_true rfl)) (dk_at dkX9_takeOnWithFull 28 rfl) ⟨hRc, hRs⟩) hS (fun q _ h => h.elim) (fun q h => h.elim) (fun r_215 u t H1 locs ht hvm hw hB hz1 hk1 hS => ?_)
        obtain ⟨hw, hE⟩ := hw
        have hP := gz_keep hP hk1
        have hF := gf_call (a := r_215) hE hF
        generalize H1 = H at hP hS ⊢
        have gr_215 : gi r_215 0 5 := hw
        refine lv_istore (lv' := [(6, .int r_215), (0, .ref h0), (1, .int p0), (2, .int p1), (3, .int v3), (4, .int v4), (5, .int v5)]) hx hb (dk_at dkX9_takeOnWithFull 29 rfl) hl (by decide) rfl (fun ls hl => ?_)
        refine lv_iload hx hb (dk_at dkX9_takeOnWithFull 30 rfl) (lv_at hl 0 rfl) ?_
        refine lv_if_eq (tgt := 80) hx hb (dk_at dkX9_takeOnWithFull 31 rfl) (by decide) (fun c_216 => ?_) (fun c_216 => ?_)
        · have hF := gf_pos c_216 hF
          have g_217 : gi r_215 0 0 := gi_eq c_216 (gi_c 0 0 (by decide))
          obtain ⟨x_218, ex_218⟩ : ∃ y : Int32, y = v5 + 1 := ⟨_, rfl⟩
          have gx_218 : gi x_218 1 11 := gi_add ex_218 g_214 (gi_c 1 1 (by decide)) (by decide)
          refine lv_iinc (v := x_218) (lv' := [(5, .int x_218), (6, .int r_215), (0, .ref h0), (1, .int p0), (2, .int p1), (3, .int v3), (4, .int v4)]) hx hb (dk_at dkX9_takeOnWithFull 47 rfl) hl (k := 6) rfl (by rw [ex_218]; rfl) (by decide) rfl (fun ls hl => ?_)
          refine lv_goto (tgt := 25) hx hb (dk_at dkX9_takeOnWithFull 48 rfl) (by decide) ?_
          exact ih v3 v4 x_218 z1 _ _ _ gv3 gv4 (gi_w gx_218 (by decide)) (by first | (rw [ex_218]; exact hF) | ((try rw [ex_218]); exact hF)) (by have av5 := gv5.1; have bv5 := gv5.2; have qgx_218 := gx_218.1; have rgx_218 := gx_218.2; have igx_218 : x_218.toInt = v5.toInt + 1 := (by have hc1 : (1 : Int32).toInt = 1 := (by decide); have h9 := gi_addE ex_218 g_214 (gi_c 1 1 (by decide)) (by decide); rw [hc1] at h9; exact h9); have qgv5 := g_214.1; have rgv5 := g_214.2; omega) hP hD hS (lv_sub hl [2, 3, 4, 5, 6, 0] rfl)
        · have hF := gf_neg c_216 hF
          have g_219 : gi r_215 1 5 := gi_ne_lo c_216 gr_215 (gi_c 0 0 (by decide)) (by decide)
          refine lv_aload_n hx hb (dk_at dkX9_takeOnWithFull 32 rfl) rfl (lv_at hl 1 rfl) ?_
          refine va_get (D := (dC, dI)) (ci := 9) (v := .ref bf) (C := RX9) (T := TX9) (N := 6) hx hb hts (fun w h => List.mem_cons_of_mem _ (jnGA_X9 w h)) hown hK hP 0 rfl rfl 0 (by decide) (hts _ (List.mem_cons_of_mem _ mGA_111)) (fun _ h9 => h9) rfl (dk_at dkX9_takeOnWithFull 33 rfl) ?_
          refine lv_iload hx hb (dk_at dkX9_takeOnWithFull 34 rfl) (lv_at hl 5 rfl) ?_
          refine lv_iload hx hb (dk_at dkX9_takeOnWithFull 35 rfl) (lv_at hl 0 rfl) ?_
          refine lv_iadd hx hb (dk_at dkX9_takeOnWithFull 36 rfl) ?_
          refine lv_topi (fun x_220 ex_220 => ?_)
          have gx_220 : gi x_220 1 3569 := gi_add ex_220 gv4 g_219 (by decide)
          refine lv_dup2_11 hx hb (dk_at dkX9_takeOnWithFull 37 rfl) rfl rfl ?_
          refine va_iald hx hb hK hP 1 0 rfl rfl (gi_in gx_220 (by decide)) (dk_at dkX9_takeOnWithFull 38 rfl) ?_
          refine lv_topi (fun x_221 ex_221 => ?_)
          refine lv_aload_n hx hb (dk_at dkX9_takeOnWithFull 39 rfl) rfl (lv_at hl 1 rfl) ?_
          refine va_get (D := (dC, dI)) (ci := 9) (v := .ref bf) (C := RX9) (T := TX9) (N := 6) hx hb hts (fun w h => List.mem_cons_of_mem _ (jnGA_X9 w h)) hown hK hP 0 rfl rfl 0 (by decide) (hts _ (List.mem_cons_of_mem _ mGA_111)) (fun _ h9 => h9) rfl (dk_at dkX9_takeOnWithFull 40 rfl) ?_
          refine lv_iload_n hx hb (dk_at dkX9_takeOnWithFull 41 rfl) rfl (lv_at hl 4 rfl) ?_
          refine lv_iload hx hb (dk_at dkX9_takeOnWithFull 42 rfl) (lv_at hl 6 rfl) ?_
          refine lv_iadd hx hb (dk_at dkX9_takeOnWithFull 43 rfl) ?_
          refine lv_topi (fun x_222 ex_222 => ?_)
          have gx_222 : gi x_222 0 3574 := gi_add ex_222 gv3 g_214 (by decide)
          refine va_iald hx hb hK hP 1 0 rfl rfl (gi_in gx_222 (by decide)) (dk_at dkX9_takeOnWithFull 44 rfl) ?_
          refine lv_topi (fun x_223 ex_223 => ?_)
          refine lv_iadd hx hb (dk_at dkX9_takeOnWithFull 45 rfl) ?_
          refine lv_topi (fun x_224 ex_224 => ?_)
          refine va_iast hx hb hK hP hD hS 1 0 rfl rfl (gi_in gx_220 (by decide)) (dk_at dkX9_takeOnWithFull 46 rfl) (fun H locs hP hD hS => ?_)
          obtain ⟨hP, hD⟩ := gz_both (w := [(h0, .inr (9, [.ref bf, .ref bh, .ref sa, .int months, .int full, .int lean])), (bf, .inl (kbf, 3575, .inl (upd z1 (x_220 : Int32).toNatClampNeg x_224)))]) hP hD
          generalize ef_225 : upd z1 (x_220 : Int32).toNatClampNeg x_224 = f_225 at hP hD
          obtain ⟨x_226, ex_226⟩ : ∃ y : Int32, y = v5 + 1 := ⟨_, rfl⟩
          have gx_226 : gi x_226 1 11 := gi_add ex_226 g_214 (gi_c 1 1 (by decide)) (by decide)
          refine lv_iinc (v := x_226) (lv' := [(5, .int x_226), (6, .int r_215), (0, .ref h0), (1, .int p0), (2, .int p1), (3, .int v3), (4, .int v4)]) hx hb (dk_at dkX9_takeOnWithFull 47 rfl) hl (k := 6) rfl (by rw [ex_226]; rfl) (by decide) rfl (fun ls hl => ?_)
          refine lv_goto (tgt := 25) hx hb (dk_at dkX9_takeOnWithFull 48 rfl) (by decide) ?_
          exact ih v3 v4 x_226 f_225 _ _ _ gv3 gv4 (gi_w gx_226 (by decide)) (by first | (rw [ex_226, ← ef_225, ex_224, ex_223, ex_222, ex_221, ex_220]; exact hF) | ((try rw [ex_226]); (try rw [← ef_225]); (try rw [ex_224]); (try rw [ex_223]); (try rw [ex_222]); (try rw [ex_221]); (try rw [ex_220]); exact hF)) (by have av5 := gv5.1; have bv5 := gv5.2; have qgx_226 := gx_226.1; have rgx_226 := gx_226.2; have igx_226 : x_226.toInt = v5.toInt + 1 := (by have hc1 : (1 : Int32).toInt = 1 := (by decide); have h9 := gi_addE ex_226 g_214 (gi_c 1 1 (by decide)) (by decide); rw [hc1] at h9; exact h9); have qgv5 := g_214.1; have rgv5 := g_214.2; omega) hP hD hS (lv_sub hl [2, 3, 4, 5, 6, 0] rfl)
abbrev pb_sX9_takeOnWithFull (dC : Nat → ClassId) (dI : Nat → Nat → Nat) (A9 : Nat → Prop) (h0 : Nat) (bf : Nat) (bh : Nat) (sa : Nat) (months : Int32) (full : Int32) (lean : Int32) (kbf : ClassId) (fbf : Nat → Int32) (p0 : Int32) (p1 : Int32) (z1 : Nat → Int32) (t : State) : Prop := z1 = fX9_takeOnWithFull full lean fbf p0 p1 ∧ va_P (dC, dI) vwCl [(h0, .inr (9, [.ref bf, .ref bh, .ref sa, .int months, .int full, .int lean])), (bf, .inl (kbf, 3575, .inl z1))] t.heap ∧ va_D A9 [(h0, .inr (9, [.ref bf, .ref bh, .ref sa, .int months, .int full, .int lean])), (bf, .inl (kbf, 3575, .inl z1))]
set_option maxHeartbeats 4000000 in
set_option maxRecDepth 100000 in
theorem sX9_takeOnWithFull (l : Launch) (dC : Nat → ClassId) (dI : Nat → Nat → Nat) (sz : Nat) (h0 : Nat) (bf : Nat) (bh : Nat) (sa : Nat) (months : Int32) (full : Int32) (lean : Int32) (kbf : ClassId) (fbf : Nat → Int32) (p0 : Int32) (p1 : Int32) (gmonths : gi months 0 24) (gfull : gi full 0 5) (glean : gi lean 0 5) (gp0 : gi p0 0 23) (gp1 : gi p1 0 23) : Met l yX9_takeOnWithFull (.code yX9_takeOnWithFull cX9_takeOnWithFull 7 none :: wsGA) ({ frames := 2, cells := 0, slots := 0, locals := 43 }) (va_Pc [.ref h0, .int p0, .int p1] (fun U => U.heap.size = sz ∧ va_P (dC, dI) vwCl [(h0, .inr (9, [.ref bf, .ref bh, .ref sa, .int months, .int full, .int lean])), (bf, .inl (kbf, 3575, .inl fbf))] U.heap ∧ va_K (dC, dI) vwCl [(kbf, .int)] U ∧ va_D (fun _ => True) [(h0, .inr (9, [.ref bf, .ref bh, .ref sa, .int months, .int full, .int lean])), (bf, .inl (kbf, 3575, .inl fbf))] ∧ nzA U)) (va_Qv (fun (u : Unit) => True) (fun _ t => ∃ (z1 : Nat → Int32), pb_sX9_takeOnWithFull dC dI (va_A [(h0, .inr (9, [.ref bf, .ref bh, .ref sa, .int months, .int full, .int lean])), (bf, .inl (kbf, 3575, .inl fbf))] sz) h0 bf bh sa months full lean kbf fbf p0 p1 z1 t) (va_A [(h0, .inr (9, [.ref bf, .ref bh, .ref sa, .int months, .int full, .int lean])), (bf, .inl (kbf, 3575, .inl fbf))] sz)) 0 0 (va_A [(h0, .inr (9, [.ref bf, .ref bh, .ref sa, .int months, .int full, .int lean])), (bf, .inl (kbf, 3575, .inl fbf))] sz) := by
  refine Met.ofW (cc := cX9_takeOnWithFull) (maxL := 7) (ret := none) (by decide) rfl ?_
  intro p e s m args below meth c s₁ B hml hv
  obtain ⟨rfl, hsz, hP, hK, hD0, hz⟩ := hv
  have hx := B.exec
  have hb := B.bytes
  have hr := B.returns
  have hts := atoms_spec (ws := (.code yX9_takeOnWithFull cX9_takeOnWithFull 7 none :: wsGA)) B.pre
  have hown : s.vm.findClass RX9 = some m.cls := findClass_of_methodNamed B.named
  have hlocks := B.notSynchronized
  subst hsz
  have hD := hD0.self (sz := s.heap.size)
  generalize hAe : va_A [(h0, .inr (9, [.ref bf, .ref bh, .ref sa, .int months, .int full, .int lean])), (bf, .inl (kbf, 3575, .inl fbf))] s.heap.size = A at hD ⊢
  have hA : ∀ q : Nat, s.heap.size ≤ q → A q := fun q h => by rw [← hAe]; exact Or.inr h
  have hS : va_S A s.heap s.heap [] := va_S.rf
  have hl := lv_entry ([.ref h0, .int p0, .int p1]) (n := 7) (Nat.le_of_ble_eq_true rfl)
  rw [lg_entry_eq]
  generalize (lg_sl ([.ref h0, .int p0, .int p1]) ++ List.replicate (7 - (lg_sl ([.ref h0, .int p0, .int p1])).length) Slot.unset).toArray = ls at hl ⊢
  have hl : lv_has ls 7 [(0, .ref h0), (1, .int p0), (2, .int p1)] := hl
  obtain ⟨RES, hF⟩ : ∃ R9, fX9_takeOnWithFull full lean fbf p0 p1 = R9 := ⟨_, rfl⟩
  have hR9 := hF
  refine lv_iload_n hx hb (dk_at dkX9_takeOnWithFull 0 rfl) rfl (lv_at hl 1 rfl) ?_
  refine lv_iload_n hx hb (dk_at dkX9_takeOnWithFull 1 rfl) rfl (lv_at hl 2 rfl) ?_
  refine lv_iconst (v := 0) hx hb (dk_at dkX9_takeOnWithFull 2 rfl) (by decide) ?_
  have hPc := hP.sub (ws' := []) [] rfl
  have hKc := hK.sub (tys' := []) [] rfl
  refine va_calli (va_runSN (As := [.int p0, .int p1, .int 0]) (rest := []) ⟨hx, hb, hml, hown, hts⟩ (sX11_spot0 l dC dI p0 p1 0 (gi_w gp0 (by decide)) (gi_w gp1 (by decide)) (gi_c 0 0 (by decide))) (⟨va_cnB 3 hts (gz_gP mGA_582 goodGA) rfl rfl rfl (nzA_X9_63 hz) (hts _ (List.mem_cons_of_mem _ mGA_1)) hdS_X11_spot_X11_3.2 ⟨Nat.le_of_ble_eq_true rfl, Nat.le_of_ble_eq_true rfl⟩, (hts _ (List.mem_cons_of_mem _ mGA_581)), trivial⟩) ⟨bl_I (bl_a bl_P (bl_a bl_K bl_nz)), fun U hU hW => ⟨rfl, by rw [hU]; exact hPc, va_K.moved hW.alike hKc, nzA_warm hW hz⟩⟩ rfl rfl hl.1 rfl (lv_room (Nat.le_of_ble_eq_true rfl)) (dk_at dkX9_takeOnWithFull 3 rfl) ⟨Nat.zero_le _, Nat.zero_le _⟩) hS (fun q _ h => h.elim) (fun q h => h.elim) (fun r_227 u t H1 locs ht hvm hw hB hz1 hk1 hS => ?_)
  obtain ⟨hw, hE⟩ := hw
  have hP := gz_keep hP hk1
  have hF := gf_call (a := r_227) hE hF
  generalize H1 = H at hP hS ⊢
  have gr_227 : gi r_227 0 3564 := hw
  refine lv_istore_n (lv' := [(3, .int r_227), (0, .ref h0), (1, .int p0), (2, .int p1)]) hx hb (dk_at dkX9_takeOnWithFull 4 rfl) rfl hl (by decide) rfl (fun ls hl => ?_)
  refine lv_iload_n hx hb (dk_at dkX9_takeOnWithFull 5 rfl) rfl (lv_at hl 2 rfl) ?_
  refine lv_iconst (v := 1) hx hb (dk_at dkX9_takeOnWithFull 6 rfl) (by decide) ?_
  refine lv_iadd hx hb (dk_at dkX9_takeOnWithFull 7 rfl) ?_
  refine lv_topi (fun x_228 ex_228 => ?_)
  have gx_228 : gi x_228 1 24 := gi_add ex_228 gp0 (gi_c 1 1 (by decide)) (by decide)
  refine lv_iload_n hx hb (dk_at dkX9_takeOnWithFull 8 rfl) rfl (lv_at hl 3 rfl) ?_
  refine lv_iconst (v := 1) hx hb (dk_at dkX9_takeOnWithFull 9 rfl) (by decide) ?_
  refine lv_iadd hx hb (dk_at dkX9_takeOnWithFull 10 rfl) ?_
  refine lv_topi (fun x_229 ex_229 => ?_)
  have gx_229 : gi x_229 1 24 := gi_add ex_229 gp1 (gi_c 1 1 (by decide)) (by decide)
  refine lv_iconst (v := 0) hx hb (dk_at dkX9_takeOnWithFull 11 rfl) (by decide) ?_
  have hPc := hP.sub (ws' := []) [] rfl
  have hKc := hK.sub (tys' := []) [] rfl
  refine va_calli (va_runSN (As := [.int x_228, .int x_229, .int 0]) (rest := []) ⟨hx, hb, hml, hown, hts⟩ (sX11_spot0 l dC dI x_228 x_229 0 (gi_w gx_228 (by decide)) (gi_w gx_229 (by decide)) (gi_c 0 0 (by decide))) (⟨va_cnB 3 hts (gz_gP mGA_582 goodGA) rfl rfl rfl (nzA_X9_63 hz) (hts _ (List.mem_cons_of_mem _ mGA_1)) hdS_X11_spot_X11_3.2 ⟨Nat.le_of_ble_eq_true rfl, Nat.le_of_ble_eq_true rfl⟩, (hts _ (List.mem_cons_of_mem _ mGA_581)), trivial⟩) ⟨bl_I (bl_a bl_P (bl_a bl_K bl_nz)), fun U hU hW => ⟨rfl, by rw [hU]; exact hPc, va_K.moved hW.alike hKc, nzA_warm hW hz⟩⟩ rfl rfl hl.1 rfl (lv_room (Nat.le_of_ble_eq_true rfl)) (dk_at dkX9_takeOnWithFull 12 rfl) ⟨Nat.zero_le _, Nat.zero_le _⟩) hS (fun q _ h => h.elim) (fun q h => h.elim) (fun r_230 u t H1 locs ht hvm hw hB hz1 hk1 hS => ?_)
  obtain ⟨hw, hE⟩ := hw
  have hP := gz_keep hP hk1
  have hF := gf_call (a := r_230) (by rw [ex_229, ex_228] at hE; exact hE) hF
  generalize H1 = H at hP hS ⊢
  have gr_230 : gi r_230 0 3564 := hw
  refine lv_istore (lv' := [(4, .int r_230), (3, .int r_227), (0, .ref h0), (1, .int p0), (2, .int p1)]) hx hb (dk_at dkX9_takeOnWithFull 13 rfl) hl (by decide) rfl (fun ls hl => ?_)
  refine lv_iload_n hx hb (dk_at dkX9_takeOnWithFull 14 rfl) rfl (lv_at hl 3 rfl) ?_
  have hPc := hP.sub (ws' := []) [] rfl
  have hKc := hK.sub (tys' := []) [] rfl
  refine va_calli (va_runSN (As := [.int p0]) (rest := []) ⟨hx, hb, hml, hown, hts⟩ (sX11_firstRun l dC dI p0 (gi_w gp0 (by decide))) (⟨va_cnB 1 hts (gz_gP mGA_504 goodGA) rfl rfl rfl (nzA_X9_67 hz) (hts _ (List.mem_cons_of_mem _ mGA_1)) hdS_X11_firstRun_X11_1.2 ⟨Nat.le_of_ble_eq_true rfl, Nat.le_of_ble_eq_true rfl⟩, (hts _ (List.mem_cons_of_mem _ mGA_503)), trivial⟩) ⟨bl_I (bl_a bl_P (bl_a bl_K bl_nz)), fun U hU hW => ⟨rfl, by rw [hU]; exact hPc, va_K.moved hW.alike hKc, nzA_warm hW hz⟩⟩ rfl rfl hl.1 rfl (lv_room (Nat.le_of_ble_eq_true rfl)) (dk_at dkX9_takeOnWithFull 15 rfl) ⟨Nat.zero_le _, Nat.zero_le _⟩) hS (fun q _ h => h.elim) (fun q h => h.elim) (fun r_231 u t H1 locs ht hvm hw hB hz1 hk1 hS => ?_)
  obtain ⟨hw, hE⟩ := hw
  have hP := gz_keep hP hk1
  have hF := gf_call (a := r_231) hE hF
  generalize H1 = H at hP hS ⊢
  have gr_231 : gi r_231 0 1 := hw
  refine lv_istore (lv' := [(5, .int r_231), (4, .int r_230), (3, .int r_227), (0, .ref h0), (1, .int p0), (2, .int p1)]) hx hb (dk_at dkX9_takeOnWithFull 16 rfl) hl (by decide) rfl (fun ls hl => ?_)
  refine (lp_sX9_takeOnWithFull h0 bf bh sa months full lean kbf fbf p0 p1 gmonths gfull glean gp0 gp1 hx hb hml hown hts hK hz hA (Nat.le_of_ble_eq_true rfl) (Nat.le_of_ble_eq_true rfl) (Nat.zero_le _) (Nat.zero_le _) (fun z1 H locs ls hF hP hD hS hl => ?_) 1000000000) r_227 r_230 r_231 fbf _ _ _ gr_227 gr_230 (gi_w gr_231 (by decide)) hF (by have qgr_231 := gr_231.1; have rgr_231 := gr_231.2; omega) hP hD hS (lv_sub hl [3, 4, 5, 2, 1, 0] rfl)
  · skip
    exact W.vret hx hb hr (fun t ht hW => ⟨⟨(), rfl, trivial, z1, hF.trans hR9.symm, by rw [ht]; exact hP, hD⟩, hS.F ht⟩) hS.2.2 (dk_at dkX9_takeOnWithFull 49 rfl)
noncomputable def lsX9_takeOnWithLean : List (Nat × Instr × Nat) := [(0, .iload_n 1, 1), (1, .iload_n 2, 1), (2, .iconst 0, 1), (3, .invokestatic 63, 3), (6, .istore_n 3, 1), (7, .iload_n 1, 1), (8, .iconst 1, 1), (9, .iadd, 1), (10, .iload_n 2, 1), (11, .iconst 0, 1), (12, .invokestatic 63, 3), (15, .istore 4, 2), (17, .iload_n 1, 1), (18, .invokestatic 67, 3), (21, .istore 5, 2), (23, .iload 5, 2), (25, .iload_n 1, 1), (26, .aload_n 0, 1), (27, .getfield 31, 3), (30, .aload_n 0, 1), (31, .getfield 35, 3), (34, .invokestatic 71, 3), (37, .if_icmp .gt 51, 3), (40, .iload 5, 2), (42, .aload_n 0, 1), (43, .getfield 31, 3), (46, .aload_n 0, 1), (47, .getfield 35, 3), (50, .invokestatic 78, 3), (53, .istore 6, 2), (55, .iload 6, 2), (57, .ifCond .eq 25, 3), (60, .aload_n 0, 1), (61, .getfield 9, 3), (64, .iload 4, 2), (66, .iload 6, 2), (68, .iadd, 1), (69, .dup2, 1), (70, .iaload, 1), (71, .aload_n 0, 1), (72, .getfield 9, 3), (75, .iload_n 3, 1), (76, .iload 5, 2), (78, .iadd, 1), (79, .iaload, 1), (80, .iadd, 1), (81, .iastore, 1), (82, .iinc 5 1, 3), (85, .goto (-62), 3), (88, .return_, 1)]
theorem dkX9_takeOnWithLean : dkAll cX9_takeOnWithLean lsX9_takeOnWithLean = true := dk_fast (by decide +kernel)
noncomputable def bfX9_takeOnWithLean_82 (full : Int32) (lean : Int32) (fbf : Nat → Int32) (p0 : Int32) (p1 : Int32) (K : (Int32 → Int32 → Int32 → (Nat → Int32) → ((Nat → Int32)))) (v3 : Int32) (v4 : Int32) (v5 : Int32) (z1 : Nat → Int32) : (Nat → Int32) := K v3 v4 (v5 + (1 : Int32)) z1
noncomputable def dfX9_takeOnWithLean_23 (full : Int32) (lean : Int32) (fbf : Nat → Int32) (p0 : Int32) (p1 : Int32) (K : (Int32 → Int32 → Int32 → (Nat → Int32) → ((Nat → Int32)))) (v3 : Int32) (v4 : Int32) (v5 : Int32) (z1 : Nat → Int32) : (Nat → Int32) := cal (fun o4 => if o4 < v5 then z1 else (cal (fun o5 => if o5 = (0 : Int32) then (bfX9_takeOnWithLean_82 full lean fbf p0 p1 K v3 v4 v5 z1) else (bfX9_takeOnWithLean_82 full lean fbf p0 p1 K v3 v4 v5 (upd z1 (v4 + o5).toNatClampNeg ((z1 (v4 + o5).toNatClampNeg) + (z1 (v3 + v5).toNatClampNeg))))) (fX11_runWithLean v5 full lean))) (fX11_lastRun p0 full lean)
noncomputable def lfX9_takeOnWithLean (full : Int32) (lean : Int32) (fbf : Nat → Int32) (p0 : Int32) (p1 : Int32) (z : Nat) : (Int32 → Int32 → Int32 → (Nat → Int32) → ((Nat → Int32))) := Nat.rec (motive := fun _ => (Int32 → Int32 → Int32 → (Nat → Int32) → ((Nat → Int32)))) (fun _ _ _ z1 => (z1)) (fun _ K => dfX9_takeOnWithLean_23 full lean fbf p0 p1 K) z
noncomputable def fX9_takeOnWithLean (full : Int32) (lean : Int32) (fbf : Nat → Int32) (p0 : Int32) (p1 : Int32) : (Nat → Int32) := cal (fun o1 => cal (fun o2 => cal (fun o3 => (lfX9_takeOnWithLean full lean fbf p0 p1 1000000000) o1 o2 o3 fbf) (fX11_firstRun p0)) (fX11_spot (p0 + (1 : Int32)) p1 (0 : Int32))) (fX11_spot p0 p1 (0 : Int32))
set_option maxHeartbeats 4000000 in
set_option maxRecDepth 100000 in
theorem lp_sX9_takeOnWithLean {p : Program} {l : Launch} {e : Env} {R : Room} {s : State} {m : MethodId} {args : Array Value} {below : List Frame} {meth : Method} {c : Code} {Q : State → Prop} {A : Nat → Prop} {cells slots : Nat} {dC : Nat → ClassId} {dI : Nat → Nat → Nat} {RES : (Nat → Int32)} (h0 : Nat) (bf : Nat) (bh : Nat) (sa : Nat) (months : Int32) (full : Int32) (lean : Int32) (kbf : ClassId) (fbf : Nat → Int32) (p0 : Int32) (p1 : Int32) (gmonths : gi months 0 24) (gfull : gi full 0 5) (glean : gi lean 0 5) (gp0 : gi p0 0 23) (gp1 : gi p1 0 23) (hx : p.tables.exec = Jvm.exec) (hb : c.code = cX9_takeOnWithLean) (hml : c.maxLocals = 7) (hown : s.vm.findClass RX9 = some m.cls) (hts : ∀ w ∈ ((.code yX9_takeOnWithLean cX9_takeOnWithLean 7 none :: wsGA) : List Cond), w.before args s = true) (hK : va_K (dC, dI) vwCl [(kbf, .int)] s) (hz : nzA s) (hA : ∀ q : Nat, s.heap.size ≤ q → A q) (hRf : 2 ≤ R.frames) (hRl : 43 ≤ R.locals) (hRc : cells ≤ R.cells) (hRs : slots ≤ R.slots) (kr88 : ∀ (z1 : Nat → Int32) (H : Heap) (locs : List Loc) (ls : Array Slot), z1 = RES → va_P (dC, dI) vwCl [(h0, .inr (9, [.ref bf, .ref bh, .ref sa, .int months, .int full, .int lean])), (bf, .inl (kbf, 3575, .inl z1))] H → va_D A [(h0, .inr (9, [.ref bf, .ref bh, .ref sa, .int months, .int full, .int lean])), (bf, .inl (kbf, 3575, .inl z1))] → va_S A s.heap H locs → lv_has ls 7 [] → W p l e R s m args below meth c H locs cells slots Q (F0 m 88 ls [])) : ∀ z : Nat, (∀ (v3 : Int32) (v4 : Int32) (v5 : Int32) (z1 : Nat → Int32) (H : Heap) (locs : List Loc) (ls : Array Slot), gi v3 0 3564 → gi v4 0 3564 → gi v5 0 11 → (lfX9_takeOnWithLean full lean fbf p0 p1 z) v3 v4 v5 z1 = RES → 23 + (-2) * v5.toInt < (z : Int) → va_P (dC, dI) vwCl [(h0, .inr (9, [.ref bf, .ref bh, .ref sa, .int months, .int full, .int lean])), (bf, .inl (kbf, 3575, .inl z1))] H → va_D A [(h0, .inr (9, [.ref bf, .ref bh, .ref sa, .int months, .int full, .int lean])), (bf, .inl (kbf, 3575, .inl z1))] → va_S A s.heap H locs → lv_has ls 7 [(0, .ref h0), (1, .int p0), (2, .int p1), (3, .int v3), (4, .int v4), (5, .int v5)] → W p l e R s m args below meth c H locs cells slots Q (F0 m 23 ls [])) := by
  intro z
  induction z with
  | zero =>
    intro v3 v4 v5 z1 H locs ls gv3 gv4 gv5 hF hmu hP hD hS hl
    exact absurd hmu (by have hv51 := gv5.1; have hv52 := gv5.2; omega)
  | succ z ih =>
      intro v3 v4 v5 z1 H locs ls gv3 gv4 gv5 hF hmu hP hD hS hl
      have hF : dfX9_takeOnWithLean_23 full lean fbf p0 p1 (lfX9_takeOnWithLean full lean fbf p0 p1 z) v3 v4 v5 z1 = RES := hF
      refine lv_iload hx hb (dk_at dkX9_takeOnWithLean 15 rfl) (lv_at hl 5 rfl) ?_
      refine lv_iload_n hx hb (dk_at dkX9_takeOnWithLean 16 rfl) rfl (lv_at hl 1 rfl) ?_
      refine lv_aload_n hx hb (dk_at dkX9_takeOnWithLean 17 rfl) rfl (lv_at hl 0 rfl) ?_
      refine va_get (D := (dC, dI)) (ci := 9) (v := .int full) (C := RX9) (T := TX9) (N := 6) hx hb hts (fun w h => List.mem_cons_of_mem _ (jnGA_X9 w h)) hown hK hP 0 rfl rfl 4 (by decide) (hts _ (List.mem_cons_of_mem _ mGA_562)) (fun _ h9 => h9) rfl (dk_at dkX9_takeOnWithLean 18 rfl) ?_
      refine lv_aload_n hx hb (dk_at dkX9_takeOnWithLean 19 rfl) rfl (lv_at hl 0 rfl) ?_
      refine va_get (D := (dC, dI)) (ci := 9) (v := .int lean) (C := RX9) (T := TX9) (N := 6) hx hb hts (fun w h => List.mem_cons_of_mem _ (jnGA_X9 w h)) hown hK hP 0 rfl rfl 5 (by decide) (hts _ (List.mem_cons_of_mem _ mGA_564)) (fun _ h9 => h9) rfl (dk_at dkX9_takeOnWithLean 20 rfl) ?_
      have hPc := hP.sub (ws' := []) [] rfl
      have hKc := hK.sub (tys' := []) [] rfl
      refine va_calli (va_runSN (As := [.int p0, .int full, .int lean]) (rest := [.int v5]) ⟨hx, hb, hml, hown, hts⟩ (sX11_lastRun l dC dI p0 full lean (gi_w gp0 (by decide)) gfull glean) (⟨va_cnB 3 hts (gz_gP mGA_506 goodGA) rfl rfl rfl (nzA_X9_71 hz) (hts _ (List.mem_cons_of_mem _ mGA_1)) hdS_X11_lastRun_X11_3.2 ⟨Nat.le_trans (Nat.le_of_ble_eq_true rfl) hRf, Nat.le_trans (Nat.le_of_ble_eq_true rfl) hRl⟩, (hts _ (List.mem_cons_of_mem _ mGA_505)), trivial⟩) ⟨bl_I (bl_a bl_P (bl_a bl_K bl_nz)), fun U hU hW => ⟨rfl, by rw [hU]; exact hPc, va_K.moved hW.alike hKc, nzA_warm hW hz⟩⟩ rfl rfl hl.1 rfl (lv_room (Nat.le_of_ble_eq_true rfl)) (dk_at dkX9_takeOnWithLean 21 rfl) ⟨hRc, hRs⟩) hS (fun q _ h => h.elim) (fun q h => h.elim) (fun r_201 u t H1 locs ht hvm hw hB hz1 hk1 hS => ?_)
      obtain ⟨hw, hE⟩ := hw
      have hP := gz_keep hP hk1
      have hF := gf_call (a := r_201) hE hF
      generalize H1 = H at hP hS ⊢
      have gr_201 : gi r_201 0 10 := hw
      refine lv_icmp_gt (tgt := 88) hx hb (dk_at dkX9_takeOnWithLean 22 rfl) (by decide) (fun c_202 => ?_) (fun c_202 => ?_)
      · have hF := gf_pos c_202 hF
        have g_203 : gi v5 1 11 := gi_lt_r c_202 gr_201 gv5 (by decide)
        exact kr88 z1 _ _ _ hF hP hD hS (lv_sub hl [] rfl)
      · have hF := gf_neg c_202 hF
        have g_204 : gi v5 0 10 := gi_le_l (Int32.not_lt.mp c_202) gv5 gr_201
        refine lv_iload hx hb (dk_at dkX9_takeOnWithLean 23 rfl) (lv_at hl 5 rfl) ?_
        refine lv_aload_n hx hb (dk_at dkX9_takeOnWithLean 24 rfl) rfl (lv_at hl 0 rfl) ?_
        refine va_get (D := (dC, dI)) (ci := 9) (v := .int full) (C := RX9) (T := TX9) (N := 6) hx hb hts (fun w h => List.mem_cons_of_mem _ (jnGA_X9 w h)) hown hK hP 0 rfl rfl 4 (by decide) (hts _ (List.mem_cons_of_mem _ mGA_562)) (fun _ h9 => h9) rfl (dk_at dkX9_takeOnWithLean 25 rfl) ?_
        refine lv_aload_n hx hb (dk_at dkX9_takeOnWithLean 26 rfl) rfl (lv_at hl 0 rfl) ?_
        refine va_get (D := (dC, dI)) (ci := 9) (v := .int lean) (C := RX9) (T := TX9) (N := 6) hx hb hts (fun w h => List.mem_cons_of_mem _ (jnGA_X9 w h)) hown hK hP 0 rfl rfl 5 (by decide) (hts _ (List.mem_cons_of_mem _ mGA_564)) (fun _ h9 => h9) rfl (dk_at dkX9_takeOnWithLean 27 rfl) ?_
        have hPc := hP.sub (ws' := []) [] rfl
        have hKc := hK.sub (tys' := []) [] rfl
        refine va_calli (va_runSN (As := [.int v5, .int full, .int lean]) (rest := []) ⟨hx, hb, hml, hown, hts⟩ (sX11_runWithLean l dC dI v5 full lean g_204 gfull glean) (⟨va_cnB 3 hts (gz_gP mGA_510 goodGA) rfl rfl rfl (nzA_X9_78 hz) (hts _ (List.mem_cons_of_mem _ mGA_1)) hdS_X11_runWithLean_X11_3.2 ⟨Nat.le_trans (Nat.le_of_ble_eq_true rfl) hRf, Nat.le_trans (Nat.le_of_ble_eq_true rfl) hRl⟩, (hts _ (List.mem_cons_of_mem _ mGA_509)), trivial⟩) ⟨bl_I (bl_a bl_P (bl_a bl_K bl_nz)), fun U hU hW => ⟨rfl, by rw [hU]; exact hPc, va_K.moved hW.alike hKc, nzA_warm hW hz⟩⟩ rfl rfl hl.1 rfl (lv_room (Nat.le_of_ble_eq_true rfl)) (dk_at dkX9_takeOnWithLean 28 rfl) ⟨hRc, hRs⟩) hS (fun q _ h => h.elim) (fun q h => h.elim) (fun r_205 u t H1 locs ht hvm hw hB hz1 hk1 hS => ?_)
        obtain ⟨hw, hE⟩ := hw
        have hP := gz_keep hP hk1
        have hF := gf_call (a := r_205) hE hF
        generalize H1 = H at hP hS ⊢
        have gr_205 : gi r_205 0 10 := hw
        refine lv_istore (lv' := [(6, .int r_205), (0, .ref h0), (1, .int p0), (2, .int p1), (3, .int v3), (4, .int v4), (5, .int v5)]) hx hb (dk_at dkX9_takeOnWithLean 29 rfl) hl (by decide) rfl (fun ls hl => ?_)
        refine lv_iload hx hb (dk_at dkX9_takeOnWithLean 30 rfl) (lv_at hl 0 rfl) ?_
        refine lv_if_eq (tgt := 82) hx hb (dk_at dkX9_takeOnWithLean 31 rfl) (by decide) (fun c_206 => ?_) (fun c_206 => ?_)
        · have hF := gf_pos c_206 hF
          have g_207 : gi r_205 0 0 := gi_eq c_206 (gi_c 0 0 (by decide))
          obtain ⟨x_208, ex_208⟩ : ∃ y : Int32, y = v5 + 1 := ⟨_, rfl⟩
          have gx_208 : gi x_208 1 11 := gi_add ex_208 g_204 (gi_c 1 1 (by decide)) (by decide)
          refine lv_iinc (v := x_208) (lv' := [(5, .int x_208), (6, .int r_205), (0, .ref h0), (1, .int p0), (2, .int p1), (3, .int v3), (4, .int v4)]) hx hb (dk_at dkX9_takeOnWithLean 47 rfl) hl (k := 6) rfl (by rw [ex_208]; rfl) (by decide) rfl (fun ls hl => ?_)
          refine lv_goto (tgt := 23) hx hb (dk_at dkX9_takeOnWithLean 48 rfl) (by decide) ?_
          exact ih v3 v4 x_208 z1 _ _ _ gv3 gv4 (gi_w gx_208 (by decide)) (by first | (rw [ex_208]; exact hF) | ((try rw [ex_208]); exact hF)) (by have av5 := gv5.1; have bv5 := gv5.2; have qgx_208 := gx_208.1; have rgx_208 := gx_208.2; have igx_208 : x_208.toInt = v5.toInt + 1 := (by have hc1 : (1 : Int32).toInt = 1 := (by decide); have h9 := gi_addE ex_208 g_204 (gi_c 1 1 (by decide)) (by decide); rw [hc1] at h9; exact h9); have qgv5 := g_204.1; have rgv5 := g_204.2; omega) hP hD hS (lv_sub hl [2, 3, 4, 5, 6, 0] rfl)
        · have hF := gf_neg c_206 hF
          have g_209 : gi r_205 1 10 := gi_ne_lo c_206 gr_205 (gi_c 0 0 (by decide)) (by decide)
          refine lv_aload_n hx hb (dk_at dkX9_takeOnWithLean 32 rfl) rfl (lv_at hl 1 rfl) ?_
          refine va_get (D := (dC, dI)) (ci := 9) (v := .ref bf) (C := RX9) (T := TX9) (N := 6) hx hb hts (fun w h => List.mem_cons_of_mem _ (jnGA_X9 w h)) hown hK hP 0 rfl rfl 0 (by decide) (hts _ (List.mem_cons_of_mem _ mGA_111)) (fun _ h9 => h9) rfl (dk_at dkX9_takeOnWithLean 33 rfl) ?_
          refine lv_iload hx hb (dk_at dkX9_takeOnWithLean 34 rfl) (lv_at hl 5 rfl) ?_
          refine lv_iload hx hb (dk_at dkX9_takeOnWithLean 35 rfl) (lv_at hl 0 rfl) ?_
          refine lv_iadd hx hb (dk_at dkX9_takeOnWithLean 36 rfl) ?_
          refine lv_topi (fun x_210 ex_210 => ?_)
          have gx_210 : gi x_210 1 3574 := gi_add ex_210 gv4 g_209 (by decide)
          refine lv_dup2_11 hx hb (dk_at dkX9_takeOnWithLean 37 rfl) rfl rfl ?_
          refine va_iald hx hb hK hP 1 0 rfl rfl (gi_in gx_210 (by decide)) (dk_at dkX9_takeOnWithLean 38 rfl) ?_
          refine lv_topi (fun x_211 ex_211 => ?_)
          refine lv_aload_n hx hb (dk_at dkX9_takeOnWithLean 39 rfl) rfl (lv_at hl 1 rfl) ?_
          refine va_get (D := (dC, dI)) (ci := 9) (v := .ref bf) (C := RX9) (T := TX9) (N := 6) hx hb hts (fun w h => List.mem_cons_of_mem _ (jnGA_X9 w h)) hown hK hP 0 rfl rfl 0 (by decide) (hts _ (List.mem_cons_of_mem _ mGA_111)) (fun _ h9 => h9) rfl (dk_at dkX9_takeOnWithLean 40 rfl) ?_
          refine lv_iload_n hx hb (dk_at dkX9_takeOnWithLean 41 rfl) rfl (lv_at hl 4 rfl) ?_
          refine lv_iload hx hb (dk_at dkX9_takeOnWithLean 42 rfl) (lv_at hl 6 rfl) ?_
          refine lv_iadd hx hb (dk_at dkX9_takeOnWithLean 43 rfl) ?_
          refine lv_topi (fun x_212 ex_212 => ?_)
          have gx_212 : gi x_212 0 3574 := gi_add ex_212 gv3 g_204 (by decide)
          refine va_iald hx hb hK hP 1 0 rfl rfl (gi_in gx_212 (by decide)) (dk_at dkX9_takeOnWithLean 44 rfl) ?_
          refine lv_topi (fun x_213 ex_213 => ?_)
          refine lv_iadd hx hb (dk_at dkX9_takeOnWithLean 45 rfl) ?_
          refine lv_topi (fun x_214 ex_214 => ?_)
          refine va_iast hx hb hK hP hD hS 1 0 rfl rfl (gi_in gx_210 (by decide)) (dk_at dkX9_takeOnWithLean 46 rfl) (fun H locs hP hD hS => ?_)
          obtain ⟨hP, hD⟩ := gz_both (w := [(h0, .inr (9, [.ref bf, .ref bh, .ref sa, .int months, .int full, .int lean])), (bf, .inl (kbf, 3575, .inl (upd z1 (x_210 : Int32).toNatClampNeg x_214)))]) hP hD
          generalize ef_215 : upd z1 (x_210 : Int32).toNatClampNeg x_214 = f_215 at hP hD
          obtain ⟨x_216, ex_216⟩ : ∃ y : Int32, y = v5 + 1 := ⟨_, rfl⟩
          have gx_216 : gi x_216 1 11 := gi_add ex_216 g_204 (gi_c 1 1 (by decide)) (by decide)
          refine lv_iinc (v := x_216) (lv' := [(5, .int x_216), (6, .int r_205), (0, .ref h0), (1, .int p0), (2, .int p1), (3, .int v3), (4, .int v4)]) hx hb (dk_at dkX9_takeOnWithLean 47 rfl) hl (k := 6) rfl (by rw [ex_216]; rfl) (by decide) rfl (fun ls hl => ?_)
          refine lv_goto (tgt := 23) hx hb (dk_at dkX9_takeOnWithLean 48 rfl) (by decide) ?_
          exact ih v3 v4 x_216 f_215 _ _ _ gv3 gv4 (gi_w gx_216 (by decide)) (by first | (rw [ex_216, ← ef_215, ex_214, ex_213, ex_212, ex_211, ex_210]; exact hF) | ((try rw [ex_216]); (try rw [← ef_215]); (try rw [ex_214]); (try rw [ex_213]); (try rw [ex_212]); (try rw [ex_211]); (try rw [ex_210]); exact hF)) (by have av5 := gv5.1; have bv5 := gv5.2; have qgx_216 := gx_216.1; have rgx_216 := gx_216.2; have igx_216 : x_216.toInt = v5.toInt + 1 := (by have hc1 : (1 : Int32).toInt = 1 := (by decide); have h9 := gi_addE ex_216 g_204 (gi_c 1 1 (by decide)) (by decide); rw [hc1] at h9; exact h9); have qgv5 := g_204.1; have rgv5 := g_204.2; omega) hP hD hS (lv_sub hl [2, 3, 4, 5, 6, 0] rfl)
abbrev pb_sX9_takeOnWithLean (dC : Nat → ClassId) (dI : Nat → Nat → Nat) (A9 : Nat → Prop) (h0 : Nat) (bf : Nat) (bh : Nat) (sa : Nat) (months : Int32) (full : Int32) (lean : Int32) (kbf : ClassId) (fbf : Nat → Int32) (p0 : Int32) (p1 : Int32) (z1 : Nat → Int32) (t : State) : Prop := z1 = fX9_takeOnWithLean full lean fbf p0 p1 ∧ va_P (dC, dI) vwCl [(h0, .inr (9, [.ref bf, .ref bh, .ref sa, .int months, .int full, .int lean])), (bf, .inl (kbf, 3575, .inl z1))] t.heap ∧ va_D A9 [(h0, .inr (9, [.ref bf, .ref bh, .ref sa, .int months, .int full, .int lean])), (bf, .inl (kbf, 3575, .inl z1))]
set_option maxHeartbeats 4000000 in
set_option maxRecDepth 100000 in
theorem sX9_takeOnWithLean (l : Launch) (dC : Nat → ClassId) (dI : Nat → Nat → Nat) (sz : Nat) (h0 : Nat) (bf : Nat) (bh : Nat) (sa : Nat) (months : Int32) (full : Int32) (lean : Int32) (kbf : ClassId) (fbf : Nat → Int32) (p0 : Int32) (p1 : Int32) (gmonths : gi months 0 24) (gfull : gi full 0 5) (glean : gi lean 0 5) (gp0 : gi p0 0 23) (gp1 : gi p1 0 23) : Met l yX9_takeOnWithLean (.code yX9_takeOnWithLean cX9_takeOnWithLean 7 none :: wsGA) ({ frames := 2, cells := 0, slots := 0, locals := 43 }) (va_Pc [.ref h0, .int p0, .int p1] (fun U => U.heap.size = sz ∧ va_P (dC, dI) vwCl [(h0, .inr (9, [.ref bf, .ref bh, .ref sa, .int months, .int full, .int lean])), (bf, .inl (kbf, 3575, .inl fbf))] U.heap ∧ va_K (dC, dI) vwCl [(kbf, .int)] U ∧ va_D (fun _ => True) [(h0, .inr (9, [.ref bf, .ref bh, .ref sa, .int months, .int full, .int lean])), (bf, .inl (kbf, 3575, .inl fbf))] ∧ nzA U)) (va_Qv (fun (u : Unit) => True) (fun _ t => ∃ (z1 : Nat → Int32), pb_sX9_takeOnWithLean dC dI (va_A [(h0, .inr (9, [.ref bf, .ref bh, .ref sa, .int months, .int full, .int lean])), (bf, .inl (kbf, 3575, .inl fbf))] sz) h0 bf bh sa months full lean kbf fbf p0 p1 z1 t) (va_A [(h0, .inr (9, [.ref bf, .ref bh, .ref sa, .int months, .int full, .int lean])), (bf, .inl (kbf, 3575, .inl fbf))] sz)) 0 0 (va_A [(h0, .inr (9, [.ref bf, .ref bh, .ref sa, .int months, .int full, .int lean])), (bf, .inl (kbf, 3575, .inl fbf))] sz) := by
  refine Met.ofW (cc := cX9_takeOnWithLean) (maxL := 7) (ret := none) (by decide) rfl ?_
  intro p e s m args below meth c s₁ B hml hv
  obtain ⟨rfl, hsz, hP, hK, hD0, hz⟩ := hv
  have hx := B.exec
  have hb := B.bytes
  have hr := B.returns
  have hts := atoms_spec (ws := (.code yX9_takeOnWithLean cX9_takeOnWithLean 7 none :: wsGA)) B.pre
  have hown : s.vm.findClass RX9 = some m.cls := findClass_of_methodNamed B.named
  have hlocks := B.notSynchronized
  subst hsz
  have hD := hD0.self (sz := s.heap.size)
  generalize hAe : va_A [(h0, .inr (9, [.ref bf, .ref bh, .ref sa, .int months, .int full, .int lean])), (bf, .inl (kbf, 3575, .inl fbf))] s.heap.size = A at hD ⊢
  have hA : ∀ q : Nat, s.heap.size ≤ q → A q := fun q h => by rw [← hAe]; exact Or.inr h
  have hS : va_S A s.heap s.heap [] := va_S.rf
  have hl := lv_entry ([.ref h0, .int p0, .int p1]) (n := 7) (Nat.le_of_ble_eq_true rfl)
  rw [lg_entry_eq]
  generalize (lg_sl ([.ref h0, .int p0, .int p1]) ++ List.replicate (7 - (lg_sl ([.ref h0, .int p0, .int p1])).length) Slot.unset).toArray = ls at hl ⊢
  have hl : lv_has ls 7 [(0, .ref h0), (1, .int p0), (2, .int p1)] := hl
  obtain ⟨RES, hF⟩ : ∃ R9, fX9_takeOnWithLean full lean fbf p0 p1 = R9 := ⟨_, rfl⟩
  have hR9 := hF
  refine lv_iload_n hx hb (dk_at dkX9_takeOnWithLean 0 rfl) rfl (lv_at hl 1 rfl) ?_
  refine lv_iload_n hx hb (dk_at dkX9_takeOnWithLean 1 rfl) rfl (lv_at hl 2 rfl) ?_
  refine lv_iconst (v := 0) hx hb (dk_at dkX9_takeOnWithLean 2 rfl) (by decide) ?_
  have hPc := hP.sub (ws' := []) [] rfl
  have hKc := hK.sub (tys' := []) [] rfl
  refine va_calli (va_runSN (As := [.int p0, .int p1, .int 0]) (rest := []) ⟨hx, hb, hml, hown, hts⟩ (sX11_spot0 l dC dI p0 p1 0 (gi_w gp0 (by decide)) (gi_w gp1 (by decide)) (gi_c 0 0 (by decide))) (⟨va_cnB 3 hts (gz_gP mGA_582 goodGA) rfl rfl rfl (nzA_X9_63 hz) (hts _ (List.mem_cons_of_mem _ mGA_1)) hdS_X11_spot_X11_3.2 ⟨Nat.le_of_ble_eq_true rfl, Nat.le_of_ble_eq_true rfl⟩, (hts _ (List.mem_cons_of_mem _ mGA_581)), trivial⟩) ⟨bl_I (bl_a bl_P (bl_a bl_K bl_nz)), fun U hU hW => ⟨rfl, by rw [hU]; exact hPc, va_K.moved hW.alike hKc, nzA_warm hW hz⟩⟩ rfl rfl hl.1 rfl (lv_room (Nat.le_of_ble_eq_true rfl)) (dk_at dkX9_takeOnWithLean 3 rfl) ⟨Nat.zero_le _, Nat.zero_le _⟩) hS (fun q _ h => h.elim) (fun q h => h.elim) (fun r_217 u t H1 locs ht hvm hw hB hz1 hk1 hS => ?_)
  obtain ⟨hw, hE⟩ := hw
  have hP := gz_keep hP hk1
  have hF := gf_call (a := r_217) hE hF
  generalize H1 = H at hP hS ⊢
  have gr_217 : gi r_217 0 3564 := hw
  refine lv_istore_n (lv' := [(3, .int r_217), (0, .ref h0), (1, .int p0), (2, .int p1)]) hx hb (dk_at dkX9_takeOnWithLean 4 rfl) rfl hl (by decide) rfl (fun ls hl => ?_)
  refine lv_iload_n hx hb (dk_at dkX9_takeOnWithLean 5 rfl) rfl (lv_at hl 2 rfl) ?_
  refine lv_iconst (v := 1) hx hb (dk_at dkX9_takeOnWithLean 6 rfl) (by decide) ?_
  refine lv_iadd hx hb (dk_at dkX9_takeOnWithLean 7 rfl) ?_
  refine lv_topi (fun x_218 ex_218 => ?_)
  have gx_218 : gi x_218 1 24 := gi_add ex_218 gp0 (gi_c 1 1 (by decide)) (by decide)
  refine lv_iload_n hx hb (dk_at dkX9_takeOnWithLean 8 rfl) rfl (lv_at hl 3 rfl) ?_
  refine lv_iconst (v := 0) hx hb (dk_at dkX9_takeOnWithLean 9 rfl) (by decide) ?_
  have hPc := hP.sub (ws' := []) [] rfl
  have hKc := hK.sub (tys' := []) [] rfl
  refine va_calli (va_runSN (As := [.int x_218, .int p1, .int 0]) (rest := []) ⟨hx, hb, hml, hown, hts⟩ (sX11_spot0 l dC dI x_218 p1 0 (gi_w gx_218 (by decide)) (gi_w gp1 (by decide)) (gi_c 0 0 (by decide))) (⟨va_cnB 3 hts (gz_gP mGA_582 goodGA) rfl rfl rfl (nzA_X9_63 hz) (hts _ (List.mem_cons_of_mem _ mGA_1)) hdS_X11_spot_X11_3.2 ⟨Nat.le_of_ble_eq_true rfl, Nat.le_of_ble_eq_true rfl⟩, (hts _ (List.mem_cons_of_mem _ mGA_581)), trivial⟩) ⟨bl_I (bl_a bl_P (bl_a bl_K bl_nz)), fun U hU hW => ⟨rfl, by rw [hU]; exact hPc, va_K.moved hW.alike hKc, nzA_warm hW hz⟩⟩ rfl rfl hl.1 rfl (lv_room (Nat.le_of_ble_eq_true rfl)) (dk_at dkX9_takeOnWithLean 10 rfl) ⟨Nat.zero_le _, Nat.zero_le _⟩) hS (fun q _ h => h.elim) (fun q h => h.elim) (fun r_219 u t H1 locs ht hvm hw hB hz1 hk1 hS => ?_)
  obtain ⟨hw, hE⟩ := hw
  have hP := gz_keep hP hk1
  have hF := gf_call (a := r_219) (by rw [ex_218] at hE; exact hE) hF
  generalize H1 = H at hP hS ⊢
  have gr_219 : gi r_219 0 3564 := hw
  refine lv_istore (lv' := [(4, .int r_219), (3, .int r_217), (0, .ref h0), (1, .int p0), (2, .int p1)]) hx hb (dk_at dkX9_takeOnWithLean 11 rfl) hl (by decide) rfl (fun ls hl => ?_)
  refine lv_iload_n hx hb (dk_at dkX9_takeOnWithLean 12 rfl) rfl (lv_at hl 3 rfl) ?_
  have hPc := hP.sub (ws' := []) [] rfl
  have hKc := hK.sub (tys' := []) [] rfl
  refine va_calli (va_runSN (As := [.int p0]) (rest := []) ⟨hx, hb, hml, hown, hts⟩ (sX11_firstRun l dC dI p0 (gi_w gp0 (by decide))) (⟨va_cnB 1 hts (gz_gP mGA_504 goodGA) rfl rfl rfl (nzA_X9_67 hz) (hts _ (List.mem_cons_of_mem _ mGA_1)) hdS_X11_firstRun_X11_1.2 ⟨Nat.le_of_ble_eq_true rfl, Nat.le_of_ble_eq_true rfl⟩, (hts _ (List.mem_cons_of_mem _ mGA_503)), trivial⟩) ⟨bl_I (bl_a bl_P (bl_a bl_K bl_nz)), fun U hU hW => ⟨rfl, by rw [hU]; exact hPc, va_K.moved hW.alike hKc, nzA_warm hW hz⟩⟩ rfl rfl hl.1 rfl (lv_room (Nat.le_of_ble_eq_true rfl)) (dk_at dkX9_takeOnWithLean 13 rfl) ⟨Nat.zero_le _, Nat.zero_le _⟩) hS (fun q _ h => h.elim) (fun q h => h.elim) (fun r_220 u t H1 locs ht hvm hw hB hz1 hk1 hS => ?_)
  obtain ⟨hw, hE⟩ := hw
  have hP := gz_keep hP hk1
  have hF := gf_call (a := r_220) hE hF
  generalize H1 = H at hP hS ⊢
  have gr_220 : gi r_220 0 1 := hw
  refine lv_istore (lv' := [(5, .int r_220), (4, .int r_219), (3, .int r_217), (0, .ref h0), (1, .int p0), (2, .int p1)]) hx hb (dk_at dkX9_takeOnWithLean 14 rfl) hl (by decide) rfl (fun ls hl => ?_)
  refine (lp_sX9_takeOnWithLean h0 bf bh sa months full lean kbf fbf p0 p1 gmonths gfull glean gp0 gp1 hx hb hml hown hts hK hz hA (Nat.le_of_ble_eq_true rfl) (Nat.le_of_ble_eq_true rfl) (Nat.zero_le _) (Nat.zero_le _) (fun z1 H locs ls hF hP hD hS hl => ?_) 1000000000) r_217 r_219 r_220 fbf _ _ _ gr_217 gr_219 (gi_w gr_220 (by decide)) hF (by have qgr_220 := gr_220.1; have rgr_220 := gr_220.2; omega) hP hD hS (lv_sub hl [3, 4, 5, 2, 1, 0] rfl)
  · skip
    exact W.vret hx hb hr (fun t ht hW => ⟨⟨(), rfl, trivial, z1, hF.trans hR9.symm, by rw [ht]; exact hP, hD⟩, hS.F ht⟩) hS.2.2 (dk_at dkX9_takeOnWithLean 49 rfl)
noncomputable def lsX9_beginOf : List (Nat × Instr × Nat) := [(0, .iload_n 1, 1), (1, .istore_n 3, 1), (2, .iconst 0, 1), (3, .istore 4, 2), (5, .iconst 0, 1), (6, .istore 5, 2), (8, .iconst 0, 1), (9, .istore 6, 2), (11, .iload 6, 2), (13, .iload_n 2, 1), (14, .if_icmp .ge 64, 3), (17, .aload_n 0, 1), (18, .iload 6, 2), (20, .iload 4, 2), (22, .iload 5, 2), (24, .invokevirtual 89, 3), (27, .istore 7, 2), (29, .iload_n 3, 1), (30, .iload 7, 2), (32, .if_icmp .ge 21, 3), (35, .iload 5, 2), (37, .aload_n 0, 1), (38, .getfield 31, 3), (41, .aload_n 0, 1), (42, .getfield 35, 3), (45, .invokestatic 78, 3), (48, .istore 5, 2), (50, .goto 22, 3), (53, .iload_n 3, 1), (54, .iload 7, 2), (56, .isub, 1), (57, .istore_n 3, 1), (58, .iload 5, 2), (60, .aload_n 0, 1), (61, .getfield 31, 3), (64, .invokestatic 74, 3), (67, .istore 5, 2), (69, .iinc 4 1, 3), (72, .iinc 6 1, 3), (75, .goto (-64), 3), (78, .iload_n 2, 1), (79, .iload 4, 2), (81, .invokestatic 95, 3), (84, .ireturn, 1)]
theorem dkX9_beginOf : dkAll cX9_beginOf lsX9_beginOf = true := dk_fast (by decide +kernel)
noncomputable def bfX9_beginOf_72 (full : Int32) (lean : Int32) (fbh : Nat → Int32) (p0 : Int32) (p1 : Int32) (K : (Int32 → Int32 → Int32 → Int32 → Int32)) (v3 : Int32) (v4 : Int32) (v5 : Int32) (v6 : Int32) : Int32 := K v3 v4 v5 (v6 + (1 : Int32))
noncomputable def dfX9_beginOf_11 (full : Int32) (lean : Int32) (fbh : Nat → Int32) (p0 : Int32) (p1 : Int32) (K : (Int32 → Int32 → Int32 → Int32 → Int32)) (v3 : Int32) (v4 : Int32) (v5 : Int32) (v6 : Int32) : Int32 := if p1 ≤ v6 then (cal (fun o1 => o1) (fX11_dayOf p1 v4)) else (cal (fun o2 => if o2 ≤ v3 then (cal (fun o3 => bfX9_beginOf_72 full lean fbh p0 p1 K (v3 - o2) (v4 + (1 : Int32)) o3 v6) (fX11_runWithFull v5 full)) else (cal (fun o4 => bfX9_beginOf_72 full lean fbh p0 p1 K v3 v4 o4 v6) (fX11_runWithLean v5 full lean))) (fX9_withLean full lean fbh v6 v4 v5))
noncomputable def lfX9_beginOf (full : Int32) (lean : Int32) (fbh : Nat → Int32) (p0 : Int32) (p1 : Int32) (z : Nat) : (Int32 → Int32 → Int32 → Int32 → Int32) := Nat.rec (motive := fun _ => (Int32 → Int32 → Int32 → Int32 → Int32)) (fun _ _ _ _ => (0)) (fun _ K => dfX9_beginOf_11 full lean fbh p0 p1 K) z
noncomputable def fX9_beginOf (full : Int32) (lean : Int32) (fbh : Nat → Int32) (p0 : Int32) (p1 : Int32) : Int32 := (lfX9_beginOf full lean fbh p0 p1 1000000000) p0 (0 : Int32) (0 : Int32) (0 : Int32)
set_option maxHeartbeats 4000000 in
set_option maxRecDepth 100000 in
theorem lp_sX9_beginOf {p : Program} {l : Launch} {e : Env} {R : Room} {s : State} {m : MethodId} {args : Array Value} {below : List Frame} {meth : Method} {c : Code} {Q : State → Prop} {A : Nat → Prop} {cells slots : Nat} {dC : Nat → ClassId} {dI : Nat → Nat → Nat} {RES : Int32} (h0 : Nat) (bh : Nat) (bf : Nat) (sa : Nat) (months : Int32) (full : Int32) (lean : Int32) (kbh : ClassId) (fbh : Nat → Int32) (p0 : Int32) (p1 : Int32) (gmonths : gi months 0 24) (gfull : gi full 0 5) (glean : gi lean 0 5) (gp1 : gi p1 0 24) (hx : p.tables.exec = Jvm.exec) (hb : c.code = cX9_beginOf) (hml : c.maxLocals = 8) (hown : s.vm.findClass RX9 = some m.cls) (hts : ∀ w ∈ ((.code yX9_beginOf cX9_beginOf 8 (some .int) :: wsGA) : List Cond), w.before args s = true) (hK : va_K (dC, dI) vwCl [(kbh, .int)] s) (hz : nzA s) (hRf : 3 ≤ R.frames) (hRl : 66 ≤ R.locals) (hRc : cells ≤ R.cells) (hRs : slots ≤ R.slots) (kr84 : ∀ (v : Int32) (H : Heap) (locs : List Loc) (ls : Array Slot), v = RES → va_P (dC, dI) vwCl [(h0, .inr (9, [.ref bf, .ref bh, .ref sa, .int months, .int full, .int lean])), (bh, .inl (kbh, 3575, .inl fbh))] H → va_S A s.heap H locs → lv_has ls 8 [] → W p l e R s m args below meth c H locs cells slots Q (F0 m 84 ls [.int v])) : ∀ z : Nat, (∀ (v3 : Int32) (v4 : Int32) (v5 : Int32) (v6 : Int32) (H : Heap) (locs : List Loc) (ls : Array Slot), gi v4 0 24 → gi v5 0 10 → gi v6 0 24 → v4.toInt ≤ v6.toInt → (lfX9_beginOf full lean fbh p0 p1 z) v3 v4 v5 v6 = RES → 49 + (-2) * v6.toInt < (z : Int) → va_P (dC, dI) vwCl [(h0, .inr (9, [.ref bf, .ref bh, .ref sa, .int months, .int full, .int lean])), (bh, .inl (kbh, 3575, .inl fbh))] H → va_S A s.heap H locs → lv_has ls 8 [(0, .ref h0), (1, .int p0), (2, .int p1), (3, .int v3), (4, .int v4), (5, .int v5), (6, .int v6)] → W p l e R s m args below meth c H locs cells slots Q (F0 m 11 ls [])) := by
  intro z
  induction z with
  | zero =>
    intro v3 v4 v5 v6 H locs ls gv4 gv5 gv6 hle_gv4_gv6 hF hmu hP hS hl
    exact absurd hmu (by have hv61 := gv6.1; have hv62 := gv6.2; omega)
  | succ z ih =>
      intro v3 v4 v5 v6 H locs ls gv4 gv5 gv6 hle_gv4_gv6 hF hmu hP hS hl
      have hF : dfX9_beginOf_11 full lean fbh p0 p1 (lfX9_beginOf full lean fbh p0 p1 z) v3 v4 v5 v6 = RES := hF
      refine lv_iload hx hb (dk_at dkX9_beginOf 8 rfl) (lv_at hl 6 rfl) ?_
      refine lv_iload_n hx hb (dk_at dkX9_beginOf 9 rfl) rfl (lv_at hl 2 rfl) ?_
      refine lv_icmp_ge (tgt := 78) hx hb (dk_at dkX9_beginOf 10 rfl) (by decide) (fun c_212 => ?_) (fun c_212 => ?_)
      · have hF := gf_pos c_212 hF
        refine lv_iload_n hx hb (dk_at dkX9_beginOf 40 rfl) rfl (lv_at hl 2 rfl) ?_
        refine lv_iload hx hb (dk_at dkX9_beginOf 41 rfl) (lv_at hl 4 rfl) ?_
        have hPc := hP.sub (ws' := []) [] rfl
        have hKc := hK.sub (tys' := []) [] rfl
        refine va_calli (va_runSN (As := [.int p1, .int v4]) (rest := []) ⟨hx, hb, hml, hown, hts⟩ (sX11_dayOf l dC dI p1 v4) (⟨va_cnB 2 hts (gz_gP mGA_516 goodGA) rfl rfl rfl (nzA_X9_95 hz) (hts _ (List.mem_cons_of_mem _ mGA_1)) hdS_X11_dayOf_X11_2.2 ⟨Nat.le_trans (Nat.le_of_ble_eq_true rfl) hRf, Nat.le_trans (Nat.le_of_ble_eq_true rfl) hRl⟩, (hts _ (List.mem_cons_of_mem _ mGA_515)), trivial⟩) ⟨bl_I (bl_a bl_P (bl_a bl_K bl_nz)), fun U hU hW => ⟨rfl, by rw [hU]; exact hPc, va_K.moved hW.alike hKc, nzA_warm hW hz⟩⟩ rfl rfl hl.1 rfl (lv_room (Nat.le_of_ble_eq_true rfl)) (dk_at dkX9_beginOf 42 rfl) ⟨hRc, hRs⟩) hS (fun q _ h => h.elim) (fun q h => h.elim) (fun r_213 u t H1 locs ht hvm hw hB hz1 hk1 hS => ?_)
        obtain ⟨hw, hE⟩ := hw
        have hP := gz_keep hP hk1
        have hF := gf_call (a := r_213) hE hF
        generalize H1 = H at hP hS ⊢
        exact kr84 r_213 _ _ _ hF hP hS (lv_sub hl [] rfl)
      · have hF := gf_neg c_212 hF
        have g_214 : gi v6 0 23 := gi_lt_l (Int32.not_le.mp c_212) gv6 gp1 (by decide)
        have g_215 : gi v4 0 23 := gi_rel hle_gv4_gv6 gv4 g_214
        have g_216 : gi p1 1 24 := gi_lt_r (Int32.not_le.mp c_212) gv6 gp1 (by decide)
        refine lv_aload_n hx hb (dk_at dkX9_beginOf 11 rfl) rfl (lv_at hl 0 rfl) ?_
        refine lv_iload hx hb (dk_at dkX9_beginOf 12 rfl) (lv_at hl 6 rfl) ?_
        refine lv_iload hx hb (dk_at dkX9_beginOf 13 rfl) (lv_at hl 4 rfl) ?_
        refine lv_iload hx hb (dk_at dkX9_beginOf 14 rfl) (lv_at hl 5 rfl) ?_
        refine va_calli (va_runV (As := [.int v6, .int v4, .int v5]) (rest := []) ⟨hx, hb, hml, hown, hts⟩ (sX9_withLean l dC dI h0 bh bf sa months full lean kbh fbh v6 v4 v5 gmonths gfull glean g_214 (gi_w g_215 (by decide)) gv5) (cwV 3 hts (gz_gV mGA_599 mGA_600 mGA_601 mGA_27 mGA_602 goodGA) rfl rfl rfl hdV_X9_withLean_X9_3 ⟨Nat.le_trans (Nat.le_of_ble_eq_true rfl) hRf, Nat.le_trans (Nat.le_of_ble_eq_true rfl) hRl⟩) ⟨bl_I (bl_a bl_P (bl_a bl_K bl_nz)), va_recv hK hP (ci := 9) (q0 := 0) rfl rfl, fun U hU hW => ⟨rfl, by rw [hU]; exact hP, va_K.moved hW.alike hK, nzA_warm hW hz⟩⟩ rfl rfl hl.1 rfl (lv_room (Nat.le_of_ble_eq_true rfl)) (dk_at dkX9_beginOf 15 rfl) ⟨hRc, hRs⟩) hS (fun q _ h => h.elim) (fun q h => h.elim) (fun r_217 u t H1 locs ht hvm hw hB hz1 hk1 hS => ?_)
        obtain ⟨hw, hE⟩ := hw
        have hP := gz_keep hP hk1
        have hF := gf_call (a := r_217) hE hF
        generalize H1 = H at hP hS ⊢
        refine lv_istore (lv' := [(7, .int r_217), (0, .ref h0), (1, .int p0), (2, .int p1), (3, .int v3), (4, .int v4), (5, .int v5), (6, .int v6)]) hx hb (dk_at dkX9_beginOf 16 rfl) hl (by decide) rfl (fun ls hl => ?_)
        refine lv_iload_n hx hb (dk_at dkX9_beginOf 17 rfl) rfl (lv_at hl 4 rfl) ?_
        refine lv_iload hx hb (dk_at dkX9_beginOf 18 rfl) (lv_at hl 0 rfl) ?_
        refine lv_icmp_ge (tgt := 53) hx hb (dk_at dkX9_beginOf 19 rfl) (by decide) (fun c_218 => ?_) (fun c_218 => ?_)
        · have hF := gf_pos c_218 hF
          refine lv_iload_n hx hb (dk_at dkX9_beginOf 28 rfl) rfl (lv_at hl 4 rfl) ?_
          refine lv_iload hx hb (dk_at dkX9_beginOf 29 rfl) (lv_at hl 0 rfl) ?_
          refine lv_isub hx hb (dk_at dkX9_beginOf 30 rfl) ?_
          refine lv_topi (fun x_219 ex_219 => ?_)
          refine lv_istore_n (lv' := [(3, .int x_219), (7, .int r_217), (0, .ref h0), (1, .int p0), (2, .int p1), (4, .int v4), (5, .int v5), (6, .int v6)]) hx hb (dk_at dkX9_beginOf 31 rfl) rfl hl (by decide) rfl (fun ls hl => ?_)
          refine lv_iload hx hb (dk_at dkX9_beginOf 32 rfl) (lv_at hl 6 rfl) ?_
          refine lv_aload_n hx hb (dk_at dkX9_beginOf 33 rfl) rfl (lv_at hl 2 rfl) ?_
          refine va_get (D := (dC, dI)) (ci := 9) (v := .int full) (C := RX9) (T := TX9) (N := 6) hx hb hts (fun w h => List.mem_cons_of_mem _ (jnGA_X9 w h)) hown hK hP 0 rfl rfl 4 (by decide) (hts _ (List.mem_cons_of_mem _ mGA_562)) (fun _ h9 => h9) rfl (dk_at dkX9_beginOf 34 rfl) ?_
          have hPc := hP.sub (ws' := []) [] rfl
          have hKc := hK.sub (tys' := []) [] rfl
          refine va_calli (va_runSN (As := [.int v5, .int full]) (rest := []) ⟨hx, hb, hml, hown, hts⟩ (sX11_runWithFull l dC dI v5 full gv5 gfull) (⟨va_cnB 2 hts (gz_gP mGA_508 goodGA) rfl rfl rfl (nzA_X9_74 hz) (hts _ (List.mem_cons_of_mem _ mGA_1)) hdS_X11_runWithFull_X11_2.2 ⟨Nat.le_trans (Nat.le_of_ble_eq_true rfl) hRf, Nat.le_trans (Nat.le_of_ble_eq_true rfl) hRl⟩, (hts _ (List.mem_cons_of_mem _ mGA_507)), trivial⟩) ⟨bl_I (bl_a bl_P (bl_a bl_K bl_nz)), fun U hU hW => ⟨rfl, by rw [hU]; exact hPc, va_K.moved hW.alike hKc, nzA_warm hW hz⟩⟩ rfl rfl hl.1 rfl (lv_room (Nat.le_of_ble_eq_true rfl)) (dk_at dkX9_beginOf 35 rfl) ⟨hRc, hRs⟩) hS (fun q _ h => h.elim) (fun q h => h.elim) (fun r_220 u t H1 locs ht hvm hw hB hz1 hk1 hS => ?_)
          obtain ⟨hw, hE⟩ := hw
          have hP := gz_keep hP hk1
          have hF := gf_call (a := r_220) hE hF
          generalize H1 = H at hP hS ⊢
          have gr_220 : gi r_220 0 5 := hw
          refine lv_istore (lv' := [(5, .int r_220), (3, .int x_219), (7, .int r_217), (0, .ref h0), (1, .int p0), (2, .int p1), (4, .int v4), (6, .int v6)]) hx hb (dk_at dkX9_beginOf 36 rfl) hl (by decide) rfl (fun ls hl => ?_)
          obtain ⟨x_221, ex_221⟩ : ∃ y : Int32, y = v4 + 1 := ⟨_, rfl⟩
          have gx_221 : gi x_221 1 24 := gi_add ex_221 g_215 (gi_c 1 1 (by decide)) (by decide)
          refine lv_iinc (v := x_221) (lv' := [(4, .int x_221), (5, .int r_220), (3, .int x_219), (7, .int r_217), (0, .ref h0), (1, .int p0), (2, .int p1), (6, .int v6)]) hx hb (dk_at dkX9_beginOf 37 rfl) hl (k := 6) rfl (by rw [ex_221]; rfl) (by decide) rfl (fun ls hl => ?_)
          obtain ⟨x_222, ex_222⟩ : ∃ y : Int32, y = v6 + 1 := ⟨_, rfl⟩
          have gx_222 : gi x_222 1 24 := gi_add ex_222 g_214 (gi_c 1 1 (by decide)) (by decide)
          refine lv_iinc (v := x_222) (lv' := [(6, .int x_222), (4, .int x_221), (5, .int r_220), (3, .int x_219), (7, .int r_217), (0, .ref h0), (1, .int p0), (2, .int p1)]) hx hb (dk_at dkX9_beginOf 38 rfl) hl (k := 7) rfl (by rw [ex_222]; rfl) (by decide) rfl (fun ls hl => ?_)
          refine lv_goto (tgt := 11) hx hb (dk_at dkX9_beginOf 39 rfl) (by decide) ?_
          exact ih x_219 x_221 r_220 x_222 _ _ _ (gi_w gx_221 (by decide)) (gi_w gr_220 (by decide)) (gi_w gx_222 (by decide)) (by have qgx_222 := gx_222.1; have rgx_222 := gx_222.2; have igx_222 : x_222.toInt = v6.toInt + 1 := (by have hc1 : (1 : Int32).toInt = 1 := (by decide); have h9 := gi_addE ex_222 g_214 (gi_c 1 1 (by decide)) (by decide); rw [hc1] at h9; exact h9); have qgv6 := g_214.1; have rgv6 := g_214.2; have qgx_221 := gx_221.1; have rgx_221 := gx_221.2; have igx_221 : x_221.toInt = v4.toInt + 1 := (by have hc1 : (1 : Int32).toInt = 1 := (by decide); have h9 := gi_addE ex_221 g_215 (gi_c 1 1 (by decide)) (by decide); rw [hc1] at h9; exact h9); have qgv4 := g_215.1; have rgv4 := g_215.2; have y1 := (Int32.lt_iff_toInt_lt.mp (Int32.not_le.mp c_212)); have y2 := (Int32.le_iff_toInt_le.mp c_218); omega) (by first | (rw [ex_222, ex_221, ex_219]; exact hF) | ((try rw [ex_222]); (try rw [ex_221]); (try rw [ex_219]); exact hF)) (by have av6 := gv6.1; have bv6 := gv6.2; have qgx_222 := gx_222.1; have rgx_222 := gx_222.2; have igx_222 : x_222.toInt = v6.toInt + 1 := (by have hc1 : (1 : Int32).toInt = 1 := (by decide); have h9 := gi_addE ex_222 g_214 (gi_c 1 1 (by decide)) (by decide); rw [hc1] at h9; exact h9); have qgv6 := g_214.1; have rgv6 := g_214.2; omega) hP hS (lv_sub hl [5, 6, 7, 3, 1, 2, 0] rfl)
        · have hF := gf_neg c_218 hF
          have g_223 : gi v3 (-2147483648) 2147483646 := gi_lt_l (Int32.not_le.mp c_218) (gi_any v3) (gi_any r_217) (by decide)
          have g_224 : gi r_217 (-2147483647) 2147483647 := gi_lt_r (Int32.not_le.mp c_218) (gi_any v3) (gi_any r_217) (by decide)
          refine lv_iload hx hb (dk_at dkX9_beginOf 20 rfl) (lv_at hl 6 rfl) ?_
          refine lv_aload_n hx hb (dk_at dkX9_beginOf 21 rfl) rfl (lv_at hl 1 rfl) ?_
          refine va_get (D := (dC, dI)) (ci := 9) (v := .int full) (C := RX9) (T := TX9) (N := 6) hx hb hts (fun w h => List.mem_cons_of_mem _ (jnGA_X9 w h)) hown hK hP 0 rfl rfl 4 (by decide) (hts _ (List.mem_cons_of_mem _ mGA_562)) (fun _ h9 => h9) rfl (dk_at dkX9_beginOf 22 rfl) ?_
          refine lv_aload_n hx hb (dk_at dkX9_beginOf 23 rfl) rfl (lv_at hl 1 rfl) ?_
          refine va_get (D := (dC, dI)) (ci := 9) (v := .int lean) (C := RX9) (T := TX9) (N := 6) hx hb hts (fun w h => List.mem_cons_of_mem _ (jnGA_X9 w h)) hown hK hP 0 rfl rfl 5 (by decide) (hts _ (List.mem_cons_of_mem _ mGA_564)) (fun _ h9 => h9) rfl (dk_at dkX9_beginOf 24 rfl) ?_
          have hPc := hP.sub (ws' := []) [] rfl
          have hKc := hK.sub (tys' := []) [] rfl
          refine va_calli (va_runSN (As := [.int v5, .int full, .int lean]) (rest := []) ⟨hx, hb, hml, hown, hts⟩ (sX11_runWithLean l dC dI v5 full lean gv5 gfull glean) (⟨va_cnB 3 hts (gz_gP mGA_510 goodGA) rfl rfl rfl (nzA_X9_78 hz) (hts _ (List.mem_cons_of_mem _ mGA_1)) hdS_X11_runWithLean_X11_3.2 ⟨Nat.le_trans (Nat.le_of_ble_eq_true rfl) hRf, Nat.le_trans (Nat.le_of_ble_eq_true rfl) hRl⟩, (hts _ (List.mem_cons_of_mem _ mGA_509)), trivial⟩) ⟨bl_I (bl_a bl_P (bl_a bl_K bl_nz)), fun U hU hW => ⟨rfl, by rw [hU]; exact hPc, va_K.moved hW.alike hKc, nzA_warm hW hz⟩⟩ rfl rfl hl.1 rfl (lv_room (Nat.le_of_ble_eq_true rfl)) (dk_at dkX9_beginOf 25 rfl) ⟨hRc, hRs⟩) hS (fun q _ h => h.elim) (fun q h => h.elim) (fun r_225 u t H1 locs ht hvm hw hB hz1 hk1 hS => ?_)
          obtain ⟨hw, hE⟩ := hw
          have hP := gz_keep hP hk1
          have hF := gf_call (a := r_225) hE hF
          generalize H1 = H at hP hS ⊢
          have gr_225 : gi r_225 0 10 := hw
          refine lv_istore (lv' := [(5, .int r_225), (7, .int r_217), (0, .ref h0), (1, .int p0), (2, .int p1), (3, .int v3), (4, .int v4), (6, .int v6)]) hx hb (dk_at dkX9_beginOf 26 rfl) hl (by decide) rfl (fun ls hl => ?_)
          refine lv_goto (tgt := 72) hx hb (dk_at dkX9_beginOf 27 rfl) (by decide) ?_
          obtain ⟨x_226, ex_226⟩ : ∃ y : Int32, y = v6 + 1 := ⟨_, rfl⟩
          have gx_226 : gi x_226 1 24 := gi_add ex_226 g_214 (gi_c 1 1 (by decide)) (by decide)
          refine lv_iinc (v := x_226) (lv' := [(6, .int x_226), (5, .int r_225), (7, .int r_217), (0, .ref h0), (1, .int p0), (2, .int p1), (3, .int v3), (4, .int v4)]) hx hb (dk_at dkX9_beginOf 38 rfl) hl (k := 7) rfl (by rw [ex_226]; rfl) (by decide) rfl (fun ls hl => ?_)
          refine lv_goto (tgt := 11) hx hb (dk_at dkX9_beginOf 39 rfl) (by decide) ?_
          exact ih v3 v4 r_225 x_226 _ _ _ (gi_w g_215 (by decide)) gr_225 (gi_w gx_226 (by decide)) (by have qgx_226 := gx_226.1; have rgx_226 := gx_226.2; have igx_226 : x_226.toInt = v6.toInt + 1 := (by have hc1 : (1 : Int32).toInt = 1 := (by decide); have h9 := gi_addE ex_226 g_214 (gi_c 1 1 (by decide)) (by decide); rw [hc1] at h9; exact h9); have qgv6 := g_214.1; have rgv6 := g_214.2; have qgv4 := g_215.1; have rgv4 := g_215.2; have y1 := (Int32.lt_iff_toInt_lt.mp (Int32.not_le.mp c_212)); have y2 := (Int32.lt_iff_toInt_lt.mp (Int32.not_le.mp c_218)); omega) (by first | (rw [ex_226]; exact hF) | ((try rw [ex_226]); exact hF)) (by have av6 := gv6.1; have bv6 := gv6.2; have qgx_226 := gx_226.1; have rgx_226 := gx_226.2; have igx_226 : x_226.toInt = v6.toInt + 1 := (by have hc1 : (1 : Int32).toInt = 1 := (by decide); have h9 := gi_addE ex_226 g_214 (gi_c 1 1 (by decide)) (by decide); rw [hc1] at h9; exact h9); have qgv6 := g_214.1; have rgv6 := g_214.2; omega) hP hS (lv_sub hl [3, 4, 5, 6, 7, 1, 0] rfl)
set_option maxHeartbeats 4000000 in
set_option maxRecDepth 100000 in
theorem sX9_beginOf (l : Launch) (dC : Nat → ClassId) (dI : Nat → Nat → Nat) (h0 : Nat) (bh : Nat) (bf : Nat) (sa : Nat) (months : Int32) (full : Int32) (lean : Int32) (kbh : ClassId) (fbh : Nat → Int32) (p0 : Int32) (p1 : Int32) (gmonths : gi months 0 24) (gfull : gi full 0 5) (glean : gi lean 0 5) (gp1 : gi p1 0 24) : Met l yX9_beginOf (.code yX9_beginOf cX9_beginOf 8 (some .int) :: wsGA) ({ frames := 3, cells := 0, slots := 0, locals := 66 }) (va_Pc [.ref h0, .int p0, .int p1] (fun U => va_P (dC, dI) vwCl [(h0, .inr (9, [.ref bf, .ref bh, .ref sa, .int months, .int full, .int lean])), (bh, .inl (kbh, 3575, .inl fbh))] U.heap ∧ va_K (dC, dI) vwCl [(kbh, .int)] U ∧ nzA U)) (va_Qi (fun (r : Int32) (u : Unit) => (gi r (-2147483648) 2147483647) ∧ r = fX9_beginOf full lean fbh p0 p1) (fun _ _ => True) (fun _ => False)) 0 0 (fun _ => False) := by
  refine Met.ofW (cc := cX9_beginOf) (maxL := 8) (ret := (some .int)) (by decide) rfl ?_
  intro p e s m args below meth c s₁ B hml hv
  obtain ⟨rfl, hP, hK, hz⟩ := hv
  have hx := B.exec
  have hb := B.bytes
  have hr := B.returns
  have hts := atoms_spec (ws := (.code yX9_beginOf cX9_beginOf 8 (some .int) :: wsGA)) B.pre
  have hown : s.vm.findClass RX9 = some m.cls := findClass_of_methodNamed B.named
  have hlocks := B.notSynchronized
  have hS : va_S (fun _ => False) s.heap s.heap [] := va_S.rf
  have hl := lv_entry ([.ref h0, .int p0, .int p1]) (n := 8) (Nat.le_of_ble_eq_true rfl)
  rw [lg_entry_eq]
  generalize (lg_sl ([.ref h0, .int p0, .int p1]) ++ List.replicate (8 - (lg_sl ([.ref h0, .int p0, .int p1])).length) Slot.unset).toArray = ls at hl ⊢
  have hl : lv_has ls 8 [(0, .ref h0), (1, .int p0), (2, .int p1)] := hl
  obtain ⟨RES, hF⟩ : ∃ R9, fX9_beginOf full lean fbh p0 p1 = R9 := ⟨_, rfl⟩
  have hR9 := hF
  refine lv_iload_n hx hb (dk_at dkX9_beginOf 0 rfl) rfl (lv_at hl 1 rfl) ?_
  refine lv_istore_n (lv' := [(3, .int p0), (0, .ref h0), (1, .int p0), (2, .int p1)]) hx hb (dk_at dkX9_beginOf 1 rfl) rfl hl (by decide) rfl (fun ls hl => ?_)
  refine lv_iconst (v := 0) hx hb (dk_at dkX9_beginOf 2 rfl) (by decide) ?_
  refine lv_istore (lv' := [(4, .int 0), (3, .int p0), (0, .ref h0), (1, .int p0), (2, .int p1)]) hx hb (dk_at dkX9_beginOf 3 rfl) hl (by decide) rfl (fun ls hl => ?_)
  refine lv_iconst (v := 0) hx hb (dk_at dkX9_beginOf 4 rfl) (by decide) ?_
  refine lv_istore (lv' := [(5, .int 0), (4, .int 0), (3, .int p0), (0, .ref h0), (1, .int p0), (2, .int p1)]) hx hb (dk_at dkX9_beginOf 5 rfl) hl (by decide) rfl (fun ls hl => ?_)
  refine lv_iconst (v := 0) hx hb (dk_at dkX9_beginOf 6 rfl) (by decide) ?_
  refine lv_istore (lv' := [(6, .int 0), (5, .int 0), (4, .int 0), (3, .int p0), (0, .ref h0), (1, .int p0), (2, .int p1)]) hx hb (dk_at dkX9_beginOf 7 rfl) hl (by decide) rfl (fun ls hl => ?_)
  refine (lp_sX9_beginOf h0 bh bf sa months full lean kbh fbh p0 p1 gmonths gfull glean gp1 hx hb hml hown hts hK hz (Nat.le_of_ble_eq_true rfl) (Nat.le_of_ble_eq_true rfl) (Nat.zero_le _) (Nat.zero_le _) (fun v H locs ls hF hP hS hl => ?_) 1000000000) p0 0 0 0 _ _ _ (gi_w (gi_c 0 0 (by decide)) (by decide)) (gi_w (gi_c 0 0 (by decide)) (by decide)) (gi_w (gi_c 0 0 (by decide)) (by decide)) (by have k0 : (0 : Int32).toInt = 0 := (by decide); have k0 : (0 : Int32).toInt = 0 := (by decide); omega) hF (by have k0 : (0 : Int32).toInt = 0 := (by decide); omega) hP hS (lv_sub hl [4, 5, 6, 3, 2, 1, 0] rfl)
  · skip
    exact W.iret (v := v) hx hb hr (fun t ht hW => ⟨⟨v, (), rfl, ⟨(gi_any v), hF.trans hR9.symm⟩, trivial⟩, hS.F ht⟩) hS.2.2 (dk_at dkX9_beginOf 43 rfl)
noncomputable def lsX9_indexOf : List (Nat × Instr × Nat) := [(0, .iconst 0, 1), (1, .istore_n 2, 1), (2, .iconst 0, 1), (3, .istore_n 3, 1), (4, .iconst 0, 1), (5, .istore 4, 2), (7, .iconst 0, 1), (8, .istore 5, 2), (10, .iload 5, 2), (12, .aload_n 0, 1), (13, .getfield 27, 3), (16, .if_icmp .ge 82, 3), (19, .iload_n 1, 1), (20, .iload 5, 2), (22, .ishr, 1), (23, .iconst 1, 1), (24, .iand, 1), (25, .ifCond .eq 32, 3), (28, .iload_n 2, 1), (29, .aload_n 0, 1), (30, .iload 5, 2), (32, .iload_n 3, 1), (33, .iload 4, 2), (35, .invokevirtual 89, 3), (38, .iadd, 1), (39, .istore_n 2, 1), (40, .iload 4, 2), (42, .aload_n 0, 1), (43, .getfield 31, 3), (46, .invokestatic 74, 3), (49, .istore 4, 2), (51, .iinc 3 1, 3), (54, .goto 18, 3), (57, .iload 4, 2), (59, .aload_n 0, 1), (60, .getfield 31, 3), (63, .aload_n 0, 1), (64, .getfield 35, 3), (67, .invokestatic 78, 3), (70, .istore 4, 2), (72, .aload_n 0, 1), (73, .getfield 15, 3), (76, .iload 5, 2), (78, .iconst 1, 1), (79, .iadd, 1), (80, .iload_n 3, 1), (81, .iload 4, 2), (83, .invokestatic 63, 3), (86, .iaload, 1), (87, .ifCond .ne 5, 3), (90, .iconst (-1), 1), (91, .ireturn, 1), (92, .iinc 5 1, 3), (95, .goto (-85), 3), (98, .iload_n 2, 1), (99, .ireturn, 1)]
theorem dkX9_indexOf : dkAll cX9_indexOf lsX9_indexOf = true := dk_fast (by decide +kernel)
noncomputable def bfX9_indexOf_72 (months : Int32) (full : Int32) (lean : Int32) (fbh : Nat → Int32) (p0 : Int32) (K : (Int32 → Int32 → Int32 → Int32 → Int32)) (v2 : Int32) (v3 : Int32) (v4 : Int32) (v5 : Int32) : Int32 := cal (fun o4 => if (fbh o4.toNatClampNeg) = (0 : Int32) then (-1 : Int32) else (K v2 v3 v4 (v5 + (1 : Int32)))) (fX11_spot (v5 + (1 : Int32)) v3 v4)
noncomputable def dfX9_indexOf_10 (months : Int32) (full : Int32) (lean : Int32) (fbh : Nat → Int32) (p0 : Int32) (K : (Int32 → Int32 → Int32 → Int32 → Int32)) (v2 : Int32) (v3 : Int32) (v4 : Int32) (v5 : Int32) : Int32 := if months ≤ v5 then v2 else (if ((p0 >>> (v5 &&& 31)) &&& (1 : Int32)) = (0 : Int32) then (cal (fun o1 => bfX9_indexOf_72 months full lean fbh p0 K v2 v3 o1 v5) (fX11_runWithLean v4 full lean)) else (cal (fun o2 => cal (fun o3 => bfX9_indexOf_72 months full lean fbh p0 K (v2 + o2) (v3 + (1 : Int32)) o3 v5) (fX11_runWithFull v4 full)) (fX9_withLean full lean fbh v5 v3 v4)))
noncomputable def lfX9_indexOf (months : Int32) (full : Int32) (lean : Int32) (fbh : Nat → Int32) (p0 : Int32) (z : Nat) : (Int32 → Int32 → Int32 → Int32 → Int32) := Nat.rec (motive := fun _ => (Int32 → Int32 → Int32 → Int32 → Int32)) (fun _ _ _ _ => (0)) (fun _ K => dfX9_indexOf_10 months full lean fbh p0 K) z
noncomputable def fX9_indexOf (months : Int32) (full : Int32) (lean : Int32) (fbh : Nat → Int32) (p0 : Int32) : Int32 := (lfX9_indexOf months full lean fbh p0 1000000000) (0 : Int32) (0 : Int32) (0 : Int32) (0 : Int32)
set_option maxHeartbeats 4000000 in
set_option maxRecDepth 100000 in
theorem lp_sX9_indexOf {p : Program} {l : Launch} {e : Env} {R : Room} {s : State} {m : MethodId} {args : Array Value} {below : List Frame} {meth : Method} {c : Code} {Q : State → Prop} {A : Nat → Prop} {cells slots : Nat} {dC : Nat → ClassId} {dI : Nat → Nat → Nat} {RES : Int32} (h0 : Nat) (bh : Nat) (bf : Nat) (sa : Nat) (months : Int32) (full : Int32) (lean : Int32) (kbh : ClassId) (fbh : Nat → Int32) (p0 : Int32) (gmonths : gi months 0 24) (gfull : gi full 0 5) (glean : gi lean 0 5) (hx : p.tables.exec = Jvm.exec) (hb : c.code = cX9_indexOf) (hml : c.maxLocals = 6) (hown : s.vm.findClass RX9 = some m.cls) (hts : ∀ w ∈ ((.code yX9_indexOf cX9_indexOf 6 (some .int) :: wsGA) : List Cond), w.before args s = true) (hK : va_K (dC, dI) vwCl [(kbh, .int)] s) (hz : nzA s) (hRf : 3 ≤ R.frames) (hRl : 66 ≤ R.locals) (hRc : cells ≤ R.cells) (hRs : slots ≤ R.slots) (kr99 : ∀ (v : Int32) (H : Heap) (locs : List Loc) (ls : Array Slot), v = RES → va_P (dC, dI) vwCl [(h0, .inr (9, [.ref bf, .ref bh, .ref sa, .int months, .int full, .int lean])), (bh, .inl (kbh, 3575, .inl fbh))] H → va_S A s.heap H locs → lv_has ls 6 [] → W p l e R s m args below meth c H locs cells slots Q (F0 m 99 ls [.int v])) (kr91 : ∀ (v : Int32) (H : Heap) (locs : List Loc) (ls : Array Slot), gi v (-1) (-1) → v = RES → va_P (dC, dI) vwCl [(h0, .inr (9, [.ref bf, .ref bh, .ref sa, .int months, .int full, .int lean])), (bh, .inl (kbh, 3575, .inl fbh))] H → va_S A s.heap H locs → lv_has ls 6 [] → W p l e R s m args below meth c H locs cells slots Q (F0 m 91 ls [.int v])) : ∀ z : Nat, (∀ (v2 : Int32) (v3 : Int32) (v4 : Int32) (v5 : Int32) (H : Heap) (locs : List Loc) (ls : Array Slot), gi v3 0 24 → gi v4 0 10 → gi v5 0 24 → v3.toInt ≤ v5.toInt → (lfX9_indexOf months full lean fbh p0 z) v2 v3 v4 v5 = RES → 49 + (-2) * v5.toInt < (z : Int) → va_P (dC, dI) vwCl [(h0, .inr (9, [.ref bf, .ref bh, .ref sa, .int months, .int full, .int lean])), (bh, .inl (kbh, 3575, .inl fbh))] H → va_S A s.heap H locs → lv_has ls 6 [(0, .ref h0), (1, .int p0), (2, .int v2), (3, .int v3), (4, .int v4), (5, .int v5)] → W p l e R s m args below meth c H locs cells slots Q (F0 m 10 ls [])) := by
  intro z
  induction z with
  | zero =>
    intro v2 v3 v4 v5 H locs ls gv3 gv4 gv5 hle_gv3_gv5 hF hmu hP hS hl
    exact absurd hmu (by have hv51 := gv5.1; have hv52 := gv5.2; omega)
  | succ z ih =>
      intro v2 v3 v4 v5 H locs ls gv3 gv4 gv5 hle_gv3_gv5 hF hmu hP hS hl
      have hF : dfX9_indexOf_10 months full lean fbh p0 (lfX9_indexOf months full lean fbh p0 z) v2 v3 v4 v5 = RES := hF
      refine lv_iload hx hb (dk_at dkX9_indexOf 8 rfl) (lv_at hl 5 rfl) ?_
      refine lv_aload_n hx hb (dk_at dkX9_indexOf 9 rfl) rfl (lv_at hl 0 rfl) ?_
      refine va_get (D := (dC, dI)) (ci := 9) (v := .int months) (C := RX9) (T := TX9) (N := 6) hx hb hts (fun w h => List.mem_cons_of_mem _ (jnGA_X9 w h)) hown hK hP 0 rfl rfl 3 (by decide) (hts _ (List.mem_cons_of_mem _ mGA_560)) (fun _ h9 => h9) rfl (dk_at dkX9_indexOf 10 rfl) ?_
      refine lv_icmp_ge (tgt := 98) hx hb (dk_at dkX9_indexOf 11 rfl) (by decide) (fun c_377 => ?_) (fun c_377 => ?_)
      · have hF := gf_pos c_377 hF
        refine lv_iload_n hx hb (dk_at dkX9_indexOf 54 rfl) rfl (lv_at hl 2 rfl) ?_
        exact kr99 v2 _ _ _ hF hP hS (lv_sub hl [] rfl)
      · have hF := gf_neg c_377 hF
        have g_378 : gi v5 0 23 := gi_lt_l (Int32.not_le.mp c_377) gv5 gmonths (by decide)
        have g_379 : gi v3 0 23 := gi_rel hle_gv3_gv5 gv3 g_378
        have g_380 : gi months 1 24 := gi_lt_r (Int32.not_le.mp c_377) gv5 gmonths (by decide)
        refine lv_iload_n hx hb (dk_at dkX9_indexOf 12 rfl) rfl (lv_at hl 1 rfl) ?_
        refine lv_iload hx hb (dk_at dkX9_indexOf 13 rfl) (lv_at hl 5 rfl) ?_
        refine lv_ishr hx hb (dk_at dkX9_indexOf 14 rfl) ?_
        refine lv_topi (fun x_381 ex_381 => ?_)
        refine lv_iconst (v := 1) hx hb (dk_at dkX9_indexOf 15 rfl) (by decide) ?_
        refine lv_iand hx hb (dk_at dkX9_indexOf 16 rfl) ?_
        refine lv_topi (fun x_382 ex_382 => ?_)
        have gx_382 : gi x_382 0 1 := gi_and1 ex_382
        refine lv_if_eq (tgt := 57) hx hb (dk_at dkX9_indexOf 17 rfl) (by decide) (fun c_383 => ?_) (fun c_383 => ?_)
        · have hF := gf_pos (by rw [ex_382, ex_381] at c_383; exact c_383) hF
          have g_384 : gi x_382 0 0 := gi_eq c_383 (gi_c 0 0 (by decide))
          refine lv_iload hx hb (dk_at dkX9_indexOf 33 rfl) (lv_at hl 4 rfl) ?_
          refine lv_aload_n hx hb (dk_at dkX9_indexOf 34 rfl) rfl (lv_at hl 0 rfl) ?_
          refine va_get (D := (dC, dI)) (ci := 9) (v := .int full) (C := RX9) (T := TX9) (N := 6) hx hb hts (fun w h => List.mem_cons_of_mem _ (jnGA_X9 w h)) hown hK hP 0 rfl rfl 4 (by decide) (hts _ (List.mem_cons_of_mem _ mGA_562)) (fun _ h9 => h9) rfl (dk_at dkX9_indexOf 35 rfl) ?_
          refine lv_aload_n hx hb (dk_at dkX9_indexOf 36 rfl) rfl (lv_at hl 0 rfl) ?_
          refine va_get (D := (dC, dI)) (ci := 9) (v := .int lean) (C := RX9) (T := TX9) (N := 6) hx hb hts (fun w h => List.mem_cons_of_mem _ (jnGA_X9 w h)) hown hK hP 0 rfl rfl 5 (by decide) (hts _ (List.mem_cons_of_mem _ mGA_564)) (fun _ h9 => h9) rfl (dk_at dkX9_indexOf 37 rfl) ?_
          have hPc := hP.sub (ws' := []) [] rfl
          have hKc := hK.sub (tys' := []) [] rfl
          refine va_calli (va_runSN (As := [.int v4, .int full, .int lean]) (rest := []) ⟨hx, hb, hml, hown, hts⟩ (sX11_runWithLean l dC dI v4 full lean gv4 gfull glean) (⟨va_cnB 3 hts (gz_gP mGA_510 goodGA) rfl rfl rfl (nzA_X9_78 hz) (hts _ (List.mem_cons_of_mem _ mGA_1)) hdS_X11_runWithLean_X11_3.2 ⟨Nat.le_trans (Nat.le_of_ble_eq_true rfl) hRf, Nat.le_trans (Nat.le_of_ble_eq_true rfl) hRl⟩, (hts _ (List.mem_cons_of_mem _ mGA_509)), trivial⟩) ⟨bl_I (bl_a bl_P (bl_a bl_K bl_nz)), fun U hU hW => ⟨rfl, by rw [hU]; exact hPc, va_K.moved hW.alike hKc, nzA_warm hW hz⟩⟩ rfl rfl hl.1 rfl (lv_room (Nat.le_of_ble_eq_true rfl)) (dk_at dkX9_indexOf 38 rfl) ⟨hRc, hRs⟩) hS (fun q _ h => h.elim) (fun q h => h.elim) (fun r_385 u t H1 locs ht hvm hw hB hz1 hk1 hS => ?_)
          obtain ⟨hw, hE⟩ := hw
          have hP := gz_keep hP hk1
          have hF := gf_call (a := r_385) hE hF
          generalize H1 = H at hP hS ⊢
          have gr_385 : gi r_385 0 10 := hw
          refine lv_istore (lv' := [(4, .int r_385), (0, .ref h0), (1, .int p0), (2, .int v2), (3, .int v3), (5, .int v5)]) hx hb (dk_at dkX9_indexOf 39 rfl) hl (by decide) rfl (fun ls hl => ?_)
          refine lv_aload_n hx hb (dk_at dkX9_indexOf 40 rfl) rfl (lv_at hl 1 rfl) ?_
          refine va_get (D := (dC, dI)) (ci := 9) (v := .ref bh) (C := RX9) (T := TX9) (N := 6) hx hb hts (fun w h => List.mem_cons_of_mem _ (jnGA_X9 w h)) hown hK hP 0 rfl rfl 1 (by decide) (hts _ (List.mem_cons_of_mem _ mGA_112)) (fun _ h9 => h9) rfl (dk_at dkX9_indexOf 41 rfl) ?_
          refine lv_iload hx hb (dk_at dkX9_indexOf 42 rfl) (lv_at hl 5 rfl) ?_
          refine lv_iconst (v := 1) hx hb (dk_at dkX9_indexOf 43 rfl) (by decide) ?_
          refine lv_iadd hx hb (dk_at dkX9_indexOf 44 rfl) ?_
          refine lv_topi (fun x_386 ex_386 => ?_)
          have gx_386 : gi x_386 1 24 := gi_add ex_386 g_378 (gi_c 1 1 (by decide)) (by decide)
          refine lv_iload_n hx hb (dk_at dkX9_indexOf 45 rfl) rfl (lv_at hl 4 rfl) ?_
          refine lv_iload hx hb (dk_at dkX9_indexOf 46 rfl) (lv_at hl 0 rfl) ?_
          have hPc := hP.sub (ws' := []) [] rfl
          have hKc := hK.sub (tys' := []) [] rfl
          refine va_calli (va_runSN (As := [.int x_386, .int v3, .int r_385]) (rest := [.ref bh]) ⟨hx, hb, hml, hown, hts⟩ (sX11_spot l dC dI x_386 v3 r_385 (gi_w gx_386 (by decide)) (gi_w g_379 (by decide)) gr_385) (⟨va_cnB 3 hts (gz_gP mGA_582 goodGA) rfl rfl rfl (nzA_X9_63 hz) (hts _ (List.mem_cons_of_mem _ mGA_1)) hdS_X11_spot_X11_3.2 ⟨Nat.le_trans (Nat.le_of_ble_eq_true rfl) hRf, Nat.le_trans (Nat.le_of_ble_eq_true rfl) hRl⟩, (hts _ (List.mem_cons_of_mem _ mGA_581)), trivial⟩) ⟨bl_I (bl_a bl_P (bl_a bl_K bl_nz)), fun U hU hW => ⟨rfl, by rw [hU]; exact hPc, va_K.moved hW.alike hKc, nzA_warm hW hz⟩⟩ rfl rfl hl.1 rfl (lv_room (Nat.le_of_ble_eq_true rfl)) (dk_at dkX9_indexOf 47 rfl) ⟨hRc, hRs⟩) hS (fun q _ h => h.elim) (fun q h => h.elim) (fun r_387 u t H1 locs ht hvm hw hB hz1 hk1 hS => ?_)
          obtain ⟨hw, hE⟩ := hw
          have hP := gz_keep hP hk1
          have hF := gf_call (a := r_387) (by rw [ex_386] at hE; exact hE) hF
          generalize H1 = H at hP hS ⊢
          have gr_387 : gi r_387 0 3574 := hw
          refine va_iald hx hb hK hP 1 0 rfl rfl (gi_in gr_387 (by decide)) (dk_at dkX9_indexOf 48 rfl) ?_
          refine lv_topi (fun x_388 ex_388 => ?_)
          refine lv_if_ne (tgt := 92) hx hb (dk_at dkX9_indexOf 49 rfl) (by decide) (fun c_389 => ?_) (fun c_389 => ?_)
          · have hF := gf_neg (by rw [ex_388] at c_389; exact c_389) hF
            obtain ⟨x_390, ex_390⟩ : ∃ y : Int32, y = v5 + 1 := ⟨_, rfl⟩
            have gx_390 : gi x_390 1 24 := gi_add ex_390 g_378 (gi_c 1 1 (by decide)) (by decide)
            refine lv_iinc (v := x_390) (lv' := [(5, .int x_390), (4, .int r_385), (0, .ref h0), (1, .int p0), (2, .int v2), (3, .int v3)]) hx hb (dk_at dkX9_indexOf 52 rfl) hl (k := 5) rfl (by rw [ex_390]; rfl) (by decide) rfl (fun ls hl => ?_)
            refine lv_goto (tgt := 10) hx hb (dk_at dkX9_indexOf 53 rfl) (by decide) ?_
            exact ih v2 v3 r_385 x_390 _ _ _ (gi_w g_379 (by decide)) gr_385 (gi_w gx_390 (by decide)) (by have qgx_390 := gx_390.1; have rgx_390 := gx_390.2; have igx_390 : x_390.toInt = v5.toInt + 1 := (by have hc1 : (1 : Int32).toInt = 1 := (by decide); have h9 := gi_addE ex_390 g_378 (gi_c 1 1 (by decide)) (by decide); rw [hc1] at h9; exact h9); have qgv5 := g_378.1; have rgv5 := g_378.2; have qgv3 := g_379.1; have rgv3 := g_379.2; have y1 := (Int32.lt_iff_toInt_lt.mp (Int32.not_le.mp c_377)); omega) (by first | (rw [ex_390]; exact hF) | ((try rw [ex_390]); exact hF)) (by have av5 := gv5.1; have bv5 := gv5.2; have qgx_390 := gx_390.1; have rgx_390 := gx_390.2; have igx_390 : x_390.toInt = v5.toInt + 1 := (by have hc1 : (1 : Int32).toInt = 1 := (by decide); have h9 := gi_addE ex_390 g_378 (gi_c 1 1 (by decide)) (by decide); rw [hc1] at h9; exact h9); have qgv5 := g_378.1; have rgv5 := g_378.2; omega) hP hS (lv_sub hl [2, 3, 4, 5, 1, 0] rfl)
          · have hF := gf_pos (by rw [ex_388] at c_389; exact c_389) hF
            have g_391 : gi x_388 0 0 := gi_eq c_389 (gi_c 0 0 (by decide))
            refine lv_iconst (v := (-1)) hx hb (dk_at dkX9_indexOf 50 rfl) (by decide) ?_
            exact kr91 (-1) _ _ _ (gi_c (-1) (-1) (by decide)) hF hP hS (lv_sub hl [] rfl)
        · have hF := gf_neg (by rw [ex_382, ex_381] at c_383; exact c_383) hF
          have g_392 : gi x_382 1 1 := gi_ne_lo c_383 gx_382 (gi_c 0 0 (by decide)) (by decide)
          refine lv_iload_n hx hb (dk_at dkX9_indexOf 18 rfl) rfl (lv_at hl 2 rfl) ?_
          refine lv_aload_n hx hb (dk_at dkX9_indexOf 19 rfl) rfl (lv_at hl 0 rfl) ?_
          refine lv_iload hx hb (dk_at dkX9_indexOf 20 rfl) (lv_at hl 5 rfl) ?_
          refine lv_iload_n hx hb (dk_at dkX9_indexOf 21 rfl) rfl (lv_at hl 3 rfl) ?_
          refine lv_iload hx hb (dk_at dkX9_indexOf 22 rfl) (lv_at hl 4 rfl) ?_
          refine va_calli (va_runV (As := [.int v5, .int v3, .int v4]) (rest := [.int v2]) ⟨hx, hb, hml, hown, hts⟩ (sX9_withLean l dC dI h0 bh bf sa months full lean kbh fbh v5 v3 v4 (gi_w g_380 (by decide)) gfull glean g_378 (gi_w g_379 (by decide)) gv4) (cwV 3 hts (gz_gV mGA_599 mGA_600 mGA_601 mGA_27 mGA_602 goodGA) rfl rfl rfl hdV_X9_withLean_X9_3 ⟨Nat.le_trans (Nat.le_of_ble_eq_true rfl) hRf, Nat.le_trans (Nat.le_of_ble_eq_true rfl) hRl⟩) ⟨bl_I (bl_a bl_P (bl_a bl_K bl_nz)), va_recv hK hP (ci := 9) (q0 := 0) rfl rfl, fun U hU hW => ⟨rfl, by rw [hU]; exact hP, va_K.moved hW.alike hK, nzA_warm hW hz⟩⟩ rfl rfl hl.1 rfl (lv_room (Nat.le_of_ble_eq_true rfl)) (dk_at dkX9_indexOf 23 rfl) ⟨hRc, hRs⟩) hS (fun q _ h => h.elim) (fun q h => h.elim) (fun r_393 u t H1 locs ht hvm hw hB hz1 hk1 hS => ?_)
          obtain ⟨hw, hE⟩ := hw
          have hP := gz_keep hP hk1
          have hF := gf_call (a := r_393) hE hF
          generalize H1 = H at hP hS ⊢
          refine lv_iadd hx hb (dk_at dkX9_indexOf 24 rfl) ?_
          refine lv_topi (fun x_394 ex_394 => ?_)
          refine lv_istore_n (lv' := [(2, .int x_394), (0, .ref h0), (1, .int p0), (3, .int v3), (4, .int v4), (5, .int v5)]) hx hb (dk_at dkX9_indexOf 25 rfl) rfl hl (by decide) rfl (fun ls hl => ?_)
          refine lv_iload hx hb (dk_at dkX9_indexOf 26 rfl) (lv_at hl 4 rfl) ?_
          refine lv_aload_n hx hb (dk_at dkX9_indexOf 27 rfl) rfl (lv_at hl 1 rfl) ?_
          refine va_get (D := (dC, dI)) (ci := 9) (v := .int full) (C := RX9) (T := TX9) (N := 6) hx hb hts (fun w h => List.mem_cons_of_mem _ (jnGA_X9 w h)) hown hK hP 0 rfl rfl 4 (by decide) (hts _ (List.mem_cons_of_mem _ mGA_562)) (fun _ h9 => h9) rfl (dk_at dkX9_indexOf 28 rfl) ?_
          have hPc := hP.sub (ws' := []) [] rfl
          have hKc := hK.sub (tys' := []) [] rfl
          refine va_calli (va_runSN (As := [.int v4, .int full]) (rest := []) ⟨hx, hb, hml, hown, hts⟩ (sX11_runWithFull l dC dI v4 full gv4 gfull) (⟨va_cnB 2 hts (gz_gP mGA_508 goodGA) rfl rfl rfl (nzA_X9_74 hz) (hts _ (List.mem_cons_of_mem _ mGA_1)) hdS_X11_runWithFull_X11_2.2 ⟨Nat.le_trans (Nat.le_of_ble_eq_true rfl) hRf, Nat.le_trans (Nat.le_of_ble_eq_true rfl) hRl⟩, (hts _ (List.mem_cons_of_mem _ mGA_507)), trivial⟩) ⟨bl_I (bl_a bl_P (bl_a bl_K bl_nz)), fun U hU hW => ⟨rfl, by rw [hU]; exact hPc, va_K.moved hW.alike hKc, nzA_warm hW hz⟩⟩ rfl rfl hl.1 rfl (lv_room (Nat.le_of_ble_eq_true rfl)) (dk_at dkX9_indexOf 29 rfl) ⟨hRc, hRs⟩) hS (fun q _ h => h.elim) (fun q h => h.elim) (fun r_395 u t H1 locs ht hvm hw hB hz1 hk1 hS => ?_)
          obtain ⟨hw, hE⟩ := hw
          have hP := gz_keep hP hk1
          have hF := gf_call (a := r_395) hE hF
          generalize H1 = H at hP hS ⊢
          have gr_395 : gi r_395 0 5 := hw
          refine lv_istore (lv' := [(4, .int r_395), (2, .int x_394), (0, .ref h0), (1, .int p0), (3, .int v3), (5, .int v5)]) hx hb (dk_at dkX9_indexOf 30 rfl) hl (by decide) rfl (fun ls hl => ?_)
          obtain ⟨x_396, ex_396⟩ : ∃ y : Int32, y = v3 + 1 := ⟨_, rfl⟩
          have gx_396 : gi x_396 1 24 := gi_add ex_396 g_379 (gi_c 1 1 (by decide)) (by decide)
          refine lv_iinc (v := x_396) (lv' := [(3, .int x_396), (4, .int r_395), (2, .int x_394), (0, .ref h0), (1, .int p0), (5, .int v5)]) hx hb (dk_at dkX9_indexOf 31 rfl) hl (k := 4) rfl (by rw [ex_396]; rfl) (by decide) rfl (fun ls hl => ?_)
          refine lv_goto (tgt := 72) hx hb (dk_at dkX9_indexOf 32 rfl) (by decide) ?_
          refine lv_aload_n hx hb (dk_at dkX9_indexOf 40 rfl) rfl (lv_at hl 3 rfl) ?_
          refine va_get (D := (dC, dI)) (ci := 9) (v := .ref bh) (C := RX9) (T := TX9) (N := 6) hx hb hts (fun w h => List.mem_cons_of_mem _ (jnGA_X9 w h)) hown hK hP 0 rfl rfl 1 (by decide) (hts _ (List.mem_cons_of_mem _ mGA_112)) (fun _ h9 => h9) rfl (dk_at dkX9_indexOf 41 rfl) ?_
          refine lv_iload hx hb (dk_at dkX9_indexOf 42 rfl) (lv_at hl 5 rfl) ?_
          refine lv_iconst (v := 1) hx hb (dk_at dkX9_indexOf 43 rfl) (by decide) ?_
          refine lv_iadd hx hb (dk_at dkX9_indexOf 44 rfl) ?_
          refine lv_topi (fun x_397 ex_397 => ?_)
          have gx_397 : gi x_397 1 24 := gi_add ex_397 g_378 (gi_c 1 1 (by decide)) (by decide)
          refine lv_iload_n hx hb (dk_at dkX9_indexOf 45 rfl) rfl (lv_at hl 0 rfl) ?_
          refine lv_iload hx hb (dk_at dkX9_indexOf 46 rfl) (lv_at hl 1 rfl) ?_
          have hPc := hP.sub (ws' := []) [] rfl
          have hKc := hK.sub (tys' := []) [] rfl
          refine va_calli (va_runSN (As := [.int x_397, .int x_396, .int r_395]) (rest := [.ref bh]) ⟨hx, hb, hml, hown, hts⟩ (sX11_spot l dC dI x_397 x_396 r_395 (gi_w gx_397 (by decide)) (gi_w gx_396 (by decide)) (gi_w gr_395 (by decide))) (⟨va_cnB 3 hts (gz_gP mGA_582 goodGA) rfl rfl rfl (nzA_X9_63 hz) (hts _ (List.mem_cons_of_mem _ mGA_1)) hdS_X11_spot_X11_3.2 ⟨Nat.le_trans (Nat.le_of_ble_eq_true rfl) hRf, Nat.le_trans (Nat.le_of_ble_eq_true rfl) hRl⟩, (hts _ (List.mem_cons_of_mem _ mGA_581)), trivial⟩) ⟨bl_I (bl_a bl_P (bl_a bl_K bl_nz)), fun U hU hW => ⟨rfl, by rw [hU]; exact hPc, va_K.moved hW.alike hKc, nzA_warm hW hz⟩⟩ rfl rfl hl.1 rfl (lv_room (Nat.le_of_ble_eq_true rfl)) (dk_at dkX9_indexOf 47 rfl) ⟨hRc, hRs⟩) hS (fun q _ h => h.elim) (fun q h => h.elim) (fun r_398 u t H1 locs ht hvm hw hB hz1 hk1 hS => ?_)
          obtain ⟨hw, hE⟩ := hw
          have hP := gz_keep hP hk1
          have hF := gf_call (a := r_398) (by rw [ex_397, ex_396] at hE; exact hE) hF
          generalize H1 = H at hP hS ⊢
          have gr_398 : gi r_398 0 3574 := hw
          refine va_iald hx hb hK hP 1 0 rfl rfl (gi_in gr_398 (by decide)) (dk_at dkX9_indexOf 48 rfl) ?_
          refine lv_topi (fun x_399 ex_399 => ?_)
          refine lv_if_ne (tgt := 92) hx hb (dk_at dkX9_indexOf 49 rfl) (by decide) (fun c_400 => ?_) (fun c_400 => ?_)
          · have hF := gf_neg (by rw [ex_399] at c_400; exact c_400) hF
            obtain ⟨x_401, ex_401⟩ : ∃ y : Int32, y = v5 + 1 := ⟨_, rfl⟩
            have gx_401 : gi x_401 1 24 := gi_add ex_401 g_378 (gi_c 1 1 (by decide)) (by decide)
            refine lv_iinc (v := x_401) (lv' := [(5, .int x_401), (3, .int x_396), (4, .int r_395), (2, .int x_394), (0, .ref h0), (1, .int p0)]) hx hb (dk_at dkX9_indexOf 52 rfl) hl (k := 5) rfl (by rw [ex_401]; rfl) (by decide) rfl (fun ls hl => ?_)
            refine lv_goto (tgt := 10) hx hb (dk_at dkX9_indexOf 53 rfl) (by decide) ?_
            exact ih x_394 x_396 r_395 x_401 _ _ _ (gi_w gx_396 (by decide)) (gi_w gr_395 (by decide)) (gi_w gx_401 (by decide)) (by have qgx_401 := gx_401.1; have rgx_401 := gx_401.2; have igx_401 : x_401.toInt = v5.toInt + 1 := (by have hc1 : (1 : Int32).toInt = 1 := (by decide); have h9 := gi_addE ex_401 g_378 (gi_c 1 1 (by decide)) (by decide); rw [hc1] at h9; exact h9); have qgv5 := g_378.1; have rgv5 := g_378.2; have qgx_396 := gx_396.1; have rgx_396 := gx_396.2; have igx_396 : x_396.toInt = v3.toInt + 1 := (by have hc1 : (1 : Int32).toInt = 1 := (by decide); have h9 := gi_addE ex_396 g_379 (gi_c 1 1 (by decide)) (by decide); rw [hc1] at h9; exact h9); have qgv3 := g_379.1; have rgv3 := g_379.2; have y1 := (Int32.lt_iff_toInt_lt.mp (Int32.not_le.mp c_377)); omega) (by first | (rw [ex_401, ex_396, ex_394]; exact hF) | ((try rw [ex_401]); (try rw [ex_396]); (try rw [ex_394]); exact hF)) (by have av5 := gv5.1; have bv5 := gv5.2; have qgx_401 := gx_401.1; have rgx_401 := gx_401.2; have igx_401 : x_401.toInt = v5.toInt + 1 := (by have hc1 : (1 : Int32).toInt = 1 := (by decide); have h9 := gi_addE ex_401 g_378 (gi_c 1 1 (by decide)) (by decide); rw [hc1] at h9; exact h9); have qgv5 := g_378.1; have rgv5 := g_378.2; omega) hP hS (lv_sub hl [4, 5, 3, 1, 2, 0] rfl)
          · have hF := gf_pos (by rw [ex_399] at c_400; exact c_400) hF
            have g_402 : gi x_399 0 0 := gi_eq c_400 (gi_c 0 0 (by decide))
            refine lv_iconst (v := (-1)) hx hb (dk_at dkX9_indexOf 50 rfl) (by decide) ?_
            exact kr91 (-1) _ _ _ (gi_c (-1) (-1) (by decide)) hF hP hS (lv_sub hl [] rfl)
set_option maxHeartbeats 4000000 in
set_option maxRecDepth 100000 in
theorem sX9_indexOf (l : Launch) (dC : Nat → ClassId) (dI : Nat → Nat → Nat) (h0 : Nat) (bh : Nat) (bf : Nat) (sa : Nat) (months : Int32) (full : Int32) (lean : Int32) (kbh : ClassId) (fbh : Nat → Int32) (p0 : Int32) (gmonths : gi months 0 24) (gfull : gi full 0 5) (glean : gi lean 0 5) : Met l yX9_indexOf (.code yX9_indexOf cX9_indexOf 6 (some .int) :: wsGA) ({ frames := 3, cells := 0, slots := 0, locals := 66 }) (va_Pc [.ref h0, .int p0] (fun U => va_P (dC, dI) vwCl [(h0, .inr (9, [.ref bf, .ref bh, .ref sa, .int months, .int full, .int lean])), (bh, .inl (kbh, 3575, .inl fbh))] U.heap ∧ va_K (dC, dI) vwCl [(kbh, .int)] U ∧ nzA U)) (va_Qi (fun (r : Int32) (u : Unit) => (gi r (-2147483648) 2147483647) ∧ r = fX9_indexOf months full lean fbh p0) (fun _ _ => True) (fun _ => False)) 0 0 (fun _ => False) := by
  refine Met.ofW (cc := cX9_indexOf) (maxL := 6) (ret := (some .int)) (by decide) rfl ?_
  intro p e s m args below meth c s₁ B hml hv
  obtain ⟨rfl, hP, hK, hz⟩ := hv
  have hx := B.exec
  have hb := B.bytes
  have hr := B.returns
  have hts := atoms_spec (ws := (.code yX9_indexOf cX9_indexOf 6 (some .int) :: wsGA)) B.pre
  have hown : s.vm.findClass RX9 = some m.cls := findClass_of_methodNamed B.named
  have hlocks := B.notSynchronized
  have hS : va_S (fun _ => False) s.heap s.heap [] := va_S.rf
  have hl := lv_entry ([.ref h0, .int p0]) (n := 6) (Nat.le_of_ble_eq_true rfl)
  rw [lg_entry_eq]
  generalize (lg_sl ([.ref h0, .int p0]) ++ List.replicate (6 - (lg_sl ([.ref h0, .int p0])).length) Slot.unset).toArray = ls at hl ⊢
  have hl : lv_has ls 6 [(0, .ref h0), (1, .int p0)] := hl
  obtain ⟨RES, hF⟩ : ∃ R9, fX9_indexOf months full lean fbh p0 = R9 := ⟨_, rfl⟩
  have hR9 := hF
  refine lv_iconst (v := 0) hx hb (dk_at dkX9_indexOf 0 rfl) (by decide) ?_
  refine lv_istore_n (lv' := [(2, .int 0), (0, .ref h0), (1, .int p0)]) hx hb (dk_at dkX9_indexOf 1 rfl) rfl hl (by decide) rfl (fun ls hl => ?_)
  refine lv_iconst (v := 0) hx hb (dk_at dkX9_indexOf 2 rfl) (by decide) ?_
  refine lv_istore_n (lv' := [(3, .int 0), (2, .int 0), (0, .ref h0), (1, .int p0)]) hx hb (dk_at dkX9_indexOf 3 rfl) rfl hl (by decide) rfl (fun ls hl => ?_)
  refine lv_iconst (v := 0) hx hb (dk_at dkX9_indexOf 4 rfl) (by decide) ?_
  refine lv_istore (lv' := [(4, .int 0), (3, .int 0), (2, .int 0), (0, .ref h0), (1, .int p0)]) hx hb (dk_at dkX9_indexOf 5 rfl) hl (by decide) rfl (fun ls hl => ?_)
  refine lv_iconst (v := 0) hx hb (dk_at dkX9_indexOf 6 rfl) (by decide) ?_
  refine lv_istore (lv' := [(5, .int 0), (4, .int 0), (3, .int 0), (2, .int 0), (0, .ref h0), (1, .int p0)]) hx hb (dk_at dkX9_indexOf 7 rfl) hl (by decide) rfl (fun ls hl => ?_)
  refine (lp_sX9_indexOf h0 bh bf sa months full lean kbh fbh p0 gmonths gfull glean hx hb hml hown hts hK hz (Nat.le_of_ble_eq_true rfl) (Nat.le_of_ble_eq_true rfl) (Nat.zero_le _) (Nat.zero_le _) (fun v H locs ls hF hP hS hl => ?_) (fun v H locs ls gv hF hP hS hl => ?_) 1000000000) 0 0 0 0 _ _ _ (gi_w (gi_c 0 0 (by decide)) (by decide)) (gi_w (gi_c 0 0 (by decide)) (by decide)) (gi_w (gi_c 0 0 (by decide)) (by decide)) (by have k0 : (0 : Int32).toInt = 0 := (by decide); have k0 : (0 : Int32).toInt = 0 := (by decide); omega) hF (by have k0 : (0 : Int32).toInt = 0 := (by decide); omega) hP hS (lv_sub hl [4, 5, 3, 2, 1, 0] rfl)
  · skip
    exact W.iret (v := v) hx hb hr (fun t ht hW => ⟨⟨v, (), rfl, ⟨(gi_any v), hF.trans hR9.symm⟩, trivial⟩, hS.F ht⟩) hS.2.2 (dk_at dkX9_indexOf 55 rfl)
  · skip
    exact W.iret (v := v) hx hb hr (fun t ht hW => ⟨⟨v, (), rfl, ⟨(gi_any v), hF.trans hR9.symm⟩, trivial⟩, hS.F ht⟩) hS.2.2 (dk_at dkX9_indexOf 51 rfl)
noncomputable def lsX9_countBefore : List (Nat × Instr × Nat) := [(0, .aload_n 0, 1), (1, .getfield 9, 3), (4, .iconst 0, 1), (5, .iconst 1, 1), (6, .iastore, 1), (7, .iconst 0, 1), (8, .istore_n 2, 1), (9, .iload_n 2, 1), (10, .aload_n 0, 1), (11, .getfield 27, 3), (14, .if_icmp .ge 58, 3), (17, .iconst 0, 1), (18, .istore_n 3, 1), (19, .iload_n 3, 1), (20, .iload_n 2, 1), (21, .if_icmp .gt 45, 3), (24, .aload_n 1, 1), (25, .iload_n 2, 1), (26, .iconst 1, 1), (27, .iadd, 1), (28, .iload_n 3, 1), (29, .iconst 1, 1), (30, .iadd, 1), (31, .invokevirtual 52, 3), (34, .ifCond .eq 9, 3), (37, .aload_n 0, 1), (38, .iload_n 2, 1), (39, .iload_n 3, 1), (40, .invokevirtual 56, 3), (43, .aload_n 1, 1), (44, .iload_n 2, 1), (45, .iconst 1, 1), (46, .iadd, 1), (47, .iload_n 3, 1), (48, .invokevirtual 52, 3), (51, .ifCond .eq 9, 3), (54, .aload_n 0, 1), (55, .iload_n 2, 1), (56, .iload_n 3, 1), (57, .invokevirtual 60, 3), (60, .iinc 3 1, 3), (63, .goto (-44), 3), (66, .iinc 2 1, 3), (69, .goto (-60), 3), (72, .return_, 1)]
theorem dkX9_countBefore : dkAll cX9_countBefore lsX9_countBefore = true := dk_fast (by decide +kernel)
noncomputable def bfX9_countBefore_60 (months : Int32) (full : Int32) (lean : Int32) (fbf : Nat → Int32) (ffral : Nat → Int32) (K : (Int32 → (Nat → Int32) → ((Nat → Int32))) × (Int32 → Int32 → (Nat → Int32) → ((Nat → Int32)))) (v2 : Int32) (v3 : Int32) (z1 : Nat → Int32) : (Nat → Int32) := K.2 v2 (v3 + (1 : Int32)) z1
noncomputable def bfX9_countBefore_43 (months : Int32) (full : Int32) (lean : Int32) (fbf : Nat → Int32) (ffral : Nat → Int32) (K : (Int32 → (Nat → Int32) → ((Nat → Int32))) × (Int32 → Int32 → (Nat → Int32) → ((Nat → Int32)))) (v2 : Int32) (v3 : Int32) (z1 : Nat → Int32) : (Nat → Int32) := cal (fun o3 => if o3 = (0 : Int32) then (bfX9_countBefore_60 months full lean fbf ffral K v2 v3 z1) else (cal (fun o4 => bfX9_countBefore_60 months full lean fbf ffral K v2 v3 o4) (fX9_takeOnWithLean full lean z1 v2 v3))) (fX3_allows ffral (v2 + (1 : Int32)) v3)
noncomputable def dfX9_countBefore_9 (months : Int32) (full : Int32) (lean : Int32) (fbf : Nat → Int32) (ffral : Nat → Int32) (K : (Int32 → (Nat → Int32) → ((Nat → Int32))) × (Int32 → Int32 → (Nat → Int32) → ((Nat → Int32)))) (v2 : Int32) (z1 : Nat → Int32) : (Nat → Int32) := if months ≤ v2 then z1 else (K.2 v2 (0 : Int32) z1)
noncomputable def dfX9_countBefore_19 (months : Int32) (full : Int32) (lean : Int32) (fbf : Nat → Int32) (ffral : Nat → Int32) (K : (Int32 → (Nat → Int32) → ((Nat → Int32))) × (Int32 → Int32 → (Nat → Int32) → ((Nat → Int32)))) (v2 : Int32) (v3 : Int32) (z1 : Nat → Int32) : (Nat → Int32) := if v2 < v3 then (K.1 (v2 + (1 : Int32)) z1) else (cal (fun o1 => if o1 = (0 : Int32) then (bfX9_countBefore_43 months full lean fbf ffral K v2 v3 z1) else (cal (fun o2 => bfX9_countBefore_43 months full lean fbf ffral K v2 v3 o2) (fX9_takeOnWithFull full lean z1 v2 v3))) (fX3_allows ffral (v2 + (1 : Int32)) (v3 + (1 : Int32))))
noncomputable def lfX9_countBefore (months : Int32) (full : Int32) (lean : Int32) (fbf : Nat → Int32) (ffral : Nat → Int32) (z : Nat) : (Int32 → (Nat → Int32) → ((Nat → Int32))) × (Int32 → Int32 → (Nat → Int32) → ((Nat → Int32))) := Nat.rec (motive := fun _ => (Int32 → (Nat → Int32) → ((Nat → Int32))) × (Int32 → Int32 → (Nat → Int32) → ((Nat → Int32)))) ((fun _ z1 => (z1), fun _ _ z1 => (z1))) (fun _ K => (dfX9_countBefore_9 months full lean fbf ffral K, dfX9_countBefore_19 months full lean fbf ffral K)) z
noncomputable def fX9_countBefore (months : Int32) (full : Int32) (lean : Int32) (fbf : Nat → Int32) (ffral : Nat → Int32) : (Nat → Int32) := (lfX9_countBefore months full lean fbf ffral 1000000000).1 (0 : Int32) (upd fbf (0 : Int32).toNatClampNeg (1 : Int32))
set_option maxHeartbeats 4000000 in
set_option maxRecDepth 100000 in
theorem lp_sX9_countBefore {p : Program} {l : Launch} {e : Env} {R : Room} {s : State} {m : MethodId} {args : Array Value} {below : List Frame} {meth : Method} {c : Code} {Q : State → Prop} {A : Nat → Prop} {cells slots : Nat} {dC : Nat → ClassId} {dI : Nat → Nat → Nat} {RES : (Nat → Int32)} (h0 : Nat) (bf : Nat) (fr : Nat) (fral : Nat) (bh : Nat) (sa : Nat) (months : Int32) (full : Int32) (lean : Int32) (kbf : ClassId) (fbf : Nat → Int32) (frmonths : Int32) (frfull : Int32) (frlean : Int32) (fron : Nat) (kfral : ClassId) (ffral : Nat → Int32) (gmonths : gi months 0 24) (gfull : gi full 0 5) (glean : gi lean 0 5) (gfrmonths : gi frmonths 0 24) (gfrfull : gi frfull 0 5) (gfrlean : gi frlean 0 5) (hx : p.tables.exec = Jvm.exec) (hb : c.code = cX9_countBefore) (hml : c.maxLocals = 4) (hown : s.vm.findClass RX9 = some m.cls) (hts : ∀ w ∈ ((.code yX9_countBefore cX9_countBefore 4 none :: wsGA) : List Cond), w.before args s = true) (hK : va_K (dC, dI) vwCl [(kbf, .int), (kfral, .int)] s) (hz : nzA s) (hA : ∀ q : Nat, s.heap.size ≤ q → A q) (hRf : 3 ≤ R.frames) (hRl : 69 ≤ R.locals) (hRc : cells ≤ R.cells) (hRs : slots ≤ R.slots) (kr72 : ∀ (z1 : Nat → Int32) (H : Heap) (locs : List Loc) (ls : Array Slot), z1 = RES → va_P (dC, dI) vwCl [(h0, .inr (9, [.ref bf, .ref bh, .ref sa, .int months, .int full, .int lean])), (bf, .inl (kbf, 3575, .inl z1)), (fr, .inr (3, [.int frmonths, .int frfull, .int frlean, .ref fral, .ref fron])), (fral, .inl (kfral, 25, .inl ffral))] H → va_D A [(h0, .inr (9, [.ref bf, .ref bh, .ref sa, .int months, .int full, .int lean])), (bf, .inl (kbf, 3575, .inl z1)), (fr, .inr (3, [.int frmonths, .int frfull, .int frlean, .ref fral, .ref fron])), (fral, .inl (kfral, 25, .inl ffral))] → va_S A s.heap H locs → lv_has ls 4 [] → W p l e R s m args below meth c H locs cells slots Q (F0 m 72 ls [])) : ∀ z : Nat, (∀ (v2 : Int32) (z1 : Nat → Int32) (H : Heap) (locs : List Loc) (ls : Array Slot), gi v2 0 24 → (lfX9_countBefore months full lean fbf ffral z).1 v2 z1 = RES → 1297 + (-54) * v2.toInt < (z : Int) → va_P (dC, dI) vwCl [(h0, .inr (9, [.ref bf, .ref bh, .ref sa, .int months, .int full, .int lean])), (bf, .inl (kbf, 3575, .inl z1)), (fr, .inr (3, [.int frmonths, .int frfull, .int frlean, .ref fral, .ref fron])), (fral, .inl (kfral, 25, .inl ffral))] H → va_D A [(h0, .inr (9, [.ref bf, .ref bh, .ref sa, .int months, .int full, .int lean])), (bf, .inl (kbf, 3575, .inl z1)), (fr, .inr (3, [.int frmonths, .int frfull, .int frlean, .ref fral, .ref fron])), (fral, .inl (kfral, 25, .inl ffral))] → va_S A s.heap H locs → lv_has ls 4 [(0, .ref h0), (1, .ref fr), (2, .int v2)] → W p l e R s m args below meth c H locs cells slots Q (F0 m 9 ls [])) ∧ (∀ (v2 : Int32) (v3 : Int32) (z1 : Nat → Int32) (H : Heap) (locs : List Loc) (ls : Array Slot), gi v2 0 23 → gi v3 0 24 → (lfX9_countBefore months full lean fbf ffral z).2 v2 v3 z1 = RES → 1292 + (-54) * v2.toInt + (-2) * v3.toInt < (z : Int) → va_P (dC, dI) vwCl [(h0, .inr (9, [.ref bf, .ref bh, .ref sa, .int months, .int full, .int lean])), (bf, .inl (kbf, 3575, .inl z1)), (fr, .inr (3, [.int frmonths, .int frfull, .int frlean, .ref fral, .ref fron])), (fral, .inl (kfral, 25, .inl ffral))] H → va_D A [(h0, .inr (9, [.ref bf, .ref bh, .ref sa, .int months, .int full, .int lean])), (bf, .inl (kbf, 3575, .inl z1)), (fr, .inr (3, [.int frmonths, .int frfull, .int frlean, .ref fral, .ref fron])), (fral, .inl (kfral, 25, .inl ffral))] → va_S A s.heap H locs → lv_has ls 4 [(0, .ref h0), (1, .ref fr), (2, .int v2), (3, .int v3)] → W p l e R s m args below meth c H locs cells slots Q (F0 m 19 ls [])) := by
  intro z
  induction z with
  | zero =>
    refine ⟨?_, ?_⟩
    · intro v2 z1 H locs ls gv2 hF hmu hP hD hS hl
      exact absurd hmu (by have hv21 := gv2.1; have hv22 := gv2.2; omega)
    · intro v2 v3 z1 H locs ls gv2 gv3 hF hmu hP hD hS hl
      exact absurd hmu (by have hv21 := gv2.1; have hv22 := gv2.2; have hv31 := gv3.1; have hv32 := gv3.2; omega)
  | succ z ih =>
    refine ⟨?_, ?_⟩
    · intro v2 z1 H locs ls gv2 hF hmu hP hD hS hl
      have hF : dfX9_countBefore_9 months full lean fbf ffral (lfX9_countBefore months full lean fbf ffral z) v2 z1 = RES := hF
      refine lv_iload_n hx hb (dk_at dkX9_countBefore 7 rfl) rfl (lv_at hl 2 rfl) ?_
      refine lv_aload_n hx hb (dk_at dkX9_countBefore 8 rfl) rfl (lv_at hl 0 rfl) ?_
      refine va_get (D := (dC, dI)) (ci := 9) (v := .int months) (C := RX9) (T := TX9) (N := 6) hx hb hts (fun w h => List.mem_cons_of_mem _ (jnGA_X9 w h)) hown hK hP 0 rfl rfl 3 (by decide) (hts _ (List.mem_cons_of_mem _ mGA_560)) (fun _ h9 => h9) rfl (dk_at dkX9_countBefore 9 rfl) ?_
      refine lv_icmp_ge (tgt := 72) hx hb (dk_at dkX9_countBefore 10 rfl) (by decide) (fun c_984 => ?_) (fun c_984 => ?_)
      · have hF := gf_pos c_984 hF
        exact kr72 z1 _ _ _ hF hP hD hS (lv_sub hl [] rfl)
      · have hF := gf_neg c_984 hF
        have g_985 : gi v2 0 23 := gi_lt_l (Int32.not_le.mp c_984) gv2 gmonths (by decide)
        have g_986 : gi months 1 24 := gi_lt_r (Int32.not_le.mp c_984) gv2 gmonths (by decide)
        refine lv_iconst (v := 0) hx hb (dk_at dkX9_countBefore 11 rfl) (by decide) ?_
        refine lv_istore_n (lv' := [(3, .int 0), (0, .ref h0), (1, .ref fr), (2, .int v2)]) hx hb (dk_at dkX9_countBefore 12 rfl) rfl hl (by decide) rfl (fun ls hl => ?_)
        exact ih.2 v2 0 z1 _ _ _ g_985 (gi_w (gi_c 0 0 (by decide)) (by decide)) hF (by have k0 : (0 : Int32).toInt = 0 := (by decide); have av2 := gv2.1; have bv2 := gv2.2; have qgv2 := g_985.1; have rgv2 := g_985.2; omega) hP hD hS (lv_sub hl [1, 2, 3, 0] rfl)
    · intro v2 v3 z1 H locs ls gv2 gv3 hF hmu hP hD hS hl
      have hF : dfX9_countBefore_19 months full lean fbf ffral (lfX9_countBefore months full lean fbf ffral z) v2 v3 z1 = RES := hF
      refine lv_iload_n hx hb (dk_at dkX9_countBefore 13 rfl) rfl (lv_at hl 3 rfl) ?_
      refine lv_iload_n hx hb (dk_at dkX9_countBefore 14 rfl) rfl (lv_at hl 2 rfl) ?_
      refine lv_icmp_gt (tgt := 66) hx hb (dk_at dkX9_countBefore 15 rfl) (by decide) (fun c_987 => ?_) (fun c_987 => ?_)
      · have hF := gf_pos c_987 hF
        have g_988 : gi v3 1 24 := gi_lt_r c_987 gv2 gv3 (by decide)
        obtain ⟨x_989, ex_989⟩ : ∃ y : Int32, y = v2 + 1 := ⟨_, rfl⟩
        have gx_989 : gi x_989 1 24 := gi_add ex_989 gv2 (gi_c 1 1 (by decide)) (by decide)
        refine lv_iinc (v := x_989) (lv' := [(2, .int x_989), (0, .ref h0), (1, .ref fr), (3, .int v3)]) hx hb (dk_at dkX9_countBefore 42 rfl) hl (k := 2) rfl (by rw [ex_989]; rfl) (by decide) rfl (fun ls hl => ?_)
        refine lv_goto (tgt := 9) hx hb (dk_at dkX9_countBefore 43 rfl) (by decide) ?_
        exact ih.1 x_989 z1 _ _ _ (gi_w gx_989 (by decide)) (by first | (rw [ex_989]; exact hF) | ((try rw [ex_989]); exact hF)) (by have av2 := gv2.1; have bv2 := gv2.2; have av3 := gv3.1; have bv3 := gv3.2; have qgx_989 := gx_989.1; have rgx_989 := gx_989.2; have igx_989 : x_989.toInt = v2.toInt + 1 := (by have hc1 : (1 : Int32).toInt = 1 := (by decide); have h9 := gi_addE ex_989 gv2 (gi_c 1 1 (by decide)) (by decide); rw [hc1] at h9; exact h9); have qgv2 := gv2.1; have rgv2 := gv2.2; omega) hP hD hS (lv_sub hl [1, 2, 0] rfl)
      · have hF := gf_neg c_987 hF
        have g_990 : gi v3 0 23 := gi_le_l (Int32.not_lt.mp c_987) gv3 gv2
        refine lv_aload_n hx hb (dk_at dkX9_countBefore 16 rfl) rfl (lv_at hl 1 rfl) ?_
        refine lv_iload_n hx hb (dk_at dkX9_countBefore 17 rfl) rfl (lv_at hl 2 rfl) ?_
        refine lv_iconst (v := 1) hx hb (dk_at dkX9_countBefore 18 rfl) (by decide) ?_
        refine lv_iadd hx hb (dk_at dkX9_countBefore 19 rfl) ?_
        refine lv_topi (fun x_991 ex_991 => ?_)
        have gx_991 : gi x_991 1 24 := gi_add ex_991 gv2 (gi_c 1 1 (by decide)) (by decide)
        refine lv_iload_n hx hb (dk_at dkX9_countBefore 20 rfl) rfl (lv_at hl 3 rfl) ?_
        refine lv_iconst (v := 1) hx hb (dk_at dkX9_countBefore 21 rfl) (by decide) ?_
        refine lv_iadd hx hb (dk_at dkX9_countBefore 22 rfl) ?_
        refine lv_topi (fun x_992 ex_992 => ?_)
        have gx_992 : gi x_992 1 24 := gi_add ex_992 g_990 (gi_c 1 1 (by decide)) (by decide)
        have hPc := hP.sub (ws' := [(fr, .inr (3, [.int frmonths, .int frfull, .int frlean, .ref fral, .ref fron])), (fral, .inl (kfral, 25, .inl ffral))]) [2, 3] rfl
        have hKc := hK.sub (tys' := [(kfral, .int)]) [1] rfl
        refine va_calli (va_runV (As := [.int x_991, .int x_992]) (rest := []) ⟨hx, hb, hml, hown, hts⟩ (sX3_allows l dC dI fr fral frmonths frfull frlean fron kfral ffral x_991 x_992 gfrmonths gfrfull gfrlean (gi_w gx_991 (by decide))) (cwV 2 hts (gz_gV mGA_573 mGA_574 mGA_575 mGA_18 mGA_576 goodGA) rfl rfl rfl hdV_X3_allows_X3_2 ⟨Nat.le_trans (Nat.le_of_ble_eq_true rfl) hRf, Nat.le_trans (Nat.le_of_ble_eq_true rfl) hRl⟩) ⟨bl_I (bl_a bl_P (bl_a bl_K bl_nz)), va_recv hKc hPc (ci := 3) (q0 := 0) rfl rfl, fun U hU hW => ⟨rfl, by rw [hU]; exact hPc, va_K.moved hW.alike hKc, nzA_warm hW hz⟩⟩ rfl rfl hl.1 rfl (lv_room (Nat.le_of_ble_eq_true rfl)) (dk_at dkX9_countBefore 23 rfl) ⟨hRc, hRs⟩) hS (fun q _ h => h.elim) (fun q h => h.elim) (fun r_993 u t H1 locs ht hvm hw hB hz1 hk1 hS => ?_)
        obtain ⟨hw, hE⟩ := hw
        have hP := gz_keep hP hk1
        have hF := gf_call (a := r_993) (by rw [ex_992, ex_991] at hE; exact hE) hF
        generalize H1 = H at hP hS ⊢
        have gr_993 : gi r_993 0 1 := hw
        refine lv_if_eq (tgt := 43) hx hb (dk_at dkX9_countBefore 24 rfl) (by decide) (fun c_994 => ?_) (fun c_994 => ?_)
        · have hF := gf_pos c_994 hF
          have g_995 : gi r_993 0 0 := gi_eq c_994 (gi_c 0 0 (by decide))
          refine lv_aload_n hx hb (dk_at dkX9_countBefore 29 rfl) rfl (lv_at hl 1 rfl) ?_
          refine lv_iload_n hx hb (dk_at dkX9_countBefore 30 rfl) rfl (lv_at hl 2 rfl) ?_
          refine lv_iconst (v := 1) hx hb (dk_at dkX9_countBefore 31 rfl) (by decide) ?_
          refine lv_iadd hx hb (dk_at dkX9_countBefore 32 rfl) ?_
          refine lv_topi (fun x_996 ex_996 => ?_)
          have gx_996 : gi x_996 1 24 := gi_add ex_996 gv2 (gi_c 1 1 (by decide)) (by decide)
          refine lv_iload_n hx hb (dk_at dkX9_countBefore 33 rfl) rfl (lv_at hl 3 rfl) ?_
          have hPc := hP.sub (ws' := [(fr, .inr (3, [.int frmonths, .int frfull, .int frlean, .ref fral, .ref fron])), (fral, .inl (kfral, 25, .inl ffral))]) [2, 3] rfl
          have hKc := hK.sub (tys' := [(kfral, .int)]) [1] rfl
          refine va_calli (va_runV (As := [.int x_996, .int v3]) (rest := []) ⟨hx, hb, hml, hown, hts⟩ (sX3_allows l dC dI fr fral frmonths frfull frlean fron kfral ffral x_996 v3 gfrmonths gfrfull gfrlean (gi_w gx_996 (by decide))) (cwV 2 hts (gz_gV mGA_573 mGA_574 mGA_575 mGA_18 mGA_576 goodGA) rfl rfl rfl hdV_X3_allows_X3_2 ⟨Nat.le_trans (Nat.le_of_ble_eq_true rfl) hRf, Nat.le_trans (Nat.le_of_ble_eq_true rfl) hRl⟩) ⟨bl_I (bl_a bl_P (bl_a bl_K bl_nz)), va_recv hKc hPc (ci := 3) (q0 := 0) rfl rfl, fun U hU hW => ⟨rfl, by rw [hU]; exact hPc, va_K.moved hW.alike hKc, nzA_warm hW hz⟩⟩ rfl rfl hl.1 rfl (lv_room (Nat.le_of_ble_eq_true rfl)) (dk_at dkX9_countBefore 34 rfl) ⟨hRc, hRs⟩) hS (fun q _ h => h.elim) (fun q h => h.elim) (fun r_997 u t H1 locs ht hvm hw hB hz1 hk1 hS => ?_)
          obtain ⟨hw, hE⟩ := hw
          have hP := gz_keep hP hk1
          have hF := gf_call (a := r_997) (by rw [ex_996] at hE; exact hE) hF
          generalize H1 = H at hP hS ⊢
          have gr_997 : gi r_997 0 1 := hw
          refine lv_if_eq (tgt := 60) hx hb (dk_at dkX9_countBefore 35 rfl) (by decide) (fun c_998 => ?_) (fun c_998 => ?_)
          · have hF := gf_pos c_998 hF
            have g_999 : gi r_997 0 0 := gi_eq c_998 (gi_c 0 0 (by decide))
            obtain ⟨x_1000, ex_1000⟩ : ∃ y : Int32, y = v3 + 1 := ⟨_, rfl⟩
            have gx_1000 : gi x_1000 1 24 := gi_add ex_1000 g_990 (gi_c 1 1 (by decide)) (by decide)
            refine lv_iinc (v := x_1000) (lv' := [(3, .int x_1000), (0, .ref h0), (1, .ref fr), (2, .int v2)]) hx hb (dk_at dkX9_countBefore 40 rfl) hl (k := 3) rfl (by rw [ex_1000]; rfl) (by decide) rfl (fun ls hl => ?_)
            refine lv_goto (tgt := 19) hx hb (dk_at dkX9_countBefore 41 rfl) (by decide) ?_
            exact ih.2 v2 x_1000 z1 _ _ _ gv2 (gi_w gx_1000 (by decide)) (by first | (rw [ex_1000]; exact hF) | ((try rw [ex_1000]); exact hF)) (by have av2 := gv2.1; have bv2 := gv2.2; have av3 := gv3.1; have bv3 := gv3.2; have qgx_1000 := gx_1000.1; have rgx_1000 := gx_1000.2; have igx_1000 : x_1000.toInt = v3.toInt + 1 := (by have hc1 : (1 : Int32).toInt = 1 := (by decide); have h9 := gi_addE ex_1000 g_990 (gi_c 1 1 (by decide)) (by decide); rw [hc1] at h9; exact h9); have qgv3 := g_990.1; have rgv3 := g_990.2; have qgv2 := gv2.1; have rgv2 := gv2.2; omega) hP hD hS (lv_sub hl [1, 2, 3, 0] rfl)
          · have hF := gf_neg c_998 hF
            have g_1001 : gi r_997 1 1 := gi_ne_lo c_998 gr_997 (gi_c 0 0 (by decide)) (by decide)
            refine lv_aload_n hx hb (dk_at dkX9_countBefore 36 rfl) rfl (lv_at hl 0 rfl) ?_
            refine lv_iload_n hx hb (dk_at dkX9_countBefore 37 rfl) rfl (lv_at hl 2 rfl) ?_
            refine lv_iload_n hx hb (dk_at dkX9_countBefore 38 rfl) rfl (lv_at hl 3 rfl) ?_
            obtain ⟨hPc, hDc, hFc⟩ := gz_cut (wc := [(h0, .inr (9, [.ref bf, .ref bh, .ref sa, .int months, .int full, .int lean])), (bf, .inl (kbf, 3575, .inl z1))]) hP hD hS hA [0, 1] (by decide) rfl
            have hKc := hK.sub (tys' := [(kbf, .int)]) [0] rfl
            refine va_callv (va_runV (As := [.int v2, .int v3]) (rest := []) ⟨hx, hb, hml, hown, hts⟩ (sX9_takeOnWithLean l dC dI H.size h0 bf bh sa months full lean kbf z1 v2 v3 gmonths gfull glean gv2 g_990) (cwV 2 hts (gz_gV mGA_586 mGA_587 mGA_588 mGA_27 mGA_589 goodGA) rfl rfl rfl hdV_X9_takeOnWithLean_X9_2 ⟨Nat.le_trans (Nat.le_of_ble_eq_true rfl) hRf, Nat.le_trans (Nat.le_of_ble_eq_true rfl) hRl⟩) ⟨bl_I (bl_a bl_sz (bl_a bl_P (bl_a bl_K (bl_a bl_c bl_nz)))), va_recv hKc hPc (ci := 9) (q0 := 0) rfl rfl, fun U hU hW => ⟨rfl, by rw [hU], by rw [hU]; exact hPc, va_K.moved hW.alike hKc, hDc.weaken (fun _ _ _ _ => trivial), nzA_warm hW hz⟩⟩ rfl rfl hl.1 rfl (lv_room (Nat.le_of_ble_eq_true rfl)) (dk_at dkX9_countBefore 39 rfl) ⟨hRc, hRs⟩) hS (fun q _ h => hFc q h) hFc (fun u t H1 locs ht hvm hw hB hz1 hk1 hS => ?_)
            obtain ⟨f_1003, hB⟩ := hB
            obtain ⟨hE, hP1, hD1⟩ := hB
            rw [ht] at hP1
            obtain ⟨hP, hD⟩ := gz_back hP hD hk1 hFc hP1 hD1 [0, 1] rfl rfl
            obtain ⟨hP, hD⟩ := gz_both (w := [(h0, .inr (9, [.ref bf, .ref bh, .ref sa, .int months, .int full, .int lean])), (bf, .inl (kbf, 3575, .inl f_1003)), (fr, .inr (3, [.int frmonths, .int frfull, .int frlean, .ref fral, .ref fron])), (fral, .inl (kfral, 25, .inl ffral))]) hP hD
            have hF := gf_call (a := f_1003) hE hF
            generalize H1 = H at hP hS ⊢
            obtain ⟨x_1004, ex_1004⟩ : ∃ y : Int32, y = v3 + 1 := ⟨_, rfl⟩
            have gx_1004 : gi x_1004 1 24 := gi_add ex_1004 g_990 (gi_c 1 1 (by decide)) (by decide)
            refine lv_iinc (v := x_1004) (lv' := [(3, .int x_1004), (0, .ref h0), (1, .ref fr), (2, .int v2)]) hx hb (dk_at dkX9_countBefore 40 rfl) hl (k := 3) rfl (by rw [ex_1004]; rfl) (by decide) rfl (fun ls hl => ?_)
            refine lv_goto (tgt := 19) hx hb (dk_at dkX9_countBefore 41 rfl) (by decide) ?_
            exact ih.2 v2 x_1004 f_1003 _ _ _ gv2 (gi_w gx_1004 (by decide)) (by first | (rw [ex_1004]; exact hF) | ((try rw [ex_1004]); exact hF)) (by have av2 := gv2.1; have bv2 := gv2.2; have av3 := gv3.1; have bv3 := gv3.2; have qgx_1004 := gx_1004.1; have rgx_1004 := gx_1004.2; have igx_1004 : x_1004.toInt = v3.toInt + 1 := (by have hc1 : (1 : Int32).toInt = 1 := (by decide); have h9 := gi_addE ex_1004 g_990 (gi_c 1 1 (by decide)) (by decide); rw [hc1] at h9; exact h9); have qgv3 := g_990.1; have rgv3 := g_990.2; have qgv2 := gv2.1; have rgv2 := gv2.2; omega) hP hD hS (lv_sub hl [1, 2, 3, 0] rfl)
        · have hF := gf_neg c_994 hF
          have g_1005 : gi r_993 1 1 := gi_ne_lo c_994 gr_993 (gi_c 0 0 (by decide)) (by decide)
          refine lv_aload_n hx hb (dk_at dkX9_countBefore 25 rfl) rfl (lv_at hl 0 rfl) ?_
          refine lv_iload_n hx hb (dk_at dkX9_countBefore 26 rfl) rfl (lv_at hl 2 rfl) ?_
          refine lv_iload_n hx hb (dk_at dkX9_countBefore 27 rfl) rfl (lv_at hl 3 rfl) ?_
          obtain ⟨hPc, hDc, hFc⟩ := gz_cut (wc := [(h0, .inr (9, [.ref bf, .ref bh, .ref sa, .int months, .int full, .int lean])), (bf, .inl (kbf, 3575, .inl z1))]) hP hD hS hA [0, 1] (by decide) rfl
          have hKc := hK.sub (tys' := [(kbf, .int)]) [0] rfl
          refine va_callv (va_runV (As := [.int v2, .int v3]) (rest := []) ⟨hx, hb, hml, hown, hts⟩ (sX9_takeOnWithFull l dC dI H.size h0 bf bh sa months full lean kbf z1 v2 v3 gmonths gfull glean gv2 g_990) (cwV 2 hts (gz_gV mGA_577 mGA_578 mGA_579 mGA_27 mGA_580 goodGA) rfl rfl rfl hdV_X9_takeOnWithFull_X9_2 ⟨Nat.le_trans (Nat.le_of_ble_eq_true rfl) hRf, Nat.le_trans (Nat.le_of_ble_eq_true rfl) hRl⟩) ⟨bl_I (bl_a bl_sz (bl_a bl_P (bl_a bl_K (bl_a bl_c bl_nz)))), va_recv hKc hPc (ci := 9) (q0 := 0) rfl rfl, fun U hU hW => ⟨rfl, by rw [hU], by rw [hU]; exact hPc, va_K.moved hW.alike hKc, hDc.weaken (fun _ _ _ _ => trivial), nzA_warm hW hz⟩⟩ rfl rfl hl.1 rfl (lv_room (Nat.le_of_ble_eq_true rfl)) (dk_at dkX9_countBefore 28 rfl) ⟨hRc, hRs⟩) hS (fun q _ h => hFc q h) hFc (fun u t H1 locs ht hvm hw hB hz1 hk1 hS => ?_)
          obtain ⟨f_1007, hB⟩ := hB
          obtain ⟨hE, hP1, hD1⟩ := hB
          rw [ht] at hP1
          obtain ⟨hP, hD⟩ := gz_back hP hD hk1 hFc hP1 hD1 [0, 1] rfl rfl
          obtain ⟨hP, hD⟩ := gz_both (w := [(h0, .inr (9, [.ref bf, .ref bh, .ref sa, .int months, .int full, .int lean])), (bf, .inl (kbf, 3575, .inl f_1007)), (fr, .inr (3, [.int frmonths, .int frfull, .int frlean, .ref fral, .ref fron])), (fral, .inl (kfral, 25, .inl ffral))]) hP hD
          have hF := gf_call (a := f_1007) hE hF
          generalize H1 = H at hP hS ⊢
          refine lv_aload_n hx hb (dk_at dkX9_countBefore 29 rfl) rfl (lv_at hl 1 rfl) ?_
          refine lv_iload_n hx hb (dk_at dkX9_countBefore 30 rfl) rfl (lv_at hl 2 rfl) ?_
          refine lv_iconst (v := 1) hx hb (dk_at dkX9_countBefore 31 rfl) (by decide) ?_
          refine lv_iadd hx hb (dk_at dkX9_countBefore 32 rfl) ?_
          refine lv_topi (fun x_1008 ex_1008 => ?_)
          have gx_1008 : gi x_1008 1 24 := gi_add ex_1008 gv2 (gi_c 1 1 (by decide)) (by decide)
          refine lv_iload_n hx hb (dk_at dkX9_countBefore 33 rfl) rfl (lv_at hl 3 rfl) ?_
          have hPc := hP.sub (ws' := [(fr, .inr (3, [.int frmonths, .int frfull, .int frlean, .ref fral, .ref fron])), (fral, .inl (kfral, 25, .inl ffral))]) [2, 3] rfl
          have hKc := hK.sub (tys' := [(kfral, .int)]) [1] rfl
          refine va_calli (va_runV (As := [.int x_1008, .int v3]) (rest := []) ⟨hx, hb, hml, hown, hts⟩ (sX3_allows l dC dI fr fral frmonths frfull frlean fron kfral ffral x_1008 v3 gfrmonths gfrfull gfrlean (gi_w gx_1008 (by decide))) (cwV 2 hts (gz_gV mGA_573 mGA_574 mGA_575 mGA_18 mGA_576 goodGA) rfl rfl rfl hdV_X3_allows_X3_2 ⟨Nat.le_trans (Nat.le_of_ble_eq_true rfl) hRf, Nat.le_trans (Nat.le_of_ble_eq_true rfl) hRl⟩) ⟨bl_I (bl_a bl_P (bl_a bl_K bl_nz)), va_recv hKc hPc (ci := 3) (q0 := 0) rfl rfl, fun U hU hW => ⟨rfl, by rw [hU]; exact hPc, va_K.moved hW.alike hKc, nzA_warm hW hz⟩⟩ rfl rfl hl.1 rfl (lv_room (Nat.le_of_ble_eq_true rfl)) (dk_at dkX9_countBefore 34 rfl) ⟨hRc, hRs⟩) hS (fun q _ h => h.elim) (fun q h => h.elim) (fun r_1009 u t H1 locs ht hvm hw hB hz1 hk1 hS => ?_)
          obtain ⟨hw, hE⟩ := hw
          have hP := gz_keep hP hk1
          have hF := gf_call (a := r_1009) (by rw [ex_1008] at hE; exact hE) hF
          generalize H1 = H at hP hS ⊢
          have gr_1009 : gi r_1009 0 1 := hw
          refine lv_if_eq (tgt := 60) hx hb (dk_at dkX9_countBefore 35 rfl) (by decide) (fun c_1010 => ?_) (fun c_1010 => ?_)
          · have hF := gf_pos c_1010 hF
            have g_1011 : gi r_1009 0 0 := gi_eq c_1010 (gi_c 0 0 (by decide))
            obtain ⟨x_1012, ex_1012⟩ : ∃ y : Int32, y = v3 + 1 := ⟨_, rfl⟩
            have gx_1012 : gi x_1012 1 24 := gi_add ex_1012 g_990 (gi_c 1 1 (by decide)) (by decide)
            refine lv_iinc (v := x_1012) (lv' := [(3, .int x_1012), (0, .ref h0), (1, .ref fr), (2, .int v2)]) hx hb (dk_at dkX9_countBefore 40 rfl) hl (k := 3) rfl (by rw [ex_1012]; rfl) (by decide) rfl (fun ls hl => ?_)
            refine lv_goto (tgt := 19) hx hb (dk_at dkX9_countBefore 41 rfl) (by decide) ?_
            exact ih.2 v2 x_1012 f_1007 _ _ _ gv2 (gi_w gx_1012 (by decide)) (by first | (rw [ex_1012]; exact hF) | ((try rw [ex_1012]); exact hF)) (by have av2 := gv2.1; have bv2 := gv2.2; have av3 := gv3.1; have bv3 := gv3.2; have qgx_1012 := gx_1012.1; have rgx_1012 := gx_1012.2; have igx_1012 : x_1012.toInt = v3.toInt + 1 := (by have hc1 : (1 : Int32).toInt = 1 := (by decide); have h9 := gi_addE ex_1012 g_990 (gi_c 1 1 (by decide)) (by decide); rw [hc1] at h9; exact h9); have qgv3 := g_990.1; have rgv3 := g_990.2; have qgv2 := gv2.1; have rgv2 := gv2.2; omega) hP hD hS (lv_sub hl [1, 2, 3, 0] rfl)
          · have hF := gf_neg c_1010 hF
            have g_1013 : gi r_1009 1 1 := gi_ne_lo c_1010 gr_1009 (gi_c 0 0 (by decide)) (by decide)
            refine lv_aload_n hx hb (dk_at dkX9_countBefore 36 rfl) rfl (lv_at hl 0 rfl) ?_
            refine lv_iload_n hx hb (dk_at dkX9_countBefore 37 rfl) rfl (lv_at hl 2 rfl) ?_
            refine lv_iload_n hx hb (dk_at dkX9_countBefore 38 rfl) rfl (lv_at hl 3 rfl) ?_
            obtain ⟨hPc, hDc, hFc⟩ := gz_cut (wc := [(h0, .inr (9, [.ref bf, .ref bh, .ref sa, .int months, .int full, .int lean])), (bf, .inl (kbf, 3575, .inl f_1007))]) hP hD hS hA [0, 1] (by decide) rfl
            have hKc := hK.sub (tys' := [(kbf, .int)]) [0] rfl
            refine va_callv (va_runV (As := [.int v2, .int v3]) (rest := []) ⟨hx, hb, hml, hown, hts⟩ (sX9_takeOnWithLean l dC dI H.size h0 bf bh sa months full lean kbf f_1007 v2 v3 gmonths gfull glean gv2 g_990) (cwV 2 hts (gz_gV mGA_586 mGA_587 mGA_588 mGA_27 mGA_589 goodGA) rfl rfl rfl hdV_X9_takeOnWithLean_X9_2 ⟨Nat.le_trans (Nat.le_of_ble_eq_true rfl) hRf, Nat.le_trans (Nat.le_of_ble_eq_true rfl) hRl⟩) ⟨bl_I (bl_a bl_sz (bl_a bl_P (bl_a bl_K (bl_a bl_c bl_nz)))), va_recv hKc hPc (ci := 9) (q0 := 0) rfl rfl, fun U hU hW => ⟨rfl, by rw [hU], by rw [hU]; exact hPc, va_K.moved hW.alike hKc, hDc.weaken (fun _ _ _ _ => trivial), nzA_warm hW hz⟩⟩ rfl rfl hl.1 rfl (lv_room (Nat.le_of_ble_eq_true rfl)) (dk_at dkX9_countBefore 39 rfl) ⟨hRc, hRs⟩) hS (fun q _ h => hFc q h) hFc (fun u t H1 locs ht hvm hw hB hz1 hk1 hS => ?_)
            obtain ⟨f_1015, hB⟩ := hB
            obtain ⟨hE, hP1, hD1⟩ := hB
            rw [ht] at hP1
            obtain ⟨hP, hD⟩ := gz_back hP hD hk1 hFc hP1 hD1 [0, 1] rfl rfl
            obtain ⟨hP, hD⟩ := gz_both (w := [(h0, .inr (9, [.ref bf, .ref bh, .ref sa, .int months, .int full, .int lean])), (bf, .inl (kbf, 3575, .inl f_1015)), (fr, .inr (3, [.int frmonths, .int frfull, .int frlean, .ref fral, .ref fron])), (fral, .inl (kfral, 25, .inl ffral))]) hP hD
            have hF := gf_call (a := f_1015) hE hF
            generalize H1 = H at hP hS ⊢
            obtain ⟨x_1016, ex_1016⟩ : ∃ y : Int32, y = v3 + 1 := ⟨_, rfl⟩
            have gx_1016 : gi x_1016 1 24 := gi_add ex_1016 g_990 (gi_c 1 1 (by decide)) (by decide)
            refine lv_iinc (v := x_1016) (lv' := [(3, .int x_1016), (0, .ref h0), (1, .ref fr), (2, .int v2)]) hx hb (dk_at dkX9_countBefore 40 rfl) hl (k := 3) rfl (by rw [ex_1016]; rfl) (by decide) rfl (fun ls hl => ?_)
            refine lv_goto (tgt := 19) hx hb (dk_at dkX9_countBefore 41 rfl) (by decide) ?_
            exact ih.2 v2 x_1016 f_1015 _ _ _ gv2 (gi_w gx_1016 (by decide)) (by first | (rw [ex_1016]; exact hF) | ((try rw [ex_1016]); exact hF)) (by have av2 := gv2.1; have bv2 := gv2.2; have av3 := gv3.1; have bv3 := gv3.2; have qgx_1016 := gx_1016.1; have rgx_1016 := gx_1016.2; have igx_1016 : x_1016.toInt = v3.toInt + 1 := (by have hc1 : (1 : Int32).toInt = 1 := (by decide); have h9 := gi_addE ex_1016 g_990 (gi_c 1 1 (by decide)) (by decide); rw [hc1] at h9; exact h9); have qgv3 := g_990.1; have rgv3 := g_990.2; have qgv2 := gv2.1; have rgv2 := gv2.2; omega) hP hD hS (lv_sub hl [1, 2, 3, 0] rfl)
abbrev pb_sX9_countBefore (dC : Nat → ClassId) (dI : Nat → Nat → Nat) (A9 : Nat → Prop) (h0 : Nat) (bf : Nat) (fr : Nat) (fral : Nat) (bh : Nat) (sa : Nat) (months : Int32) (full : Int32) (lean : Int32) (kbf : ClassId) (fbf : Nat → Int32) (frmonths : Int32) (frfull : Int32) (frlean : Int32) (fron : Nat) (kfral : ClassId) (ffral : Nat → Int32) (z1 : Nat → Int32) (t : State) : Prop := z1 = fX9_countBefore months full lean fbf ffral ∧ va_P (dC, dI) vwCl [(h0, .inr (9, [.ref bf, .ref bh, .ref sa, .int months, .int full, .int lean])), (bf, .inl (kbf, 3575, .inl z1)), (fr, .inr (3, [.int frmonths, .int frfull, .int frlean, .ref fral, .ref fron])), (fral, .inl (kfral, 25, .inl ffral))] t.heap ∧ va_D A9 [(h0, .inr (9, [.ref bf, .ref bh, .ref sa, .int months, .int full, .int lean])), (bf, .inl (kbf, 3575, .inl z1)), (fr, .inr (3, [.int frmonths, .int frfull, .int frlean, .ref fral, .ref fron])), (fral, .inl (kfral, 25, .inl ffral))]
set_option maxHeartbeats 4000000 in
set_option maxRecDepth 100000 in
theorem sX9_countBefore (l : Launch) (dC : Nat → ClassId) (dI : Nat → Nat → Nat) (sz : Nat) (h0 : Nat) (bf : Nat) (fr : Nat) (fral : Nat) (bh : Nat) (sa : Nat) (months : Int32) (full : Int32) (lean : Int32) (kbf : ClassId) (fbf : Nat → Int32) (frmonths : Int32) (frfull : Int32) (frlean : Int32) (fron : Nat) (kfral : ClassId) (ffral : Nat → Int32) (gmonths : gi months 0 24) (gfull : gi full 0 5) (glean : gi lean 0 5) (gfrmonths : gi frmonths 0 24) (gfrfull : gi frfull 0 5) (gfrlean : gi frlean 0 5) : Met l yX9_countBefore (.code yX9_countBefore cX9_countBefore 4 none :: wsGA) ({ frames := 3, cells := 0, slots := 0, locals := 69 }) (va_Pc [.ref h0, .ref fr] (fun U => U.heap.size = sz ∧ va_P (dC, dI) vwCl [(h0, .inr (9, [.ref bf, .ref bh, .ref sa, .int months, .int full, .int lean])), (bf, .inl (kbf, 3575, .inl fbf)), (fr, .inr (3, [.int frmonths, .int frfull, .int frlean, .ref fral, .ref fron])), (fral, .inl (kfral, 25, .inl ffral))] U.heap ∧ va_K (dC, dI) vwCl [(kbf, .int), (kfral, .int)] U ∧ va_D (fun _ => True) [(h0, .inr (9, [.ref bf, .ref bh, .ref sa, .int months, .int full, .int lean])), (bf, .inl (kbf, 3575, .inl fbf)), (fr, .inr (3, [.int frmonths, .int frfull, .int frlean, .ref fral, .ref fron])), (fral, .inl (kfral, 25, .inl ffral))] ∧ nzA U)) (va_Qv (fun (u : Unit) => True) (fun _ t => ∃ (z1 : Nat → Int32), pb_sX9_countBefore dC dI (va_A [(h0, .inr (9, [.ref bf, .ref bh, .ref sa, .int months, .int full, .int lean])), (bf, .inl (kbf, 3575, .inl fbf)), (fr, .inr (3, [.int frmonths, .int frfull, .int frlean, .ref fral, .ref fron])), (fral, .inl (kfral, 25, .inl ffral))] sz) h0 bf fr fral bh sa months full lean kbf fbf frmonths frfull frlean fron kfral ffral z1 t) (va_A [(h0, .inr (9, [.ref bf, .ref bh, .ref sa, .int months, .int full, .int lean])), (bf, .inl (kbf, 3575, .inl fbf)), (fr, .inr (3, [.int frmonths, .int frfull, .int frlean, .ref fral, .ref fron])), (fral, .inl (kfral, 25, .inl ffral))] sz)) 0 0 (va_A [(h0, .inr (9, [.ref bf, .ref bh, .ref sa, .int months, .int full, .int lean])), (bf, .inl (kbf, 3575, .inl fbf)), (fr, .inr (3, [.int frmonths, .int frfull, .int frlean, .ref fral, .ref fron])), (fral, .inl (kfral, 25, .inl ffral))] sz) := by
  refine Met.ofW (cc := cX9_countBefore) (maxL := 4) (ret := none) (by decide) rfl ?_
  intro p e s m args below meth c s₁ B hml hv
  obtain ⟨rfl, hsz, hP, hK, hD0, hz⟩ := hv
  have hx := B.exec
  have hb := B.bytes
  have hr := B.returns
  have hts := atoms_spec (ws := (.code yX9_countBefore cX9_countBefore 4 none :: wsGA)) B.pre
  have hown : s.vm.findClass RX9 = some m.cls := findClass_of_methodNamed B.named
  have hlocks := B.notSynchronized
  subst hsz
  have hD := hD0.self (sz := s.heap.size)
  generalize hAe : va_A [(h0, .inr (9, [.ref bf, .ref bh, .ref sa, .int months, .int full, .int lean])), (bf, .inl (kbf, 3575, .inl fbf)), (fr, .inr (3, [.int frmonths, .int frfull, .int frlean, .ref fral, .ref fron])), (fral, .inl (kfral, 25, .inl ffral))] s.heap.size = A at hD ⊢
  have hA : ∀ q : Nat, s.heap.size ≤ q → A q := fun q h => by rw [← hAe]; exact Or.inr h
  have hS : va_S A s.heap s.heap [] := va_S.rf
  have hl := lv_entry ([.ref h0, .ref fr]) (n := 4) (Nat.le_of_ble_eq_true rfl)
  rw [lg_entry_eq]
  generalize (lg_sl ([.ref h0, .ref fr]) ++ List.replicate (4 - (lg_sl ([.ref h0, .ref fr])).length) Slot.unset).toArray = ls at hl ⊢
  have hl : lv_has ls 4 [(0, .ref h0), (1, .ref fr)] := hl
  obtain ⟨RES, hF⟩ : ∃ R9, fX9_countBefore months full lean fbf ffral = R9 := ⟨_, rfl⟩
  have hR9 := hF
  refine lv_aload_n hx hb (dk_at dkX9_countBefore 0 rfl) rfl (lv_at hl 0 rfl) ?_
  refine va_get (D := (dC, dI)) (ci := 9) (v := .ref bf) (C := RX9) (T := TX9) (N := 6) hx hb hts (fun w h => List.mem_cons_of_mem _ (jnGA_X9 w h)) hown hK hP 0 rfl rfl 0 (by decide) (hts _ (List.mem_cons_of_mem _ mGA_111)) (fun _ h9 => h9) rfl (dk_at dkX9_countBefore 1 rfl) ?_
  refine lv_iconst (v := 0) hx hb (dk_at dkX9_countBefore 2 rfl) (by decide) ?_
  refine lv_iconst (v := 1) hx hb (dk_at dkX9_countBefore 3 rfl) (by decide) ?_
  refine va_iast hx hb hK hP hD hS 1 0 rfl rfl (gi_in (gi_c 0 0 (by decide)) (by decide)) (dk_at dkX9_countBefore 4 rfl) (fun H locs hP hD hS => ?_)
  obtain ⟨hP, hD⟩ := gz_both (w := [(h0, .inr (9, [.ref bf, .ref bh, .ref sa, .int months, .int full, .int lean])), (bf, .inl (kbf, 3575, .inl (upd fbf (0 : Int32).toNatClampNeg 1))), (fr, .inr (3, [.int frmonths, .int frfull, .int frlean, .ref fral, .ref fron])), (fral, .inl (kfral, 25, .inl ffral))]) hP hD
  generalize ef_1017 : upd fbf (0 : Int32).toNatClampNeg 1 = f_1017 at hP hD
  refine lv_iconst (v := 0) hx hb (dk_at dkX9_countBefore 5 rfl) (by decide) ?_
  refine lv_istore_n (lv' := [(2, .int 0), (0, .ref h0), (1, .ref fr)]) hx hb (dk_at dkX9_countBefore 6 rfl) rfl hl (by decide) rfl (fun ls hl => ?_)
  refine (lp_sX9_countBefore (RES := RES) h0 bf fr fral bh sa months full lean kbf fbf frmonths frfull frlean fron kfral ffral gmonths gfull glean gfrmonths gfrfull gfrlean hx hb hml hown hts hK hz hA (Nat.le_of_ble_eq_true rfl) (Nat.le_of_ble_eq_true rfl) (Nat.zero_le _) (Nat.zero_le _) (fun z1 H locs ls hF hP hD hS hl => ?_) 1000000000).1 0 f_1017 _ _ _ (gi_w (gi_c 0 0 (by decide)) (by decide)) (by first | (rw [← ef_1017]; exact hF) | ((try rw [← ef_1017]); exact hF)) (by have k0 : (0 : Int32).toInt = 0 := (by decide); omega) hP hD hS (lv_sub hl [1, 2, 0] rfl)
  · skip
    exact W.vret hx hb hr (fun t ht hW => ⟨⟨(), rfl, trivial, z1, hF.trans hR9.symm, by rw [ht]; exact hP, hD⟩, hS.F ht⟩) hS.2.2 (dk_at dkX9_countBefore 44 rfl)
noncomputable def lsX9_countStarts : List (Nat × Instr × Nat) := [(0, .iconst 0, 1), (1, .istore_n 1, 1), (2, .iload_n 1, 1), (3, .aload_n 0, 1), (4, .getfield 27, 3), (7, .if_icmp .gt 97, 3), (10, .iconst 0, 1), (11, .istore_n 2, 1), (12, .iload_n 2, 1), (13, .iload_n 1, 1), (14, .if_icmp .gt 84, 3), (17, .iload_n 1, 1), (18, .iload_n 2, 1), (19, .iconst 0, 1), (20, .invokestatic 63, 3), (23, .istore_n 3, 1), (24, .iconst 0, 1), (25, .istore 4, 2), (27, .iload_n 1, 1), (28, .invokestatic 67, 3), (31, .istore 5, 2), (33, .iload 5, 2), (35, .iload_n 1, 1), (36, .aload_n 0, 1), (37, .getfield 31, 3), (40, .aload_n 0, 1), (41, .getfield 35, 3), (44, .invokestatic 71, 3), (47, .if_icmp .gt 33, 3), (50, .iload 4, 2), (52, .aload_n 0, 1), (53, .getfield 9, 3), (56, .iload_n 3, 1), (57, .iload 5, 2), (59, .iadd, 1), (60, .iaload, 1), (61, .aload_n 0, 1), (62, .getfield 15, 3), (65, .iload_n 3, 1), (66, .iload 5, 2), (68, .iadd, 1), (69, .iaload, 1), (70, .imul, 1), (71, .iadd, 1), (72, .istore 4, 2), (74, .iinc 5 1, 3), (77, .goto (-44), 3), (80, .aload_n 0, 1), (81, .getfield 18, 3), (84, .iload_n 1, 1), (85, .iload_n 2, 1), (86, .invokestatic 92, 3), (89, .iload 4, 2), (91, .iastore, 1), (92, .iinc 2 1, 3), (95, .goto (-83), 3), (98, .iinc 1 1, 3), (101, .goto (-99), 3), (104, .return_, 1)]
theorem dkX9_countStarts : dkAll cX9_countStarts lsX9_countStarts = true := dk_fast (by decide +kernel)
noncomputable def dfX9_countStarts_2 (months : Int32) (full : Int32) (lean : Int32) (fbf : Nat → Int32) (fbh : Nat → Int32) (fsa : Nat → Int32) (K : (Int32 → (Nat → Int32) → ((Nat → Int32))) × (Int32 → Int32 → (Nat → Int32) → ((Nat → Int32))) × (Int32 → Int32 → Int32 → Int32 → Int32 → (Nat → Int32) → ((Nat → Int32)))) (v1 : Int32) (z3 : Nat → Int32) : (Nat → Int32) := if months < v1 then z3 else (K.2.1 v1 (0 : Int32) z3)
noncomputable def dfX9_countStarts_12 (months : Int32) (full : Int32) (lean : Int32) (fbf : Nat → Int32) (fbh : Nat → Int32) (fsa : Nat → Int32) (K : (Int32 → (Nat → Int32) → ((Nat → Int32))) × (Int32 → Int32 → (Nat → Int32) → ((Nat → Int32))) × (Int32 → Int32 → Int32 → Int32 → Int32 → (Nat → Int32) → ((Nat → Int32)))) (v1 : Int32) (v2 : Int32) (z3 : Nat → Int32) : (Nat → Int32) := if v1 < v2 then (K.1 (v1 + (1 : Int32)) z3) else (cal (fun o1 => cal (fun o2 => K.2.2 v1 v2 o1 (0 : Int32) o2 z3) (fX11_firstRun v1)) (fX11_spot v1 v2 (0 : Int32)))
noncomputable def dfX9_countStarts_33 (months : Int32) (full : Int32) (lean : Int32) (fbf : Nat → Int32) (fbh : Nat → Int32) (fsa : Nat → Int32) (K : (Int32 → (Nat → Int32) → ((Nat → Int32))) × (Int32 → Int32 → (Nat → Int32) → ((Nat → Int32))) × (Int32 → Int32 → Int32 → Int32 → Int32 → (Nat → Int32) → ((Nat → Int32)))) (v1 : Int32) (v2 : Int32) (v3 : Int32) (v4 : Int32) (v5 : Int32) (z3 : Nat → Int32) : (Nat → Int32) := cal (fun o3 => if o3 < v5 then (cal (fun o4 => K.2.1 v1 (v2 + (1 : Int32)) (upd z3 o4.toNatClampNeg v4)) (fX11_cell v1 v2)) else (K.2.2 v1 v2 v3 (v4 + ((fbf (v3 + v5).toNatClampNeg) * (fbh (v3 + v5).toNatClampNeg))) (v5 + (1 : Int32)) z3)) (fX11_lastRun v1 full lean)
noncomputable def lfX9_countStarts (months : Int32) (full : Int32) (lean : Int32) (fbf : Nat → Int32) (fbh : Nat → Int32) (fsa : Nat → Int32) (z : Nat) : (Int32 → (Nat → Int32) → ((Nat → Int32))) × (Int32 → Int32 → (Nat → Int32) → ((Nat → Int32))) × (Int32 → Int32 → Int32 → Int32 → Int32 → (Nat → Int32) → ((Nat → Int32))) := Nat.rec (motive := fun _ => (Int32 → (Nat → Int32) → ((Nat → Int32))) × (Int32 → Int32 → (Nat → Int32) → ((Nat → Int32))) × (Int32 → Int32 → Int32 → Int32 → Int32 → (Nat → Int32) → ((Nat → Int32)))) ((fun _ z3 => (z3), fun _ _ z3 => (z3), fun _ _ _ _ _ z3 => (z3))) (fun _ K => (dfX9_countStarts_2 months full lean fbf fbh fsa K, dfX9_countStarts_12 months full lean fbf fbh fsa K, dfX9_countStarts_33 months full lean fbf fbh fsa K)) z
noncomputable def fX9_countStarts (months : Int32) (full : Int32) (lean : Int32) (fbf : Nat → Int32) (fbh : Nat → Int32) (fsa : Nat → Int32) : (Nat → Int32) := (lfX9_countStarts months full lean fbf fbh fsa 1000000000).1 (0 : Int32) fsa
set_option maxHeartbeats 4000000 in
set_option maxRecDepth 100000 in
theorem lp_sX9_countStarts {p : Program} {l : Launch} {e : Env} {R : Room} {s : State} {m : MethodId} {args : Array Value} {below : List Frame} {meth : Method} {c : Code} {Q : State → Prop} {A : Nat → Prop} {cells slots : Nat} {dC : Nat → ClassId} {dI : Nat → Nat → Nat} {RES : (Nat → Int32)} (h0 : Nat) (bf : Nat) (bh : Nat) (sa : Nat) (months : Int32) (full : Int32) (lean : Int32) (kbf : ClassId) (fbf : Nat → Int32) (kbh : ClassId) (fbh : Nat → Int32) (ksa : ClassId) (fsa : Nat → Int32) (gmonths : gi months 0 24) (gfull : gi full 0 5) (glean : gi lean 0 5) (hx : p.tables.exec = Jvm.exec) (hb : c.code = cX9_countStarts) (hml : c.maxLocals = 6) (hown : s.vm.findClass RX9 = some m.cls) (hts : ∀ w ∈ ((.code yX9_countStarts cX9_countStarts 6 none :: wsGA) : List Cond), w.before args s = true) (hK : va_K (dC, dI) vwCl [(kbf, .int), (kbh, .int), (ksa, .int)] s) (hz : nzA s) (hA : ∀ q : Nat, s.heap.size ≤ q → A q) (hRf : 2 ≤ R.frames) (hRl : 43 ≤ R.locals) (hRc : cells ≤ R.cells) (hRs : slots ≤ R.slots) (kr104 : ∀ (z3 : Nat → Int32) (H : Heap) (locs : List Loc) (ls : Array Slot), z3 = RES → va_P (dC, dI) vwCl [(h0, .inr (9, [.ref bf, .ref bh, .ref sa, .int months, .int full, .int lean])), (bf, .inl (kbf, 3575, .inl fbf)), (bh, .inl (kbh, 3575, .inl fbh)), (sa, .inl (ksa, 325, .inl z3))] H → va_D A [(h0, .inr (9, [.ref bf, .ref bh, .ref sa, .int months, .int full, .int lean])), (bf, .inl (kbf, 3575, .inl fbf)), (bh, .inl (kbh, 3575, .inl fbh)), (sa, .inl (ksa, 325, .inl z3))] → va_S A s.heap H locs → lv_has ls 6 [] → W p l e R s m args below meth c H locs cells slots Q (F0 m 104 ls [])) : ∀ z : Nat, (∀ (v1 : Int32) (z3 : Nat → Int32) (H : Heap) (locs : List Loc) (ls : Array Slot), gi v1 0 25 → (lfX9_countStarts months full lean fbf fbh fsa z).1 v1 z3 = RES → 18951 + (-758) * v1.toInt < (z : Int) → va_P (dC, dI) vwCl [(h0, .inr (9, [.ref bf, .ref bh, .ref sa, .int months, .int full, .int lean])), (bf, .inl (kbf, 3575, .inl fbf)), (bh, .inl (kbh, 3575, .inl fbh)), (sa, .inl (ksa, 325, .inl z3))] H → va_D A [(h0, .inr (9, [.ref bf, .ref bh, .ref sa, .int months, .int full, .int lean])), (bf, .inl (kbf, 3575, .inl fbf)), (bh, .inl (kbh, 3575, .inl fbh)), (sa, .inl (ksa, 325, .inl z3))] → va_S A s.heap H locs → lv_has ls 6 [(0, .ref h0), (1, .int v1)] → W p l e R s m args below meth c H locs cells slots Q (F0 m 2 ls [])) ∧ (∀ (v1 : Int32) (v2 : Int32) (z3 : Nat → Int32) (H : Heap) (locs : List Loc) (ls : Array Slot), gi v1 0 24 → gi v2 0 25 → (lfX9_countStarts months full lean fbf fbh fsa z).2.1 v1 v2 z3 = RES → 18894 + (-758) * v1.toInt + (-28) * v2.toInt < (z : Int) → va_P (dC, dI) vwCl [(h0, .inr (9, [.ref bf, .ref bh, .ref sa, .int months, .int full, .int lean])), (bf, .inl (kbf, 3575, .inl fbf)), (bh, .inl (kbh, 3575, .inl fbh)), (sa, .inl (ksa, 325, .inl z3))] H → va_D A [(h0, .inr (9, [.ref bf, .ref bh, .ref sa, .int months, .int full, .int lean])), (bf, .inl (kbf, 3575, .inl fbf)), (bh, .inl (kbh, 3575, .inl fbh)), (sa, .inl (ksa, 325, .inl z3))] → va_S A s.heap H locs → lv_has ls 6 [(0, .ref h0), (1, .int v1), (2, .int v2)] → W p l e R s m args below meth c H locs cells slots Q (F0 m 12 ls [])) ∧ (∀ (v1 : Int32) (v2 : Int32) (v3 : Int32) (v4 : Int32) (v5 : Int32) (z3 : Nat → Int32) (H : Heap) (locs : List Loc) (ls : Array Slot), gi v1 0 24 → gi v2 0 24 → gi v3 0 3564 → gi v5 0 11 → (lfX9_countStarts months full lean fbf fbh fsa z).2.2 v1 v2 v3 v4 v5 z3 = RES → 18889 + (-758) * v1.toInt + (-28) * v2.toInt + (-2) * v5.toInt < (z : Int) → va_P (dC, dI) vwCl [(h0, .inr (9, [.ref bf, .ref bh, .ref sa, .int months, .int full, .int lean])), (bf, .inl (kbf, 3575, .inl fbf)), (bh, .inl (kbh, 3575, .inl fbh)), (sa, .inl (ksa, 325, .inl z3))] H → va_D A [(h0, .inr (9, [.ref bf, .ref bh, .ref sa, .int months, .int full, .int lean])), (bf, .inl (kbf, 3575, .inl fbf)), (bh, .inl (kbh, 3575, .inl fbh)), (sa, .inl (ksa, 325, .inl z3))] → va_S A s.heap H locs → lv_has ls 6 [(0, .ref h0), (1, .int v1), (2, .int v2), (3, .int v3), (4, .int v4), (5, .int v5)] → W p l e R s m args below meth c H locs cells slots Q (F0 m 33 ls [])) := by
  intro z
  induction z with
  | zero =>
    refine ⟨?_, ?_, ?_⟩
    · intro v1 z3 H locs ls gv1 hF hmu hP hD hS hl
      exact absurd hmu (by have hv11 := gv1.1; have hv12 := gv1.2; omega)
    · intro v1 v2 z3 H locs ls gv1 gv2 hF hmu hP hD hS hl
      exact absurd hmu (by have hv11 := gv1.1; have hv12 := gv1.2; have hv21 := gv2.1; have hv22 := gv2.2; omega)
    · intro v1 v2 v3 v4 v5 z3 H locs ls gv1 gv2 gv3 gv5 hF hmu hP hD hS hl
      exact absurd hmu (by have hv11 := gv1.1; have hv12 := gv1.2; have hv21 := gv2.1; have hv22 := gv2.2; have hv51 := gv5.1; have hv52 := gv5.2; omega)
  | succ z ih =>
    refine ⟨?_, ?_, ?_⟩
    · intro v1 z3 H locs ls gv1 hF hmu hP hD hS hl
      have hF : dfX9_countStarts_2 months full lean fbf fbh fsa (lfX9_countStarts months full lean fbf fbh fsa z) v1 z3 = RES := hF
      refine lv_iload_n hx hb (dk_at dkX9_countStarts 2 rfl) rfl (lv_at hl 1 rfl) ?_
      refine lv_aload_n hx hb (dk_at dkX9_countStarts 3 rfl) rfl (lv_at hl 0 rfl) ?_
      refine va_get (D := (dC, dI)) (ci := 9) (v := .int months) (C := RX9) (T := TX9) (N := 6) hx hb hts (fun w h => List.mem_cons_of_mem _ (jnGA_X9 w h)) hown hK hP 0 rfl rfl 3 (by decide) (hts _ (List.mem_cons_of_mem _ mGA_560)) (fun _ h9 => h9) rfl (dk_at dkX9_countStarts 4 rfl) ?_
      refine lv_icmp_gt (tgt := 104) hx hb (dk_at dkX9_countStarts 5 rfl) (by decide) (fun c_707 => ?_) (fun c_707 => ?_)
      · have hF := gf_pos c_707 hF
        have g_708 : gi v1 1 25 := gi_lt_r c_707 gmonths gv1 (by decide)
        exact kr104 z3 _ _ _ hF hP hD hS (lv_sub hl [] rfl)
      · have hF := gf_neg c_707 hF
        have g_709 : gi v1 0 24 := gi_le_l (Int32.not_lt.mp c_707) gv1 gmonths
        refine lv_iconst (v := 0) hx hb (dk_at dkX9_countStarts 6 rfl) (by decide) ?_
        refine lv_istore_n (lv' := [(2, .int 0), (0, .ref h0), (1, .int v1)]) hx hb (dk_at dkX9_countStarts 7 rfl) rfl hl (by decide) rfl (fun ls hl => ?_)
        exact ih.2.1 v1 0 z3 _ _ _ g_709 (gi_w (gi_c 0 0 (by decide)) (by decide)) hF (by have k0 : (0 : Int32).toInt = 0 := (by decide); have av1 := gv1.1; have bv1 := gv1.2; have qgv1 := g_709.1; have rgv1 := g_709.2; omega) hP hD hS (lv_sub hl [1, 2, 0] rfl)
    · intro v1 v2 z3 H locs ls gv1 gv2 hF hmu hP hD hS hl
      have hF : dfX9_countStarts_12 months full lean fbf fbh fsa (lfX9_countStarts months full lean fbf fbh fsa z) v1 v2 z3 = RES := hF
      refine lv_iload_n hx hb (dk_at dkX9_countStarts 8 rfl) rfl (lv_at hl 2 rfl) ?_
      refine lv_iload_n hx hb (dk_at dkX9_countStarts 9 rfl) rfl (lv_at hl 1 rfl) ?_
      refine lv_icmp_gt (tgt := 98) hx hb (dk_at dkX9_countStarts 10 rfl) (by decide) (fun c_710 => ?_) (fun c_710 => ?_)
      · have hF := gf_pos c_710 hF
        have g_711 : gi v2 1 25 := gi_lt_r c_710 gv1 gv2 (by decide)
        obtain ⟨x_712, ex_712⟩ : ∃ y : Int32, y = v1 + 1 := ⟨_, rfl⟩
        have gx_712 : gi x_712 1 25 := gi_add ex_712 gv1 (gi_c 1 1 (by decide)) (by decide)
        refine lv_iinc (v := x_712) (lv' := [(1, .int x_712), (0, .ref h0), (2, .int v2)]) hx hb (dk_at dkX9_countStarts 56 rfl) hl (k := 1) rfl (by rw [ex_712]; rfl) (by decide) rfl (fun ls hl => ?_)
        refine lv_goto (tgt := 2) hx hb (dk_at dkX9_countStarts 57 rfl) (by decide) ?_
        exact ih.1 x_712 z3 _ _ _ (gi_w gx_712 (by decide)) (by first | (rw [ex_712]; exact hF) | ((try rw [ex_712]); exact hF)) (by have av1 := gv1.1; have bv1 := gv1.2; have av2 := gv2.1; have bv2 := gv2.2; have qgx_712 := gx_712.1; have rgx_712 := gx_712.2; have igx_712 : x_712.toInt = v1.toInt + 1 := (by have hc1 : (1 : Int32).toInt = 1 := (by decide); have h9 := gi_addE ex_712 gv1 (gi_c 1 1 (by decide)) (by decide); rw [hc1] at h9; exact h9); have qgv1 := gv1.1; have rgv1 := gv1.2; omega) hP hD hS (lv_sub hl [1, 0] rfl)
      · have hF := gf_neg c_710 hF
        have g_713 : gi v2 0 24 := gi_le_l (Int32.not_lt.mp c_710) gv2 gv1
        refine lv_iload_n hx hb (dk_at dkX9_countStarts 11 rfl) rfl (lv_at hl 1 rfl) ?_
        refine lv_iload_n hx hb (dk_at dkX9_countStarts 12 rfl) rfl (lv_at hl 2 rfl) ?_
        refine lv_iconst (v := 0) hx hb (dk_at dkX9_countStarts 13 rfl) (by decide) ?_
        have hPc := hP.sub (ws' := []) [] rfl
        have hKc := hK.sub (tys' := []) [] rfl
        refine va_calli (va_runSN (As := [.int v1, .int v2, .int 0]) (rest := []) ⟨hx, hb, hml, hown, hts⟩ (sX11_spot0 l dC dI v1 v2 0 gv1 g_713 (gi_c 0 0 (by decide))) (⟨va_cnB 3 hts (gz_gP mGA_582 goodGA) rfl rfl rfl (nzA_X9_63 hz) (hts _ (List.mem_cons_of_mem _ mGA_1)) hdS_X11_spot_X11_3.2 ⟨Nat.le_trans (Nat.le_of_ble_eq_true rfl) hRf, Nat.le_trans (Nat.le_of_ble_eq_true rfl) hRl⟩, (hts _ (List.mem_cons_of_mem _ mGA_581)), trivial⟩) ⟨bl_I (bl_a bl_P (bl_a bl_K bl_nz)), fun U hU hW => ⟨rfl, by rw [hU]; exact hPc, va_K.moved hW.alike hKc, nzA_warm hW hz⟩⟩ rfl rfl hl.1 rfl (lv_room (Nat.le_of_ble_eq_true rfl)) (dk_at dkX9_countStarts 14 rfl) ⟨hRc, hRs⟩) hS (fun q _ h => h.elim) (fun q h => h.elim) (fun r_714 u t H1 locs ht hvm hw hB hz1 hk1 hS => ?_)
        obtain ⟨hw, hE⟩ := hw
        have hP := gz_keep hP hk1
        have hF := gf_call (a := r_714) hE hF
        generalize H1 = H at hP hS ⊢
        have gr_714 : gi r_714 0 3564 := hw
        refine lv_istore_n (lv' := [(3, .int r_714), (0, .ref h0), (1, .int v1), (2, .int v2)]) hx hb (dk_at dkX9_countStarts 15 rfl) rfl hl (by decide) rfl (fun ls hl => ?_)
        refine lv_iconst (v := 0) hx hb (dk_at dkX9_countStarts 16 rfl) (by decide) ?_
        refine lv_istore (lv' := [(4, .int 0), (3, .int r_714), (0, .ref h0), (1, .int v1), (2, .int v2)]) hx hb (dk_at dkX9_countStarts 17 rfl) hl (by decide) rfl (fun ls hl => ?_)
        refine lv_iload_n hx hb (dk_at dkX9_countStarts 18 rfl) rfl (lv_at hl 3 rfl) ?_
        have hPc := hP.sub (ws' := []) [] rfl
        have hKc := hK.sub (tys' := []) [] rfl
        refine va_calli (va_runSN (As := [.int v1]) (rest := []) ⟨hx, hb, hml, hown, hts⟩ (sX11_firstRun l dC dI v1 gv1) (⟨va_cnB 1 hts (gz_gP mGA_504 goodGA) rfl rfl rfl (nzA_X9_67 hz) (hts _ (List.mem_cons_of_mem _ mGA_1)) hdS_X11_firstRun_X11_1.2 ⟨Nat.le_trans (Nat.le_of_ble_eq_true rfl) hRf, Nat.le_trans (Nat.le_of_ble_eq_true rfl) hRl⟩, (hts _ (List.mem_cons_of_mem _ mGA_503)), trivial⟩) ⟨bl_I (bl_a bl_P (bl_a bl_K bl_nz)), fun U hU hW => ⟨rfl, by rw [hU]; exact hPc, va_K.moved hW.alike hKc, nzA_warm hW hz⟩⟩ rfl rfl hl.1 rfl (lv_room (Nat.le_of_ble_eq_true rfl)) (dk_at dkX9_countStarts 19 rfl) ⟨hRc, hRs⟩) hS (fun q _ h => h.elim) (fun q h => h.elim) (fun r_715 u t H1 locs ht hvm hw hB hz1 hk1 hS => ?_)
        obtain ⟨hw, hE⟩ := hw
        have hP := gz_keep hP hk1
        have hF := gf_call (a := r_715) hE hF
        generalize H1 = H at hP hS ⊢
        have gr_715 : gi r_715 0 1 := hw
        refine lv_istore (lv' := [(5, .int r_715), (4, .int 0), (3, .int r_714), (0, .ref h0), (1, .int v1), (2, .int v2)]) hx hb (dk_at dkX9_countStarts 20 rfl) hl (by decide) rfl (fun ls hl => ?_)
        exact ih.2.2 v1 v2 r_714 0 r_715 z3 _ _ _ gv1 g_713 gr_714 (gi_w gr_715 (by decide)) hF (by have av1 := gv1.1; have bv1 := gv1.2; have av2 := gv2.1; have bv2 := gv2.2; have qgv2 := g_713.1; have rgv2 := g_713.2; have qgv1 := gv1.1; have rgv1 := gv1.2; have qgr_715 := gr_715.1; have rgr_715 := gr_715.2; omega) hP hD hS (lv_sub hl [3, 4, 5, 2, 1, 0] rfl)
    · intro v1 v2 v3 v4 v5 z3 H locs ls gv1 gv2 gv3 gv5 hF hmu hP hD hS hl
      have hF : dfX9_countStarts_33 months full lean fbf fbh fsa (lfX9_countStarts months full lean fbf fbh fsa z) v1 v2 v3 v4 v5 z3 = RES := hF
      refine lv_iload hx hb (dk_at dkX9_countStarts 21 rfl) (lv_at hl 5 rfl) ?_
      refine lv_iload_n hx hb (dk_at dkX9_countStarts 22 rfl) rfl (lv_at hl 1 rfl) ?_
      refine lv_aload_n hx hb (dk_at dkX9_countStarts 23 rfl) rfl (lv_at hl 0 rfl) ?_
      refine va_get (D := (dC, dI)) (ci := 9) (v := .int full) (C := RX9) (T := TX9) (N := 6) hx hb hts (fun w h => List.mem_cons_of_mem _ (jnGA_X9 w h)) hown hK hP 0 rfl rfl 4 (by decide) (hts _ (List.mem_cons_of_mem _ mGA_562)) (fun _ h9 => h9) rfl (dk_at dkX9_countStarts 24 rfl) ?_
      refine lv_aload_n hx hb (dk_at dkX9_countStarts 25 rfl) rfl (lv_at hl 0 rfl) ?_
      refine va_get (D := (dC, dI)) (ci := 9) (v := .int lean) (C := RX9) (T := TX9) (N := 6) hx hb hts (fun w h => List.mem_cons_of_mem _ (jnGA_X9 w h)) hown hK hP 0 rfl rfl 5 (by decide) (hts _ (List.mem_cons_of_mem _ mGA_564)) (fun _ h9 => h9) rfl (dk_at dkX9_countStarts 26 rfl) ?_
      have hPc := hP.sub (ws' := []) [] rfl
      have hKc := hK.sub (tys' := []) [] rfl
      refine va_calli (va_runSN (As := [.int v1, .int full, .int lean]) (rest := [.int v5]) ⟨hx, hb, hml, hown, hts⟩ (sX11_lastRun l dC dI v1 full lean gv1 gfull glean) (⟨va_cnB 3 hts (gz_gP mGA_506 goodGA) rfl rfl rfl (nzA_X9_71 hz) (hts _ (List.mem_cons_of_mem _ mGA_1)) hdS_X11_lastRun_X11_3.2 ⟨Nat.le_trans (Nat.le_of_ble_eq_true rfl) hRf, Nat.le_trans (Nat.le_of_ble_eq_true rfl) hRl⟩, (hts _ (List.mem_cons_of_mem _ mGA_505)), trivial⟩) ⟨bl_I (bl_a bl_P (bl_a bl_K bl_nz)), fun U hU hW => ⟨rfl, by rw [hU]; exact hPc, va_K.moved hW.alike hKc, nzA_warm hW hz⟩⟩ rfl rfl hl.1 rfl (lv_room (Nat.le_of_ble_eq_true rfl)) (dk_at dkX9_countStarts 27 rfl) ⟨hRc, hRs⟩) hS (fun q _ h => h.elim) (fun q h => h.elim) (fun r_716 u t H1 locs ht hvm hw hB hz1 hk1 hS => ?_)
      obtain ⟨hw, hE⟩ := hw
      have hP := gz_keep hP hk1
      have hF := gf_call (a := r_716) hE hF
      generalize H1 = H at hP hS ⊢
      have gr_716 : gi r_716 0 10 := hw
      refine lv_icmp_gt (tgt := 80) hx hb (dk_at dkX9_countStarts 28 rfl) (by decide) (fun c_717 => ?_) (fun c_717 => ?_)
      · have hF := gf_pos c_717 hF
        have g_718 : gi v5 1 11 := gi_lt_r c_717 gr_716 gv5 (by decide)
        refine lv_aload_n hx hb (dk_at dkX9_countStarts 47 rfl) rfl (lv_at hl 0 rfl) ?_
        refine va_get (D := (dC, dI)) (ci := 9) (v := .ref sa) (C := RX9) (T := TX9) (N := 6) hx hb hts (fun w h => List.mem_cons_of_mem _ (jnGA_X9 w h)) hown hK hP 0 rfl rfl 2 (by decide) (hts _ (List.mem_cons_of_mem _ mGA_113)) (fun _ h9 => h9) rfl (dk_at dkX9_countStarts 48 rfl) ?_
        refine lv_iload_n hx hb (dk_at dkX9_countStarts 49 rfl) rfl (lv_at hl 1 rfl) ?_
        refine lv_iload_n hx hb (dk_at dkX9_countStarts 50 rfl) rfl (lv_at hl 2 rfl) ?_
        have hPc := hP.sub (ws' := []) [] rfl
        have hKc := hK.sub (tys' := []) [] rfl
        refine va_calli (va_runSN (As := [.int v1, .int v2]) (rest := [.ref sa]) ⟨hx, hb, hml, hown, hts⟩ (sX11_cell l dC dI v1 v2 gv1 gv2) (⟨va_cnB 2 hts (gz_gP mGA_585 goodGA) rfl rfl rfl (nzA_X9_92 hz) (hts _ (List.mem_cons_of_mem _ mGA_1)) hdS_X11_cell_X11_2.2 ⟨Nat.le_trans (Nat.le_of_ble_eq_true rfl) hRf, Nat.le_trans (Nat.le_of_ble_eq_true rfl) hRl⟩, (hts _ (List.mem_cons_of_mem _ mGA_584)), trivial⟩) ⟨bl_I (bl_a bl_P (bl_a bl_K bl_nz)), fun U hU hW => ⟨rfl, by rw [hU]; exact hPc, va_K.moved hW.alike hKc, nzA_warm hW hz⟩⟩ rfl rfl hl.1 rfl (lv_room (Nat.le_of_ble_eq_true rfl)) (dk_at dkX9_countStarts 51 rfl) ⟨hRc, hRs⟩) hS (fun q _ h => h.elim) (fun q h => h.elim) (fun r_719 u t H1 locs ht hvm hw hB hz1 hk1 hS => ?_)
        obtain ⟨hw, hE⟩ := hw
        have hP := gz_keep hP hk1
        have hF := gf_call (a := r_719) hE hF
        generalize H1 = H at hP hS ⊢
        have gr_719 : gi r_719 0 324 := hw
        refine lv_iload hx hb (dk_at dkX9_countStarts 52 rfl) (lv_at hl 4 rfl) ?_
        refine va_iast hx hb hK hP hD hS 3 2 rfl rfl (gi_in gr_719 (by decide)) (dk_at dkX9_countStarts 53 rfl) (fun H locs hP hD hS => ?_)
        obtain ⟨hP, hD⟩ := gz_both (w := [(h0, .inr (9, [.ref bf, .ref bh, .ref sa, .int months, .int full, .int lean])), (bf, .inl (kbf, 3575, .inl fbf)), (bh, .inl (kbh, 3575, .inl fbh)), (sa, .inl (ksa, 325, .inl (upd z3 (r_719 : Int32).toNatClampNeg v4)))]) hP hD
        generalize ef_720 : upd z3 (r_719 : Int32).toNatClampNeg v4 = f_720 at hP hD
        obtain ⟨x_721, ex_721⟩ : ∃ y : Int32, y = v2 + 1 := ⟨_, rfl⟩
        have gx_721 : gi x_721 1 25 := gi_add ex_721 gv2 (gi_c 1 1 (by decide)) (by decide)
        refine lv_iinc (v := x_721) (lv' := [(2, .int x_721), (0, .ref h0), (1, .int v1), (3, .int v3), (4, .int v4), (5, .int v5)]) hx hb (dk_at dkX9_countStarts 54 rfl) hl (k := 2) rfl (by rw [ex_721]; rfl) (by decide) rfl (fun ls hl => ?_)
        refine lv_goto (tgt := 12) hx hb (dk_at dkX9_countStarts 55 rfl) (by decide) ?_
        exact ih.2.1 v1 x_721 f_720 _ _ _ gv1 (gi_w gx_721 (by decide)) (by first | (rw [ex_721, ← ef_720]; exact hF) | ((try rw [ex_721]); (try rw [← ef_720]); exact hF)) (by have av1 := gv1.1; have bv1 := gv1.2; have av2 := gv2.1; have bv2 := gv2.2; have av5 := gv5.1; have bv5 := gv5.2; have qgx_721 := gx_721.1; have rgx_721 := gx_721.2; have igx_721 : x_721.toInt = v2.toInt + 1 := (by have hc1 : (1 : Int32).toInt = 1 := (by decide); have h9 := gi_addE ex_721 gv2 (gi_c 1 1 (by decide)) (by decide); rw [hc1] at h9; exact h9); have qgv2 := gv2.1; have rgv2 := gv2.2; have qgv1 := gv1.1; have rgv1 := gv1.2; omega) hP hD hS (lv_sub hl [1, 2, 0] rfl)
      · have hF := gf_neg c_717 hF
        have g_722 : gi v5 0 10 := gi_le_l (Int32.not_lt.mp c_717) gv5 gr_716
        refine lv_iload hx hb (dk_at dkX9_countStarts 29 rfl) (lv_at hl 4 rfl) ?_
        refine lv_aload_n hx hb (dk_at dkX9_countStarts 30 rfl) rfl (lv_at hl 0 rfl) ?_
        refine va_get (D := (dC, dI)) (ci := 9) (v := .ref bf) (C := RX9) (T := TX9) (N := 6) hx hb hts (fun w h => List.mem_cons_of_mem _ (jnGA_X9 w h)) hown hK hP 0 rfl rfl 0 (by decide) (hts _ (List.mem_cons_of_mem _ mGA_111)) (fun _ h9 => h9) rfl (dk_at dkX9_countStarts 31 rfl) ?_
        refine lv_iload_n hx hb (dk_at dkX9_countStarts 32 rfl) rfl (lv_at hl 3 rfl) ?_
        refine lv_iload hx hb (dk_at dkX9_countStarts 33 rfl) (lv_at hl 5 rfl) ?_
        refine lv_iadd hx hb (dk_at dkX9_countStarts 34 rfl) ?_
        refine lv_topi (fun x_723 ex_723 => ?_)
        have gx_723 : gi x_723 0 3574 := gi_add ex_723 gv3 g_722 (by decide)
        refine va_iald hx hb hK hP 1 0 rfl rfl (gi_in gx_723 (by decide)) (dk_at dkX9_countStarts 35 rfl) ?_
        refine lv_topi (fun x_724 ex_724 => ?_)
        refine lv_aload_n hx hb (dk_at dkX9_countStarts 36 rfl) rfl (lv_at hl 0 rfl) ?_
        refine va_get (D := (dC, dI)) (ci := 9) (v := .ref bh) (C := RX9) (T := TX9) (N := 6) hx hb hts (fun w h => List.mem_cons_of_mem _ (jnGA_X9 w h)) hown hK hP 0 rfl rfl 1 (by decide) (hts _ (List.mem_cons_of_mem _ mGA_112)) (fun _ h9 => h9) rfl (dk_at dkX9_countStarts 37 rfl) ?_
        refine lv_iload_n hx hb (dk_at dkX9_countStarts 38 rfl) rfl (lv_at hl 3 rfl) ?_
        refine lv_iload hx hb (dk_at dkX9_countStarts 39 rfl) (lv_at hl 5 rfl) ?_
        refine lv_iadd hx hb (dk_at dkX9_countStarts 40 rfl) ?_
        refine lv_topi (fun x_725 ex_725 => ?_)
        have gx_725 : gi x_725 0 3574 := gi_add ex_725 gv3 g_722 (by decide)
        refine va_iald hx hb hK hP 2 1 rfl rfl (gi_in gx_725 (by decide)) (dk_at dkX9_countStarts 41 rfl) ?_
        refine lv_topi (fun x_726 ex_726 => ?_)
        refine lv_imul hx hb (dk_at dkX9_countStarts 42 rfl) ?_
        refine lv_topi (fun x_727 ex_727 => ?_)
        refine lv_iadd hx hb (dk_at dkX9_countStarts 43 rfl) ?_
        refine lv_topi (fun x_728 ex_728 => ?_)
        refine lv_istore (lv' := [(4, .int x_728), (0, .ref h0), (1, .int v1), (2, .int v2), (3, .int v3), (5, .int v5)]) hx hb (dk_at dkX9_countStarts 44 rfl) hl (by decide) rfl (fun ls hl => ?_)
        obtain ⟨x_729, ex_729⟩ : ∃ y : Int32, y = v5 + 1 := ⟨_, rfl⟩
        have gx_729 : gi x_729 1 11 := gi_add ex_729 g_722 (gi_c 1 1 (by decide)) (by decide)
        refine lv_iinc (v := x_729) (lv' := [(5, .int x_729), (4, .int x_728), (0, .ref h0), (1, .int v1), (2, .int v2), (3, .int v3)]) hx hb (dk_at dkX9_countStarts 45 rfl) hl (k := 5) rfl (by rw [ex_729]; rfl) (by decide) rfl (fun ls hl => ?_)
        refine lv_goto (tgt := 33) hx hb (dk_at dkX9_countStarts 46 rfl) (by decide) ?_
        exact ih.2.2 v1 v2 v3 x_728 x_729 z3 _ _ _ gv1 gv2 gv3 (gi_w gx_729 (by decide)) (by first | (rw [ex_729, ex_728, ex_727, ex_726, ex_725, ex_724, ex_723]; exact hF) | ((try rw [ex_729]); (try rw [ex_728]); (try rw [ex_727]); (try rw [ex_726]); (try rw [ex_725]); (try rw [ex_724]); (try rw [ex_723]); exact hF)) (by have av1 := gv1.1; have bv1 := gv1.2; have av2 := gv2.1; have bv2 := gv2.2; have av5 := gv5.1; have bv5 := gv5.2; have qgx_729 := gx_729.1; have rgx_729 := gx_729.2; have igx_729 : x_729.toInt = v5.toInt + 1 := (by have hc1 : (1 : Int32).toInt = 1 := (by decide); have h9 := gi_addE ex_729 g_722 (gi_c 1 1 (by decide)) (by decide); rw [hc1] at h9; exact h9); have qgv5 := g_722.1; have rgv5 := g_722.2; have qgv2 := gv2.1; have rgv2 := gv2.2; have qgv1 := gv1.1; have rgv1 := gv1.2; omega) hP hD hS (lv_sub hl [2, 3, 4, 5, 1, 0] rfl)
abbrev pb_sX9_countStarts (dC : Nat → ClassId) (dI : Nat → Nat → Nat) (A9 : Nat → Prop) (h0 : Nat) (bf : Nat) (bh : Nat) (sa : Nat) (months : Int32) (full : Int32) (lean : Int32) (kbf : ClassId) (fbf : Nat → Int32) (kbh : ClassId) (fbh : Nat → Int32) (ksa : ClassId) (fsa : Nat → Int32) (z3 : Nat → Int32) (t : State) : Prop := z3 = fX9_countStarts months full lean fbf fbh fsa ∧ va_P (dC, dI) vwCl [(h0, .inr (9, [.ref bf, .ref bh, .ref sa, .int months, .int full, .int lean])), (bf, .inl (kbf, 3575, .inl fbf)), (bh, .inl (kbh, 3575, .inl fbh)), (sa, .inl (ksa, 325, .inl z3))] t.heap ∧ va_D A9 [(h0, .inr (9, [.ref bf, .ref bh, .ref sa, .int months, .int full, .int lean])), (bf, .inl (kbf, 3575, .inl fbf)), (bh, .inl (kbh, 3575, .inl fbh)), (sa, .inl (ksa, 325, .inl z3))]
set_option maxHeartbeats 4000000 in
set_option maxRecDepth 100000 in
theorem sX9_countStarts (l : Launch) (dC : Nat → ClassId) (dI : Nat → Nat → Nat) (sz : Nat) (h0 : Nat) (bf : Nat) (bh : Nat) (sa : Nat) (months : Int32) (full : Int32) (lean : Int32) (kbf : ClassId) (fbf : Nat → Int32) (kbh : ClassId) (fbh : Nat → Int32) (ksa : ClassId) (fsa : Nat → Int32) (gmonths : gi months 0 24) (gfull : gi full 0 5) (glean : gi lean 0 5) : Met l yX9_countStarts (.code yX9_countStarts cX9_countStarts 6 none :: wsGA) ({ frames := 2, cells := 0, slots := 0, locals := 43 }) (va_Pc [.ref h0] (fun U => U.heap.size = sz ∧ va_P (dC, dI) vwCl [(h0, .inr (9, [.ref bf, .ref bh, .ref sa, .int months, .int full, .int lean])), (bf, .inl (kbf, 3575, .inl fbf)), (bh, .inl (kbh, 3575, .inl fbh)), (sa, .inl (ksa, 325, .inl fsa))] U.heap ∧ va_K (dC, dI) vwCl [(kbf, .int), (kbh, .int), (ksa, .int)] U ∧ va_D (fun _ => True) [(h0, .inr (9, [.ref bf, .ref bh, .ref sa, .int months, .int full, .int lean])), (bf, .inl (kbf, 3575, .inl fbf)), (bh, .inl (kbh, 3575, .inl fbh)), (sa, .inl (ksa, 325, .inl fsa))] ∧ nzA U)) (va_Qv (fun (u : Unit) => True) (fun _ t => ∃ (z3 : Nat → Int32), pb_sX9_countStarts dC dI (va_A [(h0, .inr (9, [.ref bf, .ref bh, .ref sa, .int months, .int full, .int lean])), (bf, .inl (kbf, 3575, .inl fbf)), (bh, .inl (kbh, 3575, .inl fbh)), (sa, .inl (ksa, 325, .inl fsa))] sz) h0 bf bh sa months full lean kbf fbf kbh fbh ksa fsa z3 t) (va_A [(h0, .inr (9, [.ref bf, .ref bh, .ref sa, .int months, .int full, .int lean])), (bf, .inl (kbf, 3575, .inl fbf)), (bh, .inl (kbh, 3575, .inl fbh)), (sa, .inl (ksa, 325, .inl fsa))] sz)) 0 0 (va_A [(h0, .inr (9, [.ref bf, .ref bh, .ref sa, .int months, .int full, .int lean])), (bf, .inl (kbf, 3575, .inl fbf)), (bh, .inl (kbh, 3575, .inl fbh)), (sa, .inl (ksa, 325, .inl fsa))] sz) := by
  refine Met.ofW (cc := cX9_countStarts) (maxL := 6) (ret := none) (by decide) rfl ?_
  intro p e s m args below meth c s₁ B hml hv
  obtain ⟨rfl, hsz, hP, hK, hD0, hz⟩ := hv
  have hx := B.exec
  have hb := B.bytes
  have hr := B.returns
  have hts := atoms_spec (ws := (.code yX9_countStarts cX9_countStarts 6 none :: wsGA)) B.pre
  have hown : s.vm.findClass RX9 = some m.cls := findClass_of_methodNamed B.named
  have hlocks := B.notSynchronized
  subst hsz
  have hD := hD0.self (sz := s.heap.size)
  generalize hAe : va_A [(h0, .inr (9, [.ref bf, .ref bh, .ref sa, .int months, .int full, .int lean])), (bf, .inl (kbf, 3575, .inl fbf)), (bh, .inl (kbh, 3575, .inl fbh)), (sa, .inl (ksa, 325, .inl fsa))] s.heap.size = A at hD ⊢
  have hA : ∀ q : Nat, s.heap.size ≤ q → A q := fun q h => by rw [← hAe]; exact Or.inr h
  have hS : va_S A s.heap s.heap [] := va_S.rf
  have hl := lv_entry ([.ref h0]) (n := 6) (Nat.le_of_ble_eq_true rfl)
  rw [lg_entry_eq]
  generalize (lg_sl ([.ref h0]) ++ List.replicate (6 - (lg_sl ([.ref h0])).length) Slot.unset).toArray = ls at hl ⊢
  have hl : lv_has ls 6 [(0, .ref h0)] := hl
  obtain ⟨RES, hF⟩ : ∃ R9, fX9_countStarts months full lean fbf fbh fsa = R9 := ⟨_, rfl⟩
  have hR9 := hF
  refine lv_iconst (v := 0) hx hb (dk_at dkX9_countStarts 0 rfl) (by decide) ?_
  refine lv_istore_n (lv' := [(1, .int 0), (0, .ref h0)]) hx hb (dk_at dkX9_countStarts 1 rfl) rfl hl (by decide) rfl (fun ls hl => ?_)
  refine (lp_sX9_countStarts h0 bf bh sa months full lean kbf fbf kbh fbh ksa fsa gmonths gfull glean hx hb hml hown hts hK hz hA (Nat.le_of_ble_eq_true rfl) (Nat.le_of_ble_eq_true rfl) (Nat.zero_le _) (Nat.zero_le _) (fun z3 H locs ls hF hP hD hS hl => ?_) 1000000000).1 0 fsa _ _ _ (gi_w (gi_c 0 0 (by decide)) (by decide)) hF (by have k0 : (0 : Int32).toInt = 0 := (by decide); omega) hP hD hS (lv_sub hl [1, 0] rfl)
  · skip
    exact W.vret hx hb hr (fun t ht hW => ⟨⟨(), rfl, trivial, z3, hF.trans hR9.symm, by rw [ht]; exact hP, hD⟩, hS.F ht⟩) hS.2.2 (dk_at dkX9_countStarts 58 rfl)
noncomputable def lsX9_countBehind : List (Nat × Instr × Nat) := [(0, .aload_n 0, 1), (1, .getfield 27, 3), (4, .iconst 0, 1), (5, .iconst 0, 1), (6, .invokestatic 63, 3), (9, .istore_n 1, 1), (10, .iload_n 1, 1), (11, .istore_n 2, 1), (12, .iload_n 2, 1), (13, .iload_n 1, 1), (14, .aload_n 0, 1), (15, .getfield 27, 3), (18, .iconst 1, 1), (19, .iadd, 1), (20, .bipush 11, 2), (22, .imul, 1), (23, .iadd, 1), (24, .if_icmp .ge 25, 3), (27, .aload_n 0, 1), (28, .getfield 15, 3), (31, .iload_n 2, 1), (32, .aload_n 0, 1), (33, .getfield 9, 3), (36, .iload_n 2, 1), (37, .iaload, 1), (38, .iconst 1, 1), (39, .invokestatic 81, 3), (42, .iastore, 1), (43, .iinc 2 1, 3), (46, .goto (-34), 3), (49, .aload_n 0, 1), (50, .getfield 27, 3), (53, .iconst 1, 1), (54, .isub, 1), (55, .istore_n 2, 1), (56, .iload_n 2, 1), (57, .ifCond .lt 99, 3), (60, .iconst 0, 1), (61, .istore_n 3, 1), (62, .iload_n 3, 1), (63, .iload_n 2, 1), (64, .if_icmp .gt 86, 3), (67, .iload_n 2, 1), (68, .iload_n 3, 1), (69, .iconst 0, 1), (70, .invokestatic 63, 3), (73, .istore 4, 2), (75, .iload_n 2, 1), (76, .invokestatic 67, 3), (79, .istore 5, 2), (81, .iload 5, 2), (83, .iload_n 2, 1), (84, .aload_n 0, 1), (85, .getfield 31, 3), (88, .aload_n 0, 1), (89, .getfield 35, 3), (92, .invokestatic 71, 3), (95, .if_icmp .gt 49, 3), (98, .aload_n 0, 1), (99, .getfield 9, 3), (102, .iload 4, 2), (104, .iload 5, 2), (106, .iadd, 1), (107, .iaload, 1), (108, .ifCond .le 30, 3), (111, .aload_n 0, 1), (112, .getfield 15, 3), (115, .iload 4, 2), (117, .iload 5, 2), (119, .iadd, 1), (120, .aload_n 0, 1), (121, .iload_n 2, 1), (122, .iload_n 3, 1), (123, .iload 5, 2), (125, .invokevirtual 86, 3), (128, .aload_n 0, 1), (129, .iload_n 2, 1), (130, .iload_n 3, 1), (131, .iload 5, 2), (133, .invokevirtual 89, 3), (136, .iadd, 1), (137, .iastore, 1), (138, .iinc 5 1, 3), (141, .goto (-60), 3), (144, .iinc 3 1, 3), (147, .goto (-85), 3), (150, .iinc 2 (-1), 3), (153, .goto (-97), 3), (156, .return_, 1)]
theorem dkX9_countBehind : dkAll cX9_countBehind lsX9_countBehind = true := dk_fast (by decide +kernel)
noncomputable def bfX9_countBehind_138 (months : Int32) (full : Int32) (lean : Int32) (fbf : Nat → Int32) (fbh : Nat → Int32) (K : (Int32 → Int32 → (Nat → Int32) → ((Nat → Int32))) × (Int32 → (Nat → Int32) → ((Nat → Int32))) × (Int32 → Int32 → (Nat → Int32) → ((Nat → Int32))) × (Int32 → Int32 → Int32 → Int32 → (Nat → Int32) → ((Nat → Int32)))) (v2 : Int32) (v3 : Int32) (v4 : Int32) (v5 : Int32) (z2 : Nat → Int32) : (Nat → Int32) := K.2.2.2 v2 v3 v4 (v5 + (1 : Int32)) z2
noncomputable def dfX9_countBehind_12 (months : Int32) (full : Int32) (lean : Int32) (fbf : Nat → Int32) (fbh : Nat → Int32) (K : (Int32 → Int32 → (Nat → Int32) → ((Nat → Int32))) × (Int32 → (Nat → Int32) → ((Nat → Int32))) × (Int32 → Int32 → (Nat → Int32) → ((Nat → Int32))) × (Int32 → Int32 → Int32 → Int32 → (Nat → Int32) → ((Nat → Int32)))) (v1 : Int32) (v2 : Int32) (z2 : Nat → Int32) : (Nat → Int32) := if (v1 + ((months + (1 : Int32)) * (11 : Int32))) ≤ v2 then (K.2.1 (months - (1 : Int32)) z2) else (K.1 v1 (v2 + (1 : Int32)) (upd z2 v2.toNatClampNeg (if (1 : Int32) < (fbf v2.toNatClampNeg) then (1 : Int32) else (fbf v2.toNatClampNeg))))
noncomputable def dfX9_countBehind_56 (months : Int32) (full : Int32) (lean : Int32) (fbf : Nat → Int32) (fbh : Nat → Int32) (K : (Int32 → Int32 → (Nat → Int32) → ((Nat → Int32))) × (Int32 → (Nat → Int32) → ((Nat → Int32))) × (Int32 → Int32 → (Nat → Int32) → ((Nat → Int32))) × (Int32 → Int32 → Int32 → Int32 → (Nat → Int32) → ((Nat → Int32)))) (v2 : Int32) (z2 : Nat → Int32) : (Nat → Int32) := if v2 < (0 : Int32) then z2 else (K.2.2.1 v2 (0 : Int32) z2)
noncomputable def dfX9_countBehind_62 (months : Int32) (full : Int32) (lean : Int32) (fbf : Nat → Int32) (fbh : Nat → Int32) (K : (Int32 → Int32 → (Nat → Int32) → ((Nat → Int32))) × (Int32 → (Nat → Int32) → ((Nat → Int32))) × (Int32 → Int32 → (Nat → Int32) → ((Nat → Int32))) × (Int32 → Int32 → Int32 → Int32 → (Nat → Int32) → ((Nat → Int32)))) (v2 : Int32) (v3 : Int32) (z2 : Nat → Int32) : (Nat → Int32) := if v2 < v3 then (K.2.1 (v2 + (-1 : Int32)) z2) else (cal (fun o2 => cal (fun o3 => K.2.2.2 v2 v3 o2 o3 z2) (fX11_firstRun v2)) (fX11_spot v2 v3 (0 : Int32)))
noncomputable def dfX9_countBehind_81 (months : Int32) (full : Int32) (lean : Int32) (fbf : Nat → Int32) (fbh : Nat → Int32) (K : (Int32 → Int32 → (Nat → Int32) → ((Nat → Int32))) × (Int32 → (Nat → Int32) → ((Nat → Int32))) × (Int32 → Int32 → (Nat → Int32) → ((Nat → Int32))) × (Int32 → Int32 → Int32 → Int32 → (Nat → Int32) → ((Nat → Int32)))) (v2 : Int32) (v3 : Int32) (v4 : Int32) (v5 : Int32) (z2 : Nat → Int32) : (Nat → Int32) := cal (fun o4 => if o4 < v5 then (K.2.2.1 v2 (v3 + (1 : Int32)) z2) else (if (fbf (v4 + v5).toNatClampNeg) ≤ (0 : Int32) then (bfX9_countBehind_138 months full lean fbf fbh K v2 v3 v4 v5 z2) else (cal (fun o5 => cal (fun o6 => bfX9_countBehind_138 months full lean fbf fbh K v2 v3 v4 v5 (upd z2 (v4 + v5).toNatClampNeg (o5 + o6))) (fX9_withLean full lean z2 v2 v3 v5)) (fX9_withFull full z2 v2 v3 v5)))) (fX11_lastRun v2 full lean)
noncomputable def lfX9_countBehind (months : Int32) (full : Int32) (lean : Int32) (fbf : Nat → Int32) (fbh : Nat → Int32) (z : Nat) : (Int32 → Int32 → (Nat → Int32) → ((Nat → Int32))) × (Int32 → (Nat → Int32) → ((Nat → Int32))) × (Int32 → Int32 → (Nat → Int32) → ((Nat → Int32))) × (Int32 → Int32 → Int32 → Int32 → (Nat → Int32) → ((Nat → Int32))) := Nat.rec (motive := fun _ => (Int32 → Int32 → (Nat → Int32) → ((Nat → Int32))) × (Int32 → (Nat → Int32) → ((Nat → Int32))) × (Int32 → Int32 → (Nat → Int32) → ((Nat → Int32))) × (Int32 → Int32 → Int32 → Int32 → (Nat → Int32) → ((Nat → Int32)))) ((fun _ _ z2 => (z2), fun _ z2 => (z2), fun _ _ z2 => (z2), fun _ _ _ _ z2 => (z2))) (fun _ K => (dfX9_countBehind_12 months full lean fbf fbh K, dfX9_countBehind_56 months full lean fbf fbh K, dfX9_countBehind_62 months full lean fbf fbh K, dfX9_countBehind_81 months full lean fbf fbh K)) z
noncomputable def fX9_countBehind (months : Int32) (full : Int32) (lean : Int32) (fbf : Nat → Int32) (fbh : Nat → Int32) : (Nat → Int32) := cal (fun o1 => (lfX9_countBehind months full lean fbf fbh 1000000000).1 o1 o1 fbh) (fX11_spot months (0 : Int32) (0 : Int32))
set_option maxHeartbeats 4000000 in
set_option maxRecDepth 100000 in
theorem lp_sX9_countBehind {p : Program} {l : Launch} {e : Env} {R : Room} {s : State} {m : MethodId} {args : Array Value} {below : List Frame} {meth : Method} {c : Code} {Q : State → Prop} {A : Nat → Prop} {cells slots : Nat} {dC : Nat → ClassId} {dI : Nat → Nat → Nat} {RES : (Nat → Int32)} (h0 : Nat) (bf : Nat) (bh : Nat) (sa : Nat) (months : Int32) (full : Int32) (lean : Int32) (kbf : ClassId) (fbf : Nat → Int32) (kbh : ClassId) (fbh : Nat → Int32) (gmonths : gi months 0 24) (gfull : gi full 0 5) (glean : gi lean 0 5) (hx : p.tables.exec = Jvm.exec) (hb : c.code = cX9_countBehind) (hml : c.maxLocals = 6) (hown : s.vm.findClass RX9 = some m.cls) (hts : ∀ w ∈ ((.code yX9_countBehind cX9_countBehind 6 none :: wsGA) : List Cond), w.before args s = true) (hK : va_K (dC, dI) vwCl [(kbf, .int), (kbh, .int)] s) (hz : nzA s) (hA : ∀ q : Nat, s.heap.size ≤ q → A q) (hRf : 3 ≤ R.frames) (hRl : 66 ≤ R.locals) (hRc : cells ≤ R.cells) (hRs : slots ≤ R.slots) (kr156 : ∀ (z2 : Nat → Int32) (H : Heap) (locs : List Loc) (ls : Array Slot), z2 = RES → va_P (dC, dI) vwCl [(h0, .inr (9, [.ref bf, .ref bh, .ref sa, .int months, .int full, .int lean])), (bf, .inl (kbf, 3575, .inl fbf)), (bh, .inl (kbh, 3575, .inl z2))] H → va_D A [(h0, .inr (9, [.ref bf, .ref bh, .ref sa, .int months, .int full, .int lean])), (bf, .inl (kbf, 3575, .inl fbf)), (bh, .inl (kbh, 3575, .inl z2))] → va_S A s.heap H locs → lv_has ls 6 [] → W p l e R s m args below meth c H locs cells slots Q (F0 m 156 ls [])) : ∀ z : Nat, (∀ (v1 : Int32) (v2 : Int32) (z2 : Nat → Int32) (H : Heap) (locs : List Loc) (ls : Array Slot), gi v1 0 3300 → gi v2 0 3575 → (lfX9_countBehind months full lean fbf fbh z).1 v1 v2 z2 = RES → 26131 + (-2) * v2.toInt < (z : Int) → va_P (dC, dI) vwCl [(h0, .inr (9, [.ref bf, .ref bh, .ref sa, .int months, .int full, .int lean])), (bf, .inl (kbf, 3575, .inl fbf)), (bh, .inl (kbh, 3575, .inl z2))] H → va_D A [(h0, .inr (9, [.ref bf, .ref bh, .ref sa, .int months, .int full, .int lean])), (bf, .inl (kbf, 3575, .inl fbf)), (bh, .inl (kbh, 3575, .inl z2))] → va_S A s.heap H locs → lv_has ls 6 [(0, .ref h0), (1, .int v1), (2, .int v2)] → W p l e R s m args below meth c H locs cells slots Q (F0 m 12 ls [])) ∧ (∀ (v1 : Int32) (v2 : Int32) (z2 : Nat → Int32) (H : Heap) (locs : List Loc) (ls : Array Slot), gi v1 0 3300 → gi v2 (-1) 23 → (lfX9_countBehind months full lean fbf fbh z).2.1 v2 z2 = RES → 731 + 730 * v2.toInt < (z : Int) → va_P (dC, dI) vwCl [(h0, .inr (9, [.ref bf, .ref bh, .ref sa, .int months, .int full, .int lean])), (bf, .inl (kbf, 3575, .inl fbf)), (bh, .inl (kbh, 3575, .inl z2))] H → va_D A [(h0, .inr (9, [.ref bf, .ref bh, .ref sa, .int months, .int full, .int lean])), (bf, .inl (kbf, 3575, .inl fbf)), (bh, .inl (kbh, 3575, .inl z2))] → va_S A s.heap H locs → lv_has ls 6 [(0, .ref h0), (1, .int v1), (2, .int v2)] → W p l e R s m args below meth c H locs cells slots Q (F0 m 56 ls [])) ∧ (∀ (v1 : Int32) (v2 : Int32) (v3 : Int32) (z2 : Nat → Int32) (H : Heap) (locs : List Loc) (ls : Array Slot), gi v1 0 3300 → gi v2 0 23 → gi v3 0 24 → (lfX9_countBehind months full lean fbf fbh z).2.2.1 v2 v3 z2 = RES → 674 + 730 * v2.toInt + (-28) * v3.toInt < (z : Int) → va_P (dC, dI) vwCl [(h0, .inr (9, [.ref bf, .ref bh, .ref sa, .int months, .int full, .int lean])), (bf, .inl (kbf, 3575, .inl fbf)), (bh, .inl (kbh, 3575, .inl z2))] H → va_D A [(h0, .inr (9, [.ref bf, .ref bh, .ref sa, .int months, .int full, .int lean])), (bf, .inl (kbf, 3575, .inl fbf)), (bh, .inl (kbh, 3575, .inl z2))] → va_S A s.heap H locs → lv_has ls 6 [(0, .ref h0), (1, .int v1), (2, .int v2), (3, .int v3)] → W p l e R s m args below meth c H locs cells slots Q (F0 m 62 ls [])) ∧ (∀ (v1 : Int32) (v2 : Int32) (v3 : Int32) (v4 : Int32) (v5 : Int32) (z2 : Nat → Int32) (H : Heap) (locs : List Loc) (ls : Array Slot), gi v1 0 3300 → gi v2 0 23 → gi v3 0 23 → gi v4 0 3564 → gi v5 0 11 → (lfX9_countBehind months full lean fbf fbh z).2.2.2 v2 v3 v4 v5 z2 = RES → 669 + 730 * v2.toInt + (-28) * v3.toInt + (-2) * v5.toInt < (z : Int) → va_P (dC, dI) vwCl [(h0, .inr (9, [.ref bf, .ref bh, .ref sa, .int months, .int full, .int lean])), (bf, .inl (kbf, 3575, .inl fbf)), (bh, .inl (kbh, 3575, .inl z2))] H → va_D A [(h0, .inr (9, [.ref bf, .ref bh, .ref sa, .int months, .int full, .int lean])), (bf, .inl (kbf, 3575, .inl fbf)), (bh, .inl (kbh, 3575, .inl z2))] → va_S A s.heap H locs → lv_has ls 6 [(0, .ref h0), (1, .int v1), (2, .int v2), (3, .int v3), (4, .int v4), (5, .int v5)] → W p l e R s m args below meth c H locs cells slots Q (F0 m 81 ls [])) := by
  intro z
  induction z with
  | zero =>
    refine ⟨?_, ?_, ?_, ?_⟩
    · intro v1 v2 z2 H locs ls gv1 gv2 hF hmu hP hD hS hl
      exact absurd hmu (by have hv21 := gv2.1; have hv22 := gv2.2; omega)
    · intro v1 v2 z2 H locs ls gv1 gv2 hF hmu hP hD hS hl
      exact absurd hmu (by have hv21 := gv2.1; have hv22 := gv2.2; omega)
    · intro v1 v2 v3 z2 H locs ls gv1 gv2 gv3 hF hmu hP hD hS hl
      exact absurd hmu (by have hv21 := gv2.1; have hv22 := gv2.2; have hv31 := gv3.1; have hv32 := gv3.2; omega)
    · intro v1 v2 v3 v4 v5 z2 H locs ls gv1 gv2 gv3 gv4 gv5 hF hmu hP hD hS hl
      exact absurd hmu (by have hv21 := gv2.1; have hv22 := gv2.2; have hv31 := gv3.1; have hv32 := gv3.2; have hv51 := gv5.1; have hv52 := gv5.2; omega)
  | succ z ih =>
    refine ⟨?_, ?_, ?_, ?_⟩
    · intro v1 v2 z2 H locs ls gv1 gv2 hF hmu hP hD hS hl
      have hF : dfX9_countBehind_12 months full lean fbf fbh (lfX9_countBehind months full lean fbf fbh z) v1 v2 z2 = RES := hF
      refine lv_iload_n hx hb (dk_at dkX9_countBehind 8 rfl) rfl (lv_at hl 2 rfl) ?_
      refine lv_iload_n hx hb (dk_at dkX9_countBehind 9 rfl) rfl (lv_at hl 1 rfl) ?_
      refine lv_aload_n hx hb (dk_at dkX9_countBehind 10 rfl) rfl (lv_at hl 0 rfl) ?_
      refine va_get (D := (dC, dI)) (ci := 9) (v := .int months) (C := RX9) (T := TX9) (N := 6) hx hb hts (fun w h => List.mem_cons_of_mem _ (jnGA_X9 w h)) hown hK hP 0 rfl rfl 3 (by decide) (hts _ (List.mem_cons_of_mem _ mGA_560)) (fun _ h9 => h9) rfl (dk_at dkX9_countBehind 11 rfl) ?_
      refine lv_iconst (v := 1) hx hb (dk_at dkX9_countBehind 12 rfl) (by decide) ?_
      refine lv_iadd hx hb (dk_at dkX9_countBehind 13 rfl) ?_
      refine lv_topi (fun x_568 ex_568 => ?_)
      have gx_568 : gi x_568 1 25 := gi_add ex_568 gmonths (gi_c 1 1 (by decide)) (by decide)
      refine lv_bipush (v := 11) hx hb (dk_at dkX9_countBehind 14 rfl) (by decide) ?_
      refine lv_imul hx hb (dk_at dkX9_countBehind 15 rfl) ?_
      refine lv_topi (fun x_569 ex_569 => ?_)
      have gx_569 : gi x_569 11 275 := gi_mul ex_569 gx_568 (gi_c 11 11 (by decide)) (by decide)
      refine lv_iadd hx hb (dk_at dkX9_countBehind 16 rfl) ?_
      refine lv_topi (fun x_570 ex_570 => ?_)
      have gx_570 : gi x_570 11 3575 := gi_add ex_570 gv1 gx_569 (by decide)
      refine lv_icmp_ge (tgt := 49) hx hb (dk_at dkX9_countBehind 17 rfl) (by decide) (fun c_571 => ?_) (fun c_571 => ?_)
      · have hF := gf_pos (by rw [ex_570, ex_569, ex_568] at c_571; exact c_571) hF
        have g_572 : gi v2 11 3575 := gi_le_r c_571 gx_570 gv2
        refine lv_aload_n hx hb (dk_at dkX9_countBehind 30 rfl) rfl (lv_at hl 0 rfl) ?_
        refine va_get (D := (dC, dI)) (ci := 9) (v := .int months) (C := RX9) (T := TX9) (N := 6) hx hb hts (fun w h => List.mem_cons_of_mem _ (jnGA_X9 w h)) hown hK hP 0 rfl rfl 3 (by decide) (hts _ (List.mem_cons_of_mem _ mGA_560)) (fun _ h9 => h9) rfl (dk_at dkX9_countBehind 31 rfl) ?_
        refine lv_iconst (v := 1) hx hb (dk_at dkX9_countBehind 32 rfl) (by decide) ?_
        refine lv_isub hx hb (dk_at dkX9_countBehind 33 rfl) ?_
        refine lv_topi (fun x_573 ex_573 => ?_)
        have gx_573 : gi x_573 (-1) 23 := gi_sub ex_573 gmonths (gi_c 1 1 (by decide)) (by decide)
        refine lv_istore_n (lv' := [(2, .int x_573), (0, .ref h0), (1, .int v1)]) hx hb (dk_at dkX9_countBehind 34 rfl) rfl hl (by decide) rfl (fun ls hl => ?_)
        exact ih.2.1 v1 x_573 z2 _ _ _ gv1 gx_573 (by first | (rw [ex_573]; exact hF) | ((try rw [ex_573]); exact hF)) (by have av2 := gv2.1; have bv2 := gv2.2; have qgx_573 := gx_573.1; have rgx_573 := gx_573.2; have igx_573 : x_573.toInt = months.toInt - 1 := (by have hc1 : (1 : Int32).toInt = 1 := (by decide); have h9 := gi_subE ex_573 gmonths (gi_c 1 1 (by decide)) (by decide); rw [hc1] at h9; exact h9); have qgmonths := gmonths.1; have rgmonths := gmonths.2; omega) hP hD hS (lv_sub hl [1, 2, 0] rfl)
      · have hF := gf_neg (by rw [ex_570, ex_569, ex_568] at c_571; exact c_571) hF
        have g_574 : gi v2 0 3574 := gi_lt_l (Int32.not_le.mp c_571) gv2 gx_570 (by decide)
        refine lv_aload_n hx hb (dk_at dkX9_countBehind 18 rfl) rfl (lv_at hl 0 rfl) ?_
        refine va_get (D := (dC, dI)) (ci := 9) (v := .ref bh) (C := RX9) (T := TX9) (N := 6) hx hb hts (fun w h => List.mem_cons_of_mem _ (jnGA_X9 w h)) hown hK hP 0 rfl rfl 1 (by decide) (hts _ (List.mem_cons_of_mem _ mGA_112)) (fun _ h9 => h9) rfl (dk_at dkX9_countBehind 19 rfl) ?_
        refine lv_iload_n hx hb (dk_at dkX9_countBehind 20 rfl) rfl (lv_at hl 2 rfl) ?_
        refine lv_aload_n hx hb (dk_at dkX9_countBehind 21 rfl) rfl (lv_at hl 0 rfl) ?_
        refine va_get (D := (dC, dI)) (ci := 9) (v := .ref bf) (C := RX9) (T := TX9) (N := 6) hx hb hts (fun w h => List.mem_cons_of_mem _ (jnGA_X9 w h)) hown hK hP 0 rfl rfl 0 (by decide) (hts _ (List.mem_cons_of_mem _ mGA_111)) (fun _ h9 => h9) rfl (dk_at dkX9_countBehind 22 rfl) ?_
        refine lv_iload_n hx hb (dk_at dkX9_countBehind 23 rfl) rfl (lv_at hl 2 rfl) ?_
        refine va_iald hx hb hK hP 1 0 rfl rfl (gi_in g_574 (by decide)) (dk_at dkX9_countBehind 24 rfl) ?_
        refine lv_topi (fun x_575 ex_575 => ?_)
        refine lv_iconst (v := 1) hx hb (dk_at dkX9_countBehind 25 rfl) (by decide) ?_
        refine va_mmin (own := RX9) hx hb (by rw [hml]; exact hl.1.symm) hown (hts _ (List.mem_cons_of_mem _ mGA_594)) (hts _ (List.mem_cons_of_mem _ mGA_268)) (hts _ (List.mem_cons_of_mem _ mGA_269)) (hts _ (List.mem_cons_of_mem _ mGA_270)) (Nat.le_trans (Nat.le_of_ble_eq_true rfl) hRf) (Nat.le_trans (Nat.le_of_ble_eq_true rfl) hRl) hRc hRs (dk_at dkX9_countBehind 26 rfl) ?_
        refine lv_topi (fun x_576 ex_576 => ?_)
        have gx_576 : gi x_576 (-2147483648) 1 := gi_min ex_576 (gi_any x_575) (gi_c 1 1 (by decide)) (by decide)
        refine va_iast hx hb hK hP hD hS 2 1 rfl rfl (gi_in g_574 (by decide)) (dk_at dkX9_countBehind 27 rfl) (fun H locs hP hD hS => ?_)
        obtain ⟨hP, hD⟩ := gz_both (w := [(h0, .inr (9, [.ref bf, .ref bh, .ref sa, .int months, .int full, .int lean])), (bf, .inl (kbf, 3575, .inl fbf)), (bh, .inl (kbh, 3575, .inl (upd z2 (v2 : Int32).toNatClampNeg x_576)))]) hP hD
        generalize ef_577 : upd z2 (v2 : Int32).toNatClampNeg x_576 = f_577 at hP hD
        obtain ⟨x_578, ex_578⟩ : ∃ y : Int32, y = v2 + 1 := ⟨_, rfl⟩
        have gx_578 : gi x_578 1 3575 := gi_add ex_578 g_574 (gi_c 1 1 (by decide)) (by decide)
        refine lv_iinc (v := x_578) (lv' := [(2, .int x_578), (0, .ref h0), (1, .int v1)]) hx hb (dk_at dkX9_countBehind 28 rfl) hl (k := 2) rfl (by rw [ex_578]; rfl) (by decide) rfl (fun ls hl => ?_)
        refine lv_goto (tgt := 12) hx hb (dk_at dkX9_countBehind 29 rfl) (by decide) ?_
        exact ih.1 v1 x_578 f_577 _ _ _ gv1 (gi_w gx_578 (by decide)) (by first | (rw [ex_578, ← ef_577, ex_576, ex_575]; exact hF) | ((try rw [ex_578]); (try rw [← ef_577]); (try rw [ex_576]); (try rw [ex_575]); exact hF)) (by have av2 := gv2.1; have bv2 := gv2.2; have qgx_578 := gx_578.1; have rgx_578 := gx_578.2; have igx_578 : x_578.toInt = v2.toInt + 1 := (by have hc1 : (1 : Int32).toInt = 1 := (by decide); have h9 := gi_addE ex_578 g_574 (gi_c 1 1 (by decide)) (by decide); rw [hc1] at h9; exact h9); have qgv2 := g_574.1; have rgv2 := g_574.2; omega) hP hD hS (lv_sub hl [1, 2, 0] rfl)
    · intro v1 v2 z2 H locs ls gv1 gv2 hF hmu hP hD hS hl
      have hF : dfX9_countBehind_56 months full lean fbf fbh (lfX9_countBehind months full lean fbf fbh z) v2 z2 = RES := hF
      refine lv_iload_n hx hb (dk_at dkX9_countBehind 35 rfl) rfl (lv_at hl 2 rfl) ?_
      refine lv_if_lt (tgt := 156) hx hb (dk_at dkX9_countBehind 36 rfl) (by decide) (fun c_579 => ?_) (fun c_579 => ?_)
      · have hF := gf_pos c_579 hF
        have g_580 : gi v2 (-1) (-1) := gi_lt_l c_579 gv2 (gi_c 0 0 (by decide)) (by decide)
        exact kr156 z2 _ _ _ hF hP hD hS (lv_sub hl [] rfl)
      · have hF := gf_neg c_579 hF
        have g_581 : gi v2 0 23 := gi_le_r (Int32.not_lt.mp c_579) (gi_c 0 0 (by decide)) gv2
        refine lv_iconst (v := 0) hx hb (dk_at dkX9_countBehind 37 rfl) (by decide) ?_
        refine lv_istore_n (lv' := [(3, .int 0), (0, .ref h0), (1, .int v1), (2, .int v2)]) hx hb (dk_at dkX9_countBehind 38 rfl) rfl hl (by decide) rfl (fun ls hl => ?_)
        exact ih.2.2.1 v1 v2 0 z2 _ _ _ gv1 g_581 (gi_w (gi_c 0 0 (by decide)) (by decide)) hF (by have k0 : (0 : Int32).toInt = 0 := (by decide); have av2 := gv2.1; have bv2 := gv2.2; have qgv2 := g_581.1; have rgv2 := g_581.2; omega) hP hD hS (lv_sub hl [1, 2, 3, 0] rfl)
    · intro v1 v2 v3 z2 H locs ls gv1 gv2 gv3 hF hmu hP hD hS hl
      have hF : dfX9_countBehind_62 months full lean fbf fbh (lfX9_countBehind months full lean fbf fbh z) v2 v3 z2 = RES := hF
      refine lv_iload_n hx hb (dk_at dkX9_countBehind 39 rfl) rfl (lv_at hl 3 rfl) ?_
      refine lv_iload_n hx hb (dk_at dkX9_countBehind 40 rfl) rfl (lv_at hl 2 rfl) ?_
      refine lv_icmp_gt (tgt := 150) hx hb (dk_at dkX9_countBehind 41 rfl) (by decide) (fun c_582 => ?_) (fun c_582 => ?_)
      · have hF := gf_pos c_582 hF
        have g_583 : gi v3 1 24 := gi_lt_r c_582 gv2 gv3 (by decide)
        obtain ⟨x_584, ex_584⟩ : ∃ y : Int32, y = v2 + (-1) := ⟨_, rfl⟩
        have gx_584 : gi x_584 (-1) 22 := gi_add ex_584 gv2 (gi_c (-1) (-1) (by decide)) (by decide)
        refine lv_iinc (v := x_584) (lv' := [(2, .int x_584), (0, .ref h0), (1, .int v1), (3, .int v3)]) hx hb (dk_at dkX9_countBehind 86 rfl) hl (k := 2) rfl (by rw [ex_584]; rfl) (by decide) rfl (fun ls hl => ?_)
        refine lv_goto (tgt := 56) hx hb (dk_at dkX9_countBehind 87 rfl) (by decide) ?_
        exact ih.2.1 v1 x_584 z2 _ _ _ gv1 (gi_w gx_584 (by decide)) (by first | (rw [ex_584]; exact hF) | ((try rw [ex_584]); exact hF)) (by have av2 := gv2.1; have bv2 := gv2.2; have av3 := gv3.1; have bv3 := gv3.2; have qgx_584 := gx_584.1; have rgx_584 := gx_584.2; have igx_584 : x_584.toInt = v2.toInt + (-1) := (by have hcm1 : ((-1) : Int32).toInt = (-1) := (by decide); have h9 := gi_addE ex_584 gv2 (gi_c (-1) (-1) (by decide)) (by decide); rw [hcm1] at h9; exact h9); have qgv2 := gv2.1; have rgv2 := gv2.2; omega) hP hD hS (lv_sub hl [1, 2, 0] rfl)
      · have hF := gf_neg c_582 hF
        have g_585 : gi v3 0 23 := gi_le_l (Int32.not_lt.mp c_582) gv3 gv2
        refine lv_iload_n hx hb (dk_at dkX9_countBehind 42 rfl) rfl (lv_at hl 2 rfl) ?_
        refine lv_iload_n hx hb (dk_at dkX9_countBehind 43 rfl) rfl (lv_at hl 3 rfl) ?_
        refine lv_iconst (v := 0) hx hb (dk_at dkX9_countBehind 44 rfl) (by decide) ?_
        have hPc := hP.sub (ws' := []) [] rfl
        have hKc := hK.sub (tys' := []) [] rfl
        refine va_calli (va_runSN (As := [.int v2, .int v3, .int 0]) (rest := []) ⟨hx, hb, hml, hown, hts⟩ (sX11_spot0 l dC dI v2 v3 0 (gi_w gv2 (by decide)) (gi_w g_585 (by decide)) (gi_c 0 0 (by decide))) (⟨va_cnB 3 hts (gz_gP mGA_582 goodGA) rfl rfl rfl (nzA_X9_63 hz) (hts _ (List.mem_cons_of_mem _ mGA_1)) hdS_X11_spot_X11_3.2 ⟨Nat.le_trans (Nat.le_of_ble_eq_true rfl) hRf, Nat.le_trans (Nat.le_of_ble_eq_true rfl) hRl⟩, (hts _ (List.mem_cons_of_mem _ mGA_581)), trivial⟩) ⟨bl_I (bl_a bl_P (bl_a bl_K bl_nz)), fun U hU hW => ⟨rfl, by rw [hU]; exact hPc, va_K.moved hW.alike hKc, nzA_warm hW hz⟩⟩ rfl rfl hl.1 rfl (lv_room (Nat.le_of_ble_eq_true rfl)) (dk_at dkX9_countBehind 45 rfl) ⟨hRc, hRs⟩) hS (fun q _ h => h.elim) (fun q h => h.elim) (fun r_586 u t H1 locs ht hvm hw hB hz1 hk1 hS => ?_)
        obtain ⟨hw, hE⟩ := hw
        have hP := gz_keep hP hk1
        have hF := gf_call (a := r_586) hE hF
        generalize H1 = H at hP hS ⊢
        have gr_586 : gi r_586 0 3564 := hw
        refine lv_istore (lv' := [(4, .int r_586), (0, .ref h0), (1, .int v1), (2, .int v2), (3, .int v3)]) hx hb (dk_at dkX9_countBehind 46 rfl) hl (by decide) rfl (fun ls hl => ?_)
        refine lv_iload_n hx hb (dk_at dkX9_countBehind 47 rfl) rfl (lv_at hl 3 rfl) ?_
        have hPc := hP.sub (ws' := []) [] rfl
        have hKc := hK.sub (tys' := []) [] rfl
        refine va_calli (va_runSN (As := [.int v2]) (rest := []) ⟨hx, hb, hml, hown, hts⟩ (sX11_firstRun l dC dI v2 (gi_w gv2 (by decide))) (⟨va_cnB 1 hts (gz_gP mGA_504 goodGA) rfl rfl rfl (nzA_X9_67 hz) (hts _ (List.mem_cons_of_mem _ mGA_1)) hdS_X11_firstRun_X11_1.2 ⟨Nat.le_trans (Nat.le_of_ble_eq_true rfl) hRf, Nat.le_trans (Nat.le_of_ble_eq_true rfl) hRl⟩, (hts _ (List.mem_cons_of_mem _ mGA_503)), trivial⟩) ⟨bl_I (bl_a bl_P (bl_a bl_K bl_nz)), fun U hU hW => ⟨rfl, by rw [hU]; exact hPc, va_K.moved hW.alike hKc, nzA_warm hW hz⟩⟩ rfl rfl hl.1 rfl (lv_room (Nat.le_of_ble_eq_true rfl)) (dk_at dkX9_countBehind 48 rfl) ⟨hRc, hRs⟩) hS (fun q _ h => h.elim) (fun q h => h.elim) (fun r_587 u t H1 locs ht hvm hw hB hz1 hk1 hS => ?_)
        obtain ⟨hw, hE⟩ := hw
        have hP := gz_keep hP hk1
        have hF := gf_call (a := r_587) hE hF
        generalize H1 = H at hP hS ⊢
        have gr_587 : gi r_587 0 1 := hw
        refine lv_istore (lv' := [(5, .int r_587), (4, .int r_586), (0, .ref h0), (1, .int v1), (2, .int v2), (3, .int v3)]) hx hb (dk_at dkX9_countBehind 49 rfl) hl (by decide) rfl (fun ls hl => ?_)
        exact ih.2.2.2 v1 v2 v3 r_586 r_587 z2 _ _ _ gv1 gv2 g_585 gr_586 (gi_w gr_587 (by decide)) hF (by have av2 := gv2.1; have bv2 := gv2.2; have av3 := gv3.1; have bv3 := gv3.2; have qgv3 := g_585.1; have rgv3 := g_585.2; have qgv2 := gv2.1; have rgv2 := gv2.2; have qgr_587 := gr_587.1; have rgr_587 := gr_587.2; omega) hP hD hS (lv_sub hl [2, 3, 4, 5, 1, 0] rfl)
    · intro v1 v2 v3 v4 v5 z2 H locs ls gv1 gv2 gv3 gv4 gv5 hF hmu hP hD hS hl
      have hF : dfX9_countBehind_81 months full lean fbf fbh (lfX9_countBehind months full lean fbf fbh z) v2 v3 v4 v5 z2 = RES := hF
      refine lv_iload hx hb (dk_at dkX9_countBehind 50 rfl) (lv_at hl 5 rfl) ?_
      refine lv_iload_n hx hb (dk_at dkX9_countBehind 51 rfl) rfl (lv_at hl 2 rfl) ?_
      refine lv_aload_n hx hb (dk_at dkX9_countBehind 52 rfl) rfl (lv_at hl 0 rfl) ?_
      refine va_get (D := (dC, dI)) (ci := 9) (v := .int full) (C := RX9) (T := TX9) (N := 6) hx hb hts (fun w h => List.mem_cons_of_mem _ (jnGA_X9 w h)) hown hK hP 0 rfl rfl 4 (by decide) (hts _ (List.mem_cons_of_mem _ mGA_562)) (fun _ h9 => h9) rfl (dk_at dkX9_countBehind 53 rfl) ?_
      refine lv_aload_n hx hb (dk_at dkX9_countBehind 54 rfl) rfl (lv_at hl 0 rfl) ?_
      refine va_get (D := (dC, dI)) (ci := 9) (v := .int lean) (C := RX9) (T := TX9) (N := 6) hx hb hts (fun w h => List.mem_cons_of_mem _ (jnGA_X9 w h)) hown hK hP 0 rfl rfl 5 (by decide) (hts _ (List.mem_cons_of_mem _ mGA_564)) (fun _ h9 => h9) rfl (dk_at dkX9_countBehind 55 rfl) ?_
      have hPc := hP.sub (ws' := []) [] rfl
      have hKc := hK.sub (tys' := []) [] rfl
      refine va_calli (va_runSN (As := [.int v2, .int full, .int lean]) (rest := [.int v5]) ⟨hx, hb, hml, hown, hts⟩ (sX11_lastRun l dC dI v2 full lean (gi_w gv2 (by decide)) gfull glean) (⟨va_cnB 3 hts (gz_gP mGA_506 goodGA) rfl rfl rfl (nzA_X9_71 hz) (hts _ (List.mem_cons_of_mem _ mGA_1)) hdS_X11_lastRun_X11_3.2 ⟨Nat.le_trans (Nat.le_of_ble_eq_true rfl) hRf, Nat.le_trans (Nat.le_of_ble_eq_true rfl) hRl⟩, (hts _ (List.mem_cons_of_mem _ mGA_505)), trivial⟩) ⟨bl_I (bl_a bl_P (bl_a bl_K bl_nz)), fun U hU hW => ⟨rfl, by rw [hU]; exact hPc, va_K.moved hW.alike hKc, nzA_warm hW hz⟩⟩ rfl rfl hl.1 rfl (lv_room (Nat.le_of_ble_eq_true rfl)) (dk_at dkX9_countBehind 56 rfl) ⟨hRc, hRs⟩) hS (fun q _ h => h.elim) (fun q h => h.elim) (fun r_588 u t H1 locs ht hvm hw hB hz1 hk1 hS => ?_)
      obtain ⟨hw, hE⟩ := hw
      have hP := gz_keep hP hk1
      have hF := gf_call (a := r_588) hE hF
      generalize H1 = H at hP hS ⊢
      have gr_588 : gi r_588 0 10 := hw
      refine lv_icmp_gt (tgt := 144) hx hb (dk_at dkX9_countBehind 57 rfl) (by decide) (fun c_589 => ?_) (fun c_589 => ?_)
      · have hF := gf_pos c_589 hF
        have g_590 : gi v5 1 11 := gi_lt_r c_589 gr_588 gv5 (by decide)
        obtain ⟨x_591, ex_591⟩ : ∃ y : Int32, y = v3 + 1 := ⟨_, rfl⟩
        have gx_591 : gi x_591 1 24 := gi_add ex_591 gv3 (gi_c 1 1 (by decide)) (by decide)
        refine lv_iinc (v := x_591) (lv' := [(3, .int x_591), (0, .ref h0), (1, .int v1), (2, .int v2), (4, .int v4), (5, .int v5)]) hx hb (dk_at dkX9_countBehind 84 rfl) hl (k := 3) rfl (by rw [ex_591]; rfl) (by decide) rfl (fun ls hl => ?_)
        refine lv_goto (tgt := 62) hx hb (dk_at dkX9_countBehind 85 rfl) (by decide) ?_
        exact ih.2.2.1 v1 v2 x_591 z2 _ _ _ gv1 gv2 (gi_w gx_591 (by decide)) (by first | (rw [ex_591]; exact hF) | ((try rw [ex_591]); exact hF)) (by have av2 := gv2.1; have bv2 := gv2.2; have av3 := gv3.1; have bv3 := gv3.2; have av5 := gv5.1; have bv5 := gv5.2; have qgx_591 := gx_591.1; have rgx_591 := gx_591.2; have igx_591 : x_591.toInt = v3.toInt + 1 := (by have hc1 : (1 : Int32).toInt = 1 := (by decide); have h9 := gi_addE ex_591 gv3 (gi_c 1 1 (by decide)) (by decide); rw [hc1] at h9; exact h9); have qgv3 := gv3.1; have rgv3 := gv3.2; have qgv2 := gv2.1; have rgv2 := gv2.2; omega) hP hD hS (lv_sub hl [1, 2, 3, 0] rfl)
      · have hF := gf_neg c_589 hF
        have g_592 : gi v5 0 10 := gi_le_l (Int32.not_lt.mp c_589) gv5 gr_588
        refine lv_aload_n hx hb (dk_at dkX9_countBehind 58 rfl) rfl (lv_at hl 0 rfl) ?_
        refine va_get (D := (dC, dI)) (ci := 9) (v := .ref bf) (C := RX9) (T := TX9) (N := 6) hx hb hts (fun w h => List.mem_cons_of_mem _ (jnGA_X9 w h)) hown hK hP 0 rfl rfl 0 (by decide) (hts _ (List.mem_cons_of_mem _ mGA_111)) (fun _ h9 => h9) rfl (dk_at dkX9_countBehind 59 rfl) ?_
        refine lv_iload hx hb (dk_at dkX9_countBehind 60 rfl) (lv_at hl 4 rfl) ?_
        refine lv_iload hx hb (dk_at dkX9_countBehind 61 rfl) (lv_at hl 5 rfl) ?_
        refine lv_iadd hx hb (dk_at dkX9_countBehind 62 rfl) ?_
        refine lv_topi (fun x_593 ex_593 => ?_)
        have gx_593 : gi x_593 0 3574 := gi_add ex_593 gv4 g_592 (by decide)
        refine va_iald hx hb hK hP 1 0 rfl rfl (gi_in gx_593 (by decide)) (dk_at dkX9_countBehind 63 rfl) ?_
        refine lv_topi (fun x_594 ex_594 => ?_)
        refine lv_if_le (tgt := 138) hx hb (dk_at dkX9_countBehind 64 rfl) (by decide) (fun c_595 => ?_) (fun c_595 => ?_)
        · have hF := gf_pos (by rw [ex_594, ex_593] at c_595; exact c_595) hF
          have g_596 : gi x_594 (-2147483648) 0 := gi_le_l c_595 (gi_any x_594) (gi_c 0 0 (by decide))
          obtain ⟨x_597, ex_597⟩ : ∃ y : Int32, y = v5 + 1 := ⟨_, rfl⟩
          have gx_597 : gi x_597 1 11 := gi_add ex_597 g_592 (gi_c 1 1 (by decide)) (by decide)
          refine lv_iinc (v := x_597) (lv' := [(5, .int x_597), (0, .ref h0), (1, .int v1), (2, .int v2), (3, .int v3), (4, .int v4)]) hx hb (dk_at dkX9_countBehind 82 rfl) hl (k := 5) rfl (by rw [ex_597]; rfl) (by decide) rfl (fun ls hl => ?_)
          refine lv_goto (tgt := 81) hx hb (dk_at dkX9_countBehind 83 rfl) (by decide) ?_
          exact ih.2.2.2 v1 v2 v3 v4 x_597 z2 _ _ _ gv1 gv2 gv3 gv4 (gi_w gx_597 (by decide)) (by first | (rw [ex_597]; exact hF) | ((try rw [ex_597]); exact hF)) (by have av2 := gv2.1; have bv2 := gv2.2; have av3 := gv3.1; have bv3 := gv3.2; have av5 := gv5.1; have bv5 := gv5.2; have qgx_597 := gx_597.1; have rgx_597 := gx_597.2; have igx_597 : x_597.toInt = v5.toInt + 1 := (by have hc1 : (1 : Int32).toInt = 1 := (by decide); have h9 := gi_addE ex_597 g_592 (gi_c 1 1 (by decide)) (by decide); rw [hc1] at h9; exact h9); have qgv5 := g_592.1; have rgv5 := g_592.2; have qgv3 := gv3.1; have rgv3 := gv3.2; have qgv2 := gv2.1; have rgv2 := gv2.2; omega) hP hD hS (lv_sub hl [1, 2, 3, 4, 5, 0] rfl)
        · have hF := gf_neg (by rw [ex_594, ex_593] at c_595; exact c_595) hF
          have g_598 : gi x_594 1 2147483647 := gi_lt_r (Int32.not_le.mp c_595) (gi_c 0 0 (by decide)) (gi_any x_594) (by decide)
          refine lv_aload_n hx hb (dk_at dkX9_countBehind 65 rfl) rfl (lv_at hl 0 rfl) ?_
          refine va_get (D := (dC, dI)) (ci := 9) (v := .ref bh) (C := RX9) (T := TX9) (N := 6) hx hb hts (fun w h => List.mem_cons_of_mem _ (jnGA_X9 w h)) hown hK hP 0 rfl rfl 1 (by decide) (hts _ (List.mem_cons_of_mem _ mGA_112)) (fun _ h9 => h9) rfl (dk_at dkX9_countBehind 66 rfl) ?_
          refine lv_iload hx hb (dk_at dkX9_countBehind 67 rfl) (lv_at hl 4 rfl) ?_
          refine lv_iload hx hb (dk_at dkX9_countBehind 68 rfl) (lv_at hl 5 rfl) ?_
          refine lv_iadd hx hb (dk_at dkX9_countBehind 69 rfl) ?_
          refine lv_topi (fun x_599 ex_599 => ?_)
          have gx_599 : gi x_599 0 3574 := gi_add ex_599 gv4 g_592 (by decide)
          refine lv_aload_n hx hb (dk_at dkX9_countBehind 70 rfl) rfl (lv_at hl 0 rfl) ?_
          refine lv_iload_n hx hb (dk_at dkX9_countBehind 71 rfl) rfl (lv_at hl 2 rfl) ?_
          refine lv_iload_n hx hb (dk_at dkX9_countBehind 72 rfl) rfl (lv_at hl 3 rfl) ?_
          refine lv_iload hx hb (dk_at dkX9_countBehind 73 rfl) (lv_at hl 5 rfl) ?_
          have hPc := hP.sub (ws' := [(h0, .inr (9, [.ref bf, .ref bh, .ref sa, .int months, .int full, .int lean])), (bh, .inl (kbh, 3575, .inl z2))]) [0, 2] rfl
          have hKc := hK.sub (tys' := [(kbh, .int)]) [1] rfl
          refine va_calli (va_runV (As := [.int v2, .int v3, .int v5]) (rest := [.int x_599, .ref bh]) ⟨hx, hb, hml, hown, hts⟩ (sX9_withFull l dC dI h0 bh bf sa months full lean kbh z2 v2 v3 v5 gmonths gfull glean gv2 gv3 g_592) (cwV 3 hts (gz_gV mGA_595 mGA_596 mGA_597 mGA_27 mGA_598 goodGA) rfl rfl rfl hdV_X9_withFull_X9_3 ⟨Nat.le_trans (Nat.le_of_ble_eq_true rfl) hRf, Nat.le_trans (Nat.le_of_ble_eq_true rfl) hRl⟩) ⟨bl_I (bl_a bl_P (bl_a bl_K bl_nz)), va_recv hKc hPc (ci := 9) (q0 := 0) rfl rfl, fun U hU hW => ⟨rfl, by rw [hU]; exact hPc, va_K.moved hW.alike hKc, nzA_warm hW hz⟩⟩ rfl rfl hl.1 rfl (lv_room (Nat.le_of_ble_eq_true rfl)) (dk_at dkX9_countBehind 74 rfl) ⟨hRc, hRs⟩) hS (fun q _ h => h.elim) (fun q h => h.elim) (fun r_600 u t H1 locs ht hvm hw hB hz1 hk1 hS => ?_)
          obtain ⟨hw, hE⟩ := hw
          have hP := gz_keep hP hk1
          have hF := gf_call (a := r_600) hE hF
          generalize H1 = H at hP hS ⊢
          refine lv_aload_n hx hb (dk_at dkX9_countBehind 75 rfl) rfl (lv_at hl 0 rfl) ?_
          refine lv_iload_n hx hb (dk_at dkX9_countBehind 76 rfl) rfl (lv_at hl 2 rfl) ?_
          refine lv_iload_n hx hb (dk_at dkX9_countBehind 77 rfl) rfl (lv_at hl 3 rfl) ?_
          refine lv_iload hx hb (dk_at dkX9_countBehind 78 rfl) (lv_at hl 5 rfl) ?_
          have hPc := hP.sub (ws' := [(h0, .inr (9, [.ref bf, .ref bh, .ref sa, .int months, .int full, .int lean])), (bh, .inl (kbh, 3575, .inl z2))]) [0, 2] rfl
          have hKc := hK.sub (tys' := [(kbh, .int)]) [1] rfl
          refine va_calli (va_runV (As := [.int v2, .int v3, .int v5]) (rest := [.int r_600, .int x_599, .ref bh]) ⟨hx, hb, hml, hown, hts⟩ (sX9_withLean l dC dI h0 bh bf sa months full lean kbh z2 v2 v3 v5 gmonths gfull glean gv2 (gi_w gv3 (by decide)) g_592) (cwV 3 hts (gz_gV mGA_599 mGA_600 mGA_601 mGA_27 mGA_602 goodGA) rfl rfl rfl hdV_X9_withLean_X9_3 ⟨Nat.le_trans (Nat.le_of_ble_eq_true rfl) hRf, Nat.le_trans (Nat.le_of_ble_eq_true rfl) hRl⟩) ⟨bl_I (bl_a bl_P (bl_a bl_K bl_nz)), va_recv hKc hPc (ci := 9) (q0 := 0) rfl rfl, fun U hU hW => ⟨rfl, by rw [hU]; exact hPc, va_K.moved hW.alike hKc, nzA_warm hW hz⟩⟩ rfl rfl hl.1 rfl (lv_room (Nat.le_of_ble_eq_true rfl)) (dk_at dkX9_countBehind 79 rfl) ⟨hRc, hRs⟩) hS (fun q _ h => h.elim) (fun q h => h.elim) (fun r_601 u t H1 locs ht hvm hw hB hz1 hk1 hS => ?_)
          obtain ⟨hw, hE⟩ := hw
          have hP := gz_keep hP hk1
          have hF := gf_call (a := r_601) hE hF
          generalize H1 = H at hP hS ⊢
          refine lv_iadd hx hb (dk_at dkX9_countBehind 80 rfl) ?_
          refine lv_topi (fun x_602 ex_602 => ?_)
          refine va_iast hx hb hK hP hD hS 2 1 rfl rfl (gi_in gx_599 (by decide)) (dk_at dkX9_countBehind 81 rfl) (fun H locs hP hD hS => ?_)
          obtain ⟨hP, hD⟩ := gz_both (w := [(h0, .inr (9, [.ref bf, .ref bh, .ref sa, .int months, .int full, .int lean])), (bf, .inl (kbf, 3575, .inl fbf)), (bh, .inl (kbh, 3575, .inl (upd z2 (x_599 : Int32).toNatClampNeg x_602)))]) hP hD
          generalize ef_603 : upd z2 (x_599 : Int32).toNatClampNeg x_602 = f_603 at hP hD
          obtain ⟨x_604, ex_604⟩ : ∃ y : Int32, y = v5 + 1 := ⟨_, rfl⟩
          have gx_604 : gi x_604 1 11 := gi_add ex_604 g_592 (gi_c 1 1 (by decide)) (by decide)
          refine lv_iinc (v := x_604) (lv' := [(5, .int x_604), (0, .ref h0), (1, .int v1), (2, .int v2), (3, .int v3), (4, .int v4)]) hx hb (dk_at dkX9_countBehind 82 rfl) hl (k := 5) rfl (by rw [ex_604]; rfl) (by decide) rfl (fun ls hl => ?_)
          refine lv_goto (tgt := 81) hx hb (dk_at dkX9_countBehind 83 rfl) (by decide) ?_
          exact ih.2.2.2 v1 v2 v3 v4 x_604 f_603 _ _ _ gv1 gv2 gv3 gv4 (gi_w gx_604 (by decide)) (by first | (rw [ex_604, ← ef_603, ex_602, ex_599]; exact hF) | ((try rw [ex_604]); (try rw [← ef_603]); (try rw [ex_602]); (try rw [ex_599]); exact hF)) (by have av2 := gv2.1; have bv2 := gv2.2; have av3 := gv3.1; have bv3 := gv3.2; have av5 := gv5.1; have bv5 := gv5.2; have qgx_604 := gx_604.1; have rgx_604 := gx_604.2; have igx_604 : x_604.toInt = v5.toInt + 1 := (by have hc1 : (1 : Int32).toInt = 1 := (by decide); have h9 := gi_addE ex_604 g_592 (gi_c 1 1 (by decide)) (by decide); rw [hc1] at h9; exact h9); have qgv5 := g_592.1; have rgv5 := g_592.2; have qgv3 := gv3.1; have rgv3 := gv3.2; have qgv2 := gv2.1; have rgv2 := gv2.2; omega) hP hD hS (lv_sub hl [1, 2, 3, 4, 5, 0] rfl)
abbrev pb_sX9_countBehind (dC : Nat → ClassId) (dI : Nat → Nat → Nat) (A9 : Nat → Prop) (h0 : Nat) (bf : Nat) (bh : Nat) (sa : Nat) (months : Int32) (full : Int32) (lean : Int32) (kbf : ClassId) (fbf : Nat → Int32) (kbh : ClassId) (fbh : Nat → Int32) (z2 : Nat → Int32) (t : State) : Prop := z2 = fX9_countBehind months full lean fbf fbh ∧ va_P (dC, dI) vwCl [(h0, .inr (9, [.ref bf, .ref bh, .ref sa, .int months, .int full, .int lean])), (bf, .inl (kbf, 3575, .inl fbf)), (bh, .inl (kbh, 3575, .inl z2))] t.heap ∧ va_D A9 [(h0, .inr (9, [.ref bf, .ref bh, .ref sa, .int months, .int full, .int lean])), (bf, .inl (kbf, 3575, .inl fbf)), (bh, .inl (kbh, 3575, .inl z2))]
set_option maxHeartbeats 4000000 in
set_option maxRecDepth 100000 in
theorem sX9_countBehind (l : Launch) (dC : Nat → ClassId) (dI : Nat → Nat → Nat) (sz : Nat) (h0 : Nat) (bf : Nat) (bh : Nat) (sa : Nat) (months : Int32) (full : Int32) (lean : Int32) (kbf : ClassId) (fbf : Nat → Int32) (kbh : ClassId) (fbh : Nat → Int32) (gmonths : gi months 0 24) (gfull : gi full 0 5) (glean : gi lean 0 5) : Met l yX9_countBehind (.code yX9_countBehind cX9_countBehind 6 none :: wsGA) ({ frames := 3, cells := 0, slots := 0, locals := 66 }) (va_Pc [.ref h0] (fun U => U.heap.size = sz ∧ va_P (dC, dI) vwCl [(h0, .inr (9, [.ref bf, .ref bh, .ref sa, .int months, .int full, .int lean])), (bf, .inl (kbf, 3575, .inl fbf)), (bh, .inl (kbh, 3575, .inl fbh))] U.heap ∧ va_K (dC, dI) vwCl [(kbf, .int), (kbh, .int)] U ∧ va_D (fun _ => True) [(h0, .inr (9, [.ref bf, .ref bh, .ref sa, .int months, .int full, .int lean])), (bf, .inl (kbf, 3575, .inl fbf)), (bh, .inl (kbh, 3575, .inl fbh))] ∧ nzA U)) (va_Qv (fun (u : Unit) => True) (fun _ t => ∃ (z2 : Nat → Int32), pb_sX9_countBehind dC dI (va_A [(h0, .inr (9, [.ref bf, .ref bh, .ref sa, .int months, .int full, .int lean])), (bf, .inl (kbf, 3575, .inl fbf)), (bh, .inl (kbh, 3575, .inl fbh))] sz) h0 bf bh sa months full lean kbf fbf kbh fbh z2 t) (va_A [(h0, .inr (9, [.ref bf, .ref bh, .ref sa, .int months, .int full, .int lean])), (bf, .inl (kbf, 3575, .inl fbf)), (bh, .inl (kbh, 3575, .inl fbh))] sz)) 0 0 (va_A [(h0, .inr (9, [.ref bf, .ref bh, .ref sa, .int months, .int full, .int lean])), (bf, .inl (kbf, 3575, .inl fbf)), (bh, .inl (kbh, 3575, .inl fbh))] sz) := by
  refine Met.ofW (cc := cX9_countBehind) (maxL := 6) (ret := none) (by decide) rfl ?_
  intro p e s m args below meth c s₁ B hml hv
  obtain ⟨rfl, hsz, hP, hK, hD0, hz⟩ := hv
  have hx := B.exec
  have hb := B.bytes
  have hr := B.returns
  have hts := atoms_spec (ws := (.code yX9_countBehind cX9_countBehind 6 none :: wsGA)) B.pre
  have hown : s.vm.findClass RX9 = some m.cls := findClass_of_methodNamed B.named
  have hlocks := B.notSynchronized
  subst hsz
  have hD := hD0.self (sz := s.heap.size)
  generalize hAe : va_A [(h0, .inr (9, [.ref bf, .ref bh, .ref sa, .int months, .int full, .int lean])), (bf, .inl (kbf, 3575, .inl fbf)), (bh, .inl (kbh, 3575, .inl fbh))] s.heap.size = A at hD ⊢
  have hA : ∀ q : Nat, s.heap.size ≤ q → A q := fun q h => by rw [← hAe]; exact Or.inr h
  have hS : va_S A s.heap s.heap [] := va_S.rf
  have hl := lv_entry ([.ref h0]) (n := 6) (Nat.le_of_ble_eq_true rfl)
  rw [lg_entry_eq]
  generalize (lg_sl ([.ref h0]) ++ List.replicate (6 - (lg_sl ([.ref h0])).length) Slot.unset).toArray = ls at hl ⊢
  have hl : lv_has ls 6 [(0, .ref h0)] := hl
  obtain ⟨RES, hF⟩ : ∃ R9, fX9_countBehind months full lean fbf fbh = R9 := ⟨_, rfl⟩
  have hR9 := hF
  refine lv_aload_n hx hb (dk_at dkX9_countBehind 0 rfl) rfl (lv_at hl 0 rfl) ?_
  refine va_get (D := (dC, dI)) (ci := 9) (v := .int months) (C := RX9) (T := TX9) (N := 6) hx hb hts (fun w h => List.mem_cons_of_mem _ (jnGA_X9 w h)) hown hK hP 0 rfl rfl 3 (by decide) (hts _ (List.mem_cons_of_mem _ mGA_560)) (fun _ h9 => h9) rfl (dk_at dkX9_countBehind 1 rfl) ?_
  refine lv_iconst (v := 0) hx hb (dk_at dkX9_countBehind 2 rfl) (by decide) ?_
  refine lv_iconst (v := 0) hx hb (dk_at dkX9_countBehind 3 rfl) (by decide) ?_
  have hPc := hP.sub (ws' := []) [] rfl
  have hKc := hK.sub (tys' := []) [] rfl
  refine va_calli (va_runSN (As := [.int months, .int 0, .int 0]) (rest := []) ⟨hx, hb, hml, hown, hts⟩ (sX11_spot00 l dC dI months 0 0 gmonths (gi_c 0 0 (by decide)) (gi_c 0 0 (by decide))) (⟨va_cnB 3 hts (gz_gP mGA_582 goodGA) rfl rfl rfl (nzA_X9_63 hz) (hts _ (List.mem_cons_of_mem _ mGA_1)) hdS_X11_spot_X11_3.2 ⟨Nat.le_of_ble_eq_true rfl, Nat.le_of_ble_eq_true rfl⟩, (hts _ (List.mem_cons_of_mem _ mGA_581)), trivial⟩) ⟨bl_I (bl_a bl_P (bl_a bl_K bl_nz)), fun U hU hW => ⟨rfl, by rw [hU]; exact hPc, va_K.moved hW.alike hKc, nzA_warm hW hz⟩⟩ rfl rfl hl.1 rfl (lv_room (Nat.le_of_ble_eq_true rfl)) (dk_at dkX9_countBehind 4 rfl) ⟨Nat.zero_le _, Nat.zero_le _⟩) hS (fun q _ h => h.elim) (fun q h => h.elim) (fun r_605 u t H1 locs ht hvm hw hB hz1 hk1 hS => ?_)
  obtain ⟨hw, hE⟩ := hw
  have hP := gz_keep hP hk1
  have hF := gf_call (a := r_605) hE hF
  generalize H1 = H at hP hS ⊢
  have gr_605 : gi r_605 0 3300 := hw
  refine lv_istore_n (lv' := [(1, .int r_605), (0, .ref h0)]) hx hb (dk_at dkX9_countBehind 5 rfl) rfl hl (by decide) rfl (fun ls hl => ?_)
  refine lv_iload_n hx hb (dk_at dkX9_countBehind 6 rfl) rfl (lv_at hl 0 rfl) ?_
  refine lv_istore_n (lv' := [(2, .int r_605), (1, .int r_605), (0, .ref h0)]) hx hb (dk_at dkX9_countBehind 7 rfl) rfl hl (by decide) rfl (fun ls hl => ?_)
  refine (lp_sX9_countBehind h0 bf bh sa months full lean kbf fbf kbh fbh gmonths gfull glean hx hb hml hown hts hK hz hA (Nat.le_of_ble_eq_true rfl) (Nat.le_of_ble_eq_true rfl) (Nat.zero_le _) (Nat.zero_le _) (fun z2 H locs ls hF hP hD hS hl => ?_) 1000000000).1 r_605 r_605 fbh _ _ _ gr_605 (gi_w gr_605 (by decide)) hF (by have qgr_605 := gr_605.1; have rgr_605 := gr_605.2; omega) hP hD hS (lv_sub hl [2, 1, 0] rfl)
  · skip
    exact W.vret hx hb hr (fun t ht hW => ⟨⟨(), rfl, trivial, z2, hF.trans hR9.symm, by rw [ht]; exact hP, hD⟩, hS.F ht⟩) hS.2.2 (dk_at dkX9_countBehind 88 rfl)
noncomputable def lsX9_fill : List (Nat × Instr × Nat) := [(0, .aload_n 0, 1), (1, .aload_n 1, 1), (2, .getfield 21, 3), (5, .putfield 27, 3), (8, .aload_n 0, 1), (9, .aload_n 1, 1), (10, .getfield 28, 3), (13, .putfield 31, 3), (16, .aload_n 0, 1), (17, .aload_n 1, 1), (18, .getfield 32, 3), (21, .putfield 35, 3), (24, .aload_n 0, 1), (25, .getfield 9, 3), (28, .iconst 0, 1), (29, .invokestatic 36, 3), (32, .aload_n 0, 1), (33, .getfield 15, 3), (36, .iconst 0, 1), (37, .invokestatic 36, 3), (40, .aload_n 0, 1), (41, .aload_n 1, 1), (42, .invokevirtual 42, 3), (45, .aload_n 0, 1), (46, .invokevirtual 46, 3), (49, .aload_n 0, 1), (50, .invokevirtual 49, 3), (53, .return_, 1)]
theorem dkX9_fill : dkAll cX9_fill lsX9_fill = true := dk_fast (by decide +kernel)
noncomputable def fX9_fill (fbf : Nat → Int32) (fbh : Nat → Int32) (fsa : Nat → Int32) (frmonths : Int32) (frfull : Int32) (frlean : Int32) (ffral : Nat → Int32) : Int32 × Int32 × Int32 × (Nat → Int32) × (Nat → Int32) × (Nat → Int32) := cal (fun o1 => cal (fun o2 => cal (fun o3 => cal (fun o4 => cal (fun o5 => (frmonths, frfull, frlean, o3, o4, o5)) (fX9_countStarts frmonths frfull frlean o3 o4 fsa)) (fX9_countBehind frmonths frfull frlean o3 o2)) (fX9_countBefore frmonths frfull frlean o1 ffral)) (fJ7_fill_53178_sJ7_fill3575 fbh (0 : Int32))) (fJ7_fill_53178_sJ7_fill3575 fbf (0 : Int32))
abbrev pb_sX9_fill (dC : Nat → ClassId) (dI : Nat → Nat → Nat) (A9 : Nat → Prop) (h0 : Nat) (bf : Nat) (bh : Nat) (sa : Nat) (fr : Nat) (fral : Nat) (months : Int32) (full : Int32) (lean : Int32) (kbf : ClassId) (fbf : Nat → Int32) (kbh : ClassId) (fbh : Nat → Int32) (ksa : ClassId) (fsa : Nat → Int32) (frmonths : Int32) (frfull : Int32) (frlean : Int32) (fron : Nat) (kfral : ClassId) (ffral : Nat → Int32) (w0_3 : Int32) (w0_4 : Int32) (w0_5 : Int32) (z1 : Nat → Int32) (z2 : Nat → Int32) (z3 : Nat → Int32) (t : State) : Prop := gi w0_3 0 24 ∧ gi w0_4 0 5 ∧ gi w0_5 0 5 ∧ (w0_3, w0_4, w0_5, z1, z2, z3) = fX9_fill fbf fbh fsa frmonths frfull frlean ffral ∧ va_P (dC, dI) vwCl [(h0, .inr (9, [.ref bf, .ref bh, .ref sa, .int w0_3, .int w0_4, .int w0_5])), (bf, .inl (kbf, 3575, .inl z1)), (bh, .inl (kbh, 3575, .inl z2)), (sa, .inl (ksa, 325, .inl z3)), (fr, .inr (3, [.int frmonths, .int frfull, .int frlean, .ref fral, .ref fron])), (fral, .inl (kfral, 25, .inl ffral))] t.heap ∧ va_D A9 [(h0, .inr (9, [.ref bf, .ref bh, .ref sa, .int w0_3, .int w0_4, .int w0_5])), (bf, .inl (kbf, 3575, .inl z1)), (bh, .inl (kbh, 3575, .inl z2)), (sa, .inl (ksa, 325, .inl z3)), (fr, .inr (3, [.int frmonths, .int frfull, .int frlean, .ref fral, .ref fron])), (fral, .inl (kfral, 25, .inl ffral))]
set_option maxHeartbeats 4000000 in
set_option maxRecDepth 100000 in
theorem sX9_fill (l : Launch) (dC : Nat → ClassId) (dI : Nat → Nat → Nat) (sz : Nat) (h0 : Nat) (bf : Nat) (bh : Nat) (sa : Nat) (fr : Nat) (fral : Nat) (months : Int32) (full : Int32) (lean : Int32) (kbf : ClassId) (fbf : Nat → Int32) (kbh : ClassId) (fbh : Nat → Int32) (ksa : ClassId) (fsa : Nat → Int32) (frmonths : Int32) (frfull : Int32) (frlean : Int32) (fron : Nat) (kfral : ClassId) (ffral : Nat → Int32) (gmonths : gi months 0 24) (gfull : gi full 0 5) (glean : gi lean 0 5) (gfrmonths : gi frmonths 0 24) (gfrfull : gi frfull 0 5) (gfrlean : gi frlean 0 5) : Met l yX9_fill (.code yX9_fill cX9_fill 2 none :: wsGA) ({ frames := 4, cells := 0, slots := 0, locals := 92 }) (va_Pc [.ref h0, .ref fr] (fun U => U.heap.size = sz ∧ va_P (dC, dI) vwCl [(h0, .inr (9, [.ref bf, .ref bh, .ref sa, .int months, .int full, .int lean])), (bf, .inl (kbf, 3575, .inl fbf)), (bh, .inl (kbh, 3575, .inl fbh)), (sa, .inl (ksa, 325, .inl fsa)), (fr, .inr (3, [.int frmonths, .int frfull, .int frlean, .ref fral, .ref fron])), (fral, .inl (kfral, 25, .inl ffral))] U.heap ∧ va_K (dC, dI) vwCl [(kbf, .int), (kbh, .int), (ksa, .int), (kfral, .int)] U ∧ va_D (fun _ => True) [(h0, .inr (9, [.ref bf, .ref bh, .ref sa, .int months, .int full, .int lean])), (bf, .inl (kbf, 3575, .inl fbf)), (bh, .inl (kbh, 3575, .inl fbh)), (sa, .inl (ksa, 325, .inl fsa)), (fr, .inr (3, [.int frmonths, .int frfull, .int frlean, .ref fral, .ref fron])), (fral, .inl (kfral, 25, .inl ffral))] ∧ nzA U)) (va_Qv (fun (u : Unit) => True) (fun _ t => ∃ (w0_3 : Int32) (w0_4 : Int32) (w0_5 : Int32) (z1 : Nat → Int32) (z2 : Nat → Int32) (z3 : Nat → Int32), pb_sX9_fill dC dI (va_A [(h0, .inr (9, [.ref bf, .ref bh, .ref sa, .int months, .int full, .int lean])), (bf, .inl (kbf, 3575, .inl fbf)), (bh, .inl (kbh, 3575, .inl fbh)), (sa, .inl (ksa, 325, .inl fsa)), (fr, .inr (3, [.int frmonths, .int frfull, .int frlean, .ref fral, .ref fron])), (fral, .inl (kfral, 25, .inl ffral))] sz) h0 bf bh sa fr fral months full lean kbf fbf kbh fbh ksa fsa frmonths frfull frlean fron kfral ffral w0_3 w0_4 w0_5 z1 z2 z3 t) (va_A [(h0, .inr (9, [.ref bf, .ref bh, .ref sa, .int months, .int full, .int lean])), (bf, .inl (kbf, 3575, .inl fbf)), (bh, .inl (kbh, 3575, .inl fbh)), (sa, .inl (ksa, 325, .inl fsa)), (fr, .inr (3, [.int frmonths, .int frfull, .int frlean, .ref fral, .ref fron])), (fral, .inl (kfral, 25, .inl ffral))] sz)) 0 0 (va_A [(h0, .inr (9, [.ref bf, .ref bh, .ref sa, .int months, .int full, .int lean])), (bf, .inl (kbf, 3575, .inl fbf)), (bh, .inl (kbh, 3575, .inl fbh)), (sa, .inl (ksa, 325, .inl fsa)), (fr, .inr (3, [.int frmonths, .int frfull, .int frlean, .ref fral, .ref fron])), (fral, .inl (kfral, 25, .inl ffral))] sz) := by
  refine Met.ofW (cc := cX9_fill) (maxL := 2) (ret := none) (by decide) rfl ?_
  intro p e s m args below meth c s₁ B hml hv
  obtain ⟨rfl, hsz, hP, hK, hD0, hz⟩ := hv
  have hx := B.exec
  have hb := B.bytes
  have hr := B.returns
  have hts := atoms_spec (ws := (.code yX9_fill cX9_fill 2 none :: wsGA)) B.pre
  have hown : s.vm.findClass RX9 = some m.cls := findClass_of_methodNamed B.named
  have hlocks := B.notSynchronized
  subst hsz
  have hD := hD0.self (sz := s.heap.size)
  generalize hAe : va_A [(h0, .inr (9, [.ref bf, .ref bh, .ref sa, .int months, .int full, .int lean])), (bf, .inl (kbf, 3575, .inl fbf)), (bh, .inl (kbh, 3575, .inl fbh)), (sa, .inl (ksa, 325, .inl fsa)), (fr, .inr (3, [.int frmonths, .int frfull, .int frlean, .ref fral, .ref fron])), (fral, .inl (kfral, 25, .inl ffral))] s.heap.size = A at hD ⊢
  have hA : ∀ q : Nat, s.heap.size ≤ q → A q := fun q h => by rw [← hAe]; exact Or.inr h
  have hS : va_S A s.heap s.heap [] := va_S.rf
  have hl := lv_entry ([.ref h0, .ref fr]) (n := 2) (Nat.le_of_ble_eq_true rfl)
  rw [lg_entry_eq]
  generalize (lg_sl ([.ref h0, .ref fr]) ++ List.replicate (2 - (lg_sl ([.ref h0, .ref fr])).length) Slot.unset).toArray = ls at hl ⊢
  have hl : lv_has ls 2 [(0, .ref h0), (1, .ref fr)] := hl
  obtain ⟨RES, hF⟩ : ∃ R9, fX9_fill fbf fbh fsa frmonths frfull frlean ffral = R9 := ⟨_, rfl⟩
  have hR9 := hF
  refine lv_aload_n hx hb (dk_at dkX9_fill 0 rfl) rfl (lv_at hl 0 rfl) ?_
  refine lv_aload_n hx hb (dk_at dkX9_fill 1 rfl) rfl (lv_at hl 1 rfl) ?_
  refine va_get (D := (dC, dI)) (ci := 3) (v := .int frmonths) (C := RX3) (T := TX3) (N := 5) hx hb hts (fun w h => List.mem_cons_of_mem _ (jnGA_X3 w h)) hown hK hP 4 rfl rfl 0 (by decide) (hts _ (List.mem_cons_of_mem _ mGA_559)) (fun _ h9 => h9) rfl (dk_at dkX9_fill 2 rfl) ?_
  refine va_put (D := (dC, dI)) (ci := 9) (v := .int frmonths) (ty := .int) (C := RX9) (T := TX9) (N := 6) hx hb hts (fun w h => List.mem_cons_of_mem _ (jnGA_X9 w h)) tyX9 tyX9_ok nmX9 hown hK hP hD hS 0 rfl rfl 3 (by decide) (hts _ (List.mem_cons_of_mem _ mGA_560)) (fun _ h9 => h9) rfl fdX9_3 rfl rfl (Nat.le_of_ble_eq_true rfl) (dk_at dkX9_fill 3 rfl) (fun H locs hP hD hS => ?_)
  obtain ⟨hP, hD⟩ := gz_both (w := [(h0, .inr (9, [.ref bf, .ref bh, .ref sa, .int frmonths, .int full, .int lean])), (bf, .inl (kbf, 3575, .inl fbf)), (bh, .inl (kbh, 3575, .inl fbh)), (sa, .inl (ksa, 325, .inl fsa)), (fr, .inr (3, [.int frmonths, .int frfull, .int frlean, .ref fral, .ref fron])), (fral, .inl (kfral, 25, .inl ffral))]) hP hD
  refine lv_aload_n hx hb (dk_at dkX9_fill 4 rfl) rfl (lv_at hl 0 rfl) ?_
  refine lv_aload_n hx hb (dk_at dkX9_fill 5 rfl) rfl (lv_at hl 1 rfl) ?_
  refine va_get (D := (dC, dI)) (ci := 3) (v := .int frfull) (C := RX3) (T := TX3) (N := 5) hx hb hts (fun w h => List.mem_cons_of_mem _ (jnGA_X3 w h)) hown hK hP 4 rfl rfl 1 (by decide) (hts _ (List.mem_cons_of_mem _ mGA_561)) (fun _ h9 => h9) rfl (dk_at dkX9_fill 6 rfl) ?_
  refine va_put (D := (dC, dI)) (ci := 9) (v := .int frfull) (ty := .int) (C := RX9) (T := TX9) (N := 6) hx hb hts (fun w h => List.mem_cons_of_mem _ (jnGA_X9 w h)) tyX9 tyX9_ok nmX9 hown hK hP hD hS 0 rfl rfl 4 (by decide) (hts _ (List.mem_cons_of_mem _ mGA_562)) (fun _ h9 => h9) rfl fdX9_4 rfl rfl (Nat.le_of_ble_eq_true rfl) (dk_at dkX9_fill 7 rfl) (fun H locs hP hD hS => ?_)
  obtain ⟨hP, hD⟩ := gz_both (w := [(h0, .inr (9, [.ref bf, .ref bh, .ref sa, .int frmonths, .int frfull, .int lean])), (bf, .inl (kbf, 3575, .inl fbf)), (bh, .inl (kbh, 3575, .inl fbh)), (sa, .inl (ksa, 325, .inl fsa)), (fr, .inr (3, [.int frmonths, .int frfull, .int frlean, .ref fral, .ref fron])), (fral, .inl (kfral, 25, .inl ffral))]) hP hD
  refine lv_aload_n hx hb (dk_at dkX9_fill 8 rfl) rfl (lv_at hl 0 rfl) ?_
  refine lv_aload_n hx hb (dk_at dkX9_fill 9 rfl) rfl (lv_at hl 1 rfl) ?_
  refine va_get (D := (dC, dI)) (ci := 3) (v := .int frlean) (C := RX3) (T := TX3) (N := 5) hx hb hts (fun w h => List.mem_cons_of_mem _ (jnGA_X3 w h)) hown hK hP 4 rfl rfl 2 (by decide) (hts _ (List.mem_cons_of_mem _ mGA_563)) (fun _ h9 => h9) rfl (dk_at dkX9_fill 10 rfl) ?_
  refine va_put (D := (dC, dI)) (ci := 9) (v := .int frlean) (ty := .int) (C := RX9) (T := TX9) (N := 6) hx hb hts (fun w h => List.mem_cons_of_mem _ (jnGA_X9 w h)) tyX9 tyX9_ok nmX9 hown hK hP hD hS 0 rfl rfl 5 (by decide) (hts _ (List.mem_cons_of_mem _ mGA_564)) (fun _ h9 => h9) rfl fdX9_5 rfl rfl (Nat.le_of_ble_eq_true rfl) (dk_at dkX9_fill 11 rfl) (fun H locs hP hD hS => ?_)
  obtain ⟨hP, hD⟩ := gz_both (w := [(h0, .inr (9, [.ref bf, .ref bh, .ref sa, .int frmonths, .int frfull, .int frlean])), (bf, .inl (kbf, 3575, .inl fbf)), (bh, .inl (kbh, 3575, .inl fbh)), (sa, .inl (ksa, 325, .inl fsa)), (fr, .inr (3, [.int frmonths, .int frfull, .int frlean, .ref fral, .ref fron])), (fral, .inl (kfral, 25, .inl ffral))]) hP hD
  refine lv_aload_n hx hb (dk_at dkX9_fill 12 rfl) rfl (lv_at hl 0 rfl) ?_
  refine va_get (D := (dC, dI)) (ci := 9) (v := .ref bf) (C := RX9) (T := TX9) (N := 6) hx hb hts (fun w h => List.mem_cons_of_mem _ (jnGA_X9 w h)) hown hK hP 0 rfl rfl 0 (by decide) (hts _ (List.mem_cons_of_mem _ mGA_111)) (fun _ h9 => h9) rfl (dk_at dkX9_fill 13 rfl) ?_
  refine lv_iconst (v := 0) hx hb (dk_at dkX9_fill 14 rfl) (by decide) ?_
  obtain ⟨hPc, hDc, hFc⟩ := gz_cut (wc := [(bf, .inl (kbf, 3575, .inl fbf))]) hP hD hS hA [1] (by decide) rfl
  have hKc := hK.sub (tys' := [(kbf, .int)]) [0] rfl
  refine va_callv (va_runS (As := [.ref bf, .int 0]) (rest := []) ⟨hx, hb, hml, hown, hts⟩ (sJ7_fill3575 l dC dI H.size bf kbf fbf 0) (⟨callB_of 2 hts (gz_gP mGA_568 goodGA) rfl rfl rfl (hts _ (List.mem_cons_of_mem _ mGA_567)) (hts _ (List.mem_cons_of_mem _ mGA_565)) hdS_J7_fill_53178_J7_2.2 ⟨Nat.le_of_ble_eq_true rfl, Nat.le_of_ble_eq_true rfl⟩, (hts _ (List.mem_cons_of_mem _ mGA_566))⟩) ⟨bl_I (bl_a bl_sz (bl_a bl_P (bl_a bl_K (bl_a bl_c bl_nz)))), fun U hU hW => ⟨rfl, by rw [hU], by rw [hU]; exact hPc, va_K.moved hW.alike hKc, hDc.weaken (fun _ _ _ _ => trivial), nzA_warm hW hz⟩⟩ rfl rfl hl.1 rfl (lv_room (Nat.le_of_ble_eq_true rfl)) (dk_at dkX9_fill 15 rfl) ⟨Nat.zero_le _, Nat.zero_le _⟩) hS (fun q _ h => hFc q h) hFc (fun u t H1 locs ht hvm hw hB hz1 hk1 hS => ?_)
  obtain ⟨f_22, hB⟩ := hB
  obtain ⟨hE, hP1, hD1⟩ := hB
  rw [ht] at hP1
  obtain ⟨hP, hD⟩ := gz_back hP hD hk1 hFc hP1 hD1 [1] rfl rfl
  obtain ⟨hP, hD⟩ := gz_both (w := [(h0, .inr (9, [.ref bf, .ref bh, .ref sa, .int frmonths, .int frfull, .int frlean])), (bf, .inl (kbf, 3575, .inl f_22)), (bh, .inl (kbh, 3575, .inl fbh)), (sa, .inl (ksa, 325, .inl fsa)), (fr, .inr (3, [.int frmonths, .int frfull, .int frlean, .ref fral, .ref fron])), (fral, .inl (kfral, 25, .inl ffral))]) hP hD
  have hF := gf_call (a := f_22) hE hF
  generalize H1 = H at hP hS ⊢
  refine lv_aload_n hx hb (dk_at dkX9_fill 16 rfl) rfl (lv_at hl 0 rfl) ?_
  refine va_get (D := (dC, dI)) (ci := 9) (v := .ref bh) (C := RX9) (T := TX9) (N := 6) hx hb hts (fun w h => List.mem_cons_of_mem _ (jnGA_X9 w h)) hown hK hP 0 rfl rfl 1 (by decide) (hts _ (List.mem_cons_of_mem _ mGA_112)) (fun _ h9 => h9) rfl (dk_at dkX9_fill 17 rfl) ?_
  refine lv_iconst (v := 0) hx hb (dk_at dkX9_fill 18 rfl) (by decide) ?_
  obtain ⟨hPc, hDc, hFc⟩ := gz_cut (wc := [(bh, .inl (kbh, 3575, .inl fbh))]) hP hD hS hA [2] (by decide) rfl
  have hKc := hK.sub (tys' := [(kbh, .int)]) [1] rfl
  refine va_callv (va_runS (As := [.ref bh, .int 0]) (rest := []) ⟨hx, hb, hml, hown, hts⟩ (sJ7_fill3575 l dC dI H.size bh kbh fbh 0) (⟨callB_of 2 hts (gz_gP mGA_568 goodGA) rfl rfl rfl (hts _ (List.mem_cons_of_mem _ mGA_567)) (hts _ (List.mem_cons_of_mem _ mGA_565)) hdS_J7_fill_53178_J7_2.2 ⟨Nat.le_of_ble_eq_true rfl, Nat.le_of_ble_eq_true rfl⟩, (hts _ (List.mem_cons_of_mem _ mGA_566))⟩) ⟨bl_I (bl_a bl_sz (bl_a bl_P (bl_a bl_K (bl_a bl_c bl_nz)))), fun U hU hW => ⟨rfl, by rw [hU], by rw [hU]; exact hPc, va_K.moved hW.alike hKc, hDc.weaken (fun _ _ _ _ => trivial), nzA_warm hW hz⟩⟩ rfl rfl hl.1 rfl (lv_room (Nat.le_of_ble_eq_true rfl)) (dk_at dkX9_fill 19 rfl) ⟨Nat.zero_le _, Nat.zero_le _⟩) hS (fun q _ h => hFc q h) hFc (fun u t H1 locs ht hvm hw hB hz1 hk1 hS => ?_)
  obtain ⟨f_24, hB⟩ := hB
  obtain ⟨hE, hP1, hD1⟩ := hB
  rw [ht] at hP1
  obtain ⟨hP, hD⟩ := gz_back hP hD hk1 hFc hP1 hD1 [2] rfl rfl
  obtain ⟨hP, hD⟩ := gz_both (w := [(h0, .inr (9, [.ref bf, .ref bh, .ref sa, .int frmonths, .int frfull, .int frlean])), (bf, .inl (kbf, 3575, .inl f_22)), (bh, .inl (kbh, 3575, .inl f_24)), (sa, .inl (ksa, 325, .inl fsa)), (fr, .inr (3, [.int frmonths, .int frfull, .int frlean, .ref fral, .ref fron])), (fral, .inl (kfral, 25, .inl ffral))]) hP hD
  have hF := gf_call (a := f_24) hE hF
  generalize H1 = H at hP hS ⊢
  refine lv_aload_n hx hb (dk_at dkX9_fill 20 rfl) rfl (lv_at hl 0 rfl) ?_
  refine lv_aload_n hx hb (dk_at dkX9_fill 21 rfl) rfl (lv_at hl 1 rfl) ?_
  obtain ⟨hPc, hDc, hFc⟩ := gz_cut (wc := [(h0, .inr (9, [.ref bf, .ref bh, .ref sa, .int frmonths, .int frfull, .int frlean])), (bf, .inl (kbf, 3575, .inl f_22)), (fr, .inr (3, [.int frmonths, .int frfull, .int frlean, .ref fral, .ref fron])), (fral, .inl (kfral, 25, .inl ffral))]) hP hD hS hA [0, 1, 4, 5] (by decide) rfl
  have hKc := hK.sub (tys' := [(kbf, .int), (kfral, .int)]) [0, 3] rfl
  refine va_callv (va_runV (As := [.ref fr]) (rest := []) ⟨hx, hb, hml, hown, hts⟩ (sX9_countBefore l dC dI H.size h0 bf fr fral bh sa frmonths frfull frlean kbf f_22 frmonths frfull frlean fron kfral ffral gfrmonths gfrfull gfrlean gfrmonths gfrfull gfrlean) (cwV 1 hts (gz_gV mGA_569 mGA_570 mGA_571 mGA_27 mGA_572 goodGA) rfl rfl rfl hdV_X9_countBefore_X9_1 ⟨Nat.le_of_ble_eq_true rfl, Nat.le_of_ble_eq_true rfl⟩) ⟨bl_I (bl_a bl_sz (bl_a bl_P (bl_a bl_K (bl_a bl_c bl_nz)))), va_recv hKc hPc (ci := 9) (q0 := 0) rfl rfl, fun U hU hW => ⟨rfl, by rw [hU], by rw [hU]; exact hPc, va_K.moved hW.alike hKc, hDc.weaken (fun _ _ _ _ => trivial), nzA_warm hW hz⟩⟩ rfl rfl hl.1 rfl (lv_room (Nat.le_of_ble_eq_true rfl)) (dk_at dkX9_fill 22 rfl) ⟨Nat.zero_le _, Nat.zero_le _⟩) hS (fun q _ h => hFc q h) hFc (fun u t H1 locs ht hvm hw hB hz1 hk1 hS => ?_)
  obtain ⟨f_26, hB⟩ := hB
  obtain ⟨hE, hP1, hD1⟩ := hB
  rw [ht] at hP1
  obtain ⟨hP, hD⟩ := gz_back hP hD hk1 hFc hP1 hD1 [0, 1, 4, 5] rfl rfl
  obtain ⟨hP, hD⟩ := gz_both (w := [(h0, .inr (9, [.ref bf, .ref bh, .ref sa, .int frmonths, .int frfull, .int frlean])), (bf, .inl (kbf, 3575, .inl f_26)), (bh, .inl (kbh, 3575, .inl f_24)), (sa, .inl (ksa, 325, .inl fsa)), (fr, .inr (3, [.int frmonths, .int frfull, .int frlean, .ref fral, .ref fron])), (fral, .inl (kfral, 25, .inl ffral))]) hP hD
  have hF := gf_call (a := f_26) hE hF
  generalize H1 = H at hP hS ⊢
  refine lv_aload_n hx hb (dk_at dkX9_fill 23 rfl) rfl (lv_at hl 0 rfl) ?_
  obtain ⟨hPc, hDc, hFc⟩ := gz_cut (wc := [(h0, .inr (9, [.ref bf, .ref bh, .ref sa, .int frmonths, .int frfull, .int frlean])), (bf, .inl (kbf, 3575, .inl f_26)), (bh, .inl (kbh, 3575, .inl f_24))]) hP hD hS hA [0, 1, 2] (by decide) rfl
  have hKc := hK.sub (tys' := [(kbf, .int), (kbh, .int)]) [0, 1] rfl
  refine va_callv (va_runV (As := []) (rest := []) ⟨hx, hb, hml, hown, hts⟩ (sX9_countBehind l dC dI H.size h0 bf bh sa frmonths frfull frlean kbf f_26 kbh f_24 gfrmonths gfrfull gfrlean) (cwV 0 hts (gz_gV mGA_590 mGA_591 mGA_592 mGA_27 mGA_593 goodGA) rfl rfl rfl hdV_X9_countBehind_X9_0 ⟨Nat.le_of_ble_eq_true rfl, Nat.le_of_ble_eq_true rfl⟩) ⟨bl_I (bl_a bl_sz (bl_a bl_P (bl_a bl_K (bl_a bl_c bl_nz)))), va_recv hKc hPc (ci := 9) (q0 := 0) rfl rfl, fun U hU hW => ⟨rfl, by rw [hU], by rw [hU]; exact hPc, va_K.moved hW.alike hKc, hDc.weaken (fun _ _ _ _ => trivial), nzA_warm hW hz⟩⟩ rfl rfl hl.1 rfl (lv_room (Nat.le_of_ble_eq_true rfl)) (dk_at dkX9_fill 24 rfl) ⟨Nat.zero_le _, Nat.zero_le _⟩) hS (fun q _ h => hFc q h) hFc (fun u t H1 locs ht hvm hw hB hz1 hk1 hS => ?_)
  obtain ⟨f_28, hB⟩ := hB
  obtain ⟨hE, hP1, hD1⟩ := hB
  rw [ht] at hP1
  obtain ⟨hP, hD⟩ := gz_back hP hD hk1 hFc hP1 hD1 [0, 1, 2] rfl rfl
  obtain ⟨hP, hD⟩ := gz_both (w := [(h0, .inr (9, [.ref bf, .ref bh, .ref sa, .int frmonths, .int frfull, .int frlean])), (bf, .inl (kbf, 3575, .inl f_26)), (bh, .inl (kbh, 3575, .inl f_28)), (sa, .inl (ksa, 325, .inl fsa)), (fr, .inr (3, [.int frmonths, .int frfull, .int frlean, .ref fral, .ref fron])), (fral, .inl (kfral, 25, .inl ffral))]) hP hD
  have hF := gf_call (a := f_28) hE hF
  generalize H1 = H at hP hS ⊢
  refine lv_aload_n hx hb (dk_at dkX9_fill 25 rfl) rfl (lv_at hl 0 rfl) ?_
  obtain ⟨hPc, hDc, hFc⟩ := gz_cut (wc := [(h0, .inr (9, [.ref bf, .ref bh, .ref sa, .int frmonths, .int frfull, .int frlean])), (bf, .inl (kbf, 3575, .inl f_26)), (bh, .inl (kbh, 3575, .inl f_28)), (sa, .inl (ksa, 325, .inl fsa))]) hP hD hS hA [0, 1, 2, 3] (by decide) rfl
  have hKc := hK.sub (tys' := [(kbf, .int), (kbh, .int), (ksa, .int)]) [0, 1, 2] rfl
  refine va_callv (va_runV (As := []) (rest := []) ⟨hx, hb, hml, hown, hts⟩ (sX9_countStarts l dC dI H.size h0 bf bh sa frmonths frfull frlean kbf f_26 kbh f_28 ksa fsa gfrmonths gfrfull gfrlean) (cwV 0 hts (gz_gV mGA_603 mGA_604 mGA_605 mGA_27 mGA_606 goodGA) rfl rfl rfl hdV_X9_countStarts_X9_0 ⟨Nat.le_of_ble_eq_true rfl, Nat.le_of_ble_eq_true rfl⟩) ⟨bl_I (bl_a bl_sz (bl_a bl_P (bl_a bl_K (bl_a bl_c bl_nz)))), va_recv hKc hPc (ci := 9) (q0 := 0) rfl rfl, fun U hU hW => ⟨rfl, by rw [hU], by rw [hU]; exact hPc, va_K.moved hW.alike hKc, hDc.weaken (fun _ _ _ _ => trivial), nzA_warm hW hz⟩⟩ rfl rfl hl.1 rfl (lv_room (Nat.le_of_ble_eq_true rfl)) (dk_at dkX9_fill 26 rfl) ⟨Nat.zero_le _, Nat.zero_le _⟩) hS (fun q _ h => hFc q h) hFc (fun u t H1 locs ht hvm hw hB hz1 hk1 hS => ?_)
  obtain ⟨f_30, hB⟩ := hB
  obtain ⟨hE, hP1, hD1⟩ := hB
  rw [ht] at hP1
  obtain ⟨hP, hD⟩ := gz_back hP hD hk1 hFc hP1 hD1 [0, 1, 2, 3] rfl rfl
  obtain ⟨hP, hD⟩ := gz_both (w := [(h0, .inr (9, [.ref bf, .ref bh, .ref sa, .int frmonths, .int frfull, .int frlean])), (bf, .inl (kbf, 3575, .inl f_26)), (bh, .inl (kbh, 3575, .inl f_28)), (sa, .inl (ksa, 325, .inl f_30)), (fr, .inr (3, [.int frmonths, .int frfull, .int frlean, .ref fral, .ref fron])), (fral, .inl (kfral, 25, .inl ffral))]) hP hD
  have hF := gf_call (a := f_30) hE hF
  generalize H1 = H at hP hS ⊢
  exact W.vret hx hb hr (fun t ht hW => ⟨⟨(), rfl, trivial, frmonths, frfull, frlean, f_26, f_28, f_30, gfrmonths, gfrfull, gfrlean, hF.trans hR9.symm, by rw [ht]; exact hP, hD⟩, hS.F ht⟩) hS.2.2 (dk_at dkX9_fill 27 rfl)
