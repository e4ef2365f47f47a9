theorem dX6_byteAt_0 : decode cX6_byteAt 0 = .ok (.iload_n 1, 1) := by decide +kernel
theorem dX6_byteAt_1 : decode cX6_byteAt 1 = .ok (.ifCond .lt 26, 3) := by decide +kernel
theorem dX6_byteAt_4 : decode cX6_byteAt 4 = .ok (.iload_n 1, 1) := by decide +kernel
theorem dX6_byteAt_5 : decode cX6_byteAt 5 = .ok (.aload_n 0, 1) := by decide +kernel
theorem dX6_byteAt_6 : decode cX6_byteAt 6 = .ok (.getfield 12, 3) := by decide +kernel
theorem dX6_byteAt_9 : decode cX6_byteAt 9 = .ok (.getfield 205, 3) := by decide +kernel
theorem dX6_byteAt_12 : decode cX6_byteAt 12 = .ok (.if_icmp .ge 15, 3) := by decide +kernel
theorem dX6_byteAt_15 : decode cX6_byteAt 15 = .ok (.aload_n 0, 1) := by decide +kernel
theorem dX6_byteAt_16 : decode cX6_byteAt 16 = .ok (.getfield 12, 3) := by decide +kernel
theorem dX6_byteAt_19 : decode cX6_byteAt 19 = .ok (.getfield 210, 3) := by decide +kernel
theorem dX6_byteAt_22 : decode cX6_byteAt 22 = .ok (.iload_n 1, 1) := by decide +kernel
theorem dX6_byteAt_23 : decode cX6_byteAt 23 = .ok (.baload, 1) := by decide +kernel
theorem dX6_byteAt_24 : decode cX6_byteAt 24 = .ok (.goto 4, 3) := by decide +kernel
theorem dX6_byteAt_27 : decode cX6_byteAt 27 = .ok (.iconst (-1), 1) := by decide +kernel
theorem dX6_byteAt_28 : decode cX6_byteAt 28 = .ok (.ireturn, 1) := by decide +kernel
set_option maxHeartbeats 4000000 in
set_option maxRecDepth 100000 in
theorem sX6_byteAt (l : Launch) (dC : Nat → ClassId) (dI : Nat → Nat → Nat) (h0 : Nat) (tp : Nat) (bt : Nat) (dr : Nat) (q_faultKind : Int32) (q_faultPlace : Int32) (q_token : Int32) (q_start : Int32) (q_stop : Int32) (b_length : Int32) (kbt : ClassId) (fbt : Nat → Int32) (p1 : Int32) (gq_faultKind : gi q_faultKind 0 3) (gq_start : gi q_start 0 1600) (gq_stop : gi q_stop 0 1600) (gb_length : gi b_length 0 1600) : Met l yX6_byteAt (.code yX6_byteAt cX6_byteAt 2 (some .int) :: wsGA) ({ frames := 0, cells := 0, slots := 0, locals := 0 }) (va_Pc [.ref h0, .int p1] (fun U => va_P (dC, dI) vwCl [(h0, .inr (6, [.ref tp, .ref dr, .int q_faultKind, .int q_faultPlace, .int q_token, .int q_start, .int q_stop])), (tp, .inr (10, [.ref bt, .int b_length])), (bt, .inl (kbt, 1600, .inl fbt))] U.heap ∧ va_K (dC, dI) vwCl [(kbt, .byte)] U ∧ nzA U)) (va_Qi (fun (r : Int32) (u : Unit) => gi r (-2147483648) 2147483647) (fun _ _ => True) (fun _ => False)) 0 0 (fun _ => False) := by
  refine Met.ofW (cc := cX6_byteAt) (maxL := 2) (ret := (some .int)) (by decide) rfl ?_
  intro p e s m args below meth c s₁ B hml hv
  obtain ⟨rfl, hP, hK, hz⟩ := hv
  have hx := B.exec
  have hb := B.bytes
  have hr := B.returns
  have hts := atoms_spec (ws := (.code yX6_byteAt cX6_byteAt 2 (some .int) :: wsGA)) B.pre
  have hown : s.vm.findClass RX6 = some m.cls := findClass_of_methodNamed B.named
  have hlocks := B.notSynchronized
  have hS : va_S (fun _ => False) s.heap s.heap [] := va_S.rf
  have hl := lv_entry ([.ref h0, .int p1]) (n := 2) (Nat.le_of_ble_eq_true rfl)
  rw [lg_entry_eq]
  generalize (lg_sl ([.ref h0, .int p1]) ++ List.replicate (2 - (lg_sl ([.ref h0, .int p1])).length) Slot.unset).toArray = ls at hl ⊢
  have hl : lv_has ls 2 [(0, .ref h0), (1, .int p1)] := hl
  refine lv_iload_n hx hb dX6_byteAt_0 rfl (lv_at hl 1 rfl) ?_
  refine lv_if_lt (tgt := 27) hx hb dX6_byteAt_1 (by decide) (fun c_8 => ?_) (fun c_8 => ?_)
  · have g_9 : gi p1 (-2147483648) (-1) := gi_lt_l c_8 (gi_any p1) (gi_c 0 0 (by decide)) (by decide)
    refine lv_iconst (v := (-1)) hx hb dX6_byteAt_27 (by decide) ?_
    exact W.iret (v := (-1)) hx hb hr (fun t ht hW => ⟨⟨(-1), (), rfl, (gi_any (-1)), trivial⟩, hS.F ht⟩) hS.2.2 dX6_byteAt_28
  · have g_10 : gi p1 0 2147483647 := gi_le_r (Int32.not_lt.mp c_8) (gi_c 0 0 (by decide)) (gi_any p1)
    refine lv_iload_n hx hb dX6_byteAt_4 rfl (lv_at hl 1 rfl) ?_
    refine lv_aload_n hx hb dX6_byteAt_5 rfl (lv_at hl 0 rfl) ?_
    refine va_get (D := (dC, dI)) (ci := 6) (v := .ref tp) (C := RX6) (T := TX6) (N := 7) hx hb hts (fun w h => List.mem_cons_of_mem _ (jnGA_X6 w h)) hown hK hP 0 rfl rfl 0 (by decide) (hts _ (List.mem_cons_of_mem _ mGA_52)) (fun _ h9 => h9) rfl dX6_byteAt_6 ?_
    refine va_get (D := (dC, dI)) (ci := 10) (v := .int b_length) (C := RX10) (T := TX10) (N := 2) hx hb hts (fun w h => List.mem_cons_of_mem _ (jnGA_X10 w h)) hown hK hP 1 rfl rfl 1 (by decide) (hts _ (List.mem_cons_of_mem _ mGA_166)) (fun _ h9 => h9) rfl dX6_byteAt_9 ?_
    refine lv_icmp_ge (tgt := 27) hx hb dX6_byteAt_12 (by decide) (fun c_11 => ?_) (fun c_11 => ?_)
    · refine lv_iconst (v := (-1)) hx hb dX6_byteAt_27 (by decide) ?_
      exact W.iret (v := (-1)) hx hb hr (fun t ht hW => ⟨⟨(-1), (), rfl, (gi_any (-1)), trivial⟩, hS.F ht⟩) hS.2.2 dX6_byteAt_28
    · have g_12 : gi p1 0 1599 := gi_lt_l (Int32.not_le.mp c_11) g_10 gb_length (by decide)
      have g_13 : gi b_length 1 1600 := gi_lt_r (Int32.not_le.mp c_11) g_10 gb_length (by decide)
      refine lv_aload_n hx hb dX6_byteAt_15 rfl (lv_at hl 0 rfl) ?_
      refine va_get (D := (dC, dI)) (ci := 6) (v := .ref tp) (C := RX6) (T := TX6) (N := 7) hx hb hts (fun w h => List.mem_cons_of_mem _ (jnGA_X6 w h)) hown hK hP 0 rfl rfl 0 (by decide) (hts _ (List.mem_cons_of_mem _ mGA_52)) (fun _ h9 => h9) rfl dX6_byteAt_16 ?_
      refine va_get (D := (dC, dI)) (ci := 10) (v := .ref bt) (C := RX10) (T := TX10) (N := 2) hx hb hts (fun w h => List.mem_cons_of_mem _ (jnGA_X10 w h)) hown hK hP 1 rfl rfl 0 (by decide) (hts _ (List.mem_cons_of_mem _ mGA_171)) (fun _ h9 => h9) rfl dX6_byteAt_19 ?_
      refine lv_iload_n hx hb dX6_byteAt_22 rfl (lv_at hl 1 rfl) ?_
      refine va_bald hx hb hK hP 2 0 rfl rfl (gi_in g_12 (by decide)) dX6_byteAt_23 ?_
      refine lv_topi (fun x_14 ex_14 => ?_)
      refine lv_goto (tgt := 28) hx hb dX6_byteAt_24 (by decide) ?_
      exact W.iret (v := x_14) hx hb hr (fun t ht hW => ⟨⟨x_14, (), rfl, (gi_any x_14), trivial⟩, hS.F ht⟩) hS.2.2 dX6_byteAt_28
