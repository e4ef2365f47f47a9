theorem dX11_count_0 : decode cX11_count 0 = .ok (.iload_n 1, 1) := by decide +kernel
theorem dX11_count_1 : decode cX11_count 1 = .ok (.tableswitch 147 0 10 #[59, 67, 75, 83, 91, 99, 107, 115, 126, 131, 139], 59) := by decide +kernel
theorem dX11_count_60 : decode cX11_count 60 = .ok (.aload_n 0, 1) := by decide +kernel
theorem dX11_count_61 : decode cX11_count 61 = .ok (.getfield 19, 3) := by decide +kernel
theorem dX11_count_64 : decode cX11_count 64 = .ok (.getfield 120, 3) := by decide +kernel
theorem dX11_count_67 : decode cX11_count 67 = .ok (.ireturn, 1) := by decide +kernel
theorem dX11_count_68 : decode cX11_count 68 = .ok (.aload_n 0, 1) := by decide +kernel
theorem dX11_count_69 : decode cX11_count 69 = .ok (.getfield 19, 3) := by decide +kernel
theorem dX11_count_72 : decode cX11_count 72 = .ok (.getfield 123, 3) := by decide +kernel
theorem dX11_count_75 : decode cX11_count 75 = .ok (.ireturn, 1) := by decide +kernel
theorem dX11_count_76 : decode cX11_count 76 = .ok (.aload_n 0, 1) := by decide +kernel
theorem dX11_count_77 : decode cX11_count 77 = .ok (.getfield 19, 3) := by decide +kernel
theorem dX11_count_80 : decode cX11_count 80 = .ok (.getfield 126, 3) := by decide +kernel
theorem dX11_count_83 : decode cX11_count 83 = .ok (.ireturn, 1) := by decide +kernel
theorem dX11_count_84 : decode cX11_count 84 = .ok (.aload_n 0, 1) := by decide +kernel
theorem dX11_count_85 : decode cX11_count 85 = .ok (.getfield 19, 3) := by decide +kernel
theorem dX11_count_88 : decode cX11_count 88 = .ok (.getfield 129, 3) := by decide +kernel
theorem dX11_count_91 : decode cX11_count 91 = .ok (.ireturn, 1) := by decide +kernel
theorem dX11_count_92 : decode cX11_count 92 = .ok (.aload_n 0, 1) := by decide +kernel
theorem dX11_count_93 : decode cX11_count 93 = .ok (.getfield 19, 3) := by decide +kernel
theorem dX11_count_96 : decode cX11_count 96 = .ok (.getfield 132, 3) := by decide +kernel
theorem dX11_count_99 : decode cX11_count 99 = .ok (.ireturn, 1) := by decide +kernel
theorem dX11_count_100 : decode cX11_count 100 = .ok (.aload_n 0, 1) := by decide +kernel
theorem dX11_count_101 : decode cX11_count 101 = .ok (.getfield 19, 3) := by decide +kernel
theorem dX11_count_104 : decode cX11_count 104 = .ok (.getfield 135, 3) := by decide +kernel
theorem dX11_count_107 : decode cX11_count 107 = .ok (.ireturn, 1) := by decide +kernel
theorem dX11_count_108 : decode cX11_count 108 = .ok (.aload_n 0, 1) := by decide +kernel
theorem dX11_count_109 : decode cX11_count 109 = .ok (.getfield 19, 3) := by decide +kernel
theorem dX11_count_112 : decode cX11_count 112 = .ok (.getfield 114, 3) := by decide +kernel
theorem dX11_count_115 : decode cX11_count 115 = .ok (.ireturn, 1) := by decide +kernel
theorem dX11_count_116 : decode cX11_count 116 = .ok (.aload_n 0, 1) := by decide +kernel
theorem dX11_count_117 : decode cX11_count 117 = .ok (.getfield 12, 3) := by decide +kernel
theorem dX11_count_120 : decode cX11_count 120 = .ok (.getfield 89, 3) := by decide +kernel
theorem dX11_count_123 : decode cX11_count 123 = .ok (.getfield 93, 3) := by decide +kernel
theorem dX11_count_126 : decode cX11_count 126 = .ok (.ireturn, 1) := by decide +kernel
theorem dX11_count_127 : decode cX11_count 127 = .ok (.aload_n 0, 1) := by decide +kernel
theorem dX11_count_128 : decode cX11_count 128 = .ok (.getfield 72, 3) := by decide +kernel
theorem dX11_count_131 : decode cX11_count 131 = .ok (.ireturn, 1) := by decide +kernel
theorem dX11_count_132 : decode cX11_count 132 = .ok (.aload_n 0, 1) := by decide +kernel
theorem dX11_count_133 : decode cX11_count 133 = .ok (.getfield 19, 3) := by decide +kernel
theorem dX11_count_136 : decode cX11_count 136 = .ok (.getfield 138, 3) := by decide +kernel
theorem dX11_count_139 : decode cX11_count 139 = .ok (.ireturn, 1) := by decide +kernel
theorem dX11_count_140 : decode cX11_count 140 = .ok (.aload_n 0, 1) := by decide +kernel
theorem dX11_count_141 : decode cX11_count 141 = .ok (.getfield 19, 3) := by decide +kernel
theorem dX11_count_144 : decode cX11_count 144 = .ok (.getfield 141, 3) := by decide +kernel
theorem dX11_count_147 : decode cX11_count 147 = .ok (.ireturn, 1) := by decide +kernel
theorem dX11_count_148 : decode cX11_count 148 = .ok (.iconst (-1), 1) := by decide +kernel
theorem dX11_count_149 : decode cX11_count 149 = .ok (.ireturn, 1) := by decide +kernel
set_option maxHeartbeats 4000000 in
set_option maxRecDepth 100000 in
theorem sX11_count (l : Launch) (dC : Nat → ClassId) (dI : Nat → Nat → Nat) (h0 : Nat) (am : Nat) (xr : Nat) (tp : Nat) (xs : Nat) (xf : Nat) (co : Nat) (oc : Nat) (ta : Nat) (xq : Nat) (xh : Nat) (xk : Nat) (xo : Nat) (x_outLength : Int32) (x_courtStands : Int32) (x_courtNews : Int32) (x_tallyStands : Int32) (x_historyStands : Int32) (amonths : Int32) (afull : Int32) (alean : Int32) (alines : Int32) (ahasMoon : Int32) (amoonStart : Int32) (amoonStep : Int32) (aplaceCount : Int32) (areportCount : Int32) (adeedCount : Int32) (pl : Nat) (re : Nat) (de : Nat) (dr : Nat) (q_faultKind : Int32) (q_faultPlace : Int32) (q_token : Int32) (q_start : Int32) (q_stop : Int32) (bt : Nat) (b_length : Int32) (p1 : Int32) (gx_outLength : gi x_outLength 0 72) (gx_courtStands : gi x_courtStands 0 1) (gx_tallyStands : gi x_tallyStands 0 1) (gx_historyStands : gi x_historyStands 0 1) (gamonths : gi amonths 0 24) (gafull : gi afull 0 5) (galean : gi alean 0 5) (gahasMoon : gi ahasMoon 0 1) (gaplaceCount : gi aplaceCount 0 6) (gareportCount : gi areportCount 0 24) (gadeedCount : gi adeedCount 0 8) (gq_start : gi q_start 0 1600) (gq_stop : gi q_stop 0 1600) (gb_length : gi b_length 0 1600) : Met l yX11_count (.code yX11_count cX11_count 2 (some .int) :: wsGA) ({ frames := 0, cells := 0, slots := 0, locals := 0 }) (va_Pc [.ref h0, .int p1] (fun U => va_P (dC, dI) vwCl [(h0, .inr (11, [.ref xr, .ref am, .ref xs, .ref xf, .ref co, .ref oc, .ref ta, .ref xq, .ref xh, .ref xk, .ref xo, .int x_outLength, .int x_courtStands, .int x_courtNews, .int x_tallyStands, .int x_historyStands])), (am, .inr (0, [.int amonths, .int afull, .int alean, .int alines, .int ahasMoon, .int amoonStart, .int amoonStep, .int aplaceCount, .int areportCount, .int adeedCount, .ref pl, .ref re, .ref de])), (xr, .inr (6, [.ref tp, .ref dr, .int q_faultKind, .int q_faultPlace, .int q_token, .int q_start, .int q_stop])), (tp, .inr (10, [.ref bt, .int b_length]))] U.heap ∧ va_K (dC, dI) vwCl [] U ∧ nzA U)) (va_Qi (fun (r : Int32) (u : Unit) => gi r (-2147483648) 2147483647) (fun _ _ => True) (fun _ => False)) 0 0 (fun _ => False) := by
  refine Met.ofW (cc := cX11_count) (maxL := 2) (ret := (some .int)) (by decide) rfl ?_
  intro p e s m args below meth c s₁ B hml hv
  obtain ⟨rfl, hP, hK, hz⟩ := hv
  have hx := B.exec
  have hb := B.bytes
  have hr := B.returns
  have hts := atoms_spec (ws := (.code yX11_count cX11_count 2 (some .int) :: wsGA)) B.pre
  have hown : s.vm.findClass RX11 = some m.cls := findClass_of_methodNamed B.named
  have hlocks := B.notSynchronized
  have hS : va_S (fun _ => False) s.heap s.heap [] := va_S.rf
  have hl := lv_entry ([.ref h0, .int p1]) (n := 2) (Nat.le_of_ble_eq_true rfl)
  rw [lg_entry_eq]
  generalize (lg_sl ([.ref h0, .int p1]) ++ List.replicate (2 - (lg_sl ([.ref h0, .int p1])).length) Slot.unset).toArray = ls at hl ⊢
  have hl : lv_has ls 2 [(0, .ref h0), (1, .int p1)] := hl
  refine lv_iload_n hx hb dX11_count_0 rfl (lv_at hl 1 rfl) ?_
  rcases gz_sw p1 10 (Nat.le_of_ble_eq_true rfl) with hj_2 | ⟨j_2, hj_2, ej_2⟩
  · refine lv_tableOut (tgt := 148) hx hb dX11_count_1 hj_2 (by decide) ?_
    refine lv_iconst (v := (-1)) hx hb dX11_count_148 (by decide) ?_
    exact W.iret (v := (-1)) hx hb hr (fun t ht hW => ⟨⟨(-1), (), rfl, (gi_any (-1)), trivial⟩, hS.F ht⟩) hS.2.2 dX11_count_149
  · rcases (show j_2 = 0 ∨ j_2 = 1 ∨ j_2 = 2 ∨ j_2 = 3 ∨ j_2 = 4 ∨ j_2 = 5 ∨ j_2 = 6 ∨ j_2 = 7 ∨ j_2 = 8 ∨ j_2 = 9 ∨ j_2 = 10 by omega) with rfl | rfl | rfl | rfl | rfl | rfl | rfl | rfl | rfl | rfl | rfl
    · refine lv_tableIn (off := 59) (tgt := 60) hx hb dX11_count_1 (by rw [ej_2]; decide +kernel) (by rw [ej_2]; decide +kernel) (by rw [ej_2]; decide +kernel) (by decide) ?_
      refine lv_aload_n hx hb dX11_count_60 rfl (lv_at hl 0 rfl) ?_
      refine va_get (D := (dC, dI)) (ci := 11) (v := .ref am) (C := RX11) (T := TX11) (N := 16) hx hb hts (fun w h => List.mem_cons_of_mem _ (jnGA_X11 w h)) hown hK hP 0 rfl rfl 1 (by decide) (hts _ (List.mem_cons_of_mem _ mGA_14)) (fun _ h9 => h9) rfl dX11_count_61 ?_
      refine va_get (D := (dC, dI)) (ci := 0) (v := .int amonths) (C := RX0) (T := TX0) (N := 13) hx hb hts (fun w h => List.mem_cons_of_mem _ (jnGA_X0 w h)) hown hK hP 1 rfl rfl 0 (by decide) (hts _ (List.mem_cons_of_mem _ mGA_353)) (fun _ h9 => h9) rfl dX11_count_64 ?_
      exact W.iret (v := amonths) hx hb hr (fun t ht hW => ⟨⟨amonths, (), rfl, (gi_any amonths), trivial⟩, hS.F ht⟩) hS.2.2 dX11_count_67
    · refine lv_tableIn (off := 67) (tgt := 68) hx hb dX11_count_1 (by rw [ej_2]; decide +kernel) (by rw [ej_2]; decide +kernel) (by rw [ej_2]; decide +kernel) (by decide) ?_
      refine lv_aload_n hx hb dX11_count_68 rfl (lv_at hl 0 rfl) ?_
      refine va_get (D := (dC, dI)) (ci := 11) (v := .ref am) (C := RX11) (T := TX11) (N := 16) hx hb hts (fun w h => List.mem_cons_of_mem _ (jnGA_X11 w h)) hown hK hP 0 rfl rfl 1 (by decide) (hts _ (List.mem_cons_of_mem _ mGA_14)) (fun _ h9 => h9) rfl dX11_count_69 ?_
      refine va_get (D := (dC, dI)) (ci := 0) (v := .int afull) (C := RX0) (T := TX0) (N := 13) hx hb hts (fun w h => List.mem_cons_of_mem _ (jnGA_X0 w h)) hown hK hP 1 rfl rfl 1 (by decide) (hts _ (List.mem_cons_of_mem _ mGA_354)) (fun _ h9 => h9) rfl dX11_count_72 ?_
      exact W.iret (v := afull) hx hb hr (fun t ht hW => ⟨⟨afull, (), rfl, (gi_any afull), trivial⟩, hS.F ht⟩) hS.2.2 dX11_count_75
    · refine lv_tableIn (off := 75) (tgt := 76) hx hb dX11_count_1 (by rw [ej_2]; decide +kernel) (by rw [ej_2]; decide +kernel) (by rw [ej_2]; decide +kernel) (by decide) ?_
      refine lv_aload_n hx hb dX11_count_76 rfl (lv_at hl 0 rfl) ?_
      refine va_get (D := (dC, dI)) (ci := 11) (v := .ref am) (C := RX11) (T := TX11) (N := 16) hx hb hts (fun w h => List.mem_cons_of_mem _ (jnGA_X11 w h)) hown hK hP 0 rfl rfl 1 (by decide) (hts _ (List.mem_cons_of_mem _ mGA_14)) (fun _ h9 => h9) rfl dX11_count_77 ?_
      refine va_get (D := (dC, dI)) (ci := 0) (v := .int alean) (C := RX0) (T := TX0) (N := 13) hx hb hts (fun w h => List.mem_cons_of_mem _ (jnGA_X0 w h)) hown hK hP 1 rfl rfl 2 (by decide) (hts _ (List.mem_cons_of_mem _ mGA_355)) (fun _ h9 => h9) rfl dX11_count_80 ?_
      exact W.iret (v := alean) hx hb hr (fun t ht hW => ⟨⟨alean, (), rfl, (gi_any alean), trivial⟩, hS.F ht⟩) hS.2.2 dX11_count_83
    · refine lv_tableIn (off := 83) (tgt := 84) hx hb dX11_count_1 (by rw [ej_2]; decide +kernel) (by rw [ej_2]; decide +kernel) (by rw [ej_2]; decide +kernel) (by decide) ?_
      refine lv_aload_n hx hb dX11_count_84 rfl (lv_at hl 0 rfl) ?_
      refine va_get (D := (dC, dI)) (ci := 11) (v := .ref am) (C := RX11) (T := TX11) (N := 16) hx hb hts (fun w h => List.mem_cons_of_mem _ (jnGA_X11 w h)) hown hK hP 0 rfl rfl 1 (by decide) (hts _ (List.mem_cons_of_mem _ mGA_14)) (fun _ h9 => h9) rfl dX11_count_85 ?_
      refine va_get (D := (dC, dI)) (ci := 0) (v := .int aplaceCount) (C := RX0) (T := TX0) (N := 13) hx hb hts (fun w h => List.mem_cons_of_mem _ (jnGA_X0 w h)) hown hK hP 1 rfl rfl 7 (by decide) (hts _ (List.mem_cons_of_mem _ mGA_356)) (fun _ h9 => h9) rfl dX11_count_88 ?_
      exact W.iret (v := aplaceCount) hx hb hr (fun t ht hW => ⟨⟨aplaceCount, (), rfl, (gi_any aplaceCount), trivial⟩, hS.F ht⟩) hS.2.2 dX11_count_91
    · refine lv_tableIn (off := 91) (tgt := 92) hx hb dX11_count_1 (by rw [ej_2]; decide +kernel) (by rw [ej_2]; decide +kernel) (by rw [ej_2]; decide +kernel) (by decide) ?_
      refine lv_aload_n hx hb dX11_count_92 rfl (lv_at hl 0 rfl) ?_
      refine va_get (D := (dC, dI)) (ci := 11) (v := .ref am) (C := RX11) (T := TX11) (N := 16) hx hb hts (fun w h => List.mem_cons_of_mem _ (jnGA_X11 w h)) hown hK hP 0 rfl rfl 1 (by decide) (hts _ (List.mem_cons_of_mem _ mGA_14)) (fun _ h9 => h9) rfl dX11_count_93 ?_
      refine va_get (D := (dC, dI)) (ci := 0) (v := .int areportCount) (C := RX0) (T := TX0) (N := 13) hx hb hts (fun w h => List.mem_cons_of_mem _ (jnGA_X0 w h)) hown hK hP 1 rfl rfl 8 (by decide) (hts _ (List.mem_cons_of_mem _ mGA_357)) (fun _ h9 => h9) rfl dX11_count_96 ?_
      exact W.iret (v := areportCount) hx hb hr (fun t ht hW => ⟨⟨areportCount, (), rfl, (gi_any areportCount), trivial⟩, hS.F ht⟩) hS.2.2 dX11_count_99
    · refine lv_tableIn (off := 99) (tgt := 100) hx hb dX11_count_1 (by rw [ej_2]; decide +kernel) (by rw [ej_2]; decide +kernel) (by rw [ej_2]; decide +kernel) (by decide) ?_
      refine lv_aload_n hx hb dX11_count_100 rfl (lv_at hl 0 rfl) ?_
      refine va_get (D := (dC, dI)) (ci := 11) (v := .ref am) (C := RX11) (T := TX11) (N := 16) hx hb hts (fun w h => List.mem_cons_of_mem _ (jnGA_X11 w h)) hown hK hP 0 rfl rfl 1 (by decide) (hts _ (List.mem_cons_of_mem _ mGA_14)) (fun _ h9 => h9) rfl dX11_count_101 ?_
      refine va_get (D := (dC, dI)) (ci := 0) (v := .int adeedCount) (C := RX0) (T := TX0) (N := 13) hx hb hts (fun w h => List.mem_cons_of_mem _ (jnGA_X0 w h)) hown hK hP 1 rfl rfl 9 (by decide) (hts _ (List.mem_cons_of_mem _ mGA_358)) (fun _ h9 => h9) rfl dX11_count_104 ?_
      exact W.iret (v := adeedCount) hx hb hr (fun t ht hW => ⟨⟨adeedCount, (), rfl, (gi_any adeedCount), trivial⟩, hS.F ht⟩) hS.2.2 dX11_count_107
    · refine lv_tableIn (off := 107) (tgt := 108) hx hb dX11_count_1 (by rw [ej_2]; decide +kernel) (by rw [ej_2]; decide +kernel) (by rw [ej_2]; decide +kernel) (by decide) ?_
      refine lv_aload_n hx hb dX11_count_108 rfl (lv_at hl 0 rfl) ?_
      refine va_get (D := (dC, dI)) (ci := 11) (v := .ref am) (C := RX11) (T := TX11) (N := 16) hx hb hts (fun w h => List.mem_cons_of_mem _ (jnGA_X11 w h)) hown hK hP 0 rfl rfl 1 (by decide) (hts _ (List.mem_cons_of_mem _ mGA_14)) (fun _ h9 => h9) rfl dX11_count_109 ?_
      refine va_get (D := (dC, dI)) (ci := 0) (v := .int alines) (C := RX0) (T := TX0) (N := 13) hx hb hts (fun w h => List.mem_cons_of_mem _ (jnGA_X0 w h)) hown hK hP 1 rfl rfl 3 (by decide) (hts _ (List.mem_cons_of_mem _ mGA_143)) (fun _ h9 => h9) rfl dX11_count_112 ?_
      exact W.iret (v := alines) hx hb hr (fun t ht hW => ⟨⟨alines, (), rfl, (gi_any alines), trivial⟩, hS.F ht⟩) hS.2.2 dX11_count_115
    · refine lv_tableIn (off := 115) (tgt := 116) hx hb dX11_count_1 (by rw [ej_2]; decide +kernel) (by rw [ej_2]; decide +kernel) (by rw [ej_2]; decide +kernel) (by decide) ?_
      refine lv_aload_n hx hb dX11_count_116 rfl (lv_at hl 0 rfl) ?_
      refine va_get (D := (dC, dI)) (ci := 11) (v := .ref xr) (C := RX11) (T := TX11) (N := 16) hx hb hts (fun w h => List.mem_cons_of_mem _ (jnGA_X11 w h)) hown hK hP 0 rfl rfl 0 (by decide) (hts _ (List.mem_cons_of_mem _ mGA_10)) (fun _ h9 => h9) rfl dX11_count_117 ?_
      refine va_get (D := (dC, dI)) (ci := 6) (v := .ref tp) (C := RX6) (T := TX6) (N := 7) hx hb hts (fun w h => List.mem_cons_of_mem _ (jnGA_X6 w h)) hown hK hP 2 rfl rfl 0 (by decide) (hts _ (List.mem_cons_of_mem _ mGA_129)) (fun _ h9 => h9) rfl dX11_count_120 ?_
      refine va_get (D := (dC, dI)) (ci := 10) (v := .int b_length) (C := RX10) (T := TX10) (N := 2) hx hb hts (fun w h => List.mem_cons_of_mem _ (jnGA_X10 w h)) hown hK hP 3 rfl rfl 1 (by decide) (hts _ (List.mem_cons_of_mem _ mGA_130)) (fun _ h9 => h9) rfl dX11_count_123 ?_
      exact W.iret (v := b_length) hx hb hr (fun t ht hW => ⟨⟨b_length, (), rfl, (gi_any b_length), trivial⟩, hS.F ht⟩) hS.2.2 dX11_count_126
    · refine lv_tableIn (off := 126) (tgt := 127) hx hb dX11_count_1 (by rw [ej_2]; decide +kernel) (by rw [ej_2]; decide +kernel) (by rw [ej_2]; decide +kernel) (by decide) ?_
      refine lv_aload_n hx hb dX11_count_127 rfl (lv_at hl 0 rfl) ?_
      refine va_get (D := (dC, dI)) (ci := 11) (v := .int x_outLength) (C := RX11) (T := TX11) (N := 16) hx hb hts (fun w h => List.mem_cons_of_mem _ (jnGA_X11 w h)) hown hK hP 0 rfl rfl 11 (by decide) (hts _ (List.mem_cons_of_mem _ mGA_41)) (fun _ h9 => h9) rfl dX11_count_128 ?_
      exact W.iret (v := x_outLength) hx hb hr (fun t ht hW => ⟨⟨x_outLength, (), rfl, (gi_any x_outLength), trivial⟩, hS.F ht⟩) hS.2.2 dX11_count_131
    · refine lv_tableIn (off := 131) (tgt := 132) hx hb dX11_count_1 (by rw [ej_2]; decide +kernel) (by rw [ej_2]; decide +kernel) (by rw [ej_2]; decide +kernel) (by decide) ?_
      refine lv_aload_n hx hb dX11_count_132 rfl (lv_at hl 0 rfl) ?_
      refine va_get (D := (dC, dI)) (ci := 11) (v := .ref am) (C := RX11) (T := TX11) (N := 16) hx hb hts (fun w h => List.mem_cons_of_mem _ (jnGA_X11 w h)) hown hK hP 0 rfl rfl 1 (by decide) (hts _ (List.mem_cons_of_mem _ mGA_14)) (fun _ h9 => h9) rfl dX11_count_133 ?_
      refine va_get (D := (dC, dI)) (ci := 0) (v := .int amoonStart) (C := RX0) (T := TX0) (N := 13) hx hb hts (fun w h => List.mem_cons_of_mem _ (jnGA_X0 w h)) hown hK hP 1 rfl rfl 5 (by decide) (hts _ (List.mem_cons_of_mem _ mGA_359)) (fun _ h9 => h9) rfl dX11_count_136 ?_
      exact W.iret (v := amoonStart) hx hb hr (fun t ht hW => ⟨⟨amoonStart, (), rfl, (gi_any amoonStart), trivial⟩, hS.F ht⟩) hS.2.2 dX11_count_139
    · refine lv_tableIn (off := 139) (tgt := 140) hx hb dX11_count_1 (by rw [ej_2]; decide +kernel) (by rw [ej_2]; decide +kernel) (by rw [ej_2]; decide +kernel) (by decide) ?_
      refine lv_aload_n hx hb dX11_count_140 rfl (lv_at hl 0 rfl) ?_
      refine va_get (D := (dC, dI)) (ci := 11) (v := .ref am) (C := RX11) (T := TX11) (N := 16) hx hb hts (fun w h => List.mem_cons_of_mem _ (jnGA_X11 w h)) hown hK hP 0 rfl rfl 1 (by decide) (hts _ (List.mem_cons_of_mem _ mGA_14)) (fun _ h9 => h9) rfl dX11_count_141 ?_
      refine va_get (D := (dC, dI)) (ci := 0) (v := .int amoonStep) (C := RX0) (T := TX0) (N := 13) hx hb hts (fun w h => List.mem_cons_of_mem _ (jnGA_X0 w h)) hown hK hP 1 rfl rfl 6 (by decide) (hts _ (List.mem_cons_of_mem _ mGA_360)) (fun _ h9 => h9) rfl dX11_count_144 ?_
      exact W.iret (v := amoonStep) hx hb hr (fun t ht hW => ⟨⟨amoonStep, (), rfl, (gi_any amoonStep), trivial⟩, hS.F ht⟩) hS.2.2 dX11_count_147
