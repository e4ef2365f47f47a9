abbrev MW (hm : Nat) (mi : Nat → Int32) (mr : Nat → Nat) (km : Nat → ClassId) (fm : Nat → Nat → Int32) : va_W := [(hm, .inr (12, fsMM mi mr)), ((mr 0), .inl ((km 0), 6, .inl (fm 0))), ((mr 1), .inl ((km 1), 36, .inl (fm 1))), ((mr 2), .inl ((km 2), 24, .inl (fm 2))), ((mr 3), .inl ((km 3), 24, .inl (fm 3))), ((mr 4), .inl ((km 4), 24, .inl (fm 4))), ((mr 5), .inl ((km 5), 24, .inl (fm 5))), ((mr 6), .inl ((km 6), 24, .inl (fm 6))), ((mr 7), .inl ((km 7), 24, .inl (fm 7))), ((mr 8), .inl ((km 8), 8, .inl (fm 8))), ((mr 9), .inl ((km 9), 8, .inl (fm 9))), ((mr 10), .inl ((km 10), 8, .inl (fm 10))), ((mr 11), .inl ((km 11), 8, .inl (fm 11))), ((mr 12), .inl ((km 12), 300, .inl (fm 12))), ((mr 13), .inl ((km 13), 1600, .inl (fm 13))), ((mr 14), .inl ((km 14), 25, .inl (fm 14))), ((mr 15), .inl ((km 15), 25, .inl (fm 15))), ((mr 16), .inl ((km 16), 25, .inl (fm 16))), ((mr 17), .inl ((km 17), 6875, .inl (fm 17))), ((mr 18), .inl ((km 18), 24, .inl (fm 18))), ((mr 19), .inl ((km 19), 24, .inl (fm 19))), ((mr 20), .inl ((km 20), 25, .inl (fm 20))), ((mr 21), .inl ((km 21), 25, .inl (fm 21))), ((mr 22), .inl ((km 22), 6875, .inl (fm 22))), ((mr 23), .inl ((km 23), 80, .inl (fm 23)))]
abbrev MT (km : Nat → ClassId) : List (ClassId × FieldType) := [(km 0, .int), (km 1, .int), (km 2, .int), (km 3, .int), (km 4, .boolean), (km 5, .int), (km 6, .int), (km 7, .int), (km 8, .int), (km 9, .int), (km 10, .int), (km 11, .int), (km 12, .int), (km 13, .int), (km 14, .int), (km 15, .int), (km 16, .int), (km 17, .int), (km 18, .int), (km 19, .int), (km 20, .int), (km 21, .int), (km 22, .int), (km 23, .int)]
def MI (mi : Nat → Int32) (fm : Nat → Nat → Int32) : Prop := gi (mi 0) 0 24 ∧ gi (mi 1) 0 5 ∧ gi (mi 2) 0 5 ∧ gi (mi 4) 0 1 ∧ gi (mi 7) 0 6 ∧ gi (mi 10) 0 24 ∧ gi (mi 17) 0 8 ∧ gi (mi 23) 0 300 ∧ gi (mi 24) 0 1 ∧ gi (mi 26) 0 1600 ∧ gi (mi 29) 0 1600 ∧ gi (mi 30) 0 1600 ∧ gi (mi 32) 0 100000 ∧ gi (mi 33) 0 1 ∧ gi (mi 37) 0 1 ∧ gi (mi 41) 0 24 ∧ gi (mi 50) 0 1 ∧ gi (mi 51) 0 1 ∧ gi (mi 56) 0 80 ∧ ga (fm 2) 24 0 5 ∧ ga (fm 4) 24 0 1 ∧ ga (fm 5) 24 0 23 ∧ ga (fm 6) 24 0 999 ∧ ga (fm 7) 24 0 999 ∧ ga (fm 8) 8 0 23 ∧ ga (fm 10) 8 0 600 ∧ ga (fm 19) 24 0 23 ∧ (∀ j : Nat, j < 8 → ((fm 11 j).toInt ≠ 0 ∨ (fm 8 j).toInt + (fm 10 j).toInt ≤ 23)) ∧ ((mi 3).toInt = 0 ∨ (2 ≤ (mi 0).toInt ∧ (mi 0).toInt ≤ 24 ∧ 1 ≤ (mi 1).toInt ∧ (mi 1).toInt ≤ 5 ∧ 1 ≤ (mi 2).toInt ∧ (mi 2).toInt ≤ 5))
def MB (dC : Nat → ClassId) (dI : Nat → Nat → Nat) (hm : Nat) (mi : Nat → Int32) (mr : Nat → Nat) (km : Nat → ClassId) (fm : Nat → Nat → Int32) (sz : Nat) (rel : (Nat → Int32) → (Nat → Nat → Int32) → Prop) (t : State) : Prop := ∃ (mi2 : Nat → Int32) (fm2 : Nat → Nat → Int32), MI mi2 fm2 ∧ rel mi2 fm2 ∧ va_P (dC, dI) vwCl (MW hm mi2 mr km fm2) t.heap ∧ va_D (va_A (MW hm mi mr km fm) sz) (MW hm mi2 mr km fm2)
theorem dX12_fault_0 : decode cX12_fault 0 = .ok (.iload_n 1, 1) := by decide +kernel
theorem dX12_fault_1 : decode cX12_fault 1 = .ok (.ifCond .ne 10, 3) := by decide +kernel
theorem dX12_fault_4 : decode cX12_fault 4 = .ok (.aload_n 0, 1) := by decide +kernel
theorem dX12_fault_5 : decode cX12_fault 5 = .ok (.getfield 177, 3) := by decide +kernel
theorem dX12_fault_8 : decode cX12_fault 8 = .ok (.goto 16, 3) := by decide +kernel
theorem dX12_fault_11 : decode cX12_fault 11 = .ok (.iload_n 1, 1) := by decide +kernel
theorem dX12_fault_12 : decode cX12_fault 12 = .ok (.iconst 1, 1) := by decide +kernel
theorem dX12_fault_13 : decode cX12_fault 13 = .ok (.if_icmp .ne 10, 3) := by decide +kernel
theorem dX12_fault_16 : decode cX12_fault 16 = .ok (.aload_n 0, 1) := by decide +kernel
theorem dX12_fault_17 : decode cX12_fault 17 = .ok (.getfield 53, 3) := by decide +kernel
theorem dX12_fault_20 : decode cX12_fault 20 = .ok (.goto 4, 3) := by decide +kernel
theorem dX12_fault_23 : decode cX12_fault 23 = .ok (.iconst (-1), 1) := by decide +kernel
theorem dX12_fault_24 : decode cX12_fault 24 = .ok (.ireturn, 1) := by decide +kernel
noncomputable def bfX12_fault_24 (mi : Nat → Int32) (p1 : Int32) (s0 : Int32) : Int32 := s0
noncomputable def fX12_fault (mi : Nat → Int32) (p1 : Int32) : Int32 := if p1 = (0 : Int32) then (bfX12_fault_24 mi p1 (mi 27)) else (if p1 = (1 : Int32) then (bfX12_fault_24 mi p1 (mi 28)) else (bfX12_fault_24 mi p1 (-1 : Int32)))
set_option maxHeartbeats 4000000 in
set_option maxRecDepth 100000 in
theorem sX12_fault (l : Launch) (dC : Nat → ClassId) (dI : Nat → Nat → Nat) (h0 : Nat) (mi : Nat → Int32) (mr : Nat → Nat) (p1 : Int32) (gmi_0 : gi (mi 0) 0 24) (gmi_1 : gi (mi 1) 0 5) (gmi_2 : gi (mi 2) 0 5) (gmi_4 : gi (mi 4) 0 1) (gmi_7 : gi (mi 7) 0 6) (gmi_10 : gi (mi 10) 0 24) (gmi_17 : gi (mi 17) 0 8) (gmi_23 : gi (mi 23) 0 300) (gmi_24 : gi (mi 24) 0 1) (gmi_26 : gi (mi 26) 0 1600) (gmi_29 : gi (mi 29) 0 1600) (gmi_30 : gi (mi 30) 0 1600) (gmi_33 : gi (mi 33) 0 1) (gmi_37 : gi (mi 37) 0 1) (gmi_41 : gi (mi 41) 0 24) (gmi_50 : gi (mi 50) 0 1) (gmi_51 : gi (mi 51) 0 1) (gmi_56 : gi (mi 56) 0 80) : Met l yX12_fault (.code yX12_fault cX12_fault 2 (some .int) :: wsGB) ({ frames := 0, cells := 0, slots := 0, locals := 0 }) (va_Pc [.ref h0, .int p1] (fun U => va_P (dC, dI) vwCl [(h0, .inr (12, fsMM mi mr))] U.heap ∧ va_K (dC, dI) vwCl [] U)) (va_Qi (fun (r : Int32) (u : Unit) => (gi r (-2147483648) 2147483647) ∧ r = fX12_fault mi p1) (fun _ _ => True) (fun _ => False)) 0 0 (fun _ => False) := by
  refine Met.ofW (cc := cX12_fault) (maxL := 2) (ret := (some .int)) (by decide) rfl ?_
  intro p e s m args below meth c s₁ B hml hv
  obtain ⟨rfl, hP, hK⟩ := hv
  have hx := B.exec
  have hb := B.bytes
  have hr := B.returns
  have hts := atoms_spec (ws := (.code yX12_fault cX12_fault 2 (some .int) :: wsGB)) B.pre
  have hown : s.vm.findClass RX12 = some m.cls := findClass_of_methodNamed B.named
  have hlocks := B.notSynchronized
  have hS : va_S (fun _ => False) s.heap s.heap [] := va_S.rf
  have hl := lv_entry ([.ref h0, .int p1]) (n := 2) (Nat.le_of_ble_eq_true rfl)
  rw [lg_entry_eq]
  generalize (lg_sl ([.ref h0, .int p1]) ++ List.replicate (2 - (lg_sl ([.ref h0, .int p1])).length) Slot.unset).toArray = ls at hl ⊢
  have hl : lv_has ls 2 [(0, .ref h0), (1, .int p1)] := hl
  obtain ⟨RES, hF⟩ : ∃ R9, fX12_fault mi p1 = R9 := ⟨_, rfl⟩
  have hR9 := hF
  refine lv_iload_n hx hb dX12_fault_0 rfl (lv_at hl 1 rfl) ?_
  refine lv_if_ne (tgt := 11) hx hb dX12_fault_1 (by decide) (fun c_5 => ?_) (fun c_5 => ?_)
  · have hF := gf_neg c_5 hF
    refine lv_iload_n hx hb dX12_fault_11 rfl (lv_at hl 1 rfl) ?_
    refine lv_iconst (v := 1) hx hb dX12_fault_12 (by decide) ?_
    refine lv_icmp_ne (tgt := 23) hx hb dX12_fault_13 (by decide) (fun c_6 => ?_) (fun c_6 => ?_)
    · have hF := gf_neg c_6 hF
      refine lv_iconst (v := (-1)) hx hb dX12_fault_23 (by decide) ?_
      exact W.iret (v := (-1)) hx hb hr (fun t ht hW => ⟨⟨(-1), (), rfl, ⟨(gi_any (-1)), hF.trans hR9.symm⟩, trivial⟩, hS.F ht⟩) hS.2.2 dX12_fault_24
    · have hF := gf_pos c_6 hF
      have g_7 : gi p1 1 1 := gi_eq c_6 (gi_c 1 1 (by decide))
      refine lv_aload_n hx hb dX12_fault_16 rfl (lv_at hl 0 rfl) ?_
      refine va_get (D := (dC, dI)) (ci := 12) (v := .int (mi 28)) (C := RX12) (T := TX12) (N := 57) hx hb hts (fun w h => List.mem_cons_of_mem _ (jnGB_X12 w h)) hown hK hP 0 rfl rfl 28 (by decide) (hts _ (List.mem_cons_of_mem _ mGB_25)) (fun _ h9 => h9) rfl dX12_fault_17 ?_
      refine lv_goto (tgt := 24) hx hb dX12_fault_20 (by decide) ?_
      exact W.iret (v := (mi 28)) hx hb hr (fun t ht hW => ⟨⟨(mi 28), (), rfl, ⟨(gi_any (mi 28)), hF.trans hR9.symm⟩, trivial⟩, hS.F ht⟩) hS.2.2 dX12_fault_24
  · have hF := gf_pos c_5 hF
    have g_8 : gi p1 0 0 := gi_eq c_5 (gi_c 0 0 (by decide))
    refine lv_aload_n hx hb dX12_fault_4 rfl (lv_at hl 0 rfl) ?_
    refine va_get (D := (dC, dI)) (ci := 12) (v := .int (mi 27)) (C := RX12) (T := TX12) (N := 57) hx hb hts (fun w h => List.mem_cons_of_mem _ (jnGB_X12 w h)) hown hK hP 0 rfl rfl 27 (by decide) (hts _ (List.mem_cons_of_mem _ mGB_115)) (fun _ h9 => h9) rfl dX12_fault_5 ?_
    refine lv_goto (tgt := 24) hx hb dX12_fault_8 (by decide) ?_
    exact W.iret (v := (mi 27)) hx hb hr (fun t ht hW => ⟨⟨(mi 27), (), rfl, ⟨(gi_any (mi 27)), hF.trans hR9.symm⟩, trivial⟩, hS.F ht⟩) hS.2.2 dX12_fault_24
theorem dX12_count_0 : decode cX12_count 0 = .ok (.iload_n 1, 1) := by decide +kernel
theorem dX12_count_1 : decode cX12_count 1 = .ok (.tableswitch 114 0 10 #[59, 64, 69, 74, 79, 84, 89, 94, 99, 104, 109], 59) := by decide +kernel
theorem dX12_count_60 : decode cX12_count 60 = .ok (.aload_n 0, 1) := by decide +kernel
theorem dX12_count_61 : decode cX12_count 61 = .ok (.getfield 117, 3) := by decide +kernel
theorem dX12_count_64 : decode cX12_count 64 = .ok (.ireturn, 1) := by decide +kernel
theorem dX12_count_65 : decode cX12_count 65 = .ok (.aload_n 0, 1) := by decide +kernel
theorem dX12_count_66 : decode cX12_count 66 = .ok (.getfield 120, 3) := by decide +kernel
theorem dX12_count_69 : decode cX12_count 69 = .ok (.ireturn, 1) := by decide +kernel
theorem dX12_count_70 : decode cX12_count 70 = .ok (.aload_n 0, 1) := by decide +kernel
theorem dX12_count_71 : decode cX12_count 71 = .ok (.getfield 123, 3) := by decide +kernel
theorem dX12_count_74 : decode cX12_count 74 = .ok (.ireturn, 1) := by decide +kernel
theorem dX12_count_75 : decode cX12_count 75 = .ok (.aload_n 0, 1) := by decide +kernel
theorem dX12_count_76 : decode cX12_count 76 = .ok (.getfield 138, 3) := by decide +kernel
theorem dX12_count_79 : decode cX12_count 79 = .ok (.ireturn, 1) := by decide +kernel
theorem dX12_count_80 : decode cX12_count 80 = .ok (.aload_n 0, 1) := by decide +kernel
theorem dX12_count_81 : decode cX12_count 81 = .ok (.getfield 141, 3) := by decide +kernel
theorem dX12_count_84 : decode cX12_count 84 = .ok (.ireturn, 1) := by decide +kernel
theorem dX12_count_85 : decode cX12_count 85 = .ok (.aload_n 0, 1) := by decide +kernel
theorem dX12_count_86 : decode cX12_count 86 = .ok (.getfield 144, 3) := by decide +kernel
theorem dX12_count_89 : decode cX12_count 89 = .ok (.ireturn, 1) := by decide +kernel
theorem dX12_count_90 : decode cX12_count 90 = .ok (.aload_n 0, 1) := by decide +kernel
theorem dX12_count_91 : decode cX12_count 91 = .ok (.getfield 126, 3) := by decide +kernel
theorem dX12_count_94 : decode cX12_count 94 = .ok (.ireturn, 1) := by decide +kernel
theorem dX12_count_95 : decode cX12_count 95 = .ok (.aload_n 0, 1) := by decide +kernel
theorem dX12_count_96 : decode cX12_count 96 = .ok (.getfield 99, 3) := by decide +kernel
theorem dX12_count_99 : decode cX12_count 99 = .ok (.ireturn, 1) := by decide +kernel
theorem dX12_count_100 : decode cX12_count 100 = .ok (.aload_n 0, 1) := by decide +kernel
theorem dX12_count_101 : decode cX12_count 101 = .ok (.getfield 289, 3) := by decide +kernel
theorem dX12_count_104 : decode cX12_count 104 = .ok (.ireturn, 1) := by decide +kernel
theorem dX12_count_105 : decode cX12_count 105 = .ok (.aload_n 0, 1) := by decide +kernel
theorem dX12_count_106 : decode cX12_count 106 = .ok (.getfield 132, 3) := by decide +kernel
theorem dX12_count_109 : decode cX12_count 109 = .ok (.ireturn, 1) := by decide +kernel
theorem dX12_count_110 : decode cX12_count 110 = .ok (.aload_n 0, 1) := by decide +kernel
theorem dX12_count_111 : decode cX12_count 111 = .ok (.getfield 135, 3) := by decide +kernel
theorem dX12_count_114 : decode cX12_count 114 = .ok (.ireturn, 1) := by decide +kernel
theorem dX12_count_115 : decode cX12_count 115 = .ok (.iconst (-1), 1) := by decide +kernel
theorem dX12_count_116 : decode cX12_count 116 = .ok (.ireturn, 1) := by decide +kernel
set_option maxHeartbeats 4000000 in
set_option maxRecDepth 100000 in
theorem sX12_count (l : Launch) (dC : Nat → ClassId) (dI : Nat → Nat → Nat) (h0 : Nat) (mi : Nat → Int32) (mr : Nat → Nat) (p1 : Int32) (gmi_0 : gi (mi 0) 0 24) (gmi_1 : gi (mi 1) 0 5) (gmi_2 : gi (mi 2) 0 5) (gmi_4 : gi (mi 4) 0 1) (gmi_7 : gi (mi 7) 0 6) (gmi_10 : gi (mi 10) 0 24) (gmi_17 : gi (mi 17) 0 8) (gmi_23 : gi (mi 23) 0 300) (gmi_24 : gi (mi 24) 0 1) (gmi_26 : gi (mi 26) 0 1600) (gmi_29 : gi (mi 29) 0 1600) (gmi_30 : gi (mi 30) 0 1600) (gmi_33 : gi (mi 33) 0 1) (gmi_37 : gi (mi 37) 0 1) (gmi_41 : gi (mi 41) 0 24) (gmi_50 : gi (mi 50) 0 1) (gmi_51 : gi (mi 51) 0 1) (gmi_56 : gi (mi 56) 0 80) : Met l yX12_count (.code yX12_count cX12_count 2 (some .int) :: wsGB) ({ frames := 0, cells := 0, slots := 0, locals := 0 }) (va_Pc [.ref h0, .int p1] (fun U => va_P (dC, dI) vwCl [(h0, .inr (12, fsMM mi mr))] U.heap ∧ va_K (dC, dI) vwCl [] U)) (va_Qi (fun (r : Int32) (u : Unit) => gi r (-2147483648) 2147483647) (fun _ _ => True) (fun _ => False)) 0 0 (fun _ => False) := by
  refine Met.ofW (cc := cX12_count) (maxL := 2) (ret := (some .int)) (by decide) rfl ?_
  intro p e s m args below meth c s₁ B hml hv
  obtain ⟨rfl, hP, hK⟩ := hv
  have hx := B.exec
  have hb := B.bytes
  have hr := B.returns
  have hts := atoms_spec (ws := (.code yX12_count cX12_count 2 (some .int) :: wsGB)) B.pre
  have hown : s.vm.findClass RX12 = some m.cls := findClass_of_methodNamed B.named
  have hlocks := B.notSynchronized
  have hS : va_S (fun _ => False) s.heap s.heap [] := va_S.rf
  have hl := lv_entry ([.ref h0, .int p1]) (n := 2) (Nat.le_of_ble_eq_true rfl)
  rw [lg_entry_eq]
  generalize (lg_sl ([.ref h0, .int p1]) ++ List.replicate (2 - (lg_sl ([.ref h0, .int p1])).length) Slot.unset).toArray = ls at hl ⊢
  have hl : lv_has ls 2 [(0, .ref h0), (1, .int p1)] := hl
  refine lv_iload_n hx hb dX12_count_0 rfl (lv_at hl 1 rfl) ?_
  rcases gz_sw p1 10 (Nat.le_of_ble_eq_true rfl) with hj_2 | ⟨j_2, hj_2, ej_2⟩
  · refine lv_tableOut (tgt := 115) hx hb dX12_count_1 hj_2 (by decide) ?_
    refine lv_iconst (v := (-1)) hx hb dX12_count_115 (by decide) ?_
    exact W.iret (v := (-1)) hx hb hr (fun t ht hW => ⟨⟨(-1), (), rfl, (gi_any (-1)), trivial⟩, hS.F ht⟩) hS.2.2 dX12_count_116
  · rcases (show j_2 = 0 ∨ j_2 = 1 ∨ j_2 = 2 ∨ j_2 = 3 ∨ j_2 = 4 ∨ j_2 = 5 ∨ j_2 = 6 ∨ j_2 = 7 ∨ j_2 = 8 ∨ j_2 = 9 ∨ j_2 = 10 by omega) with rfl | rfl | rfl | rfl | rfl | rfl | rfl | rfl | rfl | rfl | rfl
    · refine lv_tableIn (off := 59) (tgt := 60) hx hb dX12_count_1 (by rw [ej_2]; decide +kernel) (by rw [ej_2]; decide +kernel) (by rw [ej_2]; decide +kernel) (by decide) ?_
      refine lv_aload_n hx hb dX12_count_60 rfl (lv_at hl 0 rfl) ?_
      refine va_get (D := (dC, dI)) (ci := 12) (v := .int (mi 0)) (C := RX12) (T := TX12) (N := 57) hx hb hts (fun w h => List.mem_cons_of_mem _ (jnGB_X12 w h)) hown hK hP 0 rfl rfl 0 (by decide) (hts _ (List.mem_cons_of_mem _ mGB_103)) (fun _ h9 => h9) rfl dX12_count_61 ?_
      exact W.iret (v := (mi 0)) hx hb hr (fun t ht hW => ⟨⟨(mi 0), (), rfl, (gi_any (mi 0)), trivial⟩, hS.F ht⟩) hS.2.2 dX12_count_64
    · refine lv_tableIn (off := 64) (tgt := 65) hx hb dX12_count_1 (by rw [ej_2]; decide +kernel) (by rw [ej_2]; decide +kernel) (by rw [ej_2]; decide +kernel) (by decide) ?_
      refine lv_aload_n hx hb dX12_count_65 rfl (lv_at hl 0 rfl) ?_
      refine va_get (D := (dC, dI)) (ci := 12) (v := .int (mi 1)) (C := RX12) (T := TX12) (N := 57) hx hb hts (fun w h => List.mem_cons_of_mem _ (jnGB_X12 w h)) hown hK hP 0 rfl rfl 1 (by decide) (hts _ (List.mem_cons_of_mem _ mGB_104)) (fun _ h9 => h9) rfl dX12_count_66 ?_
      exact W.iret (v := (mi 1)) hx hb hr (fun t ht hW => ⟨⟨(mi 1), (), rfl, (gi_any (mi 1)), trivial⟩, hS.F ht⟩) hS.2.2 dX12_count_69
    · refine lv_tableIn (off := 69) (tgt := 70) hx hb dX12_count_1 (by rw [ej_2]; decide +kernel) (by rw [ej_2]; decide +kernel) (by rw [ej_2]; decide +kernel) (by decide) ?_
      refine lv_aload_n hx hb dX12_count_70 rfl (lv_at hl 0 rfl) ?_
      refine va_get (D := (dC, dI)) (ci := 12) (v := .int (mi 2)) (C := RX12) (T := TX12) (N := 57) hx hb hts (fun w h => List.mem_cons_of_mem _ (jnGB_X12 w h)) hown hK hP 0 rfl rfl 2 (by decide) (hts _ (List.mem_cons_of_mem _ mGB_105)) (fun _ h9 => h9) rfl dX12_count_71 ?_
      exact W.iret (v := (mi 2)) hx hb hr (fun t ht hW => ⟨⟨(mi 2), (), rfl, (gi_any (mi 2)), trivial⟩, hS.F ht⟩) hS.2.2 dX12_count_74
    · refine lv_tableIn (off := 74) (tgt := 75) hx hb dX12_count_1 (by rw [ej_2]; decide +kernel) (by rw [ej_2]; decide +kernel) (by rw [ej_2]; decide +kernel) (by decide) ?_
      refine lv_aload_n hx hb dX12_count_75 rfl (lv_at hl 0 rfl) ?_
      refine va_get (D := (dC, dI)) (ci := 12) (v := .int (mi 7)) (C := RX12) (T := TX12) (N := 57) hx hb hts (fun w h => List.mem_cons_of_mem _ (jnGB_X12 w h)) hown hK hP 0 rfl rfl 7 (by decide) (hts _ (List.mem_cons_of_mem _ mGB_110)) (fun _ h9 => h9) rfl dX12_count_76 ?_
      exact W.iret (v := (mi 7)) hx hb hr (fun t ht hW => ⟨⟨(mi 7), (), rfl, (gi_any (mi 7)), trivial⟩, hS.F ht⟩) hS.2.2 dX12_count_79
    · refine lv_tableIn (off := 79) (tgt := 80) hx hb dX12_count_1 (by rw [ej_2]; decide +kernel) (by rw [ej_2]; decide +kernel) (by rw [ej_2]; decide +kernel) (by decide) ?_
      refine lv_aload_n hx hb dX12_count_80 rfl (lv_at hl 0 rfl) ?_
      refine va_get (D := (dC, dI)) (ci := 12) (v := .int (mi 10)) (C := RX12) (T := TX12) (N := 57) hx hb hts (fun w h => List.mem_cons_of_mem _ (jnGB_X12 w h)) hown hK hP 0 rfl rfl 10 (by decide) (hts _ (List.mem_cons_of_mem _ mGB_111)) (fun _ h9 => h9) rfl dX12_count_81 ?_
      exact W.iret (v := (mi 10)) hx hb hr (fun t ht hW => ⟨⟨(mi 10), (), rfl, (gi_any (mi 10)), trivial⟩, hS.F ht⟩) hS.2.2 dX12_count_84
    · refine lv_tableIn (off := 84) (tgt := 85) hx hb dX12_count_1 (by rw [ej_2]; decide +kernel) (by rw [ej_2]; decide +kernel) (by rw [ej_2]; decide +kernel) (by decide) ?_
      refine lv_aload_n hx hb dX12_count_85 rfl (lv_at hl 0 rfl) ?_
      refine va_get (D := (dC, dI)) (ci := 12) (v := .int (mi 17)) (C := RX12) (T := TX12) (N := 57) hx hb hts (fun w h => List.mem_cons_of_mem _ (jnGB_X12 w h)) hown hK hP 0 rfl rfl 17 (by decide) (hts _ (List.mem_cons_of_mem _ mGB_112)) (fun _ h9 => h9) rfl dX12_count_86 ?_
      exact W.iret (v := (mi 17)) hx hb hr (fun t ht hW => ⟨⟨(mi 17), (), rfl, (gi_any (mi 17)), trivial⟩, hS.F ht⟩) hS.2.2 dX12_count_89
    · refine lv_tableIn (off := 89) (tgt := 90) hx hb dX12_count_1 (by rw [ej_2]; decide +kernel) (by rw [ej_2]; decide +kernel) (by rw [ej_2]; decide +kernel) (by decide) ?_
      refine lv_aload_n hx hb dX12_count_90 rfl (lv_at hl 0 rfl) ?_
      refine va_get (D := (dC, dI)) (ci := 12) (v := .int (mi 3)) (C := RX12) (T := TX12) (N := 57) hx hb hts (fun w h => List.mem_cons_of_mem _ (jnGB_X12 w h)) hown hK hP 0 rfl rfl 3 (by decide) (hts _ (List.mem_cons_of_mem _ mGB_106)) (fun _ h9 => h9) rfl dX12_count_91 ?_
      exact W.iret (v := (mi 3)) hx hb hr (fun t ht hW => ⟨⟨(mi 3), (), rfl, (gi_any (mi 3)), trivial⟩, hS.F ht⟩) hS.2.2 dX12_count_94
    · refine lv_tableIn (off := 94) (tgt := 95) hx hb dX12_count_1 (by rw [ej_2]; decide +kernel) (by rw [ej_2]; decide +kernel) (by rw [ej_2]; decide +kernel) (by decide) ?_
      refine lv_aload_n hx hb dX12_count_95 rfl (lv_at hl 0 rfl) ?_
      refine va_get (D := (dC, dI)) (ci := 12) (v := .int (mi 26)) (C := RX12) (T := TX12) (N := 57) hx hb hts (fun w h => List.mem_cons_of_mem _ (jnGB_X12 w h)) hown hK hP 0 rfl rfl 26 (by decide) (hts _ (List.mem_cons_of_mem _ mGB_43)) (fun _ h9 => h9) rfl dX12_count_96 ?_
      exact W.iret (v := (mi 26)) hx hb hr (fun t ht hW => ⟨⟨(mi 26), (), rfl, (gi_any (mi 26)), trivial⟩, hS.F ht⟩) hS.2.2 dX12_count_99
    · refine lv_tableIn (off := 99) (tgt := 100) hx hb dX12_count_1 (by rw [ej_2]; decide +kernel) (by rw [ej_2]; decide +kernel) (by rw [ej_2]; decide +kernel) (by decide) ?_
      refine lv_aload_n hx hb dX12_count_100 rfl (lv_at hl 0 rfl) ?_
      refine va_get (D := (dC, dI)) (ci := 12) (v := .int (mi 56)) (C := RX12) (T := TX12) (N := 57) hx hb hts (fun w h => List.mem_cons_of_mem _ (jnGB_X12 w h)) hown hK hP 0 rfl rfl 56 (by decide) (hts _ (List.mem_cons_of_mem _ mGB_219)) (fun _ h9 => h9) rfl dX12_count_101 ?_
      exact W.iret (v := (mi 56)) hx hb hr (fun t ht hW => ⟨⟨(mi 56), (), rfl, (gi_any (mi 56)), trivial⟩, hS.F ht⟩) hS.2.2 dX12_count_104
    · refine lv_tableIn (off := 104) (tgt := 105) hx hb dX12_count_1 (by rw [ej_2]; decide +kernel) (by rw [ej_2]; decide +kernel) (by rw [ej_2]; decide +kernel) (by decide) ?_
      refine lv_aload_n hx hb dX12_count_105 rfl (lv_at hl 0 rfl) ?_
      refine va_get (D := (dC, dI)) (ci := 12) (v := .int (mi 5)) (C := RX12) (T := TX12) (N := 57) hx hb hts (fun w h => List.mem_cons_of_mem _ (jnGB_X12 w h)) hown hK hP 0 rfl rfl 5 (by decide) (hts _ (List.mem_cons_of_mem _ mGB_108)) (fun _ h9 => h9) rfl dX12_count_106 ?_
      exact W.iret (v := (mi 5)) hx hb hr (fun t ht hW => ⟨⟨(mi 5), (), rfl, (gi_any (mi 5)), trivial⟩, hS.F ht⟩) hS.2.2 dX12_count_109
    · refine lv_tableIn (off := 109) (tgt := 110) hx hb dX12_count_1 (by rw [ej_2]; decide +kernel) (by rw [ej_2]; decide +kernel) (by rw [ej_2]; decide +kernel) (by decide) ?_
      refine lv_aload_n hx hb dX12_count_110 rfl (lv_at hl 0 rfl) ?_
      refine va_get (D := (dC, dI)) (ci := 12) (v := .int (mi 6)) (C := RX12) (T := TX12) (N := 57) hx hb hts (fun w h => List.mem_cons_of_mem _ (jnGB_X12 w h)) hown hK hP 0 rfl rfl 6 (by decide) (hts _ (List.mem_cons_of_mem _ mGB_109)) (fun _ h9 => h9) rfl dX12_count_111 ?_
      exact W.iret (v := (mi 6)) hx hb hr (fun t ht hW => ⟨⟨(mi 6), (), rfl, (gi_any (mi 6)), trivial⟩, hS.F ht⟩) hS.2.2 dX12_count_114
theorem dX12_end_0 : decode cX12_end 0 = .ok (.iload_n 1, 1) := by decide +kernel
theorem dX12_end_1 : decode cX12_end 1 = .ok (.i2l, 1) := by decide +kernel
theorem dX12_end_2 : decode cX12_end 2 = .ok (.lconst 0, 1) := by decide +kernel
theorem dX12_end_3 : decode cX12_end 3 = .ok (.aload_n 0, 1) := by decide +kernel
theorem dX12_end_4 : decode cX12_end 4 = .ok (.getfield 99, 3) := by decide +kernel
theorem dX12_end_7 : decode cX12_end 7 = .ok (.i2l, 1) := by decide +kernel
theorem dX12_end_8 : decode cX12_end 8 = .ok (.invokestatic 102, 3) := by decide +kernel
theorem dX12_end_11 : decode cX12_end 11 = .ok (.ifCond .ne 5, 3) := by decide +kernel
theorem dX12_end_14 : decode cX12_end 14 = .ok (.iconst (-1), 1) := by decide +kernel
theorem dX12_end_15 : decode cX12_end 15 = .ok (.ireturn, 1) := by decide +kernel
theorem dX12_end_16 : decode cX12_end 16 = .ok (.aload_n 0, 1) := by decide +kernel
theorem dX12_end_17 : decode cX12_end 17 = .ok (.iload_n 1, 1) := by decide +kernel
theorem dX12_end_18 : decode cX12_end 18 = .ok (.putfield 99, 3) := by decide +kernel
theorem dX12_end_21 : decode cX12_end 21 = .ok (.iload_n 1, 1) := by decide +kernel
theorem dX12_end_22 : decode cX12_end 22 = .ok (.ireturn, 1) := by decide +kernel
noncomputable def fX12_end (mi : Nat → Int32) (p1 : Int32) : Int32 × Int32 := cal (fun o1 => if o1 = (0 : Int32) then ((-1 : Int32), (mi 26)) else (p1, p1)) (fX12_in (p1.toInt64) (0 : Int64) ((mi 26).toInt64))
set_option maxHeartbeats 4000000 in
set_option maxRecDepth 100000 in
theorem sX12_end (l : Launch) (dC : Nat → ClassId) (dI : Nat → Nat → Nat) (sz : Nat) (h0 : Nat) (mi : Nat → Int32) (mr : Nat → Nat) (p1 : Int32) (gmi_0 : gi (mi 0) 0 24) (gmi_1 : gi (mi 1) 0 5) (gmi_2 : gi (mi 2) 0 5) (gmi_4 : gi (mi 4) 0 1) (gmi_7 : gi (mi 7) 0 6) (gmi_10 : gi (mi 10) 0 24) (gmi_17 : gi (mi 17) 0 8) (gmi_23 : gi (mi 23) 0 300) (gmi_24 : gi (mi 24) 0 1) (gmi_26 : gi (mi 26) 0 1600) (gmi_29 : gi (mi 29) 0 1600) (gmi_30 : gi (mi 30) 0 1600) (gmi_33 : gi (mi 33) 0 1) (gmi_37 : gi (mi 37) 0 1) (gmi_41 : gi (mi 41) 0 24) (gmi_50 : gi (mi 50) 0 1) (gmi_51 : gi (mi 51) 0 1) (gmi_56 : gi (mi 56) 0 80) : Met l yX12_end (.code yX12_end cX12_end 2 (some .int) :: wsGB) ({ frames := 1, cells := 0, slots := 0, locals := 25 }) (va_Pc [.ref h0, .int p1] (fun U => U.heap.size = sz ∧ va_P (dC, dI) vwCl [(h0, .inr (12, fsMM mi mr))] U.heap ∧ va_K (dC, dI) vwCl [] U ∧ va_D (fun _ => True) [(h0, .inr (12, fsMM mi mr))])) (va_Qi (fun (r : Int32) (u : Int32) => r = u ∧ gi r (-1) 1600 ∧ ((0 ≤ p1.toInt ∧ p1.toInt ≤ (mi 26).toInt ∧ r.toInt = p1.toInt) ∨ ((p1.toInt < 0 ∨ (mi 26).toInt < p1.toInt) ∧ r.toInt = -1))) (fun r t => ∃ (w0_26 : Int32), gi w0_26 0 1600 ∧ ((0 ≤ p1.toInt ∧ p1.toInt ≤ (mi 26).toInt ∧ w0_26.toInt = p1.toInt) ∨ ((p1.toInt < 0 ∨ (mi 26).toInt < p1.toInt) ∧ w0_26.toInt = (mi 26).toInt)) ∧ (r, w0_26) = fX12_end mi p1 ∧ va_P (dC, dI) vwCl [(h0, .inr (12, fsMM (upd mi 26 w0_26) mr))] t.heap ∧ va_D (va_A [(h0, .inr (12, fsMM mi mr))] sz) [(h0, .inr (12, fsMM (upd mi 26 w0_26) mr))]) (va_A [(h0, .inr (12, fsMM mi mr))] sz)) 0 0 (va_A [(h0, .inr (12, fsMM mi mr))] sz) := by
  refine Met.ofW (cc := cX12_end) (maxL := 2) (ret := (some .int)) (by decide) rfl ?_
  intro p e s m args below meth c s₁ B hml hv
  obtain ⟨rfl, hsz, hP, hK, hD0⟩ := hv
  have hx := B.exec
  have hb := B.bytes
  have hr := B.returns
  have hts := atoms_spec (ws := (.code yX12_end cX12_end 2 (some .int) :: wsGB)) B.pre
  have hown : s.vm.findClass RX12 = some m.cls := findClass_of_methodNamed B.named
  have hlocks := B.notSynchronized
  subst hsz
  have hD := hD0.self (sz := s.heap.size)
  generalize hAe : va_A [(h0, .inr (12, fsMM mi mr))] s.heap.size = A at hD ⊢
  have hA : ∀ q : Nat, s.heap.size ≤ q → A q := fun q h => by rw [← hAe]; exact Or.inr h
  have hS : va_S A s.heap s.heap [] := va_S.rf
  have hl := lv_entry ([.ref h0, .int p1]) (n := 2) (Nat.le_of_ble_eq_true rfl)
  rw [lg_entry_eq]
  generalize (lg_sl ([.ref h0, .int p1]) ++ List.replicate (2 - (lg_sl ([.ref h0, .int p1])).length) Slot.unset).toArray = ls at hl ⊢
  have hl : lv_has ls 2 [(0, .ref h0), (1, .int p1)] := hl
  obtain ⟨RES, hF⟩ : ∃ R9, fX12_end mi p1 = R9 := ⟨_, rfl⟩
  have hR9 := hF
  refine lv_iload_n hx hb dX12_end_0 rfl (lv_at hl 1 rfl) ?_
  refine lv_i2l (v := (p1).toInt64) hx hb dX12_end_1 rfl ?_
  refine lv_topl (fun l_19 el_19 => ?_)
  refine lv_lconst (v := 0) hx hb dX12_end_2 (by decide) ?_
  refine lv_aload_n hx hb dX12_end_3 rfl (lv_at hl 0 rfl) ?_
  refine va_get (D := (dC, dI)) (ci := 12) (v := .int (mi 26)) (C := RX12) (T := TX12) (N := 57) hx hb hts (fun w h => List.mem_cons_of_mem _ (jnGB_X12 w h)) hown hK hP 0 rfl rfl 26 (by decide) (hts _ (List.mem_cons_of_mem _ mGB_43)) (fun _ h9 => h9) rfl dX12_end_4 ?_
  refine lv_i2l (v := ((mi 26)).toInt64) hx hb dX12_end_7 rfl ?_
  refine lv_topl (fun l_20 el_20 => ?_)
  have hPc := hP.sub (ws' := []) [] rfl
  have hKc := hK.sub (tys' := []) [] rfl
  refine va_calli (va_runS (As := [.long l_19, .long 0, .long l_20]) (rest := []) ⟨hx, hb, hml, hown, hts⟩ (sX12_in l dC dI l_19 0 l_20) (cwS 3 hts (gz_gS mGB_47 mGB_48 mGB_1 mGB_49 goodGB) rfl rfl rfl (by decide +kernel) ⟨Nat.le_of_ble_eq_true rfl, Nat.le_of_ble_eq_true rfl⟩) ⟨fun a U g mk q => by obtain ⟨q0, qP, qK⟩ := q; exact ⟨q0, qP, va_K.moved (u := U) (U := U.calling g mk a) (Vm.Alike.refl U.vm) qK⟩, fun U hU hW => ⟨rfl, by rw [hU]; exact hPc, va_K.moved hW.alike hKc⟩⟩ rfl rfl hl.1 rfl (lv_room (Nat.le_of_ble_eq_true rfl)) dX12_end_8 ⟨Nat.zero_le _, Nat.zero_le _⟩) hS (fun q _ h => h.elim) (fun q h => h.elim) (fun r_21 u t H1 locs ht hvm hw hB hz1 hk1 hS => ?_)
  obtain ⟨hw, hE⟩ := hw
  have hP := gz_keep hP hk1
  have hF := gf_call (a := r_21) (by rw [el_20, el_19] at hE; exact hE) hF
  generalize H1 = H at hP hS ⊢
  have gr_21 : gi r_21 0 1 := hw.1
  have hqr_21 := hw.2
  refine lv_if_ne (tgt := 16) hx hb dX12_end_11 (by decide) (fun c_22 => ?_) (fun c_22 => ?_)
  · have hF := gf_neg c_22 hF
    have g_23 : gi r_21 1 1 := gi_ne_lo c_22 gr_21 (gi_c 0 0 (by decide)) (by decide)
    have hin_24 := gz_inT (A := 0) (B := (mi 26).toInt) (hqr_21.1 (gz_one g_23)) el_19 (by decide) (gz_l2e el_20)
    have g_25 : gi p1 0 1600 := gi_cap (gi_any p1) (gz_inr (hqr_21.1 (gz_one g_23)) el_19 (A := 0) (B := 1600) (by decide) (gz_l2u el_20 gmi_26)) (by decide)
    refine lv_aload_n hx hb dX12_end_16 rfl (lv_at hl 0 rfl) ?_
    refine lv_iload_n hx hb dX12_end_17 rfl (lv_at hl 1 rfl) ?_
    refine va_put (D := (dC, dI)) (ci := 12) (v := .int p1) (ty := .int) (C := RX12) (T := TX12) (N := 57) hx hb hts (fun w h => List.mem_cons_of_mem _ (jnGB_X12 w h)) tyX12 tyX12_ok nmX12 hown hK hP hD hS 0 rfl rfl 26 (by decide) (hts _ (List.mem_cons_of_mem _ mGB_43)) (fun _ h9 => h9) rfl (by decide +kernel) rfl rfl (Nat.le_of_ble_eq_true rfl) dX12_end_18 (fun H locs hP hD hS => ?_)
    have hP : va_P (dC, dI) vwCl [(h0, .inr (12, fsMM (upd mi 26 p1) mr))] H := hP
    have hD : va_D A [(h0, .inr (12, fsMM (upd mi 26 p1) mr))] := hD
    refine lv_iload_n hx hb dX12_end_21 rfl (lv_at hl 1 rfl) ?_
    exact W.iret (v := p1) hx hb hr (fun t ht hW => ⟨⟨p1, p1, rfl, ⟨rfl, ⟨(gi_w g_25 (by decide)), by have qgp1 := g_25.1; have rgp1 := g_25.2; omega⟩⟩, p1, g_25, by have qgp1 := g_25.1; have rgp1 := g_25.2; omega, hF.trans hR9.symm, by rw [ht]; exact hP, hD⟩, hS.F ht⟩) hS.2.2 dX12_end_22
  · have hF := gf_pos c_22 hF
    have g_26 : gi r_21 0 0 := gi_eq c_22 (gi_c 0 0 (by decide))
    have hno_27 := gz_inF (A := 0) (B := (mi 26).toInt) (hqr_21.2 (gz_zero1 g_26)) el_19 (by decide) (gz_l2e el_20)
    refine lv_iconst (v := (-1)) hx hb dX12_end_14 (by decide) ?_
    exact W.iret (v := (-1)) hx hb hr (fun t ht hW => ⟨⟨(-1), (-1), rfl, ⟨rfl, ⟨(gi_w (gi_c (-1) (-1) (by decide)) (by decide)), by have km1 : ((-1) : Int32).toInt = (-1) := (by decide); omega⟩⟩, (mi 26), gmi_26, by have qgmi_26 := gmi_26.1; have rgmi_26 := gmi_26.2; omega, hF.trans hR9.symm, by rw [ht]; exact hP, hD⟩, hS.F ht⟩) hS.2.2 dX12_end_15
theorem dX12_isNameAhead_0 : decode cX12_isNameAhead 0 = .ok (.iconst 0, 1) := by decide +kernel
theorem dX12_isNameAhead_1 : decode cX12_isNameAhead 1 = .ok (.istore_n 3, 1) := by decide +kernel
theorem dX12_isNameAhead_2 : decode cX12_isNameAhead 2 = .ok (.iload_n 3, 1) := by decide +kernel
theorem dX12_isNameAhead_3 : decode cX12_isNameAhead 3 = .ok (.bipush 6, 2) := by decide +kernel
theorem dX12_isNameAhead_5 : decode cX12_isNameAhead 5 = .ok (.if_icmp .ge 55, 3) := by decide +kernel
theorem dX12_isNameAhead_8 : decode cX12_isNameAhead 8 = .ok (.aload_n 0, 1) := by decide +kernel
theorem dX12_isNameAhead_9 : decode cX12_isNameAhead 9 = .ok (.getfield 13, 3) := by decide +kernel
theorem dX12_isNameAhead_12 : decode cX12_isNameAhead 12 = .ok (.bipush 6, 2) := by decide +kernel
theorem dX12_isNameAhead_14 : decode cX12_isNameAhead 14 = .ok (.iload_n 1, 1) := by decide +kernel
theorem dX12_isNameAhead_15 : decode cX12_isNameAhead 15 = .ok (.imul, 1) := by decide +kernel
theorem dX12_isNameAhead_16 : decode cX12_isNameAhead 16 = .ok (.iload_n 3, 1) := by decide +kernel
theorem dX12_isNameAhead_17 : decode cX12_isNameAhead 17 = .ok (.iadd, 1) := by decide +kernel
theorem dX12_isNameAhead_18 : decode cX12_isNameAhead 18 = .ok (.iaload, 1) := by decide +kernel
theorem dX12_isNameAhead_19 : decode cX12_isNameAhead 19 = .ok (.istore 4, 2) := by decide +kernel
theorem dX12_isNameAhead_21 : decode cX12_isNameAhead 21 = .ok (.aload_n 0, 1) := by decide +kernel
theorem dX12_isNameAhead_22 : decode cX12_isNameAhead 22 = .ok (.getfield 13, 3) := by decide +kernel
theorem dX12_isNameAhead_25 : decode cX12_isNameAhead 25 = .ok (.bipush 6, 2) := by decide +kernel
theorem dX12_isNameAhead_27 : decode cX12_isNameAhead 27 = .ok (.iload_n 2, 1) := by decide +kernel
theorem dX12_isNameAhead_28 : decode cX12_isNameAhead 28 = .ok (.imul, 1) := by decide +kernel
theorem dX12_isNameAhead_29 : decode cX12_isNameAhead 29 = .ok (.iload_n 3, 1) := by decide +kernel
theorem dX12_isNameAhead_30 : decode cX12_isNameAhead 30 = .ok (.iadd, 1) := by decide +kernel
theorem dX12_isNameAhead_31 : decode cX12_isNameAhead 31 = .ok (.iaload, 1) := by decide +kernel
theorem dX12_isNameAhead_32 : decode cX12_isNameAhead 32 = .ok (.istore 5, 2) := by decide +kernel
theorem dX12_isNameAhead_34 : decode cX12_isNameAhead 34 = .ok (.iload 4, 2) := by decide +kernel
theorem dX12_isNameAhead_36 : decode cX12_isNameAhead 36 = .ok (.iload 5, 2) := by decide +kernel
theorem dX12_isNameAhead_38 : decode cX12_isNameAhead 38 = .ok (.if_icmp .eq 16, 3) := by decide +kernel
theorem dX12_isNameAhead_41 : decode cX12_isNameAhead 41 = .ok (.iload 4, 2) := by decide +kernel
theorem dX12_isNameAhead_43 : decode cX12_isNameAhead 43 = .ok (.iload 5, 2) := by decide +kernel
theorem dX12_isNameAhead_45 : decode cX12_isNameAhead 45 = .ok (.if_icmp .ge 7, 3) := by decide +kernel
theorem dX12_isNameAhead_48 : decode cX12_isNameAhead 48 = .ok (.iconst 1, 1) := by decide +kernel
theorem dX12_isNameAhead_49 : decode cX12_isNameAhead 49 = .ok (.goto 4, 3) := by decide +kernel
theorem dX12_isNameAhead_52 : decode cX12_isNameAhead 52 = .ok (.iconst 0, 1) := by decide +kernel
theorem dX12_isNameAhead_53 : decode cX12_isNameAhead 53 = .ok (.ireturn, 1) := by decide +kernel
theorem dX12_isNameAhead_54 : decode cX12_isNameAhead 54 = .ok (.iinc 3 1, 3) := by decide +kernel
theorem dX12_isNameAhead_57 : decode cX12_isNameAhead 57 = .ok (.goto (-55), 3) := by decide +kernel
theorem dX12_isNameAhead_60 : decode cX12_isNameAhead 60 = .ok (.iconst 0, 1) := by decide +kernel
theorem dX12_isNameAhead_61 : decode cX12_isNameAhead 61 = .ok (.ireturn, 1) := by decide +kernel
set_option maxHeartbeats 4000000 in
set_option maxRecDepth 100000 in
theorem lp_sX12_isNameAhead {p : Program} {l : Launch} {e : Env} {R : Room} {s : State} {m : MethodId} {args : Array Value} {below : List Frame} {meth : Method} {c : Code} {Q : State → Prop} {A : Nat → Prop} {cells slots : Nat} {dC : Nat → ClassId} {dI : Nat → Nat → Nat} (h0 : Nat) (mi : Nat → Int32) (mr : Nat → Nat) (km_letter : ClassId) (fm_letter : Nat → Int32) (p1 : Int32) (p2 : Int32) (gmi_0 : gi (mi 0) 0 24) (gmi_1 : gi (mi 1) 0 5) (gmi_2 : gi (mi 2) 0 5) (gmi_4 : gi (mi 4) 0 1) (gmi_7 : gi (mi 7) 0 6) (gmi_10 : gi (mi 10) 0 24) (gmi_17 : gi (mi 17) 0 8) (gmi_23 : gi (mi 23) 0 300) (gmi_24 : gi (mi 24) 0 1) (gmi_26 : gi (mi 26) 0 1600) (gmi_29 : gi (mi 29) 0 1600) (gmi_30 : gi (mi 30) 0 1600) (gmi_33 : gi (mi 33) 0 1) (gmi_37 : gi (mi 37) 0 1) (gmi_41 : gi (mi 41) 0 24) (gmi_50 : gi (mi 50) 0 1) (gmi_51 : gi (mi 51) 0 1) (gmi_56 : gi (mi 56) 0 80) (gp1 : gi p1 0 5) (gp2 : gi p2 0 5) (hx : p.tables.exec = Jvm.exec) (hb : c.code = cX12_isNameAhead) (hml : c.maxLocals = 6) (hown : s.vm.findClass RX12 = some m.cls) (hts : ∀ w ∈ ((.code yX12_isNameAhead cX12_isNameAhead 6 (some .boolean) :: wsGB) : List Cond), w.before args s = true) (hK : va_K (dC, dI) vwCl [(km_letter, .int)] s) (hRf : 0 ≤ R.frames) (hRl : 0 ≤ R.locals) (hRc : cells ≤ R.cells) (hRs : slots ≤ R.slots) (kr61 : ∀ (v : Int32) (H : Heap) (locs : List Loc) (ls : Array Slot), gi v 0 0 → va_P (dC, dI) vwCl [(h0, .inr (12, fsMM mi mr)), ((mr 1), .inl (km_letter, 36, .inl fm_letter))] H → va_S A s.heap H locs → lv_has ls 6 [] → W p l e R s m args below meth c H locs cells slots Q (F0 m 61 ls [.int v])) (kr53 : ∀ (v : Int32) (H : Heap) (locs : List Loc) (ls : Array Slot), gi v 0 1 → va_P (dC, dI) vwCl [(h0, .inr (12, fsMM mi mr)), ((mr 1), .inl (km_letter, 36, .inl fm_letter))] H → va_S A s.heap H locs → lv_has ls 6 [] → W p l e R s m args below meth c H locs cells slots Q (F0 m 53 ls [.int v])) : ∀ z : Nat, (∀ (v3 : Int32) (H : Heap) (locs : List Loc) (ls : Array Slot), gi v3 0 6 → 13 + (-2) * v3.toInt < (z : Int) → va_P (dC, dI) vwCl [(h0, .inr (12, fsMM mi mr)), ((mr 1), .inl (km_letter, 36, .inl fm_letter))] H → va_S A s.heap H locs → lv_has ls 6 [(0, .ref h0), (1, .int p1), (2, .int p2), (3, .int v3)] → W p l e R s m args below meth c H locs cells slots Q (F0 m 2 ls [])) := by
  intro z
  induction z with
  | zero =>
    intro v3 H locs ls gv3 hmu hP hS hl
    exact absurd hmu (by have hv31 := gv3.1; have hv32 := gv3.2; omega)
  | succ z ih =>
      intro v3 H locs ls gv3 hmu hP hS hl
      refine lv_iload_n hx hb dX12_isNameAhead_2 rfl (lv_at hl 3 rfl) ?_
      refine lv_bipush (v := 6) hx hb dX12_isNameAhead_3 (by decide) ?_
      refine lv_icmp_ge (tgt := 60) hx hb dX12_isNameAhead_5 (by decide) (fun c_87 => ?_) (fun c_87 => ?_)
      · have g_88 : gi v3 6 6 := gi_le_r c_87 (gi_c 6 6 (by decide)) gv3
        refine lv_iconst (v := 0) hx hb dX12_isNameAhead_60 (by decide) ?_
        exact kr61 0 _ _ _ (gi_c 0 0 (by decide)) hP hS (lv_sub hl [] rfl)
      · have g_89 : gi v3 0 5 := gi_lt_l (Int32.not_le.mp c_87) gv3 (gi_c 6 6 (by decide)) (by decide)
        refine lv_aload_n hx hb dX12_isNameAhead_8 rfl (lv_at hl 0 rfl) ?_
        refine va_get (D := (dC, dI)) (ci := 12) (v := .ref (mr 1)) (C := RX12) (T := TX12) (N := 57) hx hb hts (fun w h => List.mem_cons_of_mem _ (jnGB_X12 w h)) hown hK hP 0 rfl rfl 9 (by decide) (hts _ (List.mem_cons_of_mem _ mGB_11)) (fun _ h9 => h9) rfl dX12_isNameAhead_9 ?_
        refine lv_bipush (v := 6) hx hb dX12_isNameAhead_12 (by decide) ?_
        refine lv_iload_n hx hb dX12_isNameAhead_14 rfl (lv_at hl 1 rfl) ?_
        refine lv_imul hx hb dX12_isNameAhead_15 ?_
        refine lv_topi (fun x_90 ex_90 => ?_)
        have gx_90 : gi x_90 0 30 := gi_mul ex_90 (gi_c 6 6 (by decide)) gp1 (by decide)
        refine lv_iload_n hx hb dX12_isNameAhead_16 rfl (lv_at hl 3 rfl) ?_
        refine lv_iadd hx hb dX12_isNameAhead_17 ?_
        refine lv_topi (fun x_91 ex_91 => ?_)
        have gx_91 : gi x_91 0 35 := gi_add ex_91 gx_90 g_89 (by decide)
        refine va_iald hx hb hK hP 1 0 rfl rfl (gi_in gx_91 (by decide)) dX12_isNameAhead_18 ?_
        refine lv_topi (fun x_92 ex_92 => ?_)
        refine lv_istore (lv' := [(4, .int x_92), (0, .ref h0), (1, .int p1), (2, .int p2), (3, .int v3)]) hx hb dX12_isNameAhead_19 hl (by decide) rfl (fun ls hl => ?_)
        refine lv_aload_n hx hb dX12_isNameAhead_21 rfl (lv_at hl 1 rfl) ?_
        refine va_get (D := (dC, dI)) (ci := 12) (v := .ref (mr 1)) (C := RX12) (T := TX12) (N := 57) hx hb hts (fun w h => List.mem_cons_of_mem _ (jnGB_X12 w h)) hown hK hP 0 rfl rfl 9 (by decide) (hts _ (List.mem_cons_of_mem _ mGB_11)) (fun _ h9 => h9) rfl dX12_isNameAhead_22 ?_
        refine lv_bipush (v := 6) hx hb dX12_isNameAhead_25 (by decide) ?_
        refine lv_iload_n hx hb dX12_isNameAhead_27 rfl (lv_at hl 3 rfl) ?_
        refine lv_imul hx hb dX12_isNameAhead_28 ?_
        refine lv_topi (fun x_93 ex_93 => ?_)
        have gx_93 : gi x_93 0 30 := gi_mul ex_93 (gi_c 6 6 (by decide)) gp2 (by decide)
        refine lv_iload_n hx hb dX12_isNameAhead_29 rfl (lv_at hl 4 rfl) ?_
        refine lv_iadd hx hb dX12_isNameAhead_30 ?_
        refine lv_topi (fun x_94 ex_94 => ?_)
        have gx_94 : gi x_94 0 35 := gi_add ex_94 gx_93 g_89 (by decide)
        refine va_iald hx hb hK hP 1 0 rfl rfl (gi_in gx_94 (by decide)) dX12_isNameAhead_31 ?_
        refine lv_topi (fun x_95 ex_95 => ?_)
        refine lv_istore (lv' := [(5, .int x_95), (4, .int x_92), (0, .ref h0), (1, .int p1), (2, .int p2), (3, .int v3)]) hx hb dX12_isNameAhead_32 hl (by decide) rfl (fun ls hl => ?_)
        refine lv_iload hx hb dX12_isNameAhead_34 (lv_at hl 1 rfl) ?_
        refine lv_iload hx hb dX12_isNameAhead_36 (lv_at hl 0 rfl) ?_
        refine lv_icmp_eq (tgt := 54) hx hb dX12_isNameAhead_38 (by decide) (fun c_96 => ?_) (fun c_96 => ?_)
        · obtain ⟨x_97, ex_97⟩ : ∃ y : Int32, y = v3 + 1 := ⟨_, rfl⟩
          have gx_97 : gi x_97 1 6 := gi_add ex_97 g_89 (gi_c 1 1 (by decide)) (by decide)
          refine lv_iinc (v := x_97) (lv' := [(3, .int x_97), (5, .int x_95), (4, .int x_92), (0, .ref h0), (1, .int p1), (2, .int p2)]) hx hb dX12_isNameAhead_54 hl (k := 5) rfl (by rw [ex_97]; rfl) (by decide) rfl (fun ls hl => ?_)
          refine lv_goto (tgt := 2) hx hb dX12_isNameAhead_57 (by decide) ?_
          exact ih x_97 _ _ _ (gi_w gx_97 (by decide)) (by have av3 := gv3.1; have bv3 := gv3.2; have qgx_97 := gx_97.1; have rgx_97 := gx_97.2; have igx_97 : x_97.toInt = v3.toInt + 1 := (by have hc1 : (1 : Int32).toInt = 1 := (by decide); have h9 := gi_addI ex_97 (by have h1 := g_89.1; have h2 := (gi_c 1 1 (by decide)).1; have h3 := g_89.2; have h4 := (gi_c 1 1 (by decide)).2; omega) (by have h1 := g_89.1; have h2 := (gi_c 1 1 (by decide)).1; have h3 := g_89.2; have h4 := (gi_c 1 1 (by decide)).2; omega); rw [hc1] at h9; exact h9); have qgv3 := g_89.1; have rgv3 := g_89.2; omega) hP hS (lv_sub hl [3, 4, 5, 0] rfl)
        · refine lv_iload hx hb dX12_isNameAhead_41 (lv_at hl 1 rfl) ?_
          refine lv_iload hx hb dX12_isNameAhead_43 (lv_at hl 0 rfl) ?_
          refine lv_icmp_ge (tgt := 52) hx hb dX12_isNameAhead_45 (by decide) (fun c_98 => ?_) (fun c_98 => ?_)
          · refine lv_iconst (v := 0) hx hb dX12_isNameAhead_52 (by decide) ?_
            exact kr53 0 _ _ _ (gi_w (gi_c 0 0 (by decide)) (by decide)) hP hS (lv_sub hl [] rfl)
          · have g_99 : gi x_92 (-2147483648) 2147483646 := gi_lt_l (Int32.not_le.mp c_98) (gi_any x_92) (gi_any x_95) (by decide)
            have g_100 : gi x_95 (-2147483647) 2147483647 := gi_lt_r (Int32.not_le.mp c_98) (gi_any x_92) (gi_any x_95) (by decide)
            refine lv_iconst (v := 1) hx hb dX12_isNameAhead_48 (by decide) ?_
            refine lv_goto (tgt := 53) hx hb dX12_isNameAhead_49 (by decide) ?_
            exact kr53 1 _ _ _ (gi_w (gi_c 1 1 (by decide)) (by decide)) hP hS (lv_sub hl [] rfl)
set_option maxHeartbeats 4000000 in
set_option maxRecDepth 100000 in
theorem sX12_isNameAhead (l : Launch) (dC : Nat → ClassId) (dI : Nat → Nat → Nat) (h0 : Nat) (mi : Nat → Int32) (mr : Nat → Nat) (km_letter : ClassId) (fm_letter : Nat → Int32) (p1 : Int32) (p2 : Int32) (gmi_0 : gi (mi 0) 0 24) (gmi_1 : gi (mi 1) 0 5) (gmi_2 : gi (mi 2) 0 5) (gmi_4 : gi (mi 4) 0 1) (gmi_7 : gi (mi 7) 0 6) (gmi_10 : gi (mi 10) 0 24) (gmi_17 : gi (mi 17) 0 8) (gmi_23 : gi (mi 23) 0 300) (gmi_24 : gi (mi 24) 0 1) (gmi_26 : gi (mi 26) 0 1600) (gmi_29 : gi (mi 29) 0 1600) (gmi_30 : gi (mi 30) 0 1600) (gmi_33 : gi (mi 33) 0 1) (gmi_37 : gi (mi 37) 0 1) (gmi_41 : gi (mi 41) 0 24) (gmi_50 : gi (mi 50) 0 1) (gmi_51 : gi (mi 51) 0 1) (gmi_56 : gi (mi 56) 0 80) (gp1 : gi p1 0 5) (gp2 : gi p2 0 5) : Met l yX12_isNameAhead (.code yX12_isNameAhead cX12_isNameAhead 6 (some .boolean) :: wsGB) ({ frames := 0, cells := 0, slots := 0, locals := 0 }) (va_Pc [.ref h0, .int p1, .int p2] (fun U => va_P (dC, dI) vwCl [(h0, .inr (12, fsMM mi mr)), ((mr 1), .inl (km_letter, 36, .inl fm_letter))] U.heap ∧ va_K (dC, dI) vwCl [(km_letter, .int)] U)) (va_Qi (fun (r : Int32) (u : Unit) => gi r 0 1) (fun _ _ => True) (fun _ => False)) 0 0 (fun _ => False) := by
  refine Met.ofW (cc := cX12_isNameAhead) (maxL := 6) (ret := (some .boolean)) (by decide) rfl ?_
  intro p e s m args below meth c s₁ B hml hv
  obtain ⟨rfl, hP, hK⟩ := hv
  have hx := B.exec
  have hb := B.bytes
  have hr := B.returns
  have hts := atoms_spec (ws := (.code yX12_isNameAhead cX12_isNameAhead 6 (some .boolean) :: wsGB)) B.pre
  have hown : s.vm.findClass RX12 = some m.cls := findClass_of_methodNamed B.named
  have hlocks := B.notSynchronized
  have hS : va_S (fun _ => False) s.heap s.heap [] := va_S.rf
  have hl := lv_entry ([.ref h0, .int p1, .int p2]) (n := 6) (Nat.le_of_ble_eq_true rfl)
  rw [lg_entry_eq]
  generalize (lg_sl ([.ref h0, .int p1, .int p2]) ++ List.replicate (6 - (lg_sl ([.ref h0, .int p1, .int p2])).length) Slot.unset).toArray = ls at hl ⊢
  have hl : lv_has ls 6 [(0, .ref h0), (1, .int p1), (2, .int p2)] := hl
  refine lv_iconst (v := 0) hx hb dX12_isNameAhead_0 (by decide) ?_
  refine lv_istore_n (lv' := [(3, .int 0), (0, .ref h0), (1, .int p1), (2, .int p2)]) hx hb dX12_isNameAhead_1 rfl hl (by decide) rfl (fun ls hl => ?_)
  refine (lp_sX12_isNameAhead h0 mi mr km_letter fm_letter p1 p2 gmi_0 gmi_1 gmi_2 gmi_4 gmi_7 gmi_10 gmi_17 gmi_23 gmi_24 gmi_26 gmi_29 gmi_30 gmi_33 gmi_37 gmi_41 gmi_50 gmi_51 gmi_56 gp1 gp2 hx hb hml hown hts hK (Nat.le_of_ble_eq_true rfl) (Nat.le_of_ble_eq_true rfl) (Nat.zero_le _) (Nat.zero_le _) (fun v H locs ls gv hP hS hl => ?_) (fun v H locs ls gv hP hS hl => ?_) 26) 0 _ _ _ (gi_w (gi_c 0 0 (by decide)) (by decide)) (by have k0 : (0 : Int32).toInt = 0 := (by decide); omega) hP hS (lv_sub hl [1, 2, 3, 0] rfl)
  · skip
    exact W.zret (v := v) hx hb hr (gz_nb (gi_w gv (by decide))) (fun t ht hW => ⟨⟨v, (), rfl, (gi_w gv (by decide)), trivial⟩, hS.F ht⟩) hS.2.2 dX12_isNameAhead_61
  · skip
    exact W.zret (v := v) hx hb hr (gz_nb gv) (fun t ht hW => ⟨⟨v, (), rfl, gv, trivial⟩, hS.F ht⟩) hS.2.2 dX12_isNameAhead_53
theorem dX12_place_0 : decode cX12_place 0 = .ok (.aload_n 0, 1) := by decide +kernel
theorem dX12_place_1 : decode cX12_place 1 = .ok (.iload_n 1, 1) := by decide +kernel
theorem dX12_place_2 : decode cX12_place 2 = .ok (.invokevirtual 294, 3) := by decide +kernel
theorem dX12_place_5 : decode cX12_place 5 = .ok (.ifCond .eq 15, 3) := by decide +kernel
theorem dX12_place_8 : decode cX12_place 8 = .ok (.iload_n 2, 1) := by decide +kernel
theorem dX12_place_9 : decode cX12_place 9 = .ok (.i2l, 1) := by decide +kernel
theorem dX12_place_10 : decode cX12_place 10 = .ok (.lconst 0, 1) := by decide +kernel
theorem dX12_place_11 : decode cX12_place 11 = .ok (.ldc2_w 298, 3) := by decide +kernel
theorem dX12_place_14 : decode cX12_place 14 = .ok (.invokestatic 102, 3) := by decide +kernel
theorem dX12_place_17 : decode cX12_place 17 = .ok (.ifCond .ne 6, 3) := by decide +kernel
theorem dX12_place_20 : decode cX12_place 20 = .ok (.bipush (-2), 2) := by decide +kernel
theorem dX12_place_22 : decode cX12_place 22 = .ok (.ireturn, 1) := by decide +kernel
theorem dX12_place_23 : decode cX12_place 23 = .ok (.iconst 0, 1) := by decide +kernel
theorem dX12_place_24 : decode cX12_place 24 = .ok (.istore_n 3, 1) := by decide +kernel
theorem dX12_place_25 : decode cX12_place 25 = .ok (.iconst 0, 1) := by decide +kernel
theorem dX12_place_26 : decode cX12_place 26 = .ok (.istore 4, 2) := by decide +kernel
theorem dX12_place_28 : decode cX12_place 28 = .ok (.iload 4, 2) := by decide +kernel
theorem dX12_place_30 : decode cX12_place 30 = .ok (.aload_n 0, 1) := by decide +kernel
theorem dX12_place_31 : decode cX12_place 31 = .ok (.getfield 138, 3) := by decide +kernel
theorem dX12_place_34 : decode cX12_place 34 = .ok (.if_icmp .ge 27, 3) := by decide +kernel
theorem dX12_place_37 : decode cX12_place 37 = .ok (.iload_n 3, 1) := by decide +kernel
theorem dX12_place_38 : decode cX12_place 38 = .ok (.aload_n 0, 1) := by decide +kernel
theorem dX12_place_39 : decode cX12_place 39 = .ok (.iload 4, 2) := by decide +kernel
theorem dX12_place_41 : decode cX12_place 41 = .ok (.iload_n 1, 1) := by decide +kernel
theorem dX12_place_42 : decode cX12_place 42 = .ok (.invokevirtual 300, 3) := by decide +kernel
theorem dX12_place_45 : decode cX12_place 45 = .ok (.ifCond .eq 7, 3) := by decide +kernel
theorem dX12_place_48 : decode cX12_place 48 = .ok (.iconst 1, 1) := by decide +kernel
theorem dX12_place_49 : decode cX12_place 49 = .ok (.goto 4, 3) := by decide +kernel
theorem dX12_place_52 : decode cX12_place 52 = .ok (.iconst 0, 1) := by decide +kernel
theorem dX12_place_53 : decode cX12_place 53 = .ok (.iadd, 1) := by decide +kernel
theorem dX12_place_54 : decode cX12_place 54 = .ok (.istore_n 3, 1) := by decide +kernel
theorem dX12_place_55 : decode cX12_place 55 = .ok (.iinc 4 1, 3) := by decide +kernel
theorem dX12_place_58 : decode cX12_place 58 = .ok (.goto (-30), 3) := by decide +kernel
theorem dX12_place_61 : decode cX12_place 61 = .ok (.iconst 0, 1) := by decide +kernel
theorem dX12_place_62 : decode cX12_place 62 = .ok (.istore 4, 2) := by decide +kernel
theorem dX12_place_64 : decode cX12_place 64 = .ok (.iconst 0, 1) := by decide +kernel
theorem dX12_place_65 : decode cX12_place 65 = .ok (.istore 5, 2) := by decide +kernel
theorem dX12_place_67 : decode cX12_place 67 = .ok (.iload 5, 2) := by decide +kernel
theorem dX12_place_69 : decode cX12_place 69 = .ok (.aload_n 0, 1) := by decide +kernel
theorem dX12_place_70 : decode cX12_place 70 = .ok (.getfield 141, 3) := by decide +kernel
theorem dX12_place_73 : decode cX12_place 73 = .ok (.if_icmp .ge 40, 3) := by decide +kernel
theorem dX12_place_76 : decode cX12_place 76 = .ok (.iload 4, 2) := by decide +kernel
theorem dX12_place_78 : decode cX12_place 78 = .ok (.aload_n 0, 1) := by decide +kernel
theorem dX12_place_79 : decode cX12_place 79 = .ok (.getfield 16, 3) := by decide +kernel
theorem dX12_place_82 : decode cX12_place 82 = .ok (.iload 5, 2) := by decide +kernel
theorem dX12_place_84 : decode cX12_place 84 = .ok (.iaload, 1) := by decide +kernel
theorem dX12_place_85 : decode cX12_place 85 = .ok (.iload_n 1, 1) := by decide +kernel
theorem dX12_place_86 : decode cX12_place 86 = .ok (.if_icmp .ne 17, 3) := by decide +kernel
theorem dX12_place_89 : decode cX12_place 89 = .ok (.aload_n 0, 1) := by decide +kernel
theorem dX12_place_90 : decode cX12_place 90 = .ok (.getfield 22, 3) := by decide +kernel
theorem dX12_place_93 : decode cX12_place 93 = .ok (.iload 5, 2) := by decide +kernel
theorem dX12_place_95 : decode cX12_place 95 = .ok (.baload, 1) := by decide +kernel
theorem dX12_place_96 : decode cX12_place 96 = .ok (.ifCond .ne 7, 3) := by decide +kernel
theorem dX12_place_99 : decode cX12_place 99 = .ok (.iconst 1, 1) := by decide +kernel
theorem dX12_place_100 : decode cX12_place 100 = .ok (.goto 4, 3) := by decide +kernel
theorem dX12_place_103 : decode cX12_place 103 = .ok (.iconst 0, 1) := by decide +kernel
theorem dX12_place_104 : decode cX12_place 104 = .ok (.iadd, 1) := by decide +kernel
theorem dX12_place_105 : decode cX12_place 105 = .ok (.istore 4, 2) := by decide +kernel
theorem dX12_place_107 : decode cX12_place 107 = .ok (.iinc 5 1, 3) := by decide +kernel
theorem dX12_place_110 : decode cX12_place 110 = .ok (.goto (-43), 3) := by decide +kernel
theorem dX12_place_113 : decode cX12_place 113 = .ok (.iload_n 2, 1) := by decide +kernel
theorem dX12_place_114 : decode cX12_place 114 = .ok (.ifCond .ne 12, 3) := by decide +kernel
theorem dX12_place_117 : decode cX12_place 117 = .ok (.aload_n 0, 1) := by decide +kernel
theorem dX12_place_118 : decode cX12_place 118 = .ok (.getfield 7, 3) := by decide +kernel
theorem dX12_place_121 : decode cX12_place 121 = .ok (.iload_n 1, 1) := by decide +kernel
theorem dX12_place_122 : decode cX12_place 122 = .ok (.iaload, 1) := by decide +kernel
theorem dX12_place_123 : decode cX12_place 123 = .ok (.goto 14, 3) := by decide +kernel
theorem dX12_place_126 : decode cX12_place 126 = .ok (.iload_n 2, 1) := by decide +kernel
theorem dX12_place_127 : decode cX12_place 127 = .ok (.iconst 1, 1) := by decide +kernel
theorem dX12_place_128 : decode cX12_place 128 = .ok (.if_icmp .ne 7, 3) := by decide +kernel
theorem dX12_place_131 : decode cX12_place 131 = .ok (.iload_n 3, 1) := by decide +kernel
theorem dX12_place_132 : decode cX12_place 132 = .ok (.goto 5, 3) := by decide +kernel
theorem dX12_place_135 : decode cX12_place 135 = .ok (.iload 4, 2) := by decide +kernel
theorem dX12_place_137 : decode cX12_place 137 = .ok (.ireturn, 1) := by decide +kernel
set_option maxHeartbeats 4000000 in
set_option maxRecDepth 100000 in
theorem lp_sX12_place {p : Program} {l : Launch} {e : Env} {R : Room} {s : State} {m : MethodId} {args : Array Value} {below : List Frame} {meth : Method} {c : Code} {Q : State → Prop} {A : Nat → Prop} {cells slots : Nat} {dC : Nat → ClassId} {dI : Nat → Nat → Nat} (h0 : Nat) (mi : Nat → Int32) (mr : Nat → Nat) (km_trust : ClassId) (fm_trust : Nat → Int32) (km_letter : ClassId) (fm_letter : Nat → Int32) (km_reportPlace : ClassId) (fm_reportPlace : Nat → Int32) (km_struck : ClassId) (fm_struck : Nat → Int32) (p1 : Int32) (p2 : Int32) (gmi_0 : gi (mi 0) 0 24) (gmi_1 : gi (mi 1) 0 5) (gmi_2 : gi (mi 2) 0 5) (gmi_4 : gi (mi 4) 0 1) (gmi_7 : gi (mi 7) 0 6) (gmi_10 : gi (mi 10) 0 24) (gmi_17 : gi (mi 17) 0 8) (gmi_23 : gi (mi 23) 0 300) (gmi_24 : gi (mi 24) 0 1) (gmi_26 : gi (mi 26) 0 1600) (gmi_29 : gi (mi 29) 0 1600) (gmi_30 : gi (mi 30) 0 1600) (gmi_33 : gi (mi 33) 0 1) (gmi_37 : gi (mi 37) 0 1) (gmi_41 : gi (mi 41) 0 24) (gmi_50 : gi (mi 50) 0 1) (gmi_51 : gi (mi 51) 0 1) (gmi_56 : gi (mi 56) 0 80) (gfm_reportPlace : ga fm_reportPlace 24 0 5) (gfm_struck : ga fm_struck 24 0 1) (hx : p.tables.exec = Jvm.exec) (hb : c.code = cX12_place) (hml : c.maxLocals = 6) (hown : s.vm.findClass RX12 = some m.cls) (hts : ∀ w ∈ ((.code yX12_place cX12_place 6 (some .int) :: wsGB) : List Cond), w.before args s = true) (hK : va_K (dC, dI) vwCl [(km_trust, .int), (km_letter, .int), (km_reportPlace, .int), (km_struck, .boolean)] s) (hRf : 2 ≤ R.frames) (hRl : 46 ≤ R.locals) (hRc : cells ≤ R.cells) (hRs : slots ≤ R.slots) (kr22 : ∀ (v : Int32) (H : Heap) (locs : List Loc) (ls : Array Slot), gi v (-2) (-2) → va_P (dC, dI) vwCl [(h0, .inr (12, fsMM mi mr)), ((mr 0), .inl (km_trust, 6, .inl fm_trust)), ((mr 1), .inl (km_letter, 36, .inl fm_letter)), ((mr 2), .inl (km_reportPlace, 24, .inl fm_reportPlace)), ((mr 4), .inl (km_struck, 24, .inl fm_struck))] H → va_S A s.heap H locs → lv_has ls 6 [] → W p l e R s m args below meth c H locs cells slots Q (F0 m 22 ls [.int v])) (kr137 : ∀ (v : Int32) (H : Heap) (locs : List Loc) (ls : Array Slot), va_P (dC, dI) vwCl [(h0, .inr (12, fsMM mi mr)), ((mr 0), .inl (km_trust, 6, .inl fm_trust)), ((mr 1), .inl (km_letter, 36, .inl fm_letter)), ((mr 2), .inl (km_reportPlace, 24, .inl fm_reportPlace)), ((mr 4), .inl (km_struck, 24, .inl fm_struck))] H → va_S A s.heap H locs → lv_has ls 6 [] → W p l e R s m args below meth c H locs cells slots Q (F0 m 137 ls [.int v])) : ∀ z : Nat, (∀ (v3 : Int32) (v4 : Int32) (H : Heap) (locs : List Loc) (ls : Array Slot), gi p1 0 5 → gi p2 0 2 → gi v4 0 6 → 65 + (-2) * v4.toInt < (z : Int) → va_P (dC, dI) vwCl [(h0, .inr (12, fsMM mi mr)), ((mr 0), .inl (km_trust, 6, .inl fm_trust)), ((mr 1), .inl (km_letter, 36, .inl fm_letter)), ((mr 2), .inl (km_reportPlace, 24, .inl fm_reportPlace)), ((mr 4), .inl (km_struck, 24, .inl fm_struck))] H → va_S A s.heap H locs → lv_has ls 6 [(0, .ref h0), (1, .int p1), (2, .int p2), (3, .int v3), (4, .int v4)] → W p l e R s m args below meth c H locs cells slots Q (F0 m 28 ls [])) ∧ (∀ (v3 : Int32) (v4 : Int32) (v5 : Int32) (H : Heap) (locs : List Loc) (ls : Array Slot), gi p1 0 5 → gi p2 0 2 → gi v5 0 24 → 49 + (-2) * v5.toInt < (z : Int) → va_P (dC, dI) vwCl [(h0, .inr (12, fsMM mi mr)), ((mr 0), .inl (km_trust, 6, .inl fm_trust)), ((mr 1), .inl (km_letter, 36, .inl fm_letter)), ((mr 2), .inl (km_reportPlace, 24, .inl fm_reportPlace)), ((mr 4), .inl (km_struck, 24, .inl fm_struck))] H → va_S A s.heap H locs → lv_has ls 6 [(0, .ref h0), (1, .int p1), (2, .int p2), (3, .int v3), (4, .int v4), (5, .int v5)] → W p l e R s m args below meth c H locs cells slots Q (F0 m 67 ls [])) := by
  intro z
  induction z with
  | zero =>
    refine ⟨?_, ?_⟩
    · intro v3 v4 H locs ls gf_p1 gf_p2 gv4 hmu hP hS hl
      exact absurd hmu (by have hv41 := gv4.1; have hv42 := gv4.2; omega)
    · intro v3 v4 v5 H locs ls gf_p1 gf_p2 gv5 hmu hP hS hl
      exact absurd hmu (by have hv51 := gv5.1; have hv52 := gv5.2; omega)
  | succ z ih =>
    refine ⟨?_, ?_⟩
    · intro v3 v4 H locs ls gf_p1 gf_p2 gv4 hmu hP hS hl
      refine lv_iload hx hb dX12_place_28 (lv_at hl 4 rfl) ?_
      refine lv_aload_n hx hb dX12_place_30 rfl (lv_at hl 0 rfl) ?_
      refine va_get (D := (dC, dI)) (ci := 12) (v := .int (mi 7)) (C := RX12) (T := TX12) (N := 57) hx hb hts (fun w h => List.mem_cons_of_mem _ (jnGB_X12 w h)) hown hK hP 0 rfl rfl 7 (by decide) (hts _ (List.mem_cons_of_mem _ mGB_110)) (fun _ h9 => h9) rfl dX12_place_31 ?_
      refine lv_icmp_ge (tgt := 61) hx hb dX12_place_34 (by decide) (fun c_1761 => ?_) (fun c_1761 => ?_)
      · refine lv_iconst (v := 0) hx hb dX12_place_61 (by decide) ?_
        refine lv_istore (lv' := [(4, .int 0), (0, .ref h0), (1, .int p1), (2, .int p2), (3, .int v3)]) hx hb dX12_place_62 hl (by decide) rfl (fun ls hl => ?_)
        refine lv_iconst (v := 0) hx hb dX12_place_64 (by decide) ?_
        refine lv_istore (lv' := [(5, .int 0), (4, .int 0), (0, .ref h0), (1, .int p1), (2, .int p2), (3, .int v3)]) hx hb dX12_place_65 hl (by decide) rfl (fun ls hl => ?_)
        exact ih.2 v3 0 0 _ _ _ gf_p1 gf_p2 (gi_w (gi_c 0 0 (by decide)) (by decide)) (by have k0 : (0 : Int32).toInt = 0 := (by decide); have av4 := gv4.1; have bv4 := gv4.2; omega) hP hS (lv_sub hl [2, 3, 4, 5, 1, 0] rfl)
      · have g_1762 : gi v4 0 5 := gi_lt_l (Int32.not_le.mp c_1761) gv4 gmi_7 (by decide)
        have g_1763 : gi (mi 7) 1 6 := gi_lt_r (Int32.not_le.mp c_1761) gv4 gmi_7 (by decide)
        refine lv_iload_n hx hb dX12_place_37 rfl (lv_at hl 3 rfl) ?_
        refine lv_aload_n hx hb dX12_place_38 rfl (lv_at hl 0 rfl) ?_
        refine lv_iload hx hb dX12_place_39 (lv_at hl 4 rfl) ?_
        refine lv_iload_n hx hb dX12_place_41 rfl (lv_at hl 1 rfl) ?_
        have hPc := hP.sub (ws' := [(h0, .inr (12, fsMM mi mr)), ((mr 1), .inl (km_letter, 36, .inl fm_letter))]) [0, 2] rfl
        have hKc := hK.sub (tys' := [(km_letter, .int)]) [1] rfl
        refine va_calli (va_runV (As := [.int v4, .int p1]) (rest := [.int v3]) ⟨hx, hb, hml, hown, hts⟩ (sX12_isNameAhead l dC dI h0 mi mr km_letter fm_letter v4 p1 gmi_0 gmi_1 gmi_2 gmi_4 (gi_w g_1763 (by decide)) gmi_10 gmi_17 gmi_23 gmi_24 gmi_26 gmi_29 gmi_30 gmi_33 gmi_37 gmi_41 gmi_50 gmi_51 gmi_56 g_1762 gf_p1) (cwV 2 hts (gz_gV mGB_228 mGB_229 mGB_230 mGB_1 mGB_231 goodGB) rfl rfl rfl (by decide +kernel) ⟨Nat.le_trans (Nat.le_of_ble_eq_true rfl) hRf, Nat.le_trans (Nat.le_of_ble_eq_true rfl) hRl⟩) ⟨fun a U g mk q => by obtain ⟨q0, qP, qK⟩ := q; exact ⟨q0, qP, va_K.moved (u := U) (U := U.calling g mk a) (Vm.Alike.refl U.vm) qK⟩, va_recv hKc hPc (ci := 12) (q0 := 0) rfl rfl, fun U hU hW => ⟨rfl, by rw [hU]; exact hPc, va_K.moved hW.alike hKc⟩⟩ rfl rfl hl.1 rfl (lv_room (Nat.le_of_ble_eq_true rfl)) dX12_place_42 ⟨hRc, hRs⟩) hS (fun q _ h => h.elim) (fun q h => h.elim) (fun r_1764 u t H1 locs ht hvm hw hB hz1 hk1 hS => ?_)
        have hP := gz_keep hP hk1
        generalize H1 = H at hP hS ⊢
        have gr_1764 : gi r_1764 0 1 := hw
        refine lv_if_eq (tgt := 52) hx hb dX12_place_45 (by decide) (fun c_1765 => ?_) (fun c_1765 => ?_)
        · have g_1766 : gi r_1764 0 0 := gi_eq c_1765 (gi_c 0 0 (by decide))
          refine lv_iconst (v := 0) hx hb dX12_place_52 (by decide) ?_
          refine lv_iadd hx hb dX12_place_53 ?_
          refine lv_topi (fun x_1767 ex_1767 => ?_)
          refine lv_istore_n (lv' := [(3, .int x_1767), (0, .ref h0), (1, .int p1), (2, .int p2), (4, .int v4)]) hx hb dX12_place_54 rfl hl (by decide) rfl (fun ls hl => ?_)
          obtain ⟨x_1768, ex_1768⟩ : ∃ y : Int32, y = v4 + 1 := ⟨_, rfl⟩
          have gx_1768 : gi x_1768 1 6 := gi_add ex_1768 g_1762 (gi_c 1 1 (by decide)) (by decide)
          refine lv_iinc (v := x_1768) (lv' := [(4, .int x_1768), (3, .int x_1767), (0, .ref h0), (1, .int p1), (2, .int p2)]) hx hb dX12_place_55 hl (k := 4) rfl (by rw [ex_1768]; rfl) (by decide) rfl (fun ls hl => ?_)
          refine lv_goto (tgt := 28) hx hb dX12_place_58 (by decide) ?_
          exact ih.1 x_1767 x_1768 _ _ _ gf_p1 gf_p2 (gi_w gx_1768 (by decide)) (by have av4 := gv4.1; have bv4 := gv4.2; have qgx_1768 := gx_1768.1; have rgx_1768 := gx_1768.2; have igx_1768 : x_1768.toInt = v4.toInt + 1 := (by have hc1 : (1 : Int32).toInt = 1 := (by decide); have h9 := gi_addI ex_1768 (by have h1 := g_1762.1; have h2 := (gi_c 1 1 (by decide)).1; have h3 := g_1762.2; have h4 := (gi_c 1 1 (by decide)).2; omega) (by have h1 := g_1762.1; have h2 := (gi_c 1 1 (by decide)).1; have h3 := g_1762.2; have h4 := (gi_c 1 1 (by decide)).2; omega); rw [hc1] at h9; exact h9); have qgv4 := g_1762.1; have rgv4 := g_1762.2; omega) hP hS (lv_sub hl [2, 3, 4, 1, 0] rfl)
        · have g_1769 : gi r_1764 1 1 := gi_ne_lo c_1765 gr_1764 (gi_c 0 0 (by decide)) (by decide)
          refine lv_iconst (v := 1) hx hb dX12_place_48 (by decide) ?_
          refine lv_goto (tgt := 53) hx hb dX12_place_49 (by decide) ?_
          refine lv_iadd hx hb dX12_place_53 ?_
          refine lv_topi (fun x_1770 ex_1770 => ?_)
          refine lv_istore_n (lv' := [(3, .int x_1770), (0, .ref h0), (1, .int p1), (2, .int p2), (4, .int v4)]) hx hb dX12_place_54 rfl hl (by decide) rfl (fun ls hl => ?_)
          obtain ⟨x_1771, ex_1771⟩ : ∃ y : Int32, y = v4 + 1 := ⟨_, rfl⟩
          have gx_1771 : gi x_1771 1 6 := gi_add ex_1771 g_1762 (gi_c 1 1 (by decide)) (by decide)
          refine lv_iinc (v := x_1771) (lv' := [(4, .int x_1771), (3, .int x_1770), (0, .ref h0), (1, .int p1), (2, .int p2)]) hx hb dX12_place_55 hl (k := 4) rfl (by rw [ex_1771]; rfl) (by decide) rfl (fun ls hl => ?_)
          refine lv_goto (tgt := 28) hx hb dX12_place_58 (by decide) ?_
          exact ih.1 x_1770 x_1771 _ _ _ gf_p1 gf_p2 (gi_w gx_1771 (by decide)) (by have av4 := gv4.1; have bv4 := gv4.2; have qgx_1771 := gx_1771.1; have rgx_1771 := gx_1771.2; have igx_1771 : x_1771.toInt = v4.toInt + 1 := (by have hc1 : (1 : Int32).toInt = 1 := (by decide); have h9 := gi_addI ex_1771 (by have h1 := g_1762.1; have h2 := (gi_c 1 1 (by decide)).1; have h3 := g_1762.2; have h4 := (gi_c 1 1 (by decide)).2; omega) (by have h1 := g_1762.1; have h2 := (gi_c 1 1 (by decide)).1; have h3 := g_1762.2; have h4 := (gi_c 1 1 (by decide)).2; omega); rw [hc1] at h9; exact h9); have qgv4 := g_1762.1; have rgv4 := g_1762.2; omega) hP hS (lv_sub hl [2, 3, 4, 1, 0] rfl)
    · intro v3 v4 v5 H locs ls gf_p1 gf_p2 gv5 hmu hP hS hl
      refine lv_iload hx hb dX12_place_67 (lv_at hl 5 rfl) ?_
      refine lv_aload_n hx hb dX12_place_69 rfl (lv_at hl 0 rfl) ?_
      refine va_get (D := (dC, dI)) (ci := 12) (v := .int (mi 10)) (C := RX12) (T := TX12) (N := 57) hx hb hts (fun w h => List.mem_cons_of_mem _ (jnGB_X12 w h)) hown hK hP 0 rfl rfl 10 (by decide) (hts _ (List.mem_cons_of_mem _ mGB_111)) (fun _ h9 => h9) rfl dX12_place_70 ?_
      refine lv_icmp_ge (tgt := 113) hx hb dX12_place_73 (by decide) (fun c_1772 => ?_) (fun c_1772 => ?_)
      · refine lv_iload_n hx hb dX12_place_113 rfl (lv_at hl 2 rfl) ?_
        refine lv_if_ne (tgt := 126) hx hb dX12_place_114 (by decide) (fun c_1773 => ?_) (fun c_1773 => ?_)
        · have g_1774 : gi p2 1 2 := gi_ne_lo c_1773 gf_p2 (gi_c 0 0 (by decide)) (by decide)
          refine lv_iload_n hx hb dX12_place_126 rfl (lv_at hl 2 rfl) ?_
          refine lv_iconst (v := 1) hx hb dX12_place_127 (by decide) ?_
          refine lv_icmp_ne (tgt := 135) hx hb dX12_place_128 (by decide) (fun c_1775 => ?_) (fun c_1775 => ?_)
          · have g_1776 : gi p2 2 2 := gi_ne_lo c_1775 g_1774 (gi_c 1 1 (by decide)) (by decide)
            refine lv_iload hx hb dX12_place_135 (lv_at hl 4 rfl) ?_
            exact kr137 v4 _ _ _ hP hS (lv_sub hl [] rfl)
          · have g_1777 : gi p2 1 1 := gi_eq c_1775 (gi_c 1 1 (by decide))
            refine lv_iload_n hx hb dX12_place_131 rfl (lv_at hl 3 rfl) ?_
            refine lv_goto (tgt := 137) hx hb dX12_place_132 (by decide) ?_
            exact kr137 v3 _ _ _ hP hS (lv_sub hl [] rfl)
        · have g_1778 : gi p2 0 0 := gi_eq c_1773 (gi_c 0 0 (by decide))
          refine lv_aload_n hx hb dX12_place_117 rfl (lv_at hl 0 rfl) ?_
          refine va_get (D := (dC, dI)) (ci := 12) (v := .ref (mr 0)) (C := RX12) (T := TX12) (N := 57) hx hb hts (fun w h => List.mem_cons_of_mem _ (jnGB_X12 w h)) hown hK hP 0 rfl rfl 8 (by decide) (hts _ (List.mem_cons_of_mem _ mGB_10)) (fun _ h9 => h9) rfl dX12_place_118 ?_
          refine lv_iload_n hx hb dX12_place_121 rfl (lv_at hl 1 rfl) ?_
          refine va_iald hx hb hK hP 1 0 rfl rfl (gi_in gf_p1 (by decide)) dX12_place_122 ?_
          refine lv_topi (fun x_1779 ex_1779 => ?_)
          refine lv_goto (tgt := 137) hx hb dX12_place_123 (by decide) ?_
          exact kr137 x_1779 _ _ _ hP hS (lv_sub hl [] rfl)
      · have g_1780 : gi v5 0 23 := gi_lt_l (Int32.not_le.mp c_1772) gv5 gmi_10 (by decide)
        have g_1781 : gi (mi 10) 1 24 := gi_lt_r (Int32.not_le.mp c_1772) gv5 gmi_10 (by decide)
        refine lv_iload hx hb dX12_place_76 (lv_at hl 4 rfl) ?_
        refine lv_aload_n hx hb dX12_place_78 rfl (lv_at hl 0 rfl) ?_
        refine va_get (D := (dC, dI)) (ci := 12) (v := .ref (mr 2)) (C := RX12) (T := TX12) (N := 57) hx hb hts (fun w h => List.mem_cons_of_mem _ (jnGB_X12 w h)) hown hK hP 0 rfl rfl 11 (by decide) (hts _ (List.mem_cons_of_mem _ mGB_12)) (fun _ h9 => h9) rfl dX12_place_79 ?_
        refine lv_iload hx hb dX12_place_82 (lv_at hl 5 rfl) ?_
        refine va_iald hx hb hK hP 3 2 rfl rfl (gi_in g_1780 (by decide)) dX12_place_84 ?_
        refine lv_topi (fun x_1782 ex_1782 => ?_)
        have gx_1782 : gi x_1782 0 5 := ga_at gfm_reportPlace (gi_in g_1780 (by decide)) ex_1782
        refine lv_iload_n hx hb dX12_place_85 rfl (lv_at hl 1 rfl) ?_
        refine lv_icmp_ne (tgt := 103) hx hb dX12_place_86 (by decide) (fun c_1783 => ?_) (fun c_1783 => ?_)
        · refine lv_iconst (v := 0) hx hb dX12_place_103 (by decide) ?_
          refine lv_iadd hx hb dX12_place_104 ?_
          refine lv_topi (fun x_1784 ex_1784 => ?_)
          refine lv_istore (lv' := [(4, .int x_1784), (0, .ref h0), (1, .int p1), (2, .int p2), (3, .int v3), (5, .int v5)]) hx hb dX12_place_105 hl (by decide) rfl (fun ls hl => ?_)
          obtain ⟨x_1785, ex_1785⟩ : ∃ y : Int32, y = v5 + 1 := ⟨_, rfl⟩
          have gx_1785 : gi x_1785 1 24 := gi_add ex_1785 g_1780 (gi_c 1 1 (by decide)) (by decide)
          refine lv_iinc (v := x_1785) (lv' := [(5, .int x_1785), (4, .int x_1784), (0, .ref h0), (1, .int p1), (2, .int p2), (3, .int v3)]) hx hb dX12_place_107 hl (k := 5) rfl (by rw [ex_1785]; rfl) (by decide) rfl (fun ls hl => ?_)
          refine lv_goto (tgt := 67) hx hb dX12_place_110 (by decide) ?_
          exact ih.2 v3 x_1784 x_1785 _ _ _ gf_p1 gf_p2 (gi_w gx_1785 (by decide)) (by have av5 := gv5.1; have bv5 := gv5.2; have qgx_1785 := gx_1785.1; have rgx_1785 := gx_1785.2; have igx_1785 : x_1785.toInt = v5.toInt + 1 := (by have hc1 : (1 : Int32).toInt = 1 := (by decide); have h9 := gi_addI ex_1785 (by have h1 := g_1780.1; have h2 := (gi_c 1 1 (by decide)).1; have h3 := g_1780.2; have h4 := (gi_c 1 1 (by decide)).2; omega) (by have h1 := g_1780.1; have h2 := (gi_c 1 1 (by decide)).1; have h3 := g_1780.2; have h4 := (gi_c 1 1 (by decide)).2; omega); rw [hc1] at h9; exact h9); have qgv5 := g_1780.1; have rgv5 := g_1780.2; omega) hP hS (lv_sub hl [2, 3, 4, 5, 1, 0] rfl)
        · refine lv_aload_n hx hb dX12_place_89 rfl (lv_at hl 0 rfl) ?_
          refine va_get (D := (dC, dI)) (ci := 12) (v := .ref (mr 4)) (C := RX12) (T := TX12) (N := 57) hx hb hts (fun w h => List.mem_cons_of_mem _ (jnGB_X12 w h)) hown hK hP 0 rfl rfl 13 (by decide) (hts _ (List.mem_cons_of_mem _ mGB_15)) (fun _ h9 => h9) rfl dX12_place_90 ?_
          refine lv_iload hx hb dX12_place_93 (lv_at hl 5 rfl) ?_
          refine va_zald hx hb hK hP 4 3 rfl rfl (gi_in g_1780 (by decide)) dX12_place_95 ?_
          refine lv_topi (fun x_1786 ex_1786 => ?_)
          have gx_1786 : gi x_1786 0 1 := ga_at gfm_struck (gi_in g_1780 (by decide)) ex_1786
          refine lv_if_ne (tgt := 103) hx hb dX12_place_96 (by decide) (fun c_1787 => ?_) (fun c_1787 => ?_)
          · have g_1788 : gi x_1786 1 1 := gi_ne_lo c_1787 gx_1786 (gi_c 0 0 (by decide)) (by decide)
            refine lv_iconst (v := 0) hx hb dX12_place_103 (by decide) ?_
            refine lv_iadd hx hb dX12_place_104 ?_
            refine lv_topi (fun x_1789 ex_1789 => ?_)
            refine lv_istore (lv' := [(4, .int x_1789), (0, .ref h0), (1, .int p1), (2, .int p2), (3, .int v3), (5, .int v5)]) hx hb dX12_place_105 hl (by decide) rfl (fun ls hl => ?_)
            obtain ⟨x_1790, ex_1790⟩ : ∃ y : Int32, y = v5 + 1 := ⟨_, rfl⟩
            have gx_1790 : gi x_1790 1 24 := gi_add ex_1790 g_1780 (gi_c 1 1 (by decide)) (by decide)
            refine lv_iinc (v := x_1790) (lv' := [(5, .int x_1790), (4, .int x_1789), (0, .ref h0), (1, .int p1), (2, .int p2), (3, .int v3)]) hx hb dX12_place_107 hl (k := 5) rfl (by rw [ex_1790]; rfl) (by decide) rfl (fun ls hl => ?_)
            refine lv_goto (tgt := 67) hx hb dX12_place_110 (by decide) ?_
            exact ih.2 v3 x_1789 x_1790 _ _ _ gf_p1 gf_p2 (gi_w gx_1790 (by decide)) (by have av5 := gv5.1; have bv5 := gv5.2; have qgx_1790 := gx_1790.1; have rgx_1790 := gx_1790.2; have igx_1790 : x_1790.toInt = v5.toInt + 1 := (by have hc1 : (1 : Int32).toInt = 1 := (by decide); have h9 := gi_addI ex_1790 (by have h1 := g_1780.1; have h2 := (gi_c 1 1 (by decide)).1; have h3 := g_1780.2; have h4 := (gi_c 1 1 (by decide)).2; omega) (by have h1 := g_1780.1; have h2 := (gi_c 1 1 (by decide)).1; have h3 := g_1780.2; have h4 := (gi_c 1 1 (by decide)).2; omega); rw [hc1] at h9; exact h9); have qgv5 := g_1780.1; have rgv5 := g_1780.2; omega) hP hS (lv_sub hl [2, 3, 4, 5, 1, 0] rfl)
          · have g_1791 : gi x_1786 0 0 := gi_eq c_1787 (gi_c 0 0 (by decide))
            refine lv_iconst (v := 1) hx hb dX12_place_99 (by decide) ?_
            refine lv_goto (tgt := 104) hx hb dX12_place_100 (by decide) ?_
            refine lv_iadd hx hb dX12_place_104 ?_
            refine lv_topi (fun x_1792 ex_1792 => ?_)
            refine lv_istore (lv' := [(4, .int x_1792), (0, .ref h0), (1, .int p1), (2, .int p2), (3, .int v3), (5, .int v5)]) hx hb dX12_place_105 hl (by decide) rfl (fun ls hl => ?_)
            obtain ⟨x_1793, ex_1793⟩ : ∃ y : Int32, y = v5 + 1 := ⟨_, rfl⟩
            have gx_1793 : gi x_1793 1 24 := gi_add ex_1793 g_1780 (gi_c 1 1 (by decide)) (by decide)
            refine lv_iinc (v := x_1793) (lv' := [(5, .int x_1793), (4, .int x_1792), (0, .ref h0), (1, .int p1), (2, .int p2), (3, .int v3)]) hx hb dX12_place_107 hl (k := 5) rfl (by rw [ex_1793]; rfl) (by decide) rfl (fun ls hl => ?_)
            refine lv_goto (tgt := 67) hx hb dX12_place_110 (by decide) ?_
            exact ih.2 v3 x_1792 x_1793 _ _ _ gf_p1 gf_p2 (gi_w gx_1793 (by decide)) (by have av5 := gv5.1; have bv5 := gv5.2; have qgx_1793 := gx_1793.1; have rgx_1793 := gx_1793.2; have igx_1793 : x_1793.toInt = v5.toInt + 1 := (by have hc1 : (1 : Int32).toInt = 1 := (by decide); have h9 := gi_addI ex_1793 (by have h1 := g_1780.1; have h2 := (gi_c 1 1 (by decide)).1; have h3 := g_1780.2; have h4 := (gi_c 1 1 (by decide)).2; omega) (by have h1 := g_1780.1; have h2 := (gi_c 1 1 (by decide)).1; have h3 := g_1780.2; have h4 := (gi_c 1 1 (by decide)).2; omega); rw [hc1] at h9; exact h9); have qgv5 := g_1780.1; have rgv5 := g_1780.2; omega) hP hS (lv_sub hl [2, 3, 4, 5, 1, 0] rfl)
set_option maxHeartbeats 4000000 in
set_option maxRecDepth 100000 in
theorem sX12_place (l : Launch) (dC : Nat → ClassId) (dI : Nat → Nat → Nat) (h0 : Nat) (mi : Nat → Int32) (mr : Nat → Nat) (km_trust : ClassId) (fm_trust : Nat → Int32) (km_letter : ClassId) (fm_letter : Nat → Int32) (km_reportPlace : ClassId) (fm_reportPlace : Nat → Int32) (km_struck : ClassId) (fm_struck : Nat → Int32) (p1 : Int32) (p2 : Int32) (gmi_0 : gi (mi 0) 0 24) (gmi_1 : gi (mi 1) 0 5) (gmi_2 : gi (mi 2) 0 5) (gmi_4 : gi (mi 4) 0 1) (gmi_7 : gi (mi 7) 0 6) (gmi_10 : gi (mi 10) 0 24) (gmi_17 : gi (mi 17) 0 8) (gmi_23 : gi (mi 23) 0 300) (gmi_24 : gi (mi 24) 0 1) (gmi_26 : gi (mi 26) 0 1600) (gmi_29 : gi (mi 29) 0 1600) (gmi_30 : gi (mi 30) 0 1600) (gmi_33 : gi (mi 33) 0 1) (gmi_37 : gi (mi 37) 0 1) (gmi_41 : gi (mi 41) 0 24) (gmi_50 : gi (mi 50) 0 1) (gmi_51 : gi (mi 51) 0 1) (gmi_56 : gi (mi 56) 0 80) (gfm_reportPlace : ga fm_reportPlace 24 0 5) (gfm_struck : ga fm_struck 24 0 1) : Met l yX12_place (.code yX12_place cX12_place 6 (some .int) :: wsGB) ({ frames := 2, cells := 0, slots := 0, locals := 46 }) (va_Pc [.ref h0, .int p1, .int p2] (fun U => va_P (dC, dI) vwCl [(h0, .inr (12, fsMM mi mr)), ((mr 0), .inl (km_trust, 6, .inl fm_trust)), ((mr 1), .inl (km_letter, 36, .inl fm_letter)), ((mr 2), .inl (km_reportPlace, 24, .inl fm_reportPlace)), ((mr 4), .inl (km_struck, 24, .inl fm_struck))] U.heap ∧ va_K (dC, dI) vwCl [(km_trust, .int), (km_letter, .int), (km_reportPlace, .int), (km_struck, .boolean)] U)) (va_Qi (fun (r : Int32) (u : Unit) => gi r (-2147483648) 2147483647) (fun _ _ => True) (fun _ => False)) 0 0 (fun _ => False) := by
  refine Met.ofW (cc := cX12_place) (maxL := 6) (ret := (some .int)) (by decide) rfl ?_
  intro p e s m args below meth c s₁ B hml hv
  obtain ⟨rfl, hP, hK⟩ := hv
  have hx := B.exec
  have hb := B.bytes
  have hr := B.returns
  have hts := atoms_spec (ws := (.code yX12_place cX12_place 6 (some .int) :: wsGB)) B.pre
  have hown : s.vm.findClass RX12 = some m.cls := findClass_of_methodNamed B.named
  have hlocks := B.notSynchronized
  have hS : va_S (fun _ => False) s.heap s.heap [] := va_S.rf
  have hl := lv_entry ([.ref h0, .int p1, .int p2]) (n := 6) (Nat.le_of_ble_eq_true rfl)
  rw [lg_entry_eq]
  generalize (lg_sl ([.ref h0, .int p1, .int p2]) ++ List.replicate (6 - (lg_sl ([.ref h0, .int p1, .int p2])).length) Slot.unset).toArray = ls at hl ⊢
  have hl : lv_has ls 6 [(0, .ref h0), (1, .int p1), (2, .int p2)] := hl
  refine lv_aload_n hx hb dX12_place_0 rfl (lv_at hl 0 rfl) ?_
  refine lv_iload_n hx hb dX12_place_1 rfl (lv_at hl 1 rfl) ?_
  have hPc := hP.sub (ws' := [(h0, .inr (12, fsMM mi mr))]) [0] rfl
  have hKc := hK.sub (tys' := []) [] rfl
  refine va_calli (va_runV (As := [.int p1]) (rest := []) ⟨hx, hb, hml, hown, hts⟩ (sX12_isPlace l dC dI h0 mi mr p1 gmi_0 gmi_1 gmi_2 gmi_4 gmi_7 gmi_10 gmi_17 gmi_23 gmi_24 gmi_26 gmi_29 gmi_30 gmi_33 gmi_37 gmi_41 gmi_50 gmi_51 gmi_56) (cwV 1 hts (gz_gV mGB_224 mGB_225 mGB_226 mGB_1 mGB_227 goodGB) rfl rfl rfl (by decide +kernel) ⟨Nat.le_of_ble_eq_true rfl, Nat.le_of_ble_eq_true rfl⟩) ⟨fun a U g mk q => by obtain ⟨q0, qP, qK⟩ := q; exact ⟨q0, qP, va_K.moved (u := U) (U := U.calling g mk a) (Vm.Alike.refl U.vm) qK⟩, va_recv hKc hPc (ci := 12) (q0 := 0) rfl rfl, fun U hU hW => ⟨rfl, by rw [hU]; exact hPc, va_K.moved hW.alike hKc⟩⟩ rfl rfl hl.1 rfl (lv_room (Nat.le_of_ble_eq_true rfl)) dX12_place_2 ⟨Nat.zero_le _, Nat.zero_le _⟩) hS (fun q _ h => h.elim) (fun q h => h.elim) (fun r_1794 u t H1 locs ht hvm hw hB hz1 hk1 hS => ?_)
  have hP := gz_keep hP hk1
  generalize H1 = H at hP hS ⊢
  have gr_1794 : gi r_1794 0 1 := hw.1
  have hqr_1794 := hw.2
  refine lv_if_eq (tgt := 20) hx hb dX12_place_5 (by decide) (fun c_1795 => ?_) (fun c_1795 => ?_)
  · have g_1796 : gi r_1794 0 0 := gi_eq c_1795 (gi_c 0 0 (by decide))
    refine lv_bipush (v := (-2)) hx hb dX12_place_20 (by decide) ?_
    exact W.iret (v := (-2)) hx hb hr (fun t ht hW => ⟨⟨(-2), (), rfl, (gi_any (-2)), trivial⟩, hS.F ht⟩) hS.2.2 dX12_place_22
  · have g_1797 : gi r_1794 1 1 := gi_ne_lo c_1795 gr_1794 (gi_c 0 0 (by decide)) (by decide)
    have g_1798 : gi p1 0 5 := gi_cap (gi_any p1) (hqr_1794 (gz_one g_1797)) (by decide)
    refine lv_iload_n hx hb dX12_place_8 rfl (lv_at hl 2 rfl) ?_
    refine lv_i2l (v := (p2).toInt64) hx hb dX12_place_9 rfl ?_
    refine lv_topl (fun l_1799 el_1799 => ?_)
    refine lv_lconst (v := 0) hx hb dX12_place_10 (by decide) ?_
    refine lv_ldc2 (own := RX12) (v := 2) hx hb hown (hts _ (List.mem_cons_of_mem _ mGB_223)) dX12_place_11 ?_
    have hPc := hP.sub (ws' := []) [] rfl
    have hKc := hK.sub (tys' := []) [] rfl
    refine va_calli (va_runS (As := [.long l_1799, .long 0, .long 2]) (rest := []) ⟨hx, hb, hml, hown, hts⟩ (sX12_in l dC dI l_1799 0 2) (cwS 3 hts (gz_gS mGB_47 mGB_48 mGB_1 mGB_49 goodGB) rfl rfl rfl (by decide +kernel) ⟨Nat.le_of_ble_eq_true rfl, Nat.le_of_ble_eq_true rfl⟩) ⟨fun a U g mk q => by obtain ⟨q0, qP, qK⟩ := q; exact ⟨q0, qP, va_K.moved (u := U) (U := U.calling g mk a) (Vm.Alike.refl U.vm) qK⟩, fun U hU hW => ⟨rfl, by rw [hU]; exact hPc, va_K.moved hW.alike hKc⟩⟩ rfl rfl hl.1 rfl (lv_room (Nat.le_of_ble_eq_true rfl)) dX12_place_14 ⟨Nat.zero_le _, Nat.zero_le _⟩) hS (fun q _ h => h.elim) (fun q h => h.elim) (fun r_1800 u t H1 locs ht hvm hw hB hz1 hk1 hS => ?_)
    obtain ⟨hw, hE⟩ := hw
    have hP := gz_keep hP hk1
    generalize H1 = H at hP hS ⊢
    have gr_1800 : gi r_1800 0 1 := hw.1
    have hqr_1800 := hw.2
    refine lv_if_ne (tgt := 23) hx hb dX12_place_17 (by decide) (fun c_1801 => ?_) (fun c_1801 => ?_)
    · have g_1802 : gi r_1800 1 1 := gi_ne_lo c_1801 gr_1800 (gi_c 0 0 (by decide)) (by decide)
      have g_1803 : gi p2 0 2 := gi_cap (gi_any p2) (gz_inr (hqr_1800.1 (gz_one g_1802)) el_1799 (A := 0) (B := 2) (by decide) (by decide)) (by decide)
      refine lv_iconst (v := 0) hx hb dX12_place_23 (by decide) ?_
      refine lv_istore_n (lv' := [(3, .int 0), (0, .ref h0), (1, .int p1), (2, .int p2)]) hx hb dX12_place_24 rfl hl (by decide) rfl (fun ls hl => ?_)
      refine lv_iconst (v := 0) hx hb dX12_place_25 (by decide) ?_
      refine lv_istore (lv' := [(4, .int 0), (3, .int 0), (0, .ref h0), (1, .int p1), (2, .int p2)]) hx hb dX12_place_26 hl (by decide) rfl (fun ls hl => ?_)
      refine (lp_sX12_place h0 mi mr km_trust fm_trust km_letter fm_letter km_reportPlace fm_reportPlace km_struck fm_struck p1 p2 gmi_0 gmi_1 gmi_2 gmi_4 gmi_7 gmi_10 gmi_17 gmi_23 gmi_24 gmi_26 gmi_29 gmi_30 gmi_33 gmi_37 gmi_41 gmi_50 gmi_51 gmi_56 gfm_reportPlace gfm_struck hx hb hml hown hts hK (Nat.le_of_ble_eq_true rfl) (Nat.le_of_ble_eq_true rfl) (Nat.zero_le _) (Nat.zero_le _) (fun v H locs ls gv hP hS hl => ?_) (fun v H locs ls hP hS hl => ?_) 78).1 0 0 _ _ _ g_1798 g_1803 (gi_w (gi_c 0 0 (by decide)) (by decide)) (by have k0 : (0 : Int32).toInt = 0 := (by decide); omega) hP hS (lv_sub hl [2, 3, 4, 1, 0] rfl)
      · skip
        exact W.iret (v := v) hx hb hr (fun t ht hW => ⟨⟨v, (), rfl, (gi_any v), trivial⟩, hS.F ht⟩) hS.2.2 dX12_place_22
      · skip
        exact W.iret (v := v) hx hb hr (fun t ht hW => ⟨⟨v, (), rfl, (gi_any v), trivial⟩, hS.F ht⟩) hS.2.2 dX12_place_137
    · have g_1804 : gi r_1800 0 0 := gi_eq c_1801 (gi_c 0 0 (by decide))
      refine lv_bipush (v := (-2)) hx hb dX12_place_20 (by decide) ?_
      exact W.iret (v := (-2)) hx hb hr (fun t ht hW => ⟨⟨(-2), (), rfl, (gi_any (-2)), trivial⟩, hS.F ht⟩) hS.2.2 dX12_place_22
noncomputable def mt_feed (mi : Nat → Int32) (fm : Nat → Nat → Int32) (o : Int32 × Int32 × (Nat → Int32)) : Int32 × (Nat → Int32) × (Nat → Nat → Int32) := (o.1, (upd mi 26 o.2.1), (updF fm 13 o.2.2))
noncomputable def ms_feed (mi : Nat → Int32) (fm : Nat → Nat → Int32) (p1 : Int32) (p2 : Int32) (p3 : Int32) (p4 : Int32) (p5 : Int32) : Int32 × (Nat → Int32) × (Nat → Nat → Int32) := mt_feed mi fm (fX12_feed mi (fm 13) p1 p2 p3 p4 p5)
set_option maxHeartbeats 4000000 in
set_option maxRecDepth 100000 in
theorem uX12_feed (l : Launch) (dC : Nat → ClassId) (dI : Nat → Nat → Nat) (sz : Nat) (hm : Nat) (mi : Nat → Int32) (mr : Nat → Nat) (km : Nat → ClassId) (fm : Nat → Nat → Int32) (hI : MI mi fm) (p1 : Int32) (p2 : Int32) (p3 : Int32) (p4 : Int32) (p5 : Int32) : Met l yX12_feed (.code yX12_feed cX12_feed 8 (some .int) :: wsGB) ({ frames := 0, cells := 1, slots := 5, locals := 0 }) (va_Pc [.ref hm, .int p1, .int p2, .int p3, .int p4, .int p5] (fun U => U.heap.size = sz ∧ va_P (dC, dI) vwCl (MW hm mi mr km fm) U.heap ∧ va_K (dC, dI) vwCl (MT km) U ∧ va_D (fun _ => True) (MW hm mi mr km fm))) (va_Qi (fun (r : Int32) (u : Int32) => r = u) (fun r t => MB dC dI hm mi mr km fm sz (fun v f => (r, v, f) = ms_feed mi fm p1 p2 p3 p4 p5) t) (va_A (MW hm mi mr km fm) sz)) 1 5 (va_A (MW hm mi mr km fm) sz) := by
  refine gz_mono (sX12_feed l dC dI sz hm mi mr (km 13) (fm 13) p1 p2 p3 p4 p5 hI.1 hI.2.1 hI.2.2.1 hI.2.2.2.1 hI.2.2.2.2.1 hI.2.2.2.2.2.1 hI.2.2.2.2.2.2.1 hI.2.2.2.2.2.2.2.1 hI.2.2.2.2.2.2.2.2.1 hI.2.2.2.2.2.2.2.2.2.1 hI.2.2.2.2.2.2.2.2.2.2.1 hI.2.2.2.2.2.2.2.2.2.2.2.1 hI.2.2.2.2.2.2.2.2.2.2.2.2.2.1 hI.2.2.2.2.2.2.2.2.2.2.2.2.2.2.1 hI.2.2.2.2.2.2.2.2.2.2.2.2.2.2.2.1 hI.2.2.2.2.2.2.2.2.2.2.2.2.2.2.2.2.1 hI.2.2.2.2.2.2.2.2.2.2.2.2.2.2.2.2.2.1 hI.2.2.2.2.2.2.2.2.2.2.2.2.2.2.2.2.2.2.1) ?_ ?_ ?_
  · rintro args s ⟨rfl, hsz, hP, hK, hD⟩
    exact ⟨rfl, hsz, hP.sub (ws' := [(hm, .inr (12, fsMM mi mr)), ((mr 13), .inl ((km 13), 1600, .inl (fm 13)))]) [0, 14] rfl, hK.sub [13] rfl, hD.sub [0, 14] (by decide) rfl⟩
  · rintro args s o t ⟨rfl, hsz, hP, hK, hD⟩ ⟨⟨r, u, ho, hw, w0_26, z1, gw0_26, hpr0, hE, hP1, hD1⟩, hF⟩
    obtain ⟨hu9, hw⟩ := hw
    subst hu9
    subst hsz
    have hD0 := hD.self (sz := s.heap.size)
    have hFr := gz_freeS (ws := MW hm mi mr km fm) (wc := [(hm, .inr (12, fsMM mi mr)), ((mr 13), .inl ((km 13), 1600, .inl (fm 13)))]) (n := s.heap.size) [0, 14] rfl
    obtain ⟨hP2, hD2⟩ := va_join (wr := [((mr 0), .inl ((km 0), 6, .inl (fm 0))), ((mr 1), .inl ((km 1), 36, .inl (fm 1))), ((mr 2), .inl ((km 2), 24, .inl (fm 2))), ((mr 3), .inl ((km 3), 24, .inl (fm 3))), ((mr 4), .inl ((km 4), 24, .inl (fm 4))), ((mr 5), .inl ((km 5), 24, .inl (fm 5))), ((mr 6), .inl ((km 6), 24, .inl (fm 6))), ((mr 7), .inl ((km 7), 24, .inl (fm 7))), ((mr 8), .inl ((km 8), 8, .inl (fm 8))), ((mr 9), .inl ((km 9), 8, .inl (fm 9))), ((mr 10), .inl ((km 10), 8, .inl (fm 10))), ((mr 11), .inl ((km 11), 8, .inl (fm 11))), ((mr 12), .inl ((km 12), 300, .inl (fm 12))), ((mr 14), .inl ((km 14), 25, .inl (fm 14))), ((mr 15), .inl ((km 15), 25, .inl (fm 15))), ((mr 16), .inl ((km 16), 25, .inl (fm 16))), ((mr 17), .inl ((km 17), 6875, .inl (fm 17))), ((mr 18), .inl ((km 18), 24, .inl (fm 18))), ((mr 19), .inl ((km 19), 24, .inl (fm 19))), ((mr 20), .inl ((km 20), 25, .inl (fm 20))), ((mr 21), .inl ((km 21), 25, .inl (fm 21))), ((mr 22), .inl ((km 22), 6875, .inl (fm 22))), ((mr 23), .inl ((km 23), 80, .inl (fm 23)))]) (w1 := [(hm, .inr (12, fsMM (upd mi 26 w0_26) mr)), ((mr 13), .inl ((km 13), 1600, .inl z1))]) hP hD0 [0, 14] [1, 2, 3, 4, 5, 6, 7, 8, 9, 10, 11, 12, 13, 15, 16, 17, 18, 19, 20, 21, 22, 23, 24] rfl rfl (by decide) (by decide) hF.2 hFr hP1 hD1
    have hP3 := hP2.sub (ws' := [(hm, .inr (12, fsMM (upd mi 26 w0_26) mr)), ((mr 0), .inl ((km 0), 6, .inl (fm 0))), ((mr 1), .inl ((km 1), 36, .inl (fm 1))), ((mr 2), .inl ((km 2), 24, .inl (fm 2))), ((mr 3), .inl ((km 3), 24, .inl (fm 3))), ((mr 4), .inl ((km 4), 24, .inl (fm 4))), ((mr 5), .inl ((km 5), 24, .inl (fm 5))), ((mr 6), .inl ((km 6), 24, .inl (fm 6))), ((mr 7), .inl ((km 7), 24, .inl (fm 7))), ((mr 8), .inl ((km 8), 8, .inl (fm 8))), ((mr 9), .inl ((km 9), 8, .inl (fm 9))), ((mr 10), .inl ((km 10), 8, .inl (fm 10))), ((mr 11), .inl ((km 11), 8, .inl (fm 11))), ((mr 12), .inl ((km 12), 300, .inl (fm 12))), ((mr 13), .inl ((km 13), 1600, .inl z1)), ((mr 14), .inl ((km 14), 25, .inl (fm 14))), ((mr 15), .inl ((km 15), 25, .inl (fm 15))), ((mr 16), .inl ((km 16), 25, .inl (fm 16))), ((mr 17), .inl ((km 17), 6875, .inl (fm 17))), ((mr 18), .inl ((km 18), 24, .inl (fm 18))), ((mr 19), .inl ((km 19), 24, .inl (fm 19))), ((mr 20), .inl ((km 20), 25, .inl (fm 20))), ((mr 21), .inl ((km 21), 25, .inl (fm 21))), ((mr 22), .inl ((km 22), 6875, .inl (fm 22))), ((mr 23), .inl ((km 23), 80, .inl (fm 23)))]) [23, 0, 1, 2, 3, 4, 5, 6, 7, 8, 9, 10, 11, 12, 24, 13, 14, 15, 16, 17, 18, 19, 20, 21, 22] rfl
    have hD3 := hD2.sub (ws' := [(hm, .inr (12, fsMM (upd mi 26 w0_26) mr)), ((mr 0), .inl ((km 0), 6, .inl (fm 0))), ((mr 1), .inl ((km 1), 36, .inl (fm 1))), ((mr 2), .inl ((km 2), 24, .inl (fm 2))), ((mr 3), .inl ((km 3), 24, .inl (fm 3))), ((mr 4), .inl ((km 4), 24, .inl (fm 4))), ((mr 5), .inl ((km 5), 24, .inl (fm 5))), ((mr 6), .inl ((km 6), 24, .inl (fm 6))), ((mr 7), .inl ((km 7), 24, .inl (fm 7))), ((mr 8), .inl ((km 8), 8, .inl (fm 8))), ((mr 9), .inl ((km 9), 8, .inl (fm 9))), ((mr 10), .inl ((km 10), 8, .inl (fm 10))), ((mr 11), .inl ((km 11), 8, .inl (fm 11))), ((mr 12), .inl ((km 12), 300, .inl (fm 12))), ((mr 13), .inl ((km 13), 1600, .inl z1)), ((mr 14), .inl ((km 14), 25, .inl (fm 14))), ((mr 15), .inl ((km 15), 25, .inl (fm 15))), ((mr 16), .inl ((km 16), 25, .inl (fm 16))), ((mr 17), .inl ((km 17), 6875, .inl (fm 17))), ((mr 18), .inl ((km 18), 24, .inl (fm 18))), ((mr 19), .inl ((km 19), 24, .inl (fm 19))), ((mr 20), .inl ((km 20), 25, .inl (fm 20))), ((mr 21), .inl ((km 21), 25, .inl (fm 21))), ((mr 22), .inl ((km 22), 6875, .inl (fm 22))), ((mr 23), .inl ((km 23), 80, .inl (fm 23)))]) [23, 0, 1, 2, 3, 4, 5, 6, 7, 8, 9, 10, 11, 12, 24, 13, 14, 15, 16, 17, 18, 19, 20, 21, 22] (by decide) rfl
    exact ⟨⟨r, r, ho, rfl, (upd mi 26 w0_26), (updF fm 13 z1), ⟨hI.1, hI.2.1, hI.2.2.1, hI.2.2.2.1, hI.2.2.2.2.1, hI.2.2.2.2.2.1, hI.2.2.2.2.2.2.1, hI.2.2.2.2.2.2.2.1, hI.2.2.2.2.2.2.2.2.1, gw0_26, hI.2.2.2.2.2.2.2.2.2.2.1, hI.2.2.2.2.2.2.2.2.2.2.2.1, hI.2.2.2.2.2.2.2.2.2.2.2.2.1, hI.2.2.2.2.2.2.2.2.2.2.2.2.2.1, hI.2.2.2.2.2.2.2.2.2.2.2.2.2.2.1, hI.2.2.2.2.2.2.2.2.2.2.2.2.2.2.2.1, hI.2.2.2.2.2.2.2.2.2.2.2.2.2.2.2.2.1, hI.2.2.2.2.2.2.2.2.2.2.2.2.2.2.2.2.2.1, hI.2.2.2.2.2.2.2.2.2.2.2.2.2.2.2.2.2.2.1, hI.2.2.2.2.2.2.2.2.2.2.2.2.2.2.2.2.2.2.2.1, hI.2.2.2.2.2.2.2.2.2.2.2.2.2.2.2.2.2.2.2.2.1, hI.2.2.2.2.2.2.2.2.2.2.2.2.2.2.2.2.2.2.2.2.2.1, hI.2.2.2.2.2.2.2.2.2.2.2.2.2.2.2.2.2.2.2.2.2.2.1, hI.2.2.2.2.2.2.2.2.2.2.2.2.2.2.2.2.2.2.2.2.2.2.2.1, hI.2.2.2.2.2.2.2.2.2.2.2.2.2.2.2.2.2.2.2.2.2.2.2.2.1, hI.2.2.2.2.2.2.2.2.2.2.2.2.2.2.2.2.2.2.2.2.2.2.2.2.2.1, hI.2.2.2.2.2.2.2.2.2.2.2.2.2.2.2.2.2.2.2.2.2.2.2.2.2.2.1, hI.2.2.2.2.2.2.2.2.2.2.2.2.2.2.2.2.2.2.2.2.2.2.2.2.2.2.2.1, hI.2.2.2.2.2.2.2.2.2.2.2.2.2.2.2.2.2.2.2.2.2.2.2.2.2.2.2.2⟩, congrArg (mt_feed mi fm) hE, hP3, hD3⟩, hF.1, fun q h1 h2 => hF.2 q h1 (fun h => h2 (hFr q h))⟩
  · exact gz_freeS (ws := MW hm mi mr km fm) (wc := [(hm, .inr (12, fsMM mi mr)), ((mr 13), .inl ((km 13), 1600, .inl (fm 13)))]) (n := sz) [0, 14] rfl
noncomputable def mt_end (mi : Nat → Int32) (fm : Nat → Nat → Int32) (o : Int32 × Int32) : Int32 × (Nat → Int32) × (Nat → Nat → Int32) := (o.1, (upd mi 26 o.2), fm)
noncomputable def ms_end (mi : Nat → Int32) (fm : Nat → Nat → Int32) (p1 : Int32) : Int32 × (Nat → Int32) × (Nat → Nat → Int32) := mt_end mi fm (fX12_end mi p1)
set_option maxHeartbeats 4000000 in
set_option maxRecDepth 100000 in
theorem uX12_end (l : Launch) (dC : Nat → ClassId) (dI : Nat → Nat → Nat) (sz : Nat) (hm : Nat) (mi : Nat → Int32) (mr : Nat → Nat) (km : Nat → ClassId) (fm : Nat → Nat → Int32) (hI : MI mi fm) (p1 : Int32) : Met l yX12_end (.code yX12_end cX12_end 2 (some .int) :: wsGB) ({ frames := 1, cells := 0, slots := 0, locals := 25 }) (va_Pc [.ref hm, .int p1] (fun U => U.heap.size = sz ∧ va_P (dC, dI) vwCl (MW hm mi mr km fm) U.heap ∧ va_K (dC, dI) vwCl (MT km) U ∧ va_D (fun _ => True) (MW hm mi mr km fm))) (va_Qi (fun (r : Int32) (u : Int32) => r = u) (fun r t => MB dC dI hm mi mr km fm sz (fun v f => (r, v, f) = ms_end mi fm p1) t) (va_A (MW hm mi mr km fm) sz)) 0 0 (va_A (MW hm mi mr km fm) sz) := by
  refine gz_mono (sX12_end l dC dI sz hm mi mr p1 hI.1 hI.2.1 hI.2.2.1 hI.2.2.2.1 hI.2.2.2.2.1 hI.2.2.2.2.2.1 hI.2.2.2.2.2.2.1 hI.2.2.2.2.2.2.2.1 hI.2.2.2.2.2.2.2.2.1 hI.2.2.2.2.2.2.2.2.2.1 hI.2.2.2.2.2.2.2.2.2.2.1 hI.2.2.2.2.2.2.2.2.2.2.2.1 hI.2.2.2.2.2.2.2.2.2.2.2.2.2.1 hI.2.2.2.2.2.2.2.2.2.2.2.2.2.2.1 hI.2.2.2.2.2.2.2.2.2.2.2.2.2.2.2.1 hI.2.2.2.2.2.2.2.2.2.2.2.2.2.2.2.2.1 hI.2.2.2.2.2.2.2.2.2.2.2.2.2.2.2.2.2.1 hI.2.2.2.2.2.2.2.2.2.2.2.2.2.2.2.2.2.2.1) ?_ ?_ ?_
  · rintro args s ⟨rfl, hsz, hP, hK, hD⟩
    exact ⟨rfl, hsz, hP.sub (ws' := [(hm, .inr (12, fsMM mi mr))]) [0] rfl, hK.sub [] rfl, hD.sub [0] (by decide) rfl⟩
  · rintro args s o t ⟨rfl, hsz, hP, hK, hD⟩ ⟨⟨r, u, ho, hw, w0_26, gw0_26, hpr0, hE, hP1, hD1⟩, hF⟩
    obtain ⟨hu9, hw⟩ := hw
    subst hu9
    subst hsz
    have hD0 := hD.self (sz := s.heap.size)
    have hFr := gz_freeS (ws := MW hm mi mr km fm) (wc := [(hm, .inr (12, fsMM mi mr))]) (n := s.heap.size) [0] rfl
    obtain ⟨hP2, hD2⟩ := va_join (wr := [((mr 0), .inl ((km 0), 6, .inl (fm 0))), ((mr 1), .inl ((km 1), 36, .inl (fm 1))), ((mr 2), .inl ((km 2), 24, .inl (fm 2))), ((mr 3), .inl ((km 3), 24, .inl (fm 3))), ((mr 4), .inl ((km 4), 24, .inl (fm 4))), ((mr 5), .inl ((km 5), 24, .inl (fm 5))), ((mr 6), .inl ((km 6), 24, .inl (fm 6))), ((mr 7), .inl ((km 7), 24, .inl (fm 7))), ((mr 8), .inl ((km 8), 8, .inl (fm 8))), ((mr 9), .inl ((km 9), 8, .inl (fm 9))), ((mr 10), .inl ((km 10), 8, .inl (fm 10))), ((mr 11), .inl ((km 11), 8, .inl (fm 11))), ((mr 12), .inl ((km 12), 300, .inl (fm 12))), ((mr 13), .inl ((km 13), 1600, .inl (fm 13))), ((mr 14), .inl ((km 14), 25, .inl (fm 14))), ((mr 15), .inl ((km 15), 25, .inl (fm 15))), ((mr 16), .inl ((km 16), 25, .inl (fm 16))), ((mr 17), .inl ((km 17), 6875, .inl (fm 17))), ((mr 18), .inl ((km 18), 24, .inl (fm 18))), ((mr 19), .inl ((km 19), 24, .inl (fm 19))), ((mr 20), .inl ((km 20), 25, .inl (fm 20))), ((mr 21), .inl ((km 21), 25, .inl (fm 21))), ((mr 22), .inl ((km 22), 6875, .inl (fm 22))), ((mr 23), .inl ((km 23), 80, .inl (fm 23)))]) (w1 := [(hm, .inr (12, fsMM (upd mi 26 w0_26) mr))]) hP hD0 [0] [1, 2, 3, 4, 5, 6, 7, 8, 9, 10, 11, 12, 13, 14, 15, 16, 17, 18, 19, 20, 21, 22, 23, 24] rfl rfl (by decide) (by decide) hF.2 hFr hP1 hD1
    have hP3 := hP2.sub (ws' := [(hm, .inr (12, fsMM (upd mi 26 w0_26) mr)), ((mr 0), .inl ((km 0), 6, .inl (fm 0))), ((mr 1), .inl ((km 1), 36, .inl (fm 1))), ((mr 2), .inl ((km 2), 24, .inl (fm 2))), ((mr 3), .inl ((km 3), 24, .inl (fm 3))), ((mr 4), .inl ((km 4), 24, .inl (fm 4))), ((mr 5), .inl ((km 5), 24, .inl (fm 5))), ((mr 6), .inl ((km 6), 24, .inl (fm 6))), ((mr 7), .inl ((km 7), 24, .inl (fm 7))), ((mr 8), .inl ((km 8), 8, .inl (fm 8))), ((mr 9), .inl ((km 9), 8, .inl (fm 9))), ((mr 10), .inl ((km 10), 8, .inl (fm 10))), ((mr 11), .inl ((km 11), 8, .inl (fm 11))), ((mr 12), .inl ((km 12), 300, .inl (fm 12))), ((mr 13), .inl ((km 13), 1600, .inl (fm 13))), ((mr 14), .inl ((km 14), 25, .inl (fm 14))), ((mr 15), .inl ((km 15), 25, .inl (fm 15))), ((mr 16), .inl ((km 16), 25, .inl (fm 16))), ((mr 17), .inl ((km 17), 6875, .inl (fm 17))), ((mr 18), .inl ((km 18), 24, .inl (fm 18))), ((mr 19), .inl ((km 19), 24, .inl (fm 19))), ((mr 20), .inl ((km 20), 25, .inl (fm 20))), ((mr 21), .inl ((km 21), 25, .inl (fm 21))), ((mr 22), .inl ((km 22), 6875, .inl (fm 22))), ((mr 23), .inl ((km 23), 80, .inl (fm 23)))]) [24, 0, 1, 2, 3, 4, 5, 6, 7, 8, 9, 10, 11, 12, 13, 14, 15, 16, 17, 18, 19, 20, 21, 22, 23] rfl
    have hD3 := hD2.sub (ws' := [(hm, .inr (12, fsMM (upd mi 26 w0_26) mr)), ((mr 0), .inl ((km 0), 6, .inl (fm 0))), ((mr 1), .inl ((km 1), 36, .inl (fm 1))), ((mr 2), .inl ((km 2), 24, .inl (fm 2))), ((mr 3), .inl ((km 3), 24, .inl (fm 3))), ((mr 4), .inl ((km 4), 24, .inl (fm 4))), ((mr 5), .inl ((km 5), 24, .inl (fm 5))), ((mr 6), .inl ((km 6), 24, .inl (fm 6))), ((mr 7), .inl ((km 7), 24, .inl (fm 7))), ((mr 8), .inl ((km 8), 8, .inl (fm 8))), ((mr 9), .inl ((km 9), 8, .inl (fm 9))), ((mr 10), .inl ((km 10), 8, .inl (fm 10))), ((mr 11), .inl ((km 11), 8, .inl (fm 11))), ((mr 12), .inl ((km 12), 300, .inl (fm 12))), ((mr 13), .inl ((km 13), 1600, .inl (fm 13))), ((mr 14), .inl ((km 14), 25, .inl (fm 14))), ((mr 15), .inl ((km 15), 25, .inl (fm 15))), ((mr 16), .inl ((km 16), 25, .inl (fm 16))), ((mr 17), .inl ((km 17), 6875, .inl (fm 17))), ((mr 18), .inl ((km 18), 24, .inl (fm 18))), ((mr 19), .inl ((km 19), 24, .inl (fm 19))), ((mr 20), .inl ((km 20), 25, .inl (fm 20))), ((mr 21), .inl ((km 21), 25, .inl (fm 21))), ((mr 22), .inl ((km 22), 6875, .inl (fm 22))), ((mr 23), .inl ((km 23), 80, .inl (fm 23)))]) [24, 0, 1, 2, 3, 4, 5, 6, 7, 8, 9, 10, 11, 12, 13, 14, 15, 16, 17, 18, 19, 20, 21, 22, 23] (by decide) rfl
    exact ⟨⟨r, r, ho, rfl, (upd mi 26 w0_26), fm, ⟨hI.1, hI.2.1, hI.2.2.1, hI.2.2.2.1, hI.2.2.2.2.1, hI.2.2.2.2.2.1, hI.2.2.2.2.2.2.1, hI.2.2.2.2.2.2.2.1, hI.2.2.2.2.2.2.2.2.1, gw0_26, hI.2.2.2.2.2.2.2.2.2.2.1, hI.2.2.2.2.2.2.2.2.2.2.2.1, hI.2.2.2.2.2.2.2.2.2.2.2.2.1, hI.2.2.2.2.2.2.2.2.2.2.2.2.2.1, hI.2.2.2.2.2.2.2.2.2.2.2.2.2.2.1, hI.2.2.2.2.2.2.2.2.2.2.2.2.2.2.2.1, hI.2.2.2.2.2.2.2.2.2.2.2.2.2.2.2.2.1, hI.2.2.2.2.2.2.2.2.2.2.2.2.2.2.2.2.2.1, hI.2.2.2.2.2.2.2.2.2.2.2.2.2.2.2.2.2.2.1, hI.2.2.2.2.2.2.2.2.2.2.2.2.2.2.2.2.2.2.2.1, hI.2.2.2.2.2.2.2.2.2.2.2.2.2.2.2.2.2.2.2.2.1, hI.2.2.2.2.2.2.2.2.2.2.2.2.2.2.2.2.2.2.2.2.2.1, hI.2.2.2.2.2.2.2.2.2.2.2.2.2.2.2.2.2.2.2.2.2.2.1, hI.2.2.2.2.2.2.2.2.2.2.2.2.2.2.2.2.2.2.2.2.2.2.2.1, hI.2.2.2.2.2.2.2.2.2.2.2.2.2.2.2.2.2.2.2.2.2.2.2.2.1, hI.2.2.2.2.2.2.2.2.2.2.2.2.2.2.2.2.2.2.2.2.2.2.2.2.2.1, hI.2.2.2.2.2.2.2.2.2.2.2.2.2.2.2.2.2.2.2.2.2.2.2.2.2.2.1, hI.2.2.2.2.2.2.2.2.2.2.2.2.2.2.2.2.2.2.2.2.2.2.2.2.2.2.2.1, hI.2.2.2.2.2.2.2.2.2.2.2.2.2.2.2.2.2.2.2.2.2.2.2.2.2.2.2.2⟩, congrArg (mt_end mi fm) hE, hP3, hD3⟩, hF.1, fun q h1 h2 => hF.2 q h1 (fun h => h2 (hFr q h))⟩
  · exact gz_freeS (ws := MW hm mi mr km fm) (wc := [(hm, .inr (12, fsMM mi mr))]) (n := sz) [0] rfl
noncomputable def mt_almanac (mi : Nat → Int32) (fm : Nat → Nat → Int32) (o : Int32 × Int32 × Int32 × Int32 × Int32 × Int32 × Int32 × Int32 × Int32 × Int32 × Int32 × Int32 × Int32 × Int32 × Int32 × Int32 × Int32 × Int32 × Int32 × Int32 × Int32 × (Nat → Int32) × (Nat → Int32) × (Nat → Int32) × (Nat → Int32) × (Nat → Int32) × (Nat → Int32) × (Nat → Int32) × (Nat → Int32) × (Nat → Int32) × (Nat → Int32) × (Nat → Int32) × (Nat → Int32) × (Nat → Int32)) : Int32 × (Nat → Int32) × (Nat → Nat → Int32) := (o.1, (upd (upd (upd (upd (upd (upd (upd (upd (upd (upd (upd (upd (upd (upd (upd (upd (upd (upd (upd (upd mi 0 o.2.1) 1 o.2.2.1) 2 o.2.2.2.1) 3 o.2.2.2.2.1) 4 o.2.2.2.2.2.1) 5 o.2.2.2.2.2.2.1) 6 o.2.2.2.2.2.2.2.1) 7 o.2.2.2.2.2.2.2.2.1) 10 o.2.2.2.2.2.2.2.2.2.1) 17 o.2.2.2.2.2.2.2.2.2.2.1) 23 o.2.2.2.2.2.2.2.2.2.2.2.1) 24 o.2.2.2.2.2.2.2.2.2.2.2.2.1) 26 o.2.2.2.2.2.2.2.2.2.2.2.2.2.1) 27 o.2.2.2.2.2.2.2.2.2.2.2.2.2.2.1) 28 o.2.2.2.2.2.2.2.2.2.2.2.2.2.2.2.1) 29 o.2.2.2.2.2.2.2.2.2.2.2.2.2.2.2.2.1) 30 o.2.2.2.2.2.2.2.2.2.2.2.2.2.2.2.2.2.1) 31 o.2.2.2.2.2.2.2.2.2.2.2.2.2.2.2.2.2.2.1) 32 o.2.2.2.2.2.2.2.2.2.2.2.2.2.2.2.2.2.2.2.1) 33 o.2.2.2.2.2.2.2.2.2.2.2.2.2.2.2.2.2.2.2.2.1), (updF (updF (updF (updF (updF (updF (updF (updF (updF (updF (updF (updF (updF fm 12 o.2.2.2.2.2.2.2.2.2.2.2.2.2.2.2.2.2.2.2.2.2.1) 0 o.2.2.2.2.2.2.2.2.2.2.2.2.2.2.2.2.2.2.2.2.2.2.1) 1 o.2.2.2.2.2.2.2.2.2.2.2.2.2.2.2.2.2.2.2.2.2.2.2.1) 2 o.2.2.2.2.2.2.2.2.2.2.2.2.2.2.2.2.2.2.2.2.2.2.2.2.1) 3 o.2.2.2.2.2.2.2.2.2.2.2.2.2.2.2.2.2.2.2.2.2.2.2.2.2.1) 5 o.2.2.2.2.2.2.2.2.2.2.2.2.2.2.2.2.2.2.2.2.2.2.2.2.2.2.1) 6 o.2.2.2.2.2.2.2.2.2.2.2.2.2.2.2.2.2.2.2.2.2.2.2.2.2.2.2.1) 7 o.2.2.2.2.2.2.2.2.2.2.2.2.2.2.2.2.2.2.2.2.2.2.2.2.2.2.2.2.1) 8 o.2.2.2.2.2.2.2.2.2.2.2.2.2.2.2.2.2.2.2.2.2.2.2.2.2.2.2.2.2.1) 9 o.2.2.2.2.2.2.2.2.2.2.2.2.2.2.2.2.2.2.2.2.2.2.2.2.2.2.2.2.2.2.1) 10 o.2.2.2.2.2.2.2.2.2.2.2.2.2.2.2.2.2.2.2.2.2.2.2.2.2.2.2.2.2.2.2.1) 11 o.2.2.2.2.2.2.2.2.2.2.2.2.2.2.2.2.2.2.2.2.2.2.2.2.2.2.2.2.2.2.2.2.1) 4 o.2.2.2.2.2.2.2.2.2.2.2.2.2.2.2.2.2.2.2.2.2.2.2.2.2.2.2.2.2.2.2.2.2))
noncomputable def ms_almanac (mi : Nat → Int32) (fm : Nat → Nat → Int32) : Int32 × (Nat → Int32) × (Nat → Nat → Int32) := mt_almanac mi fm (fX12_almanac mi (fm 13) (fm 12) (fm 0) (fm 1) (fm 2) (fm 3) (fm 5) (fm 6) (fm 7) (fm 8) (fm 9) (fm 10) (fm 11) (fm 4))
set_option maxHeartbeats 4000000 in
set_option maxRecDepth 100000 in
theorem uX12_almanac (l : Launch) (dC : Nat → ClassId) (dI : Nat → Nat → Nat) (sz : Nat) (hm : Nat) (mi : Nat → Int32) (mr : Nat → Nat) (km : Nat → ClassId) (fm : Nat → Nat → Int32) (sa sb : Nat → Nat) (zf : Value) (hI : MI mi fm) : Met l yX12_almanac (.code yX12_almanac cX12_almanac 1 (some .int) :: wsGB) ({ frames := 9, cells := 0, slots := 0, locals := 197 }) (va_Pc [.ref hm] (fun U => U.heap.size = sz ∧ va_P (dC, dI) vwCl (MW hm mi mr km fm) U.heap ∧ va_K (dC, dI) vwCl (MT km) U ∧ va_D (fun _ => True) (MW hm mi mr km fm) ∧ gz_ST RX12 stIB sa sb zf (va_A (MW hm mi mr km fm) sz) U U.heap)) (va_Qi (fun (r : Int32) (u : Int32) => r = u) (fun r t => MB dC dI hm mi mr km fm sz (fun v f => (r, v, f) = ms_almanac mi fm) t) (va_A (MW hm mi mr km fm) sz)) 0 0 (va_A (MW hm mi mr km fm) sz) := by
  refine gz_mono (sX12_almanacP l dC dI sz hm mi mr (km 13) (fm 13) (km 12) (fm 12) (km 0) (fm 0) (km 1) (fm 1) (km 2) (fm 2) (km 3) (fm 3) (km 5) (fm 5) (km 6) (fm 6) (km 7) (fm 7) (km 8) (fm 8) (km 9) (fm 9) (km 10) (fm 10) (km 11) (fm 11) (km 4) (fm 4) sa sb zf (gi_w hI.1 (by decide)) (gi_w hI.2.1 (by decide)) (gi_w hI.2.2.1 (by decide)) hI.2.2.2.1 hI.2.2.2.2.1 hI.2.2.2.2.2.1 hI.2.2.2.2.2.2.1 hI.2.2.2.2.2.2.2.1 hI.2.2.2.2.2.2.2.2.1 hI.2.2.2.2.2.2.2.2.2.1 hI.2.2.2.2.2.2.2.2.2.2.1 hI.2.2.2.2.2.2.2.2.2.2.2.1 hI.2.2.2.2.2.2.2.2.2.2.2.2.1 hI.2.2.2.2.2.2.2.2.2.2.2.2.2.1 hI.2.2.2.2.2.2.2.2.2.2.2.2.2.2.1 hI.2.2.2.2.2.2.2.2.2.2.2.2.2.2.2.1 hI.2.2.2.2.2.2.2.2.2.2.2.2.2.2.2.2.1 hI.2.2.2.2.2.2.2.2.2.2.2.2.2.2.2.2.2.1 hI.2.2.2.2.2.2.2.2.2.2.2.2.2.2.2.2.2.2.1 hI.2.2.2.2.2.2.2.2.2.2.2.2.2.2.2.2.2.2.2.1 hI.2.2.2.2.2.2.2.2.2.2.2.2.2.2.2.2.2.2.2.2.2.1 hI.2.2.2.2.2.2.2.2.2.2.2.2.2.2.2.2.2.2.2.2.2.2.1 hI.2.2.2.2.2.2.2.2.2.2.2.2.2.2.2.2.2.2.2.2.2.2.2.1 hI.2.2.2.2.2.2.2.2.2.2.2.2.2.2.2.2.2.2.2.2.2.2.2.2.1 hI.2.2.2.2.2.2.2.2.2.2.2.2.2.2.2.2.2.2.2.2.2.2.2.2.2.1 hI.2.2.2.2.2.2.2.2.2.2.2.2.2.2.2.2.2.2.2.2.1 hI.2.2.2.2.2.2.2.2.2.2.2.2.2.2.2.2.2.2.2.2.2.2.2.2.2.2.2.1 (hI.1).2 (hI.2.1).2 (hI.2.2.1).2 hI.2.2.2.2.2.2.2.2.2.2.2.2.2.2.2.2.2.2.2.2.2.2.2.2.2.2.2.2) ?_ ?_ ?_
  · rintro args s ⟨rfl, hsz, hP, hK, hD, hT⟩
    exact ⟨rfl, hsz, hP.sub (ws' := [(hm, .inr (12, fsMM mi mr)), ((mr 13), .inl ((km 13), 1600, .inl (fm 13))), ((mr 12), .inl ((km 12), 300, .inl (fm 12))), ((mr 0), .inl ((km 0), 6, .inl (fm 0))), ((mr 1), .inl ((km 1), 36, .inl (fm 1))), ((mr 2), .inl ((km 2), 24, .inl (fm 2))), ((mr 3), .inl ((km 3), 24, .inl (fm 3))), ((mr 5), .inl ((km 5), 24, .inl (fm 5))), ((mr 6), .inl ((km 6), 24, .inl (fm 6))), ((mr 7), .inl ((km 7), 24, .inl (fm 7))), ((mr 8), .inl ((km 8), 8, .inl (fm 8))), ((mr 9), .inl ((km 9), 8, .inl (fm 9))), ((mr 10), .inl ((km 10), 8, .inl (fm 10))), ((mr 11), .inl ((km 11), 8, .inl (fm 11))), ((mr 4), .inl ((km 4), 24, .inl (fm 4)))]) [0, 14, 13, 1, 2, 3, 4, 6, 7, 8, 9, 10, 11, 12, 5] rfl, hK.sub [13, 12, 0, 1, 2, 3, 5, 6, 7, 8, 9, 10, 11, 4] rfl, hD.sub [0, 14, 13, 1, 2, 3, 4, 6, 7, 8, 9, 10, 11, 12, 5] (by decide) rfl, hT.narrow (gz_freeS [0, 14, 13, 1, 2, 3, 4, 6, 7, 8, 9, 10, 11, 12, 5] rfl)⟩
  · rintro args s o t ⟨rfl, hsz, hP, hK, hD, hT⟩ ⟨⟨r, u, ho, hw, w0_0, w0_1, w0_2, w0_3, w0_4, w0_5, w0_6, w0_7, w0_10, w0_17, w0_23, w0_24, w0_26, w0_27, w0_28, w0_29, w0_30, w0_31, w0_32, w0_33, z2, z3, z4, z5, z6, z7, z8, z9, z10, z11, z12, z13, z14, gw0_0, gw0_1, gw0_2, gw0_4, gw0_7, gw0_10, gw0_17, gw0_23, gw0_24, gw0_26, gw0_29, gw0_30, gw0_32, gw0_33, gz5, gz7, gz8, gz9, gz10, gz12, gz14, hpr0, hpr1, hpr2, hpr3, hpr4, hpr5, hE, hP1, hD1⟩, hF⟩
    obtain ⟨hu9, hw⟩ := hw
    subst hu9
    subst hsz
    have hD0 := hD.self (sz := s.heap.size)
    have hFr := gz_freeS (ws := MW hm mi mr km fm) (wc := [(hm, .inr (12, fsMM mi mr)), ((mr 13), .inl ((km 13), 1600, .inl (fm 13))), ((mr 12), .inl ((km 12), 300, .inl (fm 12))), ((mr 0), .inl ((km 0), 6, .inl (fm 0))), ((mr 1), .inl ((km 1), 36, .inl (fm 1))), ((mr 2), .inl ((km 2), 24, .inl (fm 2))), ((mr 3), .inl ((km 3), 24, .inl (fm 3))), ((mr 5), .inl ((km 5), 24, .inl (fm 5))), ((mr 6), .inl ((km 6), 24, .inl (fm 6))), ((mr 7), .inl ((km 7), 24, .inl (fm 7))), ((mr 8), .inl ((km 8), 8, .inl (fm 8))), ((mr 9), .inl ((km 9), 8, .inl (fm 9))), ((mr 10), .inl ((km 10), 8, .inl (fm 10))), ((mr 11), .inl ((km 11), 8, .inl (fm 11))), ((mr 4), .inl ((km 4), 24, .inl (fm 4)))]) (n := s.heap.size) [0, 14, 13, 1, 2, 3, 4, 6, 7, 8, 9, 10, 11, 12, 5] rfl
    obtain ⟨hP2, hD2⟩ := va_join (wr := [((mr 14), .inl ((km 14), 25, .inl (fm 14))), ((mr 15), .inl ((km 15), 25, .inl (fm 15))), ((mr 16), .inl ((km 16), 25, .inl (fm 16))), ((mr 17), .inl ((km 17), 6875, .inl (fm 17))), ((mr 18), .inl ((km 18), 24, .inl (fm 18))), ((mr 19), .inl ((km 19), 24, .inl (fm 19))), ((mr 20), .inl ((km 20), 25, .inl (fm 20))), ((mr 21), .inl ((km 21), 25, .inl (fm 21))), ((mr 22), .inl ((km 22), 6875, .inl (fm 22))), ((mr 23), .inl ((km 23), 80, .inl (fm 23)))]) (w1 := [(hm, .inr (12, fsMM (upd (upd (upd (upd (upd (upd (upd (upd (upd (upd (upd (upd (upd (upd (upd (upd (upd (upd (upd (upd mi 0 w0_0) 1 w0_1) 2 w0_2) 3 w0_3) 4 w0_4) 5 w0_5) 6 w0_6) 7 w0_7) 10 w0_10) 17 w0_17) 23 w0_23) 24 w0_24) 26 w0_26) 27 w0_27) 28 w0_28) 29 w0_29) 30 w0_30) 31 w0_31) 32 w0_32) 33 w0_33) mr)), ((mr 13), .inl ((km 13), 1600, .inl (fm 13))), ((mr 12), .inl ((km 12), 300, .inl z2)), ((mr 0), .inl ((km 0), 6, .inl z3)), ((mr 1), .inl ((km 1), 36, .inl z4)), ((mr 2), .inl ((km 2), 24, .inl z5)), ((mr 3), .inl ((km 3), 24, .inl z6)), ((mr 5), .inl ((km 5), 24, .inl z7)), ((mr 6), .inl ((km 6), 24, .inl z8)), ((mr 7), .inl ((km 7), 24, .inl z9)), ((mr 8), .inl ((km 8), 8, .inl z10)), ((mr 9), .inl ((km 9), 8, .inl z11)), ((mr 10), .inl ((km 10), 8, .inl z12)), ((mr 11), .inl ((km 11), 8, .inl z13)), ((mr 4), .inl ((km 4), 24, .inl z14))]) hP hD0 [0, 14, 13, 1, 2, 3, 4, 6, 7, 8, 9, 10, 11, 12, 5] [15, 16, 17, 18, 19, 20, 21, 22, 23, 24] rfl rfl (by decide) (by decide) hF.2 hFr hP1 hD1
    have hP3 := hP2.sub (ws' := [(hm, .inr (12, fsMM (upd (upd (upd (upd (upd (upd (upd (upd (upd (upd (upd (upd (upd (upd (upd (upd (upd (upd (upd (upd mi 0 w0_0) 1 w0_1) 2 w0_2) 3 w0_3) 4 w0_4) 5 w0_5) 6 w0_6) 7 w0_7) 10 w0_10) 17 w0_17) 23 w0_23) 24 w0_24) 26 w0_26) 27 w0_27) 28 w0_28) 29 w0_29) 30 w0_30) 31 w0_31) 32 w0_32) 33 w0_33) mr)), ((mr 0), .inl ((km 0), 6, .inl z3)), ((mr 1), .inl ((km 1), 36, .inl z4)), ((mr 2), .inl ((km 2), 24, .inl z5)), ((mr 3), .inl ((km 3), 24, .inl z6)), ((mr 4), .inl ((km 4), 24, .inl z14)), ((mr 5), .inl ((km 5), 24, .inl z7)), ((mr 6), .inl ((km 6), 24, .inl z8)), ((mr 7), .inl ((km 7), 24, .inl z9)), ((mr 8), .inl ((km 8), 8, .inl z10)), ((mr 9), .inl ((km 9), 8, .inl z11)), ((mr 10), .inl ((km 10), 8, .inl z12)), ((mr 11), .inl ((km 11), 8, .inl z13)), ((mr 12), .inl ((km 12), 300, .inl z2)), ((mr 13), .inl ((km 13), 1600, .inl (fm 13))), ((mr 14), .inl ((km 14), 25, .inl (fm 14))), ((mr 15), .inl ((km 15), 25, .inl (fm 15))), ((mr 16), .inl ((km 16), 25, .inl (fm 16))), ((mr 17), .inl ((km 17), 6875, .inl (fm 17))), ((mr 18), .inl ((km 18), 24, .inl (fm 18))), ((mr 19), .inl ((km 19), 24, .inl (fm 19))), ((mr 20), .inl ((km 20), 25, .inl (fm 20))), ((mr 21), .inl ((km 21), 25, .inl (fm 21))), ((mr 22), .inl ((km 22), 6875, .inl (fm 22))), ((mr 23), .inl ((km 23), 80, .inl (fm 23)))]) [10, 13, 14, 15, 16, 24, 17, 18, 19, 20, 21, 22, 23, 12, 11, 0, 1, 2, 3, 4, 5, 6, 7, 8, 9] rfl
    have hD3 := hD2.sub (ws' := [(hm, .inr (12, fsMM (upd (upd (upd (upd (upd (upd (upd (upd (upd (upd (upd (upd (upd (upd (upd (upd (upd (upd (upd (upd mi 0 w0_0) 1 w0_1) 2 w0_2) 3 w0_3) 4 w0_4) 5 w0_5) 6 w0_6) 7 w0_7) 10 w0_10) 17 w0_17) 23 w0_23) 24 w0_24) 26 w0_26) 27 w0_27) 28 w0_28) 29 w0_29) 30 w0_30) 31 w0_31) 32 w0_32) 33 w0_33) mr)), ((mr 0), .inl ((km 0), 6, .inl z3)), ((mr 1), .inl ((km 1), 36, .inl z4)), ((mr 2), .inl ((km 2), 24, .inl z5)), ((mr 3), .inl ((km 3), 24, .inl z6)), ((mr 4), .inl ((km 4), 24, .inl z14)), ((mr 5), .inl ((km 5), 24, .inl z7)), ((mr 6), .inl ((km 6), 24, .inl z8)), ((mr 7), .inl ((km 7), 24, .inl z9)), ((mr 8), .inl ((km 8), 8, .inl z10)), ((mr 9), .inl ((km 9), 8, .inl z11)), ((mr 10), .inl ((km 10), 8, .inl z12)), ((mr 11), .inl ((km 11), 8, .inl z13)), ((mr 12), .inl ((km 12), 300, .inl z2)), ((mr 13), .inl ((km 13), 1600, .inl (fm 13))), ((mr 14), .inl ((km 14), 25, .inl (fm 14))), ((mr 15), .inl ((km 15), 25, .inl (fm 15))), ((mr 16), .inl ((km 16), 25, .inl (fm 16))), ((mr 17), .inl ((km 17), 6875, .inl (fm 17))), ((mr 18), .inl ((km 18), 24, .inl (fm 18))), ((mr 19), .inl ((km 19), 24, .inl (fm 19))), ((mr 20), .inl ((km 20), 25, .inl (fm 20))), ((mr 21), .inl ((km 21), 25, .inl (fm 21))), ((mr 22), .inl ((km 22), 6875, .inl (fm 22))), ((mr 23), .inl ((km 23), 80, .inl (fm 23)))]) [10, 13, 14, 15, 16, 24, 17, 18, 19, 20, 21, 22, 23, 12, 11, 0, 1, 2, 3, 4, 5, 6, 7, 8, 9] (by decide) rfl
    exact ⟨⟨r, r, ho, rfl, (upd (upd (upd (upd (upd (upd (upd (upd (upd (upd (upd (upd (upd (upd (upd (upd (upd (upd (upd (upd mi 0 w0_0) 1 w0_1) 2 w0_2) 3 w0_3) 4 w0_4) 5 w0_5) 6 w0_6) 7 w0_7) 10 w0_10) 17 w0_17) 23 w0_23) 24 w0_24) 26 w0_26) 27 w0_27) 28 w0_28) 29 w0_29) 30 w0_30) 31 w0_31) 32 w0_32) 33 w0_33), (updF (updF (updF (updF (updF (updF (updF (updF (updF (updF (updF (updF (updF fm 12 z2) 0 z3) 1 z4) 2 z5) 3 z6) 5 z7) 6 z8) 7 z9) 8 z10) 9 z11) 10 z12) 11 z13) 4 z14), ⟨⟨gw0_0.1, hpr1⟩, ⟨gw0_1.1, hpr2⟩, ⟨gw0_2.1, hpr3⟩, gw0_4, gw0_7, gw0_10, gw0_17, gw0_23, gw0_24, gw0_26, gw0_29, gw0_30, gw0_32, gw0_33, hI.2.2.2.2.2.2.2.2.2.2.2.2.2.2.1, hI.2.2.2.2.2.2.2.2.2.2.2.2.2.2.2.1, hI.2.2.2.2.2.2.2.2.2.2.2.2.2.2.2.2.1, hI.2.2.2.2.2.2.2.2.2.2.2.2.2.2.2.2.2.1, hI.2.2.2.2.2.2.2.2.2.2.2.2.2.2.2.2.2.2.1, gz5, gz14, gz7, gz8, gz9, gz10, gz12, hI.2.2.2.2.2.2.2.2.2.2.2.2.2.2.2.2.2.2.2.2.2.2.2.2.2.2.1, hpr5, hpr4⟩, congrArg (mt_almanac mi fm) hE, hP3, hD3⟩, hF.1, fun q h1 h2 => hF.2 q h1 (fun h => h2 (hFr q h))⟩
  · exact gz_freeS (ws := MW hm mi mr km fm) (wc := [(hm, .inr (12, fsMM mi mr)), ((mr 13), .inl ((km 13), 1600, .inl (fm 13))), ((mr 12), .inl ((km 12), 300, .inl (fm 12))), ((mr 0), .inl ((km 0), 6, .inl (fm 0))), ((mr 1), .inl ((km 1), 36, .inl (fm 1))), ((mr 2), .inl ((km 2), 24, .inl (fm 2))), ((mr 3), .inl ((km 3), 24, .inl (fm 3))), ((mr 5), .inl ((km 5), 24, .inl (fm 5))), ((mr 6), .inl ((km 6), 24, .inl (fm 6))), ((mr 7), .inl ((km 7), 24, .inl (fm 7))), ((mr 8), .inl ((km 8), 8, .inl (fm 8))), ((mr 9), .inl ((km 9), 8, .inl (fm 9))), ((mr 10), .inl ((km 10), 8, .inl (fm 10))), ((mr 11), .inl ((km 11), 8, .inl (fm 11))), ((mr 4), .inl ((km 4), 24, .inl (fm 4)))]) (n := sz) [0, 14, 13, 1, 2, 3, 4, 6, 7, 8, 9, 10, 11, 12, 5] rfl
noncomputable def mt_fault (mi : Nat → Int32) (fm : Nat → Nat → Int32) (o : Int32) : Int32 × (Nat → Int32) × (Nat → Nat → Int32) := (o, mi, fm)
noncomputable def ms_fault (mi : Nat → Int32) (fm : Nat → Nat → Int32) (p1 : Int32) : Int32 × (Nat → Int32) × (Nat → Nat → Int32) := mt_fault mi fm (fX12_fault mi p1)
set_option maxHeartbeats 4000000 in
set_option maxRecDepth 100000 in
theorem uX12_fault (l : Launch) (dC : Nat → ClassId) (dI : Nat → Nat → Nat) (sz : Nat) (hm : Nat) (mi : Nat → Int32) (mr : Nat → Nat) (km : Nat → ClassId) (fm : Nat → Nat → Int32) (hI : MI mi fm) (p1 : Int32) : Met l yX12_fault (.code yX12_fault cX12_fault 2 (some .int) :: wsGB) ({ frames := 0, cells := 0, slots := 0, locals := 0 }) (va_Pc [.ref hm, .int p1] (fun U => U.heap.size = sz ∧ va_P (dC, dI) vwCl (MW hm mi mr km fm) U.heap ∧ va_K (dC, dI) vwCl (MT km) U ∧ va_D (fun _ => True) (MW hm mi mr km fm))) (va_Qi (fun (r : Int32) (u : Int32) => r = u) (fun r t => MB dC dI hm mi mr km fm sz (fun v f => (r, v, f) = ms_fault mi fm p1) t) (va_A (MW hm mi mr km fm) sz)) 0 0 (va_A (MW hm mi mr km fm) sz) := by
  refine gz_mono (sX12_fault l dC dI hm mi mr p1 hI.1 hI.2.1 hI.2.2.1 hI.2.2.2.1 hI.2.2.2.2.1 hI.2.2.2.2.2.1 hI.2.2.2.2.2.2.1 hI.2.2.2.2.2.2.2.1 hI.2.2.2.2.2.2.2.2.1 hI.2.2.2.2.2.2.2.2.2.1 hI.2.2.2.2.2.2.2.2.2.2.1 hI.2.2.2.2.2.2.2.2.2.2.2.1 hI.2.2.2.2.2.2.2.2.2.2.2.2.2.1 hI.2.2.2.2.2.2.2.2.2.2.2.2.2.2.1 hI.2.2.2.2.2.2.2.2.2.2.2.2.2.2.2.1 hI.2.2.2.2.2.2.2.2.2.2.2.2.2.2.2.2.1 hI.2.2.2.2.2.2.2.2.2.2.2.2.2.2.2.2.2.1 hI.2.2.2.2.2.2.2.2.2.2.2.2.2.2.2.2.2.2.1) ?_ ?_ ?_
  · rintro args s ⟨rfl, hsz, hP, hK, hD⟩
    exact ⟨rfl, hP.sub (ws' := [(hm, .inr (12, fsMM mi mr))]) [0] rfl, hK.sub [] rfl⟩
  · rintro args s o t ⟨rfl, hsz, hP, hK, hD⟩ ⟨⟨r, u, ho, hw, hB⟩, hF⟩
    subst hsz
    exact ⟨⟨r, r, ho, rfl, mi, fm, hI, congrArg (mt_fault mi fm) hw.2, gz_keep hP hF.2, hD.self⟩, hF.1, fun q h1 h2 => hF.2 q h1 (fun h => h.elim)⟩
  · exact fun q h => h.elim
set_option maxHeartbeats 4000000 in
set_option maxRecDepth 100000 in
theorem uX12_count (l : Launch) (dC : Nat → ClassId) (dI : Nat → Nat → Nat) (sz : Nat) (hm : Nat) (mi : Nat → Int32) (mr : Nat → Nat) (km : Nat → ClassId) (fm : Nat → Nat → Int32) (hI : MI mi fm) (p1 : Int32) : Met l yX12_count (.code yX12_count cX12_count 2 (some .int) :: wsGB) ({ frames := 0, cells := 0, slots := 0, locals := 0 }) (va_Pc [.ref hm, .int p1] (fun U => U.heap.size = sz ∧ va_P (dC, dI) vwCl (MW hm mi mr km fm) U.heap ∧ va_K (dC, dI) vwCl (MT km) U ∧ va_D (fun _ => True) (MW hm mi mr km fm))) (va_Qi (fun (r : Int32) (u : Unit) => True) (fun _ t => MB dC dI hm mi mr km fm sz (fun v f => styM mi fm v f) t) (va_A (MW hm mi mr km fm) sz)) 0 0 (va_A (MW hm mi mr km fm) sz) := by
  refine gz_mono (sX12_count l dC dI hm mi mr p1 hI.1 hI.2.1 hI.2.2.1 hI.2.2.2.1 hI.2.2.2.2.1 hI.2.2.2.2.2.1 hI.2.2.2.2.2.2.1 hI.2.2.2.2.2.2.2.1 hI.2.2.2.2.2.2.2.2.1 hI.2.2.2.2.2.2.2.2.2.1 hI.2.2.2.2.2.2.2.2.2.2.1 hI.2.2.2.2.2.2.2.2.2.2.2.1 hI.2.2.2.2.2.2.2.2.2.2.2.2.2.1 hI.2.2.2.2.2.2.2.2.2.2.2.2.2.2.1 hI.2.2.2.2.2.2.2.2.2.2.2.2.2.2.2.1 hI.2.2.2.2.2.2.2.2.2.2.2.2.2.2.2.2.1 hI.2.2.2.2.2.2.2.2.2.2.2.2.2.2.2.2.2.1 hI.2.2.2.2.2.2.2.2.2.2.2.2.2.2.2.2.2.2.1) ?_ ?_ ?_
  · rintro args s ⟨rfl, hsz, hP, hK, hD⟩
    exact ⟨rfl, hP.sub (ws' := [(hm, .inr (12, fsMM mi mr))]) [0] rfl, hK.sub [] rfl⟩
  · rintro args s o t ⟨rfl, hsz, hP, hK, hD⟩ ⟨⟨r, u, ho, hw, hB⟩, hF⟩
    subst hsz
    exact ⟨⟨r, (), ho, trivial, mi, fm, hI, ⟨rfl, rfl, rfl, rfl⟩, gz_keep hP hF.2, hD.self⟩, hF.1, fun q h1 h2 => hF.2 q h1 (fun h => h.elim)⟩
  · exact fun q h => h.elim
set_option maxHeartbeats 4000000 in
set_option maxRecDepth 100000 in
theorem uX12_place (l : Launch) (dC : Nat → ClassId) (dI : Nat → Nat → Nat) (sz : Nat) (hm : Nat) (mi : Nat → Int32) (mr : Nat → Nat) (km : Nat → ClassId) (fm : Nat → Nat → Int32) (hI : MI mi fm) (p1 : Int32) (p2 : Int32) : Met l yX12_place (.code yX12_place cX12_place 6 (some .int) :: wsGB) ({ frames := 2, cells := 0, slots := 0, locals := 46 }) (va_Pc [.ref hm, .int p1, .int p2] (fun U => U.heap.size = sz ∧ va_P (dC, dI) vwCl (MW hm mi mr km fm) U.heap ∧ va_K (dC, dI) vwCl (MT km) U ∧ va_D (fun _ => True) (MW hm mi mr km fm))) (va_Qi (fun (r : Int32) (u : Unit) => True) (fun _ t => MB dC dI hm mi mr km fm sz (fun v f => styM mi fm v f) t) (va_A (MW hm mi mr km fm) sz)) 0 0 (va_A (MW hm mi mr km fm) sz) := by
  refine gz_mono (sX12_place l dC dI hm mi mr (km 0) (fm 0) (km 1) (fm 1) (km 2) (fm 2) (km 4) (fm 4) p1 p2 hI.1 hI.2.1 hI.2.2.1 hI.2.2.2.1 hI.2.2.2.2.1 hI.2.2.2.2.2.1 hI.2.2.2.2.2.2.1 hI.2.2.2.2.2.2.2.1 hI.2.2.2.2.2.2.2.2.1 hI.2.2.2.2.2.2.2.2.2.1 hI.2.2.2.2.2.2.2.2.2.2.1 hI.2.2.2.2.2.2.2.2.2.2.2.1 hI.2.2.2.2.2.2.2.2.2.2.2.2.2.1 hI.2.2.2.2.2.2.2.2.2.2.2.2.2.2.1 hI.2.2.2.2.2.2.2.2.2.2.2.2.2.2.2.1 hI.2.2.2.2.2.2.2.2.2.2.2.2.2.2.2.2.1 hI.2.2.2.2.2.2.2.2.2.2.2.2.2.2.2.2.2.1 hI.2.2.2.2.2.2.2.2.2.2.2.2.2.2.2.2.2.2.1 hI.2.2.2.2.2.2.2.2.2.2.2.2.2.2.2.2.2.2.2.1 hI.2.2.2.2.2.2.2.2.2.2.2.2.2.2.2.2.2.2.2.2.1) ?_ ?_ ?_
  · rintro args s ⟨rfl, hsz, hP, hK, hD⟩
    exact ⟨rfl, hP.sub (ws' := [(hm, .inr (12, fsMM mi mr)), ((mr 0), .inl ((km 0), 6, .inl (fm 0))), ((mr 1), .inl ((km 1), 36, .inl (fm 1))), ((mr 2), .inl ((km 2), 24, .inl (fm 2))), ((mr 4), .inl ((km 4), 24, .inl (fm 4)))]) [0, 1, 2, 3, 5] rfl, hK.sub [0, 1, 2, 4] rfl⟩
  · rintro args s o t ⟨rfl, hsz, hP, hK, hD⟩ ⟨⟨r, u, ho, hw, hB⟩, hF⟩
    subst hsz
    exact ⟨⟨r, (), ho, trivial, mi, fm, hI, ⟨rfl, rfl, rfl, rfl⟩, gz_keep hP hF.2, hD.self⟩, hF.1, fun q h1 h2 => hF.2 q h1 (fun h => h.elim)⟩
  · exact fun q h => h.elim
theorem cal_b {α β : Type} (f : α → β) (a : α) : cal f a = f a := rfl
theorem pz_add1 {a : Int32} (h : a.toInt < 2147483647) : (a + (1 : Int32)).toInt = a.toInt + 1 := by
  have h1 : (1 : Int32).toInt = 1 := by decide
  have h2 := (gi_any a).1
  have h3 := gi_addI (z := a + (1 : Int32)) rfl (by rw [h1]; omega) (by rw [h1]; omega)
  rw [h1] at h3
  exact h3
def prun (P : Nat → Bool) : Nat → Nat → Nat
  | 0, p => p
  | k + 1, p => if P p = true then prun P k (p + 1) else p
theorem prun_le (P : Nat → Bool) : ∀ k p : Nat, p ≤ prun P k p ∧ prun P k p ≤ p + k := by
  intro k
  induction k with
  | zero => intro p; exact ⟨Nat.le_refl _, Nat.le_refl _⟩
  | succ k ih =>
    intro p
    unfold prun
    by_cases h : P p = true
    · rw [if_pos h]
      have h1 := ih (p + 1)
      omega
    · rw [if_neg h]
      omega
theorem prun_eq {P Q : Nat → Bool} : ∀ k p : Nat, (∀ j, p ≤ j → j < p + k → P j = Q j) → prun P k p = prun Q k p := by
  intro k
  induction k with
  | zero => intro p _; rfl
  | succ k ih =>
    intro p h
    unfold prun
    rw [h p (Nat.le_refl _) (by omega), ih (p + 1) (fun j h1 h2 => h j (by omega) (by omega))]
def cL (x : Int) : Bool := decide (97 ≤ x ∧ x ≤ 122)
def cD (x : Int) : Bool := decide (48 ≤ x ∧ x ≤ 57)
def cB (x : Int) : Bool := decide (x = 32 ∨ x = 10)
theorem px_isLetter (o : Int32) : fX6_isLetter o = if cL o.toInt = true then 1 else 0 := by
  have k1 : (97 : Int32).toInt = 97 := by decide
  have k2 : (122 : Int32).toInt = 122 := by decide
  unfold fX6_isLetter bfX6_isLetter_16 bfX6_isLetter_17 cL
  simp only [Int32.lt_iff_toInt_lt, k1, k2, decide_eq_true_eq]
  by_cases h1 : o.toInt < 97
  · rw [if_pos h1, if_neg (by omega)]
  · rw [if_neg h1]
    by_cases h2 : 122 < o.toInt
    · rw [if_pos h2, if_neg (by omega)]
    · rw [if_neg h2, if_pos (by omega)]
theorem px_isDigit (o : Int32) : fX6_isDigit o = if cD o.toInt = true then 1 else 0 := by
  have k1 : (48 : Int32).toInt = 48 := by decide
  have k2 : (57 : Int32).toInt = 57 := by decide
  unfold fX6_isDigit bfX6_isDigit_16 bfX6_isDigit_17 cD
  simp only [Int32.lt_iff_toInt_lt, k1, k2, decide_eq_true_eq]
  by_cases h1 : o.toInt < 48
  · rw [if_pos h1, if_neg (by omega)]
  · rw [if_neg h1]
    by_cases h2 : 57 < o.toInt
    · rw [if_pos h2, if_neg (by omega)]
    · rw [if_neg h2, if_pos (by omega)]
theorem px_isBlank (o : Int32) : fX6_isBlank o = if cB o.toInt = true then 1 else 0 := by
  have k1 : (32 : Int32).toInt = 32 := by decide
  have k2 : (10 : Int32).toInt = 10 := by decide
  unfold fX6_isBlank bfX6_isBlank_12 bfX6_isBlank_17 cB
  simp only [← Int32.toInt_inj, k1, k2, decide_eq_true_eq]
  by_cases h1 : o.toInt = 32
  · rw [if_pos h1, if_pos (by omega)]
  · rw [if_neg h1]
    by_cases h2 : o.toInt = 10
    · rw [if_pos h2, if_pos (by omega)]
    · rw [if_neg h2, if_neg (by omega)]
theorem px_byteAt {n e : Nat} (bt : Nat → Int32) (hn : n < 2147483648) (h : e < n) : fX6_byteAt (nI n) bt (nI e) = bt e := by
  unfold fX6_byteAt bfX6_byteAt_28
  rw [if_neg (nI_pos (by omega)), if_neg (nI_ge h (by omega)), nI_clamp (by omega)]
theorem px_byteEnd {n : Nat} (bt : Nat → Int32) (hn : n < 2147483648) : fX6_byteAt (nI n) bt (nI n) = -1 := by
  unfold fX6_byteAt bfX6_byteAt_27 bfX6_byteAt_28
  rw [if_neg (nI_pos (by omega)), if_pos (nI_le (Nat.le_refl n) (by omega))]
theorem px_step3 {fk tok st en : Int32} {bt : Nat → Int32} {n : Nat} (hn : n ≤ 1600) : ∀ (k e z : Nat) (t s : Int32), e + k = n → k < z → (lfX6_step fk tok st en (nI n) bt z).2.2 t s (nI e) = (t, s, nI (prun (fun j => cD (bt j).toInt) k e)) := by
  intro k
  induction k with
  | zero =>
    intro e z t s he hz
    obtain ⟨z, rfl⟩ : ∃ y, z = y + 1 := ⟨z - 1, by omega⟩
    show dfX6_step_161 fk tok st en (nI n) bt (lfX6_step fk tok st en (nI n) bt z) t s (nI e) = _
    unfold dfX6_step_161 bfX6_step_227
    rw [if_pos (nI_le (by omega) (by omega))]
    rfl
  | succ k ih =>
    intro e z t s he hz
    obtain ⟨z, rfl⟩ : ∃ y, z = y + 1 := ⟨z - 1, by omega⟩
    show dfX6_step_161 fk tok st en (nI n) bt (lfX6_step fk tok st en (nI n) bt z) t s (nI e) = _
    unfold dfX6_step_161 bfX6_step_227 cal
    dsimp only
    rw [if_neg (nI_ge (by omega) (by omega)), px_byteAt bt (by omega) (by omega), px_isDigit]
    unfold prun
    by_cases h : cD (bt e).toInt = true
    · rw [if_pos h, if_neg (by decide), if_pos h, ← nI_succ]
      exact ih (e + 1) z t s (by omega) (by omega)
    · rw [if_neg h, if_pos rfl, if_neg h]
theorem px_step2 {fk tok st en : Int32} {bt : Nat → Int32} {n : Nat} (hn : n ≤ 1600) : ∀ (k e z : Nat) (t s : Int32), e + k = n → k < z → (lfX6_step fk tok st en (nI n) bt z).2.1 t s (nI e) = (t, s, nI (prun (fun j => cL (bt j).toInt) k e)) := by
  intro k
  induction k with
  | zero =>
    intro e z t s he hz
    obtain ⟨z, rfl⟩ : ∃ y, z = y + 1 := ⟨z - 1, by omega⟩
    show dfX6_step_108 fk tok st en (nI n) bt (lfX6_step fk tok st en (nI n) bt z) t s (nI e) = _
    unfold dfX6_step_108 bfX6_step_227
    rw [if_pos (nI_le (by omega) (by omega))]
    rfl
  | succ k ih =>
    intro e z t s he hz
    obtain ⟨z, rfl⟩ : ∃ y, z = y + 1 := ⟨z - 1, by omega⟩
    show dfX6_step_108 fk tok st en (nI n) bt (lfX6_step fk tok st en (nI n) bt z) t s (nI e) = _
    unfold dfX6_step_108 bfX6_step_227 cal
    dsimp only
    rw [if_neg (nI_ge (by omega) (by omega)), px_byteAt bt (by omega) (by omega), px_isLetter]
    unfold prun
    by_cases h : cL (bt e).toInt = true
    · rw [if_pos h, if_neg (by decide), if_pos h, ← nI_succ]
      exact ih (e + 1) z t s (by omega) (by omega)
    · rw [if_neg h, if_pos rfl, if_neg h]
def ptok (b : Nat → Int) (n s : Nat) : Nat × Nat :=
  if s < n then
    if cL (b s) = true then (2, prun (fun j => cL (b j)) (n - s) s)
    else if cD (b s) = true then (3, prun (fun j => cD (b j)) (n - s) s)
    else if b s = 59 then (4, s + 1) else (1, s + 1)
  else (0, s)
theorem px_step57 {fk tok st en : Int32} {bt : Nat → Int32} {n : Nat} (hn : n ≤ 1600) (s z : Nat) (t e : Int32) (hs : s ≤ n) (hz : n < z) : bfX6_step_57 fk tok st en (nI n) bt (lfX6_step fk tok st en (nI n) bt z) t (nI s) e = (nI (ptok (fun j => (bt j).toInt) n s).1, nI s, nI (ptok (fun j => (bt j).toInt) n s).2) := by
  unfold bfX6_step_57 ptok cal
  dsimp only
  by_cases h : s < n
  · rw [if_pos (nI_lt h (by omega)), if_pos h, px_byteAt bt (by omega) h, px_isLetter]
    by_cases h1 : cL (bt s).toInt = true
    · rw [if_pos h1, if_neg (by decide), if_pos h1]
      exact px_step2 hn (n - s) s z _ _ (by omega) (by omega)
    · rw [if_neg h1, if_pos rfl, if_neg h1, px_isDigit]
      by_cases h2 : cD (bt s).toInt = true
      · rw [if_pos h2, if_neg (by decide), if_pos h2]
        exact px_step3 hn (n - s) s z _ _ (by omega) (by omega)
      · rw [if_neg h2, if_pos rfl, if_neg h2]
        unfold bfX6_step_214 bfX6_step_227
        have k1 : (59 : Int32).toInt = 59 := by decide
        by_cases h3 : (bt s).toInt = 59
        · rw [if_pos (Int32.toInt_inj.mp (by rw [k1]; exact h3)), if_pos h3]
          show ((4 : Int32), nI s, nI s + 1) = (nI 4, nI s, nI (s + 1))
          rw [nI_succ s]
          rfl
        · rw [if_neg (fun q => h3 (by rw [q]; exact k1)), if_neg h3]
          show ((1 : Int32), nI s, nI s + 1) = (nI 1, nI s, nI (s + 1))
          rw [nI_succ s]
          rfl
  · rw [if_neg (nI_nlt (by omega) (by omega)), if_neg h]
    unfold bfX6_step_227
    rfl
theorem px_step1 {fk tok st en : Int32} {bt : Nat → Int32} {n : Nat} (hn : n ≤ 1600) : ∀ (k s z : Nat), s + k = n → n + k + 1 < z → (lfX6_step fk tok st en (nI n) bt z).1 (nI s) = (nI (ptok (fun j => (bt j).toInt) n (prun (fun j => cB (bt j).toInt) k s)).1, nI (prun (fun j => cB (bt j).toInt) k s), nI (ptok (fun j => (bt j).toInt) n (prun (fun j => cB (bt j).toInt) k s)).2) := by
  intro k
  induction k with
  | zero =>
    intro s z he hz
    obtain ⟨z, rfl⟩ : ∃ y, z = y + 1 := ⟨z - 1, by omega⟩
    show dfX6_step_16 fk tok st en (nI n) bt (lfX6_step fk tok st en (nI n) bt z) (nI s) = _
    unfold dfX6_step_16
    rw [if_pos (nI_le (by omega) (by omega))]
    exact px_step57 hn s z _ _ (by omega) (by omega)
  | succ k ih =>
    intro s z he hz
    obtain ⟨z, rfl⟩ : ∃ y, z = y + 1 := ⟨z - 1, by omega⟩
    show dfX6_step_16 fk tok st en (nI n) bt (lfX6_step fk tok st en (nI n) bt z) (nI s) = _
    unfold dfX6_step_16 cal
    dsimp only
    rw [if_neg (nI_ge (by omega) (by omega)), px_byteAt bt (by omega) (by omega), px_isBlank]
    unfold prun
    by_cases h : cB (bt s).toInt = true
    · rw [if_pos h, if_neg (by decide), if_pos h, ← nI_succ]
      exact ih (s + 1) z (by omega) (by omega)
    · rw [if_neg h, if_pos rfl, if_neg h]
      exact px_step57 hn s z _ _ (by omega) (by omega)
theorem px_step {tok st : Int32} {bt : Nat → Int32} {n p : Nat} (hn : n ≤ 1600) (hp : p ≤ n) : fX6_step 0 tok st (nI p) (nI n) bt = (nI (ptok (fun j => (bt j).toInt) n (prun (fun j => cB (bt j).toInt) (n - p) p)).1, nI (prun (fun j => cB (bt j).toInt) (n - p) p), nI (ptok (fun j => (bt j).toInt) n (prun (fun j => cB (bt j).toInt) (n - p) p)).2) := by
  unfold fX6_step
  rw [if_pos rfl]
  exact px_step1 hn (n - p) p 1000000000 (by omega) (by omega)
theorem pr_in64 (a b c : Int64) : fX12_in a b c = if b.toInt ≤ a.toInt ∧ a.toInt ≤ c.toInt then 1 else 0 := by
  unfold fX12_in bfX12_in_17 bfX12_in_18
  by_cases h1 : lg_cmp a b < 0
  · have h2 := gz_llt h1
    rw [if_pos h1, if_neg (by omega)]
  · have h2 := gz_lge h1
    rw [if_neg h1]
    by_cases h3 : 0 < lg_cmp a c
    · have h4 := gz_lgt h3
      rw [if_pos h3, if_neg (by omega)]
    · have h4 := gz_lle h3
      rw [if_neg h3, if_pos (by omega)]
theorem pr_in (a b c : Int32) : fX12_in a.toInt64 b.toInt64 c.toInt64 = if b.toInt ≤ a.toInt ∧ a.toInt ≤ c.toInt then 1 else 0 := by
  rw [pr_in64, Int32.toInt_toInt64, Int32.toInt_toInt64, Int32.toInt_toInt64]
theorem pr_in1 {a b c : Int32} (h : b.toInt ≤ a.toInt ∧ a.toInt ≤ c.toInt) : fX12_in a.toInt64 b.toInt64 c.toInt64 = 1 := by rw [pr_in, if_pos h]
theorem pr_in0 {a b c : Int32} (h : ¬ (b.toInt ≤ a.toInt ∧ a.toInt ≤ c.toInt)) : fX12_in a.toInt64 b.toInt64 c.toInt64 = 0 := by rw [pr_in, if_neg h]
theorem pr_isAt1 {m : Nat → Int32} {tp : Nat → Int32} {n e : Nat} (h26 : m 26 = nI n) (h29 : m 29 = nI e) (hn : n < 2147483648) (he : e < 2147483648) (lo hi : Int32) (h : e < n ∧ lo.toInt ≤ (tp e).toInt ∧ (tp e).toInt ≤ hi.toInt) : fX12_isAt m tp lo hi = 1 := by
  unfold fX12_isAt bfX12_isAt_35 bfX12_isAt_36 cal
  dsimp only
  rw [h26, h29, nI_clamp (by omega), pr_in, if_neg (nI_ge h.1 (by omega)), if_pos h.2]
  rfl
theorem pr_isAt0 {m : Nat → Int32} {tp : Nat → Int32} {n e : Nat} (h26 : m 26 = nI n) (h29 : m 29 = nI e) (hn : n < 2147483648) (he : e < 2147483648) (lo hi : Int32) (h : ¬ (e < n ∧ lo.toInt ≤ (tp e).toInt ∧ (tp e).toInt ≤ hi.toInt)) : fX12_isAt m tp lo hi = 0 := by
  unfold fX12_isAt bfX12_isAt_35 bfX12_isAt_36 cal
  dsimp only
  rw [h26, h29, nI_clamp (by omega), pr_in]
  by_cases h1 : e < n
  · rw [if_neg (nI_ge h1 (by omega)), if_neg (fun q => h ⟨h1, q⟩)]
    rfl
  · rw [if_pos (nI_le (by omega) (by omega))]
def pvalR (t : Nat → Int) : Nat → Nat → Int → Int
  | 0, _, v => v
  | k + 1, e, v => if cD (t e) = true then pvalR t k (e + 1) (min 100000 (10 * v + t e - 48)) else v
theorem pvalR_0 (t : Nat → Int) (e : Nat) (v : Int) : pvalR t 0 e v = v := rfl
theorem pvalR_s (t : Nat → Int) (k e : Nat) (v : Int) : pvalR t (k + 1) e v = if cD (t e) = true then pvalR t k (e + 1) (min 100000 (10 * v + t e - 48)) else v := rfl
theorem prun_0 (P : Nat → Bool) (p : Nat) : prun P 0 p = p := rfl
theorem pr_next3 {mi tp : Nat → Int32} {n : Nat} (hn : n ≤ 1600) (h26 : mi 26 = nI n) : ∀ (k e z : Nat) (b t v : Int32), e + k = n → k < z → 0 ≤ v.toInt → v.toInt ≤ 100000 → ∃ w : Int32, (lfX12_next mi tp z).2.2 (nI e) b t v = (nI (prun (fun j => cD (tp j).toInt) k e), b, t, w) ∧ w.toInt = pvalR (fun j => (tp j).toInt) k e v.toInt := by
  intro k
  induction k with
  | zero =>
    intro e z b t v he hz h0 h1
    obtain ⟨z, rfl⟩ : ∃ y, z = y + 1 := ⟨z - 1, by omega⟩
    refine ⟨v, ?_, rfl⟩
    show dfX12_next_123 mi tp (lfX12_next mi tp z) (nI e) b t v = _
    unfold dfX12_next_123 bfX12_next_206 cal
    dsimp only
    rw [pr_isAt0 (m := upd (upd (upd (upd mi 29 (nI e)) 30 b) 31 t) 32 v) (tp := tp) (n := n) (e := e) h26 rfl (by omega) (by omega) 48 57 (fun q => absurd q.1 (by omega)), if_pos rfl]
    rfl
  | succ k ih =>
    intro e z b t v he hz h0 h1
    obtain ⟨z, rfl⟩ : ∃ y, z = y + 1 := ⟨z - 1, by omega⟩
    have k1 : (48 : Int32).toInt = 48 := by decide
    have k2 : (57 : Int32).toInt = 57 := by decide
    have k3 : (10 : Int32).toInt = 10 := by decide
    have k4 : (100000 : Int32).toInt = 100000 := by decide
    by_cases h : cD (tp e).toInt = true
    · have hd : 48 ≤ (tp e).toInt ∧ (tp e).toInt ≤ 57 := of_decide_eq_true h
      have m1 := gi_mulI (z := (10 : Int32) * v) rfl (by rw [k3]; omega) (by rw [k3]; omega)
      have m2 := gi_addI (z := (10 : Int32) * v + tp e) rfl (by rw [m1, k3]; omega) (by rw [m1, k3]; omega)
      have m3 := gi_subI (z := (10 : Int32) * v + tp e - (48 : Int32)) rfl (by rw [m2, m1, k3, k1]; omega) (by rw [m2, m1, k3, k1]; omega)
      have m4 := gi_minI (z := if ((10 : Int32) * v + tp e - (48 : Int32)) < (100000 : Int32) then ((10 : Int32) * v + tp e - (48 : Int32)) else (100000 : Int32)) (x := 100000) (y := (10 : Int32) * v + tp e - (48 : Int32)) rfl
      rw [m3, m2, m1, k1, k3, k4] at m4
      obtain ⟨w, h2, h3⟩ := ih (e + 1) z b t (if ((10 : Int32) * v + tp e - (48 : Int32)) < (100000 : Int32) then ((10 : Int32) * v + tp e - (48 : Int32)) else (100000 : Int32)) (by omega) (by omega) (by omega) (by omega)
      refine ⟨w, ?_, ?_⟩
      · show dfX12_next_123 mi tp (lfX12_next mi tp z) (nI e) b t v = _
        unfold dfX12_next_123 cal
        dsimp only
        rw [pr_isAt1 (m := upd (upd (upd (upd mi 29 (nI e)) 30 b) 31 t) 32 v) (tp := tp) (n := n) (e := e) h26 rfl (by omega) (by omega) 48 57 ⟨by omega, by rw [k1]; exact hd.1, by rw [k2]; exact hd.2⟩, if_neg (by decide), ← nI_succ, nI_clamp (show e < 2147483648 by omega)]
        unfold prun
        rw [if_pos h]
        exact h2
      · rw [h3, m4]
        exact (if_pos h).symm
    · refine ⟨v, ?_, ?_⟩
      · show dfX12_next_123 mi tp (lfX12_next mi tp z) (nI e) b t v = _
        unfold dfX12_next_123 bfX12_next_206 cal
        dsimp only
        rw [pr_isAt0 (m := upd (upd (upd (upd mi 29 (nI e)) 30 b) 31 t) 32 v) (tp := tp) (n := n) (e := e) h26 rfl (by omega) (by omega) 48 57 (fun q => h (decide_eq_true (by rw [k1, k2] at q; exact q.2))), if_pos rfl]
        unfold prun
        rw [if_neg h]
      · unfold pvalR
        rw [if_neg h]
theorem pr_next2 {mi tp : Nat → Int32} {n : Nat} (hn : n ≤ 1600) (h26 : mi 26 = nI n) : ∀ (k e z : Nat) (b t v : Int32), e + k = n → k < z → (lfX12_next mi tp z).2.1 (nI e) b t v = (nI (prun (fun j => cL (tp j).toInt) k e), b, t, v) := by
  intro k
  have k1 : (97 : Int32).toInt = 97 := by decide
  have k2 : (122 : Int32).toInt = 122 := by decide
  induction k with
  | zero =>
    intro e z b t v he hz
    obtain ⟨z, rfl⟩ : ∃ y, z = y + 1 := ⟨z - 1, by omega⟩
    show dfX12_next_83 mi tp (lfX12_next mi tp z) (nI e) b t v = _
    unfold dfX12_next_83 bfX12_next_206 cal
    dsimp only
    rw [pr_isAt0 (m := upd (upd (upd (upd mi 29 (nI e)) 30 b) 31 t) 32 v) (tp := tp) (n := n) (e := e) h26 rfl (by omega) (by omega) 97 122 (fun q => absurd q.1 (by omega)), if_pos rfl]
    rfl
  | succ k ih =>
    intro e z b t v he hz
    obtain ⟨z, rfl⟩ : ∃ y, z = y + 1 := ⟨z - 1, by omega⟩
    show dfX12_next_83 mi tp (lfX12_next mi tp z) (nI e) b t v = _
    unfold dfX12_next_83 bfX12_next_206 cal
    dsimp only
    unfold prun
    by_cases h : cL (tp e).toInt = true
    · rw [pr_isAt1 (m := upd (upd (upd (upd mi 29 (nI e)) 30 b) 31 t) 32 v) (tp := tp) (n := n) (e := e) h26 rfl (by omega) (by omega) 97 122 ⟨by omega, by rw [k1, k2]; exact of_decide_eq_true h⟩, if_neg (by decide), if_pos h, ← nI_succ]
      exact ih (e + 1) z b t v (by omega) (by omega)
    · rw [pr_isAt0 (m := upd (upd (upd (upd mi 29 (nI e)) 30 b) 31 t) 32 v) (tp := tp) (n := n) (e := e) h26 rfl (by omega) (by omega) 97 122 (fun q => h (decide_eq_true (by rw [k1, k2] at q; exact q.2))), if_pos rfl, if_neg h]
def pkind (k : Nat) : Nat := if k = 0 then 0 else if k = 1 then 4 else if k = 2 then 1 else if k = 3 then 2 else 3
def pvalT (b : Nat → Int) (n s : Nat) : Int := if s < n ∧ cL (b s) = false ∧ cD (b s) = true then pvalR b (n - s) s 0 else 0
theorem pr_next1 {mi tp : Nat → Int32} {n : Nat} (hn : n ≤ 1600) (h26 : mi 26 = nI n) : ∀ (k s z : Nat), s + k = n → n + k + 1 < z → ∃ w : Int32, (lfX12_next mi tp z).1 (nI s) = (nI (ptok (fun j => (tp j).toInt) n (prun (fun j => cB (tp j).toInt) k s)).2, nI (prun (fun j => cB (tp j).toInt) k s), nI (pkind (ptok (fun j => (tp j).toInt) n (prun (fun j => cB (tp j).toInt) k s)).1), w) ∧ w.toInt = pvalT (fun j => (tp j).toInt) n (prun (fun j => cB (tp j).toInt) k s) := by
  intro k
  have a1 : (97 : Int32).toInt = 97 := by decide
  have a2 : (122 : Int32).toInt = 122 := by decide
  have d1 : (48 : Int32).toInt = 48 := by decide
  have d2 : (57 : Int32).toInt = 57 := by decide
  have b1 : (32 : Int32).toInt = 32 := by decide
  have b2 : (10 : Int32).toInt = 10 := by decide
  have c1 : (59 : Int32).toInt = 59 := by decide
  have z0 : (0 : Int32).toInt = 0 := by decide
  induction k with
  | zero =>
    intro s z he hz
    obtain ⟨z, rfl⟩ : ∃ y, z = y + 1 := ⟨z - 1, by omega⟩
    have hs : s = n := by omega
    subst hs
    refine ⟨0, ?_, ?_⟩
    · show dfX12_next_0 mi tp (lfX12_next mi tp z) (nI s) = _
      unfold dfX12_next_0 bfX12_next_206 cal
      dsimp only
      rw [pr_isAt0 (m := upd mi 29 (nI s)) (tp := tp) (n := s) (e := s) h26 rfl (by omega) (by omega) 32 32 (fun q => absurd q.1 (by omega)), if_pos rfl, pr_isAt0 (m := upd mi 29 (nI s)) (tp := tp) (n := s) (e := s) h26 rfl (by omega) (by omega) 10 10 (fun q => absurd q.1 (by omega)), if_pos rfl, if_pos h26.symm]
      unfold prun ptok
      rw [if_neg (by omega)]
      rfl
    · unfold prun pvalT
      rw [if_neg (fun q => absurd q.1 (by omega))]
      exact z0
  | succ k ih =>
    intro s z he hz
    obtain ⟨z, rfl⟩ : ∃ y, z = y + 1 := ⟨z - 1, by omega⟩
    have hsn : s < n := by omega
    by_cases h : cB (tp s).toInt = true
    · obtain ⟨w, h2, h3⟩ := ih (s + 1) z (by omega) (by omega)
      have hb : (tp s).toInt = 32 ∨ (tp s).toInt = 10 := of_decide_eq_true h
      have hr : prun (fun j => cB (tp j).toInt) (k + 1) s = prun (fun j => cB (tp j).toInt) k (s + 1) := by
        show (if cB (tp s).toInt = true then _ else _) = _
        rw [if_pos h]
      rw [hr]
      refine ⟨w, ?_, h3⟩
      show dfX12_next_0 mi tp (lfX12_next mi tp z) (nI s) = _
      unfold dfX12_next_0 bfX12_next_22 cal
      dsimp only
      by_cases h4 : (tp s).toInt = 32
      · rw [pr_isAt1 (m := upd mi 29 (nI s)) (tp := tp) (n := n) (e := s) h26 rfl (by omega) (by omega) 32 32 ⟨hsn, by rw [b1]; omega, by rw [b1]; omega⟩, if_neg (by decide), ← nI_succ]
        exact h2
      · rw [pr_isAt0 (m := upd mi 29 (nI s)) (tp := tp) (n := n) (e := s) h26 rfl (by omega) (by omega) 32 32 (fun q => h4 (by rw [b1] at q; omega)), if_pos rfl, pr_isAt1 (m := upd mi 29 (nI s)) (tp := tp) (n := n) (e := s) h26 rfl (by omega) (by omega) 10 10 ⟨hsn, by rw [b2]; omega, by rw [b2]; omega⟩, if_neg (by decide), ← nI_succ]
        exact h2
    · have hb : ¬ ((tp s).toInt = 32 ∨ (tp s).toInt = 10) := fun q => h (decide_eq_true q)
      have hr : prun (fun j => cB (tp j).toInt) (k + 1) s = s := by
        show (if cB (tp s).toInt = true then _ else _) = _
        rw [if_neg h]
      rw [hr]
      have key : ∀ R : Int32 × Int32 × Int32 × Int32, (if (nI s) = (mi 26) then (nI s, nI s, (0 : Int32), (0 : Int32)) else R) = R := fun R => if_neg (fun q => absurd (congrArg Int32.toInt (q.trans h26)) (by rw [nI_toInt (by omega), nI_toInt (by omega)]; omega))
      by_cases h5 : cL (tp s).toInt = true
      · refine ⟨0, ?_, ?_⟩
        · show dfX12_next_0 mi tp (lfX12_next mi tp z) (nI s) = _
          unfold dfX12_next_0 bfX12_next_206 cal
          dsimp only
          rw [pr_isAt0 (m := upd mi 29 (nI s)) (tp := tp) (n := n) (e := s) h26 rfl (by omega) (by omega) 32 32 (fun q => hb (by rw [b1] at q; omega)), if_pos rfl, pr_isAt0 (m := upd mi 29 (nI s)) (tp := tp) (n := n) (e := s) h26 rfl (by omega) (by omega) 10 10 (fun q => hb (by rw [b2] at q; omega)), if_pos rfl, key, pr_isAt1 (m := upd (upd (upd mi 29 (nI s)) 30 (nI s)) 32 0) (tp := tp) (n := n) (e := s) h26 rfl (by omega) (by omega) 97 122 ⟨hsn, by rw [a1, a2]; exact of_decide_eq_true h5⟩, if_neg (by decide), pr_next2 hn h26 (n - s) s z _ _ _ (by omega) (by omega)]
          unfold ptok
          rw [if_pos hsn, if_pos h5]
          rfl
        · unfold pvalT
          rw [if_neg (fun q => absurd q.2.1 (by rw [h5]; decide))]
          exact z0
      · by_cases h6 : cD (tp s).toInt = true
        · obtain ⟨w, h7, h8⟩ := pr_next3 hn h26 (n - s) s z (nI s) 2 0 (by omega) (by omega) (by decide) (by decide)
          refine ⟨w, ?_, ?_⟩
          · show dfX12_next_0 mi tp (lfX12_next mi tp z) (nI s) = _
            unfold dfX12_next_0 bfX12_next_206 cal
            dsimp only
            rw [pr_isAt0 (m := upd mi 29 (nI s)) (tp := tp) (n := n) (e := s) h26 rfl (by omega) (by omega) 32 32 (fun q => hb (by rw [b1] at q; omega)), if_pos rfl, pr_isAt0 (m := upd mi 29 (nI s)) (tp := tp) (n := n) (e := s) h26 rfl (by omega) (by omega) 10 10 (fun q => hb (by rw [b2] at q; omega)), if_pos rfl, key, pr_isAt0 (m := upd (upd (upd mi 29 (nI s)) 30 (nI s)) 32 0) (tp := tp) (n := n) (e := s) h26 rfl (by omega) (by omega) 97 122 (fun q => h5 (decide_eq_true (by rw [a1, a2] at q; exact q.2))), if_pos rfl, pr_isAt1 (m := upd (upd (upd mi 29 (nI s)) 30 (nI s)) 32 0) (tp := tp) (n := n) (e := s) h26 rfl (by omega) (by omega) 48 57 ⟨hsn, by rw [d1, d2]; exact of_decide_eq_true h6⟩, if_neg (by decide), h7]
            unfold ptok
            rw [if_pos hsn, if_neg h5, if_pos h6]
            rfl
          · unfold pvalT
            rw [if_pos ⟨hsn, by simpa using h5, h6⟩, h8, z0]
        · refine ⟨0, ?_, ?_⟩
          · show dfX12_next_0 mi tp (lfX12_next mi tp z) (nI s) = _
            unfold dfX12_next_0 bfX12_next_193 bfX12_next_206 cal
            dsimp only
            rw [pr_isAt0 (m := upd mi 29 (nI s)) (tp := tp) (n := n) (e := s) h26 rfl (by omega) (by omega) 32 32 (fun q => hb (by rw [b1] at q; omega)), if_pos rfl, pr_isAt0 (m := upd mi 29 (nI s)) (tp := tp) (n := n) (e := s) h26 rfl (by omega) (by omega) 10 10 (fun q => hb (by rw [b2] at q; omega)), if_pos rfl, key, pr_isAt0 (m := upd (upd (upd mi 29 (nI s)) 30 (nI s)) 32 0) (tp := tp) (n := n) (e := s) h26 rfl (by omega) (by omega) 97 122 (fun q => h5 (decide_eq_true (by rw [a1, a2] at q; exact q.2))), if_pos rfl, pr_isAt0 (m := upd (upd (upd mi 29 (nI s)) 30 (nI s)) 32 0) (tp := tp) (n := n) (e := s) h26 rfl (by omega) (by omega) 48 57 (fun q => h6 (decide_eq_true (by rw [d1, d2] at q; exact q.2))), if_pos rfl]
            unfold ptok
            rw [if_pos hsn, if_neg h5, if_neg h6, ← nI_succ]
            by_cases h7 : (tp s).toInt = 59
            · rw [pr_isAt1 (m := upd (upd (upd mi 29 (nI s)) 30 (nI s)) 32 0) (tp := tp) (n := n) (e := s) h26 rfl (by omega) (by omega) 59 59 ⟨hsn, by rw [c1]; omega, by rw [c1]; omega⟩, if_neg (by decide), if_pos h7]
              rfl
            · rw [pr_isAt0 (m := upd (upd (upd mi 29 (nI s)) 30 (nI s)) 32 0) (tp := tp) (n := n) (e := s) h26 rfl (by omega) (by omega) 59 59 (fun q => h7 (by rw [c1] at q; omega)), if_pos rfl, if_neg h7]
              rfl
          · unfold pvalT
            rw [if_neg (fun q => h6 q.2.2)]
            exact z0
theorem pr_next {mi tp : Nat → Int32} {n p : Nat} (hn : n ≤ 1600) (hp : p ≤ n) (h26 : mi 26 = nI n) (h29 : mi 29 = nI p) : ∃ w : Int32, fX12_next mi tp = (nI (ptok (fun j => (tp j).toInt) n (prun (fun j => cB (tp j).toInt) (n - p) p)).2, nI (prun (fun j => cB (tp j).toInt) (n - p) p), nI (pkind (ptok (fun j => (tp j).toInt) n (prun (fun j => cB (tp j).toInt) (n - p) p)).1), w) ∧ w.toInt = pvalT (fun j => (tp j).toInt) n (prun (fun j => cB (tp j).toInt) (n - p) p) := by
  unfold fX12_next
  rw [h29]
  exact pr_next1 hn h26 (n - p) p 1000000000 (by omega) (by omega)
