theorem dX12_trustOf_0 : decode cX12_trustOf 0 = .ok (.iload_n 1, 1) := by decide +kernel
theorem dX12_trustOf_1 : decode cX12_trustOf 1 = .ok (.aload_n 0, 1) := by decide +kernel
theorem dX12_trustOf_2 : decode cX12_trustOf 2 = .ok (.getfield 84, 3) := by decide +kernel
theorem dX12_trustOf_5 : decode cX12_trustOf 5 = .ok (.if_icmp .ne 10, 3) := by decide +kernel
theorem dX12_trustOf_8 : decode cX12_trustOf 8 = .ok (.aload_n 0, 1) := by decide +kernel
theorem dX12_trustOf_9 : decode cX12_trustOf 9 = .ok (.getfield 81, 3) := by decide +kernel
theorem dX12_trustOf_12 : decode cX12_trustOf 12 = .ok (.goto 9, 3) := by decide +kernel
theorem dX12_trustOf_15 : decode cX12_trustOf 15 = .ok (.aload_n 0, 1) := by decide +kernel
theorem dX12_trustOf_16 : decode cX12_trustOf 16 = .ok (.getfield 7, 3) := by decide +kernel
theorem dX12_trustOf_19 : decode cX12_trustOf 19 = .ok (.iload_n 1, 1) := by decide +kernel
theorem dX12_trustOf_20 : decode cX12_trustOf 20 = .ok (.iaload, 1) := by decide +kernel
theorem dX12_trustOf_21 : decode cX12_trustOf 21 = .ok (.ireturn, 1) := by decide +kernel
set_option maxHeartbeats 4000000 in
set_option maxRecDepth 100000 in
theorem sX12_trustOf (l : Launch) (dC : Nat → ClassId) (dI : Nat → Nat → Nat) (h0 : Nat) (mi : Nat → Int32) (mr : Nat → Nat) (km_trust : ClassId) (fm_trust : Nat → Int32) (p1 : Int32) (gmi_0 : gi (mi 0) 0 24) (gmi_1 : gi (mi 1) 0 5) (gmi_2 : gi (mi 2) 0 5) (gmi_4 : gi (mi 4) 0 1) (gmi_7 : gi (mi 7) 0 6) (gmi_10 : gi (mi 10) 0 24) (gmi_17 : gi (mi 17) 0 8) (gmi_23 : gi (mi 23) 0 300) (gmi_24 : gi (mi 24) 0 1) (gmi_26 : gi (mi 26) 0 1600) (gmi_29 : gi (mi 29) 0 1600) (gmi_30 : gi (mi 30) 0 1600) (gmi_33 : gi (mi 33) 0 1) (gmi_37 : gi (mi 37) 0 1) (gmi_41 : gi (mi 41) 0 24) (gmi_50 : gi (mi 50) 0 1) (gmi_51 : gi (mi 51) 0 1) (gmi_56 : gi (mi 56) 0 80) (gp1 : gi p1 0 5) : Met l yX12_trustOf (.code yX12_trustOf cX12_trustOf 2 (some .int) :: wsGB) ({ frames := 0, cells := 0, slots := 0, locals := 0 }) (va_Pc [.ref h0, .int p1] (fun U => va_P (dC, dI) vwCl [(h0, .inr (12, fsMM mi mr)), ((mr 0), .inl (km_trust, 6, .inl fm_trust))] U.heap ∧ va_K (dC, dI) vwCl [(km_trust, .int)] U)) (va_Qi (fun (r : Int32) (u : Unit) => gi r (-2147483648) 2147483647) (fun _ _ => True) (fun _ => False)) 0 0 (fun _ => False) := by
  refine Met.ofW (cc := cX12_trustOf) (maxL := 2) (ret := (some .int)) (by decide) rfl ?_
  intro p e s m args below meth c s₁ B hml hv
  obtain ⟨rfl, hP, hK⟩ := hv
  have hx := B.exec
  have hb := B.bytes
  have hr := B.returns
  have hts := atoms_spec (ws := (.code yX12_trustOf cX12_trustOf 2 (some .int) :: wsGB)) B.pre
  have hown : s.vm.findClass RX12 = some m.cls := findClass_of_methodNamed B.named
  have hlocks := B.notSynchronized
  have hS : va_S (fun _ => False) s.heap s.heap [] := va_S.rf
  have hl := lv_entry ([.ref h0, .int p1]) (n := 2) (Nat.le_of_ble_eq_true rfl)
  rw [lg_entry_eq]
  generalize (lg_sl ([.ref h0, .int p1]) ++ List.replicate (2 - (lg_sl ([.ref h0, .int p1])).length) Slot.unset).toArray = ls at hl ⊢
  have hl : lv_has ls 2 [(0, .ref h0), (1, .int p1)] := hl
  refine lv_iload_n hx hb dX12_trustOf_0 rfl (lv_at hl 1 rfl) ?_
  refine lv_aload_n hx hb dX12_trustOf_1 rfl (lv_at hl 0 rfl) ?_
  refine va_get (D := (dC, dI)) (ci := 12) (v := .int (mi 45)) (C := RX12) (T := TX12) (N := 57) hx hb hts (fun w h => List.mem_cons_of_mem _ (jnGB_X12 w h)) hown hK hP 0 rfl rfl 45 (by decide) (hts _ (List.mem_cons_of_mem _ mGB_35)) (fun _ h9 => h9) rfl dX12_trustOf_2 ?_
  refine lv_icmp_ne (tgt := 15) hx hb dX12_trustOf_5 (by decide) (fun c_4 => ?_) (fun c_4 => ?_)
  · refine lv_aload_n hx hb dX12_trustOf_15 rfl (lv_at hl 0 rfl) ?_
    refine va_get (D := (dC, dI)) (ci := 12) (v := .ref (mr 0)) (C := RX12) (T := TX12) (N := 57) hx hb hts (fun w h => List.mem_cons_of_mem _ (jnGB_X12 w h)) hown hK hP 0 rfl rfl 8 (by decide) (hts _ (List.mem_cons_of_mem _ mGB_10)) (fun _ h9 => h9) rfl dX12_trustOf_16 ?_
    refine lv_iload_n hx hb dX12_trustOf_19 rfl (lv_at hl 1 rfl) ?_
    refine va_iald hx hb hK hP 1 0 rfl rfl (gi_in gp1 (by decide)) dX12_trustOf_20 ?_
    refine lv_topi (fun x_5 ex_5 => ?_)
    exact W.iret (v := x_5) hx hb hr (fun t ht hW => ⟨⟨x_5, (), rfl, (gi_any x_5), trivial⟩, hS.F ht⟩) hS.2.2 dX12_trustOf_21
  · have g_6 : gi (mi 45) 0 5 := gi_eq c_4.symm gp1
    refine lv_aload_n hx hb dX12_trustOf_8 rfl (lv_at hl 0 rfl) ?_
    refine va_get (D := (dC, dI)) (ci := 12) (v := .int (mi 44)) (C := RX12) (T := TX12) (N := 57) hx hb hts (fun w h => List.mem_cons_of_mem _ (jnGB_X12 w h)) hown hK hP 0 rfl rfl 44 (by decide) (hts _ (List.mem_cons_of_mem _ mGB_34)) (fun _ h9 => h9) rfl dX12_trustOf_9 ?_
    refine lv_goto (tgt := 21) hx hb dX12_trustOf_12 (by decide) ?_
    exact W.iret (v := (mi 44)) hx hb hr (fun t ht hW => ⟨⟨(mi 44), (), rfl, (gi_any (mi 44)), trivial⟩, hS.F ht⟩) hS.2.2 dX12_trustOf_21
