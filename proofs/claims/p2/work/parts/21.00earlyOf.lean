theorem dX12_earlyOf_0 : decode cX12_earlyOf 0 = .ok (.aload_n 0, 1) := by decide +kernel
theorem dX12_earlyOf_1 : decode cX12_earlyOf 1 = .ok (.getfield 132, 3) := by decide +kernel
theorem dX12_earlyOf_4 : decode cX12_earlyOf 4 = .ok (.iload_n 1, 1) := by decide +kernel
theorem dX12_earlyOf_5 : decode cX12_earlyOf 5 = .ok (.aload_n 0, 1) := by decide +kernel
theorem dX12_earlyOf_6 : decode cX12_earlyOf 6 = .ok (.getfield 135, 3) := by decide +kernel
theorem dX12_earlyOf_9 : decode cX12_earlyOf 9 = .ok (.imul, 1) := by decide +kernel
theorem dX12_earlyOf_10 : decode cX12_earlyOf 10 = .ok (.iadd, 1) := by decide +kernel
theorem dX12_earlyOf_11 : decode cX12_earlyOf 11 = .ok (.sipush 1000, 3) := by decide +kernel
theorem dX12_earlyOf_14 : decode cX12_earlyOf 14 = .ok (.idiv, 1) := by decide +kernel
theorem dX12_earlyOf_15 : decode cX12_earlyOf 15 = .ok (.ireturn, 1) := by decide +kernel
set_option maxHeartbeats 4000000 in
set_option maxRecDepth 100000 in
theorem sX12_earlyOf (l : Launch) (dC : Nat → ClassId) (dI : Nat → Nat → Nat) (h0 : Nat) (mi : Nat → Int32) (mr : Nat → Nat) (p1 : Int32) (gmi_0 : gi (mi 0) 0 24) (gmi_1 : gi (mi 1) 0 5) (gmi_2 : gi (mi 2) 0 5) (gmi_4 : gi (mi 4) 0 1) (gmi_7 : gi (mi 7) 0 6) (gmi_10 : gi (mi 10) 0 24) (gmi_17 : gi (mi 17) 0 8) (gmi_23 : gi (mi 23) 0 300) (gmi_24 : gi (mi 24) 0 1) (gmi_26 : gi (mi 26) 0 1600) (gmi_29 : gi (mi 29) 0 1600) (gmi_30 : gi (mi 30) 0 1600) (gmi_33 : gi (mi 33) 0 1) (gmi_37 : gi (mi 37) 0 1) (gmi_41 : gi (mi 41) 0 24) (gmi_50 : gi (mi 50) 0 1) (gmi_51 : gi (mi 51) 0 1) (gmi_56 : gi (mi 56) 0 80) : Met l yX12_earlyOf (.code yX12_earlyOf cX12_earlyOf 2 (some .int) :: wsGB) ({ frames := 0, cells := 0, slots := 0, locals := 0 }) (va_Pc [.ref h0, .int p1] (fun U => va_P (dC, dI) vwCl [(h0, .inr (12, fsMM mi mr))] U.heap ∧ va_K (dC, dI) vwCl [] U)) (va_Qi (fun (r : Int32) (u : Unit) => gi r (-2147483648) 2147483647) (fun _ _ => True) (fun _ => False)) 0 0 (fun _ => False) := by
  refine Met.ofW (cc := cX12_earlyOf) (maxL := 2) (ret := (some .int)) (by decide) rfl ?_
  intro p e s m args below meth c s₁ B hml hv
  obtain ⟨rfl, hP, hK⟩ := hv
  have hx := B.exec
  have hb := B.bytes
  have hr := B.returns
  have hts := atoms_spec (ws := (.code yX12_earlyOf cX12_earlyOf 2 (some .int) :: wsGB)) B.pre
  have hown : s.vm.findClass RX12 = some m.cls := findClass_of_methodNamed B.named
  have hlocks := B.notSynchronized
  have hS : va_S (fun _ => False) s.heap s.heap [] := va_S.rf
  have hl := lv_entry ([.ref h0, .int p1]) (n := 2) (Nat.le_of_ble_eq_true rfl)
  rw [lg_entry_eq]
  generalize (lg_sl ([.ref h0, .int p1]) ++ List.replicate (2 - (lg_sl ([.ref h0, .int p1])).length) Slot.unset).toArray = ls at hl ⊢
  have hl : lv_has ls 2 [(0, .ref h0), (1, .int p1)] := hl
  refine lv_aload_n hx hb dX12_earlyOf_0 rfl (lv_at hl 0 rfl) ?_
  refine va_get (D := (dC, dI)) (ci := 12) (v := .int (mi 5)) (C := RX12) (T := TX12) (N := 57) hx hb hts (fun w h => List.mem_cons_of_mem _ (jnGB_X12 w h)) hown hK hP 0 rfl rfl 5 (by decide) (hts _ (List.mem_cons_of_mem _ mGB_108)) (fun _ h9 => h9) rfl dX12_earlyOf_1 ?_
  refine lv_iload_n hx hb dX12_earlyOf_4 rfl (lv_at hl 1 rfl) ?_
  refine lv_aload_n hx hb dX12_earlyOf_5 rfl (lv_at hl 0 rfl) ?_
  refine va_get (D := (dC, dI)) (ci := 12) (v := .int (mi 6)) (C := RX12) (T := TX12) (N := 57) hx hb hts (fun w h => List.mem_cons_of_mem _ (jnGB_X12 w h)) hown hK hP 0 rfl rfl 6 (by decide) (hts _ (List.mem_cons_of_mem _ mGB_109)) (fun _ h9 => h9) rfl dX12_earlyOf_6 ?_
  refine lv_imul hx hb dX12_earlyOf_9 ?_
  refine lv_topi (fun x_4 ex_4 => ?_)
  refine lv_iadd hx hb dX12_earlyOf_10 ?_
  refine lv_topi (fun x_5 ex_5 => ?_)
  refine lv_sipush (v := 1000) hx hb dX12_earlyOf_11 (by decide) ?_
  refine lv_idiv hx hb dX12_earlyOf_14 (by decide) ?_
  refine lv_topi (fun x_6 ex_6 => ?_)
  exact W.iret (v := x_6) hx hb hr (fun t ht hW => ⟨⟨x_6, (), rfl, (gi_any x_6), trivial⟩, hS.F ht⟩) hS.2.2 dX12_earlyOf_15
