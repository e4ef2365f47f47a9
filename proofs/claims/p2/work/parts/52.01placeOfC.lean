set_option maxHeartbeats 4000000 in
set_option maxRecDepth 100000 in
theorem sX12_placeOfC (l : Launch) (dC : Nat → ClassId) (dI : Nat → Nat → Nat) (p0 : Int32) (p1 : Int32) (p2 : Int32) (gp0 : gi p0 0 24) (gp1 : gi p1 0 24) (gp2 : gi p2 0 10) : Met l yX12_placeOf (.code yX12_placeOf cX12_placeOf 3 (some .int) :: wsGB) ({ frames := 0, cells := 0, slots := 0, locals := 0 }) (va_Pc [.int p0, .int p1, .int p2] (fun U => va_P (dC, dI) vwCl [] U.heap ∧ va_K (dC, dI) vwCl [] U)) (va_Qi (fun (r : Int32) (u : Unit) => gi r 0 6874 ∧ r.toInt = 275 * p0.toInt + 11 * p1.toInt + p2.toInt) (fun _ _ => True) (fun _ => False)) 0 0 (fun _ => False) := by
  refine Met.ofW (cc := cX12_placeOf) (maxL := 3) (ret := (some .int)) (by decide) rfl ?_
  intro p e s m args below meth c s₁ B hml hv
  obtain ⟨rfl, hP, hK⟩ := hv
  have hx := B.exec
  have hb := B.bytes
  have hr := B.returns
  have hts := atoms_spec (ws := (.code yX12_placeOf cX12_placeOf 3 (some .int) :: wsGB)) B.pre
  have hown : s.vm.findClass RX12 = some m.cls := findClass_of_methodNamed B.named
  have hlocks := B.notSynchronized
  have hS : va_S (fun _ => False) s.heap s.heap [] := va_S.rf
  have hl := lv_entry ([.int p0, .int p1, .int p2]) (n := 3) (Nat.le_of_ble_eq_true rfl)
  rw [lg_entry_eq]
  generalize (lg_sl ([.int p0, .int p1, .int p2]) ++ List.replicate (3 - (lg_sl ([.int p0, .int p1, .int p2])).length) Slot.unset).toArray = ls at hl ⊢
  have hl : lv_has ls 3 [(0, .int p0), (1, .int p1), (2, .int p2)] := hl
  refine lv_sipush (v := 275) hx hb dX12_placeOf_0 (by decide) ?_
  refine lv_iload_n hx hb dX12_placeOf_3 rfl (lv_at hl 0 rfl) ?_
  refine lv_imul hx hb dX12_placeOf_4 ?_
  refine lv_topi (fun x_5 ex_5 => ?_)
  have gx_5 : gi x_5 0 6600 := gi_mul ex_5 (gi_c 275 275 (by decide)) gp0 (by decide)
  refine lv_bipush (v := 11) hx hb dX12_placeOf_5 (by decide) ?_
  refine lv_iload_n hx hb dX12_placeOf_7 rfl (lv_at hl 1 rfl) ?_
  refine lv_imul hx hb dX12_placeOf_8 ?_
  refine lv_topi (fun x_6 ex_6 => ?_)
  have gx_6 : gi x_6 0 264 := gi_mul ex_6 (gi_c 11 11 (by decide)) gp1 (by decide)
  refine lv_iadd hx hb dX12_placeOf_9 ?_
  refine lv_topi (fun x_7 ex_7 => ?_)
  have gx_7 : gi x_7 0 6864 := gi_add ex_7 gx_5 gx_6 (by decide)
  refine lv_iload_n hx hb dX12_placeOf_10 rfl (lv_at hl 2 rfl) ?_
  refine lv_iadd hx hb dX12_placeOf_11 ?_
  refine lv_topi (fun x_8 ex_8 => ?_)
  have gx_8 : gi x_8 0 6874 := gi_add ex_8 gx_7 gp2 (by decide)
  exact W.iret (v := x_8) hx hb hr (fun t ht hW => ⟨⟨x_8, (), rfl, ⟨gx_8, (show x_8.toInt = 275 * p0.toInt + 11 * p1.toInt + p2.toInt from by have qgx_8 := gx_8.1; have rgx_8 := gx_8.2; have igx_8 : x_8.toInt = x_7.toInt + p2.toInt := (by have h9 := gi_addI ex_8 (by have h1 := gx_7.1; have h2 := gp2.1; have h3 := gx_7.2; have h4 := gp2.2; omega) (by have h1 := gx_7.1; have h2 := gp2.1; have h3 := gx_7.2; have h4 := gp2.2; omega); exact h9); have qgp2 := gp2.1; have rgp2 := gp2.2; have qgx_7 := gx_7.1; have rgx_7 := gx_7.2; have igx_7 : x_7.toInt = x_5.toInt + x_6.toInt := (by have h9 := gi_addI ex_7 (by have h1 := gx_5.1; have h2 := gx_6.1; have h3 := gx_5.2; have h4 := gx_6.2; omega) (by have h1 := gx_5.1; have h2 := gx_6.1; have h3 := gx_5.2; have h4 := gx_6.2; omega); exact h9); have qgx_6 := gx_6.1; have rgx_6 := gx_6.2; have igx_6 : x_6.toInt = 11 * p1.toInt := (by have hc11 : (11 : Int32).toInt = 11 := (by decide); have h9 := gi_mulI ex_6 (by rw [hc11]; have h1 := (gi_c 11 11 (by decide)).1; have h2 := gp1.1; have h3 := (gi_c 11 11 (by decide)).2; have h4 := gp1.2; omega) (by rw [hc11]; have h1 := (gi_c 11 11 (by decide)).1; have h2 := gp1.1; have h3 := (gi_c 11 11 (by decide)).2; have h4 := gp1.2; omega); rw [hc11] at h9; exact h9); have qgp1 := gp1.1; have rgp1 := gp1.2; have qgx_5 := gx_5.1; have rgx_5 := gx_5.2; have igx_5 : x_5.toInt = 275 * p0.toInt := (by have hc275 : (275 : Int32).toInt = 275 := (by decide); have h9 := gi_mulI ex_5 (by rw [hc275]; have h1 := (gi_c 275 275 (by decide)).1; have h2 := gp0.1; have h3 := (gi_c 275 275 (by decide)).2; have h4 := gp0.2; omega) (by rw [hc275]; have h1 := (gi_c 275 275 (by decide)).1; have h2 := gp0.1; have h3 := (gi_c 275 275 (by decide)).2; have h4 := gp0.2; omega); rw [hc275] at h9; exact h9); have qgp0 := gp0.1; have rgp0 := gp0.2; omega)⟩, trivial⟩, hS.F ht⟩) hS.2.2 dX12_placeOf_12
