theorem dX12_isInMonth_0 : decode cX12_isInMonth 0 = .ok (.iload_n 0, 1) := by decide +kernel
theorem dX12_isInMonth_1 : decode cX12_isInMonth 1 = .ok (.i2l, 1) := by decide +kernel
theorem dX12_isInMonth_2 : decode cX12_isInMonth 2 = .ok (.lconst 1, 1) := by decide +kernel
theorem dX12_isInMonth_3 : decode cX12_isInMonth 3 = .ok (.ldc2_w 407, 3) := by decide +kernel
theorem dX12_isInMonth_6 : decode cX12_isInMonth 6 = .ok (.invokestatic 102, 3) := by decide +kernel
theorem dX12_isInMonth_9 : decode cX12_isInMonth 9 = .ok (.ireturn, 1) := by decide +kernel
set_option maxHeartbeats 4000000 in
set_option maxRecDepth 100000 in
theorem sX12_isInMonth (l : Launch) (dC : Nat → ClassId) (dI : Nat → Nat → Nat) (p0 : Int32)  : Met l yX12_isInMonth (.code yX12_isInMonth cX12_isInMonth 1 (some .boolean) :: wsGB) ({ frames := 1, cells := 0, slots := 0, locals := 25 }) (va_Pc [.int p0] (fun U => va_P (dC, dI) vwCl [] U.heap ∧ va_K (dC, dI) vwCl [] U)) (va_Qi (fun (r : Int32) (u : Unit) => gi r 0 1 ∧ (r.toInt = 1 → gi p0 1 30)) (fun _ _ => True) (fun _ => False)) 0 0 (fun _ => False) := by
  refine Met.ofW (cc := cX12_isInMonth) (maxL := 1) (ret := (some .boolean)) (by decide) rfl ?_
  intro p e s m args below meth c s₁ B hml hv
  obtain ⟨rfl, hP, hK⟩ := hv
  have hx := B.exec
  have hb := B.bytes
  have hr := B.returns
  have hts := atoms_spec (ws := (.code yX12_isInMonth cX12_isInMonth 1 (some .boolean) :: wsGB)) B.pre
  have hown : s.vm.findClass RX12 = some m.cls := findClass_of_methodNamed B.named
  have hlocks := B.notSynchronized
  have hS : va_S (fun _ => False) s.heap s.heap [] := va_S.rf
  have hl := lv_entry ([.int p0]) (n := 1) (Nat.le_of_ble_eq_true rfl)
  rw [lg_entry_eq]
  generalize (lg_sl ([.int p0]) ++ List.replicate (1 - (lg_sl ([.int p0])).length) Slot.unset).toArray = ls at hl ⊢
  have hl : lv_has ls 1 [(0, .int p0)] := hl
  refine lv_iload_n hx hb dX12_isInMonth_0 rfl (lv_at hl 0 rfl) ?_
  refine lv_i2l (v := (p0).toInt64) hx hb dX12_isInMonth_1 rfl ?_
  refine lv_topl (fun l_3 el_3 => ?_)
  refine lv_lconst (v := 1) hx hb dX12_isInMonth_2 (by decide) ?_
  refine lv_ldc2 (own := RX12) (v := 30) hx hb hown (hts _ (List.mem_cons_of_mem _ mGB_418)) dX12_isInMonth_3 ?_
  have hPc := hP.sub (ws' := []) [] rfl
  have hKc := hK.sub (tys' := []) [] rfl
  refine va_calli (va_runS (As := [.long l_3, .long 1, .long 30]) (rest := []) ⟨hx, hb, hml, hown, hts⟩ (sX12_in l dC dI l_3 1 30) (cwS 3 hts (gz_gS mGB_47 mGB_48 mGB_1 mGB_49 goodGB) rfl rfl rfl (by decide +kernel) ⟨Nat.le_of_ble_eq_true rfl, Nat.le_of_ble_eq_true rfl⟩) ⟨fun a U g mk q => by obtain ⟨q0, qP, qK⟩ := q; exact ⟨q0, qP, va_K.moved (u := U) (U := U.calling g mk a) (Vm.Alike.refl U.vm) qK⟩, fun U hU hW => ⟨rfl, by rw [hU]; exact hPc, va_K.moved hW.alike hKc⟩⟩ rfl rfl hl.1 rfl (lv_room (Nat.le_of_ble_eq_true rfl)) dX12_isInMonth_6 ⟨Nat.zero_le _, Nat.zero_le _⟩) hS (fun q _ h => h.elim) (fun q h => h.elim) (fun r_4 u t H1 locs ht hvm hw hB hz1 hk1 hS => ?_)
  have hP := gz_keep hP hk1
  generalize H1 = H at hP hS ⊢
  have gr_4 : gi r_4 0 1 := hw.1
  have hqr_4 := hw.2
  exact W.zret (v := r_4) hx hb hr (gz_nb gr_4) (fun t ht hW => ⟨⟨r_4, (), rfl, ⟨gr_4, (fun h1 => (gi_w (gz_inr (hqr_4.1 h1) el_3 (A := 1) (B := 30) (by decide) (by decide)) (by decide)))⟩, trivial⟩, hS.F ht⟩) hS.2.2 dX12_isInMonth_9
