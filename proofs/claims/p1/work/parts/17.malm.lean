theorem dX12_isAt_0 : decode cX12_isAt 0 = .ok (.aload_n 0, 1) := by decide +kernel
theorem dX12_isAt_1 : decode cX12_isAt 1 = .ok (.getfield 151, 3) := by decide +kernel
theorem dX12_isAt_4 : decode cX12_isAt 4 = .ok (.aload_n 0, 1) := by decide +kernel
theorem dX12_isAt_5 : decode cX12_isAt 5 = .ok (.getfield 99, 3) := by decide +kernel
theorem dX12_isAt_8 : decode cX12_isAt 8 = .ok (.if_icmp .ge 27, 3) := by decide +kernel
theorem dX12_isAt_35 : decode cX12_isAt 35 = .ok (.iconst 0, 1) := by decide +kernel
theorem dX12_isAt_36 : decode cX12_isAt 36 = .ok (.ireturn, 1) := by decide +kernel
set_option maxHeartbeats 4000000 in
set_option maxRecDepth 100000 in
theorem fX12_isAt (l : Launch) (dC : Nat → ClassId) (dI : Nat → Nat → Nat) (h0 : Nat) (r : Nat → Nat) (ka : Int32) (kp : Int32) (p0 : Int32) (p1 : Int32) : Met l yX12_isAt (.code yX12_isAt cX12_isAt 3 (some .boolean) :: wsGB) ({ frames := 0, cells := 0, slots := 0, locals := 0 }) (va_Pc [.ref h0, .int p0, .int p1] (fun U => va_P (dC, dI) vwCl [(h0, .inr (12, fsMk r ka kp))] U.heap ∧ va_K (dC, dI) vwCl [] U)) (va_Qi (fun (r : Int32) (u : Unit) => r = 0) (fun _ _ => True) (fun _ => False)) 0 0 (fun _ => False) := by
  refine Met.ofW (cc := cX12_isAt) (maxL := 3) (ret := (some .boolean)) (by decide) rfl ?_
  intro p e s m args below meth c s₁ B hml hv
  obtain ⟨rfl, hP, hK⟩ := hv
  have hx := B.exec
  have hb := B.bytes
  have hr := B.returns
  have hts := atoms_spec (ws := (.code yX12_isAt cX12_isAt 3 (some .boolean) :: wsGB)) B.pre
  have hown : s.vm.findClass RX12 = some m.cls := findClass_of_methodNamed B.named
  have hlocks := B.notSynchronized
  have hS : va_S (fun _ => False) s.heap s.heap [] := va_S.rf
  have hl := lv_entry ([.ref h0, .int p0, .int p1]) (n := 3) (Nat.le_of_ble_eq_true rfl)
  rw [lg_entry_eq]
  generalize (lg_sl ([.ref h0, .int p0, .int p1]) ++ List.replicate (3 - (lg_sl ([.ref h0, .int p0, .int p1])).length) Slot.unset).toArray = ls at hl ⊢
  have hl : lv_has ls 3 [(0, .ref h0), (1, .int p0), (2, .int p1)] := hl
  refine lv_aload_n hx hb dX12_isAt_0 rfl (lv_at hl 0 rfl) ?_
  refine va_get (D := (dC, dI)) (ci := 12) (v := .int 0) (C := RX12) (T := TX12) (N := 57) hx hb hts (fun w h => List.mem_cons_of_mem _ (jnGB_X12 w h)) hown hK hP 0 rfl rfl 29 (by decide) (hts _ (List.mem_cons_of_mem _ mGB_77)) (fun _ h9 => h9) rfl dX12_isAt_1 ?_
  refine lv_aload_n hx hb dX12_isAt_4 rfl (lv_at hl 0 rfl) ?_
  refine va_get (D := (dC, dI)) (ci := 12) (v := .int 0) (C := RX12) (T := TX12) (N := 57) hx hb hts (fun w h => List.mem_cons_of_mem _ (jnGB_X12 w h)) hown hK hP 0 rfl rfl 26 (by decide) (hts _ (List.mem_cons_of_mem _ mGB_30)) (fun _ h9 => h9) rfl dX12_isAt_5 ?_
  refine lv_icmp_ge (tgt := 35) hx hb dX12_isAt_8 (by decide) (fun c_1 => ?_) (fun c_1 => absurd (by decide) c_1)
  refine lv_iconst (v := 0) hx hb dX12_isAt_35 (by decide) ?_
  exact W.zret (v := 0) hx hb hr (by decide) (fun t ht hW => ⟨⟨0, (), rfl, rfl, trivial⟩, hS.F ht⟩) hS.2.2 dX12_isAt_36
theorem dX12_next_0 : decode cX12_next 0 = .ok (.aload_n 0, 1) := by decide +kernel
theorem dX12_next_1 : decode cX12_next 1 = .ok (.bipush 32, 2) := by decide +kernel
theorem dX12_next_3 : decode cX12_next 3 = .ok (.bipush 32, 2) := by decide +kernel
theorem dX12_next_5 : decode cX12_next 5 = .ok (.invokevirtual 154, 3) := by decide +kernel
theorem dX12_next_8 : decode cX12_next 8 = .ok (.ifCond .ne 14, 3) := by decide +kernel
theorem dX12_next_11 : decode cX12_next 11 = .ok (.aload_n 0, 1) := by decide +kernel
theorem dX12_next_12 : decode cX12_next 12 = .ok (.bipush 10, 2) := by decide +kernel
theorem dX12_next_14 : decode cX12_next 14 = .ok (.bipush 10, 2) := by decide +kernel
theorem dX12_next_16 : decode cX12_next 16 = .ok (.invokevirtual 154, 3) := by decide +kernel
theorem dX12_next_19 : decode cX12_next 19 = .ok (.ifCond .eq 16, 3) := by decide +kernel
theorem dX12_next_35 : decode cX12_next 35 = .ok (.aload_n 0, 1) := by decide +kernel
theorem dX12_next_36 : decode cX12_next 36 = .ok (.aload_n 0, 1) := by decide +kernel
theorem dX12_next_37 : decode cX12_next 37 = .ok (.getfield 151, 3) := by decide +kernel
theorem dX12_next_40 : decode cX12_next 40 = .ok (.putfield 158, 3) := by decide +kernel
theorem dX12_next_43 : decode cX12_next 43 = .ok (.aload_n 0, 1) := by decide +kernel
theorem dX12_next_44 : decode cX12_next 44 = .ok (.iconst 0, 1) := by decide +kernel
theorem dX12_next_45 : decode cX12_next 45 = .ok (.putfield 161, 3) := by decide +kernel
theorem dX12_next_48 : decode cX12_next 48 = .ok (.aload_n 0, 1) := by decide +kernel
theorem dX12_next_49 : decode cX12_next 49 = .ok (.getfield 151, 3) := by decide +kernel
theorem dX12_next_52 : decode cX12_next 52 = .ok (.aload_n 0, 1) := by decide +kernel
theorem dX12_next_53 : decode cX12_next 53 = .ok (.getfield 99, 3) := by decide +kernel
theorem dX12_next_56 : decode cX12_next 56 = .ok (.if_icmp .ne 11, 3) := by decide +kernel
theorem dX12_next_59 : decode cX12_next 59 = .ok (.aload_n 0, 1) := by decide +kernel
theorem dX12_next_60 : decode cX12_next 60 = .ok (.iconst 0, 1) := by decide +kernel
theorem dX12_next_61 : decode cX12_next 61 = .ok (.putfield 164, 3) := by decide +kernel
theorem dX12_next_64 : decode cX12_next 64 = .ok (.goto 142, 3) := by decide +kernel
theorem dX12_next_206 : decode cX12_next 206 = .ok (.return_, 1) := by decide +kernel
set_option maxHeartbeats 4000000 in
set_option maxRecDepth 100000 in
theorem fX12_next (l : Launch) (dC : Nat → ClassId) (dI : Nat → Nat → Nat) (sz : Nat) (h0 : Nat) (r : Nat → Nat) (ka : Int32) (kp : Int32) : Met l yX12_next (.code yX12_next cX12_next 1 none :: wsGB) ({ frames := 1, cells := 0, slots := 0, locals := 22 }) (va_Pc [.ref h0] (fun U => U.heap.size = sz ∧ va_P (dC, dI) vwCl [(h0, .inr (12, fsMk r ka kp))] U.heap ∧ va_K (dC, dI) vwCl [] U ∧ va_D (fun _ => True) [(h0, .inr (12, fsMk r ka kp))])) (va_Qv (fun (u : Unit) => True) (fun _ t => va_P (dC, dI) vwCl [(h0, .inr (12, fsMk r ka kp))] t.heap ∧ va_K (dC, dI) vwCl [] t ∧ va_D (va_A [(h0, .inr (12, fsMk r ka kp))] sz) [(h0, .inr (12, fsMk r ka kp))]) (va_A [(h0, .inr (12, fsMk r ka kp))] sz)) 0 0 (va_A [(h0, .inr (12, fsMk r ka kp))] sz) := by
  refine Met.ofW (cc := cX12_next) (maxL := 1) (ret := none) (by decide) rfl ?_
  intro p e s m args below meth c s₁ B hml hv
  obtain ⟨rfl, hsz, hP, hK, hD0⟩ := hv
  have hx := B.exec
  have hb := B.bytes
  have hr := B.returns
  have hts := atoms_spec (ws := (.code yX12_next cX12_next 1 none :: wsGB)) B.pre
  have hown : s.vm.findClass RX12 = some m.cls := findClass_of_methodNamed B.named
  have hlocks := B.notSynchronized
  subst hsz
  have hD := hD0.self (sz := s.heap.size)
  generalize hAe : va_A [(h0, .inr (12, fsMk r ka kp))] s.heap.size = A at hD ⊢
  have hA : ∀ q : Nat, s.heap.size ≤ q → A q := fun q h => by rw [← hAe]; exact Or.inr h
  have hS : va_S A s.heap s.heap [] := va_S.rf
  have hl := lv_entry ([.ref h0]) (n := 1) (Nat.le_of_ble_eq_true rfl)
  rw [lg_entry_eq]
  generalize (lg_sl ([.ref h0]) ++ List.replicate (1 - (lg_sl ([.ref h0])).length) Slot.unset).toArray = ls at hl ⊢
  have hl : lv_has ls 1 [(0, .ref h0)] := hl
  refine lv_aload_n hx hb dX12_next_0 rfl (lv_at hl 0 rfl) ?_
  refine lv_bipush (v := 32) hx hb dX12_next_1 (by decide) ?_
  refine lv_bipush (v := 32) hx hb dX12_next_3 (by decide) ?_
  have hPc := hP.sub (ws' := [(h0, .inr (12, fsMk r ka kp))]) [0] rfl
  have hKc := hK.sub (tys' := []) [] rfl
  refine va_calli (va_runV (As := [.int 32, .int 32]) (rest := []) ⟨hx, hb, hml, hown, hts⟩ (fX12_isAt l dC dI h0 r ka kp 32 32) (cwV 2 hts (gz_gV mGB_79 mGB_80 mGB_81 mGB_5 mGB_78 goodGB) rfl rfl rfl (by decide +kernel) ⟨Nat.le_of_ble_eq_true rfl, Nat.le_of_ble_eq_true rfl⟩) ⟨fun a U g mk q => by obtain ⟨q0, qP, qK⟩ := q; exact ⟨q0, qP, va_K.moved (u := U) (U := U.calling g mk a) (Vm.Alike.refl U.vm) qK⟩, va_recv hKc hPc (ci := 12) (q0 := 0) rfl rfl, fun U hU hW => ⟨rfl, by rw [hU]; exact hPc, va_K.moved hW.alike hKc⟩⟩ rfl rfl hl.1 rfl (lv_room (Nat.le_of_ble_eq_true rfl)) dX12_next_5 ⟨Nat.le_of_ble_eq_true rfl, Nat.le_of_ble_eq_true rfl⟩) hS (fun q _ h => h.elim) (fun q h => h.elim) (fun r_1 u t H1 locs ht hvm hw hB hz1 hk1 hS => ?_)
  have hP := gz_keep hP hk1
  generalize H1 = H at hP hS ⊢
  subst hw
  refine lv_if_ne (tgt := 22) hx hb dX12_next_8 (by decide) (fun c_2 => absurd (by decide) c_2) (fun c_2 => ?_)
  refine lv_aload_n hx hb dX12_next_11 rfl (lv_at hl 0 rfl) ?_
  refine lv_bipush (v := 10) hx hb dX12_next_12 (by decide) ?_
  refine lv_bipush (v := 10) hx hb dX12_next_14 (by decide) ?_
  have hPc := hP.sub (ws' := [(h0, .inr (12, fsMk r ka kp))]) [0] rfl
  have hKc := hK.sub (tys' := []) [] rfl
  refine va_calli (va_runV (As := [.int 10, .int 10]) (rest := []) ⟨hx, hb, hml, hown, hts⟩ (fX12_isAt l dC dI h0 r ka kp 10 10) (cwV 2 hts (gz_gV mGB_79 mGB_80 mGB_81 mGB_5 mGB_78 goodGB) rfl rfl rfl (by decide +kernel) ⟨Nat.le_of_ble_eq_true rfl, Nat.le_of_ble_eq_true rfl⟩) ⟨fun a U g mk q => by obtain ⟨q0, qP, qK⟩ := q; exact ⟨q0, qP, va_K.moved (u := U) (U := U.calling g mk a) (Vm.Alike.refl U.vm) qK⟩, va_recv hKc hPc (ci := 12) (q0 := 0) rfl rfl, fun U hU hW => ⟨rfl, by rw [hU]; exact hPc, va_K.moved hW.alike hKc⟩⟩ rfl rfl hl.1 rfl (lv_room (Nat.le_of_ble_eq_true rfl)) dX12_next_16 ⟨Nat.le_of_ble_eq_true rfl, Nat.le_of_ble_eq_true rfl⟩) hS (fun q _ h => h.elim) (fun q h => h.elim) (fun r_3 u t H1 locs ht hvm hw hB hz1 hk1 hS => ?_)
  have hP := gz_keep hP hk1
  generalize H1 = H at hP hS ⊢
  subst hw
  refine lv_if_eq (tgt := 35) hx hb dX12_next_19 (by decide) (fun c_4 => ?_) (fun c_4 => absurd (by decide) c_4)
  refine lv_aload_n hx hb dX12_next_35 rfl (lv_at hl 0 rfl) ?_
  refine lv_aload_n hx hb dX12_next_36 rfl (lv_at hl 0 rfl) ?_
  refine va_get (D := (dC, dI)) (ci := 12) (v := .int 0) (C := RX12) (T := TX12) (N := 57) hx hb hts (fun w h => List.mem_cons_of_mem _ (jnGB_X12 w h)) hown hK hP 0 rfl rfl 29 (by decide) (hts _ (List.mem_cons_of_mem _ mGB_77)) (fun _ h9 => h9) rfl dX12_next_37 ?_
  refine va_put (D := (dC, dI)) (ci := 12) (v := .int 0) (ty := .int) (C := RX12) (T := TX12) (N := 57) hx hb hts (fun w h => List.mem_cons_of_mem _ (jnGB_X12 w h)) tyX12 tyX12_ok nmX12 hown hK hP hD hS 0 rfl rfl 30 (by decide) (hts _ (List.mem_cons_of_mem _ mGB_82)) (fun _ h9 => h9) rfl (by decide +kernel) rfl rfl (Nat.le_of_ble_eq_true rfl) dX12_next_40 (fun H locs hP hD hS => ?_)
  have hP : va_P (dC, dI) vwCl [(h0, .inr (12, [.int 0, .int 0, .int 0, .int 0, .int 0, .int 0, .int 0, .int 0, .ref (r 0), .ref (r 1), .int 0, .ref (r 2), .ref (r 3), .ref (r 4), .ref (r 5), .ref (r 6), .ref (r 7), .int 0, .ref (r 8), .ref (r 9), .ref (r 10), .ref (r 11), .ref (r 12), .int ka, .int kp, .ref (r 13), .int 0, .int 0, .int (-1), .int 0, .int 0, .int 0, .int 0, .int 0, .ref (r 14), .ref (r 15), .ref (r 16), .int 0, .ref (r 17), .ref (r 18), .ref (r 19), .int 0, .int (-1), .int (-1), .int (-1), .int (-1), .ref (r 20), .int 0, .int 0, .int 0, .int 0, .int 0, .ref (r 21), .ref (r 22), .int 0, .ref (r 23), .int 0]))] H := hP
  have hD : va_D A [(h0, .inr (12, [.int 0, .int 0, .int 0, .int 0, .int 0, .int 0, .int 0, .int 0, .ref (r 0), .ref (r 1), .int 0, .ref (r 2), .ref (r 3), .ref (r 4), .ref (r 5), .ref (r 6), .ref (r 7), .int 0, .ref (r 8), .ref (r 9), .ref (r 10), .ref (r 11), .ref (r 12), .int ka, .int kp, .ref (r 13), .int 0, .int 0, .int (-1), .int 0, .int 0, .int 0, .int 0, .int 0, .ref (r 14), .ref (r 15), .ref (r 16), .int 0, .ref (r 17), .ref (r 18), .ref (r 19), .int 0, .int (-1), .int (-1), .int (-1), .int (-1), .ref (r 20), .int 0, .int 0, .int 0, .int 0, .int 0, .ref (r 21), .ref (r 22), .int 0, .ref (r 23), .int 0]))] := hD
  refine lv_aload_n hx hb dX12_next_43 rfl (lv_at hl 0 rfl) ?_
  refine lv_iconst (v := 0) hx hb dX12_next_44 (by decide) ?_
  refine va_put (D := (dC, dI)) (ci := 12) (v := .int 0) (ty := .int) (C := RX12) (T := TX12) (N := 57) hx hb hts (fun w h => List.mem_cons_of_mem _ (jnGB_X12 w h)) tyX12 tyX12_ok nmX12 hown hK hP hD hS 0 rfl rfl 32 (by decide) (hts _ (List.mem_cons_of_mem _ mGB_83)) (fun _ h9 => h9) rfl (by decide +kernel) rfl rfl (Nat.le_of_ble_eq_true rfl) dX12_next_45 (fun H locs hP hD hS => ?_)
  have hP : va_P (dC, dI) vwCl [(h0, .inr (12, [.int 0, .int 0, .int 0, .int 0, .int 0, .int 0, .int 0, .int 0, .ref (r 0), .ref (r 1), .int 0, .ref (r 2), .ref (r 3), .ref (r 4), .ref (r 5), .ref (r 6), .ref (r 7), .int 0, .ref (r 8), .ref (r 9), .ref (r 10), .ref (r 11), .ref (r 12), .int ka, .int kp, .ref (r 13), .int 0, .int 0, .int (-1), .int 0, .int 0, .int 0, .int 0, .int 0, .ref (r 14), .ref (r 15), .ref (r 16), .int 0, .ref (r 17), .ref (r 18), .ref (r 19), .int 0, .int (-1), .int (-1), .int (-1), .int (-1), .ref (r 20), .int 0, .int 0, .int 0, .int 0, .int 0, .ref (r 21), .ref (r 22), .int 0, .ref (r 23), .int 0]))] H := hP
  have hD : va_D A [(h0, .inr (12, [.int 0, .int 0, .int 0, .int 0, .int 0, .int 0, .int 0, .int 0, .ref (r 0), .ref (r 1), .int 0, .ref (r 2), .ref (r 3), .ref (r 4), .ref (r 5), .ref (r 6), .ref (r 7), .int 0, .ref (r 8), .ref (r 9), .ref (r 10), .ref (r 11), .ref (r 12), .int ka, .int kp, .ref (r 13), .int 0, .int 0, .int (-1), .int 0, .int 0, .int 0, .int 0, .int 0, .ref (r 14), .ref (r 15), .ref (r 16), .int 0, .ref (r 17), .ref (r 18), .ref (r 19), .int 0, .int (-1), .int (-1), .int (-1), .int (-1), .ref (r 20), .int 0, .int 0, .int 0, .int 0, .int 0, .ref (r 21), .ref (r 22), .int 0, .ref (r 23), .int 0]))] := hD
  refine lv_aload_n hx hb dX12_next_48 rfl (lv_at hl 0 rfl) ?_
  refine va_get (D := (dC, dI)) (ci := 12) (v := .int 0) (C := RX12) (T := TX12) (N := 57) hx hb hts (fun w h => List.mem_cons_of_mem _ (jnGB_X12 w h)) hown hK hP 0 rfl rfl 29 (by decide) (hts _ (List.mem_cons_of_mem _ mGB_77)) (fun _ h9 => h9) rfl dX12_next_49 ?_
  refine lv_aload_n hx hb dX12_next_52 rfl (lv_at hl 0 rfl) ?_
  refine va_get (D := (dC, dI)) (ci := 12) (v := .int 0) (C := RX12) (T := TX12) (N := 57) hx hb hts (fun w h => List.mem_cons_of_mem _ (jnGB_X12 w h)) hown hK hP 0 rfl rfl 26 (by decide) (hts _ (List.mem_cons_of_mem _ mGB_30)) (fun _ h9 => h9) rfl dX12_next_53 ?_
  refine lv_icmp_ne (tgt := 67) hx hb dX12_next_56 (by decide) (fun c_5 => absurd (by decide) c_5) (fun c_5 => ?_)
  refine lv_aload_n hx hb dX12_next_59 rfl (lv_at hl 0 rfl) ?_
  refine lv_iconst (v := 0) hx hb dX12_next_60 (by decide) ?_
  refine va_put (D := (dC, dI)) (ci := 12) (v := .int 0) (ty := .int) (C := RX12) (T := TX12) (N := 57) hx hb hts (fun w h => List.mem_cons_of_mem _ (jnGB_X12 w h)) tyX12 tyX12_ok nmX12 hown hK hP hD hS 0 rfl rfl 31 (by decide) (hts _ (List.mem_cons_of_mem _ mGB_84)) (fun _ h9 => h9) rfl (by decide +kernel) rfl rfl (Nat.le_of_ble_eq_true rfl) dX12_next_61 (fun H locs hP hD hS => ?_)
  have hP : va_P (dC, dI) vwCl [(h0, .inr (12, [.int 0, .int 0, .int 0, .int 0, .int 0, .int 0, .int 0, .int 0, .ref (r 0), .ref (r 1), .int 0, .ref (r 2), .ref (r 3), .ref (r 4), .ref (r 5), .ref (r 6), .ref (r 7), .int 0, .ref (r 8), .ref (r 9), .ref (r 10), .ref (r 11), .ref (r 12), .int ka, .int kp, .ref (r 13), .int 0, .int 0, .int (-1), .int 0, .int 0, .int 0, .int 0, .int 0, .ref (r 14), .ref (r 15), .ref (r 16), .int 0, .ref (r 17), .ref (r 18), .ref (r 19), .int 0, .int (-1), .int (-1), .int (-1), .int (-1), .ref (r 20), .int 0, .int 0, .int 0, .int 0, .int 0, .ref (r 21), .ref (r 22), .int 0, .ref (r 23), .int 0]))] H := hP
  have hD : va_D A [(h0, .inr (12, [.int 0, .int 0, .int 0, .int 0, .int 0, .int 0, .int 0, .int 0, .ref (r 0), .ref (r 1), .int 0, .ref (r 2), .ref (r 3), .ref (r 4), .ref (r 5), .ref (r 6), .ref (r 7), .int 0, .ref (r 8), .ref (r 9), .ref (r 10), .ref (r 11), .ref (r 12), .int ka, .int kp, .ref (r 13), .int 0, .int 0, .int (-1), .int 0, .int 0, .int 0, .int 0, .int 0, .ref (r 14), .ref (r 15), .ref (r 16), .int 0, .ref (r 17), .ref (r 18), .ref (r 19), .int 0, .int (-1), .int (-1), .int (-1), .int (-1), .ref (r 20), .int 0, .int 0, .int 0, .int 0, .int 0, .ref (r 21), .ref (r 22), .int 0, .ref (r 23), .int 0]))] := hD
  refine lv_goto (tgt := 206) hx hb dX12_next_64 (by decide) ?_
  have hP9 := hP.sub (ws' := [(h0, .inr (12, [.int 0, .int 0, .int 0, .int 0, .int 0, .int 0, .int 0, .int 0, .ref (r 0), .ref (r 1), .int 0, .ref (r 2), .ref (r 3), .ref (r 4), .ref (r 5), .ref (r 6), .ref (r 7), .int 0, .ref (r 8), .ref (r 9), .ref (r 10), .ref (r 11), .ref (r 12), .int ka, .int kp, .ref (r 13), .int 0, .int 0, .int (-1), .int 0, .int 0, .int 0, .int 0, .int 0, .ref (r 14), .ref (r 15), .ref (r 16), .int 0, .ref (r 17), .ref (r 18), .ref (r 19), .int 0, .int (-1), .int (-1), .int (-1), .int (-1), .ref (r 20), .int 0, .int 0, .int 0, .int 0, .int 0, .ref (r 21), .ref (r 22), .int 0, .ref (r 23), .int 0]))]) [0] rfl
  have hD9 := hD.sub (ws' := [(h0, .inr (12, [.int 0, .int 0, .int 0, .int 0, .int 0, .int 0, .int 0, .int 0, .ref (r 0), .ref (r 1), .int 0, .ref (r 2), .ref (r 3), .ref (r 4), .ref (r 5), .ref (r 6), .ref (r 7), .int 0, .ref (r 8), .ref (r 9), .ref (r 10), .ref (r 11), .ref (r 12), .int ka, .int kp, .ref (r 13), .int 0, .int 0, .int (-1), .int 0, .int 0, .int 0, .int 0, .int 0, .ref (r 14), .ref (r 15), .ref (r 16), .int 0, .ref (r 17), .ref (r 18), .ref (r 19), .int 0, .int (-1), .int (-1), .int (-1), .int (-1), .ref (r 20), .int 0, .int 0, .int 0, .int 0, .int 0, .ref (r 21), .ref (r 22), .int 0, .ref (r 23), .int 0]))]) [0] (by decide) rfl
  have hK9 := hK.sub (tys' := []) [] rfl
  exact W.vret hx hb hr (fun t ht hW => ⟨⟨(), rfl, trivial, by rw [ht]; exact hP9, va_K.moved hW.alike hK9, hD9⟩, hS.F ht⟩) hS.2.2 dX12_next_206
theorem dX12_almanac_0 : decode cX12_almanac 0 = .ok (.aload_n 0, 1) := by decide +kernel
theorem dX12_almanac_1 : decode cX12_almanac 1 = .ok (.iconst 1, 1) := by decide +kernel
theorem dX12_almanac_2 : decode cX12_almanac 2 = .ok (.invokevirtual 283, 3) := by decide +kernel
theorem dX12_almanac_5 : decode cX12_almanac 5 = .ok (.aload_n 0, 1) := by decide +kernel
theorem dX12_almanac_6 : decode cX12_almanac 6 = .ok (.iconst 0, 1) := by decide +kernel
theorem dX12_almanac_7 : decode cX12_almanac 7 = .ok (.putfield 117, 3) := by decide +kernel
theorem dX12_almanac_10 : decode cX12_almanac 10 = .ok (.aload_n 0, 1) := by decide +kernel
theorem dX12_almanac_11 : decode cX12_almanac 11 = .ok (.iconst 0, 1) := by decide +kernel
theorem dX12_almanac_12 : decode cX12_almanac 12 = .ok (.putfield 120, 3) := by decide +kernel
theorem dX12_almanac_15 : decode cX12_almanac 15 = .ok (.aload_n 0, 1) := by decide +kernel
theorem dX12_almanac_16 : decode cX12_almanac 16 = .ok (.iconst 0, 1) := by decide +kernel
theorem dX12_almanac_17 : decode cX12_almanac 17 = .ok (.putfield 123, 3) := by decide +kernel
theorem dX12_almanac_20 : decode cX12_almanac 20 = .ok (.aload_n 0, 1) := by decide +kernel
theorem dX12_almanac_21 : decode cX12_almanac 21 = .ok (.iconst 0, 1) := by decide +kernel
theorem dX12_almanac_22 : decode cX12_almanac 22 = .ok (.putfield 126, 3) := by decide +kernel
theorem dX12_almanac_25 : decode cX12_almanac 25 = .ok (.aload_n 0, 1) := by decide +kernel
theorem dX12_almanac_26 : decode cX12_almanac 26 = .ok (.iconst 0, 1) := by decide +kernel
theorem dX12_almanac_27 : decode cX12_almanac 27 = .ok (.putfield 129, 3) := by decide +kernel
theorem dX12_almanac_30 : decode cX12_almanac 30 = .ok (.aload_n 0, 1) := by decide +kernel
theorem dX12_almanac_31 : decode cX12_almanac 31 = .ok (.iconst 0, 1) := by decide +kernel
theorem dX12_almanac_32 : decode cX12_almanac 32 = .ok (.putfield 132, 3) := by decide +kernel
theorem dX12_almanac_35 : decode cX12_almanac 35 = .ok (.aload_n 0, 1) := by decide +kernel
theorem dX12_almanac_36 : decode cX12_almanac 36 = .ok (.iconst 0, 1) := by decide +kernel
theorem dX12_almanac_37 : decode cX12_almanac 37 = .ok (.putfield 135, 3) := by decide +kernel
theorem dX12_almanac_40 : decode cX12_almanac 40 = .ok (.aload_n 0, 1) := by decide +kernel
theorem dX12_almanac_41 : decode cX12_almanac 41 = .ok (.iconst 0, 1) := by decide +kernel
theorem dX12_almanac_42 : decode cX12_almanac 42 = .ok (.putfield 138, 3) := by decide +kernel
theorem dX12_almanac_45 : decode cX12_almanac 45 = .ok (.aload_n 0, 1) := by decide +kernel
theorem dX12_almanac_46 : decode cX12_almanac 46 = .ok (.iconst 0, 1) := by decide +kernel
theorem dX12_almanac_47 : decode cX12_almanac 47 = .ok (.putfield 141, 3) := by decide +kernel
theorem dX12_almanac_50 : decode cX12_almanac 50 = .ok (.aload_n 0, 1) := by decide +kernel
theorem dX12_almanac_51 : decode cX12_almanac 51 = .ok (.iconst 0, 1) := by decide +kernel
theorem dX12_almanac_52 : decode cX12_almanac 52 = .ok (.putfield 144, 3) := by decide +kernel
theorem dX12_almanac_55 : decode cX12_almanac 55 = .ok (.aload_n 0, 1) := by decide +kernel
theorem dX12_almanac_56 : decode cX12_almanac 56 = .ok (.iconst 0, 1) := by decide +kernel
theorem dX12_almanac_57 : decode cX12_almanac 57 = .ok (.putfield 151, 3) := by decide +kernel
theorem dX12_almanac_60 : decode cX12_almanac 60 = .ok (.aload_n 0, 1) := by decide +kernel
theorem dX12_almanac_61 : decode cX12_almanac 61 = .ok (.iconst 0, 1) := by decide +kernel
theorem dX12_almanac_62 : decode cX12_almanac 62 = .ok (.putfield 174, 3) := by decide +kernel
theorem dX12_almanac_65 : decode cX12_almanac 65 = .ok (.aload_n 0, 1) := by decide +kernel
theorem dX12_almanac_66 : decode cX12_almanac 66 = .ok (.iconst 0, 1) := by decide +kernel
theorem dX12_almanac_67 : decode cX12_almanac 67 = .ok (.putfield 177, 3) := by decide +kernel
theorem dX12_almanac_70 : decode cX12_almanac 70 = .ok (.aload_n 0, 1) := by decide +kernel
theorem dX12_almanac_71 : decode cX12_almanac 71 = .ok (.iconst (-1), 1) := by decide +kernel
theorem dX12_almanac_72 : decode cX12_almanac 72 = .ok (.putfield 53, 3) := by decide +kernel
theorem dX12_almanac_75 : decode cX12_almanac 75 = .ok (.aload_n 0, 1) := by decide +kernel
theorem dX12_almanac_76 : decode cX12_almanac 76 = .ok (.invokevirtual 198, 3) := by decide +kernel
theorem dX12_almanac_79 : decode cX12_almanac 79 = .ok (.aload_n 0, 1) := by decide +kernel
theorem dX12_almanac_80 : decode cX12_almanac 80 = .ok (.getfield 174, 3) := by decide +kernel
theorem dX12_almanac_83 : decode cX12_almanac 83 = .ok (.ifCond .ne 17, 3) := by decide +kernel
theorem dX12_almanac_86 : decode cX12_almanac 86 = .ok (.aload_n 0, 1) := by decide +kernel
theorem dX12_almanac_87 : decode cX12_almanac 87 = .ok (.getfield 164, 3) := by decide +kernel
theorem dX12_almanac_90 : decode cX12_almanac 90 = .ok (.ifCond .eq 10, 3) := by decide +kernel
theorem dX12_almanac_100 : decode cX12_almanac 100 = .ok (.aload_n 0, 1) := by decide +kernel
theorem dX12_almanac_101 : decode cX12_almanac 101 = .ok (.iconst 0, 1) := by decide +kernel
theorem dX12_almanac_102 : decode cX12_almanac 102 = .ok (.putfield 99, 3) := by decide +kernel
theorem dX12_almanac_105 : decode cX12_almanac 105 = .ok (.aload_n 0, 1) := by decide +kernel
theorem dX12_almanac_106 : decode cX12_almanac 106 = .ok (.getfield 174, 3) := by decide +kernel
theorem dX12_almanac_109 : decode cX12_almanac 109 = .ok (.ifCond .eq 11, 3) := by decide +kernel
theorem dX12_almanac_120 : decode cX12_almanac 120 = .ok (.aload_n 0, 1) := by decide +kernel
theorem dX12_almanac_121 : decode cX12_almanac 121 = .ok (.getfield 126, 3) := by decide +kernel
theorem dX12_almanac_124 : decode cX12_almanac 124 = .ok (.ireturn, 1) := by decide +kernel
set_option maxHeartbeats 4000000 in
set_option maxRecDepth 100000 in
theorem fX12_almanac (l : Launch) (dC : Nat → ClassId) (dI : Nat → Nat → Nat) (sz : Nat) (h0 : Nat) (r : Nat → Nat) (kf : Nat → ClassId) : Met l yX12_almanac (.code yX12_almanac cX12_almanac 1 (some .int) :: wsGB) ({ frames := 3, cells := 0, slots := 0, locals := 66 }) (va_Pc [.ref h0] (fun U => U.heap.size = sz ∧ va_P (dC, dI) vwCl [(h0, .inr (12, fsM r)), ((r 0), .inl ((kf 0), 6, .inl (fun _ => 0))), ((r 1), .inl ((kf 1), 36, .inl (fun _ => 0))), ((r 2), .inl ((kf 2), 24, .inl (fun _ => 0))), ((r 3), .inl ((kf 3), 24, .inl (fun _ => 0))), ((r 5), .inl ((kf 5), 24, .inl (fun _ => 0))), ((r 6), .inl ((kf 6), 24, .inl (fun _ => 0))), ((r 7), .inl ((kf 7), 24, .inl (fun _ => 0))), ((r 8), .inl ((kf 8), 8, .inl (fun _ => 0))), ((r 9), .inl ((kf 9), 8, .inl (fun _ => 0))), ((r 10), .inl ((kf 10), 8, .inl (fun _ => 0))), ((r 11), .inl ((kf 11), 8, .inl (fun _ => 0))), ((r 4), .inl ((kf 4), 24, .inl (fun _ => 0))), ((r 12), .inl ((kf 12), 300, .inl (fun _ => 0)))] U.heap ∧ va_K (dC, dI) vwCl [((kf 0), .int), ((kf 1), .int), ((kf 2), .int), ((kf 3), .int), ((kf 5), .int), ((kf 6), .int), ((kf 7), .int), ((kf 8), .int), ((kf 9), .int), ((kf 10), .int), ((kf 11), .int), ((kf 4), .boolean), ((kf 12), .int)] U ∧ va_D (fun _ => True) [(h0, .inr (12, fsM r)), ((r 0), .inl ((kf 0), 6, .inl (fun _ => 0))), ((r 1), .inl ((kf 1), 36, .inl (fun _ => 0))), ((r 2), .inl ((kf 2), 24, .inl (fun _ => 0))), ((r 3), .inl ((kf 3), 24, .inl (fun _ => 0))), ((r 5), .inl ((kf 5), 24, .inl (fun _ => 0))), ((r 6), .inl ((kf 6), 24, .inl (fun _ => 0))), ((r 7), .inl ((kf 7), 24, .inl (fun _ => 0))), ((r 8), .inl ((kf 8), 8, .inl (fun _ => 0))), ((r 9), .inl ((kf 9), 8, .inl (fun _ => 0))), ((r 10), .inl ((kf 10), 8, .inl (fun _ => 0))), ((r 11), .inl ((kf 11), 8, .inl (fun _ => 0))), ((r 4), .inl ((kf 4), 24, .inl (fun _ => 0))), ((r 12), .inl ((kf 12), 300, .inl (fun _ => 0)))])) (va_Qi (fun (r : Int32) (u : Unit) => r = 0) (fun _ _ => True) (va_A [(h0, .inr (12, fsM r)), ((r 0), .inl ((kf 0), 6, .inl (fun _ => 0))), ((r 1), .inl ((kf 1), 36, .inl (fun _ => 0))), ((r 2), .inl ((kf 2), 24, .inl (fun _ => 0))), ((r 3), .inl ((kf 3), 24, .inl (fun _ => 0))), ((r 5), .inl ((kf 5), 24, .inl (fun _ => 0))), ((r 6), .inl ((kf 6), 24, .inl (fun _ => 0))), ((r 7), .inl ((kf 7), 24, .inl (fun _ => 0))), ((r 8), .inl ((kf 8), 8, .inl (fun _ => 0))), ((r 9), .inl ((kf 9), 8, .inl (fun _ => 0))), ((r 10), .inl ((kf 10), 8, .inl (fun _ => 0))), ((r 11), .inl ((kf 11), 8, .inl (fun _ => 0))), ((r 4), .inl ((kf 4), 24, .inl (fun _ => 0))), ((r 12), .inl ((kf 12), 300, .inl (fun _ => 0)))] sz)) 0 0 (va_A [(h0, .inr (12, fsM r)), ((r 0), .inl ((kf 0), 6, .inl (fun _ => 0))), ((r 1), .inl ((kf 1), 36, .inl (fun _ => 0))), ((r 2), .inl ((kf 2), 24, .inl (fun _ => 0))), ((r 3), .inl ((kf 3), 24, .inl (fun _ => 0))), ((r 5), .inl ((kf 5), 24, .inl (fun _ => 0))), ((r 6), .inl ((kf 6), 24, .inl (fun _ => 0))), ((r 7), .inl ((kf 7), 24, .inl (fun _ => 0))), ((r 8), .inl ((kf 8), 8, .inl (fun _ => 0))), ((r 9), .inl ((kf 9), 8, .inl (fun _ => 0))), ((r 10), .inl ((kf 10), 8, .inl (fun _ => 0))), ((r 11), .inl ((kf 11), 8, .inl (fun _ => 0))), ((r 4), .inl ((kf 4), 24, .inl (fun _ => 0))), ((r 12), .inl ((kf 12), 300, .inl (fun _ => 0)))] sz) := by
  refine Met.ofW (cc := cX12_almanac) (maxL := 1) (ret := (some .int)) (by decide) rfl ?_
  intro p e s m args below meth c s₁ B hml hv
  obtain ⟨rfl, hsz, hP, hK, hD0⟩ := hv
  have hx := B.exec
  have hb := B.bytes
  have hr := B.returns
  have hts := atoms_spec (ws := (.code yX12_almanac cX12_almanac 1 (some .int) :: wsGB)) B.pre
  have hown : s.vm.findClass RX12 = some m.cls := findClass_of_methodNamed B.named
  have hlocks := B.notSynchronized
  subst hsz
  have hD := hD0.self (sz := s.heap.size)
  generalize hAe : va_A [(h0, .inr (12, fsM r)), ((r 0), .inl ((kf 0), 6, .inl (fun _ => 0))), ((r 1), .inl ((kf 1), 36, .inl (fun _ => 0))), ((r 2), .inl ((kf 2), 24, .inl (fun _ => 0))), ((r 3), .inl ((kf 3), 24, .inl (fun _ => 0))), ((r 5), .inl ((kf 5), 24, .inl (fun _ => 0))), ((r 6), .inl ((kf 6), 24, .inl (fun _ => 0))), ((r 7), .inl ((kf 7), 24, .inl (fun _ => 0))), ((r 8), .inl ((kf 8), 8, .inl (fun _ => 0))), ((r 9), .inl ((kf 9), 8, .inl (fun _ => 0))), ((r 10), .inl ((kf 10), 8, .inl (fun _ => 0))), ((r 11), .inl ((kf 11), 8, .inl (fun _ => 0))), ((r 4), .inl ((kf 4), 24, .inl (fun _ => 0))), ((r 12), .inl ((kf 12), 300, .inl (fun _ => 0)))] s.heap.size = A at hD ⊢
  have hA : ∀ q : Nat, s.heap.size ≤ q → A q := fun q h => by rw [← hAe]; exact Or.inr h
  have hS : va_S A s.heap s.heap [] := va_S.rf
  have hl := lv_entry ([.ref h0]) (n := 1) (Nat.le_of_ble_eq_true rfl)
  rw [lg_entry_eq]
  generalize (lg_sl ([.ref h0]) ++ List.replicate (1 - (lg_sl ([.ref h0])).length) Slot.unset).toArray = ls at hl ⊢
  have hl : lv_has ls 1 [(0, .ref h0)] := hl
  refine lv_aload_n hx hb dX12_almanac_0 rfl (lv_at hl 0 rfl) ?_
  refine lv_iconst (v := 1) hx hb dX12_almanac_1 (by decide) ?_
  have hPc := hP.sub (ws' := [(h0, .inr (12, fsM r)), ((r 0), .inl ((kf 0), 6, .inl (fun _ => 0))), ((r 1), .inl ((kf 1), 36, .inl (fun _ => 0))), ((r 2), .inl ((kf 2), 24, .inl (fun _ => 0))), ((r 3), .inl ((kf 3), 24, .inl (fun _ => 0))), ((r 5), .inl ((kf 5), 24, .inl (fun _ => 0))), ((r 6), .inl ((kf 6), 24, .inl (fun _ => 0))), ((r 7), .inl ((kf 7), 24, .inl (fun _ => 0))), ((r 8), .inl ((kf 8), 8, .inl (fun _ => 0))), ((r 9), .inl ((kf 9), 8, .inl (fun _ => 0))), ((r 10), .inl ((kf 10), 8, .inl (fun _ => 0))), ((r 11), .inl ((kf 11), 8, .inl (fun _ => 0))), ((r 4), .inl ((kf 4), 24, .inl (fun _ => 0))), ((r 12), .inl ((kf 12), 300, .inl (fun _ => 0)))]) [0, 1, 2, 3, 4, 5, 6, 7, 8, 9, 10, 11, 12, 13] rfl
  have hDc := hD.sub (ws' := [(h0, .inr (12, fsM r)), ((r 0), .inl ((kf 0), 6, .inl (fun _ => 0))), ((r 1), .inl ((kf 1), 36, .inl (fun _ => 0))), ((r 2), .inl ((kf 2), 24, .inl (fun _ => 0))), ((r 3), .inl ((kf 3), 24, .inl (fun _ => 0))), ((r 5), .inl ((kf 5), 24, .inl (fun _ => 0))), ((r 6), .inl ((kf 6), 24, .inl (fun _ => 0))), ((r 7), .inl ((kf 7), 24, .inl (fun _ => 0))), ((r 8), .inl ((kf 8), 8, .inl (fun _ => 0))), ((r 9), .inl ((kf 9), 8, .inl (fun _ => 0))), ((r 10), .inl ((kf 10), 8, .inl (fun _ => 0))), ((r 11), .inl ((kf 11), 8, .inl (fun _ => 0))), ((r 4), .inl ((kf 4), 24, .inl (fun _ => 0))), ((r 12), .inl ((kf 12), 300, .inl (fun _ => 0)))]) [0, 1, 2, 3, 4, 5, 6, 7, 8, 9, 10, 11, 12, 13] (by decide) rfl
  have hKc := hK.sub (tys' := [((kf 0), .int), ((kf 1), .int), ((kf 2), .int), ((kf 3), .int), ((kf 5), .int), ((kf 6), .int), ((kf 7), .int), ((kf 8), .int), ((kf 9), .int), ((kf 10), .int), ((kf 11), .int), ((kf 4), .boolean), ((kf 12), .int)]) [0, 1, 2, 3, 4, 5, 6, 7, 8, 9, 10, 11, 12] rfl
  have hFc := va_free (wc := [(h0, .inr (12, fsM r)), ((r 0), .inl ((kf 0), 6, .inl (fun _ => 0))), ((r 1), .inl ((kf 1), 36, .inl (fun _ => 0))), ((r 2), .inl ((kf 2), 24, .inl (fun _ => 0))), ((r 3), .inl ((kf 3), 24, .inl (fun _ => 0))), ((r 5), .inl ((kf 5), 24, .inl (fun _ => 0))), ((r 6), .inl ((kf 6), 24, .inl (fun _ => 0))), ((r 7), .inl ((kf 7), 24, .inl (fun _ => 0))), ((r 8), .inl ((kf 8), 8, .inl (fun _ => 0))), ((r 9), .inl ((kf 9), 8, .inl (fun _ => 0))), ((r 10), .inl ((kf 10), 8, .inl (fun _ => 0))), ((r 11), .inl ((kf 11), 8, .inl (fun _ => 0))), ((r 4), .inl ((kf 4), 24, .inl (fun _ => 0))), ((r 12), .inl ((kf 12), 300, .inl (fun _ => 0)))]) hD hS hA [0, 1, 2, 3, 4, 5, 6, 7, 8, 9, 10, 11, 12, 13] rfl
  refine va_callv (va_runV (As := [.int 1]) (rest := []) ⟨hx, hb, hml, hown, hts⟩ (fX12_movesAll l dC dI s.heap.size h0 r kf) (cwV 1 hts (gz_gV mGB_86 mGB_87 mGB_88 mGB_5 mGB_85 goodGB) rfl rfl rfl (by decide +kernel) ⟨Nat.le_of_ble_eq_true rfl, Nat.le_of_ble_eq_true rfl⟩) ⟨fun a U g mk q => by obtain ⟨q0, q1, qP, qK, qD⟩ := q; exact ⟨q0, q1, qP, va_K.moved (u := U) (U := U.calling g mk a) (Vm.Alike.refl U.vm) qK, qD⟩, va_recv hKc hPc (ci := 12) (q0 := 0) rfl rfl, fun U hU hW => ⟨rfl, by rw [hU], by rw [hU]; exact hPc, va_K.moved hW.alike hKc, hDc.weaken (fun _ _ _ _ => trivial)⟩⟩ rfl rfl hl.1 rfl (lv_room (Nat.le_of_ble_eq_true rfl)) dX12_almanac_2 ⟨Nat.le_of_ble_eq_true rfl, Nat.le_of_ble_eq_true rfl⟩) hS (fun q _ h => hFc q h) hFc (fun  u t H1 locs ht hvm hw hB hz1 hk1 hS => ?_)
  obtain ⟨hP1, hK1, hD1⟩ := hB
  rw [ht] at hP1
  have hK1 := va_K.moved hvm.symm hK1
  obtain ⟨hP, hD⟩ := va_join (wr := []) (w1 := [(h0, .inr (12, fsMk r (nI 228) 1))]) hP hD [0, 1, 2, 3, 4, 5, 6, 7, 8, 9, 10, 11, 12, 13] [] rfl rfl (by decide) (by decide) hk1 hFc hP1 hD1
  generalize H1 = H at hP hS ⊢
  have hP : va_P (dC, dI) vwCl [(h0, .inr (12, fsMk r (nI 228) 1))] H := hP
  have hD : va_D A [(h0, .inr (12, fsMk r (nI 228) 1))] := hD
  refine lv_aload_n hx hb dX12_almanac_5 rfl (lv_at hl 0 rfl) ?_
  refine lv_iconst (v := 0) hx hb dX12_almanac_6 (by decide) ?_
  refine va_put (D := (dC, dI)) (ci := 12) (v := .int 0) (ty := .int) (C := RX12) (T := TX12) (N := 57) hx hb hts (fun w h => List.mem_cons_of_mem _ (jnGB_X12 w h)) tyX12 tyX12_ok nmX12 hown hK hP hD hS 0 rfl rfl 0 (by decide) (hts _ (List.mem_cons_of_mem _ mGB_27)) (fun _ h9 => h9) rfl (by decide +kernel) rfl rfl (Nat.le_of_ble_eq_true rfl) dX12_almanac_7 (fun H locs hP hD hS => ?_)
  have hP : va_P (dC, dI) vwCl [(h0, .inr (12, [.int 0, .int 0, .int 0, .int 0, .int 0, .int 0, .int 0, .int 0, .ref (r 0), .ref (r 1), .int 0, .ref (r 2), .ref (r 3), .ref (r 4), .ref (r 5), .ref (r 6), .ref (r 7), .int 0, .ref (r 8), .ref (r 9), .ref (r 10), .ref (r 11), .ref (r 12), .int (nI 228), .int 1, .ref (r 13), .int 0, .int 0, .int (-1), .int 0, .int 0, .int 0, .int 0, .int 0, .ref (r 14), .ref (r 15), .ref (r 16), .int 0, .ref (r 17), .ref (r 18), .ref (r 19), .int 0, .int (-1), .int (-1), .int (-1), .int (-1), .ref (r 20), .int 0, .int 0, .int 0, .int 0, .int 0, .ref (r 21), .ref (r 22), .int 0, .ref (r 23), .int 0]))] H := hP
  have hD : va_D A [(h0, .inr (12, [.int 0, .int 0, .int 0, .int 0, .int 0, .int 0, .int 0, .int 0, .ref (r 0), .ref (r 1), .int 0, .ref (r 2), .ref (r 3), .ref (r 4), .ref (r 5), .ref (r 6), .ref (r 7), .int 0, .ref (r 8), .ref (r 9), .ref (r 10), .ref (r 11), .ref (r 12), .int (nI 228), .int 1, .ref (r 13), .int 0, .int 0, .int (-1), .int 0, .int 0, .int 0, .int 0, .int 0, .ref (r 14), .ref (r 15), .ref (r 16), .int 0, .ref (r 17), .ref (r 18), .ref (r 19), .int 0, .int (-1), .int (-1), .int (-1), .int (-1), .ref (r 20), .int 0, .int 0, .int 0, .int 0, .int 0, .ref (r 21), .ref (r 22), .int 0, .ref (r 23), .int 0]))] := hD
  refine lv_aload_n hx hb dX12_almanac_10 rfl (lv_at hl 0 rfl) ?_
  refine lv_iconst (v := 0) hx hb dX12_almanac_11 (by decide) ?_
  refine va_put (D := (dC, dI)) (ci := 12) (v := .int 0) (ty := .int) (C := RX12) (T := TX12) (N := 57) hx hb hts (fun w h => List.mem_cons_of_mem _ (jnGB_X12 w h)) tyX12 tyX12_ok nmX12 hown hK hP hD hS 0 rfl rfl 1 (by decide) (hts _ (List.mem_cons_of_mem _ mGB_28)) (fun _ h9 => h9) rfl (by decide +kernel) rfl rfl (Nat.le_of_ble_eq_true rfl) dX12_almanac_12 (fun H locs hP hD hS => ?_)
  have hP : va_P (dC, dI) vwCl [(h0, .inr (12, [.int 0, .int 0, .int 0, .int 0, .int 0, .int 0, .int 0, .int 0, .ref (r 0), .ref (r 1), .int 0, .ref (r 2), .ref (r 3), .ref (r 4), .ref (r 5), .ref (r 6), .ref (r 7), .int 0, .ref (r 8), .ref (r 9), .ref (r 10), .ref (r 11), .ref (r 12), .int (nI 228), .int 1, .ref (r 13), .int 0, .int 0, .int (-1), .int 0, .int 0, .int 0, .int 0, .int 0, .ref (r 14), .ref (r 15), .ref (r 16), .int 0, .ref (r 17), .ref (r 18), .ref (r 19), .int 0, .int (-1), .int (-1), .int (-1), .int (-1), .ref (r 20), .int 0, .int 0, .int 0, .int 0, .int 0, .ref (r 21), .ref (r 22), .int 0, .ref (r 23), .int 0]))] H := hP
  have hD : va_D A [(h0, .inr (12, [.int 0, .int 0, .int 0, .int 0, .int 0, .int 0, .int 0, .int 0, .ref (r 0), .ref (r 1), .int 0, .ref (r 2), .ref (r 3), .ref (r 4), .ref (r 5), .ref (r 6), .ref (r 7), .int 0, .ref (r 8), .ref (r 9), .ref (r 10), .ref (r 11), .ref (r 12), .int (nI 228), .int 1, .ref (r 13), .int 0, .int 0, .int (-1), .int 0, .int 0, .int 0, .int 0, .int 0, .ref (r 14), .ref (r 15), .ref (r 16), .int 0, .ref (r 17), .ref (r 18), .ref (r 19), .int 0, .int (-1), .int (-1), .int (-1), .int (-1), .ref (r 20), .int 0, .int 0, .int 0, .int 0, .int 0, .ref (r 21), .ref (r 22), .int 0, .ref (r 23), .int 0]))] := hD
  refine lv_aload_n hx hb dX12_almanac_15 rfl (lv_at hl 0 rfl) ?_
  refine lv_iconst (v := 0) hx hb dX12_almanac_16 (by decide) ?_
  refine va_put (D := (dC, dI)) (ci := 12) (v := .int 0) (ty := .int) (C := RX12) (T := TX12) (N := 57) hx hb hts (fun w h => List.mem_cons_of_mem _ (jnGB_X12 w h)) tyX12 tyX12_ok nmX12 hown hK hP hD hS 0 rfl rfl 2 (by decide) (hts _ (List.mem_cons_of_mem _ mGB_29)) (fun _ h9 => h9) rfl (by decide +kernel) rfl rfl (Nat.le_of_ble_eq_true rfl) dX12_almanac_17 (fun H locs hP hD hS => ?_)
  have hP : va_P (dC, dI) vwCl [(h0, .inr (12, [.int 0, .int 0, .int 0, .int 0, .int 0, .int 0, .int 0, .int 0, .ref (r 0), .ref (r 1), .int 0, .ref (r 2), .ref (r 3), .ref (r 4), .ref (r 5), .ref (r 6), .ref (r 7), .int 0, .ref (r 8), .ref (r 9), .ref (r 10), .ref (r 11), .ref (r 12), .int (nI 228), .int 1, .ref (r 13), .int 0, .int 0, .int (-1), .int 0, .int 0, .int 0, .int 0, .int 0, .ref (r 14), .ref (r 15), .ref (r 16), .int 0, .ref (r 17), .ref (r 18), .ref (r 19), .int 0, .int (-1), .int (-1), .int (-1), .int (-1), .ref (r 20), .int 0, .int 0, .int 0, .int 0, .int 0, .ref (r 21), .ref (r 22), .int 0, .ref (r 23), .int 0]))] H := hP
  have hD : va_D A [(h0, .inr (12, [.int 0, .int 0, .int 0, .int 0, .int 0, .int 0, .int 0, .int 0, .ref (r 0), .ref (r 1), .int 0, .ref (r 2), .ref (r 3), .ref (r 4), .ref (r 5), .ref (r 6), .ref (r 7), .int 0, .ref (r 8), .ref (r 9), .ref (r 10), .ref (r 11), .ref (r 12), .int (nI 228), .int 1, .ref (r 13), .int 0, .int 0, .int (-1), .int 0, .int 0, .int 0, .int 0, .int 0, .ref (r 14), .ref (r 15), .ref (r 16), .int 0, .ref (r 17), .ref (r 18), .ref (r 19), .int 0, .int (-1), .int (-1), .int (-1), .int (-1), .ref (r 20), .int 0, .int 0, .int 0, .int 0, .int 0, .ref (r 21), .ref (r 22), .int 0, .ref (r 23), .int 0]))] := hD
  refine lv_aload_n hx hb dX12_almanac_20 rfl (lv_at hl 0 rfl) ?_
  refine lv_iconst (v := 0) hx hb dX12_almanac_21 (by decide) ?_
  refine va_put (D := (dC, dI)) (ci := 12) (v := .int 0) (ty := .int) (C := RX12) (T := TX12) (N := 57) hx hb hts (fun w h => List.mem_cons_of_mem _ (jnGB_X12 w h)) tyX12 tyX12_ok nmX12 hown hK hP hD hS 0 rfl rfl 3 (by decide) (hts _ (List.mem_cons_of_mem _ mGB_0)) (fun _ h9 => h9) rfl (by decide +kernel) rfl rfl (Nat.le_of_ble_eq_true rfl) dX12_almanac_22 (fun H locs hP hD hS => ?_)
  have hP : va_P (dC, dI) vwCl [(h0, .inr (12, [.int 0, .int 0, .int 0, .int 0, .int 0, .int 0, .int 0, .int 0, .ref (r 0), .ref (r 1), .int 0, .ref (r 2), .ref (r 3), .ref (r 4), .ref (r 5), .ref (r 6), .ref (r 7), .int 0, .ref (r 8), .ref (r 9), .ref (r 10), .ref (r 11), .ref (r 12), .int (nI 228), .int 1, .ref (r 13), .int 0, .int 0, .int (-1), .int 0, .int 0, .int 0, .int 0, .int 0, .ref (r 14), .ref (r 15), .ref (r 16), .int 0, .ref (r 17), .ref (r 18), .ref (r 19), .int 0, .int (-1), .int (-1), .int (-1), .int (-1), .ref (r 20), .int 0, .int 0, .int 0, .int 0, .int 0, .ref (r 21), .ref (r 22), .int 0, .ref (r 23), .int 0]))] H := hP
  have hD : va_D A [(h0, .inr (12, [.int 0, .int 0, .int 0, .int 0, .int 0, .int 0, .int 0, .int 0, .ref (r 0), .ref (r 1), .int 0, .ref (r 2), .ref (r 3), .ref (r 4), .ref (r 5), .ref (r 6), .ref (r 7), .int 0, .ref (r 8), .ref (r 9), .ref (r 10), .ref (r 11), .ref (r 12), .int (nI 228), .int 1, .ref (r 13), .int 0, .int 0, .int (-1), .int 0, .int 0, .int 0, .int 0, .int 0, .ref (r 14), .ref (r 15), .ref (r 16), .int 0, .ref (r 17), .ref (r 18), .ref (r 19), .int 0, .int (-1), .int (-1), .int (-1), .int (-1), .ref (r 20), .int 0, .int 0, .int 0, .int 0, .int 0, .ref (r 21), .ref (r 22), .int 0, .ref (r 23), .int 0]))] := hD
  refine lv_aload_n hx hb dX12_almanac_25 rfl (lv_at hl 0 rfl) ?_
  refine lv_iconst (v := 0) hx hb dX12_almanac_26 (by decide) ?_
  refine va_put (D := (dC, dI)) (ci := 12) (v := .int 0) (ty := .boolean) (C := RX12) (T := TX12) (N := 57) hx hb hts (fun w h => List.mem_cons_of_mem _ (jnGB_X12 w h)) tyX12 tyX12_ok nmX12 hown hK hP hD hS 0 rfl rfl 4 (by decide) (hts _ (List.mem_cons_of_mem _ mGB_20)) (fun _ h9 => h9) rfl (by decide +kernel) rfl rfl (Nat.le_of_ble_eq_true rfl) dX12_almanac_27 (fun H locs hP hD hS => ?_)
  have hP : va_P (dC, dI) vwCl [(h0, .inr (12, [.int 0, .int 0, .int 0, .int 0, .int 0, .int 0, .int 0, .int 0, .ref (r 0), .ref (r 1), .int 0, .ref (r 2), .ref (r 3), .ref (r 4), .ref (r 5), .ref (r 6), .ref (r 7), .int 0, .ref (r 8), .ref (r 9), .ref (r 10), .ref (r 11), .ref (r 12), .int (nI 228), .int 1, .ref (r 13), .int 0, .int 0, .int (-1), .int 0, .int 0, .int 0, .int 0, .int 0, .ref (r 14), .ref (r 15), .ref (r 16), .int 0, .ref (r 17), .ref (r 18), .ref (r 19), .int 0, .int (-1), .int (-1), .int (-1), .int (-1), .ref (r 20), .int 0, .int 0, .int 0, .int 0, .int 0, .ref (r 21), .ref (r 22), .int 0, .ref (r 23), .int 0]))] H := hP
  have hD : va_D A [(h0, .inr (12, [.int 0, .int 0, .int 0, .int 0, .int 0, .int 0, .int 0, .int 0, .ref (r 0), .ref (r 1), .int 0, .ref (r 2), .ref (r 3), .ref (r 4), .ref (r 5), .ref (r 6), .ref (r 7), .int 0, .ref (r 8), .ref (r 9), .ref (r 10), .ref (r 11), .ref (r 12), .int (nI 228), .int 1, .ref (r 13), .int 0, .int 0, .int (-1), .int 0, .int 0, .int 0, .int 0, .int 0, .ref (r 14), .ref (r 15), .ref (r 16), .int 0, .ref (r 17), .ref (r 18), .ref (r 19), .int 0, .int (-1), .int (-1), .int (-1), .int (-1), .ref (r 20), .int 0, .int 0, .int 0, .int 0, .int 0, .ref (r 21), .ref (r 22), .int 0, .ref (r 23), .int 0]))] := hD
  refine lv_aload_n hx hb dX12_almanac_30 rfl (lv_at hl 0 rfl) ?_
  refine lv_iconst (v := 0) hx hb dX12_almanac_31 (by decide) ?_
  refine va_put (D := (dC, dI)) (ci := 12) (v := .int 0) (ty := .int) (C := RX12) (T := TX12) (N := 57) hx hb hts (fun w h => List.mem_cons_of_mem _ (jnGB_X12 w h)) tyX12 tyX12_ok nmX12 hown hK hP hD hS 0 rfl rfl 5 (by decide) (hts _ (List.mem_cons_of_mem _ mGB_32)) (fun _ h9 => h9) rfl (by decide +kernel) rfl rfl (Nat.le_of_ble_eq_true rfl) dX12_almanac_32 (fun H locs hP hD hS => ?_)
  have hP : va_P (dC, dI) vwCl [(h0, .inr (12, [.int 0, .int 0, .int 0, .int 0, .int 0, .int 0, .int 0, .int 0, .ref (r 0), .ref (r 1), .int 0, .ref (r 2), .ref (r 3), .ref (r 4), .ref (r 5), .ref (r 6), .ref (r 7), .int 0, .ref (r 8), .ref (r 9), .ref (r 10), .ref (r 11), .ref (r 12), .int (nI 228), .int 1, .ref (r 13), .int 0, .int 0, .int (-1), .int 0, .int 0, .int 0, .int 0, .int 0, .ref (r 14), .ref (r 15), .ref (r 16), .int 0, .ref (r 17), .ref (r 18), .ref (r 19), .int 0, .int (-1), .int (-1), .int (-1), .int (-1), .ref (r 20), .int 0, .int 0, .int 0, .int 0, .int 0, .ref (r 21), .ref (r 22), .int 0, .ref (r 23), .int 0]))] H := hP
  have hD : va_D A [(h0, .inr (12, [.int 0, .int 0, .int 0, .int 0, .int 0, .int 0, .int 0, .int 0, .ref (r 0), .ref (r 1), .int 0, .ref (r 2), .ref (r 3), .ref (r 4), .ref (r 5), .ref (r 6), .ref (r 7), .int 0, .ref (r 8), .ref (r 9), .ref (r 10), .ref (r 11), .ref (r 12), .int (nI 228), .int 1, .ref (r 13), .int 0, .int 0, .int (-1), .int 0, .int 0, .int 0, .int 0, .int 0, .ref (r 14), .ref (r 15), .ref (r 16), .int 0, .ref (r 17), .ref (r 18), .ref (r 19), .int 0, .int (-1), .int (-1), .int (-1), .int (-1), .ref (r 20), .int 0, .int 0, .int 0, .int 0, .int 0, .ref (r 21), .ref (r 22), .int 0, .ref (r 23), .int 0]))] := hD
  refine lv_aload_n hx hb dX12_almanac_35 rfl (lv_at hl 0 rfl) ?_
  refine lv_iconst (v := 0) hx hb dX12_almanac_36 (by decide) ?_
  refine va_put (D := (dC, dI)) (ci := 12) (v := .int 0) (ty := .int) (C := RX12) (T := TX12) (N := 57) hx hb hts (fun w h => List.mem_cons_of_mem _ (jnGB_X12 w h)) tyX12 tyX12_ok nmX12 hown hK hP hD hS 0 rfl rfl 6 (by decide) (hts _ (List.mem_cons_of_mem _ mGB_33)) (fun _ h9 => h9) rfl (by decide +kernel) rfl rfl (Nat.le_of_ble_eq_true rfl) dX12_almanac_37 (fun H locs hP hD hS => ?_)
  have hP : va_P (dC, dI) vwCl [(h0, .inr (12, [.int 0, .int 0, .int 0, .int 0, .int 0, .int 0, .int 0, .int 0, .ref (r 0), .ref (r 1), .int 0, .ref (r 2), .ref (r 3), .ref (r 4), .ref (r 5), .ref (r 6), .ref (r 7), .int 0, .ref (r 8), .ref (r 9), .ref (r 10), .ref (r 11), .ref (r 12), .int (nI 228), .int 1, .ref (r 13), .int 0, .int 0, .int (-1), .int 0, .int 0, .int 0, .int 0, .int 0, .ref (r 14), .ref (r 15), .ref (r 16), .int 0, .ref (r 17), .ref (r 18), .ref (r 19), .int 0, .int (-1), .int (-1), .int (-1), .int (-1), .ref (r 20), .int 0, .int 0, .int 0, .int 0, .int 0, .ref (r 21), .ref (r 22), .int 0, .ref (r 23), .int 0]))] H := hP
  have hD : va_D A [(h0, .inr (12, [.int 0, .int 0, .int 0, .int 0, .int 0, .int 0, .int 0, .int 0, .ref (r 0), .ref (r 1), .int 0, .ref (r 2), .ref (r 3), .ref (r 4), .ref (r 5), .ref (r 6), .ref (r 7), .int 0, .ref (r 8), .ref (r 9), .ref (r 10), .ref (r 11), .ref (r 12), .int (nI 228), .int 1, .ref (r 13), .int 0, .int 0, .int (-1), .int 0, .int 0, .int 0, .int 0, .int 0, .ref (r 14), .ref (r 15), .ref (r 16), .int 0, .ref (r 17), .ref (r 18), .ref (r 19), .int 0, .int (-1), .int (-1), .int (-1), .int (-1), .ref (r 20), .int 0, .int 0, .int 0, .int 0, .int 0, .ref (r 21), .ref (r 22), .int 0, .ref (r 23), .int 0]))] := hD
  refine lv_aload_n hx hb dX12_almanac_40 rfl (lv_at hl 0 rfl) ?_
  refine lv_iconst (v := 0) hx hb dX12_almanac_41 (by decide) ?_
  refine va_put (D := (dC, dI)) (ci := 12) (v := .int 0) (ty := .int) (C := RX12) (T := TX12) (N := 57) hx hb hts (fun w h => List.mem_cons_of_mem _ (jnGB_X12 w h)) tyX12 tyX12_ok nmX12 hown hK hP hD hS 0 rfl rfl 7 (by decide) (hts _ (List.mem_cons_of_mem _ mGB_1)) (fun _ h9 => h9) rfl (by decide +kernel) rfl rfl (Nat.le_of_ble_eq_true rfl) dX12_almanac_42 (fun H locs hP hD hS => ?_)
  have hP : va_P (dC, dI) vwCl [(h0, .inr (12, [.int 0, .int 0, .int 0, .int 0, .int 0, .int 0, .int 0, .int 0, .ref (r 0), .ref (r 1), .int 0, .ref (r 2), .ref (r 3), .ref (r 4), .ref (r 5), .ref (r 6), .ref (r 7), .int 0, .ref (r 8), .ref (r 9), .ref (r 10), .ref (r 11), .ref (r 12), .int (nI 228), .int 1, .ref (r 13), .int 0, .int 0, .int (-1), .int 0, .int 0, .int 0, .int 0, .int 0, .ref (r 14), .ref (r 15), .ref (r 16), .int 0, .ref (r 17), .ref (r 18), .ref (r 19), .int 0, .int (-1), .int (-1), .int (-1), .int (-1), .ref (r 20), .int 0, .int 0, .int 0, .int 0, .int 0, .ref (r 21), .ref (r 22), .int 0, .ref (r 23), .int 0]))] H := hP
  have hD : va_D A [(h0, .inr (12, [.int 0, .int 0, .int 0, .int 0, .int 0, .int 0, .int 0, .int 0, .ref (r 0), .ref (r 1), .int 0, .ref (r 2), .ref (r 3), .ref (r 4), .ref (r 5), .ref (r 6), .ref (r 7), .int 0, .ref (r 8), .ref (r 9), .ref (r 10), .ref (r 11), .ref (r 12), .int (nI 228), .int 1, .ref (r 13), .int 0, .int 0, .int (-1), .int 0, .int 0, .int 0, .int 0, .int 0, .ref (r 14), .ref (r 15), .ref (r 16), .int 0, .ref (r 17), .ref (r 18), .ref (r 19), .int 0, .int (-1), .int (-1), .int (-1), .int (-1), .ref (r 20), .int 0, .int 0, .int 0, .int 0, .int 0, .ref (r 21), .ref (r 22), .int 0, .ref (r 23), .int 0]))] := hD
  refine lv_aload_n hx hb dX12_almanac_45 rfl (lv_at hl 0 rfl) ?_
  refine lv_iconst (v := 0) hx hb dX12_almanac_46 (by decide) ?_
  refine va_put (D := (dC, dI)) (ci := 12) (v := .int 0) (ty := .int) (C := RX12) (T := TX12) (N := 57) hx hb hts (fun w h => List.mem_cons_of_mem _ (jnGB_X12 w h)) tyX12 tyX12_ok nmX12 hown hK hP hD hS 0 rfl rfl 10 (by decide) (hts _ (List.mem_cons_of_mem _ mGB_6)) (fun _ h9 => h9) rfl (by decide +kernel) rfl rfl (Nat.le_of_ble_eq_true rfl) dX12_almanac_47 (fun H locs hP hD hS => ?_)
  have hP : va_P (dC, dI) vwCl [(h0, .inr (12, [.int 0, .int 0, .int 0, .int 0, .int 0, .int 0, .int 0, .int 0, .ref (r 0), .ref (r 1), .int 0, .ref (r 2), .ref (r 3), .ref (r 4), .ref (r 5), .ref (r 6), .ref (r 7), .int 0, .ref (r 8), .ref (r 9), .ref (r 10), .ref (r 11), .ref (r 12), .int (nI 228), .int 1, .ref (r 13), .int 0, .int 0, .int (-1), .int 0, .int 0, .int 0, .int 0, .int 0, .ref (r 14), .ref (r 15), .ref (r 16), .int 0, .ref (r 17), .ref (r 18), .ref (r 19), .int 0, .int (-1), .int (-1), .int (-1), .int (-1), .ref (r 20), .int 0, .int 0, .int 0, .int 0, .int 0, .ref (r 21), .ref (r 22), .int 0, .ref (r 23), .int 0]))] H := hP
  have hD : va_D A [(h0, .inr (12, [.int 0, .int 0, .int 0, .int 0, .int 0, .int 0, .int 0, .int 0, .ref (r 0), .ref (r 1), .int 0, .ref (r 2), .ref (r 3), .ref (r 4), .ref (r 5), .ref (r 6), .ref (r 7), .int 0, .ref (r 8), .ref (r 9), .ref (r 10), .ref (r 11), .ref (r 12), .int (nI 228), .int 1, .ref (r 13), .int 0, .int 0, .int (-1), .int 0, .int 0, .int 0, .int 0, .int 0, .ref (r 14), .ref (r 15), .ref (r 16), .int 0, .ref (r 17), .ref (r 18), .ref (r 19), .int 0, .int (-1), .int (-1), .int (-1), .int (-1), .ref (r 20), .int 0, .int 0, .int 0, .int 0, .int 0, .ref (r 21), .ref (r 22), .int 0, .ref (r 23), .int 0]))] := hD
  refine lv_aload_n hx hb dX12_almanac_50 rfl (lv_at hl 0 rfl) ?_
  refine lv_iconst (v := 0) hx hb dX12_almanac_51 (by decide) ?_
  refine va_put (D := (dC, dI)) (ci := 12) (v := .int 0) (ty := .int) (C := RX12) (T := TX12) (N := 57) hx hb hts (fun w h => List.mem_cons_of_mem _ (jnGB_X12 w h)) tyX12 tyX12_ok nmX12 hown hK hP hD hS 0 rfl rfl 17 (by decide) (hts _ (List.mem_cons_of_mem _ mGB_7)) (fun _ h9 => h9) rfl (by decide +kernel) rfl rfl (Nat.le_of_ble_eq_true rfl) dX12_almanac_52 (fun H locs hP hD hS => ?_)
  have hP : va_P (dC, dI) vwCl [(h0, .inr (12, [.int 0, .int 0, .int 0, .int 0, .int 0, .int 0, .int 0, .int 0, .ref (r 0), .ref (r 1), .int 0, .ref (r 2), .ref (r 3), .ref (r 4), .ref (r 5), .ref (r 6), .ref (r 7), .int 0, .ref (r 8), .ref (r 9), .ref (r 10), .ref (r 11), .ref (r 12), .int (nI 228), .int 1, .ref (r 13), .int 0, .int 0, .int (-1), .int 0, .int 0, .int 0, .int 0, .int 0, .ref (r 14), .ref (r 15), .ref (r 16), .int 0, .ref (r 17), .ref (r 18), .ref (r 19), .int 0, .int (-1), .int (-1), .int (-1), .int (-1), .ref (r 20), .int 0, .int 0, .int 0, .int 0, .int 0, .ref (r 21), .ref (r 22), .int 0, .ref (r 23), .int 0]))] H := hP
  have hD : va_D A [(h0, .inr (12, [.int 0, .int 0, .int 0, .int 0, .int 0, .int 0, .int 0, .int 0, .ref (r 0), .ref (r 1), .int 0, .ref (r 2), .ref (r 3), .ref (r 4), .ref (r 5), .ref (r 6), .ref (r 7), .int 0, .ref (r 8), .ref (r 9), .ref (r 10), .ref (r 11), .ref (r 12), .int (nI 228), .int 1, .ref (r 13), .int 0, .int 0, .int (-1), .int 0, .int 0, .int 0, .int 0, .int 0, .ref (r 14), .ref (r 15), .ref (r 16), .int 0, .ref (r 17), .ref (r 18), .ref (r 19), .int 0, .int (-1), .int (-1), .int (-1), .int (-1), .ref (r 20), .int 0, .int 0, .int 0, .int 0, .int 0, .ref (r 21), .ref (r 22), .int 0, .ref (r 23), .int 0]))] := hD
  refine lv_aload_n hx hb dX12_almanac_55 rfl (lv_at hl 0 rfl) ?_
  refine lv_iconst (v := 0) hx hb dX12_almanac_56 (by decide) ?_
  refine va_put (D := (dC, dI)) (ci := 12) (v := .int 0) (ty := .int) (C := RX12) (T := TX12) (N := 57) hx hb hts (fun w h => List.mem_cons_of_mem _ (jnGB_X12 w h)) tyX12 tyX12_ok nmX12 hown hK hP hD hS 0 rfl rfl 29 (by decide) (hts _ (List.mem_cons_of_mem _ mGB_77)) (fun _ h9 => h9) rfl (by decide +kernel) rfl rfl (Nat.le_of_ble_eq_true rfl) dX12_almanac_57 (fun H locs hP hD hS => ?_)
  have hP : va_P (dC, dI) vwCl [(h0, .inr (12, [.int 0, .int 0, .int 0, .int 0, .int 0, .int 0, .int 0, .int 0, .ref (r 0), .ref (r 1), .int 0, .ref (r 2), .ref (r 3), .ref (r 4), .ref (r 5), .ref (r 6), .ref (r 7), .int 0, .ref (r 8), .ref (r 9), .ref (r 10), .ref (r 11), .ref (r 12), .int (nI 228), .int 1, .ref (r 13), .int 0, .int 0, .int (-1), .int 0, .int 0, .int 0, .int 0, .int 0, .ref (r 14), .ref (r 15), .ref (r 16), .int 0, .ref (r 17), .ref (r 18), .ref (r 19), .int 0, .int (-1), .int (-1), .int (-1), .int (-1), .ref (r 20), .int 0, .int 0, .int 0, .int 0, .int 0, .ref (r 21), .ref (r 22), .int 0, .ref (r 23), .int 0]))] H := hP
  have hD : va_D A [(h0, .inr (12, [.int 0, .int 0, .int 0, .int 0, .int 0, .int 0, .int 0, .int 0, .ref (r 0), .ref (r 1), .int 0, .ref (r 2), .ref (r 3), .ref (r 4), .ref (r 5), .ref (r 6), .ref (r 7), .int 0, .ref (r 8), .ref (r 9), .ref (r 10), .ref (r 11), .ref (r 12), .int (nI 228), .int 1, .ref (r 13), .int 0, .int 0, .int (-1), .int 0, .int 0, .int 0, .int 0, .int 0, .ref (r 14), .ref (r 15), .ref (r 16), .int 0, .ref (r 17), .ref (r 18), .ref (r 19), .int 0, .int (-1), .int (-1), .int (-1), .int (-1), .ref (r 20), .int 0, .int 0, .int 0, .int 0, .int 0, .ref (r 21), .ref (r 22), .int 0, .ref (r 23), .int 0]))] := hD
  refine lv_aload_n hx hb dX12_almanac_60 rfl (lv_at hl 0 rfl) ?_
  refine lv_iconst (v := 0) hx hb dX12_almanac_61 (by decide) ?_
  refine va_put (D := (dC, dI)) (ci := 12) (v := .int 0) (ty := .boolean) (C := RX12) (T := TX12) (N := 57) hx hb hts (fun w h => List.mem_cons_of_mem _ (jnGB_X12 w h)) tyX12 tyX12_ok nmX12 hown hK hP hD hS 0 rfl rfl 33 (by decide) (hts _ (List.mem_cons_of_mem _ mGB_89)) (fun _ h9 => h9) rfl (by decide +kernel) rfl rfl (Nat.le_of_ble_eq_true rfl) dX12_almanac_62 (fun H locs hP hD hS => ?_)
  have hP : va_P (dC, dI) vwCl [(h0, .inr (12, [.int 0, .int 0, .int 0, .int 0, .int 0, .int 0, .int 0, .int 0, .ref (r 0), .ref (r 1), .int 0, .ref (r 2), .ref (r 3), .ref (r 4), .ref (r 5), .ref (r 6), .ref (r 7), .int 0, .ref (r 8), .ref (r 9), .ref (r 10), .ref (r 11), .ref (r 12), .int (nI 228), .int 1, .ref (r 13), .int 0, .int 0, .int (-1), .int 0, .int 0, .int 0, .int 0, .int 0, .ref (r 14), .ref (r 15), .ref (r 16), .int 0, .ref (r 17), .ref (r 18), .ref (r 19), .int 0, .int (-1), .int (-1), .int (-1), .int (-1), .ref (r 20), .int 0, .int 0, .int 0, .int 0, .int 0, .ref (r 21), .ref (r 22), .int 0, .ref (r 23), .int 0]))] H := hP
  have hD : va_D A [(h0, .inr (12, [.int 0, .int 0, .int 0, .int 0, .int 0, .int 0, .int 0, .int 0, .ref (r 0), .ref (r 1), .int 0, .ref (r 2), .ref (r 3), .ref (r 4), .ref (r 5), .ref (r 6), .ref (r 7), .int 0, .ref (r 8), .ref (r 9), .ref (r 10), .ref (r 11), .ref (r 12), .int (nI 228), .int 1, .ref (r 13), .int 0, .int 0, .int (-1), .int 0, .int 0, .int 0, .int 0, .int 0, .ref (r 14), .ref (r 15), .ref (r 16), .int 0, .ref (r 17), .ref (r 18), .ref (r 19), .int 0, .int (-1), .int (-1), .int (-1), .int (-1), .ref (r 20), .int 0, .int 0, .int 0, .int 0, .int 0, .ref (r 21), .ref (r 22), .int 0, .ref (r 23), .int 0]))] := hD
  refine lv_aload_n hx hb dX12_almanac_65 rfl (lv_at hl 0 rfl) ?_
  refine lv_iconst (v := 0) hx hb dX12_almanac_66 (by decide) ?_
  refine va_put (D := (dC, dI)) (ci := 12) (v := .int 0) (ty := .int) (C := RX12) (T := TX12) (N := 57) hx hb hts (fun w h => List.mem_cons_of_mem _ (jnGB_X12 w h)) tyX12 tyX12_ok nmX12 hown hK hP hD hS 0 rfl rfl 27 (by decide) (hts _ (List.mem_cons_of_mem _ mGB_26)) (fun _ h9 => h9) rfl (by decide +kernel) rfl rfl (Nat.le_of_ble_eq_true rfl) dX12_almanac_67 (fun H locs hP hD hS => ?_)
  have hP : va_P (dC, dI) vwCl [(h0, .inr (12, [.int 0, .int 0, .int 0, .int 0, .int 0, .int 0, .int 0, .int 0, .ref (r 0), .ref (r 1), .int 0, .ref (r 2), .ref (r 3), .ref (r 4), .ref (r 5), .ref (r 6), .ref (r 7), .int 0, .ref (r 8), .ref (r 9), .ref (r 10), .ref (r 11), .ref (r 12), .int (nI 228), .int 1, .ref (r 13), .int 0, .int 0, .int (-1), .int 0, .int 0, .int 0, .int 0, .int 0, .ref (r 14), .ref (r 15), .ref (r 16), .int 0, .ref (r 17), .ref (r 18), .ref (r 19), .int 0, .int (-1), .int (-1), .int (-1), .int (-1), .ref (r 20), .int 0, .int 0, .int 0, .int 0, .int 0, .ref (r 21), .ref (r 22), .int 0, .ref (r 23), .int 0]))] H := hP
  have hD : va_D A [(h0, .inr (12, [.int 0, .int 0, .int 0, .int 0, .int 0, .int 0, .int 0, .int 0, .ref (r 0), .ref (r 1), .int 0, .ref (r 2), .ref (r 3), .ref (r 4), .ref (r 5), .ref (r 6), .ref (r 7), .int 0, .ref (r 8), .ref (r 9), .ref (r 10), .ref (r 11), .ref (r 12), .int (nI 228), .int 1, .ref (r 13), .int 0, .int 0, .int (-1), .int 0, .int 0, .int 0, .int 0, .int 0, .ref (r 14), .ref (r 15), .ref (r 16), .int 0, .ref (r 17), .ref (r 18), .ref (r 19), .int 0, .int (-1), .int (-1), .int (-1), .int (-1), .ref (r 20), .int 0, .int 0, .int 0, .int 0, .int 0, .ref (r 21), .ref (r 22), .int 0, .ref (r 23), .int 0]))] := hD
  refine lv_aload_n hx hb dX12_almanac_70 rfl (lv_at hl 0 rfl) ?_
  refine lv_iconst (v := (-1)) hx hb dX12_almanac_71 (by decide) ?_
  refine va_put (D := (dC, dI)) (ci := 12) (v := .int (-1)) (ty := .int) (C := RX12) (T := TX12) (N := 57) hx hb hts (fun w h => List.mem_cons_of_mem _ (jnGB_X12 w h)) tyX12 tyX12_ok nmX12 hown hK hP hD hS 0 rfl rfl 28 (by decide) (hts _ (List.mem_cons_of_mem _ mGB_25)) (fun _ h9 => h9) rfl (by decide +kernel) rfl rfl (Nat.le_of_ble_eq_true rfl) dX12_almanac_72 (fun H locs hP hD hS => ?_)
  have hP : va_P (dC, dI) vwCl [(h0, .inr (12, [.int 0, .int 0, .int 0, .int 0, .int 0, .int 0, .int 0, .int 0, .ref (r 0), .ref (r 1), .int 0, .ref (r 2), .ref (r 3), .ref (r 4), .ref (r 5), .ref (r 6), .ref (r 7), .int 0, .ref (r 8), .ref (r 9), .ref (r 10), .ref (r 11), .ref (r 12), .int (nI 228), .int 1, .ref (r 13), .int 0, .int 0, .int (-1), .int 0, .int 0, .int 0, .int 0, .int 0, .ref (r 14), .ref (r 15), .ref (r 16), .int 0, .ref (r 17), .ref (r 18), .ref (r 19), .int 0, .int (-1), .int (-1), .int (-1), .int (-1), .ref (r 20), .int 0, .int 0, .int 0, .int 0, .int 0, .ref (r 21), .ref (r 22), .int 0, .ref (r 23), .int 0]))] H := hP
  have hD : va_D A [(h0, .inr (12, [.int 0, .int 0, .int 0, .int 0, .int 0, .int 0, .int 0, .int 0, .ref (r 0), .ref (r 1), .int 0, .ref (r 2), .ref (r 3), .ref (r 4), .ref (r 5), .ref (r 6), .ref (r 7), .int 0, .ref (r 8), .ref (r 9), .ref (r 10), .ref (r 11), .ref (r 12), .int (nI 228), .int 1, .ref (r 13), .int 0, .int 0, .int (-1), .int 0, .int 0, .int 0, .int 0, .int 0, .ref (r 14), .ref (r 15), .ref (r 16), .int 0, .ref (r 17), .ref (r 18), .ref (r 19), .int 0, .int (-1), .int (-1), .int (-1), .int (-1), .ref (r 20), .int 0, .int 0, .int 0, .int 0, .int 0, .ref (r 21), .ref (r 22), .int 0, .ref (r 23), .int 0]))] := hD
  refine lv_aload_n hx hb dX12_almanac_75 rfl (lv_at hl 0 rfl) ?_
  have hPc := hP.sub (ws' := [(h0, .inr (12, [.int 0, .int 0, .int 0, .int 0, .int 0, .int 0, .int 0, .int 0, .ref (r 0), .ref (r 1), .int 0, .ref (r 2), .ref (r 3), .ref (r 4), .ref (r 5), .ref (r 6), .ref (r 7), .int 0, .ref (r 8), .ref (r 9), .ref (r 10), .ref (r 11), .ref (r 12), .int (nI 228), .int 1, .ref (r 13), .int 0, .int 0, .int (-1), .int 0, .int 0, .int 0, .int 0, .int 0, .ref (r 14), .ref (r 15), .ref (r 16), .int 0, .ref (r 17), .ref (r 18), .ref (r 19), .int 0, .int (-1), .int (-1), .int (-1), .int (-1), .ref (r 20), .int 0, .int 0, .int 0, .int 0, .int 0, .ref (r 21), .ref (r 22), .int 0, .ref (r 23), .int 0]))]) [0] rfl
  have hDc := hD.sub (ws' := [(h0, .inr (12, [.int 0, .int 0, .int 0, .int 0, .int 0, .int 0, .int 0, .int 0, .ref (r 0), .ref (r 1), .int 0, .ref (r 2), .ref (r 3), .ref (r 4), .ref (r 5), .ref (r 6), .ref (r 7), .int 0, .ref (r 8), .ref (r 9), .ref (r 10), .ref (r 11), .ref (r 12), .int (nI 228), .int 1, .ref (r 13), .int 0, .int 0, .int (-1), .int 0, .int 0, .int 0, .int 0, .int 0, .ref (r 14), .ref (r 15), .ref (r 16), .int 0, .ref (r 17), .ref (r 18), .ref (r 19), .int 0, .int (-1), .int (-1), .int (-1), .int (-1), .ref (r 20), .int 0, .int 0, .int 0, .int 0, .int 0, .ref (r 21), .ref (r 22), .int 0, .ref (r 23), .int 0]))]) [0] (by decide) rfl
  have hKc := hK.sub (tys' := []) [] rfl
  have hFc := va_free (wc := [(h0, .inr (12, [.int 0, .int 0, .int 0, .int 0, .int 0, .int 0, .int 0, .int 0, .ref (r 0), .ref (r 1), .int 0, .ref (r 2), .ref (r 3), .ref (r 4), .ref (r 5), .ref (r 6), .ref (r 7), .int 0, .ref (r 8), .ref (r 9), .ref (r 10), .ref (r 11), .ref (r 12), .int (nI 228), .int 1, .ref (r 13), .int 0, .int 0, .int (-1), .int 0, .int 0, .int 0, .int 0, .int 0, .ref (r 14), .ref (r 15), .ref (r 16), .int 0, .ref (r 17), .ref (r 18), .ref (r 19), .int 0, .int (-1), .int (-1), .int (-1), .int (-1), .ref (r 20), .int 0, .int 0, .int 0, .int 0, .int 0, .ref (r 21), .ref (r 22), .int 0, .ref (r 23), .int 0]))]) hD hS hA [0] rfl
  refine va_callv (va_runV (As := []) (rest := []) ⟨hx, hb, hml, hown, hts⟩ (fX12_next l dC dI H.size h0 r (nI 228) 1) (cwV 0 hts (gz_gV mGB_91 mGB_92 mGB_93 mGB_5 mGB_90 goodGB) rfl rfl rfl (by decide +kernel) ⟨Nat.le_of_ble_eq_true rfl, Nat.le_of_ble_eq_true rfl⟩) ⟨fun a U g mk q => by obtain ⟨q0, q1, qP, qK, qD⟩ := q; exact ⟨q0, q1, qP, va_K.moved (u := U) (U := U.calling g mk a) (Vm.Alike.refl U.vm) qK, qD⟩, va_recv hKc hPc (ci := 12) (q0 := 0) rfl rfl, fun U hU hW => ⟨rfl, by rw [hU], by rw [hU]; exact hPc, va_K.moved hW.alike hKc, hDc.weaken (fun _ _ _ _ => trivial)⟩⟩ rfl rfl hl.1 rfl (lv_room (Nat.le_of_ble_eq_true rfl)) dX12_almanac_76 ⟨Nat.le_of_ble_eq_true rfl, Nat.le_of_ble_eq_true rfl⟩) hS (fun q _ h => hFc q h) hFc (fun  u t H1 locs ht hvm hw hB hz1 hk1 hS => ?_)
  obtain ⟨hP1, hK1, hD1⟩ := hB
  rw [ht] at hP1
  have hK1 := va_K.moved hvm.symm hK1
  obtain ⟨hP, hD⟩ := va_join (wr := []) (w1 := [(h0, .inr (12, fsMk r (nI 228) 1))]) hP hD [0] [] rfl rfl (by decide) (by decide) hk1 hFc hP1 hD1
  generalize H1 = H at hP hS ⊢
  have hP : va_P (dC, dI) vwCl [(h0, .inr (12, fsMk r (nI 228) 1))] H := hP
  have hD : va_D A [(h0, .inr (12, fsMk r (nI 228) 1))] := hD
  refine lv_aload_n hx hb dX12_almanac_79 rfl (lv_at hl 0 rfl) ?_
  refine va_get (D := (dC, dI)) (ci := 12) (v := .int 0) (C := RX12) (T := TX12) (N := 57) hx hb hts (fun w h => List.mem_cons_of_mem _ (jnGB_X12 w h)) hown hK hP 0 rfl rfl 33 (by decide) (hts _ (List.mem_cons_of_mem _ mGB_89)) (fun _ h9 => h9) rfl dX12_almanac_80 ?_
  refine lv_if_ne (tgt := 100) hx hb dX12_almanac_83 (by decide) (fun c_3 => absurd (by decide) c_3) (fun c_3 => ?_)
  refine lv_aload_n hx hb dX12_almanac_86 rfl (lv_at hl 0 rfl) ?_
  refine va_get (D := (dC, dI)) (ci := 12) (v := .int 0) (C := RX12) (T := TX12) (N := 57) hx hb hts (fun w h => List.mem_cons_of_mem _ (jnGB_X12 w h)) hown hK hP 0 rfl rfl 31 (by decide) (hts _ (List.mem_cons_of_mem _ mGB_84)) (fun _ h9 => h9) rfl dX12_almanac_87 ?_
  refine lv_if_eq (tgt := 100) hx hb dX12_almanac_90 (by decide) (fun c_4 => ?_) (fun c_4 => absurd (by decide) c_4)
  refine lv_aload_n hx hb dX12_almanac_100 rfl (lv_at hl 0 rfl) ?_
  refine lv_iconst (v := 0) hx hb dX12_almanac_101 (by decide) ?_
  refine va_put (D := (dC, dI)) (ci := 12) (v := .int 0) (ty := .int) (C := RX12) (T := TX12) (N := 57) hx hb hts (fun w h => List.mem_cons_of_mem _ (jnGB_X12 w h)) tyX12 tyX12_ok nmX12 hown hK hP hD hS 0 rfl rfl 26 (by decide) (hts _ (List.mem_cons_of_mem _ mGB_30)) (fun _ h9 => h9) rfl (by decide +kernel) rfl rfl (Nat.le_of_ble_eq_true rfl) dX12_almanac_102 (fun H locs hP hD hS => ?_)
  have hP : va_P (dC, dI) vwCl [(h0, .inr (12, [.int 0, .int 0, .int 0, .int 0, .int 0, .int 0, .int 0, .int 0, .ref (r 0), .ref (r 1), .int 0, .ref (r 2), .ref (r 3), .ref (r 4), .ref (r 5), .ref (r 6), .ref (r 7), .int 0, .ref (r 8), .ref (r 9), .ref (r 10), .ref (r 11), .ref (r 12), .int (nI 228), .int 1, .ref (r 13), .int 0, .int 0, .int (-1), .int 0, .int 0, .int 0, .int 0, .int 0, .ref (r 14), .ref (r 15), .ref (r 16), .int 0, .ref (r 17), .ref (r 18), .ref (r 19), .int 0, .int (-1), .int (-1), .int (-1), .int (-1), .ref (r 20), .int 0, .int 0, .int 0, .int 0, .int 0, .ref (r 21), .ref (r 22), .int 0, .ref (r 23), .int 0]))] H := hP
  have hD : va_D A [(h0, .inr (12, [.int 0, .int 0, .int 0, .int 0, .int 0, .int 0, .int 0, .int 0, .ref (r 0), .ref (r 1), .int 0, .ref (r 2), .ref (r 3), .ref (r 4), .ref (r 5), .ref (r 6), .ref (r 7), .int 0, .ref (r 8), .ref (r 9), .ref (r 10), .ref (r 11), .ref (r 12), .int (nI 228), .int 1, .ref (r 13), .int 0, .int 0, .int (-1), .int 0, .int 0, .int 0, .int 0, .int 0, .ref (r 14), .ref (r 15), .ref (r 16), .int 0, .ref (r 17), .ref (r 18), .ref (r 19), .int 0, .int (-1), .int (-1), .int (-1), .int (-1), .ref (r 20), .int 0, .int 0, .int 0, .int 0, .int 0, .ref (r 21), .ref (r 22), .int 0, .ref (r 23), .int 0]))] := hD
  refine lv_aload_n hx hb dX12_almanac_105 rfl (lv_at hl 0 rfl) ?_
  refine va_get (D := (dC, dI)) (ci := 12) (v := .int 0) (C := RX12) (T := TX12) (N := 57) hx hb hts (fun w h => List.mem_cons_of_mem _ (jnGB_X12 w h)) hown hK hP 0 rfl rfl 33 (by decide) (hts _ (List.mem_cons_of_mem _ mGB_89)) (fun _ h9 => h9) rfl dX12_almanac_106 ?_
  refine lv_if_eq (tgt := 120) hx hb dX12_almanac_109 (by decide) (fun c_5 => ?_) (fun c_5 => absurd (by decide) c_5)
  refine lv_aload_n hx hb dX12_almanac_120 rfl (lv_at hl 0 rfl) ?_
  refine va_get (D := (dC, dI)) (ci := 12) (v := .int 0) (C := RX12) (T := TX12) (N := 57) hx hb hts (fun w h => List.mem_cons_of_mem _ (jnGB_X12 w h)) hown hK hP 0 rfl rfl 3 (by decide) (hts _ (List.mem_cons_of_mem _ mGB_0)) (fun _ h9 => h9) rfl dX12_almanac_121 ?_
  refine W.widen (k := 0) (n := 0) (Nat.le_of_ble_eq_true rfl) (Nat.le_of_ble_eq_true rfl) ?_
  exact W.iret (v := 0) hx hb hr (fun t ht hW => ⟨⟨0, (), rfl, rfl, trivial⟩, hS.F ht⟩) hS.2.2 dX12_almanac_124
