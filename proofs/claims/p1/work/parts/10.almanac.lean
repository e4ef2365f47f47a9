theorem dX0_init_0 : decode cX0_init 0 = .ok (.aload_n 0, 1) := by decide +kernel
theorem dX0_init_1 : decode cX0_init 1 = .ok (.invokespecial 3, 3) := by decide +kernel
theorem dX0_init_4 : decode cX0_init 4 = .ok (.aload_n 0, 1) := by decide +kernel
theorem dX0_init_5 : decode cX0_init 5 = .ok (.bipush 6, 2) := by decide +kernel
theorem dX0_init_7 : decode cX0_init 7 = .ok (.anewarray 9, 3) := by decide +kernel
theorem dX0_init_10 : decode cX0_init 10 = .ok (.putfield 11, 3) := by decide +kernel
theorem dX0_init_13 : decode cX0_init 13 = .ok (.aload_n 0, 1) := by decide +kernel
theorem dX0_init_14 : decode cX0_init 14 = .ok (.bipush 24, 2) := by decide +kernel
theorem dX0_init_16 : decode cX0_init 16 = .ok (.anewarray 17, 3) := by decide +kernel
theorem dX0_init_19 : decode cX0_init 19 = .ok (.putfield 19, 3) := by decide +kernel
theorem dX0_init_22 : decode cX0_init 22 = .ok (.aload_n 0, 1) := by decide +kernel
theorem dX0_init_23 : decode cX0_init 23 = .ok (.bipush 8, 2) := by decide +kernel
theorem dX0_init_25 : decode cX0_init 25 = .ok (.anewarray 23, 3) := by decide +kernel
theorem dX0_init_28 : decode cX0_init 28 = .ok (.putfield 25, 3) := by decide +kernel
theorem dX0_init_31 : decode cX0_init 31 = .ok (.iconst 0, 1) := by decide +kernel
theorem dX0_init_32 : decode cX0_init 32 = .ok (.istore_n 1, 1) := by decide +kernel
theorem dX0_init_33 : decode cX0_init 33 = .ok (.iload_n 1, 1) := by decide +kernel
theorem dX0_init_34 : decode cX0_init 34 = .ok (.bipush 6, 2) := by decide +kernel
theorem dX0_init_36 : decode cX0_init 36 = .ok (.if_icmp .ge 22, 3) := by decide +kernel
theorem dX0_init_39 : decode cX0_init 39 = .ok (.aload_n 0, 1) := by decide +kernel
theorem dX0_init_40 : decode cX0_init 40 = .ok (.getfield 11, 3) := by decide +kernel
theorem dX0_init_43 : decode cX0_init 43 = .ok (.iload_n 1, 1) := by decide +kernel
theorem dX0_init_44 : decode cX0_init 44 = .ok (.new 9, 3) := by decide +kernel
theorem dX0_init_47 : decode cX0_init 47 = .ok (.dup, 1) := by decide +kernel
theorem dX0_init_48 : decode cX0_init 48 = .ok (.invokespecial 29, 3) := by decide +kernel
theorem dX0_init_51 : decode cX0_init 51 = .ok (.aastore, 1) := by decide +kernel
theorem dX0_init_52 : decode cX0_init 52 = .ok (.iinc 1 1, 3) := by decide +kernel
theorem dX0_init_55 : decode cX0_init 55 = .ok (.goto (-22), 3) := by decide +kernel
theorem dX0_init_58 : decode cX0_init 58 = .ok (.iconst 0, 1) := by decide +kernel
theorem dX0_init_59 : decode cX0_init 59 = .ok (.istore_n 1, 1) := by decide +kernel
theorem dX0_init_60 : decode cX0_init 60 = .ok (.iload_n 1, 1) := by decide +kernel
theorem dX0_init_61 : decode cX0_init 61 = .ok (.bipush 24, 2) := by decide +kernel
theorem dX0_init_63 : decode cX0_init 63 = .ok (.if_icmp .ge 22, 3) := by decide +kernel
theorem dX0_init_66 : decode cX0_init 66 = .ok (.aload_n 0, 1) := by decide +kernel
theorem dX0_init_67 : decode cX0_init 67 = .ok (.getfield 19, 3) := by decide +kernel
theorem dX0_init_70 : decode cX0_init 70 = .ok (.iload_n 1, 1) := by decide +kernel
theorem dX0_init_71 : decode cX0_init 71 = .ok (.new 17, 3) := by decide +kernel
theorem dX0_init_74 : decode cX0_init 74 = .ok (.dup, 1) := by decide +kernel
theorem dX0_init_75 : decode cX0_init 75 = .ok (.invokespecial 30, 3) := by decide +kernel
theorem dX0_init_78 : decode cX0_init 78 = .ok (.aastore, 1) := by decide +kernel
theorem dX0_init_79 : decode cX0_init 79 = .ok (.iinc 1 1, 3) := by decide +kernel
theorem dX0_init_82 : decode cX0_init 82 = .ok (.goto (-22), 3) := by decide +kernel
theorem dX0_init_85 : decode cX0_init 85 = .ok (.iconst 0, 1) := by decide +kernel
theorem dX0_init_86 : decode cX0_init 86 = .ok (.istore_n 1, 1) := by decide +kernel
theorem dX0_init_87 : decode cX0_init 87 = .ok (.iload_n 1, 1) := by decide +kernel
theorem dX0_init_88 : decode cX0_init 88 = .ok (.bipush 8, 2) := by decide +kernel
theorem dX0_init_90 : decode cX0_init 90 = .ok (.if_icmp .ge 22, 3) := by decide +kernel
theorem dX0_init_93 : decode cX0_init 93 = .ok (.aload_n 0, 1) := by decide +kernel
theorem dX0_init_94 : decode cX0_init 94 = .ok (.getfield 25, 3) := by decide +kernel
theorem dX0_init_97 : decode cX0_init 97 = .ok (.iload_n 1, 1) := by decide +kernel
theorem dX0_init_98 : decode cX0_init 98 = .ok (.new 23, 3) := by decide +kernel
theorem dX0_init_101 : decode cX0_init 101 = .ok (.dup, 1) := by decide +kernel
theorem dX0_init_102 : decode cX0_init 102 = .ok (.invokespecial 31, 3) := by decide +kernel
theorem dX0_init_105 : decode cX0_init 105 = .ok (.aastore, 1) := by decide +kernel
theorem dX0_init_106 : decode cX0_init 106 = .ok (.iinc 1 1, 3) := by decide +kernel
theorem dX0_init_109 : decode cX0_init 109 = .ok (.goto (-22), 3) := by decide +kernel
theorem dX0_init_112 : decode cX0_init 112 = .ok (.return_, 1) := by decide +kernel
set_option maxHeartbeats 4000000 in
set_option maxRecDepth 100000 in
theorem fX0_init (l : Launch) (dC : Nat → ClassId) (dI : Nat → Nat → Nat) (sz : Nat) (h0 : Nat) : Met l yX0_init (.code yX0_init cX0_init 2 none :: wsGA) ({ frames := 2, cells := 41, slots := 226, locals := 32 }) (va_Pc [.ref h0] (fun U => U.heap.size = sz ∧ va_P (dC, dI) vwCl [(h0, .inr (0, [.int 0, .int 0, .int 0, .int 0, .int 0, .int 0, .int 0, .int 0, .int 0, .int 0, .null, .null, .null]))] U.heap ∧ va_K (dC, dI) vwCl [] U ∧ va_D (fun _ => True) [(h0, .inr (0, [.int 0, .int 0, .int 0, .int 0, .int 0, .int 0, .int 0, .int 0, .int 0, .int 0, .null, .null, .null]))] ∧ nzA U)) (va_Qv (fun (u : Unit) => True) (fun _ t => ∃ (q1 : Nat) (q2 : Nat) (q3 : Nat), va_P (dC, dI) vwCl [(h0, .inr (0, [.int 0, .int 0, .int 0, .int 0, .int 0, .int 0, .int 0, .int 0, .int 0, .int 0, .ref q1, .ref q2, .ref q3]))] t.heap ∧ va_K (dC, dI) vwCl [] t ∧ va_D (va_A [(h0, .inr (0, [.int 0, .int 0, .int 0, .int 0, .int 0, .int 0, .int 0, .int 0, .int 0, .int 0, .null, .null, .null]))] sz) [(h0, .inr (0, [.int 0, .int 0, .int 0, .int 0, .int 0, .int 0, .int 0, .int 0, .int 0, .int 0, .ref q1, .ref q2, .ref q3]))]) (va_A [(h0, .inr (0, [.int 0, .int 0, .int 0, .int 0, .int 0, .int 0, .int 0, .int 0, .int 0, .int 0, .null, .null, .null]))] sz)) 41 226 (va_A [(h0, .inr (0, [.int 0, .int 0, .int 0, .int 0, .int 0, .int 0, .int 0, .int 0, .int 0, .int 0, .null, .null, .null]))] sz) := by
  refine Met.ofW (cc := cX0_init) (maxL := 2) (ret := none) (by decide) rfl ?_
  intro p e s m args below meth c s₁ B hml hv
  obtain ⟨rfl, hsz, hP, hK, hD0, hz⟩ := hv
  have hx := B.exec
  have hb := B.bytes
  have hr := B.returns
  have hts := atoms_spec (ws := (.code yX0_init cX0_init 2 none :: wsGA)) B.pre
  have hown : s.vm.findClass RX0 = some m.cls := findClass_of_methodNamed B.named
  have hlocks := B.notSynchronized
  have hin : meth.name = "<init>" := (name_of_methodNamed B.named B.method).1
  subst hsz
  have hD := hD0.self (sz := s.heap.size)
  generalize hAe : va_A [(h0, .inr (0, [.int 0, .int 0, .int 0, .int 0, .int 0, .int 0, .int 0, .int 0, .int 0, .int 0, .null, .null, .null]))] s.heap.size = A at hD ⊢
  have hA : ∀ q : Nat, s.heap.size ≤ q → A q := fun q h => by rw [← hAe]; exact Or.inr h
  have hS : va_S A s.heap s.heap [] := va_S.rf
  have hl := lv_entry ([.ref h0]) (n := 2) (Nat.le_of_ble_eq_true rfl)
  rw [lg_entry_eq]
  generalize (lg_sl ([.ref h0]) ++ List.replicate (2 - (lg_sl ([.ref h0])).length) Slot.unset).toArray = ls at hl ⊢
  have hl : lv_has ls 2 [(0, .ref h0)] := hl
  refine lv_aload_n hx hb dX0_init_0 rfl (lv_at hl 0 rfl) ?_
  refine W.objInit hx hb hown (hts _ (List.mem_cons_of_mem _ mGA_80)) (hts _ (List.mem_cons_of_mem _ mGA_43)) (hts _ (List.mem_cons_of_mem _ mGA_44)) rfl (by rw [hml]; exact hl.1) rfl dX0_init_1 (Nat.le_of_ble_eq_true rfl) (Nat.le_of_ble_eq_true rfl) ?_
  refine W.eq (g2 := F0 m 4 ls []) rfl ?_
  refine lv_aload_n hx hb dX0_init_4 rfl (lv_at hl 0 rfl) ?_
  refine lv_bipush (v := 6) hx hb dX0_init_5 (by decide) ?_
  refine va_newq (C := RX5) (N' := 6) hx hb hown (hts _ (List.mem_cons_of_mem _ mGA_81)) (nzA_ao_X5 hz) hK hP hD hS hA (by decide) (by decide) (Nat.le_of_ble_eq_true rfl) (Nat.le_of_ble_eq_true rfl) (Nat.le_of_ble_eq_true rfl) dX0_init_7 (fun q_1 k_2 H hK hP hD hS => ?_)
  have hP : va_P (dC, dI) vwCl [(h0, .inr (0, [.int 0, .int 0, .int 0, .int 0, .int 0, .int 0, .int 0, .int 0, .int 0, .int 0, .null, .null, .null])), (q_1, .inl (k_2, 6, .inr (.inr (.inr (.inr (fun _ => none))))))] H := hP
  have hD : va_D A [(h0, .inr (0, [.int 0, .int 0, .int 0, .int 0, .int 0, .int 0, .int 0, .int 0, .int 0, .int 0, .null, .null, .null])), (q_1, .inl (k_2, 6, .inr (.inr (.inr (.inr (fun _ => none))))))] := hD
  have hK : va_K (dC, dI) vwCl [(k_2, .object RX5)] s := hK
  refine W.widen (k := 1) (n := 6) (Nat.le_of_ble_eq_true rfl) (Nat.le_of_ble_eq_true rfl) ?_
  refine va_putF (D := (dC, dI)) (ci := 0) (v := .ref q_1) (ty := .array (.object "SightedMonths$Place")) (C := RX0) (T := TX0) (N := 13) hx hb hts (fun w h => List.mem_cons_of_mem _ (jnGA_X0 w h)) tyX0 tyX0_ok nmX0 hown hK hP hD hS 0 rfl rfl 10 (by decide) (hts _ (List.mem_cons_of_mem _ mGA_82)) (fun _ h9 => h9) rfl hin rfl (by decide +kernel) rfl rfl (Nat.le_of_ble_eq_true rfl) dX0_init_10 (fun H locs hP hD hS => ?_)
  have hP : va_P (dC, dI) vwCl [(h0, .inr (0, [.int 0, .int 0, .int 0, .int 0, .int 0, .int 0, .int 0, .int 0, .int 0, .int 0, .ref q_1, .null, .null])), (q_1, .inl (k_2, 6, .inr (.inr (.inr (.inr (fun _ => none))))))] H := hP
  have hD : va_D A [(h0, .inr (0, [.int 0, .int 0, .int 0, .int 0, .int 0, .int 0, .int 0, .int 0, .int 0, .int 0, .ref q_1, .null, .null])), (q_1, .inl (k_2, 6, .inr (.inr (.inr (.inr (fun _ => none))))))] := hD
  refine lv_aload_n hx hb dX0_init_13 rfl (lv_at hl 0 rfl) ?_
  refine lv_bipush (v := 24) hx hb dX0_init_14 (by decide) ?_
  refine va_newq (C := RX7) (N' := 24) hx hb hown (hts _ (List.mem_cons_of_mem _ mGA_83)) (nzA_ao_X7 hz) hK hP hD hS hA (by decide) (by decide) (Nat.le_of_ble_eq_true rfl) (Nat.le_of_ble_eq_true rfl) (Nat.le_of_ble_eq_true rfl) dX0_init_16 (fun q_3 k_4 H hK hP hD hS => ?_)
  have hP : va_P (dC, dI) vwCl [(h0, .inr (0, [.int 0, .int 0, .int 0, .int 0, .int 0, .int 0, .int 0, .int 0, .int 0, .int 0, .ref q_1, .null, .null])), (q_1, .inl (k_2, 6, .inr (.inr (.inr (.inr (fun _ => none)))))), (q_3, .inl (k_4, 24, .inr (.inr (.inr (.inr (fun _ => none))))))] H := hP
  have hD : va_D A [(h0, .inr (0, [.int 0, .int 0, .int 0, .int 0, .int 0, .int 0, .int 0, .int 0, .int 0, .int 0, .ref q_1, .null, .null])), (q_1, .inl (k_2, 6, .inr (.inr (.inr (.inr (fun _ => none)))))), (q_3, .inl (k_4, 24, .inr (.inr (.inr (.inr (fun _ => none))))))] := hD
  have hK : va_K (dC, dI) vwCl [(k_2, .object RX5), (k_4, .object RX7)] s := hK
  refine W.widen (k := 2) (n := 30) (Nat.le_of_ble_eq_true rfl) (Nat.le_of_ble_eq_true rfl) ?_
  refine va_putF (D := (dC, dI)) (ci := 0) (v := .ref q_3) (ty := .array (.object "SightedMonths$Report")) (C := RX0) (T := TX0) (N := 13) hx hb hts (fun w h => List.mem_cons_of_mem _ (jnGA_X0 w h)) tyX0 tyX0_ok nmX0 hown hK hP hD hS 0 rfl rfl 11 (by decide) (hts _ (List.mem_cons_of_mem _ mGA_84)) (fun _ h9 => h9) rfl hin rfl (by decide +kernel) rfl rfl (Nat.le_of_ble_eq_true rfl) dX0_init_19 (fun H locs hP hD hS => ?_)
  have hP : va_P (dC, dI) vwCl [(h0, .inr (0, [.int 0, .int 0, .int 0, .int 0, .int 0, .int 0, .int 0, .int 0, .int 0, .int 0, .ref q_1, .ref q_3, .null])), (q_1, .inl (k_2, 6, .inr (.inr (.inr (.inr (fun _ => none)))))), (q_3, .inl (k_4, 24, .inr (.inr (.inr (.inr (fun _ => none))))))] H := hP
  have hD : va_D A [(h0, .inr (0, [.int 0, .int 0, .int 0, .int 0, .int 0, .int 0, .int 0, .int 0, .int 0, .int 0, .ref q_1, .ref q_3, .null])), (q_1, .inl (k_2, 6, .inr (.inr (.inr (.inr (fun _ => none)))))), (q_3, .inl (k_4, 24, .inr (.inr (.inr (.inr (fun _ => none))))))] := hD
  refine lv_aload_n hx hb dX0_init_22 rfl (lv_at hl 0 rfl) ?_
  refine lv_bipush (v := 8) hx hb dX0_init_23 (by decide) ?_
  refine va_newq (C := RX2) (N' := 8) hx hb hown (hts _ (List.mem_cons_of_mem _ mGA_85)) (nzA_ao_X2 hz) hK hP hD hS hA (by decide) (by decide) (Nat.le_of_ble_eq_true rfl) (Nat.le_of_ble_eq_true rfl) (Nat.le_of_ble_eq_true rfl) dX0_init_25 (fun q_5 k_6 H hK hP hD hS => ?_)
  have hP : va_P (dC, dI) vwCl [(h0, .inr (0, [.int 0, .int 0, .int 0, .int 0, .int 0, .int 0, .int 0, .int 0, .int 0, .int 0, .ref q_1, .ref q_3, .null])), (q_1, .inl (k_2, 6, .inr (.inr (.inr (.inr (fun _ => none)))))), (q_3, .inl (k_4, 24, .inr (.inr (.inr (.inr (fun _ => none)))))), (q_5, .inl (k_6, 8, .inr (.inr (.inr (.inr (fun _ => none))))))] H := hP
  have hD : va_D A [(h0, .inr (0, [.int 0, .int 0, .int 0, .int 0, .int 0, .int 0, .int 0, .int 0, .int 0, .int 0, .ref q_1, .ref q_3, .null])), (q_1, .inl (k_2, 6, .inr (.inr (.inr (.inr (fun _ => none)))))), (q_3, .inl (k_4, 24, .inr (.inr (.inr (.inr (fun _ => none)))))), (q_5, .inl (k_6, 8, .inr (.inr (.inr (.inr (fun _ => none))))))] := hD
  have hK : va_K (dC, dI) vwCl [(k_2, .object RX5), (k_4, .object RX7), (k_6, .object RX2)] s := hK
  refine W.widen (k := 3) (n := 38) (Nat.le_of_ble_eq_true rfl) (Nat.le_of_ble_eq_true rfl) ?_
  refine va_putF (D := (dC, dI)) (ci := 0) (v := .ref q_5) (ty := .array (.object "SightedMonths$Deed")) (C := RX0) (T := TX0) (N := 13) hx hb hts (fun w h => List.mem_cons_of_mem _ (jnGA_X0 w h)) tyX0 tyX0_ok nmX0 hown hK hP hD hS 0 rfl rfl 12 (by decide) (hts _ (List.mem_cons_of_mem _ mGA_86)) (fun _ h9 => h9) rfl hin rfl (by decide +kernel) rfl rfl (Nat.le_of_ble_eq_true rfl) dX0_init_28 (fun H locs hP hD hS => ?_)
  have hP : va_P (dC, dI) vwCl [(h0, .inr (0, [.int 0, .int 0, .int 0, .int 0, .int 0, .int 0, .int 0, .int 0, .int 0, .int 0, .ref q_1, .ref q_3, .ref q_5])), (q_1, .inl (k_2, 6, .inr (.inr (.inr (.inr (fun _ => none)))))), (q_3, .inl (k_4, 24, .inr (.inr (.inr (.inr (fun _ => none)))))), (q_5, .inl (k_6, 8, .inr (.inr (.inr (.inr (fun _ => none))))))] H := hP
  have hD : va_D A [(h0, .inr (0, [.int 0, .int 0, .int 0, .int 0, .int 0, .int 0, .int 0, .int 0, .int 0, .int 0, .ref q_1, .ref q_3, .ref q_5])), (q_1, .inl (k_2, 6, .inr (.inr (.inr (.inr (fun _ => none)))))), (q_3, .inl (k_4, 24, .inr (.inr (.inr (.inr (fun _ => none)))))), (q_5, .inl (k_6, 8, .inr (.inr (.inr (.inr (fun _ => none))))))] := hD
  refine lv_iconst (v := 0) hx hb dX0_init_31 (by decide) ?_
  refine lv_istore_n (lv' := [(1, .int 0), (0, .ref h0)]) hx hb dX0_init_32 rfl hl (by decide) rfl (fun ls hl => ?_)
  refine lv_iload_n hx hb dX0_init_33 rfl (lv_at hl 0 rfl) ?_
  refine lv_bipush (v := 6) hx hb dX0_init_34 (by decide) ?_
  refine lv_icmp_ge (tgt := 58) hx hb dX0_init_36 (by decide) (fun c_7 => absurd c_7 (by decide)) (fun c_7 => ?_)
  refine lv_aload_n hx hb dX0_init_39 rfl (lv_at hl 1 rfl) ?_
  refine va_get (D := (dC, dI)) (ci := 0) (v := .ref q_1) (C := RX0) (T := TX0) (N := 13) hx hb hts (fun w h => List.mem_cons_of_mem _ (jnGA_X0 w h)) hown hK hP 0 rfl rfl 10 (by decide) (hts _ (List.mem_cons_of_mem _ mGA_82)) (fun _ h9 => h9) rfl dX0_init_40 ?_
  refine lv_iload_n hx hb dX0_init_43 rfl (lv_at hl 0 rfl) ?_
  refine va_new (ci := 5) (fs := [.int 0, .int 0]) (C := RX5) (T := TX5) (N := 2) hx hb hts (fun w h => List.mem_cons_of_mem _ (jnGA_X5 w h)) tyX5 tyX5_ok hown (hts _ (List.mem_cons_of_mem _ mGA_81)) (hts _ (List.mem_cons_of_mem _ mGA_87)) (hts _ (List.mem_cons_of_mem _ mGA_88)) hK hP hD hS hA rfl dfX5 (Nat.le_of_ble_eq_true rfl) (Nat.le_of_ble_eq_true rfl) dX0_init_44 (fun q_8 H hP hD hS => ?_)
  have hP : va_P (dC, dI) vwCl [(h0, .inr (0, [.int 0, .int 0, .int 0, .int 0, .int 0, .int 0, .int 0, .int 0, .int 0, .int 0, .ref q_1, .ref q_3, .ref q_5])), (q_1, .inl (k_2, 6, .inr (.inr (.inr (.inr (fun _ => none)))))), (q_3, .inl (k_4, 24, .inr (.inr (.inr (.inr (fun _ => none)))))), (q_5, .inl (k_6, 8, .inr (.inr (.inr (.inr (fun _ => none)))))), (q_8, .inr (5, [.int 0, .int 0]))] H := hP
  have hD : va_D A [(h0, .inr (0, [.int 0, .int 0, .int 0, .int 0, .int 0, .int 0, .int 0, .int 0, .int 0, .int 0, .ref q_1, .ref q_3, .ref q_5])), (q_1, .inl (k_2, 6, .inr (.inr (.inr (.inr (fun _ => none)))))), (q_3, .inl (k_4, 24, .inr (.inr (.inr (.inr (fun _ => none)))))), (q_5, .inl (k_6, 8, .inr (.inr (.inr (.inr (fun _ => none)))))), (q_8, .inr (5, [.int 0, .int 0]))] := hD
  refine W.widen (k := 4) (n := 40) (Nat.le_of_ble_eq_true rfl) (Nat.le_of_ble_eq_true rfl) ?_
  refine lv_dup hx hb dX0_init_47 rfl ?_
  have hPc := hP.sub (ws' := []) [] rfl
  have hKc := hK.sub (tys' := []) [] rfl
  refine va_callv (va_runIN (As := []) (rest := [.ref q_8, .int 0, .ref q_1]) ⟨hx, hb, hml, hown, hts⟩ (fX5_init l dC dI q_8) (⟨va_cnB 0 hts (gz_gP mGA_89 goodGA) rfl rfl rfl (nzA_X0_29 hz) (hts _ (List.mem_cons_of_mem _ mGA_88)) (by decide +kernel) ⟨Nat.le_of_ble_eq_true rfl, Nat.le_of_ble_eq_true rfl⟩, rfl, (hts _ (List.mem_cons_of_mem _ mGA_90))⟩) ⟨fun a U g mk q => by obtain ⟨q0, qP, qK⟩ := q; exact ⟨q0, qP, va_K.moved (u := U) (U := U.calling g mk a) (Vm.Alike.refl U.vm) qK⟩, fun U hU hW => ⟨rfl, by rw [hU]; exact hPc, va_K.moved hW.alike hKc⟩⟩ rfl rfl hl.1 rfl (lv_room (Nat.le_of_ble_eq_true rfl)) dX0_init_48 ⟨Nat.le_of_ble_eq_true rfl, Nat.le_of_ble_eq_true rfl⟩) hS (fun q _ h => h.elim) (fun q h => h.elim) (fun  u t H1 locs ht hvm hw hB hz1 hk1 hS => ?_)
  have hP := gz_keep hP hk1
  generalize H1 = H at hP hS ⊢
  refine va_astq hx hb hK hP hD hS 1 0 4 5 rfl rfl rfl rfl (by unfold vp_in; decide) dX0_init_51 (fun H locs hP hD hS => ?_)
  have hP : va_P (dC, dI) vwCl [(h0, .inr (0, [.int 0, .int 0, .int 0, .int 0, .int 0, .int 0, .int 0, .int 0, .int 0, .int 0, .ref q_1, .ref q_3, .ref q_5])), (q_1, .inl (k_2, 6, .inr (.inr (.inr (.inr (va_up (fun _ => none) (0 : Int32).toNatClampNeg (some q_8))))))), (q_3, .inl (k_4, 24, .inr (.inr (.inr (.inr (fun _ => none)))))), (q_5, .inl (k_6, 8, .inr (.inr (.inr (.inr (fun _ => none)))))), (q_8, .inr (5, [.int 0, .int 0]))] H := hP
  have hD : va_D A [(h0, .inr (0, [.int 0, .int 0, .int 0, .int 0, .int 0, .int 0, .int 0, .int 0, .int 0, .int 0, .ref q_1, .ref q_3, .ref q_5])), (q_1, .inl (k_2, 6, .inr (.inr (.inr (.inr (va_up (fun _ => none) (0 : Int32).toNatClampNeg (some q_8))))))), (q_3, .inl (k_4, 24, .inr (.inr (.inr (.inr (fun _ => none)))))), (q_5, .inl (k_6, 8, .inr (.inr (.inr (.inr (fun _ => none)))))), (q_8, .inr (5, [.int 0, .int 0]))] := hD
  generalize va_up (fun _ => none) (0 : Int32).toNatClampNeg (some q_8) = f_10 at hP hD
  have hP := hP.sub (ws' := [(h0, .inr (0, [.int 0, .int 0, .int 0, .int 0, .int 0, .int 0, .int 0, .int 0, .int 0, .int 0, .ref q_1, .ref q_3, .ref q_5])), (q_1, .inl (k_2, 6, .inr (.inr (.inr (.inr f_10))))), (q_3, .inl (k_4, 24, .inr (.inr (.inr (.inr (fun _ => none)))))), (q_5, .inl (k_6, 8, .inr (.inr (.inr (.inr (fun _ => none))))))]) [0, 1, 2, 3] rfl
  have hD := hD.sub (ws' := [(h0, .inr (0, [.int 0, .int 0, .int 0, .int 0, .int 0, .int 0, .int 0, .int 0, .int 0, .int 0, .ref q_1, .ref q_3, .ref q_5])), (q_1, .inl (k_2, 6, .inr (.inr (.inr (.inr f_10))))), (q_3, .inl (k_4, 24, .inr (.inr (.inr (.inr (fun _ => none)))))), (q_5, .inl (k_6, 8, .inr (.inr (.inr (.inr (fun _ => none))))))]) [0, 1, 2, 3] (by decide) rfl
  refine lv_iinc (v := 1) (lv' := [(1, .int 1), (0, .ref h0)]) hx hb dX0_init_52 hl (k := 0) rfl (by decide) (by decide) rfl (fun ls hl => ?_)
  refine lv_goto (tgt := 33) hx hb dX0_init_55 (by decide) ?_
  refine lv_iload_n hx hb dX0_init_33 rfl (lv_at hl 0 rfl) ?_
  refine lv_bipush (v := 6) hx hb dX0_init_34 (by decide) ?_
  refine lv_icmp_ge (tgt := 58) hx hb dX0_init_36 (by decide) (fun c_11 => absurd c_11 (by decide)) (fun c_11 => ?_)
  refine lv_aload_n hx hb dX0_init_39 rfl (lv_at hl 1 rfl) ?_
  refine va_get (D := (dC, dI)) (ci := 0) (v := .ref q_1) (C := RX0) (T := TX0) (N := 13) hx hb hts (fun w h => List.mem_cons_of_mem _ (jnGA_X0 w h)) hown hK hP 0 rfl rfl 10 (by decide) (hts _ (List.mem_cons_of_mem _ mGA_82)) (fun _ h9 => h9) rfl dX0_init_40 ?_
  refine lv_iload_n hx hb dX0_init_43 rfl (lv_at hl 0 rfl) ?_
  refine va_new (ci := 5) (fs := [.int 0, .int 0]) (C := RX5) (T := TX5) (N := 2) hx hb hts (fun w h => List.mem_cons_of_mem _ (jnGA_X5 w h)) tyX5 tyX5_ok hown (hts _ (List.mem_cons_of_mem _ mGA_81)) (hts _ (List.mem_cons_of_mem _ mGA_87)) (hts _ (List.mem_cons_of_mem _ mGA_88)) hK hP hD hS hA rfl dfX5 (Nat.le_of_ble_eq_true rfl) (Nat.le_of_ble_eq_true rfl) dX0_init_44 (fun q_12 H hP hD hS => ?_)
  have hP : va_P (dC, dI) vwCl [(h0, .inr (0, [.int 0, .int 0, .int 0, .int 0, .int 0, .int 0, .int 0, .int 0, .int 0, .int 0, .ref q_1, .ref q_3, .ref q_5])), (q_1, .inl (k_2, 6, .inr (.inr (.inr (.inr f_10))))), (q_3, .inl (k_4, 24, .inr (.inr (.inr (.inr (fun _ => none)))))), (q_5, .inl (k_6, 8, .inr (.inr (.inr (.inr (fun _ => none)))))), (q_12, .inr (5, [.int 0, .int 0]))] H := hP
  have hD : va_D A [(h0, .inr (0, [.int 0, .int 0, .int 0, .int 0, .int 0, .int 0, .int 0, .int 0, .int 0, .int 0, .ref q_1, .ref q_3, .ref q_5])), (q_1, .inl (k_2, 6, .inr (.inr (.inr (.inr f_10))))), (q_3, .inl (k_4, 24, .inr (.inr (.inr (.inr (fun _ => none)))))), (q_5, .inl (k_6, 8, .inr (.inr (.inr (.inr (fun _ => none)))))), (q_12, .inr (5, [.int 0, .int 0]))] := hD
  refine W.widen (k := 5) (n := 42) (Nat.le_of_ble_eq_true rfl) (Nat.le_of_ble_eq_true rfl) ?_
  refine lv_dup hx hb dX0_init_47 rfl ?_
  have hPc := hP.sub (ws' := []) [] rfl
  have hKc := hK.sub (tys' := []) [] rfl
  refine va_callv (va_runIN (As := []) (rest := [.ref q_12, .int 1, .ref q_1]) ⟨hx, hb, hml, hown, hts⟩ (fX5_init l dC dI q_12) (⟨va_cnB 0 hts (gz_gP mGA_89 goodGA) rfl rfl rfl (nzA_X0_29 hz) (hts _ (List.mem_cons_of_mem _ mGA_88)) (by decide +kernel) ⟨Nat.le_of_ble_eq_true rfl, Nat.le_of_ble_eq_true rfl⟩, rfl, (hts _ (List.mem_cons_of_mem _ mGA_90))⟩) ⟨fun a U g mk q => by obtain ⟨q0, qP, qK⟩ := q; exact ⟨q0, qP, va_K.moved (u := U) (U := U.calling g mk a) (Vm.Alike.refl U.vm) qK⟩, fun U hU hW => ⟨rfl, by rw [hU]; exact hPc, va_K.moved hW.alike hKc⟩⟩ rfl rfl hl.1 rfl (lv_room (Nat.le_of_ble_eq_true rfl)) dX0_init_48 ⟨Nat.le_of_ble_eq_true rfl, Nat.le_of_ble_eq_true rfl⟩) hS (fun q _ h => h.elim) (fun q h => h.elim) (fun  u t H1 locs ht hvm hw hB hz1 hk1 hS => ?_)
  have hP := gz_keep hP hk1
  generalize H1 = H at hP hS ⊢
  refine va_astq hx hb hK hP hD hS 1 0 4 5 rfl rfl rfl rfl (by unfold vp_in; decide) dX0_init_51 (fun H locs hP hD hS => ?_)
  have hP : va_P (dC, dI) vwCl [(h0, .inr (0, [.int 0, .int 0, .int 0, .int 0, .int 0, .int 0, .int 0, .int 0, .int 0, .int 0, .ref q_1, .ref q_3, .ref q_5])), (q_1, .inl (k_2, 6, .inr (.inr (.inr (.inr (va_up f_10 (1 : Int32).toNatClampNeg (some q_12))))))), (q_3, .inl (k_4, 24, .inr (.inr (.inr (.inr (fun _ => none)))))), (q_5, .inl (k_6, 8, .inr (.inr (.inr (.inr (fun _ => none)))))), (q_12, .inr (5, [.int 0, .int 0]))] H := hP
  have hD : va_D A [(h0, .inr (0, [.int 0, .int 0, .int 0, .int 0, .int 0, .int 0, .int 0, .int 0, .int 0, .int 0, .ref q_1, .ref q_3, .ref q_5])), (q_1, .inl (k_2, 6, .inr (.inr (.inr (.inr (va_up f_10 (1 : Int32).toNatClampNeg (some q_12))))))), (q_3, .inl (k_4, 24, .inr (.inr (.inr (.inr (fun _ => none)))))), (q_5, .inl (k_6, 8, .inr (.inr (.inr (.inr (fun _ => none)))))), (q_12, .inr (5, [.int 0, .int 0]))] := hD
  generalize va_up f_10 (1 : Int32).toNatClampNeg (some q_12) = f_14 at hP hD
  have hP := hP.sub (ws' := [(h0, .inr (0, [.int 0, .int 0, .int 0, .int 0, .int 0, .int 0, .int 0, .int 0, .int 0, .int 0, .ref q_1, .ref q_3, .ref q_5])), (q_1, .inl (k_2, 6, .inr (.inr (.inr (.inr f_14))))), (q_3, .inl (k_4, 24, .inr (.inr (.inr (.inr (fun _ => none)))))), (q_5, .inl (k_6, 8, .inr (.inr (.inr (.inr (fun _ => none))))))]) [0, 1, 2, 3] rfl
  have hD := hD.sub (ws' := [(h0, .inr (0, [.int 0, .int 0, .int 0, .int 0, .int 0, .int 0, .int 0, .int 0, .int 0, .int 0, .ref q_1, .ref q_3, .ref q_5])), (q_1, .inl (k_2, 6, .inr (.inr (.inr (.inr f_14))))), (q_3, .inl (k_4, 24, .inr (.inr (.inr (.inr (fun _ => none)))))), (q_5, .inl (k_6, 8, .inr (.inr (.inr (.inr (fun _ => none))))))]) [0, 1, 2, 3] (by decide) rfl
  refine lv_iinc (v := 2) (lv' := [(1, .int 2), (0, .ref h0)]) hx hb dX0_init_52 hl (k := 0) rfl (by decide) (by decide) rfl (fun ls hl => ?_)
  refine lv_goto (tgt := 33) hx hb dX0_init_55 (by decide) ?_
  refine lv_iload_n hx hb dX0_init_33 rfl (lv_at hl 0 rfl) ?_
  refine lv_bipush (v := 6) hx hb dX0_init_34 (by decide) ?_
  refine lv_icmp_ge (tgt := 58) hx hb dX0_init_36 (by decide) (fun c_15 => absurd c_15 (by decide)) (fun c_15 => ?_)
  refine lv_aload_n hx hb dX0_init_39 rfl (lv_at hl 1 rfl) ?_
  refine va_get (D := (dC, dI)) (ci := 0) (v := .ref q_1) (C := RX0) (T := TX0) (N := 13) hx hb hts (fun w h => List.mem_cons_of_mem _ (jnGA_X0 w h)) hown hK hP 0 rfl rfl 10 (by decide) (hts _ (List.mem_cons_of_mem _ mGA_82)) (fun _ h9 => h9) rfl dX0_init_40 ?_
  refine lv_iload_n hx hb dX0_init_43 rfl (lv_at hl 0 rfl) ?_
  refine va_new (ci := 5) (fs := [.int 0, .int 0]) (C := RX5) (T := TX5) (N := 2) hx hb hts (fun w h => List.mem_cons_of_mem _ (jnGA_X5 w h)) tyX5 tyX5_ok hown (hts _ (List.mem_cons_of_mem _ mGA_81)) (hts _ (List.mem_cons_of_mem _ mGA_87)) (hts _ (List.mem_cons_of_mem _ mGA_88)) hK hP hD hS hA rfl dfX5 (Nat.le_of_ble_eq_true rfl) (Nat.le_of_ble_eq_true rfl) dX0_init_44 (fun q_16 H hP hD hS => ?_)
  have hP : va_P (dC, dI) vwCl [(h0, .inr (0, [.int 0, .int 0, .int 0, .int 0, .int 0, .int 0, .int 0, .int 0, .int 0, .int 0, .ref q_1, .ref q_3, .ref q_5])), (q_1, .inl (k_2, 6, .inr (.inr (.inr (.inr f_14))))), (q_3, .inl (k_4, 24, .inr (.inr (.inr (.inr (fun _ => none)))))), (q_5, .inl (k_6, 8, .inr (.inr (.inr (.inr (fun _ => none)))))), (q_16, .inr (5, [.int 0, .int 0]))] H := hP
  have hD : va_D A [(h0, .inr (0, [.int 0, .int 0, .int 0, .int 0, .int 0, .int 0, .int 0, .int 0, .int 0, .int 0, .ref q_1, .ref q_3, .ref q_5])), (q_1, .inl (k_2, 6, .inr (.inr (.inr (.inr f_14))))), (q_3, .inl (k_4, 24, .inr (.inr (.inr (.inr (fun _ => none)))))), (q_5, .inl (k_6, 8, .inr (.inr (.inr (.inr (fun _ => none)))))), (q_16, .inr (5, [.int 0, .int 0]))] := hD
  refine W.widen (k := 6) (n := 44) (Nat.le_of_ble_eq_true rfl) (Nat.le_of_ble_eq_true rfl) ?_
  refine lv_dup hx hb dX0_init_47 rfl ?_
  have hPc := hP.sub (ws' := []) [] rfl
  have hKc := hK.sub (tys' := []) [] rfl
  refine va_callv (va_runIN (As := []) (rest := [.ref q_16, .int 2, .ref q_1]) ⟨hx, hb, hml, hown, hts⟩ (fX5_init l dC dI q_16) (⟨va_cnB 0 hts (gz_gP mGA_89 goodGA) rfl rfl rfl (nzA_X0_29 hz) (hts _ (List.mem_cons_of_mem _ mGA_88)) (by decide +kernel) ⟨Nat.le_of_ble_eq_true rfl, Nat.le_of_ble_eq_true rfl⟩, rfl, (hts _ (List.mem_cons_of_mem _ mGA_90))⟩) ⟨fun a U g mk q => by obtain ⟨q0, qP, qK⟩ := q; exact ⟨q0, qP, va_K.moved (u := U) (U := U.calling g mk a) (Vm.Alike.refl U.vm) qK⟩, fun U hU hW => ⟨rfl, by rw [hU]; exact hPc, va_K.moved hW.alike hKc⟩⟩ rfl rfl hl.1 rfl (lv_room (Nat.le_of_ble_eq_true rfl)) dX0_init_48 ⟨Nat.le_of_ble_eq_true rfl, Nat.le_of_ble_eq_true rfl⟩) hS (fun q _ h => h.elim) (fun q h => h.elim) (fun  u t H1 locs ht hvm hw hB hz1 hk1 hS => ?_)
  have hP := gz_keep hP hk1
  generalize H1 = H at hP hS ⊢
  refine va_astq hx hb hK hP hD hS 1 0 4 5 rfl rfl rfl rfl (by unfold vp_in; decide) dX0_init_51 (fun H locs hP hD hS => ?_)
  have hP : va_P (dC, dI) vwCl [(h0, .inr (0, [.int 0, .int 0, .int 0, .int 0, .int 0, .int 0, .int 0, .int 0, .int 0, .int 0, .ref q_1, .ref q_3, .ref q_5])), (q_1, .inl (k_2, 6, .inr (.inr (.inr (.inr (va_up f_14 (2 : Int32).toNatClampNeg (some q_16))))))), (q_3, .inl (k_4, 24, .inr (.inr (.inr (.inr (fun _ => none)))))), (q_5, .inl (k_6, 8, .inr (.inr (.inr (.inr (fun _ => none)))))), (q_16, .inr (5, [.int 0, .int 0]))] H := hP
  have hD : va_D A [(h0, .inr (0, [.int 0, .int 0, .int 0, .int 0, .int 0, .int 0, .int 0, .int 0, .int 0, .int 0, .ref q_1, .ref q_3, .ref q_5])), (q_1, .inl (k_2, 6, .inr (.inr (.inr (.inr (va_up f_14 (2 : Int32).toNatClampNeg (some q_16))))))), (q_3, .inl (k_4, 24, .inr (.inr (.inr (.inr (fun _ => none)))))), (q_5, .inl (k_6, 8, .inr (.inr (.inr (.inr (fun _ => none)))))), (q_16, .inr (5, [.int 0, .int 0]))] := hD
  generalize va_up f_14 (2 : Int32).toNatClampNeg (some q_16) = f_18 at hP hD
  have hP := hP.sub (ws' := [(h0, .inr (0, [.int 0, .int 0, .int 0, .int 0, .int 0, .int 0, .int 0, .int 0, .int 0, .int 0, .ref q_1, .ref q_3, .ref q_5])), (q_1, .inl (k_2, 6, .inr (.inr (.inr (.inr f_18))))), (q_3, .inl (k_4, 24, .inr (.inr (.inr (.inr (fun _ => none)))))), (q_5, .inl (k_6, 8, .inr (.inr (.inr (.inr (fun _ => none))))))]) [0, 1, 2, 3] rfl
  have hD := hD.sub (ws' := [(h0, .inr (0, [.int 0, .int 0, .int 0, .int 0, .int 0, .int 0, .int 0, .int 0, .int 0, .int 0, .ref q_1, .ref q_3, .ref q_5])), (q_1, .inl (k_2, 6, .inr (.inr (.inr (.inr f_18))))), (q_3, .inl (k_4, 24, .inr (.inr (.inr (.inr (fun _ => none)))))), (q_5, .inl (k_6, 8, .inr (.inr (.inr (.inr (fun _ => none))))))]) [0, 1, 2, 3] (by decide) rfl
  refine lv_iinc (v := 3) (lv' := [(1, .int 3), (0, .ref h0)]) hx hb dX0_init_52 hl (k := 0) rfl (by decide) (by decide) rfl (fun ls hl => ?_)
  refine lv_goto (tgt := 33) hx hb dX0_init_55 (by decide) ?_
  refine lv_iload_n hx hb dX0_init_33 rfl (lv_at hl 0 rfl) ?_
  refine lv_bipush (v := 6) hx hb dX0_init_34 (by decide) ?_
  refine lv_icmp_ge (tgt := 58) hx hb dX0_init_36 (by decide) (fun c_19 => absurd c_19 (by decide)) (fun c_19 => ?_)
  refine lv_aload_n hx hb dX0_init_39 rfl (lv_at hl 1 rfl) ?_
  refine va_get (D := (dC, dI)) (ci := 0) (v := .ref q_1) (C := RX0) (T := TX0) (N := 13) hx hb hts (fun w h => List.mem_cons_of_mem _ (jnGA_X0 w h)) hown hK hP 0 rfl rfl 10 (by decide) (hts _ (List.mem_cons_of_mem _ mGA_82)) (fun _ h9 => h9) rfl dX0_init_40 ?_
  refine lv_iload_n hx hb dX0_init_43 rfl (lv_at hl 0 rfl) ?_
  refine va_new (ci := 5) (fs := [.int 0, .int 0]) (C := RX5) (T := TX5) (N := 2) hx hb hts (fun w h => List.mem_cons_of_mem _ (jnGA_X5 w h)) tyX5 tyX5_ok hown (hts _ (List.mem_cons_of_mem _ mGA_81)) (hts _ (List.mem_cons_of_mem _ mGA_87)) (hts _ (List.mem_cons_of_mem _ mGA_88)) hK hP hD hS hA rfl dfX5 (Nat.le_of_ble_eq_true rfl) (Nat.le_of_ble_eq_true rfl) dX0_init_44 (fun q_20 H hP hD hS => ?_)
  have hP : va_P (dC, dI) vwCl [(h0, .inr (0, [.int 0, .int 0, .int 0, .int 0, .int 0, .int 0, .int 0, .int 0, .int 0, .int 0, .ref q_1, .ref q_3, .ref q_5])), (q_1, .inl (k_2, 6, .inr (.inr (.inr (.inr f_18))))), (q_3, .inl (k_4, 24, .inr (.inr (.inr (.inr (fun _ => none)))))), (q_5, .inl (k_6, 8, .inr (.inr (.inr (.inr (fun _ => none)))))), (q_20, .inr (5, [.int 0, .int 0]))] H := hP
  have hD : va_D A [(h0, .inr (0, [.int 0, .int 0, .int 0, .int 0, .int 0, .int 0, .int 0, .int 0, .int 0, .int 0, .ref q_1, .ref q_3, .ref q_5])), (q_1, .inl (k_2, 6, .inr (.inr (.inr (.inr f_18))))), (q_3, .inl (k_4, 24, .inr (.inr (.inr (.inr (fun _ => none)))))), (q_5, .inl (k_6, 8, .inr (.inr (.inr (.inr (fun _ => none)))))), (q_20, .inr (5, [.int 0, .int 0]))] := hD
  refine W.widen (k := 7) (n := 46) (Nat.le_of_ble_eq_true rfl) (Nat.le_of_ble_eq_true rfl) ?_
  refine lv_dup hx hb dX0_init_47 rfl ?_
  have hPc := hP.sub (ws' := []) [] rfl
  have hKc := hK.sub (tys' := []) [] rfl
  refine va_callv (va_runIN (As := []) (rest := [.ref q_20, .int 3, .ref q_1]) ⟨hx, hb, hml, hown, hts⟩ (fX5_init l dC dI q_20) (⟨va_cnB 0 hts (gz_gP mGA_89 goodGA) rfl rfl rfl (nzA_X0_29 hz) (hts _ (List.mem_cons_of_mem _ mGA_88)) (by decide +kernel) ⟨Nat.le_of_ble_eq_true rfl, Nat.le_of_ble_eq_true rfl⟩, rfl, (hts _ (List.mem_cons_of_mem _ mGA_90))⟩) ⟨fun a U g mk q => by obtain ⟨q0, qP, qK⟩ := q; exact ⟨q0, qP, va_K.moved (u := U) (U := U.calling g mk a) (Vm.Alike.refl U.vm) qK⟩, fun U hU hW => ⟨rfl, by rw [hU]; exact hPc, va_K.moved hW.alike hKc⟩⟩ rfl rfl hl.1 rfl (lv_room (Nat.le_of_ble_eq_true rfl)) dX0_init_48 ⟨Nat.le_of_ble_eq_true rfl, Nat.le_of_ble_eq_true rfl⟩) hS (fun q _ h => h.elim) (fun q h => h.elim) (fun  u t H1 locs ht hvm hw hB hz1 hk1 hS => ?_)
  have hP := gz_keep hP hk1
  generalize H1 = H at hP hS ⊢
  refine va_astq hx hb hK hP hD hS 1 0 4 5 rfl rfl rfl rfl (by unfold vp_in; decide) dX0_init_51 (fun H locs hP hD hS => ?_)
  have hP : va_P (dC, dI) vwCl [(h0, .inr (0, [.int 0, .int 0, .int 0, .int 0, .int 0, .int 0, .int 0, .int 0, .int 0, .int 0, .ref q_1, .ref q_3, .ref q_5])), (q_1, .inl (k_2, 6, .inr (.inr (.inr (.inr (va_up f_18 (3 : Int32).toNatClampNeg (some q_20))))))), (q_3, .inl (k_4, 24, .inr (.inr (.inr (.inr (fun _ => none)))))), (q_5, .inl (k_6, 8, .inr (.inr (.inr (.inr (fun _ => none)))))), (q_20, .inr (5, [.int 0, .int 0]))] H := hP
  have hD : va_D A [(h0, .inr (0, [.int 0, .int 0, .int 0, .int 0, .int 0, .int 0, .int 0, .int 0, .int 0, .int 0, .ref q_1, .ref q_3, .ref q_5])), (q_1, .inl (k_2, 6, .inr (.inr (.inr (.inr (va_up f_18 (3 : Int32).toNatClampNeg (some q_20))))))), (q_3, .inl (k_4, 24, .inr (.inr (.inr (.inr (fun _ => none)))))), (q_5, .inl (k_6, 8, .inr (.inr (.inr (.inr (fun _ => none)))))), (q_20, .inr (5, [.int 0, .int 0]))] := hD
  generalize va_up f_18 (3 : Int32).toNatClampNeg (some q_20) = f_22 at hP hD
  have hP := hP.sub (ws' := [(h0, .inr (0, [.int 0, .int 0, .int 0, .int 0, .int 0, .int 0, .int 0, .int 0, .int 0, .int 0, .ref q_1, .ref q_3, .ref q_5])), (q_1, .inl (k_2, 6, .inr (.inr (.inr (.inr f_22))))), (q_3, .inl (k_4, 24, .inr (.inr (.inr (.inr (fun _ => none)))))), (q_5, .inl (k_6, 8, .inr (.inr (.inr (.inr (fun _ => none))))))]) [0, 1, 2, 3] rfl
  have hD := hD.sub (ws' := [(h0, .inr (0, [.int 0, .int 0, .int 0, .int 0, .int 0, .int 0, .int 0, .int 0, .int 0, .int 0, .ref q_1, .ref q_3, .ref q_5])), (q_1, .inl (k_2, 6, .inr (.inr (.inr (.inr f_22))))), (q_3, .inl (k_4, 24, .inr (.inr (.inr (.inr (fun _ => none)))))), (q_5, .inl (k_6, 8, .inr (.inr (.inr (.inr (fun _ => none))))))]) [0, 1, 2, 3] (by decide) rfl
  refine lv_iinc (v := 4) (lv' := [(1, .int 4), (0, .ref h0)]) hx hb dX0_init_52 hl (k := 0) rfl (by decide) (by decide) rfl (fun ls hl => ?_)
  refine lv_goto (tgt := 33) hx hb dX0_init_55 (by decide) ?_
  refine lv_iload_n hx hb dX0_init_33 rfl (lv_at hl 0 rfl) ?_
  refine lv_bipush (v := 6) hx hb dX0_init_34 (by decide) ?_
  refine lv_icmp_ge (tgt := 58) hx hb dX0_init_36 (by decide) (fun c_23 => absurd c_23 (by decide)) (fun c_23 => ?_)
  refine lv_aload_n hx hb dX0_init_39 rfl (lv_at hl 1 rfl) ?_
  refine va_get (D := (dC, dI)) (ci := 0) (v := .ref q_1) (C := RX0) (T := TX0) (N := 13) hx hb hts (fun w h => List.mem_cons_of_mem _ (jnGA_X0 w h)) hown hK hP 0 rfl rfl 10 (by decide) (hts _ (List.mem_cons_of_mem _ mGA_82)) (fun _ h9 => h9) rfl dX0_init_40 ?_
  refine lv_iload_n hx hb dX0_init_43 rfl (lv_at hl 0 rfl) ?_
  refine va_new (ci := 5) (fs := [.int 0, .int 0]) (C := RX5) (T := TX5) (N := 2) hx hb hts (fun w h => List.mem_cons_of_mem _ (jnGA_X5 w h)) tyX5 tyX5_ok hown (hts _ (List.mem_cons_of_mem _ mGA_81)) (hts _ (List.mem_cons_of_mem _ mGA_87)) (hts _ (List.mem_cons_of_mem _ mGA_88)) hK hP hD hS hA rfl dfX5 (Nat.le_of_ble_eq_true rfl) (Nat.le_of_ble_eq_true rfl) dX0_init_44 (fun q_24 H hP hD hS => ?_)
  have hP : va_P (dC, dI) vwCl [(h0, .inr (0, [.int 0, .int 0, .int 0, .int 0, .int 0, .int 0, .int 0, .int 0, .int 0, .int 0, .ref q_1, .ref q_3, .ref q_5])), (q_1, .inl (k_2, 6, .inr (.inr (.inr (.inr f_22))))), (q_3, .inl (k_4, 24, .inr (.inr (.inr (.inr (fun _ => none)))))), (q_5, .inl (k_6, 8, .inr (.inr (.inr (.inr (fun _ => none)))))), (q_24, .inr (5, [.int 0, .int 0]))] H := hP
  have hD : va_D A [(h0, .inr (0, [.int 0, .int 0, .int 0, .int 0, .int 0, .int 0, .int 0, .int 0, .int 0, .int 0, .ref q_1, .ref q_3, .ref q_5])), (q_1, .inl (k_2, 6, .inr (.inr (.inr (.inr f_22))))), (q_3, .inl (k_4, 24, .inr (.inr (.inr (.inr (fun _ => none)))))), (q_5, .inl (k_6, 8, .inr (.inr (.inr (.inr (fun _ => none)))))), (q_24, .inr (5, [.int 0, .int 0]))] := hD
  refine W.widen (k := 8) (n := 48) (Nat.le_of_ble_eq_true rfl) (Nat.le_of_ble_eq_true rfl) ?_
  refine lv_dup hx hb dX0_init_47 rfl ?_
  have hPc := hP.sub (ws' := []) [] rfl
  have hKc := hK.sub (tys' := []) [] rfl
  refine va_callv (va_runIN (As := []) (rest := [.ref q_24, .int 4, .ref q_1]) ⟨hx, hb, hml, hown, hts⟩ (fX5_init l dC dI q_24) (⟨va_cnB 0 hts (gz_gP mGA_89 goodGA) rfl rfl rfl (nzA_X0_29 hz) (hts _ (List.mem_cons_of_mem _ mGA_88)) (by decide +kernel) ⟨Nat.le_of_ble_eq_true rfl, Nat.le_of_ble_eq_true rfl⟩, rfl, (hts _ (List.mem_cons_of_mem _ mGA_90))⟩) ⟨fun a U g mk q => by obtain ⟨q0, qP, qK⟩ := q; exact ⟨q0, qP, va_K.moved (u := U) (U := U.calling g mk a) (Vm.Alike.refl U.vm) qK⟩, fun U hU hW => ⟨rfl, by rw [hU]; exact hPc, va_K.moved hW.alike hKc⟩⟩ rfl rfl hl.1 rfl (lv_room (Nat.le_of_ble_eq_true rfl)) dX0_init_48 ⟨Nat.le_of_ble_eq_true rfl, Nat.le_of_ble_eq_true rfl⟩) hS (fun q _ h => h.elim) (fun q h => h.elim) (fun  u t H1 locs ht hvm hw hB hz1 hk1 hS => ?_)
  have hP := gz_keep hP hk1
  generalize H1 = H at hP hS ⊢
  refine va_astq hx hb hK hP hD hS 1 0 4 5 rfl rfl rfl rfl (by unfold vp_in; decide) dX0_init_51 (fun H locs hP hD hS => ?_)
  have hP : va_P (dC, dI) vwCl [(h0, .inr (0, [.int 0, .int 0, .int 0, .int 0, .int 0, .int 0, .int 0, .int 0, .int 0, .int 0, .ref q_1, .ref q_3, .ref q_5])), (q_1, .inl (k_2, 6, .inr (.inr (.inr (.inr (va_up f_22 (4 : Int32).toNatClampNeg (some q_24))))))), (q_3, .inl (k_4, 24, .inr (.inr (.inr (.inr (fun _ => none)))))), (q_5, .inl (k_6, 8, .inr (.inr (.inr (.inr (fun _ => none)))))), (q_24, .inr (5, [.int 0, .int 0]))] H := hP
  have hD : va_D A [(h0, .inr (0, [.int 0, .int 0, .int 0, .int 0, .int 0, .int 0, .int 0, .int 0, .int 0, .int 0, .ref q_1, .ref q_3, .ref q_5])), (q_1, .inl (k_2, 6, .inr (.inr (.inr (.inr (va_up f_22 (4 : Int32).toNatClampNeg (some q_24))))))), (q_3, .inl (k_4, 24, .inr (.inr (.inr (.inr (fun _ => none)))))), (q_5, .inl (k_6, 8, .inr (.inr (.inr (.inr (fun _ => none)))))), (q_24, .inr (5, [.int 0, .int 0]))] := hD
  generalize va_up f_22 (4 : Int32).toNatClampNeg (some q_24) = f_26 at hP hD
  have hP := hP.sub (ws' := [(h0, .inr (0, [.int 0, .int 0, .int 0, .int 0, .int 0, .int 0, .int 0, .int 0, .int 0, .int 0, .ref q_1, .ref q_3, .ref q_5])), (q_1, .inl (k_2, 6, .inr (.inr (.inr (.inr f_26))))), (q_3, .inl (k_4, 24, .inr (.inr (.inr (.inr (fun _ => none)))))), (q_5, .inl (k_6, 8, .inr (.inr (.inr (.inr (fun _ => none))))))]) [0, 1, 2, 3] rfl
  have hD := hD.sub (ws' := [(h0, .inr (0, [.int 0, .int 0, .int 0, .int 0, .int 0, .int 0, .int 0, .int 0, .int 0, .int 0, .ref q_1, .ref q_3, .ref q_5])), (q_1, .inl (k_2, 6, .inr (.inr (.inr (.inr f_26))))), (q_3, .inl (k_4, 24, .inr (.inr (.inr (.inr (fun _ => none)))))), (q_5, .inl (k_6, 8, .inr (.inr (.inr (.inr (fun _ => none))))))]) [0, 1, 2, 3] (by decide) rfl
  refine lv_iinc (v := 5) (lv' := [(1, .int 5), (0, .ref h0)]) hx hb dX0_init_52 hl (k := 0) rfl (by decide) (by decide) rfl (fun ls hl => ?_)
  refine lv_goto (tgt := 33) hx hb dX0_init_55 (by decide) ?_
  refine lv_iload_n hx hb dX0_init_33 rfl (lv_at hl 0 rfl) ?_
  refine lv_bipush (v := 6) hx hb dX0_init_34 (by decide) ?_
  refine lv_icmp_ge (tgt := 58) hx hb dX0_init_36 (by decide) (fun c_27 => absurd c_27 (by decide)) (fun c_27 => ?_)
  refine lv_aload_n hx hb dX0_init_39 rfl (lv_at hl 1 rfl) ?_
  refine va_get (D := (dC, dI)) (ci := 0) (v := .ref q_1) (C := RX0) (T := TX0) (N := 13) hx hb hts (fun w h => List.mem_cons_of_mem _ (jnGA_X0 w h)) hown hK hP 0 rfl rfl 10 (by decide) (hts _ (List.mem_cons_of_mem _ mGA_82)) (fun _ h9 => h9) rfl dX0_init_40 ?_
  refine lv_iload_n hx hb dX0_init_43 rfl (lv_at hl 0 rfl) ?_
  refine va_new (ci := 5) (fs := [.int 0, .int 0]) (C := RX5) (T := TX5) (N := 2) hx hb hts (fun w h => List.mem_cons_of_mem _ (jnGA_X5 w h)) tyX5 tyX5_ok hown (hts _ (List.mem_cons_of_mem _ mGA_81)) (hts _ (List.mem_cons_of_mem _ mGA_87)) (hts _ (List.mem_cons_of_mem _ mGA_88)) hK hP hD hS hA rfl dfX5 (Nat.le_of_ble_eq_true rfl) (Nat.le_of_ble_eq_true rfl) dX0_init_44 (fun q_28 H hP hD hS => ?_)
  have hP : va_P (dC, dI) vwCl [(h0, .inr (0, [.int 0, .int 0, .int 0, .int 0, .int 0, .int 0, .int 0, .int 0, .int 0, .int 0, .ref q_1, .ref q_3, .ref q_5])), (q_1, .inl (k_2, 6, .inr (.inr (.inr (.inr f_26))))), (q_3, .inl (k_4, 24, .inr (.inr (.inr (.inr (fun _ => none)))))), (q_5, .inl (k_6, 8, .inr (.inr (.inr (.inr (fun _ => none)))))), (q_28, .inr (5, [.int 0, .int 0]))] H := hP
  have hD : va_D A [(h0, .inr (0, [.int 0, .int 0, .int 0, .int 0, .int 0, .int 0, .int 0, .int 0, .int 0, .int 0, .ref q_1, .ref q_3, .ref q_5])), (q_1, .inl (k_2, 6, .inr (.inr (.inr (.inr f_26))))), (q_3, .inl (k_4, 24, .inr (.inr (.inr (.inr (fun _ => none)))))), (q_5, .inl (k_6, 8, .inr (.inr (.inr (.inr (fun _ => none)))))), (q_28, .inr (5, [.int 0, .int 0]))] := hD
  refine W.widen (k := 9) (n := 50) (Nat.le_of_ble_eq_true rfl) (Nat.le_of_ble_eq_true rfl) ?_
  refine lv_dup hx hb dX0_init_47 rfl ?_
  have hPc := hP.sub (ws' := []) [] rfl
  have hKc := hK.sub (tys' := []) [] rfl
  refine va_callv (va_runIN (As := []) (rest := [.ref q_28, .int 5, .ref q_1]) ⟨hx, hb, hml, hown, hts⟩ (fX5_init l dC dI q_28) (⟨va_cnB 0 hts (gz_gP mGA_89 goodGA) rfl rfl rfl (nzA_X0_29 hz) (hts _ (List.mem_cons_of_mem _ mGA_88)) (by decide +kernel) ⟨Nat.le_of_ble_eq_true rfl, Nat.le_of_ble_eq_true rfl⟩, rfl, (hts _ (List.mem_cons_of_mem _ mGA_90))⟩) ⟨fun a U g mk q => by obtain ⟨q0, qP, qK⟩ := q; exact ⟨q0, qP, va_K.moved (u := U) (U := U.calling g mk a) (Vm.Alike.refl U.vm) qK⟩, fun U hU hW => ⟨rfl, by rw [hU]; exact hPc, va_K.moved hW.alike hKc⟩⟩ rfl rfl hl.1 rfl (lv_room (Nat.le_of_ble_eq_true rfl)) dX0_init_48 ⟨Nat.le_of_ble_eq_true rfl, Nat.le_of_ble_eq_true rfl⟩) hS (fun q _ h => h.elim) (fun q h => h.elim) (fun  u t H1 locs ht hvm hw hB hz1 hk1 hS => ?_)
  have hP := gz_keep hP hk1
  generalize H1 = H at hP hS ⊢
  refine va_astq hx hb hK hP hD hS 1 0 4 5 rfl rfl rfl rfl (by unfold vp_in; decide) dX0_init_51 (fun H locs hP hD hS => ?_)
  have hP : va_P (dC, dI) vwCl [(h0, .inr (0, [.int 0, .int 0, .int 0, .int 0, .int 0, .int 0, .int 0, .int 0, .int 0, .int 0, .ref q_1, .ref q_3, .ref q_5])), (q_1, .inl (k_2, 6, .inr (.inr (.inr (.inr (va_up f_26 (5 : Int32).toNatClampNeg (some q_28))))))), (q_3, .inl (k_4, 24, .inr (.inr (.inr (.inr (fun _ => none)))))), (q_5, .inl (k_6, 8, .inr (.inr (.inr (.inr (fun _ => none)))))), (q_28, .inr (5, [.int 0, .int 0]))] H := hP
  have hD : va_D A [(h0, .inr (0, [.int 0, .int 0, .int 0, .int 0, .int 0, .int 0, .int 0, .int 0, .int 0, .int 0, .ref q_1, .ref q_3, .ref q_5])), (q_1, .inl (k_2, 6, .inr (.inr (.inr (.inr (va_up f_26 (5 : Int32).toNatClampNeg (some q_28))))))), (q_3, .inl (k_4, 24, .inr (.inr (.inr (.inr (fun _ => none)))))), (q_5, .inl (k_6, 8, .inr (.inr (.inr (.inr (fun _ => none)))))), (q_28, .inr (5, [.int 0, .int 0]))] := hD
  generalize va_up f_26 (5 : Int32).toNatClampNeg (some q_28) = f_30 at hP hD
  have hP := hP.sub (ws' := [(h0, .inr (0, [.int 0, .int 0, .int 0, .int 0, .int 0, .int 0, .int 0, .int 0, .int 0, .int 0, .ref q_1, .ref q_3, .ref q_5])), (q_1, .inl (k_2, 6, .inr (.inr (.inr (.inr f_30))))), (q_3, .inl (k_4, 24, .inr (.inr (.inr (.inr (fun _ => none)))))), (q_5, .inl (k_6, 8, .inr (.inr (.inr (.inr (fun _ => none))))))]) [0, 1, 2, 3] rfl
  have hD := hD.sub (ws' := [(h0, .inr (0, [.int 0, .int 0, .int 0, .int 0, .int 0, .int 0, .int 0, .int 0, .int 0, .int 0, .ref q_1, .ref q_3, .ref q_5])), (q_1, .inl (k_2, 6, .inr (.inr (.inr (.inr f_30))))), (q_3, .inl (k_4, 24, .inr (.inr (.inr (.inr (fun _ => none)))))), (q_5, .inl (k_6, 8, .inr (.inr (.inr (.inr (fun _ => none))))))]) [0, 1, 2, 3] (by decide) rfl
  refine lv_iinc (v := 6) (lv' := [(1, .int 6), (0, .ref h0)]) hx hb dX0_init_52 hl (k := 0) rfl (by decide) (by decide) rfl (fun ls hl => ?_)
  refine lv_goto (tgt := 33) hx hb dX0_init_55 (by decide) ?_
  refine lv_iload_n hx hb dX0_init_33 rfl (lv_at hl 0 rfl) ?_
  refine lv_bipush (v := 6) hx hb dX0_init_34 (by decide) ?_
  refine lv_icmp_ge (tgt := 58) hx hb dX0_init_36 (by decide) (fun c_31 => ?_) (fun c_31 => absurd (by decide) c_31)
  refine lv_iconst (v := 0) hx hb dX0_init_58 (by decide) ?_
  refine lv_istore_n (lv' := [(1, .int 0), (0, .ref h0)]) hx hb dX0_init_59 rfl hl (by decide) rfl (fun ls hl => ?_)
  refine lv_iload_n hx hb dX0_init_60 rfl (lv_at hl 0 rfl) ?_
  refine lv_bipush (v := 24) hx hb dX0_init_61 (by decide) ?_
  refine lv_icmp_ge (tgt := 85) hx hb dX0_init_63 (by decide) (fun c_32 => absurd c_32 (by decide)) (fun c_32 => ?_)
  refine lv_aload_n hx hb dX0_init_66 rfl (lv_at hl 1 rfl) ?_
  refine va_get (D := (dC, dI)) (ci := 0) (v := .ref q_3) (C := RX0) (T := TX0) (N := 13) hx hb hts (fun w h => List.mem_cons_of_mem _ (jnGA_X0 w h)) hown hK hP 0 rfl rfl 11 (by decide) (hts _ (List.mem_cons_of_mem _ mGA_84)) (fun _ h9 => h9) rfl dX0_init_67 ?_
  refine lv_iload_n hx hb dX0_init_70 rfl (lv_at hl 0 rfl) ?_
  refine va_new (ci := 7) (fs := [.int 0, .int 0, .int 0, .int 0, .int 0, .int 0]) (C := RX7) (T := TX7) (N := 6) hx hb hts (fun w h => List.mem_cons_of_mem _ (jnGA_X7 w h)) tyX7 tyX7_ok hown (hts _ (List.mem_cons_of_mem _ mGA_83)) (hts _ (List.mem_cons_of_mem _ mGA_91)) (hts _ (List.mem_cons_of_mem _ mGA_92)) hK hP hD hS hA rfl dfX7 (Nat.le_of_ble_eq_true rfl) (Nat.le_of_ble_eq_true rfl) dX0_init_71 (fun q_33 H hP hD hS => ?_)
  have hP : va_P (dC, dI) vwCl [(h0, .inr (0, [.int 0, .int 0, .int 0, .int 0, .int 0, .int 0, .int 0, .int 0, .int 0, .int 0, .ref q_1, .ref q_3, .ref q_5])), (q_1, .inl (k_2, 6, .inr (.inr (.inr (.inr f_30))))), (q_3, .inl (k_4, 24, .inr (.inr (.inr (.inr (fun _ => none)))))), (q_5, .inl (k_6, 8, .inr (.inr (.inr (.inr (fun _ => none)))))), (q_33, .inr (7, [.int 0, .int 0, .int 0, .int 0, .int 0, .int 0]))] H := hP
  have hD : va_D A [(h0, .inr (0, [.int 0, .int 0, .int 0, .int 0, .int 0, .int 0, .int 0, .int 0, .int 0, .int 0, .ref q_1, .ref q_3, .ref q_5])), (q_1, .inl (k_2, 6, .inr (.inr (.inr (.inr f_30))))), (q_3, .inl (k_4, 24, .inr (.inr (.inr (.inr (fun _ => none)))))), (q_5, .inl (k_6, 8, .inr (.inr (.inr (.inr (fun _ => none)))))), (q_33, .inr (7, [.int 0, .int 0, .int 0, .int 0, .int 0, .int 0]))] := hD
  refine W.widen (k := 10) (n := 56) (Nat.le_of_ble_eq_true rfl) (Nat.le_of_ble_eq_true rfl) ?_
  refine lv_dup hx hb dX0_init_74 rfl ?_
  have hPc := hP.sub (ws' := []) [] rfl
  have hKc := hK.sub (tys' := []) [] rfl
  refine va_callv (va_runIN (As := []) (rest := [.ref q_33, .int 0, .ref q_3]) ⟨hx, hb, hml, hown, hts⟩ (fX7_init l dC dI q_33) (⟨va_cnB 0 hts (gz_gP mGA_93 goodGA) rfl rfl rfl (nzA_X0_30 hz) (hts _ (List.mem_cons_of_mem _ mGA_92)) (by decide +kernel) ⟨Nat.le_of_ble_eq_true rfl, Nat.le_of_ble_eq_true rfl⟩, rfl, (hts _ (List.mem_cons_of_mem _ mGA_94))⟩) ⟨fun a U g mk q => by obtain ⟨q0, qP, qK⟩ := q; exact ⟨q0, qP, va_K.moved (u := U) (U := U.calling g mk a) (Vm.Alike.refl U.vm) qK⟩, fun U hU hW => ⟨rfl, by rw [hU]; exact hPc, va_K.moved hW.alike hKc⟩⟩ rfl rfl hl.1 rfl (lv_room (Nat.le_of_ble_eq_true rfl)) dX0_init_75 ⟨Nat.le_of_ble_eq_true rfl, Nat.le_of_ble_eq_true rfl⟩) hS (fun q _ h => h.elim) (fun q h => h.elim) (fun  u t H1 locs ht hvm hw hB hz1 hk1 hS => ?_)
  have hP := gz_keep hP hk1
  generalize H1 = H at hP hS ⊢
  refine va_astq hx hb hK hP hD hS 2 1 4 7 rfl rfl rfl rfl (by unfold vp_in; decide) dX0_init_78 (fun H locs hP hD hS => ?_)
  have hP : va_P (dC, dI) vwCl [(h0, .inr (0, [.int 0, .int 0, .int 0, .int 0, .int 0, .int 0, .int 0, .int 0, .int 0, .int 0, .ref q_1, .ref q_3, .ref q_5])), (q_1, .inl (k_2, 6, .inr (.inr (.inr (.inr f_30))))), (q_3, .inl (k_4, 24, .inr (.inr (.inr (.inr (va_up (fun _ => none) (0 : Int32).toNatClampNeg (some q_33))))))), (q_5, .inl (k_6, 8, .inr (.inr (.inr (.inr (fun _ => none)))))), (q_33, .inr (7, [.int 0, .int 0, .int 0, .int 0, .int 0, .int 0]))] H := hP
  have hD : va_D A [(h0, .inr (0, [.int 0, .int 0, .int 0, .int 0, .int 0, .int 0, .int 0, .int 0, .int 0, .int 0, .ref q_1, .ref q_3, .ref q_5])), (q_1, .inl (k_2, 6, .inr (.inr (.inr (.inr f_30))))), (q_3, .inl (k_4, 24, .inr (.inr (.inr (.inr (va_up (fun _ => none) (0 : Int32).toNatClampNeg (some q_33))))))), (q_5, .inl (k_6, 8, .inr (.inr (.inr (.inr (fun _ => none)))))), (q_33, .inr (7, [.int 0, .int 0, .int 0, .int 0, .int 0, .int 0]))] := hD
  generalize va_up (fun _ => none) (0 : Int32).toNatClampNeg (some q_33) = f_35 at hP hD
  have hP := hP.sub (ws' := [(h0, .inr (0, [.int 0, .int 0, .int 0, .int 0, .int 0, .int 0, .int 0, .int 0, .int 0, .int 0, .ref q_1, .ref q_3, .ref q_5])), (q_1, .inl (k_2, 6, .inr (.inr (.inr (.inr f_30))))), (q_3, .inl (k_4, 24, .inr (.inr (.inr (.inr f_35))))), (q_5, .inl (k_6, 8, .inr (.inr (.inr (.inr (fun _ => none))))))]) [0, 1, 2, 3] rfl
  have hD := hD.sub (ws' := [(h0, .inr (0, [.int 0, .int 0, .int 0, .int 0, .int 0, .int 0, .int 0, .int 0, .int 0, .int 0, .ref q_1, .ref q_3, .ref q_5])), (q_1, .inl (k_2, 6, .inr (.inr (.inr (.inr f_30))))), (q_3, .inl (k_4, 24, .inr (.inr (.inr (.inr f_35))))), (q_5, .inl (k_6, 8, .inr (.inr (.inr (.inr (fun _ => none))))))]) [0, 1, 2, 3] (by decide) rfl
  refine lv_iinc (v := 1) (lv' := [(1, .int 1), (0, .ref h0)]) hx hb dX0_init_79 hl (k := 0) rfl (by decide) (by decide) rfl (fun ls hl => ?_)
  refine lv_goto (tgt := 60) hx hb dX0_init_82 (by decide) ?_
  refine lv_iload_n hx hb dX0_init_60 rfl (lv_at hl 0 rfl) ?_
  refine lv_bipush (v := 24) hx hb dX0_init_61 (by decide) ?_
  refine lv_icmp_ge (tgt := 85) hx hb dX0_init_63 (by decide) (fun c_36 => absurd c_36 (by decide)) (fun c_36 => ?_)
  refine lv_aload_n hx hb dX0_init_66 rfl (lv_at hl 1 rfl) ?_
  refine va_get (D := (dC, dI)) (ci := 0) (v := .ref q_3) (C := RX0) (T := TX0) (N := 13) hx hb hts (fun w h => List.mem_cons_of_mem _ (jnGA_X0 w h)) hown hK hP 0 rfl rfl 11 (by decide) (hts _ (List.mem_cons_of_mem _ mGA_84)) (fun _ h9 => h9) rfl dX0_init_67 ?_
  refine lv_iload_n hx hb dX0_init_70 rfl (lv_at hl 0 rfl) ?_
  refine va_new (ci := 7) (fs := [.int 0, .int 0, .int 0, .int 0, .int 0, .int 0]) (C := RX7) (T := TX7) (N := 6) hx hb hts (fun w h => List.mem_cons_of_mem _ (jnGA_X7 w h)) tyX7 tyX7_ok hown (hts _ (List.mem_cons_of_mem _ mGA_83)) (hts _ (List.mem_cons_of_mem _ mGA_91)) (hts _ (List.mem_cons_of_mem _ mGA_92)) hK hP hD hS hA rfl dfX7 (Nat.le_of_ble_eq_true rfl) (Nat.le_of_ble_eq_true rfl) dX0_init_71 (fun q_37 H hP hD hS => ?_)
  have hP : va_P (dC, dI) vwCl [(h0, .inr (0, [.int 0, .int 0, .int 0, .int 0, .int 0, .int 0, .int 0, .int 0, .int 0, .int 0, .ref q_1, .ref q_3, .ref q_5])), (q_1, .inl (k_2, 6, .inr (.inr (.inr (.inr f_30))))), (q_3, .inl (k_4, 24, .inr (.inr (.inr (.inr f_35))))), (q_5, .inl (k_6, 8, .inr (.inr (.inr (.inr (fun _ => none)))))), (q_37, .inr (7, [.int 0, .int 0, .int 0, .int 0, .int 0, .int 0]))] H := hP
  have hD : va_D A [(h0, .inr (0, [.int 0, .int 0, .int 0, .int 0, .int 0, .int 0, .int 0, .int 0, .int 0, .int 0, .ref q_1, .ref q_3, .ref q_5])), (q_1, .inl (k_2, 6, .inr (.inr (.inr (.inr f_30))))), (q_3, .inl (k_4, 24, .inr (.inr (.inr (.inr f_35))))), (q_5, .inl (k_6, 8, .inr (.inr (.inr (.inr (fun _ => none)))))), (q_37, .inr (7, [.int 0, .int 0, .int 0, .int 0, .int 0, .int 0]))] := hD
  refine W.widen (k := 11) (n := 62) (Nat.le_of_ble_eq_true rfl) (Nat.le_of_ble_eq_true rfl) ?_
  refine lv_dup hx hb dX0_init_74 rfl ?_
  have hPc := hP.sub (ws' := []) [] rfl
  have hKc := hK.sub (tys' := []) [] rfl
  refine va_callv (va_runIN (As := []) (rest := [.ref q_37, .int 1, .ref q_3]) ⟨hx, hb, hml, hown, hts⟩ (fX7_init l dC dI q_37) (⟨va_cnB 0 hts (gz_gP mGA_93 goodGA) rfl rfl rfl (nzA_X0_30 hz) (hts _ (List.mem_cons_of_mem _ mGA_92)) (by decide +kernel) ⟨Nat.le_of_ble_eq_true rfl, Nat.le_of_ble_eq_true rfl⟩, rfl, (hts _ (List.mem_cons_of_mem _ mGA_94))⟩) ⟨fun a U g mk q => by obtain ⟨q0, qP, qK⟩ := q; exact ⟨q0, qP, va_K.moved (u := U) (U := U.calling g mk a) (Vm.Alike.refl U.vm) qK⟩, fun U hU hW => ⟨rfl, by rw [hU]; exact hPc, va_K.moved hW.alike hKc⟩⟩ rfl rfl hl.1 rfl (lv_room (Nat.le_of_ble_eq_true rfl)) dX0_init_75 ⟨Nat.le_of_ble_eq_true rfl, Nat.le_of_ble_eq_true rfl⟩) hS (fun q _ h => h.elim) (fun q h => h.elim) (fun  u t H1 locs ht hvm hw hB hz1 hk1 hS => ?_)
  have hP := gz_keep hP hk1
  generalize H1 = H at hP hS ⊢
  refine va_astq hx hb hK hP hD hS 2 1 4 7 rfl rfl rfl rfl (by unfold vp_in; decide) dX0_init_78 (fun H locs hP hD hS => ?_)
  have hP : va_P (dC, dI) vwCl [(h0, .inr (0, [.int 0, .int 0, .int 0, .int 0, .int 0, .int 0, .int 0, .int 0, .int 0, .int 0, .ref q_1, .ref q_3, .ref q_5])), (q_1, .inl (k_2, 6, .inr (.inr (.inr (.inr f_30))))), (q_3, .inl (k_4, 24, .inr (.inr (.inr (.inr (va_up f_35 (1 : Int32).toNatClampNeg (some q_37))))))), (q_5, .inl (k_6, 8, .inr (.inr (.inr (.inr (fun _ => none)))))), (q_37, .inr (7, [.int 0, .int 0, .int 0, .int 0, .int 0, .int 0]))] H := hP
  have hD : va_D A [(h0, .inr (0, [.int 0, .int 0, .int 0, .int 0, .int 0, .int 0, .int 0, .int 0, .int 0, .int 0, .ref q_1, .ref q_3, .ref q_5])), (q_1, .inl (k_2, 6, .inr (.inr (.inr (.inr f_30))))), (q_3, .inl (k_4, 24, .inr (.inr (.inr (.inr (va_up f_35 (1 : Int32).toNatClampNeg (some q_37))))))), (q_5, .inl (k_6, 8, .inr (.inr (.inr (.inr (fun _ => none)))))), (q_37, .inr (7, [.int 0, .int 0, .int 0, .int 0, .int 0, .int 0]))] := hD
  generalize va_up f_35 (1 : Int32).toNatClampNeg (some q_37) = f_39 at hP hD
  have hP := hP.sub (ws' := [(h0, .inr (0, [.int 0, .int 0, .int 0, .int 0, .int 0, .int 0, .int 0, .int 0, .int 0, .int 0, .ref q_1, .ref q_3, .ref q_5])), (q_1, .inl (k_2, 6, .inr (.inr (.inr (.inr f_30))))), (q_3, .inl (k_4, 24, .inr (.inr (.inr (.inr f_39))))), (q_5, .inl (k_6, 8, .inr (.inr (.inr (.inr (fun _ => none))))))]) [0, 1, 2, 3] rfl
  have hD := hD.sub (ws' := [(h0, .inr (0, [.int 0, .int 0, .int 0, .int 0, .int 0, .int 0, .int 0, .int 0, .int 0, .int 0, .ref q_1, .ref q_3, .ref q_5])), (q_1, .inl (k_2, 6, .inr (.inr (.inr (.inr f_30))))), (q_3, .inl (k_4, 24, .inr (.inr (.inr (.inr f_39))))), (q_5, .inl (k_6, 8, .inr (.inr (.inr (.inr (fun _ => none))))))]) [0, 1, 2, 3] (by decide) rfl
  refine lv_iinc (v := 2) (lv' := [(1, .int 2), (0, .ref h0)]) hx hb dX0_init_79 hl (k := 0) rfl (by decide) (by decide) rfl (fun ls hl => ?_)
  refine lv_goto (tgt := 60) hx hb dX0_init_82 (by decide) ?_
  refine lv_iload_n hx hb dX0_init_60 rfl (lv_at hl 0 rfl) ?_
  refine lv_bipush (v := 24) hx hb dX0_init_61 (by decide) ?_
  refine lv_icmp_ge (tgt := 85) hx hb dX0_init_63 (by decide) (fun c_40 => absurd c_40 (by decide)) (fun c_40 => ?_)
  refine lv_aload_n hx hb dX0_init_66 rfl (lv_at hl 1 rfl) ?_
  refine va_get (D := (dC, dI)) (ci := 0) (v := .ref q_3) (C := RX0) (T := TX0) (N := 13) hx hb hts (fun w h => List.mem_cons_of_mem _ (jnGA_X0 w h)) hown hK hP 0 rfl rfl 11 (by decide) (hts _ (List.mem_cons_of_mem _ mGA_84)) (fun _ h9 => h9) rfl dX0_init_67 ?_
  refine lv_iload_n hx hb dX0_init_70 rfl (lv_at hl 0 rfl) ?_
  refine va_new (ci := 7) (fs := [.int 0, .int 0, .int 0, .int 0, .int 0, .int 0]) (C := RX7) (T := TX7) (N := 6) hx hb hts (fun w h => List.mem_cons_of_mem _ (jnGA_X7 w h)) tyX7 tyX7_ok hown (hts _ (List.mem_cons_of_mem _ mGA_83)) (hts _ (List.mem_cons_of_mem _ mGA_91)) (hts _ (List.mem_cons_of_mem _ mGA_92)) hK hP hD hS hA rfl dfX7 (Nat.le_of_ble_eq_true rfl) (Nat.le_of_ble_eq_true rfl) dX0_init_71 (fun q_41 H hP hD hS => ?_)
  have hP : va_P (dC, dI) vwCl [(h0, .inr (0, [.int 0, .int 0, .int 0, .int 0, .int 0, .int 0, .int 0, .int 0, .int 0, .int 0, .ref q_1, .ref q_3, .ref q_5])), (q_1, .inl (k_2, 6, .inr (.inr (.inr (.inr f_30))))), (q_3, .inl (k_4, 24, .inr (.inr (.inr (.inr f_39))))), (q_5, .inl (k_6, 8, .inr (.inr (.inr (.inr (fun _ => none)))))), (q_41, .inr (7, [.int 0, .int 0, .int 0, .int 0, .int 0, .int 0]))] H := hP
  have hD : va_D A [(h0, .inr (0, [.int 0, .int 0, .int 0, .int 0, .int 0, .int 0, .int 0, .int 0, .int 0, .int 0, .ref q_1, .ref q_3, .ref q_5])), (q_1, .inl (k_2, 6, .inr (.inr (.inr (.inr f_30))))), (q_3, .inl (k_4, 24, .inr (.inr (.inr (.inr f_39))))), (q_5, .inl (k_6, 8, .inr (.inr (.inr (.inr (fun _ => none)))))), (q_41, .inr (7, [.int 0, .int 0, .int 0, .int 0, .int 0, .int 0]))] := hD
  refine W.widen (k := 12) (n := 68) (Nat.le_of_ble_eq_true rfl) (Nat.le_of_ble_eq_true rfl) ?_
  refine lv_dup hx hb dX0_init_74 rfl ?_
  have hPc := hP.sub (ws' := []) [] rfl
  have hKc := hK.sub (tys' := []) [] rfl
  refine va_callv (va_runIN (As := []) (rest := [.ref q_41, .int 2, .ref q_3]) ⟨hx, hb, hml, hown, hts⟩ (fX7_init l dC dI q_41) (⟨va_cnB 0 hts (gz_gP mGA_93 goodGA) rfl rfl rfl (nzA_X0_30 hz) (hts _ (List.mem_cons_of_mem _ mGA_92)) (by decide +kernel) ⟨Nat.le_of_ble_eq_true rfl, Nat.le_of_ble_eq_true rfl⟩, rfl, (hts _ (List.mem_cons_of_mem _ mGA_94))⟩) ⟨fun a U g mk q => by obtain ⟨q0, qP, qK⟩ := q; exact ⟨q0, qP, va_K.moved (u := U) (U := U.calling g mk a) (Vm.Alike.refl U.vm) qK⟩, fun U hU hW => ⟨rfl, by rw [hU]; exact hPc, va_K.moved hW.alike hKc⟩⟩ rfl rfl hl.1 rfl (lv_room (Nat.le_of_ble_eq_true rfl)) dX0_init_75 ⟨Nat.le_of_ble_eq_true rfl, Nat.le_of_ble_eq_true rfl⟩) hS (fun q _ h => h.elim) (fun q h => h.elim) (fun  u t H1 locs ht hvm hw hB hz1 hk1 hS => ?_)
  have hP := gz_keep hP hk1
  generalize H1 = H at hP hS ⊢
  refine va_astq hx hb hK hP hD hS 2 1 4 7 rfl rfl rfl rfl (by unfold vp_in; decide) dX0_init_78 (fun H locs hP hD hS => ?_)
  have hP : va_P (dC, dI) vwCl [(h0, .inr (0, [.int 0, .int 0, .int 0, .int 0, .int 0, .int 0, .int 0, .int 0, .int 0, .int 0, .ref q_1, .ref q_3, .ref q_5])), (q_1, .inl (k_2, 6, .inr (.inr (.inr (.inr f_30))))), (q_3, .inl (k_4, 24, .inr (.inr (.inr (.inr (va_up f_39 (2 : Int32).toNatClampNeg (some q_41))))))), (q_5, .inl (k_6, 8, .inr (.inr (.inr (.inr (fun _ => none)))))), (q_41, .inr (7, [.int 0, .int 0, .int 0, .int 0, .int 0, .int 0]))] H := hP
  have hD : va_D A [(h0, .inr (0, [.int 0, .int 0, .int 0, .int 0, .int 0, .int 0, .int 0, .int 0, .int 0, .int 0, .ref q_1, .ref q_3, .ref q_5])), (q_1, .inl (k_2, 6, .inr (.inr (.inr (.inr f_30))))), (q_3, .inl (k_4, 24, .inr (.inr (.inr (.inr (va_up f_39 (2 : Int32).toNatClampNeg (some q_41))))))), (q_5, .inl (k_6, 8, .inr (.inr (.inr (.inr (fun _ => none)))))), (q_41, .inr (7, [.int 0, .int 0, .int 0, .int 0, .int 0, .int 0]))] := hD
  generalize va_up f_39 (2 : Int32).toNatClampNeg (some q_41) = f_43 at hP hD
  have hP := hP.sub (ws' := [(h0, .inr (0, [.int 0, .int 0, .int 0, .int 0, .int 0, .int 0, .int 0, .int 0, .int 0, .int 0, .ref q_1, .ref q_3, .ref q_5])), (q_1, .inl (k_2, 6, .inr (.inr (.inr (.inr f_30))))), (q_3, .inl (k_4, 24, .inr (.inr (.inr (.inr f_43))))), (q_5, .inl (k_6, 8, .inr (.inr (.inr (.inr (fun _ => none))))))]) [0, 1, 2, 3] rfl
  have hD := hD.sub (ws' := [(h0, .inr (0, [.int 0, .int 0, .int 0, .int 0, .int 0, .int 0, .int 0, .int 0, .int 0, .int 0, .ref q_1, .ref q_3, .ref q_5])), (q_1, .inl (k_2, 6, .inr (.inr (.inr (.inr f_30))))), (q_3, .inl (k_4, 24, .inr (.inr (.inr (.inr f_43))))), (q_5, .inl (k_6, 8, .inr (.inr (.inr (.inr (fun _ => none))))))]) [0, 1, 2, 3] (by decide) rfl
  refine lv_iinc (v := 3) (lv' := [(1, .int 3), (0, .ref h0)]) hx hb dX0_init_79 hl (k := 0) rfl (by decide) (by decide) rfl (fun ls hl => ?_)
  refine lv_goto (tgt := 60) hx hb dX0_init_82 (by decide) ?_
  refine lv_iload_n hx hb dX0_init_60 rfl (lv_at hl 0 rfl) ?_
  refine lv_bipush (v := 24) hx hb dX0_init_61 (by decide) ?_
  refine lv_icmp_ge (tgt := 85) hx hb dX0_init_63 (by decide) (fun c_44 => absurd c_44 (by decide)) (fun c_44 => ?_)
  refine lv_aload_n hx hb dX0_init_66 rfl (lv_at hl 1 rfl) ?_
  refine va_get (D := (dC, dI)) (ci := 0) (v := .ref q_3) (C := RX0) (T := TX0) (N := 13) hx hb hts (fun w h => List.mem_cons_of_mem _ (jnGA_X0 w h)) hown hK hP 0 rfl rfl 11 (by decide) (hts _ (List.mem_cons_of_mem _ mGA_84)) (fun _ h9 => h9) rfl dX0_init_67 ?_
  refine lv_iload_n hx hb dX0_init_70 rfl (lv_at hl 0 rfl) ?_
  refine va_new (ci := 7) (fs := [.int 0, .int 0, .int 0, .int 0, .int 0, .int 0]) (C := RX7) (T := TX7) (N := 6) hx hb hts (fun w h => List.mem_cons_of_mem _ (jnGA_X7 w h)) tyX7 tyX7_ok hown (hts _ (List.mem_cons_of_mem _ mGA_83)) (hts _ (List.mem_cons_of_mem _ mGA_91)) (hts _ (List.mem_cons_of_mem _ mGA_92)) hK hP hD hS hA rfl dfX7 (Nat.le_of_ble_eq_true rfl) (Nat.le_of_ble_eq_true rfl) dX0_init_71 (fun q_45 H hP hD hS => ?_)
  have hP : va_P (dC, dI) vwCl [(h0, .inr (0, [.int 0, .int 0, .int 0, .int 0, .int 0, .int 0, .int 0, .int 0, .int 0, .int 0, .ref q_1, .ref q_3, .ref q_5])), (q_1, .inl (k_2, 6, .inr (.inr (.inr (.inr f_30))))), (q_3, .inl (k_4, 24, .inr (.inr (.inr (.inr f_43))))), (q_5, .inl (k_6, 8, .inr (.inr (.inr (.inr (fun _ => none)))))), (q_45, .inr (7, [.int 0, .int 0, .int 0, .int 0, .int 0, .int 0]))] H := hP
  have hD : va_D A [(h0, .inr (0, [.int 0, .int 0, .int 0, .int 0, .int 0, .int 0, .int 0, .int 0, .int 0, .int 0, .ref q_1, .ref q_3, .ref q_5])), (q_1, .inl (k_2, 6, .inr (.inr (.inr (.inr f_30))))), (q_3, .inl (k_4, 24, .inr (.inr (.inr (.inr f_43))))), (q_5, .inl (k_6, 8, .inr (.inr (.inr (.inr (fun _ => none)))))), (q_45, .inr (7, [.int 0, .int 0, .int 0, .int 0, .int 0, .int 0]))] := hD
  refine W.widen (k := 13) (n := 74) (Nat.le_of_ble_eq_true rfl) (Nat.le_of_ble_eq_true rfl) ?_
  refine lv_dup hx hb dX0_init_74 rfl ?_
  have hPc := hP.sub (ws' := []) [] rfl
  have hKc := hK.sub (tys' := []) [] rfl
  refine va_callv (va_runIN (As := []) (rest := [.ref q_45, .int 3, .ref q_3]) ⟨hx, hb, hml, hown, hts⟩ (fX7_init l dC dI q_45) (⟨va_cnB 0 hts (gz_gP mGA_93 goodGA) rfl rfl rfl (nzA_X0_30 hz) (hts _ (List.mem_cons_of_mem _ mGA_92)) (by decide +kernel) ⟨Nat.le_of_ble_eq_true rfl, Nat.le_of_ble_eq_true rfl⟩, rfl, (hts _ (List.mem_cons_of_mem _ mGA_94))⟩) ⟨fun a U g mk q => by obtain ⟨q0, qP, qK⟩ := q; exact ⟨q0, qP, va_K.moved (u := U) (U := U.calling g mk a) (Vm.Alike.refl U.vm) qK⟩, fun U hU hW => ⟨rfl, by rw [hU]; exact hPc, va_K.moved hW.alike hKc⟩⟩ rfl rfl hl.1 rfl (lv_room (Nat.le_of_ble_eq_true rfl)) dX0_init_75 ⟨Nat.le_of_ble_eq_true rfl, Nat.le_of_ble_eq_true rfl⟩) hS (fun q _ h => h.elim) (fun q h => h.elim) (fun  u t H1 locs ht hvm hw hB hz1 hk1 hS => ?_)
  have hP := gz_keep hP hk1
  generalize H1 = H at hP hS ⊢
  refine va_astq hx hb hK hP hD hS 2 1 4 7 rfl rfl rfl rfl (by unfold vp_in; decide) dX0_init_78 (fun H locs hP hD hS => ?_)
  have hP : va_P (dC, dI) vwCl [(h0, .inr (0, [.int 0, .int 0, .int 0, .int 0, .int 0, .int 0, .int 0, .int 0, .int 0, .int 0, .ref q_1, .ref q_3, .ref q_5])), (q_1, .inl (k_2, 6, .inr (.inr (.inr (.inr f_30))))), (q_3, .inl (k_4, 24, .inr (.inr (.inr (.inr (va_up f_43 (3 : Int32).toNatClampNeg (some q_45))))))), (q_5, .inl (k_6, 8, .inr (.inr (.inr (.inr (fun _ => none)))))), (q_45, .inr (7, [.int 0, .int 0, .int 0, .int 0, .int 0, .int 0]))] H := hP
  have hD : va_D A [(h0, .inr (0, [.int 0, .int 0, .int 0, .int 0, .int 0, .int 0, .int 0, .int 0, .int 0, .int 0, .ref q_1, .ref q_3, .ref q_5])), (q_1, .inl (k_2, 6, .inr (.inr (.inr (.inr f_30))))), (q_3, .inl (k_4, 24, .inr (.inr (.inr (.inr (va_up f_43 (3 : Int32).toNatClampNeg (some q_45))))))), (q_5, .inl (k_6, 8, .inr (.inr (.inr (.inr (fun _ => none)))))), (q_45, .inr (7, [.int 0, .int 0, .int 0, .int 0, .int 0, .int 0]))] := hD
  generalize va_up f_43 (3 : Int32).toNatClampNeg (some q_45) = f_47 at hP hD
  have hP := hP.sub (ws' := [(h0, .inr (0, [.int 0, .int 0, .int 0, .int 0, .int 0, .int 0, .int 0, .int 0, .int 0, .int 0, .ref q_1, .ref q_3, .ref q_5])), (q_1, .inl (k_2, 6, .inr (.inr (.inr (.inr f_30))))), (q_3, .inl (k_4, 24, .inr (.inr (.inr (.inr f_47))))), (q_5, .inl (k_6, 8, .inr (.inr (.inr (.inr (fun _ => none))))))]) [0, 1, 2, 3] rfl
  have hD := hD.sub (ws' := [(h0, .inr (0, [.int 0, .int 0, .int 0, .int 0, .int 0, .int 0, .int 0, .int 0, .int 0, .int 0, .ref q_1, .ref q_3, .ref q_5])), (q_1, .inl (k_2, 6, .inr (.inr (.inr (.inr f_30))))), (q_3, .inl (k_4, 24, .inr (.inr (.inr (.inr f_47))))), (q_5, .inl (k_6, 8, .inr (.inr (.inr (.inr (fun _ => none))))))]) [0, 1, 2, 3] (by decide) rfl
  refine lv_iinc (v := 4) (lv' := [(1, .int 4), (0, .ref h0)]) hx hb dX0_init_79 hl (k := 0) rfl (by decide) (by decide) rfl (fun ls hl => ?_)
  refine lv_goto (tgt := 60) hx hb dX0_init_82 (by decide) ?_
  refine lv_iload_n hx hb dX0_init_60 rfl (lv_at hl 0 rfl) ?_
  refine lv_bipush (v := 24) hx hb dX0_init_61 (by decide) ?_
  refine lv_icmp_ge (tgt := 85) hx hb dX0_init_63 (by decide) (fun c_48 => absurd c_48 (by decide)) (fun c_48 => ?_)
  refine lv_aload_n hx hb dX0_init_66 rfl (lv_at hl 1 rfl) ?_
  refine va_get (D := (dC, dI)) (ci := 0) (v := .ref q_3) (C := RX0) (T := TX0) (N := 13) hx hb hts (fun w h => List.mem_cons_of_mem _ (jnGA_X0 w h)) hown hK hP 0 rfl rfl 11 (by decide) (hts _ (List.mem_cons_of_mem _ mGA_84)) (fun _ h9 => h9) rfl dX0_init_67 ?_
  refine lv_iload_n hx hb dX0_init_70 rfl (lv_at hl 0 rfl) ?_
  refine va_new (ci := 7) (fs := [.int 0, .int 0, .int 0, .int 0, .int 0, .int 0]) (C := RX7) (T := TX7) (N := 6) hx hb hts (fun w h => List.mem_cons_of_mem _ (jnGA_X7 w h)) tyX7 tyX7_ok hown (hts _ (List.mem_cons_of_mem _ mGA_83)) (hts _ (List.mem_cons_of_mem _ mGA_91)) (hts _ (List.mem_cons_of_mem _ mGA_92)) hK hP hD hS hA rfl dfX7 (Nat.le_of_ble_eq_true rfl) (Nat.le_of_ble_eq_true rfl) dX0_init_71 (fun q_49 H hP hD hS => ?_)
  have hP : va_P (dC, dI) vwCl [(h0, .inr (0, [.int 0, .int 0, .int 0, .int 0, .int 0, .int 0, .int 0, .int 0, .int 0, .int 0, .ref q_1, .ref q_3, .ref q_5])), (q_1, .inl (k_2, 6, .inr (.inr (.inr (.inr f_30))))), (q_3, .inl (k_4, 24, .inr (.inr (.inr (.inr f_47))))), (q_5, .inl (k_6, 8, .inr (.inr (.inr (.inr (fun _ => none)))))), (q_49, .inr (7, [.int 0, .int 0, .int 0, .int 0, .int 0, .int 0]))] H := hP
  have hD : va_D A [(h0, .inr (0, [.int 0, .int 0, .int 0, .int 0, .int 0, .int 0, .int 0, .int 0, .int 0, .int 0, .ref q_1, .ref q_3, .ref q_5])), (q_1, .inl (k_2, 6, .inr (.inr (.inr (.inr f_30))))), (q_3, .inl (k_4, 24, .inr (.inr (.inr (.inr f_47))))), (q_5, .inl (k_6, 8, .inr (.inr (.inr (.inr (fun _ => none)))))), (q_49, .inr (7, [.int 0, .int 0, .int 0, .int 0, .int 0, .int 0]))] := hD
  refine W.widen (k := 14) (n := 80) (Nat.le_of_ble_eq_true rfl) (Nat.le_of_ble_eq_true rfl) ?_
  refine lv_dup hx hb dX0_init_74 rfl ?_
  have hPc := hP.sub (ws' := []) [] rfl
  have hKc := hK.sub (tys' := []) [] rfl
  refine va_callv (va_runIN (As := []) (rest := [.ref q_49, .int 4, .ref q_3]) ⟨hx, hb, hml, hown, hts⟩ (fX7_init l dC dI q_49) (⟨va_cnB 0 hts (gz_gP mGA_93 goodGA) rfl rfl rfl (nzA_X0_30 hz) (hts _ (List.mem_cons_of_mem _ mGA_92)) (by decide +kernel) ⟨Nat.le_of_ble_eq_true rfl, Nat.le_of_ble_eq_true rfl⟩, rfl, (hts _ (List.mem_cons_of_mem _ mGA_94))⟩) ⟨fun a U g mk q => by obtain ⟨q0, qP, qK⟩ := q; exact ⟨q0, qP, va_K.moved (u := U) (U := U.calling g mk a) (Vm.Alike.refl U.vm) qK⟩, fun U hU hW => ⟨rfl, by rw [hU]; exact hPc, va_K.moved hW.alike hKc⟩⟩ rfl rfl hl.1 rfl (lv_room (Nat.le_of_ble_eq_true rfl)) dX0_init_75 ⟨Nat.le_of_ble_eq_true rfl, Nat.le_of_ble_eq_true rfl⟩) hS (fun q _ h => h.elim) (fun q h => h.elim) (fun  u t H1 locs ht hvm hw hB hz1 hk1 hS => ?_)
  have hP := gz_keep hP hk1
  generalize H1 = H at hP hS ⊢
  refine va_astq hx hb hK hP hD hS 2 1 4 7 rfl rfl rfl rfl (by unfold vp_in; decide) dX0_init_78 (fun H locs hP hD hS => ?_)
  have hP : va_P (dC, dI) vwCl [(h0, .inr (0, [.int 0, .int 0, .int 0, .int 0, .int 0, .int 0, .int 0, .int 0, .int 0, .int 0, .ref q_1, .ref q_3, .ref q_5])), (q_1, .inl (k_2, 6, .inr (.inr (.inr (.inr f_30))))), (q_3, .inl (k_4, 24, .inr (.inr (.inr (.inr (va_up f_47 (4 : Int32).toNatClampNeg (some q_49))))))), (q_5, .inl (k_6, 8, .inr (.inr (.inr (.inr (fun _ => none)))))), (q_49, .inr (7, [.int 0, .int 0, .int 0, .int 0, .int 0, .int 0]))] H := hP
  have hD : va_D A [(h0, .inr (0, [.int 0, .int 0, .int 0, .int 0, .int 0, .int 0, .int 0, .int 0, .int 0, .int 0, .ref q_1, .ref q_3, .ref q_5])), (q_1, .inl (k_2, 6, .inr (.inr (.inr (.inr f_30))))), (q_3, .inl (k_4, 24, .inr (.inr (.inr (.inr (va_up f_47 (4 : Int32).toNatClampNeg (some q_49))))))), (q_5, .inl (k_6, 8, .inr (.inr (.inr (.inr (fun _ => none)))))), (q_49, .inr (7, [.int 0, .int 0, .int 0, .int 0, .int 0, .int 0]))] := hD
  generalize va_up f_47 (4 : Int32).toNatClampNeg (some q_49) = f_51 at hP hD
  have hP := hP.sub (ws' := [(h0, .inr (0, [.int 0, .int 0, .int 0, .int 0, .int 0, .int 0, .int 0, .int 0, .int 0, .int 0, .ref q_1, .ref q_3, .ref q_5])), (q_1, .inl (k_2, 6, .inr (.inr (.inr (.inr f_30))))), (q_3, .inl (k_4, 24, .inr (.inr (.inr (.inr f_51))))), (q_5, .inl (k_6, 8, .inr (.inr (.inr (.inr (fun _ => none))))))]) [0, 1, 2, 3] rfl
  have hD := hD.sub (ws' := [(h0, .inr (0, [.int 0, .int 0, .int 0, .int 0, .int 0, .int 0, .int 0, .int 0, .int 0, .int 0, .ref q_1, .ref q_3, .ref q_5])), (q_1, .inl (k_2, 6, .inr (.inr (.inr (.inr f_30))))), (q_3, .inl (k_4, 24, .inr (.inr (.inr (.inr f_51))))), (q_5, .inl (k_6, 8, .inr (.inr (.inr (.inr (fun _ => none))))))]) [0, 1, 2, 3] (by decide) rfl
  refine lv_iinc (v := 5) (lv' := [(1, .int 5), (0, .ref h0)]) hx hb dX0_init_79 hl (k := 0) rfl (by decide) (by decide) rfl (fun ls hl => ?_)
  refine lv_goto (tgt := 60) hx hb dX0_init_82 (by decide) ?_
  refine lv_iload_n hx hb dX0_init_60 rfl (lv_at hl 0 rfl) ?_
  refine lv_bipush (v := 24) hx hb dX0_init_61 (by decide) ?_
  refine lv_icmp_ge (tgt := 85) hx hb dX0_init_63 (by decide) (fun c_52 => absurd c_52 (by decide)) (fun c_52 => ?_)
  refine lv_aload_n hx hb dX0_init_66 rfl (lv_at hl 1 rfl) ?_
  refine va_get (D := (dC, dI)) (ci := 0) (v := .ref q_3) (C := RX0) (T := TX0) (N := 13) hx hb hts (fun w h => List.mem_cons_of_mem _ (jnGA_X0 w h)) hown hK hP 0 rfl rfl 11 (by decide) (hts _ (List.mem_cons_of_mem _ mGA_84)) (fun _ h9 => h9) rfl dX0_init_67 ?_
  refine lv_iload_n hx hb dX0_init_70 rfl (lv_at hl 0 rfl) ?_
  refine va_new (ci := 7) (fs := [.int 0, .int 0, .int 0, .int 0, .int 0, .int 0]) (C := RX7) (T := TX7) (N := 6) hx hb hts (fun w h => List.mem_cons_of_mem _ (jnGA_X7 w h)) tyX7 tyX7_ok hown (hts _ (List.mem_cons_of_mem _ mGA_83)) (hts _ (List.mem_cons_of_mem _ mGA_91)) (hts _ (List.mem_cons_of_mem _ mGA_92)) hK hP hD hS hA rfl dfX7 (Nat.le_of_ble_eq_true rfl) (Nat.le_of_ble_eq_true rfl) dX0_init_71 (fun q_53 H hP hD hS => ?_)
  have hP : va_P (dC, dI) vwCl [(h0, .inr (0, [.int 0, .int 0, .int 0, .int 0, .int 0, .int 0, .int 0, .int 0, .int 0, .int 0, .ref q_1, .ref q_3, .ref q_5])), (q_1, .inl (k_2, 6, .inr (.inr (.inr (.inr f_30))))), (q_3, .inl (k_4, 24, .inr (.inr (.inr (.inr f_51))))), (q_5, .inl (k_6, 8, .inr (.inr (.inr (.inr (fun _ => none)))))), (q_53, .inr (7, [.int 0, .int 0, .int 0, .int 0, .int 0, .int 0]))] H := hP
  have hD : va_D A [(h0, .inr (0, [.int 0, .int 0, .int 0, .int 0, .int 0, .int 0, .int 0, .int 0, .int 0, .int 0, .ref q_1, .ref q_3, .ref q_5])), (q_1, .inl (k_2, 6, .inr (.inr (.inr (.inr f_30))))), (q_3, .inl (k_4, 24, .inr (.inr (.inr (.inr f_51))))), (q_5, .inl (k_6, 8, .inr (.inr (.inr (.inr (fun _ => none)))))), (q_53, .inr (7, [.int 0, .int 0, .int 0, .int 0, .int 0, .int 0]))] := hD
  refine W.widen (k := 15) (n := 86) (Nat.le_of_ble_eq_true rfl) (Nat.le_of_ble_eq_true rfl) ?_
  refine lv_dup hx hb dX0_init_74 rfl ?_
  have hPc := hP.sub (ws' := []) [] rfl
  have hKc := hK.sub (tys' := []) [] rfl
  refine va_callv (va_runIN (As := []) (rest := [.ref q_53, .int 5, .ref q_3]) ⟨hx, hb, hml, hown, hts⟩ (fX7_init l dC dI q_53) (⟨va_cnB 0 hts (gz_gP mGA_93 goodGA) rfl rfl rfl (nzA_X0_30 hz) (hts _ (List.mem_cons_of_mem _ mGA_92)) (by decide +kernel) ⟨Nat.le_of_ble_eq_true rfl, Nat.le_of_ble_eq_true rfl⟩, rfl, (hts _ (List.mem_cons_of_mem _ mGA_94))⟩) ⟨fun a U g mk q => by obtain ⟨q0, qP, qK⟩ := q; exact ⟨q0, qP, va_K.moved (u := U) (U := U.calling g mk a) (Vm.Alike.refl U.vm) qK⟩, fun U hU hW => ⟨rfl, by rw [hU]; exact hPc, va_K.moved hW.alike hKc⟩⟩ rfl rfl hl.1 rfl (lv_room (Nat.le_of_ble_eq_true rfl)) dX0_init_75 ⟨Nat.le_of_ble_eq_true rfl, Nat.le_of_ble_eq_true rfl⟩) hS (fun q _ h => h.elim) (fun q h => h.elim) (fun  u t H1 locs ht hvm hw hB hz1 hk1 hS => ?_)
  have hP := gz_keep hP hk1
  generalize H1 = H at hP hS ⊢
  refine va_astq hx hb hK hP hD hS 2 1 4 7 rfl rfl rfl rfl (by unfold vp_in; decide) dX0_init_78 (fun H locs hP hD hS => ?_)
  have hP : va_P (dC, dI) vwCl [(h0, .inr (0, [.int 0, .int 0, .int 0, .int 0, .int 0, .int 0, .int 0, .int 0, .int 0, .int 0, .ref q_1, .ref q_3, .ref q_5])), (q_1, .inl (k_2, 6, .inr (.inr (.inr (.inr f_30))))), (q_3, .inl (k_4, 24, .inr (.inr (.inr (.inr (va_up f_51 (5 : Int32).toNatClampNeg (some q_53))))))), (q_5, .inl (k_6, 8, .inr (.inr (.inr (.inr (fun _ => none)))))), (q_53, .inr (7, [.int 0, .int 0, .int 0, .int 0, .int 0, .int 0]))] H := hP
  have hD : va_D A [(h0, .inr (0, [.int 0, .int 0, .int 0, .int 0, .int 0, .int 0, .int 0, .int 0, .int 0, .int 0, .ref q_1, .ref q_3, .ref q_5])), (q_1, .inl (k_2, 6, .inr (.inr (.inr (.inr f_30))))), (q_3, .inl (k_4, 24, .inr (.inr (.inr (.inr (va_up f_51 (5 : Int32).toNatClampNeg (some q_53))))))), (q_5, .inl (k_6, 8, .inr (.inr (.inr (.inr (fun _ => none)))))), (q_53, .inr (7, [.int 0, .int 0, .int 0, .int 0, .int 0, .int 0]))] := hD
  generalize va_up f_51 (5 : Int32).toNatClampNeg (some q_53) = f_55 at hP hD
  have hP := hP.sub (ws' := [(h0, .inr (0, [.int 0, .int 0, .int 0, .int 0, .int 0, .int 0, .int 0, .int 0, .int 0, .int 0, .ref q_1, .ref q_3, .ref q_5])), (q_1, .inl (k_2, 6, .inr (.inr (.inr (.inr f_30))))), (q_3, .inl (k_4, 24, .inr (.inr (.inr (.inr f_55))))), (q_5, .inl (k_6, 8, .inr (.inr (.inr (.inr (fun _ => none))))))]) [0, 1, 2, 3] rfl
  have hD := hD.sub (ws' := [(h0, .inr (0, [.int 0, .int 0, .int 0, .int 0, .int 0, .int 0, .int 0, .int 0, .int 0, .int 0, .ref q_1, .ref q_3, .ref q_5])), (q_1, .inl (k_2, 6, .inr (.inr (.inr (.inr f_30))))), (q_3, .inl (k_4, 24, .inr (.inr (.inr (.inr f_55))))), (q_5, .inl (k_6, 8, .inr (.inr (.inr (.inr (fun _ => none))))))]) [0, 1, 2, 3] (by decide) rfl
  refine lv_iinc (v := 6) (lv' := [(1, .int 6), (0, .ref h0)]) hx hb dX0_init_79 hl (k := 0) rfl (by decide) (by decide) rfl (fun ls hl => ?_)
  refine lv_goto (tgt := 60) hx hb dX0_init_82 (by decide) ?_
  refine lv_iload_n hx hb dX0_init_60 rfl (lv_at hl 0 rfl) ?_
  refine lv_bipush (v := 24) hx hb dX0_init_61 (by decide) ?_
  refine lv_icmp_ge (tgt := 85) hx hb dX0_init_63 (by decide) (fun c_56 => absurd c_56 (by decide)) (fun c_56 => ?_)
  refine lv_aload_n hx hb dX0_init_66 rfl (lv_at hl 1 rfl) ?_
  refine va_get (D := (dC, dI)) (ci := 0) (v := .ref q_3) (C := RX0) (T := TX0) (N := 13) hx hb hts (fun w h => List.mem_cons_of_mem _ (jnGA_X0 w h)) hown hK hP 0 rfl rfl 11 (by decide) (hts _ (List.mem_cons_of_mem _ mGA_84)) (fun _ h9 => h9) rfl dX0_init_67 ?_
  refine lv_iload_n hx hb dX0_init_70 rfl (lv_at hl 0 rfl) ?_
  refine va_new (ci := 7) (fs := [.int 0, .int 0, .int 0, .int 0, .int 0, .int 0]) (C := RX7) (T := TX7) (N := 6) hx hb hts (fun w h => List.mem_cons_of_mem _ (jnGA_X7 w h)) tyX7 tyX7_ok hown (hts _ (List.mem_cons_of_mem _ mGA_83)) (hts _ (List.mem_cons_of_mem _ mGA_91)) (hts _ (List.mem_cons_of_mem _ mGA_92)) hK hP hD hS hA rfl dfX7 (Nat.le_of_ble_eq_true rfl) (Nat.le_of_ble_eq_true rfl) dX0_init_71 (fun q_57 H hP hD hS => ?_)
  have hP : va_P (dC, dI) vwCl [(h0, .inr (0, [.int 0, .int 0, .int 0, .int 0, .int 0, .int 0, .int 0, .int 0, .int 0, .int 0, .ref q_1, .ref q_3, .ref q_5])), (q_1, .inl (k_2, 6, .inr (.inr (.inr (.inr f_30))))), (q_3, .inl (k_4, 24, .inr (.inr (.inr (.inr f_55))))), (q_5, .inl (k_6, 8, .inr (.inr (.inr (.inr (fun _ => none)))))), (q_57, .inr (7, [.int 0, .int 0, .int 0, .int 0, .int 0, .int 0]))] H := hP
  have hD : va_D A [(h0, .inr (0, [.int 0, .int 0, .int 0, .int 0, .int 0, .int 0, .int 0, .int 0, .int 0, .int 0, .ref q_1, .ref q_3, .ref q_5])), (q_1, .inl (k_2, 6, .inr (.inr (.inr (.inr f_30))))), (q_3, .inl (k_4, 24, .inr (.inr (.inr (.inr f_55))))), (q_5, .inl (k_6, 8, .inr (.inr (.inr (.inr (fun _ => none)))))), (q_57, .inr (7, [.int 0, .int 0, .int 0, .int 0, .int 0, .int 0]))] := hD
  refine W.widen (k := 16) (n := 92) (Nat.le_of_ble_eq_true rfl) (Nat.le_of_ble_eq_true rfl) ?_
  refine lv_dup hx hb dX0_init_74 rfl ?_
  have hPc := hP.sub (ws' := []) [] rfl
  have hKc := hK.sub (tys' := []) [] rfl
  refine va_callv (va_runIN (As := []) (rest := [.ref q_57, .int 6, .ref q_3]) ⟨hx, hb, hml, hown, hts⟩ (fX7_init l dC dI q_57) (⟨va_cnB 0 hts (gz_gP mGA_93 goodGA) rfl rfl rfl (nzA_X0_30 hz) (hts _ (List.mem_cons_of_mem _ mGA_92)) (by decide +kernel) ⟨Nat.le_of_ble_eq_true rfl, Nat.le_of_ble_eq_true rfl⟩, rfl, (hts _ (List.mem_cons_of_mem _ mGA_94))⟩) ⟨fun a U g mk q => by obtain ⟨q0, qP, qK⟩ := q; exact ⟨q0, qP, va_K.moved (u := U) (U := U.calling g mk a) (Vm.Alike.refl U.vm) qK⟩, fun U hU hW => ⟨rfl, by rw [hU]; exact hPc, va_K.moved hW.alike hKc⟩⟩ rfl rfl hl.1 rfl (lv_room (Nat.le_of_ble_eq_true rfl)) dX0_init_75 ⟨Nat.le_of_ble_eq_true rfl, Nat.le_of_ble_eq_true rfl⟩) hS (fun q _ h => h.elim) (fun q h => h.elim) (fun  u t H1 locs ht hvm hw hB hz1 hk1 hS => ?_)
  have hP := gz_keep hP hk1
  generalize H1 = H at hP hS ⊢
  refine va_astq hx hb hK hP hD hS 2 1 4 7 rfl rfl rfl rfl (by unfold vp_in; decide) dX0_init_78 (fun H locs hP hD hS => ?_)
  have hP : va_P (dC, dI) vwCl [(h0, .inr (0, [.int 0, .int 0, .int 0, .int 0, .int 0, .int 0, .int 0, .int 0, .int 0, .int 0, .ref q_1, .ref q_3, .ref q_5])), (q_1, .inl (k_2, 6, .inr (.inr (.inr (.inr f_30))))), (q_3, .inl (k_4, 24, .inr (.inr (.inr (.inr (va_up f_55 (6 : Int32).toNatClampNeg (some q_57))))))), (q_5, .inl (k_6, 8, .inr (.inr (.inr (.inr (fun _ => none)))))), (q_57, .inr (7, [.int 0, .int 0, .int 0, .int 0, .int 0, .int 0]))] H := hP
  have hD : va_D A [(h0, .inr (0, [.int 0, .int 0, .int 0, .int 0, .int 0, .int 0, .int 0, .int 0, .int 0, .int 0, .ref q_1, .ref q_3, .ref q_5])), (q_1, .inl (k_2, 6, .inr (.inr (.inr (.inr f_30))))), (q_3, .inl (k_4, 24, .inr (.inr (.inr (.inr (va_up f_55 (6 : Int32).toNatClampNeg (some q_57))))))), (q_5, .inl (k_6, 8, .inr (.inr (.inr (.inr (fun _ => none)))))), (q_57, .inr (7, [.int 0, .int 0, .int 0, .int 0, .int 0, .int 0]))] := hD
  generalize va_up f_55 (6 : Int32).toNatClampNeg (some q_57) = f_59 at hP hD
  have hP := hP.sub (ws' := [(h0, .inr (0, [.int 0, .int 0, .int 0, .int 0, .int 0, .int 0, .int 0, .int 0, .int 0, .int 0, .ref q_1, .ref q_3, .ref q_5])), (q_1, .inl (k_2, 6, .inr (.inr (.inr (.inr f_30))))), (q_3, .inl (k_4, 24, .inr (.inr (.inr (.inr f_59))))), (q_5, .inl (k_6, 8, .inr (.inr (.inr (.inr (fun _ => none))))))]) [0, 1, 2, 3] rfl
  have hD := hD.sub (ws' := [(h0, .inr (0, [.int 0, .int 0, .int 0, .int 0, .int 0, .int 0, .int 0, .int 0, .int 0, .int 0, .ref q_1, .ref q_3, .ref q_5])), (q_1, .inl (k_2, 6, .inr (.inr (.inr (.inr f_30))))), (q_3, .inl (k_4, 24, .inr (.inr (.inr (.inr f_59))))), (q_5, .inl (k_6, 8, .inr (.inr (.inr (.inr (fun _ => none))))))]) [0, 1, 2, 3] (by decide) rfl
  refine lv_iinc (v := 7) (lv' := [(1, .int 7), (0, .ref h0)]) hx hb dX0_init_79 hl (k := 0) rfl (by decide) (by decide) rfl (fun ls hl => ?_)
  refine lv_goto (tgt := 60) hx hb dX0_init_82 (by decide) ?_
  refine lv_iload_n hx hb dX0_init_60 rfl (lv_at hl 0 rfl) ?_
  refine lv_bipush (v := 24) hx hb dX0_init_61 (by decide) ?_
  refine lv_icmp_ge (tgt := 85) hx hb dX0_init_63 (by decide) (fun c_60 => absurd c_60 (by decide)) (fun c_60 => ?_)
  refine lv_aload_n hx hb dX0_init_66 rfl (lv_at hl 1 rfl) ?_
  refine va_get (D := (dC, dI)) (ci := 0) (v := .ref q_3) (C := RX0) (T := TX0) (N := 13) hx hb hts (fun w h => List.mem_cons_of_mem _ (jnGA_X0 w h)) hown hK hP 0 rfl rfl 11 (by decide) (hts _ (List.mem_cons_of_mem _ mGA_84)) (fun _ h9 => h9) rfl dX0_init_67 ?_
  refine lv_iload_n hx hb dX0_init_70 rfl (lv_at hl 0 rfl) ?_
  refine va_new (ci := 7) (fs := [.int 0, .int 0, .int 0, .int 0, .int 0, .int 0]) (C := RX7) (T := TX7) (N := 6) hx hb hts (fun w h => List.mem_cons_of_mem _ (jnGA_X7 w h)) tyX7 tyX7_ok hown (hts _ (List.mem_cons_of_mem _ mGA_83)) (hts _ (List.mem_cons_of_mem _ mGA_91)) (hts _ (List.mem_cons_of_mem _ mGA_92)) hK hP hD hS hA rfl dfX7 (Nat.le_of_ble_eq_true rfl) (Nat.le_of_ble_eq_true rfl) dX0_init_71 (fun q_61 H hP hD hS => ?_)
  have hP : va_P (dC, dI) vwCl [(h0, .inr (0, [.int 0, .int 0, .int 0, .int 0, .int 0, .int 0, .int 0, .int 0, .int 0, .int 0, .ref q_1, .ref q_3, .ref q_5])), (q_1, .inl (k_2, 6, .inr (.inr (.inr (.inr f_30))))), (q_3, .inl (k_4, 24, .inr (.inr (.inr (.inr f_59))))), (q_5, .inl (k_6, 8, .inr (.inr (.inr (.inr (fun _ => none)))))), (q_61, .inr (7, [.int 0, .int 0, .int 0, .int 0, .int 0, .int 0]))] H := hP
  have hD : va_D A [(h0, .inr (0, [.int 0, .int 0, .int 0, .int 0, .int 0, .int 0, .int 0, .int 0, .int 0, .int 0, .ref q_1, .ref q_3, .ref q_5])), (q_1, .inl (k_2, 6, .inr (.inr (.inr (.inr f_30))))), (q_3, .inl (k_4, 24, .inr (.inr (.inr (.inr f_59))))), (q_5, .inl (k_6, 8, .inr (.inr (.inr (.inr (fun _ => none)))))), (q_61, .inr (7, [.int 0, .int 0, .int 0, .int 0, .int 0, .int 0]))] := hD
  refine W.widen (k := 17) (n := 98) (Nat.le_of_ble_eq_true rfl) (Nat.le_of_ble_eq_true rfl) ?_
  refine lv_dup hx hb dX0_init_74 rfl ?_
  have hPc := hP.sub (ws' := []) [] rfl
  have hKc := hK.sub (tys' := []) [] rfl
  refine va_callv (va_runIN (As := []) (rest := [.ref q_61, .int 7, .ref q_3]) ⟨hx, hb, hml, hown, hts⟩ (fX7_init l dC dI q_61) (⟨va_cnB 0 hts (gz_gP mGA_93 goodGA) rfl rfl rfl (nzA_X0_30 hz) (hts _ (List.mem_cons_of_mem _ mGA_92)) (by decide +kernel) ⟨Nat.le_of_ble_eq_true rfl, Nat.le_of_ble_eq_true rfl⟩, rfl, (hts _ (List.mem_cons_of_mem _ mGA_94))⟩) ⟨fun a U g mk q => by obtain ⟨q0, qP, qK⟩ := q; exact ⟨q0, qP, va_K.moved (u := U) (U := U.calling g mk a) (Vm.Alike.refl U.vm) qK⟩, fun U hU hW => ⟨rfl, by rw [hU]; exact hPc, va_K.moved hW.alike hKc⟩⟩ rfl rfl hl.1 rfl (lv_room (Nat.le_of_ble_eq_true rfl)) dX0_init_75 ⟨Nat.le_of_ble_eq_true rfl, Nat.le_of_ble_eq_true rfl⟩) hS (fun q _ h => h.elim) (fun q h => h.elim) (fun  u t H1 locs ht hvm hw hB hz1 hk1 hS => ?_)
  have hP := gz_keep hP hk1
  generalize H1 = H at hP hS ⊢
  refine va_astq hx hb hK hP hD hS 2 1 4 7 rfl rfl rfl rfl (by unfold vp_in; decide) dX0_init_78 (fun H locs hP hD hS => ?_)
  have hP : va_P (dC, dI) vwCl [(h0, .inr (0, [.int 0, .int 0, .int 0, .int 0, .int 0, .int 0, .int 0, .int 0, .int 0, .int 0, .ref q_1, .ref q_3, .ref q_5])), (q_1, .inl (k_2, 6, .inr (.inr (.inr (.inr f_30))))), (q_3, .inl (k_4, 24, .inr (.inr (.inr (.inr (va_up f_59 (7 : Int32).toNatClampNeg (some q_61))))))), (q_5, .inl (k_6, 8, .inr (.inr (.inr (.inr (fun _ => none)))))), (q_61, .inr (7, [.int 0, .int 0, .int 0, .int 0, .int 0, .int 0]))] H := hP
  have hD : va_D A [(h0, .inr (0, [.int 0, .int 0, .int 0, .int 0, .int 0, .int 0, .int 0, .int 0, .int 0, .int 0, .ref q_1, .ref q_3, .ref q_5])), (q_1, .inl (k_2, 6, .inr (.inr (.inr (.inr f_30))))), (q_3, .inl (k_4, 24, .inr (.inr (.inr (.inr (va_up f_59 (7 : Int32).toNatClampNeg (some q_61))))))), (q_5, .inl (k_6, 8, .inr (.inr (.inr (.inr (fun _ => none)))))), (q_61, .inr (7, [.int 0, .int 0, .int 0, .int 0, .int 0, .int 0]))] := hD
  generalize va_up f_59 (7 : Int32).toNatClampNeg (some q_61) = f_63 at hP hD
  have hP := hP.sub (ws' := [(h0, .inr (0, [.int 0, .int 0, .int 0, .int 0, .int 0, .int 0, .int 0, .int 0, .int 0, .int 0, .ref q_1, .ref q_3, .ref q_5])), (q_1, .inl (k_2, 6, .inr (.inr (.inr (.inr f_30))))), (q_3, .inl (k_4, 24, .inr (.inr (.inr (.inr f_63))))), (q_5, .inl (k_6, 8, .inr (.inr (.inr (.inr (fun _ => none))))))]) [0, 1, 2, 3] rfl
  have hD := hD.sub (ws' := [(h0, .inr (0, [.int 0, .int 0, .int 0, .int 0, .int 0, .int 0, .int 0, .int 0, .int 0, .int 0, .ref q_1, .ref q_3, .ref q_5])), (q_1, .inl (k_2, 6, .inr (.inr (.inr (.inr f_30))))), (q_3, .inl (k_4, 24, .inr (.inr (.inr (.inr f_63))))), (q_5, .inl (k_6, 8, .inr (.inr (.inr (.inr (fun _ => none))))))]) [0, 1, 2, 3] (by decide) rfl
  refine lv_iinc (v := 8) (lv' := [(1, .int 8), (0, .ref h0)]) hx hb dX0_init_79 hl (k := 0) rfl (by decide) (by decide) rfl (fun ls hl => ?_)
  refine lv_goto (tgt := 60) hx hb dX0_init_82 (by decide) ?_
  refine lv_iload_n hx hb dX0_init_60 rfl (lv_at hl 0 rfl) ?_
  refine lv_bipush (v := 24) hx hb dX0_init_61 (by decide) ?_
  refine lv_icmp_ge (tgt := 85) hx hb dX0_init_63 (by decide) (fun c_64 => absurd c_64 (by decide)) (fun c_64 => ?_)
  refine lv_aload_n hx hb dX0_init_66 rfl (lv_at hl 1 rfl) ?_
  refine va_get (D := (dC, dI)) (ci := 0) (v := .ref q_3) (C := RX0) (T := TX0) (N := 13) hx hb hts (fun w h => List.mem_cons_of_mem _ (jnGA_X0 w h)) hown hK hP 0 rfl rfl 11 (by decide) (hts _ (List.mem_cons_of_mem _ mGA_84)) (fun _ h9 => h9) rfl dX0_init_67 ?_
  refine lv_iload_n hx hb dX0_init_70 rfl (lv_at hl 0 rfl) ?_
  refine va_new (ci := 7) (fs := [.int 0, .int 0, .int 0, .int 0, .int 0, .int 0]) (C := RX7) (T := TX7) (N := 6) hx hb hts (fun w h => List.mem_cons_of_mem _ (jnGA_X7 w h)) tyX7 tyX7_ok hown (hts _ (List.mem_cons_of_mem _ mGA_83)) (hts _ (List.mem_cons_of_mem _ mGA_91)) (hts _ (List.mem_cons_of_mem _ mGA_92)) hK hP hD hS hA rfl dfX7 (Nat.le_of_ble_eq_true rfl) (Nat.le_of_ble_eq_true rfl) dX0_init_71 (fun q_65 H hP hD hS => ?_)
  have hP : va_P (dC, dI) vwCl [(h0, .inr (0, [.int 0, .int 0, .int 0, .int 0, .int 0, .int 0, .int 0, .int 0, .int 0, .int 0, .ref q_1, .ref q_3, .ref q_5])), (q_1, .inl (k_2, 6, .inr (.inr (.inr (.inr f_30))))), (q_3, .inl (k_4, 24, .inr (.inr (.inr (.inr f_63))))), (q_5, .inl (k_6, 8, .inr (.inr (.inr (.inr (fun _ => none)))))), (q_65, .inr (7, [.int 0, .int 0, .int 0, .int 0, .int 0, .int 0]))] H := hP
  have hD : va_D A [(h0, .inr (0, [.int 0, .int 0, .int 0, .int 0, .int 0, .int 0, .int 0, .int 0, .int 0, .int 0, .ref q_1, .ref q_3, .ref q_5])), (q_1, .inl (k_2, 6, .inr (.inr (.inr (.inr f_30))))), (q_3, .inl (k_4, 24, .inr (.inr (.inr (.inr f_63))))), (q_5, .inl (k_6, 8, .inr (.inr (.inr (.inr (fun _ => none)))))), (q_65, .inr (7, [.int 0, .int 0, .int 0, .int 0, .int 0, .int 0]))] := hD
  refine W.widen (k := 18) (n := 104) (Nat.le_of_ble_eq_true rfl) (Nat.le_of_ble_eq_true rfl) ?_
  refine lv_dup hx hb dX0_init_74 rfl ?_
  have hPc := hP.sub (ws' := []) [] rfl
  have hKc := hK.sub (tys' := []) [] rfl
  refine va_callv (va_runIN (As := []) (rest := [.ref q_65, .int 8, .ref q_3]) ⟨hx, hb, hml, hown, hts⟩ (fX7_init l dC dI q_65) (⟨va_cnB 0 hts (gz_gP mGA_93 goodGA) rfl rfl rfl (nzA_X0_30 hz) (hts _ (List.mem_cons_of_mem _ mGA_92)) (by decide +kernel) ⟨Nat.le_of_ble_eq_true rfl, Nat.le_of_ble_eq_true rfl⟩, rfl, (hts _ (List.mem_cons_of_mem _ mGA_94))⟩) ⟨fun a U g mk q => by obtain ⟨q0, qP, qK⟩ := q; exact ⟨q0, qP, va_K.moved (u := U) (U := U.calling g mk a) (Vm.Alike.refl U.vm) qK⟩, fun U hU hW => ⟨rfl, by rw [hU]; exact hPc, va_K.moved hW.alike hKc⟩⟩ rfl rfl hl.1 rfl (lv_room (Nat.le_of_ble_eq_true rfl)) dX0_init_75 ⟨Nat.le_of_ble_eq_true rfl, Nat.le_of_ble_eq_true rfl⟩) hS (fun q _ h => h.elim) (fun q h => h.elim) (fun  u t H1 locs ht hvm hw hB hz1 hk1 hS => ?_)
  have hP := gz_keep hP hk1
  generalize H1 = H at hP hS ⊢
  refine va_astq hx hb hK hP hD hS 2 1 4 7 rfl rfl rfl rfl (by unfold vp_in; decide) dX0_init_78 (fun H locs hP hD hS => ?_)
  have hP : va_P (dC, dI) vwCl [(h0, .inr (0, [.int 0, .int 0, .int 0, .int 0, .int 0, .int 0, .int 0, .int 0, .int 0, .int 0, .ref q_1, .ref q_3, .ref q_5])), (q_1, .inl (k_2, 6, .inr (.inr (.inr (.inr f_30))))), (q_3, .inl (k_4, 24, .inr (.inr (.inr (.inr (va_up f_63 (8 : Int32).toNatClampNeg (some q_65))))))), (q_5, .inl (k_6, 8, .inr (.inr (.inr (.inr (fun _ => none)))))), (q_65, .inr (7, [.int 0, .int 0, .int 0, .int 0, .int 0, .int 0]))] H := hP
  have hD : va_D A [(h0, .inr (0, [.int 0, .int 0, .int 0, .int 0, .int 0, .int 0, .int 0, .int 0, .int 0, .int 0, .ref q_1, .ref q_3, .ref q_5])), (q_1, .inl (k_2, 6, .inr (.inr (.inr (.inr f_30))))), (q_3, .inl (k_4, 24, .inr (.inr (.inr (.inr (va_up f_63 (8 : Int32).toNatClampNeg (some q_65))))))), (q_5, .inl (k_6, 8, .inr (.inr (.inr (.inr (fun _ => none)))))), (q_65, .inr (7, [.int 0, .int 0, .int 0, .int 0, .int 0, .int 0]))] := hD
  generalize va_up f_63 (8 : Int32).toNatClampNeg (some q_65) = f_67 at hP hD
  have hP := hP.sub (ws' := [(h0, .inr (0, [.int 0, .int 0, .int 0, .int 0, .int 0, .int 0, .int 0, .int 0, .int 0, .int 0, .ref q_1, .ref q_3, .ref q_5])), (q_1, .inl (k_2, 6, .inr (.inr (.inr (.inr f_30))))), (q_3, .inl (k_4, 24, .inr (.inr (.inr (.inr f_67))))), (q_5, .inl (k_6, 8, .inr (.inr (.inr (.inr (fun _ => none))))))]) [0, 1, 2, 3] rfl
  have hD := hD.sub (ws' := [(h0, .inr (0, [.int 0, .int 0, .int 0, .int 0, .int 0, .int 0, .int 0, .int 0, .int 0, .int 0, .ref q_1, .ref q_3, .ref q_5])), (q_1, .inl (k_2, 6, .inr (.inr (.inr (.inr f_30))))), (q_3, .inl (k_4, 24, .inr (.inr (.inr (.inr f_67))))), (q_5, .inl (k_6, 8, .inr (.inr (.inr (.inr (fun _ => none))))))]) [0, 1, 2, 3] (by decide) rfl
  refine lv_iinc (v := 9) (lv' := [(1, .int 9), (0, .ref h0)]) hx hb dX0_init_79 hl (k := 0) rfl (by decide) (by decide) rfl (fun ls hl => ?_)
  refine lv_goto (tgt := 60) hx hb dX0_init_82 (by decide) ?_
  refine lv_iload_n hx hb dX0_init_60 rfl (lv_at hl 0 rfl) ?_
  refine lv_bipush (v := 24) hx hb dX0_init_61 (by decide) ?_
  refine lv_icmp_ge (tgt := 85) hx hb dX0_init_63 (by decide) (fun c_68 => absurd c_68 (by decide)) (fun c_68 => ?_)
  refine lv_aload_n hx hb dX0_init_66 rfl (lv_at hl 1 rfl) ?_
  refine va_get (D := (dC, dI)) (ci := 0) (v := .ref q_3) (C := RX0) (T := TX0) (N := 13) hx hb hts (fun w h => List.mem_cons_of_mem _ (jnGA_X0 w h)) hown hK hP 0 rfl rfl 11 (by decide) (hts _ (List.mem_cons_of_mem _ mGA_84)) (fun _ h9 => h9) rfl dX0_init_67 ?_
  refine lv_iload_n hx hb dX0_init_70 rfl (lv_at hl 0 rfl) ?_
  refine va_new (ci := 7) (fs := [.int 0, .int 0, .int 0, .int 0, .int 0, .int 0]) (C := RX7) (T := TX7) (N := 6) hx hb hts (fun w h => List.mem_cons_of_mem _ (jnGA_X7 w h)) tyX7 tyX7_ok hown (hts _ (List.mem_cons_of_mem _ mGA_83)) (hts _ (List.mem_cons_of_mem _ mGA_91)) (hts _ (List.mem_cons_of_mem _ mGA_92)) hK hP hD hS hA rfl dfX7 (Nat.le_of_ble_eq_true rfl) (Nat.le_of_ble_eq_true rfl) dX0_init_71 (fun q_69 H hP hD hS => ?_)
  have hP : va_P (dC, dI) vwCl [(h0, .inr (0, [.int 0, .int 0, .int 0, .int 0, .int 0, .int 0, .int 0, .int 0, .int 0, .int 0, .ref q_1, .ref q_3, .ref q_5])), (q_1, .inl (k_2, 6, .inr (.inr (.inr (.inr f_30))))), (q_3, .inl (k_4, 24, .inr (.inr (.inr (.inr f_67))))), (q_5, .inl (k_6, 8, .inr (.inr (.inr (.inr (fun _ => none)))))), (q_69, .inr (7, [.int 0, .int 0, .int 0, .int 0, .int 0, .int 0]))] H := hP
  have hD : va_D A [(h0, .inr (0, [.int 0, .int 0, .int 0, .int 0, .int 0, .int 0, .int 0, .int 0, .int 0, .int 0, .ref q_1, .ref q_3, .ref q_5])), (q_1, .inl (k_2, 6, .inr (.inr (.inr (.inr f_30))))), (q_3, .inl (k_4, 24, .inr (.inr (.inr (.inr f_67))))), (q_5, .inl (k_6, 8, .inr (.inr (.inr (.inr (fun _ => none)))))), (q_69, .inr (7, [.int 0, .int 0, .int 0, .int 0, .int 0, .int 0]))] := hD
  refine W.widen (k := 19) (n := 110) (Nat.le_of_ble_eq_true rfl) (Nat.le_of_ble_eq_true rfl) ?_
  refine lv_dup hx hb dX0_init_74 rfl ?_
  have hPc := hP.sub (ws' := []) [] rfl
  have hKc := hK.sub (tys' := []) [] rfl
  refine va_callv (va_runIN (As := []) (rest := [.ref q_69, .int 9, .ref q_3]) ⟨hx, hb, hml, hown, hts⟩ (fX7_init l dC dI q_69) (⟨va_cnB 0 hts (gz_gP mGA_93 goodGA) rfl rfl rfl (nzA_X0_30 hz) (hts _ (List.mem_cons_of_mem _ mGA_92)) (by decide +kernel) ⟨Nat.le_of_ble_eq_true rfl, Nat.le_of_ble_eq_true rfl⟩, rfl, (hts _ (List.mem_cons_of_mem _ mGA_94))⟩) ⟨fun a U g mk q => by obtain ⟨q0, qP, qK⟩ := q; exact ⟨q0, qP, va_K.moved (u := U) (U := U.calling g mk a) (Vm.Alike.refl U.vm) qK⟩, fun U hU hW => ⟨rfl, by rw [hU]; exact hPc, va_K.moved hW.alike hKc⟩⟩ rfl rfl hl.1 rfl (lv_room (Nat.le_of_ble_eq_true rfl)) dX0_init_75 ⟨Nat.le_of_ble_eq_true rfl, Nat.le_of_ble_eq_true rfl⟩) hS (fun q _ h => h.elim) (fun q h => h.elim) (fun  u t H1 locs ht hvm hw hB hz1 hk1 hS => ?_)
  have hP := gz_keep hP hk1
  generalize H1 = H at hP hS ⊢
  refine va_astq hx hb hK hP hD hS 2 1 4 7 rfl rfl rfl rfl (by unfold vp_in; decide) dX0_init_78 (fun H locs hP hD hS => ?_)
  have hP : va_P (dC, dI) vwCl [(h0, .inr (0, [.int 0, .int 0, .int 0, .int 0, .int 0, .int 0, .int 0, .int 0, .int 0, .int 0, .ref q_1, .ref q_3, .ref q_5])), (q_1, .inl (k_2, 6, .inr (.inr (.inr (.inr f_30))))), (q_3, .inl (k_4, 24, .inr (.inr (.inr (.inr (va_up f_67 (9 : Int32).toNatClampNeg (some q_69))))))), (q_5, .inl (k_6, 8, .inr (.inr (.inr (.inr (fun _ => none)))))), (q_69, .inr (7, [.int 0, .int 0, .int 0, .int 0, .int 0, .int 0]))] H := hP
  have hD : va_D A [(h0, .inr (0, [.int 0, .int 0, .int 0, .int 0, .int 0, .int 0, .int 0, .int 0, .int 0, .int 0, .ref q_1, .ref q_3, .ref q_5])), (q_1, .inl (k_2, 6, .inr (.inr (.inr (.inr f_30))))), (q_3, .inl (k_4, 24, .inr (.inr (.inr (.inr (va_up f_67 (9 : Int32).toNatClampNeg (some q_69))))))), (q_5, .inl (k_6, 8, .inr (.inr (.inr (.inr (fun _ => none)))))), (q_69, .inr (7, [.int 0, .int 0, .int 0, .int 0, .int 0, .int 0]))] := hD
  generalize va_up f_67 (9 : Int32).toNatClampNeg (some q_69) = f_71 at hP hD
  have hP := hP.sub (ws' := [(h0, .inr (0, [.int 0, .int 0, .int 0, .int 0, .int 0, .int 0, .int 0, .int 0, .int 0, .int 0, .ref q_1, .ref q_3, .ref q_5])), (q_1, .inl (k_2, 6, .inr (.inr (.inr (.inr f_30))))), (q_3, .inl (k_4, 24, .inr (.inr (.inr (.inr f_71))))), (q_5, .inl (k_6, 8, .inr (.inr (.inr (.inr (fun _ => none))))))]) [0, 1, 2, 3] rfl
  have hD := hD.sub (ws' := [(h0, .inr (0, [.int 0, .int 0, .int 0, .int 0, .int 0, .int 0, .int 0, .int 0, .int 0, .int 0, .ref q_1, .ref q_3, .ref q_5])), (q_1, .inl (k_2, 6, .inr (.inr (.inr (.inr f_30))))), (q_3, .inl (k_4, 24, .inr (.inr (.inr (.inr f_71))))), (q_5, .inl (k_6, 8, .inr (.inr (.inr (.inr (fun _ => none))))))]) [0, 1, 2, 3] (by decide) rfl
  refine lv_iinc (v := 10) (lv' := [(1, .int 10), (0, .ref h0)]) hx hb dX0_init_79 hl (k := 0) rfl (by decide) (by decide) rfl (fun ls hl => ?_)
  refine lv_goto (tgt := 60) hx hb dX0_init_82 (by decide) ?_
  refine lv_iload_n hx hb dX0_init_60 rfl (lv_at hl 0 rfl) ?_
  refine lv_bipush (v := 24) hx hb dX0_init_61 (by decide) ?_
  refine lv_icmp_ge (tgt := 85) hx hb dX0_init_63 (by decide) (fun c_72 => absurd c_72 (by decide)) (fun c_72 => ?_)
  refine lv_aload_n hx hb dX0_init_66 rfl (lv_at hl 1 rfl) ?_
  refine va_get (D := (dC, dI)) (ci := 0) (v := .ref q_3) (C := RX0) (T := TX0) (N := 13) hx hb hts (fun w h => List.mem_cons_of_mem _ (jnGA_X0 w h)) hown hK hP 0 rfl rfl 11 (by decide) (hts _ (List.mem_cons_of_mem _ mGA_84)) (fun _ h9 => h9) rfl dX0_init_67 ?_
  refine lv_iload_n hx hb dX0_init_70 rfl (lv_at hl 0 rfl) ?_
  refine va_new (ci := 7) (fs := [.int 0, .int 0, .int 0, .int 0, .int 0, .int 0]) (C := RX7) (T := TX7) (N := 6) hx hb hts (fun w h => List.mem_cons_of_mem _ (jnGA_X7 w h)) tyX7 tyX7_ok hown (hts _ (List.mem_cons_of_mem _ mGA_83)) (hts _ (List.mem_cons_of_mem _ mGA_91)) (hts _ (List.mem_cons_of_mem _ mGA_92)) hK hP hD hS hA rfl dfX7 (Nat.le_of_ble_eq_true rfl) (Nat.le_of_ble_eq_true rfl) dX0_init_71 (fun q_73 H hP hD hS => ?_)
  have hP : va_P (dC, dI) vwCl [(h0, .inr (0, [.int 0, .int 0, .int 0, .int 0, .int 0, .int 0, .int 0, .int 0, .int 0, .int 0, .ref q_1, .ref q_3, .ref q_5])), (q_1, .inl (k_2, 6, .inr (.inr (.inr (.inr f_30))))), (q_3, .inl (k_4, 24, .inr (.inr (.inr (.inr f_71))))), (q_5, .inl (k_6, 8, .inr (.inr (.inr (.inr (fun _ => none)))))), (q_73, .inr (7, [.int 0, .int 0, .int 0, .int 0, .int 0, .int 0]))] H := hP
  have hD : va_D A [(h0, .inr (0, [.int 0, .int 0, .int 0, .int 0, .int 0, .int 0, .int 0, .int 0, .int 0, .int 0, .ref q_1, .ref q_3, .ref q_5])), (q_1, .inl (k_2, 6, .inr (.inr (.inr (.inr f_30))))), (q_3, .inl (k_4, 24, .inr (.inr (.inr (.inr f_71))))), (q_5, .inl (k_6, 8, .inr (.inr (.inr (.inr (fun _ => none)))))), (q_73, .inr (7, [.int 0, .int 0, .int 0, .int 0, .int 0, .int 0]))] := hD
  refine W.widen (k := 20) (n := 116) (Nat.le_of_ble_eq_true rfl) (Nat.le_of_ble_eq_true rfl) ?_
  refine lv_dup hx hb dX0_init_74 rfl ?_
  have hPc := hP.sub (ws' := []) [] rfl
  have hKc := hK.sub (tys' := []) [] rfl
  refine va_callv (va_runIN (As := []) (rest := [.ref q_73, .int 10, .ref q_3]) ⟨hx, hb, hml, hown, hts⟩ (fX7_init l dC dI q_73) (⟨va_cnB 0 hts (gz_gP mGA_93 goodGA) rfl rfl rfl (nzA_X0_30 hz) (hts _ (List.mem_cons_of_mem _ mGA_92)) (by decide +kernel) ⟨Nat.le_of_ble_eq_true rfl, Nat.le_of_ble_eq_true rfl⟩, rfl, (hts _ (List.mem_cons_of_mem _ mGA_94))⟩) ⟨fun a U g mk q => by obtain ⟨q0, qP, qK⟩ := q; exact ⟨q0, qP, va_K.moved (u := U) (U := U.calling g mk a) (Vm.Alike.refl U.vm) qK⟩, fun U hU hW => ⟨rfl, by rw [hU]; exact hPc, va_K.moved hW.alike hKc⟩⟩ rfl rfl hl.1 rfl (lv_room (Nat.le_of_ble_eq_true rfl)) dX0_init_75 ⟨Nat.le_of_ble_eq_true rfl, Nat.le_of_ble_eq_true rfl⟩) hS (fun q _ h => h.elim) (fun q h => h.elim) (fun  u t H1 locs ht hvm hw hB hz1 hk1 hS => ?_)
  have hP := gz_keep hP hk1
  generalize H1 = H at hP hS ⊢
  refine va_astq hx hb hK hP hD hS 2 1 4 7 rfl rfl rfl rfl (by unfold vp_in; decide) dX0_init_78 (fun H locs hP hD hS => ?_)
  have hP : va_P (dC, dI) vwCl [(h0, .inr (0, [.int 0, .int 0, .int 0, .int 0, .int 0, .int 0, .int 0, .int 0, .int 0, .int 0, .ref q_1, .ref q_3, .ref q_5])), (q_1, .inl (k_2, 6, .inr (.inr (.inr (.inr f_30))))), (q_3, .inl (k_4, 24, .inr (.inr (.inr (.inr (va_up f_71 (10 : Int32).toNatClampNeg (some q_73))))))), (q_5, .inl (k_6, 8, .inr (.inr (.inr (.inr (fun _ => none)))))), (q_73, .inr (7, [.int 0, .int 0, .int 0, .int 0, .int 0, .int 0]))] H := hP
  have hD : va_D A [(h0, .inr (0, [.int 0, .int 0, .int 0, .int 0, .int 0, .int 0, .int 0, .int 0, .int 0, .int 0, .ref q_1, .ref q_3, .ref q_5])), (q_1, .inl (k_2, 6, .inr (.inr (.inr (.inr f_30))))), (q_3, .inl (k_4, 24, .inr (.inr (.inr (.inr (va_up f_71 (10 : Int32).toNatClampNeg (some q_73))))))), (q_5, .inl (k_6, 8, .inr (.inr (.inr (.inr (fun _ => none)))))), (q_73, .inr (7, [.int 0, .int 0, .int 0, .int 0, .int 0, .int 0]))] := hD
  generalize va_up f_71 (10 : Int32).toNatClampNeg (some q_73) = f_75 at hP hD
  have hP := hP.sub (ws' := [(h0, .inr (0, [.int 0, .int 0, .int 0, .int 0, .int 0, .int 0, .int 0, .int 0, .int 0, .int 0, .ref q_1, .ref q_3, .ref q_5])), (q_1, .inl (k_2, 6, .inr (.inr (.inr (.inr f_30))))), (q_3, .inl (k_4, 24, .inr (.inr (.inr (.inr f_75))))), (q_5, .inl (k_6, 8, .inr (.inr (.inr (.inr (fun _ => none))))))]) [0, 1, 2, 3] rfl
  have hD := hD.sub (ws' := [(h0, .inr (0, [.int 0, .int 0, .int 0, .int 0, .int 0, .int 0, .int 0, .int 0, .int 0, .int 0, .ref q_1, .ref q_3, .ref q_5])), (q_1, .inl (k_2, 6, .inr (.inr (.inr (.inr f_30))))), (q_3, .inl (k_4, 24, .inr (.inr (.inr (.inr f_75))))), (q_5, .inl (k_6, 8, .inr (.inr (.inr (.inr (fun _ => none))))))]) [0, 1, 2, 3] (by decide) rfl
  refine lv_iinc (v := 11) (lv' := [(1, .int 11), (0, .ref h0)]) hx hb dX0_init_79 hl (k := 0) rfl (by decide) (by decide) rfl (fun ls hl => ?_)
  refine lv_goto (tgt := 60) hx hb dX0_init_82 (by decide) ?_
  refine lv_iload_n hx hb dX0_init_60 rfl (lv_at hl 0 rfl) ?_
  refine lv_bipush (v := 24) hx hb dX0_init_61 (by decide) ?_
  refine lv_icmp_ge (tgt := 85) hx hb dX0_init_63 (by decide) (fun c_76 => absurd c_76 (by decide)) (fun c_76 => ?_)
  refine lv_aload_n hx hb dX0_init_66 rfl (lv_at hl 1 rfl) ?_
  refine va_get (D := (dC, dI)) (ci := 0) (v := .ref q_3) (C := RX0) (T := TX0) (N := 13) hx hb hts (fun w h => List.mem_cons_of_mem _ (jnGA_X0 w h)) hown hK hP 0 rfl rfl 11 (by decide) (hts _ (List.mem_cons_of_mem _ mGA_84)) (fun _ h9 => h9) rfl dX0_init_67 ?_
  refine lv_iload_n hx hb dX0_init_70 rfl (lv_at hl 0 rfl) ?_
  refine va_new (ci := 7) (fs := [.int 0, .int 0, .int 0, .int 0, .int 0, .int 0]) (C := RX7) (T := TX7) (N := 6) hx hb hts (fun w h => List.mem_cons_of_mem _ (jnGA_X7 w h)) tyX7 tyX7_ok hown (hts _ (List.mem_cons_of_mem _ mGA_83)) (hts _ (List.mem_cons_of_mem _ mGA_91)) (hts _ (List.mem_cons_of_mem _ mGA_92)) hK hP hD hS hA rfl dfX7 (Nat.le_of_ble_eq_true rfl) (Nat.le_of_ble_eq_true rfl) dX0_init_71 (fun q_77 H hP hD hS => ?_)
  have hP : va_P (dC, dI) vwCl [(h0, .inr (0, [.int 0, .int 0, .int 0, .int 0, .int 0, .int 0, .int 0, .int 0, .int 0, .int 0, .ref q_1, .ref q_3, .ref q_5])), (q_1, .inl (k_2, 6, .inr (.inr (.inr (.inr f_30))))), (q_3, .inl (k_4, 24, .inr (.inr (.inr (.inr f_75))))), (q_5, .inl (k_6, 8, .inr (.inr (.inr (.inr (fun _ => none)))))), (q_77, .inr (7, [.int 0, .int 0, .int 0, .int 0, .int 0, .int 0]))] H := hP
  have hD : va_D A [(h0, .inr (0, [.int 0, .int 0, .int 0, .int 0, .int 0, .int 0, .int 0, .int 0, .int 0, .int 0, .ref q_1, .ref q_3, .ref q_5])), (q_1, .inl (k_2, 6, .inr (.inr (.inr (.inr f_30))))), (q_3, .inl (k_4, 24, .inr (.inr (.inr (.inr f_75))))), (q_5, .inl (k_6, 8, .inr (.inr (.inr (.inr (fun _ => none)))))), (q_77, .inr (7, [.int 0, .int 0, .int 0, .int 0, .int 0, .int 0]))] := hD
  refine W.widen (k := 21) (n := 122) (Nat.le_of_ble_eq_true rfl) (Nat.le_of_ble_eq_true rfl) ?_
  refine lv_dup hx hb dX0_init_74 rfl ?_
  have hPc := hP.sub (ws' := []) [] rfl
  have hKc := hK.sub (tys' := []) [] rfl
  refine va_callv (va_runIN (As := []) (rest := [.ref q_77, .int 11, .ref q_3]) ⟨hx, hb, hml, hown, hts⟩ (fX7_init l dC dI q_77) (⟨va_cnB 0 hts (gz_gP mGA_93 goodGA) rfl rfl rfl (nzA_X0_30 hz) (hts _ (List.mem_cons_of_mem _ mGA_92)) (by decide +kernel) ⟨Nat.le_of_ble_eq_true rfl, Nat.le_of_ble_eq_true rfl⟩, rfl, (hts _ (List.mem_cons_of_mem _ mGA_94))⟩) ⟨fun a U g mk q => by obtain ⟨q0, qP, qK⟩ := q; exact ⟨q0, qP, va_K.moved (u := U) (U := U.calling g mk a) (Vm.Alike.refl U.vm) qK⟩, fun U hU hW => ⟨rfl, by rw [hU]; exact hPc, va_K.moved hW.alike hKc⟩⟩ rfl rfl hl.1 rfl (lv_room (Nat.le_of_ble_eq_true rfl)) dX0_init_75 ⟨Nat.le_of_ble_eq_true rfl, Nat.le_of_ble_eq_true rfl⟩) hS (fun q _ h => h.elim) (fun q h => h.elim) (fun  u t H1 locs ht hvm hw hB hz1 hk1 hS => ?_)
  have hP := gz_keep hP hk1
  generalize H1 = H at hP hS ⊢
  refine va_astq hx hb hK hP hD hS 2 1 4 7 rfl rfl rfl rfl (by unfold vp_in; decide) dX0_init_78 (fun H locs hP hD hS => ?_)
  have hP : va_P (dC, dI) vwCl [(h0, .inr (0, [.int 0, .int 0, .int 0, .int 0, .int 0, .int 0, .int 0, .int 0, .int 0, .int 0, .ref q_1, .ref q_3, .ref q_5])), (q_1, .inl (k_2, 6, .inr (.inr (.inr (.inr f_30))))), (q_3, .inl (k_4, 24, .inr (.inr (.inr (.inr (va_up f_75 (11 : Int32).toNatClampNeg (some q_77))))))), (q_5, .inl (k_6, 8, .inr (.inr (.inr (.inr (fun _ => none)))))), (q_77, .inr (7, [.int 0, .int 0, .int 0, .int 0, .int 0, .int 0]))] H := hP
  have hD : va_D A [(h0, .inr (0, [.int 0, .int 0, .int 0, .int 0, .int 0, .int 0, .int 0, .int 0, .int 0, .int 0, .ref q_1, .ref q_3, .ref q_5])), (q_1, .inl (k_2, 6, .inr (.inr (.inr (.inr f_30))))), (q_3, .inl (k_4, 24, .inr (.inr (.inr (.inr (va_up f_75 (11 : Int32).toNatClampNeg (some q_77))))))), (q_5, .inl (k_6, 8, .inr (.inr (.inr (.inr (fun _ => none)))))), (q_77, .inr (7, [.int 0, .int 0, .int 0, .int 0, .int 0, .int 0]))] := hD
  generalize va_up f_75 (11 : Int32).toNatClampNeg (some q_77) = f_79 at hP hD
  have hP := hP.sub (ws' := [(h0, .inr (0, [.int 0, .int 0, .int 0, .int 0, .int 0, .int 0, .int 0, .int 0, .int 0, .int 0, .ref q_1, .ref q_3, .ref q_5])), (q_1, .inl (k_2, 6, .inr (.inr (.inr (.inr f_30))))), (q_3, .inl (k_4, 24, .inr (.inr (.inr (.inr f_79))))), (q_5, .inl (k_6, 8, .inr (.inr (.inr (.inr (fun _ => none))))))]) [0, 1, 2, 3] rfl
  have hD := hD.sub (ws' := [(h0, .inr (0, [.int 0, .int 0, .int 0, .int 0, .int 0, .int 0, .int 0, .int 0, .int 0, .int 0, .ref q_1, .ref q_3, .ref q_5])), (q_1, .inl (k_2, 6, .inr (.inr (.inr (.inr f_30))))), (q_3, .inl (k_4, 24, .inr (.inr (.inr (.inr f_79))))), (q_5, .inl (k_6, 8, .inr (.inr (.inr (.inr (fun _ => none))))))]) [0, 1, 2, 3] (by decide) rfl
  refine lv_iinc (v := 12) (lv' := [(1, .int 12), (0, .ref h0)]) hx hb dX0_init_79 hl (k := 0) rfl (by decide) (by decide) rfl (fun ls hl => ?_)
  refine lv_goto (tgt := 60) hx hb dX0_init_82 (by decide) ?_
  refine lv_iload_n hx hb dX0_init_60 rfl (lv_at hl 0 rfl) ?_
  refine lv_bipush (v := 24) hx hb dX0_init_61 (by decide) ?_
  refine lv_icmp_ge (tgt := 85) hx hb dX0_init_63 (by decide) (fun c_80 => absurd c_80 (by decide)) (fun c_80 => ?_)
  refine lv_aload_n hx hb dX0_init_66 rfl (lv_at hl 1 rfl) ?_
  refine va_get (D := (dC, dI)) (ci := 0) (v := .ref q_3) (C := RX0) (T := TX0) (N := 13) hx hb hts (fun w h => List.mem_cons_of_mem _ (jnGA_X0 w h)) hown hK hP 0 rfl rfl 11 (by decide) (hts _ (List.mem_cons_of_mem _ mGA_84)) (fun _ h9 => h9) rfl dX0_init_67 ?_
  refine lv_iload_n hx hb dX0_init_70 rfl (lv_at hl 0 rfl) ?_
  refine va_new (ci := 7) (fs := [.int 0, .int 0, .int 0, .int 0, .int 0, .int 0]) (C := RX7) (T := TX7) (N := 6) hx hb hts (fun w h => List.mem_cons_of_mem _ (jnGA_X7 w h)) tyX7 tyX7_ok hown (hts _ (List.mem_cons_of_mem _ mGA_83)) (hts _ (List.mem_cons_of_mem _ mGA_91)) (hts _ (List.mem_cons_of_mem _ mGA_92)) hK hP hD hS hA rfl dfX7 (Nat.le_of_ble_eq_true rfl) (Nat.le_of_ble_eq_true rfl) dX0_init_71 (fun q_81 H hP hD hS => ?_)
  have hP : va_P (dC, dI) vwCl [(h0, .inr (0, [.int 0, .int 0, .int 0, .int 0, .int 0, .int 0, .int 0, .int 0, .int 0, .int 0, .ref q_1, .ref q_3, .ref q_5])), (q_1, .inl (k_2, 6, .inr (.inr (.inr (.inr f_30))))), (q_3, .inl (k_4, 24, .inr (.inr (.inr (.inr f_79))))), (q_5, .inl (k_6, 8, .inr (.inr (.inr (.inr (fun _ => none)))))), (q_81, .inr (7, [.int 0, .int 0, .int 0, .int 0, .int 0, .int 0]))] H := hP
  have hD : va_D A [(h0, .inr (0, [.int 0, .int 0, .int 0, .int 0, .int 0, .int 0, .int 0, .int 0, .int 0, .int 0, .ref q_1, .ref q_3, .ref q_5])), (q_1, .inl (k_2, 6, .inr (.inr (.inr (.inr f_30))))), (q_3, .inl (k_4, 24, .inr (.inr (.inr (.inr f_79))))), (q_5, .inl (k_6, 8, .inr (.inr (.inr (.inr (fun _ => none)))))), (q_81, .inr (7, [.int 0, .int 0, .int 0, .int 0, .int 0, .int 0]))] := hD
  refine W.widen (k := 22) (n := 128) (Nat.le_of_ble_eq_true rfl) (Nat.le_of_ble_eq_true rfl) ?_
  refine lv_dup hx hb dX0_init_74 rfl ?_
  have hPc := hP.sub (ws' := []) [] rfl
  have hKc := hK.sub (tys' := []) [] rfl
  refine va_callv (va_runIN (As := []) (rest := [.ref q_81, .int 12, .ref q_3]) ⟨hx, hb, hml, hown, hts⟩ (fX7_init l dC dI q_81) (⟨va_cnB 0 hts (gz_gP mGA_93 goodGA) rfl rfl rfl (nzA_X0_30 hz) (hts _ (List.mem_cons_of_mem _ mGA_92)) (by decide +kernel) ⟨Nat.le_of_ble_eq_true rfl, Nat.le_of_ble_eq_true rfl⟩, rfl, (hts _ (List.mem_cons_of_mem _ mGA_94))⟩) ⟨fun a U g mk q => by obtain ⟨q0, qP, qK⟩ := q; exact ⟨q0, qP, va_K.moved (u := U) (U := U.calling g mk a) (Vm.Alike.refl U.vm) qK⟩, fun U hU hW => ⟨rfl, by rw [hU]; exact hPc, va_K.moved hW.alike hKc⟩⟩ rfl rfl hl.1 rfl (lv_room (Nat.le_of_ble_eq_true rfl)) dX0_init_75 ⟨Nat.le_of_ble_eq_true rfl, Nat.le_of_ble_eq_true rfl⟩) hS (fun q _ h => h.elim) (fun q h => h.elim) (fun  u t H1 locs ht hvm hw hB hz1 hk1 hS => ?_)
  have hP := gz_keep hP hk1
  generalize H1 = H at hP hS ⊢
  refine va_astq hx hb hK hP hD hS 2 1 4 7 rfl rfl rfl rfl (by unfold vp_in; decide) dX0_init_78 (fun H locs hP hD hS => ?_)
  have hP : va_P (dC, dI) vwCl [(h0, .inr (0, [.int 0, .int 0, .int 0, .int 0, .int 0, .int 0, .int 0, .int 0, .int 0, .int 0, .ref q_1, .ref q_3, .ref q_5])), (q_1, .inl (k_2, 6, .inr (.inr (.inr (.inr f_30))))), (q_3, .inl (k_4, 24, .inr (.inr (.inr (.inr (va_up f_79 (12 : Int32).toNatClampNeg (some q_81))))))), (q_5, .inl (k_6, 8, .inr (.inr (.inr (.inr (fun _ => none)))))), (q_81, .inr (7, [.int 0, .int 0, .int 0, .int 0, .int 0, .int 0]))] H := hP
  have hD : va_D A [(h0, .inr (0, [.int 0, .int 0, .int 0, .int 0, .int 0, .int 0, .int 0, .int 0, .int 0, .int 0, .ref q_1, .ref q_3, .ref q_5])), (q_1, .inl (k_2, 6, .inr (.inr (.inr (.inr f_30))))), (q_3, .inl (k_4, 24, .inr (.inr (.inr (.inr (va_up f_79 (12 : Int32).toNatClampNeg (some q_81))))))), (q_5, .inl (k_6, 8, .inr (.inr (.inr (.inr (fun _ => none)))))), (q_81, .inr (7, [.int 0, .int 0, .int 0, .int 0, .int 0, .int 0]))] := hD
  generalize va_up f_79 (12 : Int32).toNatClampNeg (some q_81) = f_83 at hP hD
  have hP := hP.sub (ws' := [(h0, .inr (0, [.int 0, .int 0, .int 0, .int 0, .int 0, .int 0, .int 0, .int 0, .int 0, .int 0, .ref q_1, .ref q_3, .ref q_5])), (q_1, .inl (k_2, 6, .inr (.inr (.inr (.inr f_30))))), (q_3, .inl (k_4, 24, .inr (.inr (.inr (.inr f_83))))), (q_5, .inl (k_6, 8, .inr (.inr (.inr (.inr (fun _ => none))))))]) [0, 1, 2, 3] rfl
  have hD := hD.sub (ws' := [(h0, .inr (0, [.int 0, .int 0, .int 0, .int 0, .int 0, .int 0, .int 0, .int 0, .int 0, .int 0, .ref q_1, .ref q_3, .ref q_5])), (q_1, .inl (k_2, 6, .inr (.inr (.inr (.inr f_30))))), (q_3, .inl (k_4, 24, .inr (.inr (.inr (.inr f_83))))), (q_5, .inl (k_6, 8, .inr (.inr (.inr (.inr (fun _ => none))))))]) [0, 1, 2, 3] (by decide) rfl
  refine lv_iinc (v := 13) (lv' := [(1, .int 13), (0, .ref h0)]) hx hb dX0_init_79 hl (k := 0) rfl (by decide) (by decide) rfl (fun ls hl => ?_)
  refine lv_goto (tgt := 60) hx hb dX0_init_82 (by decide) ?_
  refine lv_iload_n hx hb dX0_init_60 rfl (lv_at hl 0 rfl) ?_
  refine lv_bipush (v := 24) hx hb dX0_init_61 (by decide) ?_
  refine lv_icmp_ge (tgt := 85) hx hb dX0_init_63 (by decide) (fun c_84 => absurd c_84 (by decide)) (fun c_84 => ?_)
  refine lv_aload_n hx hb dX0_init_66 rfl (lv_at hl 1 rfl) ?_
  refine va_get (D := (dC, dI)) (ci := 0) (v := .ref q_3) (C := RX0) (T := TX0) (N := 13) hx hb hts (fun w h => List.mem_cons_of_mem _ (jnGA_X0 w h)) hown hK hP 0 rfl rfl 11 (by decide) (hts _ (List.mem_cons_of_mem _ mGA_84)) (fun _ h9 => h9) rfl dX0_init_67 ?_
  refine lv_iload_n hx hb dX0_init_70 rfl (lv_at hl 0 rfl) ?_
  refine va_new (ci := 7) (fs := [.int 0, .int 0, .int 0, .int 0, .int 0, .int 0]) (C := RX7) (T := TX7) (N := 6) hx hb hts (fun w h => List.mem_cons_of_mem _ (jnGA_X7 w h)) tyX7 tyX7_ok hown (hts _ (List.mem_cons_of_mem _ mGA_83)) (hts _ (List.mem_cons_of_mem _ mGA_91)) (hts _ (List.mem_cons_of_mem _ mGA_92)) hK hP hD hS hA rfl dfX7 (Nat.le_of_ble_eq_true rfl) (Nat.le_of_ble_eq_true rfl) dX0_init_71 (fun q_85 H hP hD hS => ?_)
  have hP : va_P (dC, dI) vwCl [(h0, .inr (0, [.int 0, .int 0, .int 0, .int 0, .int 0, .int 0, .int 0, .int 0, .int 0, .int 0, .ref q_1, .ref q_3, .ref q_5])), (q_1, .inl (k_2, 6, .inr (.inr (.inr (.inr f_30))))), (q_3, .inl (k_4, 24, .inr (.inr (.inr (.inr f_83))))), (q_5, .inl (k_6, 8, .inr (.inr (.inr (.inr (fun _ => none)))))), (q_85, .inr (7, [.int 0, .int 0, .int 0, .int 0, .int 0, .int 0]))] H := hP
  have hD : va_D A [(h0, .inr (0, [.int 0, .int 0, .int 0, .int 0, .int 0, .int 0, .int 0, .int 0, .int 0, .int 0, .ref q_1, .ref q_3, .ref q_5])), (q_1, .inl (k_2, 6, .inr (.inr (.inr (.inr f_30))))), (q_3, .inl (k_4, 24, .inr (.inr (.inr (.inr f_83))))), (q_5, .inl (k_6, 8, .inr (.inr (.inr (.inr (fun _ => none)))))), (q_85, .inr (7, [.int 0, .int 0, .int 0, .int 0, .int 0, .int 0]))] := hD
  refine W.widen (k := 23) (n := 134) (Nat.le_of_ble_eq_true rfl) (Nat.le_of_ble_eq_true rfl) ?_
  refine lv_dup hx hb dX0_init_74 rfl ?_
  have hPc := hP.sub (ws' := []) [] rfl
  have hKc := hK.sub (tys' := []) [] rfl
  refine va_callv (va_runIN (As := []) (rest := [.ref q_85, .int 13, .ref q_3]) ⟨hx, hb, hml, hown, hts⟩ (fX7_init l dC dI q_85) (⟨va_cnB 0 hts (gz_gP mGA_93 goodGA) rfl rfl rfl (nzA_X0_30 hz) (hts _ (List.mem_cons_of_mem _ mGA_92)) (by decide +kernel) ⟨Nat.le_of_ble_eq_true rfl, Nat.le_of_ble_eq_true rfl⟩, rfl, (hts _ (List.mem_cons_of_mem _ mGA_94))⟩) ⟨fun a U g mk q => by obtain ⟨q0, qP, qK⟩ := q; exact ⟨q0, qP, va_K.moved (u := U) (U := U.calling g mk a) (Vm.Alike.refl U.vm) qK⟩, fun U hU hW => ⟨rfl, by rw [hU]; exact hPc, va_K.moved hW.alike hKc⟩⟩ rfl rfl hl.1 rfl (lv_room (Nat.le_of_ble_eq_true rfl)) dX0_init_75 ⟨Nat.le_of_ble_eq_true rfl, Nat.le_of_ble_eq_true rfl⟩) hS (fun q _ h => h.elim) (fun q h => h.elim) (fun  u t H1 locs ht hvm hw hB hz1 hk1 hS => ?_)
  have hP := gz_keep hP hk1
  generalize H1 = H at hP hS ⊢
  refine va_astq hx hb hK hP hD hS 2 1 4 7 rfl rfl rfl rfl (by unfold vp_in; decide) dX0_init_78 (fun H locs hP hD hS => ?_)
  have hP : va_P (dC, dI) vwCl [(h0, .inr (0, [.int 0, .int 0, .int 0, .int 0, .int 0, .int 0, .int 0, .int 0, .int 0, .int 0, .ref q_1, .ref q_3, .ref q_5])), (q_1, .inl (k_2, 6, .inr (.inr (.inr (.inr f_30))))), (q_3, .inl (k_4, 24, .inr (.inr (.inr (.inr (va_up f_83 (13 : Int32).toNatClampNeg (some q_85))))))), (q_5, .inl (k_6, 8, .inr (.inr (.inr (.inr (fun _ => none)))))), (q_85, .inr (7, [.int 0, .int 0, .int 0, .int 0, .int 0, .int 0]))] H := hP
  have hD : va_D A [(h0, .inr (0, [.int 0, .int 0, .int 0, .int 0, .int 0, .int 0, .int 0, .int 0, .int 0, .int 0, .ref q_1, .ref q_3, .ref q_5])), (q_1, .inl (k_2, 6, .inr (.inr (.inr (.inr f_30))))), (q_3, .inl (k_4, 24, .inr (.inr (.inr (.inr (va_up f_83 (13 : Int32).toNatClampNeg (some q_85))))))), (q_5, .inl (k_6, 8, .inr (.inr (.inr (.inr (fun _ => none)))))), (q_85, .inr (7, [.int 0, .int 0, .int 0, .int 0, .int 0, .int 0]))] := hD
  generalize va_up f_83 (13 : Int32).toNatClampNeg (some q_85) = f_87 at hP hD
  have hP := hP.sub (ws' := [(h0, .inr (0, [.int 0, .int 0, .int 0, .int 0, .int 0, .int 0, .int 0, .int 0, .int 0, .int 0, .ref q_1, .ref q_3, .ref q_5])), (q_1, .inl (k_2, 6, .inr (.inr (.inr (.inr f_30))))), (q_3, .inl (k_4, 24, .inr (.inr (.inr (.inr f_87))))), (q_5, .inl (k_6, 8, .inr (.inr (.inr (.inr (fun _ => none))))))]) [0, 1, 2, 3] rfl
  have hD := hD.sub (ws' := [(h0, .inr (0, [.int 0, .int 0, .int 0, .int 0, .int 0, .int 0, .int 0, .int 0, .int 0, .int 0, .ref q_1, .ref q_3, .ref q_5])), (q_1, .inl (k_2, 6, .inr (.inr (.inr (.inr f_30))))), (q_3, .inl (k_4, 24, .inr (.inr (.inr (.inr f_87))))), (q_5, .inl (k_6, 8, .inr (.inr (.inr (.inr (fun _ => none))))))]) [0, 1, 2, 3] (by decide) rfl
  refine lv_iinc (v := 14) (lv' := [(1, .int 14), (0, .ref h0)]) hx hb dX0_init_79 hl (k := 0) rfl (by decide) (by decide) rfl (fun ls hl => ?_)
  refine lv_goto (tgt := 60) hx hb dX0_init_82 (by decide) ?_
  refine lv_iload_n hx hb dX0_init_60 rfl (lv_at hl 0 rfl) ?_
  refine lv_bipush (v := 24) hx hb dX0_init_61 (by decide) ?_
  refine lv_icmp_ge (tgt := 85) hx hb dX0_init_63 (by decide) (fun c_88 => absurd c_88 (by decide)) (fun c_88 => ?_)
  refine lv_aload_n hx hb dX0_init_66 rfl (lv_at hl 1 rfl) ?_
  refine va_get (D := (dC, dI)) (ci := 0) (v := .ref q_3) (C := RX0) (T := TX0) (N := 13) hx hb hts (fun w h => List.mem_cons_of_mem _ (jnGA_X0 w h)) hown hK hP 0 rfl rfl 11 (by decide) (hts _ (List.mem_cons_of_mem _ mGA_84)) (fun _ h9 => h9) rfl dX0_init_67 ?_
  refine lv_iload_n hx hb dX0_init_70 rfl (lv_at hl 0 rfl) ?_
  refine va_new (ci := 7) (fs := [.int 0, .int 0, .int 0, .int 0, .int 0, .int 0]) (C := RX7) (T := TX7) (N := 6) hx hb hts (fun w h => List.mem_cons_of_mem _ (jnGA_X7 w h)) tyX7 tyX7_ok hown (hts _ (List.mem_cons_of_mem _ mGA_83)) (hts _ (List.mem_cons_of_mem _ mGA_91)) (hts _ (List.mem_cons_of_mem _ mGA_92)) hK hP hD hS hA rfl dfX7 (Nat.le_of_ble_eq_true rfl) (Nat.le_of_ble_eq_true rfl) dX0_init_71 (fun q_89 H hP hD hS => ?_)
  have hP : va_P (dC, dI) vwCl [(h0, .inr (0, [.int 0, .int 0, .int 0, .int 0, .int 0, .int 0, .int 0, .int 0, .int 0, .int 0, .ref q_1, .ref q_3, .ref q_5])), (q_1, .inl (k_2, 6, .inr (.inr (.inr (.inr f_30))))), (q_3, .inl (k_4, 24, .inr (.inr (.inr (.inr f_87))))), (q_5, .inl (k_6, 8, .inr (.inr (.inr (.inr (fun _ => none)))))), (q_89, .inr (7, [.int 0, .int 0, .int 0, .int 0, .int 0, .int 0]))] H := hP
  have hD : va_D A [(h0, .inr (0, [.int 0, .int 0, .int 0, .int 0, .int 0, .int 0, .int 0, .int 0, .int 0, .int 0, .ref q_1, .ref q_3, .ref q_5])), (q_1, .inl (k_2, 6, .inr (.inr (.inr (.inr f_30))))), (q_3, .inl (k_4, 24, .inr (.inr (.inr (.inr f_87))))), (q_5, .inl (k_6, 8, .inr (.inr (.inr (.inr (fun _ => none)))))), (q_89, .inr (7, [.int 0, .int 0, .int 0, .int 0, .int 0, .int 0]))] := hD
  refine W.widen (k := 24) (n := 140) (Nat.le_of_ble_eq_true rfl) (Nat.le_of_ble_eq_true rfl) ?_
  refine lv_dup hx hb dX0_init_74 rfl ?_
  have hPc := hP.sub (ws' := []) [] rfl
  have hKc := hK.sub (tys' := []) [] rfl
  refine va_callv (va_runIN (As := []) (rest := [.ref q_89, .int 14, .ref q_3]) ⟨hx, hb, hml, hown, hts⟩ (fX7_init l dC dI q_89) (⟨va_cnB 0 hts (gz_gP mGA_93 goodGA) rfl rfl rfl (nzA_X0_30 hz) (hts _ (List.mem_cons_of_mem _ mGA_92)) (by decide +kernel) ⟨Nat.le_of_ble_eq_true rfl, Nat.le_of_ble_eq_true rfl⟩, rfl, (hts _ (List.mem_cons_of_mem _ mGA_94))⟩) ⟨fun a U g mk q => by obtain ⟨q0, qP, qK⟩ := q; exact ⟨q0, qP, va_K.moved (u := U) (U := U.calling g mk a) (Vm.Alike.refl U.vm) qK⟩, fun U hU hW => ⟨rfl, by rw [hU]; exact hPc, va_K.moved hW.alike hKc⟩⟩ rfl rfl hl.1 rfl (lv_room (Nat.le_of_ble_eq_true rfl)) dX0_init_75 ⟨Nat.le_of_ble_eq_true rfl, Nat.le_of_ble_eq_true rfl⟩) hS (fun q _ h => h.elim) (fun q h => h.elim) (fun  u t H1 locs ht hvm hw hB hz1 hk1 hS => ?_)
  have hP := gz_keep hP hk1
  generalize H1 = H at hP hS ⊢
  refine va_astq hx hb hK hP hD hS 2 1 4 7 rfl rfl rfl rfl (by unfold vp_in; decide) dX0_init_78 (fun H locs hP hD hS => ?_)
  have hP : va_P (dC, dI) vwCl [(h0, .inr (0, [.int 0, .int 0, .int 0, .int 0, .int 0, .int 0, .int 0, .int 0, .int 0, .int 0, .ref q_1, .ref q_3, .ref q_5])), (q_1, .inl (k_2, 6, .inr (.inr (.inr (.inr f_30))))), (q_3, .inl (k_4, 24, .inr (.inr (.inr (.inr (va_up f_87 (14 : Int32).toNatClampNeg (some q_89))))))), (q_5, .inl (k_6, 8, .inr (.inr (.inr (.inr (fun _ => none)))))), (q_89, .inr (7, [.int 0, .int 0, .int 0, .int 0, .int 0, .int 0]))] H := hP
  have hD : va_D A [(h0, .inr (0, [.int 0, .int 0, .int 0, .int 0, .int 0, .int 0, .int 0, .int 0, .int 0, .int 0, .ref q_1, .ref q_3, .ref q_5])), (q_1, .inl (k_2, 6, .inr (.inr (.inr (.inr f_30))))), (q_3, .inl (k_4, 24, .inr (.inr (.inr (.inr (va_up f_87 (14 : Int32).toNatClampNeg (some q_89))))))), (q_5, .inl (k_6, 8, .inr (.inr (.inr (.inr (fun _ => none)))))), (q_89, .inr (7, [.int 0, .int 0, .int 0, .int 0, .int 0, .int 0]))] := hD
  generalize va_up f_87 (14 : Int32).toNatClampNeg (some q_89) = f_91 at hP hD
  have hP := hP.sub (ws' := [(h0, .inr (0, [.int 0, .int 0, .int 0, .int 0, .int 0, .int 0, .int 0, .int 0, .int 0, .int 0, .ref q_1, .ref q_3, .ref q_5])), (q_1, .inl (k_2, 6, .inr (.inr (.inr (.inr f_30))))), (q_3, .inl (k_4, 24, .inr (.inr (.inr (.inr f_91))))), (q_5, .inl (k_6, 8, .inr (.inr (.inr (.inr (fun _ => none))))))]) [0, 1, 2, 3] rfl
  have hD := hD.sub (ws' := [(h0, .inr (0, [.int 0, .int 0, .int 0, .int 0, .int 0, .int 0, .int 0, .int 0, .int 0, .int 0, .ref q_1, .ref q_3, .ref q_5])), (q_1, .inl (k_2, 6, .inr (.inr (.inr (.inr f_30))))), (q_3, .inl (k_4, 24, .inr (.inr (.inr (.inr f_91))))), (q_5, .inl (k_6, 8, .inr (.inr (.inr (.inr (fun _ => none))))))]) [0, 1, 2, 3] (by decide) rfl
  refine lv_iinc (v := 15) (lv' := [(1, .int 15), (0, .ref h0)]) hx hb dX0_init_79 hl (k := 0) rfl (by decide) (by decide) rfl (fun ls hl => ?_)
  refine lv_goto (tgt := 60) hx hb dX0_init_82 (by decide) ?_
  refine lv_iload_n hx hb dX0_init_60 rfl (lv_at hl 0 rfl) ?_
  refine lv_bipush (v := 24) hx hb dX0_init_61 (by decide) ?_
  refine lv_icmp_ge (tgt := 85) hx hb dX0_init_63 (by decide) (fun c_92 => absurd c_92 (by decide)) (fun c_92 => ?_)
  refine lv_aload_n hx hb dX0_init_66 rfl (lv_at hl 1 rfl) ?_
  refine va_get (D := (dC, dI)) (ci := 0) (v := .ref q_3) (C := RX0) (T := TX0) (N := 13) hx hb hts (fun w h => List.mem_cons_of_mem _ (jnGA_X0 w h)) hown hK hP 0 rfl rfl 11 (by decide) (hts _ (List.mem_cons_of_mem _ mGA_84)) (fun _ h9 => h9) rfl dX0_init_67 ?_
  refine lv_iload_n hx hb dX0_init_70 rfl (lv_at hl 0 rfl) ?_
  refine va_new (ci := 7) (fs := [.int 0, .int 0, .int 0, .int 0, .int 0, .int 0]) (C := RX7) (T := TX7) (N := 6) hx hb hts (fun w h => List.mem_cons_of_mem _ (jnGA_X7 w h)) tyX7 tyX7_ok hown (hts _ (List.mem_cons_of_mem _ mGA_83)) (hts _ (List.mem_cons_of_mem _ mGA_91)) (hts _ (List.mem_cons_of_mem _ mGA_92)) hK hP hD hS hA rfl dfX7 (Nat.le_of_ble_eq_true rfl) (Nat.le_of_ble_eq_true rfl) dX0_init_71 (fun q_93 H hP hD hS => ?_)
  have hP : va_P (dC, dI) vwCl [(h0, .inr (0, [.int 0, .int 0, .int 0, .int 0, .int 0, .int 0, .int 0, .int 0, .int 0, .int 0, .ref q_1, .ref q_3, .ref q_5])), (q_1, .inl (k_2, 6, .inr (.inr (.inr (.inr f_30))))), (q_3, .inl (k_4, 24, .inr (.inr (.inr (.inr f_91))))), (q_5, .inl (k_6, 8, .inr (.inr (.inr (.inr (fun _ => none)))))), (q_93, .inr (7, [.int 0, .int 0, .int 0, .int 0, .int 0, .int 0]))] H := hP
  have hD : va_D A [(h0, .inr (0, [.int 0, .int 0, .int 0, .int 0, .int 0, .int 0, .int 0, .int 0, .int 0, .int 0, .ref q_1, .ref q_3, .ref q_5])), (q_1, .inl (k_2, 6, .inr (.inr (.inr (.inr f_30))))), (q_3, .inl (k_4, 24, .inr (.inr (.inr (.inr f_91))))), (q_5, .inl (k_6, 8, .inr (.inr (.inr (.inr (fun _ => none)))))), (q_93, .inr (7, [.int 0, .int 0, .int 0, .int 0, .int 0, .int 0]))] := hD
  refine W.widen (k := 25) (n := 146) (Nat.le_of_ble_eq_true rfl) (Nat.le_of_ble_eq_true rfl) ?_
  refine lv_dup hx hb dX0_init_74 rfl ?_
  have hPc := hP.sub (ws' := []) [] rfl
  have hKc := hK.sub (tys' := []) [] rfl
  refine va_callv (va_runIN (As := []) (rest := [.ref q_93, .int 15, .ref q_3]) ⟨hx, hb, hml, hown, hts⟩ (fX7_init l dC dI q_93) (⟨va_cnB 0 hts (gz_gP mGA_93 goodGA) rfl rfl rfl (nzA_X0_30 hz) (hts _ (List.mem_cons_of_mem _ mGA_92)) (by decide +kernel) ⟨Nat.le_of_ble_eq_true rfl, Nat.le_of_ble_eq_true rfl⟩, rfl, (hts _ (List.mem_cons_of_mem _ mGA_94))⟩) ⟨fun a U g mk q => by obtain ⟨q0, qP, qK⟩ := q; exact ⟨q0, qP, va_K.moved (u := U) (U := U.calling g mk a) (Vm.Alike.refl U.vm) qK⟩, fun U hU hW => ⟨rfl, by rw [hU]; exact hPc, va_K.moved hW.alike hKc⟩⟩ rfl rfl hl.1 rfl (lv_room (Nat.le_of_ble_eq_true rfl)) dX0_init_75 ⟨Nat.le_of_ble_eq_true rfl, Nat.le_of_ble_eq_true rfl⟩) hS (fun q _ h => h.elim) (fun q h => h.elim) (fun  u t H1 locs ht hvm hw hB hz1 hk1 hS => ?_)
  have hP := gz_keep hP hk1
  generalize H1 = H at hP hS ⊢
  refine va_astq hx hb hK hP hD hS 2 1 4 7 rfl rfl rfl rfl (by unfold vp_in; decide) dX0_init_78 (fun H locs hP hD hS => ?_)
  have hP : va_P (dC, dI) vwCl [(h0, .inr (0, [.int 0, .int 0, .int 0, .int 0, .int 0, .int 0, .int 0, .int 0, .int 0, .int 0, .ref q_1, .ref q_3, .ref q_5])), (q_1, .inl (k_2, 6, .inr (.inr (.inr (.inr f_30))))), (q_3, .inl (k_4, 24, .inr (.inr (.inr (.inr (va_up f_91 (15 : Int32).toNatClampNeg (some q_93))))))), (q_5, .inl (k_6, 8, .inr (.inr (.inr (.inr (fun _ => none)))))), (q_93, .inr (7, [.int 0, .int 0, .int 0, .int 0, .int 0, .int 0]))] H := hP
  have hD : va_D A [(h0, .inr (0, [.int 0, .int 0, .int 0, .int 0, .int 0, .int 0, .int 0, .int 0, .int 0, .int 0, .ref q_1, .ref q_3, .ref q_5])), (q_1, .inl (k_2, 6, .inr (.inr (.inr (.inr f_30))))), (q_3, .inl (k_4, 24, .inr (.inr (.inr (.inr (va_up f_91 (15 : Int32).toNatClampNeg (some q_93))))))), (q_5, .inl (k_6, 8, .inr (.inr (.inr (.inr (fun _ => none)))))), (q_93, .inr (7, [.int 0, .int 0, .int 0, .int 0, .int 0, .int 0]))] := hD
  generalize va_up f_91 (15 : Int32).toNatClampNeg (some q_93) = f_95 at hP hD
  have hP := hP.sub (ws' := [(h0, .inr (0, [.int 0, .int 0, .int 0, .int 0, .int 0, .int 0, .int 0, .int 0, .int 0, .int 0, .ref q_1, .ref q_3, .ref q_5])), (q_1, .inl (k_2, 6, .inr (.inr (.inr (.inr f_30))))), (q_3, .inl (k_4, 24, .inr (.inr (.inr (.inr f_95))))), (q_5, .inl (k_6, 8, .inr (.inr (.inr (.inr (fun _ => none))))))]) [0, 1, 2, 3] rfl
  have hD := hD.sub (ws' := [(h0, .inr (0, [.int 0, .int 0, .int 0, .int 0, .int 0, .int 0, .int 0, .int 0, .int 0, .int 0, .ref q_1, .ref q_3, .ref q_5])), (q_1, .inl (k_2, 6, .inr (.inr (.inr (.inr f_30))))), (q_3, .inl (k_4, 24, .inr (.inr (.inr (.inr f_95))))), (q_5, .inl (k_6, 8, .inr (.inr (.inr (.inr (fun _ => none))))))]) [0, 1, 2, 3] (by decide) rfl
  refine lv_iinc (v := 16) (lv' := [(1, .int 16), (0, .ref h0)]) hx hb dX0_init_79 hl (k := 0) rfl (by decide) (by decide) rfl (fun ls hl => ?_)
  refine lv_goto (tgt := 60) hx hb dX0_init_82 (by decide) ?_
  refine lv_iload_n hx hb dX0_init_60 rfl (lv_at hl 0 rfl) ?_
  refine lv_bipush (v := 24) hx hb dX0_init_61 (by decide) ?_
  refine lv_icmp_ge (tgt := 85) hx hb dX0_init_63 (by decide) (fun c_96 => absurd c_96 (by decide)) (fun c_96 => ?_)
  refine lv_aload_n hx hb dX0_init_66 rfl (lv_at hl 1 rfl) ?_
  refine va_get (D := (dC, dI)) (ci := 0) (v := .ref q_3) (C := RX0) (T := TX0) (N := 13) hx hb hts (fun w h => List.mem_cons_of_mem _ (jnGA_X0 w h)) hown hK hP 0 rfl rfl 11 (by decide) (hts _ (List.mem_cons_of_mem _ mGA_84)) (fun _ h9 => h9) rfl dX0_init_67 ?_
  refine lv_iload_n hx hb dX0_init_70 rfl (lv_at hl 0 rfl) ?_
  refine va_new (ci := 7) (fs := [.int 0, .int 0, .int 0, .int 0, .int 0, .int 0]) (C := RX7) (T := TX7) (N := 6) hx hb hts (fun w h => List.mem_cons_of_mem _ (jnGA_X7 w h)) tyX7 tyX7_ok hown (hts _ (List.mem_cons_of_mem _ mGA_83)) (hts _ (List.mem_cons_of_mem _ mGA_91)) (hts _ (List.mem_cons_of_mem _ mGA_92)) hK hP hD hS hA rfl dfX7 (Nat.le_of_ble_eq_true rfl) (Nat.le_of_ble_eq_true rfl) dX0_init_71 (fun q_97 H hP hD hS => ?_)
  have hP : va_P (dC, dI) vwCl [(h0, .inr (0, [.int 0, .int 0, .int 0, .int 0, .int 0, .int 0, .int 0, .int 0, .int 0, .int 0, .ref q_1, .ref q_3, .ref q_5])), (q_1, .inl (k_2, 6, .inr (.inr (.inr (.inr f_30))))), (q_3, .inl (k_4, 24, .inr (.inr (.inr (.inr f_95))))), (q_5, .inl (k_6, 8, .inr (.inr (.inr (.inr (fun _ => none)))))), (q_97, .inr (7, [.int 0, .int 0, .int 0, .int 0, .int 0, .int 0]))] H := hP
  have hD : va_D A [(h0, .inr (0, [.int 0, .int 0, .int 0, .int 0, .int 0, .int 0, .int 0, .int 0, .int 0, .int 0, .ref q_1, .ref q_3, .ref q_5])), (q_1, .inl (k_2, 6, .inr (.inr (.inr (.inr f_30))))), (q_3, .inl (k_4, 24, .inr (.inr (.inr (.inr f_95))))), (q_5, .inl (k_6, 8, .inr (.inr (.inr (.inr (fun _ => none)))))), (q_97, .inr (7, [.int 0, .int 0, .int 0, .int 0, .int 0, .int 0]))] := hD
  refine W.widen (k := 26) (n := 152) (Nat.le_of_ble_eq_true rfl) (Nat.le_of_ble_eq_true rfl) ?_
  refine lv_dup hx hb dX0_init_74 rfl ?_
  have hPc := hP.sub (ws' := []) [] rfl
  have hKc := hK.sub (tys' := []) [] rfl
  refine va_callv (va_runIN (As := []) (rest := [.ref q_97, .int 16, .ref q_3]) ⟨hx, hb, hml, hown, hts⟩ (fX7_init l dC dI q_97) (⟨va_cnB 0 hts (gz_gP mGA_93 goodGA) rfl rfl rfl (nzA_X0_30 hz) (hts _ (List.mem_cons_of_mem _ mGA_92)) (by decide +kernel) ⟨Nat.le_of_ble_eq_true rfl, Nat.le_of_ble_eq_true rfl⟩, rfl, (hts _ (List.mem_cons_of_mem _ mGA_94))⟩) ⟨fun a U g mk q => by obtain ⟨q0, qP, qK⟩ := q; exact ⟨q0, qP, va_K.moved (u := U) (U := U.calling g mk a) (Vm.Alike.refl U.vm) qK⟩, fun U hU hW => ⟨rfl, by rw [hU]; exact hPc, va_K.moved hW.alike hKc⟩⟩ rfl rfl hl.1 rfl (lv_room (Nat.le_of_ble_eq_true rfl)) dX0_init_75 ⟨Nat.le_of_ble_eq_true rfl, Nat.le_of_ble_eq_true rfl⟩) hS (fun q _ h => h.elim) (fun q h => h.elim) (fun  u t H1 locs ht hvm hw hB hz1 hk1 hS => ?_)
  have hP := gz_keep hP hk1
  generalize H1 = H at hP hS ⊢
  refine va_astq hx hb hK hP hD hS 2 1 4 7 rfl rfl rfl rfl (by unfold vp_in; decide) dX0_init_78 (fun H locs hP hD hS => ?_)
  have hP : va_P (dC, dI) vwCl [(h0, .inr (0, [.int 0, .int 0, .int 0, .int 0, .int 0, .int 0, .int 0, .int 0, .int 0, .int 0, .ref q_1, .ref q_3, .ref q_5])), (q_1, .inl (k_2, 6, .inr (.inr (.inr (.inr f_30))))), (q_3, .inl (k_4, 24, .inr (.inr (.inr (.inr (va_up f_95 (16 : Int32).toNatClampNeg (some q_97))))))), (q_5, .inl (k_6, 8, .inr (.inr (.inr (.inr (fun _ => none)))))), (q_97, .inr (7, [.int 0, .int 0, .int 0, .int 0, .int 0, .int 0]))] H := hP
  have hD : va_D A [(h0, .inr (0, [.int 0, .int 0, .int 0, .int 0, .int 0, .int 0, .int 0, .int 0, .int 0, .int 0, .ref q_1, .ref q_3, .ref q_5])), (q_1, .inl (k_2, 6, .inr (.inr (.inr (.inr f_30))))), (q_3, .inl (k_4, 24, .inr (.inr (.inr (.inr (va_up f_95 (16 : Int32).toNatClampNeg (some q_97))))))), (q_5, .inl (k_6, 8, .inr (.inr (.inr (.inr (fun _ => none)))))), (q_97, .inr (7, [.int 0, .int 0, .int 0, .int 0, .int 0, .int 0]))] := hD
  generalize va_up f_95 (16 : Int32).toNatClampNeg (some q_97) = f_99 at hP hD
  have hP := hP.sub (ws' := [(h0, .inr (0, [.int 0, .int 0, .int 0, .int 0, .int 0, .int 0, .int 0, .int 0, .int 0, .int 0, .ref q_1, .ref q_3, .ref q_5])), (q_1, .inl (k_2, 6, .inr (.inr (.inr (.inr f_30))))), (q_3, .inl (k_4, 24, .inr (.inr (.inr (.inr f_99))))), (q_5, .inl (k_6, 8, .inr (.inr (.inr (.inr (fun _ => none))))))]) [0, 1, 2, 3] rfl
  have hD := hD.sub (ws' := [(h0, .inr (0, [.int 0, .int 0, .int 0, .int 0, .int 0, .int 0, .int 0, .int 0, .int 0, .int 0, .ref q_1, .ref q_3, .ref q_5])), (q_1, .inl (k_2, 6, .inr (.inr (.inr (.inr f_30))))), (q_3, .inl (k_4, 24, .inr (.inr (.inr (.inr f_99))))), (q_5, .inl (k_6, 8, .inr (.inr (.inr (.inr (fun _ => none))))))]) [0, 1, 2, 3] (by decide) rfl
  refine lv_iinc (v := 17) (lv' := [(1, .int 17), (0, .ref h0)]) hx hb dX0_init_79 hl (k := 0) rfl (by decide) (by decide) rfl (fun ls hl => ?_)
  refine lv_goto (tgt := 60) hx hb dX0_init_82 (by decide) ?_
  refine lv_iload_n hx hb dX0_init_60 rfl (lv_at hl 0 rfl) ?_
  refine lv_bipush (v := 24) hx hb dX0_init_61 (by decide) ?_
  refine lv_icmp_ge (tgt := 85) hx hb dX0_init_63 (by decide) (fun c_100 => absurd c_100 (by decide)) (fun c_100 => ?_)
  refine lv_aload_n hx hb dX0_init_66 rfl (lv_at hl 1 rfl) ?_
  refine va_get (D := (dC, dI)) (ci := 0) (v := .ref q_3) (C := RX0) (T := TX0) (N := 13) hx hb hts (fun w h => List.mem_cons_of_mem _ (jnGA_X0 w h)) hown hK hP 0 rfl rfl 11 (by decide) (hts _ (List.mem_cons_of_mem _ mGA_84)) (fun _ h9 => h9) rfl dX0_init_67 ?_
  refine lv_iload_n hx hb dX0_init_70 rfl (lv_at hl 0 rfl) ?_
  refine va_new (ci := 7) (fs := [.int 0, .int 0, .int 0, .int 0, .int 0, .int 0]) (C := RX7) (T := TX7) (N := 6) hx hb hts (fun w h => List.mem_cons_of_mem _ (jnGA_X7 w h)) tyX7 tyX7_ok hown (hts _ (List.mem_cons_of_mem _ mGA_83)) (hts _ (List.mem_cons_of_mem _ mGA_91)) (hts _ (List.mem_cons_of_mem _ mGA_92)) hK hP hD hS hA rfl dfX7 (Nat.le_of_ble_eq_true rfl) (Nat.le_of_ble_eq_true rfl) dX0_init_71 (fun q_101 H hP hD hS => ?_)
  have hP : va_P (dC, dI) vwCl [(h0, .inr (0, [.int 0, .int 0, .int 0, .int 0, .int 0, .int 0, .int 0, .int 0, .int 0, .int 0, .ref q_1, .ref q_3, .ref q_5])), (q_1, .inl (k_2, 6, .inr (.inr (.inr (.inr f_30))))), (q_3, .inl (k_4, 24, .inr (.inr (.inr (.inr f_99))))), (q_5, .inl (k_6, 8, .inr (.inr (.inr (.inr (fun _ => none)))))), (q_101, .inr (7, [.int 0, .int 0, .int 0, .int 0, .int 0, .int 0]))] H := hP
  have hD : va_D A [(h0, .inr (0, [.int 0, .int 0, .int 0, .int 0, .int 0, .int 0, .int 0, .int 0, .int 0, .int 0, .ref q_1, .ref q_3, .ref q_5])), (q_1, .inl (k_2, 6, .inr (.inr (.inr (.inr f_30))))), (q_3, .inl (k_4, 24, .inr (.inr (.inr (.inr f_99))))), (q_5, .inl (k_6, 8, .inr (.inr (.inr (.inr (fun _ => none)))))), (q_101, .inr (7, [.int 0, .int 0, .int 0, .int 0, .int 0, .int 0]))] := hD
  refine W.widen (k := 27) (n := 158) (Nat.le_of_ble_eq_true rfl) (Nat.le_of_ble_eq_true rfl) ?_
  refine lv_dup hx hb dX0_init_74 rfl ?_
  have hPc := hP.sub (ws' := []) [] rfl
  have hKc := hK.sub (tys' := []) [] rfl
  refine va_callv (va_runIN (As := []) (rest := [.ref q_101, .int 17, .ref q_3]) ⟨hx, hb, hml, hown, hts⟩ (fX7_init l dC dI q_101) (⟨va_cnB 0 hts (gz_gP mGA_93 goodGA) rfl rfl rfl (nzA_X0_30 hz) (hts _ (List.mem_cons_of_mem _ mGA_92)) (by decide +kernel) ⟨Nat.le_of_ble_eq_true rfl, Nat.le_of_ble_eq_true rfl⟩, rfl, (hts _ (List.mem_cons_of_mem _ mGA_94))⟩) ⟨fun a U g mk q => by obtain ⟨q0, qP, qK⟩ := q; exact ⟨q0, qP, va_K.moved (u := U) (U := U.calling g mk a) (Vm.Alike.refl U.vm) qK⟩, fun U hU hW => ⟨rfl, by rw [hU]; exact hPc, va_K.moved hW.alike hKc⟩⟩ rfl rfl hl.1 rfl (lv_room (Nat.le_of_ble_eq_true rfl)) dX0_init_75 ⟨Nat.le_of_ble_eq_true rfl, Nat.le_of_ble_eq_true rfl⟩) hS (fun q _ h => h.elim) (fun q h => h.elim) (fun  u t H1 locs ht hvm hw hB hz1 hk1 hS => ?_)
  have hP := gz_keep hP hk1
  generalize H1 = H at hP hS ⊢
  refine va_astq hx hb hK hP hD hS 2 1 4 7 rfl rfl rfl rfl (by unfold vp_in; decide) dX0_init_78 (fun H locs hP hD hS => ?_)
  have hP : va_P (dC, dI) vwCl [(h0, .inr (0, [.int 0, .int 0, .int 0, .int 0, .int 0, .int 0, .int 0, .int 0, .int 0, .int 0, .ref q_1, .ref q_3, .ref q_5])), (q_1, .inl (k_2, 6, .inr (.inr (.inr (.inr f_30))))), (q_3, .inl (k_4, 24, .inr (.inr (.inr (.inr (va_up f_99 (17 : Int32).toNatClampNeg (some q_101))))))), (q_5, .inl (k_6, 8, .inr (.inr (.inr (.inr (fun _ => none)))))), (q_101, .inr (7, [.int 0, .int 0, .int 0, .int 0, .int 0, .int 0]))] H := hP
  have hD : va_D A [(h0, .inr (0, [.int 0, .int 0, .int 0, .int 0, .int 0, .int 0, .int 0, .int 0, .int 0, .int 0, .ref q_1, .ref q_3, .ref q_5])), (q_1, .inl (k_2, 6, .inr (.inr (.inr (.inr f_30))))), (q_3, .inl (k_4, 24, .inr (.inr (.inr (.inr (va_up f_99 (17 : Int32).toNatClampNeg (some q_101))))))), (q_5, .inl (k_6, 8, .inr (.inr (.inr (.inr (fun _ => none)))))), (q_101, .inr (7, [.int 0, .int 0, .int 0, .int 0, .int 0, .int 0]))] := hD
  generalize va_up f_99 (17 : Int32).toNatClampNeg (some q_101) = f_103 at hP hD
  have hP := hP.sub (ws' := [(h0, .inr (0, [.int 0, .int 0, .int 0, .int 0, .int 0, .int 0, .int 0, .int 0, .int 0, .int 0, .ref q_1, .ref q_3, .ref q_5])), (q_1, .inl (k_2, 6, .inr (.inr (.inr (.inr f_30))))), (q_3, .inl (k_4, 24, .inr (.inr (.inr (.inr f_103))))), (q_5, .inl (k_6, 8, .inr (.inr (.inr (.inr (fun _ => none))))))]) [0, 1, 2, 3] rfl
  have hD := hD.sub (ws' := [(h0, .inr (0, [.int 0, .int 0, .int 0, .int 0, .int 0, .int 0, .int 0, .int 0, .int 0, .int 0, .ref q_1, .ref q_3, .ref q_5])), (q_1, .inl (k_2, 6, .inr (.inr (.inr (.inr f_30))))), (q_3, .inl (k_4, 24, .inr (.inr (.inr (.inr f_103))))), (q_5, .inl (k_6, 8, .inr (.inr (.inr (.inr (fun _ => none))))))]) [0, 1, 2, 3] (by decide) rfl
  refine lv_iinc (v := 18) (lv' := [(1, .int 18), (0, .ref h0)]) hx hb dX0_init_79 hl (k := 0) rfl (by decide) (by decide) rfl (fun ls hl => ?_)
  refine lv_goto (tgt := 60) hx hb dX0_init_82 (by decide) ?_
  refine lv_iload_n hx hb dX0_init_60 rfl (lv_at hl 0 rfl) ?_
  refine lv_bipush (v := 24) hx hb dX0_init_61 (by decide) ?_
  refine lv_icmp_ge (tgt := 85) hx hb dX0_init_63 (by decide) (fun c_104 => absurd c_104 (by decide)) (fun c_104 => ?_)
  refine lv_aload_n hx hb dX0_init_66 rfl (lv_at hl 1 rfl) ?_
  refine va_get (D := (dC, dI)) (ci := 0) (v := .ref q_3) (C := RX0) (T := TX0) (N := 13) hx hb hts (fun w h => List.mem_cons_of_mem _ (jnGA_X0 w h)) hown hK hP 0 rfl rfl 11 (by decide) (hts _ (List.mem_cons_of_mem _ mGA_84)) (fun _ h9 => h9) rfl dX0_init_67 ?_
  refine lv_iload_n hx hb dX0_init_70 rfl (lv_at hl 0 rfl) ?_
  refine va_new (ci := 7) (fs := [.int 0, .int 0, .int 0, .int 0, .int 0, .int 0]) (C := RX7) (T := TX7) (N := 6) hx hb hts (fun w h => List.mem_cons_of_mem _ (jnGA_X7 w h)) tyX7 tyX7_ok hown (hts _ (List.mem_cons_of_mem _ mGA_83)) (hts _ (List.mem_cons_of_mem _ mGA_91)) (hts _ (List.mem_cons_of_mem _ mGA_92)) hK hP hD hS hA rfl dfX7 (Nat.le_of_ble_eq_true rfl) (Nat.le_of_ble_eq_true rfl) dX0_init_71 (fun q_105 H hP hD hS => ?_)
  have hP : va_P (dC, dI) vwCl [(h0, .inr (0, [.int 0, .int 0, .int 0, .int 0, .int 0, .int 0, .int 0, .int 0, .int 0, .int 0, .ref q_1, .ref q_3, .ref q_5])), (q_1, .inl (k_2, 6, .inr (.inr (.inr (.inr f_30))))), (q_3, .inl (k_4, 24, .inr (.inr (.inr (.inr f_103))))), (q_5, .inl (k_6, 8, .inr (.inr (.inr (.inr (fun _ => none)))))), (q_105, .inr (7, [.int 0, .int 0, .int 0, .int 0, .int 0, .int 0]))] H := hP
  have hD : va_D A [(h0, .inr (0, [.int 0, .int 0, .int 0, .int 0, .int 0, .int 0, .int 0, .int 0, .int 0, .int 0, .ref q_1, .ref q_3, .ref q_5])), (q_1, .inl (k_2, 6, .inr (.inr (.inr (.inr f_30))))), (q_3, .inl (k_4, 24, .inr (.inr (.inr (.inr f_103))))), (q_5, .inl (k_6, 8, .inr (.inr (.inr (.inr (fun _ => none)))))), (q_105, .inr (7, [.int 0, .int 0, .int 0, .int 0, .int 0, .int 0]))] := hD
  refine W.widen (k := 28) (n := 164) (Nat.le_of_ble_eq_true rfl) (Nat.le_of_ble_eq_true rfl) ?_
  refine lv_dup hx hb dX0_init_74 rfl ?_
  have hPc := hP.sub (ws' := []) [] rfl
  have hKc := hK.sub (tys' := []) [] rfl
  refine va_callv (va_runIN (As := []) (rest := [.ref q_105, .int 18, .ref q_3]) ⟨hx, hb, hml, hown, hts⟩ (fX7_init l dC dI q_105) (⟨va_cnB 0 hts (gz_gP mGA_93 goodGA) rfl rfl rfl (nzA_X0_30 hz) (hts _ (List.mem_cons_of_mem _ mGA_92)) (by decide +kernel) ⟨Nat.le_of_ble_eq_true rfl, Nat.le_of_ble_eq_true rfl⟩, rfl, (hts _ (List.mem_cons_of_mem _ mGA_94))⟩) ⟨fun a U g mk q => by obtain ⟨q0, qP, qK⟩ := q; exact ⟨q0, qP, va_K.moved (u := U) (U := U.calling g mk a) (Vm.Alike.refl U.vm) qK⟩, fun U hU hW => ⟨rfl, by rw [hU]; exact hPc, va_K.moved hW.alike hKc⟩⟩ rfl rfl hl.1 rfl (lv_room (Nat.le_of_ble_eq_true rfl)) dX0_init_75 ⟨Nat.le_of_ble_eq_true rfl, Nat.le_of_ble_eq_true rfl⟩) hS (fun q _ h => h.elim) (fun q h => h.elim) (fun  u t H1 locs ht hvm hw hB hz1 hk1 hS => ?_)
  have hP := gz_keep hP hk1
  generalize H1 = H at hP hS ⊢
  refine va_astq hx hb hK hP hD hS 2 1 4 7 rfl rfl rfl rfl (by unfold vp_in; decide) dX0_init_78 (fun H locs hP hD hS => ?_)
  have hP : va_P (dC, dI) vwCl [(h0, .inr (0, [.int 0, .int 0, .int 0, .int 0, .int 0, .int 0, .int 0, .int 0, .int 0, .int 0, .ref q_1, .ref q_3, .ref q_5])), (q_1, .inl (k_2, 6, .inr (.inr (.inr (.inr f_30))))), (q_3, .inl (k_4, 24, .inr (.inr (.inr (.inr (va_up f_103 (18 : Int32).toNatClampNeg (some q_105))))))), (q_5, .inl (k_6, 8, .inr (.inr (.inr (.inr (fun _ => none)))))), (q_105, .inr (7, [.int 0, .int 0, .int 0, .int 0, .int 0, .int 0]))] H := hP
  have hD : va_D A [(h0, .inr (0, [.int 0, .int 0, .int 0, .int 0, .int 0, .int 0, .int 0, .int 0, .int 0, .int 0, .ref q_1, .ref q_3, .ref q_5])), (q_1, .inl (k_2, 6, .inr (.inr (.inr (.inr f_30))))), (q_3, .inl (k_4, 24, .inr (.inr (.inr (.inr (va_up f_103 (18 : Int32).toNatClampNeg (some q_105))))))), (q_5, .inl (k_6, 8, .inr (.inr (.inr (.inr (fun _ => none)))))), (q_105, .inr (7, [.int 0, .int 0, .int 0, .int 0, .int 0, .int 0]))] := hD
  generalize va_up f_103 (18 : Int32).toNatClampNeg (some q_105) = f_107 at hP hD
  have hP := hP.sub (ws' := [(h0, .inr (0, [.int 0, .int 0, .int 0, .int 0, .int 0, .int 0, .int 0, .int 0, .int 0, .int 0, .ref q_1, .ref q_3, .ref q_5])), (q_1, .inl (k_2, 6, .inr (.inr (.inr (.inr f_30))))), (q_3, .inl (k_4, 24, .inr (.inr (.inr (.inr f_107))))), (q_5, .inl (k_6, 8, .inr (.inr (.inr (.inr (fun _ => none))))))]) [0, 1, 2, 3] rfl
  have hD := hD.sub (ws' := [(h0, .inr (0, [.int 0, .int 0, .int 0, .int 0, .int 0, .int 0, .int 0, .int 0, .int 0, .int 0, .ref q_1, .ref q_3, .ref q_5])), (q_1, .inl (k_2, 6, .inr (.inr (.inr (.inr f_30))))), (q_3, .inl (k_4, 24, .inr (.inr (.inr (.inr f_107))))), (q_5, .inl (k_6, 8, .inr (.inr (.inr (.inr (fun _ => none))))))]) [0, 1, 2, 3] (by decide) rfl
  refine lv_iinc (v := 19) (lv' := [(1, .int 19), (0, .ref h0)]) hx hb dX0_init_79 hl (k := 0) rfl (by decide) (by decide) rfl (fun ls hl => ?_)
  refine lv_goto (tgt := 60) hx hb dX0_init_82 (by decide) ?_
  refine lv_iload_n hx hb dX0_init_60 rfl (lv_at hl 0 rfl) ?_
  refine lv_bipush (v := 24) hx hb dX0_init_61 (by decide) ?_
  refine lv_icmp_ge (tgt := 85) hx hb dX0_init_63 (by decide) (fun c_108 => absurd c_108 (by decide)) (fun c_108 => ?_)
  refine lv_aload_n hx hb dX0_init_66 rfl (lv_at hl 1 rfl) ?_
  refine va_get (D := (dC, dI)) (ci := 0) (v := .ref q_3) (C := RX0) (T := TX0) (N := 13) hx hb hts (fun w h => List.mem_cons_of_mem _ (jnGA_X0 w h)) hown hK hP 0 rfl rfl 11 (by decide) (hts _ (List.mem_cons_of_mem _ mGA_84)) (fun _ h9 => h9) rfl dX0_init_67 ?_
  refine lv_iload_n hx hb dX0_init_70 rfl (lv_at hl 0 rfl) ?_
  refine va_new (ci := 7) (fs := [.int 0, .int 0, .int 0, .int 0, .int 0, .int 0]) (C := RX7) (T := TX7) (N := 6) hx hb hts (fun w h => List.mem_cons_of_mem _ (jnGA_X7 w h)) tyX7 tyX7_ok hown (hts _ (List.mem_cons_of_mem _ mGA_83)) (hts _ (List.mem_cons_of_mem _ mGA_91)) (hts _ (List.mem_cons_of_mem _ mGA_92)) hK hP hD hS hA rfl dfX7 (Nat.le_of_ble_eq_true rfl) (Nat.le_of_ble_eq_true rfl) dX0_init_71 (fun q_109 H hP hD hS => ?_)
  have hP : va_P (dC, dI) vwCl [(h0, .inr (0, [.int 0, .int 0, .int 0, .int 0, .int 0, .int 0, .int 0, .int 0, .int 0, .int 0, .ref q_1, .ref q_3, .ref q_5])), (q_1, .inl (k_2, 6, .inr (.inr (.inr (.inr f_30))))), (q_3, .inl (k_4, 24, .inr (.inr (.inr (.inr f_107))))), (q_5, .inl (k_6, 8, .inr (.inr (.inr (.inr (fun _ => none)))))), (q_109, .inr (7, [.int 0, .int 0, .int 0, .int 0, .int 0, .int 0]))] H := hP
  have hD : va_D A [(h0, .inr (0, [.int 0, .int 0, .int 0, .int 0, .int 0, .int 0, .int 0, .int 0, .int 0, .int 0, .ref q_1, .ref q_3, .ref q_5])), (q_1, .inl (k_2, 6, .inr (.inr (.inr (.inr f_30))))), (q_3, .inl (k_4, 24, .inr (.inr (.inr (.inr f_107))))), (q_5, .inl (k_6, 8, .inr (.inr (.inr (.inr (fun _ => none)))))), (q_109, .inr (7, [.int 0, .int 0, .int 0, .int 0, .int 0, .int 0]))] := hD
  refine W.widen (k := 29) (n := 170) (Nat.le_of_ble_eq_true rfl) (Nat.le_of_ble_eq_true rfl) ?_
  refine lv_dup hx hb dX0_init_74 rfl ?_
  have hPc := hP.sub (ws' := []) [] rfl
  have hKc := hK.sub (tys' := []) [] rfl
  refine va_callv (va_runIN (As := []) (rest := [.ref q_109, .int 19, .ref q_3]) ⟨hx, hb, hml, hown, hts⟩ (fX7_init l dC dI q_109) (⟨va_cnB 0 hts (gz_gP mGA_93 goodGA) rfl rfl rfl (nzA_X0_30 hz) (hts _ (List.mem_cons_of_mem _ mGA_92)) (by decide +kernel) ⟨Nat.le_of_ble_eq_true rfl, Nat.le_of_ble_eq_true rfl⟩, rfl, (hts _ (List.mem_cons_of_mem _ mGA_94))⟩) ⟨fun a U g mk q => by obtain ⟨q0, qP, qK⟩ := q; exact ⟨q0, qP, va_K.moved (u := U) (U := U.calling g mk a) (Vm.Alike.refl U.vm) qK⟩, fun U hU hW => ⟨rfl, by rw [hU]; exact hPc, va_K.moved hW.alike hKc⟩⟩ rfl rfl hl.1 rfl (lv_room (Nat.le_of_ble_eq_true rfl)) dX0_init_75 ⟨Nat.le_of_ble_eq_true rfl, Nat.le_of_ble_eq_true rfl⟩) hS (fun q _ h => h.elim) (fun q h => h.elim) (fun  u t H1 locs ht hvm hw hB hz1 hk1 hS => ?_)
  have hP := gz_keep hP hk1
  generalize H1 = H at hP hS ⊢
  refine va_astq hx hb hK hP hD hS 2 1 4 7 rfl rfl rfl rfl (by unfold vp_in; decide) dX0_init_78 (fun H locs hP hD hS => ?_)
  have hP : va_P (dC, dI) vwCl [(h0, .inr (0, [.int 0, .int 0, .int 0, .int 0, .int 0, .int 0, .int 0, .int 0, .int 0, .int 0, .ref q_1, .ref q_3, .ref q_5])), (q_1, .inl (k_2, 6, .inr (.inr (.inr (.inr f_30))))), (q_3, .inl (k_4, 24, .inr (.inr (.inr (.inr (va_up f_107 (19 : Int32).toNatClampNeg (some q_109))))))), (q_5, .inl (k_6, 8, .inr (.inr (.inr (.inr (fun _ => none)))))), (q_109, .inr (7, [.int 0, .int 0, .int 0, .int 0, .int 0, .int 0]))] H := hP
  have hD : va_D A [(h0, .inr (0, [.int 0, .int 0, .int 0, .int 0, .int 0, .int 0, .int 0, .int 0, .int 0, .int 0, .ref q_1, .ref q_3, .ref q_5])), (q_1, .inl (k_2, 6, .inr (.inr (.inr (.inr f_30))))), (q_3, .inl (k_4, 24, .inr (.inr (.inr (.inr (va_up f_107 (19 : Int32).toNatClampNeg (some q_109))))))), (q_5, .inl (k_6, 8, .inr (.inr (.inr (.inr (fun _ => none)))))), (q_109, .inr (7, [.int 0, .int 0, .int 0, .int 0, .int 0, .int 0]))] := hD
  generalize va_up f_107 (19 : Int32).toNatClampNeg (some q_109) = f_111 at hP hD
  have hP := hP.sub (ws' := [(h0, .inr (0, [.int 0, .int 0, .int 0, .int 0, .int 0, .int 0, .int 0, .int 0, .int 0, .int 0, .ref q_1, .ref q_3, .ref q_5])), (q_1, .inl (k_2, 6, .inr (.inr (.inr (.inr f_30))))), (q_3, .inl (k_4, 24, .inr (.inr (.inr (.inr f_111))))), (q_5, .inl (k_6, 8, .inr (.inr (.inr (.inr (fun _ => none))))))]) [0, 1, 2, 3] rfl
  have hD := hD.sub (ws' := [(h0, .inr (0, [.int 0, .int 0, .int 0, .int 0, .int 0, .int 0, .int 0, .int 0, .int 0, .int 0, .ref q_1, .ref q_3, .ref q_5])), (q_1, .inl (k_2, 6, .inr (.inr (.inr (.inr f_30))))), (q_3, .inl (k_4, 24, .inr (.inr (.inr (.inr f_111))))), (q_5, .inl (k_6, 8, .inr (.inr (.inr (.inr (fun _ => none))))))]) [0, 1, 2, 3] (by decide) rfl
  refine lv_iinc (v := 20) (lv' := [(1, .int 20), (0, .ref h0)]) hx hb dX0_init_79 hl (k := 0) rfl (by decide) (by decide) rfl (fun ls hl => ?_)
  refine lv_goto (tgt := 60) hx hb dX0_init_82 (by decide) ?_
  refine lv_iload_n hx hb dX0_init_60 rfl (lv_at hl 0 rfl) ?_
  refine lv_bipush (v := 24) hx hb dX0_init_61 (by decide) ?_
  refine lv_icmp_ge (tgt := 85) hx hb dX0_init_63 (by decide) (fun c_112 => absurd c_112 (by decide)) (fun c_112 => ?_)
  refine lv_aload_n hx hb dX0_init_66 rfl (lv_at hl 1 rfl) ?_
  refine va_get (D := (dC, dI)) (ci := 0) (v := .ref q_3) (C := RX0) (T := TX0) (N := 13) hx hb hts (fun w h => List.mem_cons_of_mem _ (jnGA_X0 w h)) hown hK hP 0 rfl rfl 11 (by decide) (hts _ (List.mem_cons_of_mem _ mGA_84)) (fun _ h9 => h9) rfl dX0_init_67 ?_
  refine lv_iload_n hx hb dX0_init_70 rfl (lv_at hl 0 rfl) ?_
  refine va_new (ci := 7) (fs := [.int 0, .int 0, .int 0, .int 0, .int 0, .int 0]) (C := RX7) (T := TX7) (N := 6) hx hb hts (fun w h => List.mem_cons_of_mem _ (jnGA_X7 w h)) tyX7 tyX7_ok hown (hts _ (List.mem_cons_of_mem _ mGA_83)) (hts _ (List.mem_cons_of_mem _ mGA_91)) (hts _ (List.mem_cons_of_mem _ mGA_92)) hK hP hD hS hA rfl dfX7 (Nat.le_of_ble_eq_true rfl) (Nat.le_of_ble_eq_true rfl) dX0_init_71 (fun q_113 H hP hD hS => ?_)
  have hP : va_P (dC, dI) vwCl [(h0, .inr (0, [.int 0, .int 0, .int 0, .int 0, .int 0, .int 0, .int 0, .int 0, .int 0, .int 0, .ref q_1, .ref q_3, .ref q_5])), (q_1, .inl (k_2, 6, .inr (.inr (.inr (.inr f_30))))), (q_3, .inl (k_4, 24, .inr (.inr (.inr (.inr f_111))))), (q_5, .inl (k_6, 8, .inr (.inr (.inr (.inr (fun _ => none)))))), (q_113, .inr (7, [.int 0, .int 0, .int 0, .int 0, .int 0, .int 0]))] H := hP
  have hD : va_D A [(h0, .inr (0, [.int 0, .int 0, .int 0, .int 0, .int 0, .int 0, .int 0, .int 0, .int 0, .int 0, .ref q_1, .ref q_3, .ref q_5])), (q_1, .inl (k_2, 6, .inr (.inr (.inr (.inr f_30))))), (q_3, .inl (k_4, 24, .inr (.inr (.inr (.inr f_111))))), (q_5, .inl (k_6, 8, .inr (.inr (.inr (.inr (fun _ => none)))))), (q_113, .inr (7, [.int 0, .int 0, .int 0, .int 0, .int 0, .int 0]))] := hD
  refine W.widen (k := 30) (n := 176) (Nat.le_of_ble_eq_true rfl) (Nat.le_of_ble_eq_true rfl) ?_
  refine lv_dup hx hb dX0_init_74 rfl ?_
  have hPc := hP.sub (ws' := []) [] rfl
  have hKc := hK.sub (tys' := []) [] rfl
  refine va_callv (va_runIN (As := []) (rest := [.ref q_113, .int 20, .ref q_3]) ⟨hx, hb, hml, hown, hts⟩ (fX7_init l dC dI q_113) (⟨va_cnB 0 hts (gz_gP mGA_93 goodGA) rfl rfl rfl (nzA_X0_30 hz) (hts _ (List.mem_cons_of_mem _ mGA_92)) (by decide +kernel) ⟨Nat.le_of_ble_eq_true rfl, Nat.le_of_ble_eq_true rfl⟩, rfl, (hts _ (List.mem_cons_of_mem _ mGA_94))⟩) ⟨fun a U g mk q => by obtain ⟨q0, qP, qK⟩ := q; exact ⟨q0, qP, va_K.moved (u := U) (U := U.calling g mk a) (Vm.Alike.refl U.vm) qK⟩, fun U hU hW => ⟨rfl, by rw [hU]; exact hPc, va_K.moved hW.alike hKc⟩⟩ rfl rfl hl.1 rfl (lv_room (Nat.le_of_ble_eq_true rfl)) dX0_init_75 ⟨Nat.le_of_ble_eq_true rfl, Nat.le_of_ble_eq_true rfl⟩) hS (fun q _ h => h.elim) (fun q h => h.elim) (fun  u t H1 locs ht hvm hw hB hz1 hk1 hS => ?_)
  have hP := gz_keep hP hk1
  generalize H1 = H at hP hS ⊢
  refine va_astq hx hb hK hP hD hS 2 1 4 7 rfl rfl rfl rfl (by unfold vp_in; decide) dX0_init_78 (fun H locs hP hD hS => ?_)
  have hP : va_P (dC, dI) vwCl [(h0, .inr (0, [.int 0, .int 0, .int 0, .int 0, .int 0, .int 0, .int 0, .int 0, .int 0, .int 0, .ref q_1, .ref q_3, .ref q_5])), (q_1, .inl (k_2, 6, .inr (.inr (.inr (.inr f_30))))), (q_3, .inl (k_4, 24, .inr (.inr (.inr (.inr (va_up f_111 (20 : Int32).toNatClampNeg (some q_113))))))), (q_5, .inl (k_6, 8, .inr (.inr (.inr (.inr (fun _ => none)))))), (q_113, .inr (7, [.int 0, .int 0, .int 0, .int 0, .int 0, .int 0]))] H := hP
  have hD : va_D A [(h0, .inr (0, [.int 0, .int 0, .int 0, .int 0, .int 0, .int 0, .int 0, .int 0, .int 0, .int 0, .ref q_1, .ref q_3, .ref q_5])), (q_1, .inl (k_2, 6, .inr (.inr (.inr (.inr f_30))))), (q_3, .inl (k_4, 24, .inr (.inr (.inr (.inr (va_up f_111 (20 : Int32).toNatClampNeg (some q_113))))))), (q_5, .inl (k_6, 8, .inr (.inr (.inr (.inr (fun _ => none)))))), (q_113, .inr (7, [.int 0, .int 0, .int 0, .int 0, .int 0, .int 0]))] := hD
  generalize va_up f_111 (20 : Int32).toNatClampNeg (some q_113) = f_115 at hP hD
  have hP := hP.sub (ws' := [(h0, .inr (0, [.int 0, .int 0, .int 0, .int 0, .int 0, .int 0, .int 0, .int 0, .int 0, .int 0, .ref q_1, .ref q_3, .ref q_5])), (q_1, .inl (k_2, 6, .inr (.inr (.inr (.inr f_30))))), (q_3, .inl (k_4, 24, .inr (.inr (.inr (.inr f_115))))), (q_5, .inl (k_6, 8, .inr (.inr (.inr (.inr (fun _ => none))))))]) [0, 1, 2, 3] rfl
  have hD := hD.sub (ws' := [(h0, .inr (0, [.int 0, .int 0, .int 0, .int 0, .int 0, .int 0, .int 0, .int 0, .int 0, .int 0, .ref q_1, .ref q_3, .ref q_5])), (q_1, .inl (k_2, 6, .inr (.inr (.inr (.inr f_30))))), (q_3, .inl (k_4, 24, .inr (.inr (.inr (.inr f_115))))), (q_5, .inl (k_6, 8, .inr (.inr (.inr (.inr (fun _ => none))))))]) [0, 1, 2, 3] (by decide) rfl
  refine lv_iinc (v := 21) (lv' := [(1, .int 21), (0, .ref h0)]) hx hb dX0_init_79 hl (k := 0) rfl (by decide) (by decide) rfl (fun ls hl => ?_)
  refine lv_goto (tgt := 60) hx hb dX0_init_82 (by decide) ?_
  refine lv_iload_n hx hb dX0_init_60 rfl (lv_at hl 0 rfl) ?_
  refine lv_bipush (v := 24) hx hb dX0_init_61 (by decide) ?_
  refine lv_icmp_ge (tgt := 85) hx hb dX0_init_63 (by decide) (fun c_116 => absurd c_116 (by decide)) (fun c_116 => ?_)
  refine lv_aload_n hx hb dX0_init_66 rfl (lv_at hl 1 rfl) ?_
  refine va_get (D := (dC, dI)) (ci := 0) (v := .ref q_3) (C := RX0) (T := TX0) (N := 13) hx hb hts (fun w h => List.mem_cons_of_mem _ (jnGA_X0 w h)) hown hK hP 0 rfl rfl 11 (by decide) (hts _ (List.mem_cons_of_mem _ mGA_84)) (fun _ h9 => h9) rfl dX0_init_67 ?_
  refine lv_iload_n hx hb dX0_init_70 rfl (lv_at hl 0 rfl) ?_
  refine va_new (ci := 7) (fs := [.int 0, .int 0, .int 0, .int 0, .int 0, .int 0]) (C := RX7) (T := TX7) (N := 6) hx hb hts (fun w h => List.mem_cons_of_mem _ (jnGA_X7 w h)) tyX7 tyX7_ok hown (hts _ (List.mem_cons_of_mem _ mGA_83)) (hts _ (List.mem_cons_of_mem _ mGA_91)) (hts _ (List.mem_cons_of_mem _ mGA_92)) hK hP hD hS hA rfl dfX7 (Nat.le_of_ble_eq_true rfl) (Nat.le_of_ble_eq_true rfl) dX0_init_71 (fun q_117 H hP hD hS => ?_)
  have hP : va_P (dC, dI) vwCl [(h0, .inr (0, [.int 0, .int 0, .int 0, .int 0, .int 0, .int 0, .int 0, .int 0, .int 0, .int 0, .ref q_1, .ref q_3, .ref q_5])), (q_1, .inl (k_2, 6, .inr (.inr (.inr (.inr f_30))))), (q_3, .inl (k_4, 24, .inr (.inr (.inr (.inr f_115))))), (q_5, .inl (k_6, 8, .inr (.inr (.inr (.inr (fun _ => none)))))), (q_117, .inr (7, [.int 0, .int 0, .int 0, .int 0, .int 0, .int 0]))] H := hP
  have hD : va_D A [(h0, .inr (0, [.int 0, .int 0, .int 0, .int 0, .int 0, .int 0, .int 0, .int 0, .int 0, .int 0, .ref q_1, .ref q_3, .ref q_5])), (q_1, .inl (k_2, 6, .inr (.inr (.inr (.inr f_30))))), (q_3, .inl (k_4, 24, .inr (.inr (.inr (.inr f_115))))), (q_5, .inl (k_6, 8, .inr (.inr (.inr (.inr (fun _ => none)))))), (q_117, .inr (7, [.int 0, .int 0, .int 0, .int 0, .int 0, .int 0]))] := hD
  refine W.widen (k := 31) (n := 182) (Nat.le_of_ble_eq_true rfl) (Nat.le_of_ble_eq_true rfl) ?_
  refine lv_dup hx hb dX0_init_74 rfl ?_
  have hPc := hP.sub (ws' := []) [] rfl
  have hKc := hK.sub (tys' := []) [] rfl
  refine va_callv (va_runIN (As := []) (rest := [.ref q_117, .int 21, .ref q_3]) ⟨hx, hb, hml, hown, hts⟩ (fX7_init l dC dI q_117) (⟨va_cnB 0 hts (gz_gP mGA_93 goodGA) rfl rfl rfl (nzA_X0_30 hz) (hts _ (List.mem_cons_of_mem _ mGA_92)) (by decide +kernel) ⟨Nat.le_of_ble_eq_true rfl, Nat.le_of_ble_eq_true rfl⟩, rfl, (hts _ (List.mem_cons_of_mem _ mGA_94))⟩) ⟨fun a U g mk q => by obtain ⟨q0, qP, qK⟩ := q; exact ⟨q0, qP, va_K.moved (u := U) (U := U.calling g mk a) (Vm.Alike.refl U.vm) qK⟩, fun U hU hW => ⟨rfl, by rw [hU]; exact hPc, va_K.moved hW.alike hKc⟩⟩ rfl rfl hl.1 rfl (lv_room (Nat.le_of_ble_eq_true rfl)) dX0_init_75 ⟨Nat.le_of_ble_eq_true rfl, Nat.le_of_ble_eq_true rfl⟩) hS (fun q _ h => h.elim) (fun q h => h.elim) (fun  u t H1 locs ht hvm hw hB hz1 hk1 hS => ?_)
  have hP := gz_keep hP hk1
  generalize H1 = H at hP hS ⊢
  refine va_astq hx hb hK hP hD hS 2 1 4 7 rfl rfl rfl rfl (by unfold vp_in; decide) dX0_init_78 (fun H locs hP hD hS => ?_)
  have hP : va_P (dC, dI) vwCl [(h0, .inr (0, [.int 0, .int 0, .int 0, .int 0, .int 0, .int 0, .int 0, .int 0, .int 0, .int 0, .ref q_1, .ref q_3, .ref q_5])), (q_1, .inl (k_2, 6, .inr (.inr (.inr (.inr f_30))))), (q_3, .inl (k_4, 24, .inr (.inr (.inr (.inr (va_up f_115 (21 : Int32).toNatClampNeg (some q_117))))))), (q_5, .inl (k_6, 8, .inr (.inr (.inr (.inr (fun _ => none)))))), (q_117, .inr (7, [.int 0, .int 0, .int 0, .int 0, .int 0, .int 0]))] H := hP
  have hD : va_D A [(h0, .inr (0, [.int 0, .int 0, .int 0, .int 0, .int 0, .int 0, .int 0, .int 0, .int 0, .int 0, .ref q_1, .ref q_3, .ref q_5])), (q_1, .inl (k_2, 6, .inr (.inr (.inr (.inr f_30))))), (q_3, .inl (k_4, 24, .inr (.inr (.inr (.inr (va_up f_115 (21 : Int32).toNatClampNeg (some q_117))))))), (q_5, .inl (k_6, 8, .inr (.inr (.inr (.inr (fun _ => none)))))), (q_117, .inr (7, [.int 0, .int 0, .int 0, .int 0, .int 0, .int 0]))] := hD
  generalize va_up f_115 (21 : Int32).toNatClampNeg (some q_117) = f_119 at hP hD
  have hP := hP.sub (ws' := [(h0, .inr (0, [.int 0, .int 0, .int 0, .int 0, .int 0, .int 0, .int 0, .int 0, .int 0, .int 0, .ref q_1, .ref q_3, .ref q_5])), (q_1, .inl (k_2, 6, .inr (.inr (.inr (.inr f_30))))), (q_3, .inl (k_4, 24, .inr (.inr (.inr (.inr f_119))))), (q_5, .inl (k_6, 8, .inr (.inr (.inr (.inr (fun _ => none))))))]) [0, 1, 2, 3] rfl
  have hD := hD.sub (ws' := [(h0, .inr (0, [.int 0, .int 0, .int 0, .int 0, .int 0, .int 0, .int 0, .int 0, .int 0, .int 0, .ref q_1, .ref q_3, .ref q_5])), (q_1, .inl (k_2, 6, .inr (.inr (.inr (.inr f_30))))), (q_3, .inl (k_4, 24, .inr (.inr (.inr (.inr f_119))))), (q_5, .inl (k_6, 8, .inr (.inr (.inr (.inr (fun _ => none))))))]) [0, 1, 2, 3] (by decide) rfl
  refine lv_iinc (v := 22) (lv' := [(1, .int 22), (0, .ref h0)]) hx hb dX0_init_79 hl (k := 0) rfl (by decide) (by decide) rfl (fun ls hl => ?_)
  refine lv_goto (tgt := 60) hx hb dX0_init_82 (by decide) ?_
  refine lv_iload_n hx hb dX0_init_60 rfl (lv_at hl 0 rfl) ?_
  refine lv_bipush (v := 24) hx hb dX0_init_61 (by decide) ?_
  refine lv_icmp_ge (tgt := 85) hx hb dX0_init_63 (by decide) (fun c_120 => absurd c_120 (by decide)) (fun c_120 => ?_)
  refine lv_aload_n hx hb dX0_init_66 rfl (lv_at hl 1 rfl) ?_
  refine va_get (D := (dC, dI)) (ci := 0) (v := .ref q_3) (C := RX0) (T := TX0) (N := 13) hx hb hts (fun w h => List.mem_cons_of_mem _ (jnGA_X0 w h)) hown hK hP 0 rfl rfl 11 (by decide) (hts _ (List.mem_cons_of_mem _ mGA_84)) (fun _ h9 => h9) rfl dX0_init_67 ?_
  refine lv_iload_n hx hb dX0_init_70 rfl (lv_at hl 0 rfl) ?_
  refine va_new (ci := 7) (fs := [.int 0, .int 0, .int 0, .int 0, .int 0, .int 0]) (C := RX7) (T := TX7) (N := 6) hx hb hts (fun w h => List.mem_cons_of_mem _ (jnGA_X7 w h)) tyX7 tyX7_ok hown (hts _ (List.mem_cons_of_mem _ mGA_83)) (hts _ (List.mem_cons_of_mem _ mGA_91)) (hts _ (List.mem_cons_of_mem _ mGA_92)) hK hP hD hS hA rfl dfX7 (Nat.le_of_ble_eq_true rfl) (Nat.le_of_ble_eq_true rfl) dX0_init_71 (fun q_121 H hP hD hS => ?_)
  have hP : va_P (dC, dI) vwCl [(h0, .inr (0, [.int 0, .int 0, .int 0, .int 0, .int 0, .int 0, .int 0, .int 0, .int 0, .int 0, .ref q_1, .ref q_3, .ref q_5])), (q_1, .inl (k_2, 6, .inr (.inr (.inr (.inr f_30))))), (q_3, .inl (k_4, 24, .inr (.inr (.inr (.inr f_119))))), (q_5, .inl (k_6, 8, .inr (.inr (.inr (.inr (fun _ => none)))))), (q_121, .inr (7, [.int 0, .int 0, .int 0, .int 0, .int 0, .int 0]))] H := hP
  have hD : va_D A [(h0, .inr (0, [.int 0, .int 0, .int 0, .int 0, .int 0, .int 0, .int 0, .int 0, .int 0, .int 0, .ref q_1, .ref q_3, .ref q_5])), (q_1, .inl (k_2, 6, .inr (.inr (.inr (.inr f_30))))), (q_3, .inl (k_4, 24, .inr (.inr (.inr (.inr f_119))))), (q_5, .inl (k_6, 8, .inr (.inr (.inr (.inr (fun _ => none)))))), (q_121, .inr (7, [.int 0, .int 0, .int 0, .int 0, .int 0, .int 0]))] := hD
  refine W.widen (k := 32) (n := 188) (Nat.le_of_ble_eq_true rfl) (Nat.le_of_ble_eq_true rfl) ?_
  refine lv_dup hx hb dX0_init_74 rfl ?_
  have hPc := hP.sub (ws' := []) [] rfl
  have hKc := hK.sub (tys' := []) [] rfl
  refine va_callv (va_runIN (As := []) (rest := [.ref q_121, .int 22, .ref q_3]) ⟨hx, hb, hml, hown, hts⟩ (fX7_init l dC dI q_121) (⟨va_cnB 0 hts (gz_gP mGA_93 goodGA) rfl rfl rfl (nzA_X0_30 hz) (hts _ (List.mem_cons_of_mem _ mGA_92)) (by decide +kernel) ⟨Nat.le_of_ble_eq_true rfl, Nat.le_of_ble_eq_true rfl⟩, rfl, (hts _ (List.mem_cons_of_mem _ mGA_94))⟩) ⟨fun a U g mk q => by obtain ⟨q0, qP, qK⟩ := q; exact ⟨q0, qP, va_K.moved (u := U) (U := U.calling g mk a) (Vm.Alike.refl U.vm) qK⟩, fun U hU hW => ⟨rfl, by rw [hU]; exact hPc, va_K.moved hW.alike hKc⟩⟩ rfl rfl hl.1 rfl (lv_room (Nat.le_of_ble_eq_true rfl)) dX0_init_75 ⟨Nat.le_of_ble_eq_true rfl, Nat.le_of_ble_eq_true rfl⟩) hS (fun q _ h => h.elim) (fun q h => h.elim) (fun  u t H1 locs ht hvm hw hB hz1 hk1 hS => ?_)
  have hP := gz_keep hP hk1
  generalize H1 = H at hP hS ⊢
  refine va_astq hx hb hK hP hD hS 2 1 4 7 rfl rfl rfl rfl (by unfold vp_in; decide) dX0_init_78 (fun H locs hP hD hS => ?_)
  have hP : va_P (dC, dI) vwCl [(h0, .inr (0, [.int 0, .int 0, .int 0, .int 0, .int 0, .int 0, .int 0, .int 0, .int 0, .int 0, .ref q_1, .ref q_3, .ref q_5])), (q_1, .inl (k_2, 6, .inr (.inr (.inr (.inr f_30))))), (q_3, .inl (k_4, 24, .inr (.inr (.inr (.inr (va_up f_119 (22 : Int32).toNatClampNeg (some q_121))))))), (q_5, .inl (k_6, 8, .inr (.inr (.inr (.inr (fun _ => none)))))), (q_121, .inr (7, [.int 0, .int 0, .int 0, .int 0, .int 0, .int 0]))] H := hP
  have hD : va_D A [(h0, .inr (0, [.int 0, .int 0, .int 0, .int 0, .int 0, .int 0, .int 0, .int 0, .int 0, .int 0, .ref q_1, .ref q_3, .ref q_5])), (q_1, .inl (k_2, 6, .inr (.inr (.inr (.inr f_30))))), (q_3, .inl (k_4, 24, .inr (.inr (.inr (.inr (va_up f_119 (22 : Int32).toNatClampNeg (some q_121))))))), (q_5, .inl (k_6, 8, .inr (.inr (.inr (.inr (fun _ => none)))))), (q_121, .inr (7, [.int 0, .int 0, .int 0, .int 0, .int 0, .int 0]))] := hD
  generalize va_up f_119 (22 : Int32).toNatClampNeg (some q_121) = f_123 at hP hD
  have hP := hP.sub (ws' := [(h0, .inr (0, [.int 0, .int 0, .int 0, .int 0, .int 0, .int 0, .int 0, .int 0, .int 0, .int 0, .ref q_1, .ref q_3, .ref q_5])), (q_1, .inl (k_2, 6, .inr (.inr (.inr (.inr f_30))))), (q_3, .inl (k_4, 24, .inr (.inr (.inr (.inr f_123))))), (q_5, .inl (k_6, 8, .inr (.inr (.inr (.inr (fun _ => none))))))]) [0, 1, 2, 3] rfl
  have hD := hD.sub (ws' := [(h0, .inr (0, [.int 0, .int 0, .int 0, .int 0, .int 0, .int 0, .int 0, .int 0, .int 0, .int 0, .ref q_1, .ref q_3, .ref q_5])), (q_1, .inl (k_2, 6, .inr (.inr (.inr (.inr f_30))))), (q_3, .inl (k_4, 24, .inr (.inr (.inr (.inr f_123))))), (q_5, .inl (k_6, 8, .inr (.inr (.inr (.inr (fun _ => none))))))]) [0, 1, 2, 3] (by decide) rfl
  refine lv_iinc (v := 23) (lv' := [(1, .int 23), (0, .ref h0)]) hx hb dX0_init_79 hl (k := 0) rfl (by decide) (by decide) rfl (fun ls hl => ?_)
  refine lv_goto (tgt := 60) hx hb dX0_init_82 (by decide) ?_
  refine lv_iload_n hx hb dX0_init_60 rfl (lv_at hl 0 rfl) ?_
  refine lv_bipush (v := 24) hx hb dX0_init_61 (by decide) ?_
  refine lv_icmp_ge (tgt := 85) hx hb dX0_init_63 (by decide) (fun c_124 => absurd c_124 (by decide)) (fun c_124 => ?_)
  refine lv_aload_n hx hb dX0_init_66 rfl (lv_at hl 1 rfl) ?_
  refine va_get (D := (dC, dI)) (ci := 0) (v := .ref q_3) (C := RX0) (T := TX0) (N := 13) hx hb hts (fun w h => List.mem_cons_of_mem _ (jnGA_X0 w h)) hown hK hP 0 rfl rfl 11 (by decide) (hts _ (List.mem_cons_of_mem _ mGA_84)) (fun _ h9 => h9) rfl dX0_init_67 ?_
  refine lv_iload_n hx hb dX0_init_70 rfl (lv_at hl 0 rfl) ?_
  refine va_new (ci := 7) (fs := [.int 0, .int 0, .int 0, .int 0, .int 0, .int 0]) (C := RX7) (T := TX7) (N := 6) hx hb hts (fun w h => List.mem_cons_of_mem _ (jnGA_X7 w h)) tyX7 tyX7_ok hown (hts _ (List.mem_cons_of_mem _ mGA_83)) (hts _ (List.mem_cons_of_mem _ mGA_91)) (hts _ (List.mem_cons_of_mem _ mGA_92)) hK hP hD hS hA rfl dfX7 (Nat.le_of_ble_eq_true rfl) (Nat.le_of_ble_eq_true rfl) dX0_init_71 (fun q_125 H hP hD hS => ?_)
  have hP : va_P (dC, dI) vwCl [(h0, .inr (0, [.int 0, .int 0, .int 0, .int 0, .int 0, .int 0, .int 0, .int 0, .int 0, .int 0, .ref q_1, .ref q_3, .ref q_5])), (q_1, .inl (k_2, 6, .inr (.inr (.inr (.inr f_30))))), (q_3, .inl (k_4, 24, .inr (.inr (.inr (.inr f_123))))), (q_5, .inl (k_6, 8, .inr (.inr (.inr (.inr (fun _ => none)))))), (q_125, .inr (7, [.int 0, .int 0, .int 0, .int 0, .int 0, .int 0]))] H := hP
  have hD : va_D A [(h0, .inr (0, [.int 0, .int 0, .int 0, .int 0, .int 0, .int 0, .int 0, .int 0, .int 0, .int 0, .ref q_1, .ref q_3, .ref q_5])), (q_1, .inl (k_2, 6, .inr (.inr (.inr (.inr f_30))))), (q_3, .inl (k_4, 24, .inr (.inr (.inr (.inr f_123))))), (q_5, .inl (k_6, 8, .inr (.inr (.inr (.inr (fun _ => none)))))), (q_125, .inr (7, [.int 0, .int 0, .int 0, .int 0, .int 0, .int 0]))] := hD
  refine W.widen (k := 33) (n := 194) (Nat.le_of_ble_eq_true rfl) (Nat.le_of_ble_eq_true rfl) ?_
  refine lv_dup hx hb dX0_init_74 rfl ?_
  have hPc := hP.sub (ws' := []) [] rfl
  have hKc := hK.sub (tys' := []) [] rfl
  refine va_callv (va_runIN (As := []) (rest := [.ref q_125, .int 23, .ref q_3]) ⟨hx, hb, hml, hown, hts⟩ (fX7_init l dC dI q_125) (⟨va_cnB 0 hts (gz_gP mGA_93 goodGA) rfl rfl rfl (nzA_X0_30 hz) (hts _ (List.mem_cons_of_mem _ mGA_92)) (by decide +kernel) ⟨Nat.le_of_ble_eq_true rfl, Nat.le_of_ble_eq_true rfl⟩, rfl, (hts _ (List.mem_cons_of_mem _ mGA_94))⟩) ⟨fun a U g mk q => by obtain ⟨q0, qP, qK⟩ := q; exact ⟨q0, qP, va_K.moved (u := U) (U := U.calling g mk a) (Vm.Alike.refl U.vm) qK⟩, fun U hU hW => ⟨rfl, by rw [hU]; exact hPc, va_K.moved hW.alike hKc⟩⟩ rfl rfl hl.1 rfl (lv_room (Nat.le_of_ble_eq_true rfl)) dX0_init_75 ⟨Nat.le_of_ble_eq_true rfl, Nat.le_of_ble_eq_true rfl⟩) hS (fun q _ h => h.elim) (fun q h => h.elim) (fun  u t H1 locs ht hvm hw hB hz1 hk1 hS => ?_)
  have hP := gz_keep hP hk1
  generalize H1 = H at hP hS ⊢
  refine va_astq hx hb hK hP hD hS 2 1 4 7 rfl rfl rfl rfl (by unfold vp_in; decide) dX0_init_78 (fun H locs hP hD hS => ?_)
  have hP : va_P (dC, dI) vwCl [(h0, .inr (0, [.int 0, .int 0, .int 0, .int 0, .int 0, .int 0, .int 0, .int 0, .int 0, .int 0, .ref q_1, .ref q_3, .ref q_5])), (q_1, .inl (k_2, 6, .inr (.inr (.inr (.inr f_30))))), (q_3, .inl (k_4, 24, .inr (.inr (.inr (.inr (va_up f_123 (23 : Int32).toNatClampNeg (some q_125))))))), (q_5, .inl (k_6, 8, .inr (.inr (.inr (.inr (fun _ => none)))))), (q_125, .inr (7, [.int 0, .int 0, .int 0, .int 0, .int 0, .int 0]))] H := hP
  have hD : va_D A [(h0, .inr (0, [.int 0, .int 0, .int 0, .int 0, .int 0, .int 0, .int 0, .int 0, .int 0, .int 0, .ref q_1, .ref q_3, .ref q_5])), (q_1, .inl (k_2, 6, .inr (.inr (.inr (.inr f_30))))), (q_3, .inl (k_4, 24, .inr (.inr (.inr (.inr (va_up f_123 (23 : Int32).toNatClampNeg (some q_125))))))), (q_5, .inl (k_6, 8, .inr (.inr (.inr (.inr (fun _ => none)))))), (q_125, .inr (7, [.int 0, .int 0, .int 0, .int 0, .int 0, .int 0]))] := hD
  generalize va_up f_123 (23 : Int32).toNatClampNeg (some q_125) = f_127 at hP hD
  have hP := hP.sub (ws' := [(h0, .inr (0, [.int 0, .int 0, .int 0, .int 0, .int 0, .int 0, .int 0, .int 0, .int 0, .int 0, .ref q_1, .ref q_3, .ref q_5])), (q_1, .inl (k_2, 6, .inr (.inr (.inr (.inr f_30))))), (q_3, .inl (k_4, 24, .inr (.inr (.inr (.inr f_127))))), (q_5, .inl (k_6, 8, .inr (.inr (.inr (.inr (fun _ => none))))))]) [0, 1, 2, 3] rfl
  have hD := hD.sub (ws' := [(h0, .inr (0, [.int 0, .int 0, .int 0, .int 0, .int 0, .int 0, .int 0, .int 0, .int 0, .int 0, .ref q_1, .ref q_3, .ref q_5])), (q_1, .inl (k_2, 6, .inr (.inr (.inr (.inr f_30))))), (q_3, .inl (k_4, 24, .inr (.inr (.inr (.inr f_127))))), (q_5, .inl (k_6, 8, .inr (.inr (.inr (.inr (fun _ => none))))))]) [0, 1, 2, 3] (by decide) rfl
  refine lv_iinc (v := 24) (lv' := [(1, .int 24), (0, .ref h0)]) hx hb dX0_init_79 hl (k := 0) rfl (by decide) (by decide) rfl (fun ls hl => ?_)
  refine lv_goto (tgt := 60) hx hb dX0_init_82 (by decide) ?_
  refine lv_iload_n hx hb dX0_init_60 rfl (lv_at hl 0 rfl) ?_
  refine lv_bipush (v := 24) hx hb dX0_init_61 (by decide) ?_
  refine lv_icmp_ge (tgt := 85) hx hb dX0_init_63 (by decide) (fun c_128 => ?_) (fun c_128 => absurd (by decide) c_128)
  refine lv_iconst (v := 0) hx hb dX0_init_85 (by decide) ?_
  refine lv_istore_n (lv' := [(1, .int 0), (0, .ref h0)]) hx hb dX0_init_86 rfl hl (by decide) rfl (fun ls hl => ?_)
  refine lv_iload_n hx hb dX0_init_87 rfl (lv_at hl 0 rfl) ?_
  refine lv_bipush (v := 8) hx hb dX0_init_88 (by decide) ?_
  refine lv_icmp_ge (tgt := 112) hx hb dX0_init_90 (by decide) (fun c_129 => absurd c_129 (by decide)) (fun c_129 => ?_)
  refine lv_aload_n hx hb dX0_init_93 rfl (lv_at hl 1 rfl) ?_
  refine va_get (D := (dC, dI)) (ci := 0) (v := .ref q_5) (C := RX0) (T := TX0) (N := 13) hx hb hts (fun w h => List.mem_cons_of_mem _ (jnGA_X0 w h)) hown hK hP 0 rfl rfl 12 (by decide) (hts _ (List.mem_cons_of_mem _ mGA_86)) (fun _ h9 => h9) rfl dX0_init_94 ?_
  refine lv_iload_n hx hb dX0_init_97 rfl (lv_at hl 0 rfl) ?_
  refine va_new (ci := 2) (fs := [.int 0, .int 0, .int 0, .int 0]) (C := RX2) (T := TX2) (N := 4) hx hb hts (fun w h => List.mem_cons_of_mem _ (jnGA_X2 w h)) tyX2 tyX2_ok hown (hts _ (List.mem_cons_of_mem _ mGA_85)) (hts _ (List.mem_cons_of_mem _ mGA_95)) (hts _ (List.mem_cons_of_mem _ mGA_96)) hK hP hD hS hA rfl dfX2 (Nat.le_of_ble_eq_true rfl) (Nat.le_of_ble_eq_true rfl) dX0_init_98 (fun q_130 H hP hD hS => ?_)
  have hP : va_P (dC, dI) vwCl [(h0, .inr (0, [.int 0, .int 0, .int 0, .int 0, .int 0, .int 0, .int 0, .int 0, .int 0, .int 0, .ref q_1, .ref q_3, .ref q_5])), (q_1, .inl (k_2, 6, .inr (.inr (.inr (.inr f_30))))), (q_3, .inl (k_4, 24, .inr (.inr (.inr (.inr f_127))))), (q_5, .inl (k_6, 8, .inr (.inr (.inr (.inr (fun _ => none)))))), (q_130, .inr (2, [.int 0, .int 0, .int 0, .int 0]))] H := hP
  have hD : va_D A [(h0, .inr (0, [.int 0, .int 0, .int 0, .int 0, .int 0, .int 0, .int 0, .int 0, .int 0, .int 0, .ref q_1, .ref q_3, .ref q_5])), (q_1, .inl (k_2, 6, .inr (.inr (.inr (.inr f_30))))), (q_3, .inl (k_4, 24, .inr (.inr (.inr (.inr f_127))))), (q_5, .inl (k_6, 8, .inr (.inr (.inr (.inr (fun _ => none)))))), (q_130, .inr (2, [.int 0, .int 0, .int 0, .int 0]))] := hD
  refine W.widen (k := 34) (n := 198) (Nat.le_of_ble_eq_true rfl) (Nat.le_of_ble_eq_true rfl) ?_
  refine lv_dup hx hb dX0_init_101 rfl ?_
  have hPc := hP.sub (ws' := []) [] rfl
  have hKc := hK.sub (tys' := []) [] rfl
  refine va_callv (va_runIN (As := []) (rest := [.ref q_130, .int 0, .ref q_5]) ⟨hx, hb, hml, hown, hts⟩ (fX2_init l dC dI q_130) (⟨va_cnB 0 hts (gz_gP mGA_97 goodGA) rfl rfl rfl (nzA_X0_31 hz) (hts _ (List.mem_cons_of_mem _ mGA_96)) (by decide +kernel) ⟨Nat.le_of_ble_eq_true rfl, Nat.le_of_ble_eq_true rfl⟩, rfl, (hts _ (List.mem_cons_of_mem _ mGA_98))⟩) ⟨fun a U g mk q => by obtain ⟨q0, qP, qK⟩ := q; exact ⟨q0, qP, va_K.moved (u := U) (U := U.calling g mk a) (Vm.Alike.refl U.vm) qK⟩, fun U hU hW => ⟨rfl, by rw [hU]; exact hPc, va_K.moved hW.alike hKc⟩⟩ rfl rfl hl.1 rfl (lv_room (Nat.le_of_ble_eq_true rfl)) dX0_init_102 ⟨Nat.le_of_ble_eq_true rfl, Nat.le_of_ble_eq_true rfl⟩) hS (fun q _ h => h.elim) (fun q h => h.elim) (fun  u t H1 locs ht hvm hw hB hz1 hk1 hS => ?_)
  have hP := gz_keep hP hk1
  generalize H1 = H at hP hS ⊢
  refine va_astq hx hb hK hP hD hS 3 2 4 2 rfl rfl rfl rfl (by unfold vp_in; decide) dX0_init_105 (fun H locs hP hD hS => ?_)
  have hP : va_P (dC, dI) vwCl [(h0, .inr (0, [.int 0, .int 0, .int 0, .int 0, .int 0, .int 0, .int 0, .int 0, .int 0, .int 0, .ref q_1, .ref q_3, .ref q_5])), (q_1, .inl (k_2, 6, .inr (.inr (.inr (.inr f_30))))), (q_3, .inl (k_4, 24, .inr (.inr (.inr (.inr f_127))))), (q_5, .inl (k_6, 8, .inr (.inr (.inr (.inr (va_up (fun _ => none) (0 : Int32).toNatClampNeg (some q_130))))))), (q_130, .inr (2, [.int 0, .int 0, .int 0, .int 0]))] H := hP
  have hD : va_D A [(h0, .inr (0, [.int 0, .int 0, .int 0, .int 0, .int 0, .int 0, .int 0, .int 0, .int 0, .int 0, .ref q_1, .ref q_3, .ref q_5])), (q_1, .inl (k_2, 6, .inr (.inr (.inr (.inr f_30))))), (q_3, .inl (k_4, 24, .inr (.inr (.inr (.inr f_127))))), (q_5, .inl (k_6, 8, .inr (.inr (.inr (.inr (va_up (fun _ => none) (0 : Int32).toNatClampNeg (some q_130))))))), (q_130, .inr (2, [.int 0, .int 0, .int 0, .int 0]))] := hD
  generalize va_up (fun _ => none) (0 : Int32).toNatClampNeg (some q_130) = f_132 at hP hD
  have hP := hP.sub (ws' := [(h0, .inr (0, [.int 0, .int 0, .int 0, .int 0, .int 0, .int 0, .int 0, .int 0, .int 0, .int 0, .ref q_1, .ref q_3, .ref q_5])), (q_1, .inl (k_2, 6, .inr (.inr (.inr (.inr f_30))))), (q_3, .inl (k_4, 24, .inr (.inr (.inr (.inr f_127))))), (q_5, .inl (k_6, 8, .inr (.inr (.inr (.inr f_132)))))]) [0, 1, 2, 3] rfl
  have hD := hD.sub (ws' := [(h0, .inr (0, [.int 0, .int 0, .int 0, .int 0, .int 0, .int 0, .int 0, .int 0, .int 0, .int 0, .ref q_1, .ref q_3, .ref q_5])), (q_1, .inl (k_2, 6, .inr (.inr (.inr (.inr f_30))))), (q_3, .inl (k_4, 24, .inr (.inr (.inr (.inr f_127))))), (q_5, .inl (k_6, 8, .inr (.inr (.inr (.inr f_132)))))]) [0, 1, 2, 3] (by decide) rfl
  refine lv_iinc (v := 1) (lv' := [(1, .int 1), (0, .ref h0)]) hx hb dX0_init_106 hl (k := 0) rfl (by decide) (by decide) rfl (fun ls hl => ?_)
  refine lv_goto (tgt := 87) hx hb dX0_init_109 (by decide) ?_
  refine lv_iload_n hx hb dX0_init_87 rfl (lv_at hl 0 rfl) ?_
  refine lv_bipush (v := 8) hx hb dX0_init_88 (by decide) ?_
  refine lv_icmp_ge (tgt := 112) hx hb dX0_init_90 (by decide) (fun c_133 => absurd c_133 (by decide)) (fun c_133 => ?_)
  refine lv_aload_n hx hb dX0_init_93 rfl (lv_at hl 1 rfl) ?_
  refine va_get (D := (dC, dI)) (ci := 0) (v := .ref q_5) (C := RX0) (T := TX0) (N := 13) hx hb hts (fun w h => List.mem_cons_of_mem _ (jnGA_X0 w h)) hown hK hP 0 rfl rfl 12 (by decide) (hts _ (List.mem_cons_of_mem _ mGA_86)) (fun _ h9 => h9) rfl dX0_init_94 ?_
  refine lv_iload_n hx hb dX0_init_97 rfl (lv_at hl 0 rfl) ?_
  refine va_new (ci := 2) (fs := [.int 0, .int 0, .int 0, .int 0]) (C := RX2) (T := TX2) (N := 4) hx hb hts (fun w h => List.mem_cons_of_mem _ (jnGA_X2 w h)) tyX2 tyX2_ok hown (hts _ (List.mem_cons_of_mem _ mGA_85)) (hts _ (List.mem_cons_of_mem _ mGA_95)) (hts _ (List.mem_cons_of_mem _ mGA_96)) hK hP hD hS hA rfl dfX2 (Nat.le_of_ble_eq_true rfl) (Nat.le_of_ble_eq_true rfl) dX0_init_98 (fun q_134 H hP hD hS => ?_)
  have hP : va_P (dC, dI) vwCl [(h0, .inr (0, [.int 0, .int 0, .int 0, .int 0, .int 0, .int 0, .int 0, .int 0, .int 0, .int 0, .ref q_1, .ref q_3, .ref q_5])), (q_1, .inl (k_2, 6, .inr (.inr (.inr (.inr f_30))))), (q_3, .inl (k_4, 24, .inr (.inr (.inr (.inr f_127))))), (q_5, .inl (k_6, 8, .inr (.inr (.inr (.inr f_132))))), (q_134, .inr (2, [.int 0, .int 0, .int 0, .int 0]))] H := hP
  have hD : va_D A [(h0, .inr (0, [.int 0, .int 0, .int 0, .int 0, .int 0, .int 0, .int 0, .int 0, .int 0, .int 0, .ref q_1, .ref q_3, .ref q_5])), (q_1, .inl (k_2, 6, .inr (.inr (.inr (.inr f_30))))), (q_3, .inl (k_4, 24, .inr (.inr (.inr (.inr f_127))))), (q_5, .inl (k_6, 8, .inr (.inr (.inr (.inr f_132))))), (q_134, .inr (2, [.int 0, .int 0, .int 0, .int 0]))] := hD
  refine W.widen (k := 35) (n := 202) (Nat.le_of_ble_eq_true rfl) (Nat.le_of_ble_eq_true rfl) ?_
  refine lv_dup hx hb dX0_init_101 rfl ?_
  have hPc := hP.sub (ws' := []) [] rfl
  have hKc := hK.sub (tys' := []) [] rfl
  refine va_callv (va_runIN (As := []) (rest := [.ref q_134, .int 1, .ref q_5]) ⟨hx, hb, hml, hown, hts⟩ (fX2_init l dC dI q_134) (⟨va_cnB 0 hts (gz_gP mGA_97 goodGA) rfl rfl rfl (nzA_X0_31 hz) (hts _ (List.mem_cons_of_mem _ mGA_96)) (by decide +kernel) ⟨Nat.le_of_ble_eq_true rfl, Nat.le_of_ble_eq_true rfl⟩, rfl, (hts _ (List.mem_cons_of_mem _ mGA_98))⟩) ⟨fun a U g mk q => by obtain ⟨q0, qP, qK⟩ := q; exact ⟨q0, qP, va_K.moved (u := U) (U := U.calling g mk a) (Vm.Alike.refl U.vm) qK⟩, fun U hU hW => ⟨rfl, by rw [hU]; exact hPc, va_K.moved hW.alike hKc⟩⟩ rfl rfl hl.1 rfl (lv_room (Nat.le_of_ble_eq_true rfl)) dX0_init_102 ⟨Nat.le_of_ble_eq_true rfl, Nat.le_of_ble_eq_true rfl⟩) hS (fun q _ h => h.elim) (fun q h => h.elim) (fun  u t H1 locs ht hvm hw hB hz1 hk1 hS => ?_)
  have hP := gz_keep hP hk1
  generalize H1 = H at hP hS ⊢
  refine va_astq hx hb hK hP hD hS 3 2 4 2 rfl rfl rfl rfl (by unfold vp_in; decide) dX0_init_105 (fun H locs hP hD hS => ?_)
  have hP : va_P (dC, dI) vwCl [(h0, .inr (0, [.int 0, .int 0, .int 0, .int 0, .int 0, .int 0, .int 0, .int 0, .int 0, .int 0, .ref q_1, .ref q_3, .ref q_5])), (q_1, .inl (k_2, 6, .inr (.inr (.inr (.inr f_30))))), (q_3, .inl (k_4, 24, .inr (.inr (.inr (.inr f_127))))), (q_5, .inl (k_6, 8, .inr (.inr (.inr (.inr (va_up f_132 (1 : Int32).toNatClampNeg (some q_134))))))), (q_134, .inr (2, [.int 0, .int 0, .int 0, .int 0]))] H := hP
  have hD : va_D A [(h0, .inr (0, [.int 0, .int 0, .int 0, .int 0, .int 0, .int 0, .int 0, .int 0, .int 0, .int 0, .ref q_1, .ref q_3, .ref q_5])), (q_1, .inl (k_2, 6, .inr (.inr (.inr (.inr f_30))))), (q_3, .inl (k_4, 24, .inr (.inr (.inr (.inr f_127))))), (q_5, .inl (k_6, 8, .inr (.inr (.inr (.inr (va_up f_132 (1 : Int32).toNatClampNeg (some q_134))))))), (q_134, .inr (2, [.int 0, .int 0, .int 0, .int 0]))] := hD
  generalize va_up f_132 (1 : Int32).toNatClampNeg (some q_134) = f_136 at hP hD
  have hP := hP.sub (ws' := [(h0, .inr (0, [.int 0, .int 0, .int 0, .int 0, .int 0, .int 0, .int 0, .int 0, .int 0, .int 0, .ref q_1, .ref q_3, .ref q_5])), (q_1, .inl (k_2, 6, .inr (.inr (.inr (.inr f_30))))), (q_3, .inl (k_4, 24, .inr (.inr (.inr (.inr f_127))))), (q_5, .inl (k_6, 8, .inr (.inr (.inr (.inr f_136)))))]) [0, 1, 2, 3] rfl
  have hD := hD.sub (ws' := [(h0, .inr (0, [.int 0, .int 0, .int 0, .int 0, .int 0, .int 0, .int 0, .int 0, .int 0, .int 0, .ref q_1, .ref q_3, .ref q_5])), (q_1, .inl (k_2, 6, .inr (.inr (.inr (.inr f_30))))), (q_3, .inl (k_4, 24, .inr (.inr (.inr (.inr f_127))))), (q_5, .inl (k_6, 8, .inr (.inr (.inr (.inr f_136)))))]) [0, 1, 2, 3] (by decide) rfl
  refine lv_iinc (v := 2) (lv' := [(1, .int 2), (0, .ref h0)]) hx hb dX0_init_106 hl (k := 0) rfl (by decide) (by decide) rfl (fun ls hl => ?_)
  refine lv_goto (tgt := 87) hx hb dX0_init_109 (by decide) ?_
  refine lv_iload_n hx hb dX0_init_87 rfl (lv_at hl 0 rfl) ?_
  refine lv_bipush (v := 8) hx hb dX0_init_88 (by decide) ?_
  refine lv_icmp_ge (tgt := 112) hx hb dX0_init_90 (by decide) (fun c_137 => absurd c_137 (by decide)) (fun c_137 => ?_)
  refine lv_aload_n hx hb dX0_init_93 rfl (lv_at hl 1 rfl) ?_
  refine va_get (D := (dC, dI)) (ci := 0) (v := .ref q_5) (C := RX0) (T := TX0) (N := 13) hx hb hts (fun w h => List.mem_cons_of_mem _ (jnGA_X0 w h)) hown hK hP 0 rfl rfl 12 (by decide) (hts _ (List.mem_cons_of_mem _ mGA_86)) (fun _ h9 => h9) rfl dX0_init_94 ?_
  refine lv_iload_n hx hb dX0_init_97 rfl (lv_at hl 0 rfl) ?_
  refine va_new (ci := 2) (fs := [.int 0, .int 0, .int 0, .int 0]) (C := RX2) (T := TX2) (N := 4) hx hb hts (fun w h => List.mem_cons_of_mem _ (jnGA_X2 w h)) tyX2 tyX2_ok hown (hts _ (List.mem_cons_of_mem _ mGA_85)) (hts _ (List.mem_cons_of_mem _ mGA_95)) (hts _ (List.mem_cons_of_mem _ mGA_96)) hK hP hD hS hA rfl dfX2 (Nat.le_of_ble_eq_true rfl) (Nat.le_of_ble_eq_true rfl) dX0_init_98 (fun q_138 H hP hD hS => ?_)
  have hP : va_P (dC, dI) vwCl [(h0, .inr (0, [.int 0, .int 0, .int 0, .int 0, .int 0, .int 0, .int 0, .int 0, .int 0, .int 0, .ref q_1, .ref q_3, .ref q_5])), (q_1, .inl (k_2, 6, .inr (.inr (.inr (.inr f_30))))), (q_3, .inl (k_4, 24, .inr (.inr (.inr (.inr f_127))))), (q_5, .inl (k_6, 8, .inr (.inr (.inr (.inr f_136))))), (q_138, .inr (2, [.int 0, .int 0, .int 0, .int 0]))] H := hP
  have hD : va_D A [(h0, .inr (0, [.int 0, .int 0, .int 0, .int 0, .int 0, .int 0, .int 0, .int 0, .int 0, .int 0, .ref q_1, .ref q_3, .ref q_5])), (q_1, .inl (k_2, 6, .inr (.inr (.inr (.inr f_30))))), (q_3, .inl (k_4, 24, .inr (.inr (.inr (.inr f_127))))), (q_5, .inl (k_6, 8, .inr (.inr (.inr (.inr f_136))))), (q_138, .inr (2, [.int 0, .int 0, .int 0, .int 0]))] := hD
  refine W.widen (k := 36) (n := 206) (Nat.le_of_ble_eq_true rfl) (Nat.le_of_ble_eq_true rfl) ?_
  refine lv_dup hx hb dX0_init_101 rfl ?_
  have hPc := hP.sub (ws' := []) [] rfl
  have hKc := hK.sub (tys' := []) [] rfl
  refine va_callv (va_runIN (As := []) (rest := [.ref q_138, .int 2, .ref q_5]) ⟨hx, hb, hml, hown, hts⟩ (fX2_init l dC dI q_138) (⟨va_cnB 0 hts (gz_gP mGA_97 goodGA) rfl rfl rfl (nzA_X0_31 hz) (hts _ (List.mem_cons_of_mem _ mGA_96)) (by decide +kernel) ⟨Nat.le_of_ble_eq_true rfl, Nat.le_of_ble_eq_true rfl⟩, rfl, (hts _ (List.mem_cons_of_mem _ mGA_98))⟩) ⟨fun a U g mk q => by obtain ⟨q0, qP, qK⟩ := q; exact ⟨q0, qP, va_K.moved (u := U) (U := U.calling g mk a) (Vm.Alike.refl U.vm) qK⟩, fun U hU hW => ⟨rfl, by rw [hU]; exact hPc, va_K.moved hW.alike hKc⟩⟩ rfl rfl hl.1 rfl (lv_room (Nat.le_of_ble_eq_true rfl)) dX0_init_102 ⟨Nat.le_of_ble_eq_true rfl, Nat.le_of_ble_eq_true rfl⟩) hS (fun q _ h => h.elim) (fun q h => h.elim) (fun  u t H1 locs ht hvm hw hB hz1 hk1 hS => ?_)
  have hP := gz_keep hP hk1
  generalize H1 = H at hP hS ⊢
  refine va_astq hx hb hK hP hD hS 3 2 4 2 rfl rfl rfl rfl (by unfold vp_in; decide) dX0_init_105 (fun H locs hP hD hS => ?_)
  have hP : va_P (dC, dI) vwCl [(h0, .inr (0, [.int 0, .int 0, .int 0, .int 0, .int 0, .int 0, .int 0, .int 0, .int 0, .int 0, .ref q_1, .ref q_3, .ref q_5])), (q_1, .inl (k_2, 6, .inr (.inr (.inr (.inr f_30))))), (q_3, .inl (k_4, 24, .inr (.inr (.inr (.inr f_127))))), (q_5, .inl (k_6, 8, .inr (.inr (.inr (.inr (va_up f_136 (2 : Int32).toNatClampNeg (some q_138))))))), (q_138, .inr (2, [.int 0, .int 0, .int 0, .int 0]))] H := hP
  have hD : va_D A [(h0, .inr (0, [.int 0, .int 0, .int 0, .int 0, .int 0, .int 0, .int 0, .int 0, .int 0, .int 0, .ref q_1, .ref q_3, .ref q_5])), (q_1, .inl (k_2, 6, .inr (.inr (.inr (.inr f_30))))), (q_3, .inl (k_4, 24, .inr (.inr (.inr (.inr f_127))))), (q_5, .inl (k_6, 8, .inr (.inr (.inr (.inr (va_up f_136 (2 : Int32).toNatClampNeg (some q_138))))))), (q_138, .inr (2, [.int 0, .int 0, .int 0, .int 0]))] := hD
  generalize va_up f_136 (2 : Int32).toNatClampNeg (some q_138) = f_140 at hP hD
  have hP := hP.sub (ws' := [(h0, .inr (0, [.int 0, .int 0, .int 0, .int 0, .int 0, .int 0, .int 0, .int 0, .int 0, .int 0, .ref q_1, .ref q_3, .ref q_5])), (q_1, .inl (k_2, 6, .inr (.inr (.inr (.inr f_30))))), (q_3, .inl (k_4, 24, .inr (.inr (.inr (.inr f_127))))), (q_5, .inl (k_6, 8, .inr (.inr (.inr (.inr f_140)))))]) [0, 1, 2, 3] rfl
  have hD := hD.sub (ws' := [(h0, .inr (0, [.int 0, .int 0, .int 0, .int 0, .int 0, .int 0, .int 0, .int 0, .int 0, .int 0, .ref q_1, .ref q_3, .ref q_5])), (q_1, .inl (k_2, 6, .inr (.inr (.inr (.inr f_30))))), (q_3, .inl (k_4, 24, .inr (.inr (.inr (.inr f_127))))), (q_5, .inl (k_6, 8, .inr (.inr (.inr (.inr f_140)))))]) [0, 1, 2, 3] (by decide) rfl
  refine lv_iinc (v := 3) (lv' := [(1, .int 3), (0, .ref h0)]) hx hb dX0_init_106 hl (k := 0) rfl (by decide) (by decide) rfl (fun ls hl => ?_)
  refine lv_goto (tgt := 87) hx hb dX0_init_109 (by decide) ?_
  refine lv_iload_n hx hb dX0_init_87 rfl (lv_at hl 0 rfl) ?_
  refine lv_bipush (v := 8) hx hb dX0_init_88 (by decide) ?_
  refine lv_icmp_ge (tgt := 112) hx hb dX0_init_90 (by decide) (fun c_141 => absurd c_141 (by decide)) (fun c_141 => ?_)
  refine lv_aload_n hx hb dX0_init_93 rfl (lv_at hl 1 rfl) ?_
  refine va_get (D := (dC, dI)) (ci := 0) (v := .ref q_5) (C := RX0) (T := TX0) (N := 13) hx hb hts (fun w h => List.mem_cons_of_mem _ (jnGA_X0 w h)) hown hK hP 0 rfl rfl 12 (by decide) (hts _ (List.mem_cons_of_mem _ mGA_86)) (fun _ h9 => h9) rfl dX0_init_94 ?_
  refine lv_iload_n hx hb dX0_init_97 rfl (lv_at hl 0 rfl) ?_
  refine va_new (ci := 2) (fs := [.int 0, .int 0, .int 0, .int 0]) (C := RX2) (T := TX2) (N := 4) hx hb hts (fun w h => List.mem_cons_of_mem _ (jnGA_X2 w h)) tyX2 tyX2_ok hown (hts _ (List.mem_cons_of_mem _ mGA_85)) (hts _ (List.mem_cons_of_mem _ mGA_95)) (hts _ (List.mem_cons_of_mem _ mGA_96)) hK hP hD hS hA rfl dfX2 (Nat.le_of_ble_eq_true rfl) (Nat.le_of_ble_eq_true rfl) dX0_init_98 (fun q_142 H hP hD hS => ?_)
  have hP : va_P (dC, dI) vwCl [(h0, .inr (0, [.int 0, .int 0, .int 0, .int 0, .int 0, .int 0, .int 0, .int 0, .int 0, .int 0, .ref q_1, .ref q_3, .ref q_5])), (q_1, .inl (k_2, 6, .inr (.inr (.inr (.inr f_30))))), (q_3, .inl (k_4, 24, .inr (.inr (.inr (.inr f_127))))), (q_5, .inl (k_6, 8, .inr (.inr (.inr (.inr f_140))))), (q_142, .inr (2, [.int 0, .int 0, .int 0, .int 0]))] H := hP
  have hD : va_D A [(h0, .inr (0, [.int 0, .int 0, .int 0, .int 0, .int 0, .int 0, .int 0, .int 0, .int 0, .int 0, .ref q_1, .ref q_3, .ref q_5])), (q_1, .inl (k_2, 6, .inr (.inr (.inr (.inr f_30))))), (q_3, .inl (k_4, 24, .inr (.inr (.inr (.inr f_127))))), (q_5, .inl (k_6, 8, .inr (.inr (.inr (.inr f_140))))), (q_142, .inr (2, [.int 0, .int 0, .int 0, .int 0]))] := hD
  refine W.widen (k := 37) (n := 210) (Nat.le_of_ble_eq_true rfl) (Nat.le_of_ble_eq_true rfl) ?_
  refine lv_dup hx hb dX0_init_101 rfl ?_
  have hPc := hP.sub (ws' := []) [] rfl
  have hKc := hK.sub (tys' := []) [] rfl
  refine va_callv (va_runIN (As := []) (rest := [.ref q_142, .int 3, .ref q_5]) ⟨hx, hb, hml, hown, hts⟩ (fX2_init l dC dI q_142) (⟨va_cnB 0 hts (gz_gP mGA_97 goodGA) rfl rfl rfl (nzA_X0_31 hz) (hts _ (List.mem_cons_of_mem _ mGA_96)) (by decide +kernel) ⟨Nat.le_of_ble_eq_true rfl, Nat.le_of_ble_eq_true rfl⟩, rfl, (hts _ (List.mem_cons_of_mem _ mGA_98))⟩) ⟨fun a U g mk q => by obtain ⟨q0, qP, qK⟩ := q; exact ⟨q0, qP, va_K.moved (u := U) (U := U.calling g mk a) (Vm.Alike.refl U.vm) qK⟩, fun U hU hW => ⟨rfl, by rw [hU]; exact hPc, va_K.moved hW.alike hKc⟩⟩ rfl rfl hl.1 rfl (lv_room (Nat.le_of_ble_eq_true rfl)) dX0_init_102 ⟨Nat.le_of_ble_eq_true rfl, Nat.le_of_ble_eq_true rfl⟩) hS (fun q _ h => h.elim) (fun q h => h.elim) (fun  u t H1 locs ht hvm hw hB hz1 hk1 hS => ?_)
  have hP := gz_keep hP hk1
  generalize H1 = H at hP hS ⊢
  refine va_astq hx hb hK hP hD hS 3 2 4 2 rfl rfl rfl rfl (by unfold vp_in; decide) dX0_init_105 (fun H locs hP hD hS => ?_)
  have hP : va_P (dC, dI) vwCl [(h0, .inr (0, [.int 0, .int 0, .int 0, .int 0, .int 0, .int 0, .int 0, .int 0, .int 0, .int 0, .ref q_1, .ref q_3, .ref q_5])), (q_1, .inl (k_2, 6, .inr (.inr (.inr (.inr f_30))))), (q_3, .inl (k_4, 24, .inr (.inr (.inr (.inr f_127))))), (q_5, .inl (k_6, 8, .inr (.inr (.inr (.inr (va_up f_140 (3 : Int32).toNatClampNeg (some q_142))))))), (q_142, .inr (2, [.int 0, .int 0, .int 0, .int 0]))] H := hP
  have hD : va_D A [(h0, .inr (0, [.int 0, .int 0, .int 0, .int 0, .int 0, .int 0, .int 0, .int 0, .int 0, .int 0, .ref q_1, .ref q_3, .ref q_5])), (q_1, .inl (k_2, 6, .inr (.inr (.inr (.inr f_30))))), (q_3, .inl (k_4, 24, .inr (.inr (.inr (.inr f_127))))), (q_5, .inl (k_6, 8, .inr (.inr (.inr (.inr (va_up f_140 (3 : Int32).toNatClampNeg (some q_142))))))), (q_142, .inr (2, [.int 0, .int 0, .int 0, .int 0]))] := hD
  generalize va_up f_140 (3 : Int32).toNatClampNeg (some q_142) = f_144 at hP hD
  have hP := hP.sub (ws' := [(h0, .inr (0, [.int 0, .int 0, .int 0, .int 0, .int 0, .int 0, .int 0, .int 0, .int 0, .int 0, .ref q_1, .ref q_3, .ref q_5])), (q_1, .inl (k_2, 6, .inr (.inr (.inr (.inr f_30))))), (q_3, .inl (k_4, 24, .inr (.inr (.inr (.inr f_127))))), (q_5, .inl (k_6, 8, .inr (.inr (.inr (.inr f_144)))))]) [0, 1, 2, 3] rfl
  have hD := hD.sub (ws' := [(h0, .inr (0, [.int 0, .int 0, .int 0, .int 0, .int 0, .int 0, .int 0, .int 0, .int 0, .int 0, .ref q_1, .ref q_3, .ref q_5])), (q_1, .inl (k_2, 6, .inr (.inr (.inr (.inr f_30))))), (q_3, .inl (k_4, 24, .inr (.inr (.inr (.inr f_127))))), (q_5, .inl (k_6, 8, .inr (.inr (.inr (.inr f_144)))))]) [0, 1, 2, 3] (by decide) rfl
  refine lv_iinc (v := 4) (lv' := [(1, .int 4), (0, .ref h0)]) hx hb dX0_init_106 hl (k := 0) rfl (by decide) (by decide) rfl (fun ls hl => ?_)
  refine lv_goto (tgt := 87) hx hb dX0_init_109 (by decide) ?_
  refine lv_iload_n hx hb dX0_init_87 rfl (lv_at hl 0 rfl) ?_
  refine lv_bipush (v := 8) hx hb dX0_init_88 (by decide) ?_
  refine lv_icmp_ge (tgt := 112) hx hb dX0_init_90 (by decide) (fun c_145 => absurd c_145 (by decide)) (fun c_145 => ?_)
  refine lv_aload_n hx hb dX0_init_93 rfl (lv_at hl 1 rfl) ?_
  refine va_get (D := (dC, dI)) (ci := 0) (v := .ref q_5) (C := RX0) (T := TX0) (N := 13) hx hb hts (fun w h => List.mem_cons_of_mem _ (jnGA_X0 w h)) hown hK hP 0 rfl rfl 12 (by decide) (hts _ (List.mem_cons_of_mem _ mGA_86)) (fun _ h9 => h9) rfl dX0_init_94 ?_
  refine lv_iload_n hx hb dX0_init_97 rfl (lv_at hl 0 rfl) ?_
  refine va_new (ci := 2) (fs := [.int 0, .int 0, .int 0, .int 0]) (C := RX2) (T := TX2) (N := 4) hx hb hts (fun w h => List.mem_cons_of_mem _ (jnGA_X2 w h)) tyX2 tyX2_ok hown (hts _ (List.mem_cons_of_mem _ mGA_85)) (hts _ (List.mem_cons_of_mem _ mGA_95)) (hts _ (List.mem_cons_of_mem _ mGA_96)) hK hP hD hS hA rfl dfX2 (Nat.le_of_ble_eq_true rfl) (Nat.le_of_ble_eq_true rfl) dX0_init_98 (fun q_146 H hP hD hS => ?_)
  have hP : va_P (dC, dI) vwCl [(h0, .inr (0, [.int 0, .int 0, .int 0, .int 0, .int 0, .int 0, .int 0, .int 0, .int 0, .int 0, .ref q_1, .ref q_3, .ref q_5])), (q_1, .inl (k_2, 6, .inr (.inr (.inr (.inr f_30))))), (q_3, .inl (k_4, 24, .inr (.inr (.inr (.inr f_127))))), (q_5, .inl (k_6, 8, .inr (.inr (.inr (.inr f_144))))), (q_146, .inr (2, [.int 0, .int 0, .int 0, .int 0]))] H := hP
  have hD : va_D A [(h0, .inr (0, [.int 0, .int 0, .int 0, .int 0, .int 0, .int 0, .int 0, .int 0, .int 0, .int 0, .ref q_1, .ref q_3, .ref q_5])), (q_1, .inl (k_2, 6, .inr (.inr (.inr (.inr f_30))))), (q_3, .inl (k_4, 24, .inr (.inr (.inr (.inr f_127))))), (q_5, .inl (k_6, 8, .inr (.inr (.inr (.inr f_144))))), (q_146, .inr (2, [.int 0, .int 0, .int 0, .int 0]))] := hD
  refine W.widen (k := 38) (n := 214) (Nat.le_of_ble_eq_true rfl) (Nat.le_of_ble_eq_true rfl) ?_
  refine lv_dup hx hb dX0_init_101 rfl ?_
  have hPc := hP.sub (ws' := []) [] rfl
  have hKc := hK.sub (tys' := []) [] rfl
  refine va_callv (va_runIN (As := []) (rest := [.ref q_146, .int 4, .ref q_5]) ⟨hx, hb, hml, hown, hts⟩ (fX2_init l dC dI q_146) (⟨va_cnB 0 hts (gz_gP mGA_97 goodGA) rfl rfl rfl (nzA_X0_31 hz) (hts _ (List.mem_cons_of_mem _ mGA_96)) (by decide +kernel) ⟨Nat.le_of_ble_eq_true rfl, Nat.le_of_ble_eq_true rfl⟩, rfl, (hts _ (List.mem_cons_of_mem _ mGA_98))⟩) ⟨fun a U g mk q => by obtain ⟨q0, qP, qK⟩ := q; exact ⟨q0, qP, va_K.moved (u := U) (U := U.calling g mk a) (Vm.Alike.refl U.vm) qK⟩, fun U hU hW => ⟨rfl, by rw [hU]; exact hPc, va_K.moved hW.alike hKc⟩⟩ rfl rfl hl.1 rfl (lv_room (Nat.le_of_ble_eq_true rfl)) dX0_init_102 ⟨Nat.le_of_ble_eq_true rfl, Nat.le_of_ble_eq_true rfl⟩) hS (fun q _ h => h.elim) (fun q h => h.elim) (fun  u t H1 locs ht hvm hw hB hz1 hk1 hS => ?_)
  have hP := gz_keep hP hk1
  generalize H1 = H at hP hS ⊢
  refine va_astq hx hb hK hP hD hS 3 2 4 2 rfl rfl rfl rfl (by unfold vp_in; decide) dX0_init_105 (fun H locs hP hD hS => ?_)
  have hP : va_P (dC, dI) vwCl [(h0, .inr (0, [.int 0, .int 0, .int 0, .int 0, .int 0, .int 0, .int 0, .int 0, .int 0, .int 0, .ref q_1, .ref q_3, .ref q_5])), (q_1, .inl (k_2, 6, .inr (.inr (.inr (.inr f_30))))), (q_3, .inl (k_4, 24, .inr (.inr (.inr (.inr f_127))))), (q_5, .inl (k_6, 8, .inr (.inr (.inr (.inr (va_up f_144 (4 : Int32).toNatClampNeg (some q_146))))))), (q_146, .inr (2, [.int 0, .int 0, .int 0, .int 0]))] H := hP
  have hD : va_D A [(h0, .inr (0, [.int 0, .int 0, .int 0, .int 0, .int 0, .int 0, .int 0, .int 0, .int 0, .int 0, .ref q_1, .ref q_3, .ref q_5])), (q_1, .inl (k_2, 6, .inr (.inr (.inr (.inr f_30))))), (q_3, .inl (k_4, 24, .inr (.inr (.inr (.inr f_127))))), (q_5, .inl (k_6, 8, .inr (.inr (.inr (.inr (va_up f_144 (4 : Int32).toNatClampNeg (some q_146))))))), (q_146, .inr (2, [.int 0, .int 0, .int 0, .int 0]))] := hD
  generalize va_up f_144 (4 : Int32).toNatClampNeg (some q_146) = f_148 at hP hD
  have hP := hP.sub (ws' := [(h0, .inr (0, [.int 0, .int 0, .int 0, .int 0, .int 0, .int 0, .int 0, .int 0, .int 0, .int 0, .ref q_1, .ref q_3, .ref q_5])), (q_1, .inl (k_2, 6, .inr (.inr (.inr (.inr f_30))))), (q_3, .inl (k_4, 24, .inr (.inr (.inr (.inr f_127))))), (q_5, .inl (k_6, 8, .inr (.inr (.inr (.inr f_148)))))]) [0, 1, 2, 3] rfl
  have hD := hD.sub (ws' := [(h0, .inr (0, [.int 0, .int 0, .int 0, .int 0, .int 0, .int 0, .int 0, .int 0, .int 0, .int 0, .ref q_1, .ref q_3, .ref q_5])), (q_1, .inl (k_2, 6, .inr (.inr (.inr (.inr f_30))))), (q_3, .inl (k_4, 24, .inr (.inr (.inr (.inr f_127))))), (q_5, .inl (k_6, 8, .inr (.inr (.inr (.inr f_148)))))]) [0, 1, 2, 3] (by decide) rfl
  refine lv_iinc (v := 5) (lv' := [(1, .int 5), (0, .ref h0)]) hx hb dX0_init_106 hl (k := 0) rfl (by decide) (by decide) rfl (fun ls hl => ?_)
  refine lv_goto (tgt := 87) hx hb dX0_init_109 (by decide) ?_
  refine lv_iload_n hx hb dX0_init_87 rfl (lv_at hl 0 rfl) ?_
  refine lv_bipush (v := 8) hx hb dX0_init_88 (by decide) ?_
  refine lv_icmp_ge (tgt := 112) hx hb dX0_init_90 (by decide) (fun c_149 => absurd c_149 (by decide)) (fun c_149 => ?_)
  refine lv_aload_n hx hb dX0_init_93 rfl (lv_at hl 1 rfl) ?_
  refine va_get (D := (dC, dI)) (ci := 0) (v := .ref q_5) (C := RX0) (T := TX0) (N := 13) hx hb hts (fun w h => List.mem_cons_of_mem _ (jnGA_X0 w h)) hown hK hP 0 rfl rfl 12 (by decide) (hts _ (List.mem_cons_of_mem _ mGA_86)) (fun _ h9 => h9) rfl dX0_init_94 ?_
  refine lv_iload_n hx hb dX0_init_97 rfl (lv_at hl 0 rfl) ?_
  refine va_new (ci := 2) (fs := [.int 0, .int 0, .int 0, .int 0]) (C := RX2) (T := TX2) (N := 4) hx hb hts (fun w h => List.mem_cons_of_mem _ (jnGA_X2 w h)) tyX2 tyX2_ok hown (hts _ (List.mem_cons_of_mem _ mGA_85)) (hts _ (List.mem_cons_of_mem _ mGA_95)) (hts _ (List.mem_cons_of_mem _ mGA_96)) hK hP hD hS hA rfl dfX2 (Nat.le_of_ble_eq_true rfl) (Nat.le_of_ble_eq_true rfl) dX0_init_98 (fun q_150 H hP hD hS => ?_)
  have hP : va_P (dC, dI) vwCl [(h0, .inr (0, [.int 0, .int 0, .int 0, .int 0, .int 0, .int 0, .int 0, .int 0, .int 0, .int 0, .ref q_1, .ref q_3, .ref q_5])), (q_1, .inl (k_2, 6, .inr (.inr (.inr (.inr f_30))))), (q_3, .inl (k_4, 24, .inr (.inr (.inr (.inr f_127))))), (q_5, .inl (k_6, 8, .inr (.inr (.inr (.inr f_148))))), (q_150, .inr (2, [.int 0, .int 0, .int 0, .int 0]))] H := hP
  have hD : va_D A [(h0, .inr (0, [.int 0, .int 0, .int 0, .int 0, .int 0, .int 0, .int 0, .int 0, .int 0, .int 0, .ref q_1, .ref q_3, .ref q_5])), (q_1, .inl (k_2, 6, .inr (.inr (.inr (.inr f_30))))), (q_3, .inl (k_4, 24, .inr (.inr (.inr (.inr f_127))))), (q_5, .inl (k_6, 8, .inr (.inr (.inr (.inr f_148))))), (q_150, .inr (2, [.int 0, .int 0, .int 0, .int 0]))] := hD
  refine W.widen (k := 39) (n := 218) (Nat.le_of_ble_eq_true rfl) (Nat.le_of_ble_eq_true rfl) ?_
  refine lv_dup hx hb dX0_init_101 rfl ?_
  have hPc := hP.sub (ws' := []) [] rfl
  have hKc := hK.sub (tys' := []) [] rfl
  refine va_callv (va_runIN (As := []) (rest := [.ref q_150, .int 5, .ref q_5]) ⟨hx, hb, hml, hown, hts⟩ (fX2_init l dC dI q_150) (⟨va_cnB 0 hts (gz_gP mGA_97 goodGA) rfl rfl rfl (nzA_X0_31 hz) (hts _ (List.mem_cons_of_mem _ mGA_96)) (by decide +kernel) ⟨Nat.le_of_ble_eq_true rfl, Nat.le_of_ble_eq_true rfl⟩, rfl, (hts _ (List.mem_cons_of_mem _ mGA_98))⟩) ⟨fun a U g mk q => by obtain ⟨q0, qP, qK⟩ := q; exact ⟨q0, qP, va_K.moved (u := U) (U := U.calling g mk a) (Vm.Alike.refl U.vm) qK⟩, fun U hU hW => ⟨rfl, by rw [hU]; exact hPc, va_K.moved hW.alike hKc⟩⟩ rfl rfl hl.1 rfl (lv_room (Nat.le_of_ble_eq_true rfl)) dX0_init_102 ⟨Nat.le_of_ble_eq_true rfl, Nat.le_of_ble_eq_true rfl⟩) hS (fun q _ h => h.elim) (fun q h => h.elim) (fun  u t H1 locs ht hvm hw hB hz1 hk1 hS => ?_)
  have hP := gz_keep hP hk1
  generalize H1 = H at hP hS ⊢
  refine va_astq hx hb hK hP hD hS 3 2 4 2 rfl rfl rfl rfl (by unfold vp_in; decide) dX0_init_105 (fun H locs hP hD hS => ?_)
  have hP : va_P (dC, dI) vwCl [(h0, .inr (0, [.int 0, .int 0, .int 0, .int 0, .int 0, .int 0, .int 0, .int 0, .int 0, .int 0, .ref q_1, .ref q_3, .ref q_5])), (q_1, .inl (k_2, 6, .inr (.inr (.inr (.inr f_30))))), (q_3, .inl (k_4, 24, .inr (.inr (.inr (.inr f_127))))), (q_5, .inl (k_6, 8, .inr (.inr (.inr (.inr (va_up f_148 (5 : Int32).toNatClampNeg (some q_150))))))), (q_150, .inr (2, [.int 0, .int 0, .int 0, .int 0]))] H := hP
  have hD : va_D A [(h0, .inr (0, [.int 0, .int 0, .int 0, .int 0, .int 0, .int 0, .int 0, .int 0, .int 0, .int 0, .ref q_1, .ref q_3, .ref q_5])), (q_1, .inl (k_2, 6, .inr (.inr (.inr (.inr f_30))))), (q_3, .inl (k_4, 24, .inr (.inr (.inr (.inr f_127))))), (q_5, .inl (k_6, 8, .inr (.inr (.inr (.inr (va_up f_148 (5 : Int32).toNatClampNeg (some q_150))))))), (q_150, .inr (2, [.int 0, .int 0, .int 0, .int 0]))] := hD
  generalize va_up f_148 (5 : Int32).toNatClampNeg (some q_150) = f_152 at hP hD
  have hP := hP.sub (ws' := [(h0, .inr (0, [.int 0, .int 0, .int 0, .int 0, .int 0, .int 0, .int 0, .int 0, .int 0, .int 0, .ref q_1, .ref q_3, .ref q_5])), (q_1, .inl (k_2, 6, .inr (.inr (.inr (.inr f_30))))), (q_3, .inl (k_4, 24, .inr (.inr (.inr (.inr f_127))))), (q_5, .inl (k_6, 8, .inr (.inr (.inr (.inr f_152)))))]) [0, 1, 2, 3] rfl
  have hD := hD.sub (ws' := [(h0, .inr (0, [.int 0, .int 0, .int 0, .int 0, .int 0, .int 0, .int 0, .int 0, .int 0, .int 0, .ref q_1, .ref q_3, .ref q_5])), (q_1, .inl (k_2, 6, .inr (.inr (.inr (.inr f_30))))), (q_3, .inl (k_4, 24, .inr (.inr (.inr (.inr f_127))))), (q_5, .inl (k_6, 8, .inr (.inr (.inr (.inr f_152)))))]) [0, 1, 2, 3] (by decide) rfl
  refine lv_iinc (v := 6) (lv' := [(1, .int 6), (0, .ref h0)]) hx hb dX0_init_106 hl (k := 0) rfl (by decide) (by decide) rfl (fun ls hl => ?_)
  refine lv_goto (tgt := 87) hx hb dX0_init_109 (by decide) ?_
  refine lv_iload_n hx hb dX0_init_87 rfl (lv_at hl 0 rfl) ?_
  refine lv_bipush (v := 8) hx hb dX0_init_88 (by decide) ?_
  refine lv_icmp_ge (tgt := 112) hx hb dX0_init_90 (by decide) (fun c_153 => absurd c_153 (by decide)) (fun c_153 => ?_)
  refine lv_aload_n hx hb dX0_init_93 rfl (lv_at hl 1 rfl) ?_
  refine va_get (D := (dC, dI)) (ci := 0) (v := .ref q_5) (C := RX0) (T := TX0) (N := 13) hx hb hts (fun w h => List.mem_cons_of_mem _ (jnGA_X0 w h)) hown hK hP 0 rfl rfl 12 (by decide) (hts _ (List.mem_cons_of_mem _ mGA_86)) (fun _ h9 => h9) rfl dX0_init_94 ?_
  refine lv_iload_n hx hb dX0_init_97 rfl (lv_at hl 0 rfl) ?_
  refine va_new (ci := 2) (fs := [.int 0, .int 0, .int 0, .int 0]) (C := RX2) (T := TX2) (N := 4) hx hb hts (fun w h => List.mem_cons_of_mem _ (jnGA_X2 w h)) tyX2 tyX2_ok hown (hts _ (List.mem_cons_of_mem _ mGA_85)) (hts _ (List.mem_cons_of_mem _ mGA_95)) (hts _ (List.mem_cons_of_mem _ mGA_96)) hK hP hD hS hA rfl dfX2 (Nat.le_of_ble_eq_true rfl) (Nat.le_of_ble_eq_true rfl) dX0_init_98 (fun q_154 H hP hD hS => ?_)
  have hP : va_P (dC, dI) vwCl [(h0, .inr (0, [.int 0, .int 0, .int 0, .int 0, .int 0, .int 0, .int 0, .int 0, .int 0, .int 0, .ref q_1, .ref q_3, .ref q_5])), (q_1, .inl (k_2, 6, .inr (.inr (.inr (.inr f_30))))), (q_3, .inl (k_4, 24, .inr (.inr (.inr (.inr f_127))))), (q_5, .inl (k_6, 8, .inr (.inr (.inr (.inr f_152))))), (q_154, .inr (2, [.int 0, .int 0, .int 0, .int 0]))] H := hP
  have hD : va_D A [(h0, .inr (0, [.int 0, .int 0, .int 0, .int 0, .int 0, .int 0, .int 0, .int 0, .int 0, .int 0, .ref q_1, .ref q_3, .ref q_5])), (q_1, .inl (k_2, 6, .inr (.inr (.inr (.inr f_30))))), (q_3, .inl (k_4, 24, .inr (.inr (.inr (.inr f_127))))), (q_5, .inl (k_6, 8, .inr (.inr (.inr (.inr f_152))))), (q_154, .inr (2, [.int 0, .int 0, .int 0, .int 0]))] := hD
  refine W.widen (k := 40) (n := 222) (Nat.le_of_ble_eq_true rfl) (Nat.le_of_ble_eq_true rfl) ?_
  refine lv_dup hx hb dX0_init_101 rfl ?_
  have hPc := hP.sub (ws' := []) [] rfl
  have hKc := hK.sub (tys' := []) [] rfl
  refine va_callv (va_runIN (As := []) (rest := [.ref q_154, .int 6, .ref q_5]) ⟨hx, hb, hml, hown, hts⟩ (fX2_init l dC dI q_154) (⟨va_cnB 0 hts (gz_gP mGA_97 goodGA) rfl rfl rfl (nzA_X0_31 hz) (hts _ (List.mem_cons_of_mem _ mGA_96)) (by decide +kernel) ⟨Nat.le_of_ble_eq_true rfl, Nat.le_of_ble_eq_true rfl⟩, rfl, (hts _ (List.mem_cons_of_mem _ mGA_98))⟩) ⟨fun a U g mk q => by obtain ⟨q0, qP, qK⟩ := q; exact ⟨q0, qP, va_K.moved (u := U) (U := U.calling g mk a) (Vm.Alike.refl U.vm) qK⟩, fun U hU hW => ⟨rfl, by rw [hU]; exact hPc, va_K.moved hW.alike hKc⟩⟩ rfl rfl hl.1 rfl (lv_room (Nat.le_of_ble_eq_true rfl)) dX0_init_102 ⟨Nat.le_of_ble_eq_true rfl, Nat.le_of_ble_eq_true rfl⟩) hS (fun q _ h => h.elim) (fun q h => h.elim) (fun  u t H1 locs ht hvm hw hB hz1 hk1 hS => ?_)
  have hP := gz_keep hP hk1
  generalize H1 = H at hP hS ⊢
  refine va_astq hx hb hK hP hD hS 3 2 4 2 rfl rfl rfl rfl (by unfold vp_in; decide) dX0_init_105 (fun H locs hP hD hS => ?_)
  have hP : va_P (dC, dI) vwCl [(h0, .inr (0, [.int 0, .int 0, .int 0, .int 0, .int 0, .int 0, .int 0, .int 0, .int 0, .int 0, .ref q_1, .ref q_3, .ref q_5])), (q_1, .inl (k_2, 6, .inr (.inr (.inr (.inr f_30))))), (q_3, .inl (k_4, 24, .inr (.inr (.inr (.inr f_127))))), (q_5, .inl (k_6, 8, .inr (.inr (.inr (.inr (va_up f_152 (6 : Int32).toNatClampNeg (some q_154))))))), (q_154, .inr (2, [.int 0, .int 0, .int 0, .int 0]))] H := hP
  have hD : va_D A [(h0, .inr (0, [.int 0, .int 0, .int 0, .int 0, .int 0, .int 0, .int 0, .int 0, .int 0, .int 0, .ref q_1, .ref q_3, .ref q_5])), (q_1, .inl (k_2, 6, .inr (.inr (.inr (.inr f_30))))), (q_3, .inl (k_4, 24, .inr (.inr (.inr (.inr f_127))))), (q_5, .inl (k_6, 8, .inr (.inr (.inr (.inr (va_up f_152 (6 : Int32).toNatClampNeg (some q_154))))))), (q_154, .inr (2, [.int 0, .int 0, .int 0, .int 0]))] := hD
  generalize va_up f_152 (6 : Int32).toNatClampNeg (some q_154) = f_156 at hP hD
  have hP := hP.sub (ws' := [(h0, .inr (0, [.int 0, .int 0, .int 0, .int 0, .int 0, .int 0, .int 0, .int 0, .int 0, .int 0, .ref q_1, .ref q_3, .ref q_5])), (q_1, .inl (k_2, 6, .inr (.inr (.inr (.inr f_30))))), (q_3, .inl (k_4, 24, .inr (.inr (.inr (.inr f_127))))), (q_5, .inl (k_6, 8, .inr (.inr (.inr (.inr f_156)))))]) [0, 1, 2, 3] rfl
  have hD := hD.sub (ws' := [(h0, .inr (0, [.int 0, .int 0, .int 0, .int 0, .int 0, .int 0, .int 0, .int 0, .int 0, .int 0, .ref q_1, .ref q_3, .ref q_5])), (q_1, .inl (k_2, 6, .inr (.inr (.inr (.inr f_30))))), (q_3, .inl (k_4, 24, .inr (.inr (.inr (.inr f_127))))), (q_5, .inl (k_6, 8, .inr (.inr (.inr (.inr f_156)))))]) [0, 1, 2, 3] (by decide) rfl
  refine lv_iinc (v := 7) (lv' := [(1, .int 7), (0, .ref h0)]) hx hb dX0_init_106 hl (k := 0) rfl (by decide) (by decide) rfl (fun ls hl => ?_)
  refine lv_goto (tgt := 87) hx hb dX0_init_109 (by decide) ?_
  refine lv_iload_n hx hb dX0_init_87 rfl (lv_at hl 0 rfl) ?_
  refine lv_bipush (v := 8) hx hb dX0_init_88 (by decide) ?_
  refine lv_icmp_ge (tgt := 112) hx hb dX0_init_90 (by decide) (fun c_157 => absurd c_157 (by decide)) (fun c_157 => ?_)
  refine lv_aload_n hx hb dX0_init_93 rfl (lv_at hl 1 rfl) ?_
  refine va_get (D := (dC, dI)) (ci := 0) (v := .ref q_5) (C := RX0) (T := TX0) (N := 13) hx hb hts (fun w h => List.mem_cons_of_mem _ (jnGA_X0 w h)) hown hK hP 0 rfl rfl 12 (by decide) (hts _ (List.mem_cons_of_mem _ mGA_86)) (fun _ h9 => h9) rfl dX0_init_94 ?_
  refine lv_iload_n hx hb dX0_init_97 rfl (lv_at hl 0 rfl) ?_
  refine va_new (ci := 2) (fs := [.int 0, .int 0, .int 0, .int 0]) (C := RX2) (T := TX2) (N := 4) hx hb hts (fun w h => List.mem_cons_of_mem _ (jnGA_X2 w h)) tyX2 tyX2_ok hown (hts _ (List.mem_cons_of_mem _ mGA_85)) (hts _ (List.mem_cons_of_mem _ mGA_95)) (hts _ (List.mem_cons_of_mem _ mGA_96)) hK hP hD hS hA rfl dfX2 (Nat.le_of_ble_eq_true rfl) (Nat.le_of_ble_eq_true rfl) dX0_init_98 (fun q_158 H hP hD hS => ?_)
  have hP : va_P (dC, dI) vwCl [(h0, .inr (0, [.int 0, .int 0, .int 0, .int 0, .int 0, .int 0, .int 0, .int 0, .int 0, .int 0, .ref q_1, .ref q_3, .ref q_5])), (q_1, .inl (k_2, 6, .inr (.inr (.inr (.inr f_30))))), (q_3, .inl (k_4, 24, .inr (.inr (.inr (.inr f_127))))), (q_5, .inl (k_6, 8, .inr (.inr (.inr (.inr f_156))))), (q_158, .inr (2, [.int 0, .int 0, .int 0, .int 0]))] H := hP
  have hD : va_D A [(h0, .inr (0, [.int 0, .int 0, .int 0, .int 0, .int 0, .int 0, .int 0, .int 0, .int 0, .int 0, .ref q_1, .ref q_3, .ref q_5])), (q_1, .inl (k_2, 6, .inr (.inr (.inr (.inr f_30))))), (q_3, .inl (k_4, 24, .inr (.inr (.inr (.inr f_127))))), (q_5, .inl (k_6, 8, .inr (.inr (.inr (.inr f_156))))), (q_158, .inr (2, [.int 0, .int 0, .int 0, .int 0]))] := hD
  refine W.widen (k := 41) (n := 226) (Nat.le_of_ble_eq_true rfl) (Nat.le_of_ble_eq_true rfl) ?_
  refine lv_dup hx hb dX0_init_101 rfl ?_
  have hPc := hP.sub (ws' := []) [] rfl
  have hKc := hK.sub (tys' := []) [] rfl
  refine va_callv (va_runIN (As := []) (rest := [.ref q_158, .int 7, .ref q_5]) ⟨hx, hb, hml, hown, hts⟩ (fX2_init l dC dI q_158) (⟨va_cnB 0 hts (gz_gP mGA_97 goodGA) rfl rfl rfl (nzA_X0_31 hz) (hts _ (List.mem_cons_of_mem _ mGA_96)) (by decide +kernel) ⟨Nat.le_of_ble_eq_true rfl, Nat.le_of_ble_eq_true rfl⟩, rfl, (hts _ (List.mem_cons_of_mem _ mGA_98))⟩) ⟨fun a U g mk q => by obtain ⟨q0, qP, qK⟩ := q; exact ⟨q0, qP, va_K.moved (u := U) (U := U.calling g mk a) (Vm.Alike.refl U.vm) qK⟩, fun U hU hW => ⟨rfl, by rw [hU]; exact hPc, va_K.moved hW.alike hKc⟩⟩ rfl rfl hl.1 rfl (lv_room (Nat.le_of_ble_eq_true rfl)) dX0_init_102 ⟨Nat.le_of_ble_eq_true rfl, Nat.le_of_ble_eq_true rfl⟩) hS (fun q _ h => h.elim) (fun q h => h.elim) (fun  u t H1 locs ht hvm hw hB hz1 hk1 hS => ?_)
  have hP := gz_keep hP hk1
  generalize H1 = H at hP hS ⊢
  refine va_astq hx hb hK hP hD hS 3 2 4 2 rfl rfl rfl rfl (by unfold vp_in; decide) dX0_init_105 (fun H locs hP hD hS => ?_)
  have hP : va_P (dC, dI) vwCl [(h0, .inr (0, [.int 0, .int 0, .int 0, .int 0, .int 0, .int 0, .int 0, .int 0, .int 0, .int 0, .ref q_1, .ref q_3, .ref q_5])), (q_1, .inl (k_2, 6, .inr (.inr (.inr (.inr f_30))))), (q_3, .inl (k_4, 24, .inr (.inr (.inr (.inr f_127))))), (q_5, .inl (k_6, 8, .inr (.inr (.inr (.inr (va_up f_156 (7 : Int32).toNatClampNeg (some q_158))))))), (q_158, .inr (2, [.int 0, .int 0, .int 0, .int 0]))] H := hP
  have hD : va_D A [(h0, .inr (0, [.int 0, .int 0, .int 0, .int 0, .int 0, .int 0, .int 0, .int 0, .int 0, .int 0, .ref q_1, .ref q_3, .ref q_5])), (q_1, .inl (k_2, 6, .inr (.inr (.inr (.inr f_30))))), (q_3, .inl (k_4, 24, .inr (.inr (.inr (.inr f_127))))), (q_5, .inl (k_6, 8, .inr (.inr (.inr (.inr (va_up f_156 (7 : Int32).toNatClampNeg (some q_158))))))), (q_158, .inr (2, [.int 0, .int 0, .int 0, .int 0]))] := hD
  generalize va_up f_156 (7 : Int32).toNatClampNeg (some q_158) = f_160 at hP hD
  have hP := hP.sub (ws' := [(h0, .inr (0, [.int 0, .int 0, .int 0, .int 0, .int 0, .int 0, .int 0, .int 0, .int 0, .int 0, .ref q_1, .ref q_3, .ref q_5])), (q_1, .inl (k_2, 6, .inr (.inr (.inr (.inr f_30))))), (q_3, .inl (k_4, 24, .inr (.inr (.inr (.inr f_127))))), (q_5, .inl (k_6, 8, .inr (.inr (.inr (.inr f_160)))))]) [0, 1, 2, 3] rfl
  have hD := hD.sub (ws' := [(h0, .inr (0, [.int 0, .int 0, .int 0, .int 0, .int 0, .int 0, .int 0, .int 0, .int 0, .int 0, .ref q_1, .ref q_3, .ref q_5])), (q_1, .inl (k_2, 6, .inr (.inr (.inr (.inr f_30))))), (q_3, .inl (k_4, 24, .inr (.inr (.inr (.inr f_127))))), (q_5, .inl (k_6, 8, .inr (.inr (.inr (.inr f_160)))))]) [0, 1, 2, 3] (by decide) rfl
  refine lv_iinc (v := 8) (lv' := [(1, .int 8), (0, .ref h0)]) hx hb dX0_init_106 hl (k := 0) rfl (by decide) (by decide) rfl (fun ls hl => ?_)
  refine lv_goto (tgt := 87) hx hb dX0_init_109 (by decide) ?_
  refine lv_iload_n hx hb dX0_init_87 rfl (lv_at hl 0 rfl) ?_
  refine lv_bipush (v := 8) hx hb dX0_init_88 (by decide) ?_
  refine lv_icmp_ge (tgt := 112) hx hb dX0_init_90 (by decide) (fun c_161 => ?_) (fun c_161 => absurd (by decide) c_161)
  have hP9 := hP.sub (ws' := [(h0, .inr (0, [.int 0, .int 0, .int 0, .int 0, .int 0, .int 0, .int 0, .int 0, .int 0, .int 0, .ref q_1, .ref q_3, .ref q_5]))]) [0] rfl
  have hD9 := hD.sub (ws' := [(h0, .inr (0, [.int 0, .int 0, .int 0, .int 0, .int 0, .int 0, .int 0, .int 0, .int 0, .int 0, .ref q_1, .ref q_3, .ref q_5]))]) [0] (by decide) rfl
  have hK9 := hK.sub (tys' := []) [] rfl
  exact W.vret hx hb hr (fun t ht hW => ⟨⟨(), rfl, trivial, q_1, q_3, q_5, by rw [ht]; exact hP9, va_K.moved hW.alike hK9, hD9⟩, hS.F ht⟩) hS.2.2 dX0_init_112
