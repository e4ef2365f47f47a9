theorem dX12_feed_0 : decode cX12_feed 0 = .ok (.aload_n 0, 1) := by decide +kernel
theorem dX12_feed_1 : decode cX12_feed 1 = .ok (.getfield 99, 3) := by decide +kernel
theorem dX12_feed_4 : decode cX12_feed 4 = .ok (.sipush 1580, 3) := by decide +kernel
theorem dX12_feed_7 : decode cX12_feed 7 = .ok (.if_icmp .le 5, 3) := by decide +kernel
theorem dX12_feed_12 : decode cX12_feed 12 = .ok (.iconst 5, 1) := by decide +kernel
theorem dX12_feed_13 : decode cX12_feed 13 = .ok (.newarray .int, 2) := by decide +kernel
theorem dX12_feed_15 : decode cX12_feed 15 = .ok (.dup, 1) := by decide +kernel
theorem dX12_feed_16 : decode cX12_feed 16 = .ok (.iconst 0, 1) := by decide +kernel
theorem dX12_feed_17 : decode cX12_feed 17 = .ok (.iload_n 1, 1) := by decide +kernel
theorem dX12_feed_18 : decode cX12_feed 18 = .ok (.iastore, 1) := by decide +kernel
theorem dX12_feed_19 : decode cX12_feed 19 = .ok (.dup, 1) := by decide +kernel
theorem dX12_feed_20 : decode cX12_feed 20 = .ok (.iconst 1, 1) := by decide +kernel
theorem dX12_feed_21 : decode cX12_feed 21 = .ok (.iload_n 2, 1) := by decide +kernel
theorem dX12_feed_22 : decode cX12_feed 22 = .ok (.iastore, 1) := by decide +kernel
theorem dX12_feed_23 : decode cX12_feed 23 = .ok (.dup, 1) := by decide +kernel
theorem dX12_feed_24 : decode cX12_feed 24 = .ok (.iconst 2, 1) := by decide +kernel
theorem dX12_feed_25 : decode cX12_feed 25 = .ok (.iload_n 3, 1) := by decide +kernel
theorem dX12_feed_26 : decode cX12_feed 26 = .ok (.iastore, 1) := by decide +kernel
theorem dX12_feed_27 : decode cX12_feed 27 = .ok (.dup, 1) := by decide +kernel
theorem dX12_feed_28 : decode cX12_feed 28 = .ok (.iconst 3, 1) := by decide +kernel
theorem dX12_feed_29 : decode cX12_feed 29 = .ok (.iload 4, 2) := by decide +kernel
theorem dX12_feed_31 : decode cX12_feed 31 = .ok (.iastore, 1) := by decide +kernel
theorem dX12_feed_32 : decode cX12_feed 32 = .ok (.dup, 1) := by decide +kernel
theorem dX12_feed_33 : decode cX12_feed 33 = .ok (.iconst 4, 1) := by decide +kernel
theorem dX12_feed_34 : decode cX12_feed 34 = .ok (.iload 5, 2) := by decide +kernel
theorem dX12_feed_36 : decode cX12_feed 36 = .ok (.iastore, 1) := by decide +kernel
theorem dX12_feed_37 : decode cX12_feed 37 = .ok (.astore 6, 2) := by decide +kernel
theorem dX12_feed_39 : decode cX12_feed 39 = .ok (.iconst 0, 1) := by decide +kernel
theorem dX12_feed_40 : decode cX12_feed 40 = .ok (.istore 7, 2) := by decide +kernel
theorem dX12_feed_42 : decode cX12_feed 42 = .ok (.iload 7, 2) := by decide +kernel
theorem dX12_feed_44 : decode cX12_feed 44 = .ok (.bipush 20, 2) := by decide +kernel
theorem dX12_feed_46 : decode cX12_feed 46 = .ok (.if_icmp .ge 43, 3) := by decide +kernel
theorem dX12_feed_49 : decode cX12_feed 49 = .ok (.aload_n 0, 1) := by decide +kernel
theorem dX12_feed_50 : decode cX12_feed 50 = .ok (.getfield 50, 3) := by decide +kernel
theorem dX12_feed_53 : decode cX12_feed 53 = .ok (.aload_n 0, 1) := by decide +kernel
theorem dX12_feed_54 : decode cX12_feed 54 = .ok (.getfield 99, 3) := by decide +kernel
theorem dX12_feed_57 : decode cX12_feed 57 = .ok (.iload 7, 2) := by decide +kernel
theorem dX12_feed_59 : decode cX12_feed 59 = .ok (.iadd, 1) := by decide +kernel
theorem dX12_feed_60 : decode cX12_feed 60 = .ok (.aload 6, 2) := by decide +kernel
theorem dX12_feed_62 : decode cX12_feed 62 = .ok (.iload 7, 2) := by decide +kernel
theorem dX12_feed_64 : decode cX12_feed 64 = .ok (.iconst 4, 1) := by decide +kernel
theorem dX12_feed_65 : decode cX12_feed 65 = .ok (.idiv, 1) := by decide +kernel
theorem dX12_feed_66 : decode cX12_feed 66 = .ok (.iaload, 1) := by decide +kernel
theorem dX12_feed_67 : decode cX12_feed 67 = .ok (.bipush 24, 2) := by decide +kernel
theorem dX12_feed_69 : decode cX12_feed 69 = .ok (.bipush 8, 2) := by decide +kernel
theorem dX12_feed_71 : decode cX12_feed 71 = .ok (.iload 7, 2) := by decide +kernel
theorem dX12_feed_73 : decode cX12_feed 73 = .ok (.iconst 4, 1) := by decide +kernel
theorem dX12_feed_74 : decode cX12_feed 74 = .ok (.irem, 1) := by decide +kernel
theorem dX12_feed_75 : decode cX12_feed 75 = .ok (.imul, 1) := by decide +kernel
theorem dX12_feed_76 : decode cX12_feed 76 = .ok (.isub, 1) := by decide +kernel
theorem dX12_feed_77 : decode cX12_feed 77 = .ok (.iushr, 1) := by decide +kernel
theorem dX12_feed_78 : decode cX12_feed 78 = .ok (.sipush 255, 3) := by decide +kernel
theorem dX12_feed_81 : decode cX12_feed 81 = .ok (.iand, 1) := by decide +kernel
theorem dX12_feed_82 : decode cX12_feed 82 = .ok (.iastore, 1) := by decide +kernel
theorem dX12_feed_83 : decode cX12_feed 83 = .ok (.iinc 7 1, 3) := by decide +kernel
theorem dX12_feed_86 : decode cX12_feed 86 = .ok (.goto (-44), 3) := by decide +kernel
theorem dX12_feed_89 : decode cX12_feed 89 = .ok (.aload_n 0, 1) := by decide +kernel
theorem dX12_feed_90 : decode cX12_feed 90 = .ok (.dup, 1) := by decide +kernel
theorem dX12_feed_91 : decode cX12_feed 91 = .ok (.getfield 99, 3) := by decide +kernel
theorem dX12_feed_94 : decode cX12_feed 94 = .ok (.bipush 20, 2) := by decide +kernel
theorem dX12_feed_96 : decode cX12_feed 96 = .ok (.iadd, 1) := by decide +kernel
theorem dX12_feed_97 : decode cX12_feed 97 = .ok (.putfield 99, 3) := by decide +kernel
theorem dX12_feed_100 : decode cX12_feed 100 = .ok (.aload_n 0, 1) := by decide +kernel
theorem dX12_feed_101 : decode cX12_feed 101 = .ok (.getfield 99, 3) := by decide +kernel
theorem dX12_feed_104 : decode cX12_feed 104 = .ok (.ireturn, 1) := by decide +kernel
set_option maxHeartbeats 4000000 in
set_option maxRecDepth 100000 in
theorem fX12_feed (l : Launch) (dC : Nat → ClassId) (dI : Nat → Nat → Nat) (sz : Nat) (h0 : Nat) (r : Nat → Nat) (kf : Nat → ClassId) (p0 : Int32) (p1 : Int32) (p2 : Int32) (p3 : Int32) (p4 : Int32) : Met l yX12_feed (.code yX12_feed cX12_feed 8 (some .int) :: wsGB) ({ frames := 0, cells := 1, slots := 5, locals := 0 }) (va_Pc [.ref h0, .int p0, .int p1, .int p2, .int p3, .int p4] (fun U => U.heap.size = sz ∧ va_P (dC, dI) vwCl [(h0, .inr (12, fsM r)), ((r 13), .inl ((kf 13), 1600, .inl (fun _ => 0)))] U.heap ∧ va_K (dC, dI) vwCl [((kf 13), .int)] U ∧ va_D (fun _ => True) [(h0, .inr (12, fsM r)), ((r 13), .inl ((kf 13), 1600, .inl (fun _ => 0)))])) (va_Qi (fun (r : Int32) (u : Unit) => r = 20) (fun _ _ => True) (va_A [(h0, .inr (12, fsM r)), ((r 13), .inl ((kf 13), 1600, .inl (fun _ => 0)))] sz)) 1 5 (va_A [(h0, .inr (12, fsM r)), ((r 13), .inl ((kf 13), 1600, .inl (fun _ => 0)))] sz) := by
  refine Met.ofW (cc := cX12_feed) (maxL := 8) (ret := (some .int)) (by decide) rfl ?_
  intro p e s m args below meth c s₁ B hml hv
  obtain ⟨rfl, hsz, hP, hK, hD0⟩ := hv
  have hx := B.exec
  have hb := B.bytes
  have hr := B.returns
  have hts := atoms_spec (ws := (.code yX12_feed cX12_feed 8 (some .int) :: wsGB)) B.pre
  have hown : s.vm.findClass RX12 = some m.cls := findClass_of_methodNamed B.named
  have hlocks := B.notSynchronized
  subst hsz
  have hD := hD0.self (sz := s.heap.size)
  generalize hAe : va_A [(h0, .inr (12, fsM r)), ((r 13), .inl ((kf 13), 1600, .inl (fun _ => 0)))] s.heap.size = A at hD ⊢
  have hA : ∀ q : Nat, s.heap.size ≤ q → A q := fun q h => by rw [← hAe]; exact Or.inr h
  have hS : va_S A s.heap s.heap [] := va_S.rf
  have hl := lv_entry ([.ref h0, .int p0, .int p1, .int p2, .int p3, .int p4]) (n := 8) (Nat.le_of_ble_eq_true rfl)
  rw [lg_entry_eq]
  generalize (lg_sl ([.ref h0, .int p0, .int p1, .int p2, .int p3, .int p4]) ++ List.replicate (8 - (lg_sl ([.ref h0, .int p0, .int p1, .int p2, .int p3, .int p4])).length) Slot.unset).toArray = ls at hl ⊢
  have hl : lv_has ls 8 [(0, .ref h0), (1, .int p0), (2, .int p1), (3, .int p2), (4, .int p3), (5, .int p4)] := hl
  refine lv_aload_n hx hb dX12_feed_0 rfl (lv_at hl 0 rfl) ?_
  refine va_get (D := (dC, dI)) (ci := 12) (v := .int 0) (C := RX12) (T := TX12) (N := 57) hx hb hts (fun w h => List.mem_cons_of_mem _ (jnGB_X12 w h)) hown hK hP 0 rfl rfl 26 (by decide) (hts _ (List.mem_cons_of_mem _ mGB_30)) (fun _ h9 => h9) rfl dX12_feed_1 ?_
  refine lv_sipush (v := 1580) hx hb dX12_feed_4 (by decide) ?_
  refine lv_icmp_le (tgt := 12) hx hb dX12_feed_7 (by decide) (fun c_1 => ?_) (fun c_1 => absurd (by decide) c_1)
  refine lv_iconst (v := 5) hx hb dX12_feed_12 (by decide) ?_
  refine va_newa (atype := .int) (ty := .int) (a0 := (5, .inl (fun _ => 0))) hx hb (hts _ (List.mem_cons_of_mem _ mGB_37)) rfl hK hP hD hS hA (fun _ => rfl) (by decide) (by decide) (Nat.le_of_ble_eq_true rfl) (Nat.le_of_ble_eq_true rfl) (Nat.le_of_ble_eq_true rfl) dX12_feed_13 (fun q_2 k_3 H hK hP hD hS => ?_)
  have hP : va_P (dC, dI) vwCl [(h0, .inr (12, fsM r)), ((r 13), .inl ((kf 13), 1600, .inl (fun _ => 0))), (q_2, .inl (k_3, 5, .inl (fun _ => 0)))] H := hP
  have hD : va_D A [(h0, .inr (12, fsM r)), ((r 13), .inl ((kf 13), 1600, .inl (fun _ => 0))), (q_2, .inl (k_3, 5, .inl (fun _ => 0)))] := hD
  have hK : va_K (dC, dI) vwCl [((kf 13), .int), (k_3, .int)] s := hK
  refine W.widen (k := 1) (n := 5) (Nat.le_of_ble_eq_true rfl) (Nat.le_of_ble_eq_true rfl) ?_
  refine lv_dup hx hb dX12_feed_15 rfl ?_
  refine lv_iconst (v := 0) hx hb dX12_feed_16 (by decide) ?_
  refine lv_iload_n hx hb dX12_feed_17 rfl (lv_at hl 1 rfl) ?_
  refine va_iast hx hb hK hP hD hS 2 1 rfl rfl (by unfold vp_in; decide) dX12_feed_18 (fun H locs hP hD hS => ?_)
  have hP : va_P (dC, dI) vwCl [(h0, .inr (12, fsM r)), ((r 13), .inl ((kf 13), 1600, .inl (fun _ => 0))), (q_2, .inl (k_3, 5, .inl (upd (fun _ => 0) (0 : Int32).toNatClampNeg p0)))] H := hP
  have hD : va_D A [(h0, .inr (12, fsM r)), ((r 13), .inl ((kf 13), 1600, .inl (fun _ => 0))), (q_2, .inl (k_3, 5, .inl (upd (fun _ => 0) (0 : Int32).toNatClampNeg p0)))] := hD
  generalize upd (fun _ => 0) (0 : Int32).toNatClampNeg p0 = f_4 at hP hD
  refine lv_dup hx hb dX12_feed_19 rfl ?_
  refine lv_iconst (v := 1) hx hb dX12_feed_20 (by decide) ?_
  refine lv_iload_n hx hb dX12_feed_21 rfl (lv_at hl 2 rfl) ?_
  refine va_iast hx hb hK hP hD hS 2 1 rfl rfl (by unfold vp_in; decide) dX12_feed_22 (fun H locs hP hD hS => ?_)
  have hP : va_P (dC, dI) vwCl [(h0, .inr (12, fsM r)), ((r 13), .inl ((kf 13), 1600, .inl (fun _ => 0))), (q_2, .inl (k_3, 5, .inl (upd f_4 (1 : Int32).toNatClampNeg p1)))] H := hP
  have hD : va_D A [(h0, .inr (12, fsM r)), ((r 13), .inl ((kf 13), 1600, .inl (fun _ => 0))), (q_2, .inl (k_3, 5, .inl (upd f_4 (1 : Int32).toNatClampNeg p1)))] := hD
  generalize upd f_4 (1 : Int32).toNatClampNeg p1 = f_5 at hP hD
  refine lv_dup hx hb dX12_feed_23 rfl ?_
  refine lv_iconst (v := 2) hx hb dX12_feed_24 (by decide) ?_
  refine lv_iload_n hx hb dX12_feed_25 rfl (lv_at hl 3 rfl) ?_
  refine va_iast hx hb hK hP hD hS 2 1 rfl rfl (by unfold vp_in; decide) dX12_feed_26 (fun H locs hP hD hS => ?_)
  have hP : va_P (dC, dI) vwCl [(h0, .inr (12, fsM r)), ((r 13), .inl ((kf 13), 1600, .inl (fun _ => 0))), (q_2, .inl (k_3, 5, .inl (upd f_5 (2 : Int32).toNatClampNeg p2)))] H := hP
  have hD : va_D A [(h0, .inr (12, fsM r)), ((r 13), .inl ((kf 13), 1600, .inl (fun _ => 0))), (q_2, .inl (k_3, 5, .inl (upd f_5 (2 : Int32).toNatClampNeg p2)))] := hD
  generalize upd f_5 (2 : Int32).toNatClampNeg p2 = f_6 at hP hD
  refine lv_dup hx hb dX12_feed_27 rfl ?_
  refine lv_iconst (v := 3) hx hb dX12_feed_28 (by decide) ?_
  refine lv_iload hx hb dX12_feed_29 (lv_at hl 4 rfl) ?_
  refine va_iast hx hb hK hP hD hS 2 1 rfl rfl (by unfold vp_in; decide) dX12_feed_31 (fun H locs hP hD hS => ?_)
  have hP : va_P (dC, dI) vwCl [(h0, .inr (12, fsM r)), ((r 13), .inl ((kf 13), 1600, .inl (fun _ => 0))), (q_2, .inl (k_3, 5, .inl (upd f_6 (3 : Int32).toNatClampNeg p3)))] H := hP
  have hD : va_D A [(h0, .inr (12, fsM r)), ((r 13), .inl ((kf 13), 1600, .inl (fun _ => 0))), (q_2, .inl (k_3, 5, .inl (upd f_6 (3 : Int32).toNatClampNeg p3)))] := hD
  generalize upd f_6 (3 : Int32).toNatClampNeg p3 = f_7 at hP hD
  refine lv_dup hx hb dX12_feed_32 rfl ?_
  refine lv_iconst (v := 4) hx hb dX12_feed_33 (by decide) ?_
  refine lv_iload hx hb dX12_feed_34 (lv_at hl 5 rfl) ?_
  refine va_iast hx hb hK hP hD hS 2 1 rfl rfl (by unfold vp_in; decide) dX12_feed_36 (fun H locs hP hD hS => ?_)
  have hP : va_P (dC, dI) vwCl [(h0, .inr (12, fsM r)), ((r 13), .inl ((kf 13), 1600, .inl (fun _ => 0))), (q_2, .inl (k_3, 5, .inl (upd f_7 (4 : Int32).toNatClampNeg p4)))] H := hP
  have hD : va_D A [(h0, .inr (12, fsM r)), ((r 13), .inl ((kf 13), 1600, .inl (fun _ => 0))), (q_2, .inl (k_3, 5, .inl (upd f_7 (4 : Int32).toNatClampNeg p4)))] := hD
  generalize upd f_7 (4 : Int32).toNatClampNeg p4 = f_8 at hP hD
  refine lv_astore (lv' := [(6, .ref q_2), (0, .ref h0), (1, .int p0), (2, .int p1), (3, .int p2), (4, .int p3), (5, .int p4)]) hx hb dX12_feed_37 hl (by decide) rfl (fun ls hl => ?_)
  refine lv_iconst (v := 0) hx hb dX12_feed_39 (by decide) ?_
  refine lv_istore (lv' := [(7, .int 0), (6, .ref q_2), (0, .ref h0), (1, .int p0), (2, .int p1), (3, .int p2), (4, .int p3), (5, .int p4)]) hx hb dX12_feed_40 hl (by decide) rfl (fun ls hl => ?_)
  refine lv_iload hx hb dX12_feed_42 (lv_at hl 0 rfl) ?_
  refine lv_bipush (v := 20) hx hb dX12_feed_44 (by decide) ?_
  refine lv_icmp_ge (tgt := 89) hx hb dX12_feed_46 (by decide) (fun c_9 => absurd c_9 (by decide)) (fun c_9 => ?_)
  refine lv_aload_n hx hb dX12_feed_49 rfl (lv_at hl 2 rfl) ?_
  refine va_get (D := (dC, dI)) (ci := 12) (v := .ref (r 13)) (C := RX12) (T := TX12) (N := 57) hx hb hts (fun w h => List.mem_cons_of_mem _ (jnGB_X12 w h)) hown hK hP 0 rfl rfl 25 (by decide) (hts _ (List.mem_cons_of_mem _ mGB_52)) (fun _ h9 => h9) rfl dX12_feed_50 ?_
  refine lv_aload_n hx hb dX12_feed_53 rfl (lv_at hl 2 rfl) ?_
  refine va_get (D := (dC, dI)) (ci := 12) (v := .int 0) (C := RX12) (T := TX12) (N := 57) hx hb hts (fun w h => List.mem_cons_of_mem _ (jnGB_X12 w h)) hown hK hP 0 rfl rfl 26 (by decide) (hts _ (List.mem_cons_of_mem _ mGB_30)) (fun _ h9 => h9) rfl dX12_feed_54 ?_
  refine lv_iload hx hb dX12_feed_57 (lv_at hl 0 rfl) ?_
  refine lv_iadd hx hb dX12_feed_59 ?_
  refine gz_topi (y := 0) (by decide) ?_
  refine lv_aload hx hb dX12_feed_60 (lv_at hl 1 rfl) ?_
  refine lv_iload hx hb dX12_feed_62 (lv_at hl 0 rfl) ?_
  refine lv_iconst (v := 4) hx hb dX12_feed_64 (by decide) ?_
  refine lv_idiv hx hb dX12_feed_65 (by decide) ?_
  refine gz_topi (y := 0) (by decide) ?_
  refine va_iald hx hb hK hP 2 1 rfl rfl (by unfold vp_in; decide) dX12_feed_66 ?_
  refine lv_topi (fun x_10 ex_10 => ?_)
  refine lv_bipush (v := 24) hx hb dX12_feed_67 (by decide) ?_
  refine lv_bipush (v := 8) hx hb dX12_feed_69 (by decide) ?_
  refine lv_iload hx hb dX12_feed_71 (lv_at hl 0 rfl) ?_
  refine lv_iconst (v := 4) hx hb dX12_feed_73 (by decide) ?_
  refine lv_irem hx hb dX12_feed_74 (by decide) ?_
  refine gz_topi (y := 0) (by decide) ?_
  refine lv_imul hx hb dX12_feed_75 ?_
  refine gz_topi (y := 0) (by decide) ?_
  refine lv_isub hx hb dX12_feed_76 ?_
  refine gz_topi (y := 24) (by decide) ?_
  refine lv_iushr hx hb dX12_feed_77 rfl ?_
  refine lv_topi (fun x_11 ex_11 => ?_)
  refine lv_sipush (v := 255) hx hb dX12_feed_78 (by decide) ?_
  refine lv_iand hx hb dX12_feed_81 ?_
  refine lv_topi (fun x_12 ex_12 => ?_)
  refine va_iast hx hb hK hP hD hS 1 0 rfl rfl (by unfold vp_in; decide) dX12_feed_82 (fun H locs hP hD hS => ?_)
  have hP : va_P (dC, dI) vwCl [(h0, .inr (12, fsM r)), ((r 13), .inl ((kf 13), 1600, .inl (upd (fun _ => 0) (0 : Int32).toNatClampNeg x_12))), (q_2, .inl (k_3, 5, .inl f_8))] H := hP
  have hD : va_D A [(h0, .inr (12, fsM r)), ((r 13), .inl ((kf 13), 1600, .inl (upd (fun _ => 0) (0 : Int32).toNatClampNeg x_12))), (q_2, .inl (k_3, 5, .inl f_8))] := hD
  generalize upd (fun _ => 0) (0 : Int32).toNatClampNeg x_12 = f_13 at hP hD
  refine lv_iinc (v := 1) (lv' := [(7, .int 1), (6, .ref q_2), (0, .ref h0), (1, .int p0), (2, .int p1), (3, .int p2), (4, .int p3), (5, .int p4)]) hx hb dX12_feed_83 hl (k := 0) rfl (by decide) (by decide) rfl (fun ls hl => ?_)
  refine lv_goto (tgt := 42) hx hb dX12_feed_86 (by decide) ?_
  refine lv_iload hx hb dX12_feed_42 (lv_at hl 0 rfl) ?_
  refine lv_bipush (v := 20) hx hb dX12_feed_44 (by decide) ?_
  refine lv_icmp_ge (tgt := 89) hx hb dX12_feed_46 (by decide) (fun c_14 => absurd c_14 (by decide)) (fun c_14 => ?_)
  refine lv_aload_n hx hb dX12_feed_49 rfl (lv_at hl 2 rfl) ?_
  refine va_get (D := (dC, dI)) (ci := 12) (v := .ref (r 13)) (C := RX12) (T := TX12) (N := 57) hx hb hts (fun w h => List.mem_cons_of_mem _ (jnGB_X12 w h)) hown hK hP 0 rfl rfl 25 (by decide) (hts _ (List.mem_cons_of_mem _ mGB_52)) (fun _ h9 => h9) rfl dX12_feed_50 ?_
  refine lv_aload_n hx hb dX12_feed_53 rfl (lv_at hl 2 rfl) ?_
  refine va_get (D := (dC, dI)) (ci := 12) (v := .int 0) (C := RX12) (T := TX12) (N := 57) hx hb hts (fun w h => List.mem_cons_of_mem _ (jnGB_X12 w h)) hown hK hP 0 rfl rfl 26 (by decide) (hts _ (List.mem_cons_of_mem _ mGB_30)) (fun _ h9 => h9) rfl dX12_feed_54 ?_
  refine lv_iload hx hb dX12_feed_57 (lv_at hl 0 rfl) ?_
  refine lv_iadd hx hb dX12_feed_59 ?_
  refine gz_topi (y := 1) (by decide) ?_
  refine lv_aload hx hb dX12_feed_60 (lv_at hl 1 rfl) ?_
  refine lv_iload hx hb dX12_feed_62 (lv_at hl 0 rfl) ?_
  refine lv_iconst (v := 4) hx hb dX12_feed_64 (by decide) ?_
  refine lv_idiv hx hb dX12_feed_65 (by decide) ?_
  refine gz_topi (y := 0) (by decide) ?_
  refine va_iald hx hb hK hP 2 1 rfl rfl (by unfold vp_in; decide) dX12_feed_66 ?_
  refine lv_topi (fun x_15 ex_15 => ?_)
  refine lv_bipush (v := 24) hx hb dX12_feed_67 (by decide) ?_
  refine lv_bipush (v := 8) hx hb dX12_feed_69 (by decide) ?_
  refine lv_iload hx hb dX12_feed_71 (lv_at hl 0 rfl) ?_
  refine lv_iconst (v := 4) hx hb dX12_feed_73 (by decide) ?_
  refine lv_irem hx hb dX12_feed_74 (by decide) ?_
  refine gz_topi (y := 1) (by decide) ?_
  refine lv_imul hx hb dX12_feed_75 ?_
  refine gz_topi (y := 8) (by decide) ?_
  refine lv_isub hx hb dX12_feed_76 ?_
  refine gz_topi (y := 16) (by decide) ?_
  refine lv_iushr hx hb dX12_feed_77 rfl ?_
  refine lv_topi (fun x_16 ex_16 => ?_)
  refine lv_sipush (v := 255) hx hb dX12_feed_78 (by decide) ?_
  refine lv_iand hx hb dX12_feed_81 ?_
  refine lv_topi (fun x_17 ex_17 => ?_)
  refine va_iast hx hb hK hP hD hS 1 0 rfl rfl (by unfold vp_in; decide) dX12_feed_82 (fun H locs hP hD hS => ?_)
  have hP : va_P (dC, dI) vwCl [(h0, .inr (12, fsM r)), ((r 13), .inl ((kf 13), 1600, .inl (upd f_13 (1 : Int32).toNatClampNeg x_17))), (q_2, .inl (k_3, 5, .inl f_8))] H := hP
  have hD : va_D A [(h0, .inr (12, fsM r)), ((r 13), .inl ((kf 13), 1600, .inl (upd f_13 (1 : Int32).toNatClampNeg x_17))), (q_2, .inl (k_3, 5, .inl f_8))] := hD
  generalize upd f_13 (1 : Int32).toNatClampNeg x_17 = f_18 at hP hD
  refine lv_iinc (v := 2) (lv' := [(7, .int 2), (6, .ref q_2), (0, .ref h0), (1, .int p0), (2, .int p1), (3, .int p2), (4, .int p3), (5, .int p4)]) hx hb dX12_feed_83 hl (k := 0) rfl (by decide) (by decide) rfl (fun ls hl => ?_)
  refine lv_goto (tgt := 42) hx hb dX12_feed_86 (by decide) ?_
  refine lv_iload hx hb dX12_feed_42 (lv_at hl 0 rfl) ?_
  refine lv_bipush (v := 20) hx hb dX12_feed_44 (by decide) ?_
  refine lv_icmp_ge (tgt := 89) hx hb dX12_feed_46 (by decide) (fun c_19 => absurd c_19 (by decide)) (fun c_19 => ?_)
  refine lv_aload_n hx hb dX12_feed_49 rfl (lv_at hl 2 rfl) ?_
  refine va_get (D := (dC, dI)) (ci := 12) (v := .ref (r 13)) (C := RX12) (T := TX12) (N := 57) hx hb hts (fun w h => List.mem_cons_of_mem _ (jnGB_X12 w h)) hown hK hP 0 rfl rfl 25 (by decide) (hts _ (List.mem_cons_of_mem _ mGB_52)) (fun _ h9 => h9) rfl dX12_feed_50 ?_
  refine lv_aload_n hx hb dX12_feed_53 rfl (lv_at hl 2 rfl) ?_
  refine va_get (D := (dC, dI)) (ci := 12) (v := .int 0) (C := RX12) (T := TX12) (N := 57) hx hb hts (fun w h => List.mem_cons_of_mem _ (jnGB_X12 w h)) hown hK hP 0 rfl rfl 26 (by decide) (hts _ (List.mem_cons_of_mem _ mGB_30)) (fun _ h9 => h9) rfl dX12_feed_54 ?_
  refine lv_iload hx hb dX12_feed_57 (lv_at hl 0 rfl) ?_
  refine lv_iadd hx hb dX12_feed_59 ?_
  refine gz_topi (y := 2) (by decide) ?_
  refine lv_aload hx hb dX12_feed_60 (lv_at hl 1 rfl) ?_
  refine lv_iload hx hb dX12_feed_62 (lv_at hl 0 rfl) ?_
  refine lv_iconst (v := 4) hx hb dX12_feed_64 (by decide) ?_
  refine lv_idiv hx hb dX12_feed_65 (by decide) ?_
  refine gz_topi (y := 0) (by decide) ?_
  refine va_iald hx hb hK hP 2 1 rfl rfl (by unfold vp_in; decide) dX12_feed_66 ?_
  refine lv_topi (fun x_20 ex_20 => ?_)
  refine lv_bipush (v := 24) hx hb dX12_feed_67 (by decide) ?_
  refine lv_bipush (v := 8) hx hb dX12_feed_69 (by decide) ?_
  refine lv_iload hx hb dX12_feed_71 (lv_at hl 0 rfl) ?_
  refine lv_iconst (v := 4) hx hb dX12_feed_73 (by decide) ?_
  refine lv_irem hx hb dX12_feed_74 (by decide) ?_
  refine gz_topi (y := 2) (by decide) ?_
  refine lv_imul hx hb dX12_feed_75 ?_
  refine gz_topi (y := 16) (by decide) ?_
  refine lv_isub hx hb dX12_feed_76 ?_
  refine gz_topi (y := 8) (by decide) ?_
  refine lv_iushr hx hb dX12_feed_77 rfl ?_
  refine lv_topi (fun x_21 ex_21 => ?_)
  refine lv_sipush (v := 255) hx hb dX12_feed_78 (by decide) ?_
  refine lv_iand hx hb dX12_feed_81 ?_
  refine lv_topi (fun x_22 ex_22 => ?_)
  refine va_iast hx hb hK hP hD hS 1 0 rfl rfl (by unfold vp_in; decide) dX12_feed_82 (fun H locs hP hD hS => ?_)
  have hP : va_P (dC, dI) vwCl [(h0, .inr (12, fsM r)), ((r 13), .inl ((kf 13), 1600, .inl (upd f_18 (2 : Int32).toNatClampNeg x_22))), (q_2, .inl (k_3, 5, .inl f_8))] H := hP
  have hD : va_D A [(h0, .inr (12, fsM r)), ((r 13), .inl ((kf 13), 1600, .inl (upd f_18 (2 : Int32).toNatClampNeg x_22))), (q_2, .inl (k_3, 5, .inl f_8))] := hD
  generalize upd f_18 (2 : Int32).toNatClampNeg x_22 = f_23 at hP hD
  refine lv_iinc (v := 3) (lv' := [(7, .int 3), (6, .ref q_2), (0, .ref h0), (1, .int p0), (2, .int p1), (3, .int p2), (4, .int p3), (5, .int p4)]) hx hb dX12_feed_83 hl (k := 0) rfl (by decide) (by decide) rfl (fun ls hl => ?_)
  refine lv_goto (tgt := 42) hx hb dX12_feed_86 (by decide) ?_
  refine lv_iload hx hb dX12_feed_42 (lv_at hl 0 rfl) ?_
  refine lv_bipush (v := 20) hx hb dX12_feed_44 (by decide) ?_
  refine lv_icmp_ge (tgt := 89) hx hb dX12_feed_46 (by decide) (fun c_24 => absurd c_24 (by decide)) (fun c_24 => ?_)
  refine lv_aload_n hx hb dX12_feed_49 rfl (lv_at hl 2 rfl) ?_
  refine va_get (D := (dC, dI)) (ci := 12) (v := .ref (r 13)) (C := RX12) (T := TX12) (N := 57) hx hb hts (fun w h => List.mem_cons_of_mem _ (jnGB_X12 w h)) hown hK hP 0 rfl rfl 25 (by decide) (hts _ (List.mem_cons_of_mem _ mGB_52)) (fun _ h9 => h9) rfl dX12_feed_50 ?_
  refine lv_aload_n hx hb dX12_feed_53 rfl (lv_at hl 2 rfl) ?_
  refine va_get (D := (dC, dI)) (ci := 12) (v := .int 0) (C := RX12) (T := TX12) (N := 57) hx hb hts (fun w h => List.mem_cons_of_mem _ (jnGB_X12 w h)) hown hK hP 0 rfl rfl 26 (by decide) (hts _ (List.mem_cons_of_mem _ mGB_30)) (fun _ h9 => h9) rfl dX12_feed_54 ?_
  refine lv_iload hx hb dX12_feed_57 (lv_at hl 0 rfl) ?_
  refine lv_iadd hx hb dX12_feed_59 ?_
  refine gz_topi (y := 3) (by decide) ?_
  refine lv_aload hx hb dX12_feed_60 (lv_at hl 1 rfl) ?_
  refine lv_iload hx hb dX12_feed_62 (lv_at hl 0 rfl) ?_
  refine lv_iconst (v := 4) hx hb dX12_feed_64 (by decide) ?_
  refine lv_idiv hx hb dX12_feed_65 (by decide) ?_
  refine gz_topi (y := 0) (by decide) ?_
  refine va_iald hx hb hK hP 2 1 rfl rfl (by unfold vp_in; decide) dX12_feed_66 ?_
  refine lv_topi (fun x_25 ex_25 => ?_)
  refine lv_bipush (v := 24) hx hb dX12_feed_67 (by decide) ?_
  refine lv_bipush (v := 8) hx hb dX12_feed_69 (by decide) ?_
  refine lv_iload hx hb dX12_feed_71 (lv_at hl 0 rfl) ?_
  refine lv_iconst (v := 4) hx hb dX12_feed_73 (by decide) ?_
  refine lv_irem hx hb dX12_feed_74 (by decide) ?_
  refine gz_topi (y := 3) (by decide) ?_
  refine lv_imul hx hb dX12_feed_75 ?_
  refine gz_topi (y := 24) (by decide) ?_
  refine lv_isub hx hb dX12_feed_76 ?_
  refine gz_topi (y := 0) (by decide) ?_
  refine lv_iushr hx hb dX12_feed_77 rfl ?_
  refine lv_topi (fun x_26 ex_26 => ?_)
  refine lv_sipush (v := 255) hx hb dX12_feed_78 (by decide) ?_
  refine lv_iand hx hb dX12_feed_81 ?_
  refine lv_topi (fun x_27 ex_27 => ?_)
  refine va_iast hx hb hK hP hD hS 1 0 rfl rfl (by unfold vp_in; decide) dX12_feed_82 (fun H locs hP hD hS => ?_)
  have hP : va_P (dC, dI) vwCl [(h0, .inr (12, fsM r)), ((r 13), .inl ((kf 13), 1600, .inl (upd f_23 (3 : Int32).toNatClampNeg x_27))), (q_2, .inl (k_3, 5, .inl f_8))] H := hP
  have hD : va_D A [(h0, .inr (12, fsM r)), ((r 13), .inl ((kf 13), 1600, .inl (upd f_23 (3 : Int32).toNatClampNeg x_27))), (q_2, .inl (k_3, 5, .inl f_8))] := hD
  generalize upd f_23 (3 : Int32).toNatClampNeg x_27 = f_28 at hP hD
  refine lv_iinc (v := 4) (lv' := [(7, .int 4), (6, .ref q_2), (0, .ref h0), (1, .int p0), (2, .int p1), (3, .int p2), (4, .int p3), (5, .int p4)]) hx hb dX12_feed_83 hl (k := 0) rfl (by decide) (by decide) rfl (fun ls hl => ?_)
  refine lv_goto (tgt := 42) hx hb dX12_feed_86 (by decide) ?_
  refine lv_iload hx hb dX12_feed_42 (lv_at hl 0 rfl) ?_
  refine lv_bipush (v := 20) hx hb dX12_feed_44 (by decide) ?_
  refine lv_icmp_ge (tgt := 89) hx hb dX12_feed_46 (by decide) (fun c_29 => absurd c_29 (by decide)) (fun c_29 => ?_)
  refine lv_aload_n hx hb dX12_feed_49 rfl (lv_at hl 2 rfl) ?_
  refine va_get (D := (dC, dI)) (ci := 12) (v := .ref (r 13)) (C := RX12) (T := TX12) (N := 57) hx hb hts (fun w h => List.mem_cons_of_mem _ (jnGB_X12 w h)) hown hK hP 0 rfl rfl 25 (by decide) (hts _ (List.mem_cons_of_mem _ mGB_52)) (fun _ h9 => h9) rfl dX12_feed_50 ?_
  refine lv_aload_n hx hb dX12_feed_53 rfl (lv_at hl 2 rfl) ?_
  refine va_get (D := (dC, dI)) (ci := 12) (v := .int 0) (C := RX12) (T := TX12) (N := 57) hx hb hts (fun w h => List.mem_cons_of_mem _ (jnGB_X12 w h)) hown hK hP 0 rfl rfl 26 (by decide) (hts _ (List.mem_cons_of_mem _ mGB_30)) (fun _ h9 => h9) rfl dX12_feed_54 ?_
  refine lv_iload hx hb dX12_feed_57 (lv_at hl 0 rfl) ?_
  refine lv_iadd hx hb dX12_feed_59 ?_
  refine gz_topi (y := 4) (by decide) ?_
  refine lv_aload hx hb dX12_feed_60 (lv_at hl 1 rfl) ?_
  refine lv_iload hx hb dX12_feed_62 (lv_at hl 0 rfl) ?_
  refine lv_iconst (v := 4) hx hb dX12_feed_64 (by decide) ?_
  refine lv_idiv hx hb dX12_feed_65 (by decide) ?_
  refine gz_topi (y := 1) (by decide) ?_
  refine va_iald hx hb hK hP 2 1 rfl rfl (by unfold vp_in; decide) dX12_feed_66 ?_
  refine lv_topi (fun x_30 ex_30 => ?_)
  refine lv_bipush (v := 24) hx hb dX12_feed_67 (by decide) ?_
  refine lv_bipush (v := 8) hx hb dX12_feed_69 (by decide) ?_
  refine lv_iload hx hb dX12_feed_71 (lv_at hl 0 rfl) ?_
  refine lv_iconst (v := 4) hx hb dX12_feed_73 (by decide) ?_
  refine lv_irem hx hb dX12_feed_74 (by decide) ?_
  refine gz_topi (y := 0) (by decide) ?_
  refine lv_imul hx hb dX12_feed_75 ?_
  refine gz_topi (y := 0) (by decide) ?_
  refine lv_isub hx hb dX12_feed_76 ?_
  refine gz_topi (y := 24) (by decide) ?_
  refine lv_iushr hx hb dX12_feed_77 rfl ?_
  refine lv_topi (fun x_31 ex_31 => ?_)
  refine lv_sipush (v := 255) hx hb dX12_feed_78 (by decide) ?_
  refine lv_iand hx hb dX12_feed_81 ?_
  refine lv_topi (fun x_32 ex_32 => ?_)
  refine va_iast hx hb hK hP hD hS 1 0 rfl rfl (by unfold vp_in; decide) dX12_feed_82 (fun H locs hP hD hS => ?_)
  have hP : va_P (dC, dI) vwCl [(h0, .inr (12, fsM r)), ((r 13), .inl ((kf 13), 1600, .inl (upd f_28 (4 : Int32).toNatClampNeg x_32))), (q_2, .inl (k_3, 5, .inl f_8))] H := hP
  have hD : va_D A [(h0, .inr (12, fsM r)), ((r 13), .inl ((kf 13), 1600, .inl (upd f_28 (4 : Int32).toNatClampNeg x_32))), (q_2, .inl (k_3, 5, .inl f_8))] := hD
  generalize upd f_28 (4 : Int32).toNatClampNeg x_32 = f_33 at hP hD
  refine lv_iinc (v := 5) (lv' := [(7, .int 5), (6, .ref q_2), (0, .ref h0), (1, .int p0), (2, .int p1), (3, .int p2), (4, .int p3), (5, .int p4)]) hx hb dX12_feed_83 hl (k := 0) rfl (by decide) (by decide) rfl (fun ls hl => ?_)
  refine lv_goto (tgt := 42) hx hb dX12_feed_86 (by decide) ?_
  refine lv_iload hx hb dX12_feed_42 (lv_at hl 0 rfl) ?_
  refine lv_bipush (v := 20) hx hb dX12_feed_44 (by decide) ?_
  refine lv_icmp_ge (tgt := 89) hx hb dX12_feed_46 (by decide) (fun c_34 => absurd c_34 (by decide)) (fun c_34 => ?_)
  refine lv_aload_n hx hb dX12_feed_49 rfl (lv_at hl 2 rfl) ?_
  refine va_get (D := (dC, dI)) (ci := 12) (v := .ref (r 13)) (C := RX12) (T := TX12) (N := 57) hx hb hts (fun w h => List.mem_cons_of_mem _ (jnGB_X12 w h)) hown hK hP 0 rfl rfl 25 (by decide) (hts _ (List.mem_cons_of_mem _ mGB_52)) (fun _ h9 => h9) rfl dX12_feed_50 ?_
  refine lv_aload_n hx hb dX12_feed_53 rfl (lv_at hl 2 rfl) ?_
  refine va_get (D := (dC, dI)) (ci := 12) (v := .int 0) (C := RX12) (T := TX12) (N := 57) hx hb hts (fun w h => List.mem_cons_of_mem _ (jnGB_X12 w h)) hown hK hP 0 rfl rfl 26 (by decide) (hts _ (List.mem_cons_of_mem _ mGB_30)) (fun _ h9 => h9) rfl dX12_feed_54 ?_
  refine lv_iload hx hb dX12_feed_57 (lv_at hl 0 rfl) ?_
  refine lv_iadd hx hb dX12_feed_59 ?_
  refine gz_topi (y := 5) (by decide) ?_
  refine lv_aload hx hb dX12_feed_60 (lv_at hl 1 rfl) ?_
  refine lv_iload hx hb dX12_feed_62 (lv_at hl 0 rfl) ?_
  refine lv_iconst (v := 4) hx hb dX12_feed_64 (by decide) ?_
  refine lv_idiv hx hb dX12_feed_65 (by decide) ?_
  refine gz_topi (y := 1) (by decide) ?_
  refine va_iald hx hb hK hP 2 1 rfl rfl (by unfold vp_in; decide) dX12_feed_66 ?_
  refine lv_topi (fun x_35 ex_35 => ?_)
  refine lv_bipush (v := 24) hx hb dX12_feed_67 (by decide) ?_
  refine lv_bipush (v := 8) hx hb dX12_feed_69 (by decide) ?_
  refine lv_iload hx hb dX12_feed_71 (lv_at hl 0 rfl) ?_
  refine lv_iconst (v := 4) hx hb dX12_feed_73 (by decide) ?_
  refine lv_irem hx hb dX12_feed_74 (by decide) ?_
  refine gz_topi (y := 1) (by decide) ?_
  refine lv_imul hx hb dX12_feed_75 ?_
  refine gz_topi (y := 8) (by decide) ?_
  refine lv_isub hx hb dX12_feed_76 ?_
  refine gz_topi (y := 16) (by decide) ?_
  refine lv_iushr hx hb dX12_feed_77 rfl ?_
  refine lv_topi (fun x_36 ex_36 => ?_)
  refine lv_sipush (v := 255) hx hb dX12_feed_78 (by decide) ?_
  refine lv_iand hx hb dX12_feed_81 ?_
  refine lv_topi (fun x_37 ex_37 => ?_)
  refine va_iast hx hb hK hP hD hS 1 0 rfl rfl (by unfold vp_in; decide) dX12_feed_82 (fun H locs hP hD hS => ?_)
  have hP : va_P (dC, dI) vwCl [(h0, .inr (12, fsM r)), ((r 13), .inl ((kf 13), 1600, .inl (upd f_33 (5 : Int32).toNatClampNeg x_37))), (q_2, .inl (k_3, 5, .inl f_8))] H := hP
  have hD : va_D A [(h0, .inr (12, fsM r)), ((r 13), .inl ((kf 13), 1600, .inl (upd f_33 (5 : Int32).toNatClampNeg x_37))), (q_2, .inl (k_3, 5, .inl f_8))] := hD
  generalize upd f_33 (5 : Int32).toNatClampNeg x_37 = f_38 at hP hD
  refine lv_iinc (v := 6) (lv' := [(7, .int 6), (6, .ref q_2), (0, .ref h0), (1, .int p0), (2, .int p1), (3, .int p2), (4, .int p3), (5, .int p4)]) hx hb dX12_feed_83 hl (k := 0) rfl (by decide) (by decide) rfl (fun ls hl => ?_)
  refine lv_goto (tgt := 42) hx hb dX12_feed_86 (by decide) ?_
  refine lv_iload hx hb dX12_feed_42 (lv_at hl 0 rfl) ?_
  refine lv_bipush (v := 20) hx hb dX12_feed_44 (by decide) ?_
  refine lv_icmp_ge (tgt := 89) hx hb dX12_feed_46 (by decide) (fun c_39 => absurd c_39 (by decide)) (fun c_39 => ?_)
  refine lv_aload_n hx hb dX12_feed_49 rfl (lv_at hl 2 rfl) ?_
  refine va_get (D := (dC, dI)) (ci := 12) (v := .ref (r 13)) (C := RX12) (T := TX12) (N := 57) hx hb hts (fun w h => List.mem_cons_of_mem _ (jnGB_X12 w h)) hown hK hP 0 rfl rfl 25 (by decide) (hts _ (List.mem_cons_of_mem _ mGB_52)) (fun _ h9 => h9) rfl dX12_feed_50 ?_
  refine lv_aload_n hx hb dX12_feed_53 rfl (lv_at hl 2 rfl) ?_
  refine va_get (D := (dC, dI)) (ci := 12) (v := .int 0) (C := RX12) (T := TX12) (N := 57) hx hb hts (fun w h => List.mem_cons_of_mem _ (jnGB_X12 w h)) hown hK hP 0 rfl rfl 26 (by decide) (hts _ (List.mem_cons_of_mem _ mGB_30)) (fun _ h9 => h9) rfl dX12_feed_54 ?_
  refine lv_iload hx hb dX12_feed_57 (lv_at hl 0 rfl) ?_
  refine lv_iadd hx hb dX12_feed_59 ?_
  refine gz_topi (y := 6) (by decide) ?_
  refine lv_aload hx hb dX12_feed_60 (lv_at hl 1 rfl) ?_
  refine lv_iload hx hb dX12_feed_62 (lv_at hl 0 rfl) ?_
  refine lv_iconst (v := 4) hx hb dX12_feed_64 (by decide) ?_
  refine lv_idiv hx hb dX12_feed_65 (by decide) ?_
  refine gz_topi (y := 1) (by decide) ?_
  refine va_iald hx hb hK hP 2 1 rfl rfl (by unfold vp_in; decide) dX12_feed_66 ?_
  refine lv_topi (fun x_40 ex_40 => ?_)
  refine lv_bipush (v := 24) hx hb dX12_feed_67 (by decide) ?_
  refine lv_bipush (v := 8) hx hb dX12_feed_69 (by decide) ?_
  refine lv_iload hx hb dX12_feed_71 (lv_at hl 0 rfl) ?_
  refine lv_iconst (v := 4) hx hb dX12_feed_73 (by decide) ?_
  refine lv_irem hx hb dX12_feed_74 (by decide) ?_
  refine gz_topi (y := 2) (by decide) ?_
  refine lv_imul hx hb dX12_feed_75 ?_
  refine gz_topi (y := 16) (by decide) ?_
  refine lv_isub hx hb dX12_feed_76 ?_
  refine gz_topi (y := 8) (by decide) ?_
  refine lv_iushr hx hb dX12_feed_77 rfl ?_
  refine lv_topi (fun x_41 ex_41 => ?_)
  refine lv_sipush (v := 255) hx hb dX12_feed_78 (by decide) ?_
  refine lv_iand hx hb dX12_feed_81 ?_
  refine lv_topi (fun x_42 ex_42 => ?_)
  refine va_iast hx hb hK hP hD hS 1 0 rfl rfl (by unfold vp_in; decide) dX12_feed_82 (fun H locs hP hD hS => ?_)
  have hP : va_P (dC, dI) vwCl [(h0, .inr (12, fsM r)), ((r 13), .inl ((kf 13), 1600, .inl (upd f_38 (6 : Int32).toNatClampNeg x_42))), (q_2, .inl (k_3, 5, .inl f_8))] H := hP
  have hD : va_D A [(h0, .inr (12, fsM r)), ((r 13), .inl ((kf 13), 1600, .inl (upd f_38 (6 : Int32).toNatClampNeg x_42))), (q_2, .inl (k_3, 5, .inl f_8))] := hD
  generalize upd f_38 (6 : Int32).toNatClampNeg x_42 = f_43 at hP hD
  refine lv_iinc (v := 7) (lv' := [(7, .int 7), (6, .ref q_2), (0, .ref h0), (1, .int p0), (2, .int p1), (3, .int p2), (4, .int p3), (5, .int p4)]) hx hb dX12_feed_83 hl (k := 0) rfl (by decide) (by decide) rfl (fun ls hl => ?_)
  refine lv_goto (tgt := 42) hx hb dX12_feed_86 (by decide) ?_
  refine lv_iload hx hb dX12_feed_42 (lv_at hl 0 rfl) ?_
  refine lv_bipush (v := 20) hx hb dX12_feed_44 (by decide) ?_
  refine lv_icmp_ge (tgt := 89) hx hb dX12_feed_46 (by decide) (fun c_44 => absurd c_44 (by decide)) (fun c_44 => ?_)
  refine lv_aload_n hx hb dX12_feed_49 rfl (lv_at hl 2 rfl) ?_
  refine va_get (D := (dC, dI)) (ci := 12) (v := .ref (r 13)) (C := RX12) (T := TX12) (N := 57) hx hb hts (fun w h => List.mem_cons_of_mem _ (jnGB_X12 w h)) hown hK hP 0 rfl rfl 25 (by decide) (hts _ (List.mem_cons_of_mem _ mGB_52)) (fun _ h9 => h9) rfl dX12_feed_50 ?_
  refine lv_aload_n hx hb dX12_feed_53 rfl (lv_at hl 2 rfl) ?_
  refine va_get (D := (dC, dI)) (ci := 12) (v := .int 0) (C := RX12) (T := TX12) (N := 57) hx hb hts (fun w h => List.mem_cons_of_mem _ (jnGB_X12 w h)) hown hK hP 0 rfl rfl 26 (by decide) (hts _ (List.mem_cons_of_mem _ mGB_30)) (fun _ h9 => h9) rfl dX12_feed_54 ?_
  refine lv_iload hx hb dX12_feed_57 (lv_at hl 0 rfl) ?_
  refine lv_iadd hx hb dX12_feed_59 ?_
  refine gz_topi (y := 7) (by decide) ?_
  refine lv_aload hx hb dX12_feed_60 (lv_at hl 1 rfl) ?_
  refine lv_iload hx hb dX12_feed_62 (lv_at hl 0 rfl) ?_
  refine lv_iconst (v := 4) hx hb dX12_feed_64 (by decide) ?_
  refine lv_idiv hx hb dX12_feed_65 (by decide) ?_
  refine gz_topi (y := 1) (by decide) ?_
  refine va_iald hx hb hK hP 2 1 rfl rfl (by unfold vp_in; decide) dX12_feed_66 ?_
  refine lv_topi (fun x_45 ex_45 => ?_)
  refine lv_bipush (v := 24) hx hb dX12_feed_67 (by decide) ?_
  refine lv_bipush (v := 8) hx hb dX12_feed_69 (by decide) ?_
  refine lv_iload hx hb dX12_feed_71 (lv_at hl 0 rfl) ?_
  refine lv_iconst (v := 4) hx hb dX12_feed_73 (by decide) ?_
  refine lv_irem hx hb dX12_feed_74 (by decide) ?_
  refine gz_topi (y := 3) (by decide) ?_
  refine lv_imul hx hb dX12_feed_75 ?_
  refine gz_topi (y := 24) (by decide) ?_
  refine lv_isub hx hb dX12_feed_76 ?_
  refine gz_topi (y := 0) (by decide) ?_
  refine lv_iushr hx hb dX12_feed_77 rfl ?_
  refine lv_topi (fun x_46 ex_46 => ?_)
  refine lv_sipush (v := 255) hx hb dX12_feed_78 (by decide) ?_
  refine lv_iand hx hb dX12_feed_81 ?_
  refine lv_topi (fun x_47 ex_47 => ?_)
  refine va_iast hx hb hK hP hD hS 1 0 rfl rfl (by unfold vp_in; decide) dX12_feed_82 (fun H locs hP hD hS => ?_)
  have hP : va_P (dC, dI) vwCl [(h0, .inr (12, fsM r)), ((r 13), .inl ((kf 13), 1600, .inl (upd f_43 (7 : Int32).toNatClampNeg x_47))), (q_2, .inl (k_3, 5, .inl f_8))] H := hP
  have hD : va_D A [(h0, .inr (12, fsM r)), ((r 13), .inl ((kf 13), 1600, .inl (upd f_43 (7 : Int32).toNatClampNeg x_47))), (q_2, .inl (k_3, 5, .inl f_8))] := hD
  generalize upd f_43 (7 : Int32).toNatClampNeg x_47 = f_48 at hP hD
  refine lv_iinc (v := 8) (lv' := [(7, .int 8), (6, .ref q_2), (0, .ref h0), (1, .int p0), (2, .int p1), (3, .int p2), (4, .int p3), (5, .int p4)]) hx hb dX12_feed_83 hl (k := 0) rfl (by decide) (by decide) rfl (fun ls hl => ?_)
  refine lv_goto (tgt := 42) hx hb dX12_feed_86 (by decide) ?_
  refine lv_iload hx hb dX12_feed_42 (lv_at hl 0 rfl) ?_
  refine lv_bipush (v := 20) hx hb dX12_feed_44 (by decide) ?_
  refine lv_icmp_ge (tgt := 89) hx hb dX12_feed_46 (by decide) (fun c_49 => absurd c_49 (by decide)) (fun c_49 => ?_)
  refine lv_aload_n hx hb dX12_feed_49 rfl (lv_at hl 2 rfl) ?_
  refine va_get (D := (dC, dI)) (ci := 12) (v := .ref (r 13)) (C := RX12) (T := TX12) (N := 57) hx hb hts (fun w h => List.mem_cons_of_mem _ (jnGB_X12 w h)) hown hK hP 0 rfl rfl 25 (by decide) (hts _ (List.mem_cons_of_mem _ mGB_52)) (fun _ h9 => h9) rfl dX12_feed_50 ?_
  refine lv_aload_n hx hb dX12_feed_53 rfl (lv_at hl 2 rfl) ?_
  refine va_get (D := (dC, dI)) (ci := 12) (v := .int 0) (C := RX12) (T := TX12) (N := 57) hx hb hts (fun w h => List.mem_cons_of_mem _ (jnGB_X12 w h)) hown hK hP 0 rfl rfl 26 (by decide) (hts _ (List.mem_cons_of_mem _ mGB_30)) (fun _ h9 => h9) rfl dX12_feed_54 ?_
  refine lv_iload hx hb dX12_feed_57 (lv_at hl 0 rfl) ?_
  refine lv_iadd hx hb dX12_feed_59 ?_
  refine gz_topi (y := 8) (by decide) ?_
  refine lv_aload hx hb dX12_feed_60 (lv_at hl 1 rfl) ?_
  refine lv_iload hx hb dX12_feed_62 (lv_at hl 0 rfl) ?_
  refine lv_iconst (v := 4) hx hb dX12_feed_64 (by decide) ?_
  refine lv_idiv hx hb dX12_feed_65 (by decide) ?_
  refine gz_topi (y := 2) (by decide) ?_
  refine va_iald hx hb hK hP 2 1 rfl rfl (by unfold vp_in; decide) dX12_feed_66 ?_
  refine lv_topi (fun x_50 ex_50 => ?_)
  refine lv_bipush (v := 24) hx hb dX12_feed_67 (by decide) ?_
  refine lv_bipush (v := 8) hx hb dX12_feed_69 (by decide) ?_
  refine lv_iload hx hb dX12_feed_71 (lv_at hl 0 rfl) ?_
  refine lv_iconst (v := 4) hx hb dX12_feed_73 (by decide) ?_
  refine lv_irem hx hb dX12_feed_74 (by decide) ?_
  refine gz_topi (y := 0) (by decide) ?_
  refine lv_imul hx hb dX12_feed_75 ?_
  refine gz_topi (y := 0) (by decide) ?_
  refine lv_isub hx hb dX12_feed_76 ?_
  refine gz_topi (y := 24) (by decide) ?_
  refine lv_iushr hx hb dX12_feed_77 rfl ?_
  refine lv_topi (fun x_51 ex_51 => ?_)
  refine lv_sipush (v := 255) hx hb dX12_feed_78 (by decide) ?_
  refine lv_iand hx hb dX12_feed_81 ?_
  refine lv_topi (fun x_52 ex_52 => ?_)
  refine va_iast hx hb hK hP hD hS 1 0 rfl rfl (by unfold vp_in; decide) dX12_feed_82 (fun H locs hP hD hS => ?_)
  have hP : va_P (dC, dI) vwCl [(h0, .inr (12, fsM r)), ((r 13), .inl ((kf 13), 1600, .inl (upd f_48 (8 : Int32).toNatClampNeg x_52))), (q_2, .inl (k_3, 5, .inl f_8))] H := hP
  have hD : va_D A [(h0, .inr (12, fsM r)), ((r 13), .inl ((kf 13), 1600, .inl (upd f_48 (8 : Int32).toNatClampNeg x_52))), (q_2, .inl (k_3, 5, .inl f_8))] := hD
  generalize upd f_48 (8 : Int32).toNatClampNeg x_52 = f_53 at hP hD
  refine lv_iinc (v := 9) (lv' := [(7, .int 9), (6, .ref q_2), (0, .ref h0), (1, .int p0), (2, .int p1), (3, .int p2), (4, .int p3), (5, .int p4)]) hx hb dX12_feed_83 hl (k := 0) rfl (by decide) (by decide) rfl (fun ls hl => ?_)
  refine lv_goto (tgt := 42) hx hb dX12_feed_86 (by decide) ?_
  refine lv_iload hx hb dX12_feed_42 (lv_at hl 0 rfl) ?_
  refine lv_bipush (v := 20) hx hb dX12_feed_44 (by decide) ?_
  refine lv_icmp_ge (tgt := 89) hx hb dX12_feed_46 (by decide) (fun c_54 => absurd c_54 (by decide)) (fun c_54 => ?_)
  refine lv_aload_n hx hb dX12_feed_49 rfl (lv_at hl 2 rfl) ?_
  refine va_get (D := (dC, dI)) (ci := 12) (v := .ref (r 13)) (C := RX12) (T := TX12) (N := 57) hx hb hts (fun w h => List.mem_cons_of_mem _ (jnGB_X12 w h)) hown hK hP 0 rfl rfl 25 (by decide) (hts _ (List.mem_cons_of_mem _ mGB_52)) (fun _ h9 => h9) rfl dX12_feed_50 ?_
  refine lv_aload_n hx hb dX12_feed_53 rfl (lv_at hl 2 rfl) ?_
  refine va_get (D := (dC, dI)) (ci := 12) (v := .int 0) (C := RX12) (T := TX12) (N := 57) hx hb hts (fun w h => List.mem_cons_of_mem _ (jnGB_X12 w h)) hown hK hP 0 rfl rfl 26 (by decide) (hts _ (List.mem_cons_of_mem _ mGB_30)) (fun _ h9 => h9) rfl dX12_feed_54 ?_
  refine lv_iload hx hb dX12_feed_57 (lv_at hl 0 rfl) ?_
  refine lv_iadd hx hb dX12_feed_59 ?_
  refine gz_topi (y := 9) (by decide) ?_
  refine lv_aload hx hb dX12_feed_60 (lv_at hl 1 rfl) ?_
  refine lv_iload hx hb dX12_feed_62 (lv_at hl 0 rfl) ?_
  refine lv_iconst (v := 4) hx hb dX12_feed_64 (by decide) ?_
  refine lv_idiv hx hb dX12_feed_65 (by decide) ?_
  refine gz_topi (y := 2) (by decide) ?_
  refine va_iald hx hb hK hP 2 1 rfl rfl (by unfold vp_in; decide) dX12_feed_66 ?_
  refine lv_topi (fun x_55 ex_55 => ?_)
  refine lv_bipush (v := 24) hx hb dX12_feed_67 (by decide) ?_
  refine lv_bipush (v := 8) hx hb dX12_feed_69 (by decide) ?_
  refine lv_iload hx hb dX12_feed_71 (lv_at hl 0 rfl) ?_
  refine lv_iconst (v := 4) hx hb dX12_feed_73 (by decide) ?_
  refine lv_irem hx hb dX12_feed_74 (by decide) ?_
  refine gz_topi (y := 1) (by decide) ?_
  refine lv_imul hx hb dX12_feed_75 ?_
  refine gz_topi (y := 8) (by decide) ?_
  refine lv_isub hx hb dX12_feed_76 ?_
  refine gz_topi (y := 16) (by decide) ?_
  refine lv_iushr hx hb dX12_feed_77 rfl ?_
  refine lv_topi (fun x_56 ex_56 => ?_)
  refine lv_sipush (v := 255) hx hb dX12_feed_78 (by decide) ?_
  refine lv_iand hx hb dX12_feed_81 ?_
  refine lv_topi (fun x_57 ex_57 => ?_)
  refine va_iast hx hb hK hP hD hS 1 0 rfl rfl (by unfold vp_in; decide) dX12_feed_82 (fun H locs hP hD hS => ?_)
  have hP : va_P (dC, dI) vwCl [(h0, .inr (12, fsM r)), ((r 13), .inl ((kf 13), 1600, .inl (upd f_53 (9 : Int32).toNatClampNeg x_57))), (q_2, .inl (k_3, 5, .inl f_8))] H := hP
  have hD : va_D A [(h0, .inr (12, fsM r)), ((r 13), .inl ((kf 13), 1600, .inl (upd f_53 (9 : Int32).toNatClampNeg x_57))), (q_2, .inl (k_3, 5, .inl f_8))] := hD
  generalize upd f_53 (9 : Int32).toNatClampNeg x_57 = f_58 at hP hD
  refine lv_iinc (v := 10) (lv' := [(7, .int 10), (6, .ref q_2), (0, .ref h0), (1, .int p0), (2, .int p1), (3, .int p2), (4, .int p3), (5, .int p4)]) hx hb dX12_feed_83 hl (k := 0) rfl (by decide) (by decide) rfl (fun ls hl => ?_)
  refine lv_goto (tgt := 42) hx hb dX12_feed_86 (by decide) ?_
  refine lv_iload hx hb dX12_feed_42 (lv_at hl 0 rfl) ?_
  refine lv_bipush (v := 20) hx hb dX12_feed_44 (by decide) ?_
  refine lv_icmp_ge (tgt := 89) hx hb dX12_feed_46 (by decide) (fun c_59 => absurd c_59 (by decide)) (fun c_59 => ?_)
  refine lv_aload_n hx hb dX12_feed_49 rfl (lv_at hl 2 rfl) ?_
  refine va_get (D := (dC, dI)) (ci := 12) (v := .ref (r 13)) (C := RX12) (T := TX12) (N := 57) hx hb hts (fun w h => List.mem_cons_of_mem _ (jnGB_X12 w h)) hown hK hP 0 rfl rfl 25 (by decide) (hts _ (List.mem_cons_of_mem _ mGB_52)) (fun _ h9 => h9) rfl dX12_feed_50 ?_
  refine lv_aload_n hx hb dX12_feed_53 rfl (lv_at hl 2 rfl) ?_
  refine va_get (D := (dC, dI)) (ci := 12) (v := .int 0) (C := RX12) (T := TX12) (N := 57) hx hb hts (fun w h => List.mem_cons_of_mem _ (jnGB_X12 w h)) hown hK hP 0 rfl rfl 26 (by decide) (hts _ (List.mem_cons_of_mem _ mGB_30)) (fun _ h9 => h9) rfl dX12_feed_54 ?_
  refine lv_iload hx hb dX12_feed_57 (lv_at hl 0 rfl) ?_
  refine lv_iadd hx hb dX12_feed_59 ?_
  refine gz_topi (y := 10) (by decide) ?_
  refine lv_aload hx hb dX12_feed_60 (lv_at hl 1 rfl) ?_
  refine lv_iload hx hb dX12_feed_62 (lv_at hl 0 rfl) ?_
  refine lv_iconst (v := 4) hx hb dX12_feed_64 (by decide) ?_
  refine lv_idiv hx hb dX12_feed_65 (by decide) ?_
  refine gz_topi (y := 2) (by decide) ?_
  refine va_iald hx hb hK hP 2 1 rfl rfl (by unfold vp_in; decide) dX12_feed_66 ?_
  refine lv_topi (fun x_60 ex_60 => ?_)
  refine lv_bipush (v := 24) hx hb dX12_feed_67 (by decide) ?_
  refine lv_bipush (v := 8) hx hb dX12_feed_69 (by decide) ?_
  refine lv_iload hx hb dX12_feed_71 (lv_at hl 0 rfl) ?_
  refine lv_iconst (v := 4) hx hb dX12_feed_73 (by decide) ?_
  refine lv_irem hx hb dX12_feed_74 (by decide) ?_
  refine gz_topi (y := 2) (by decide) ?_
  refine lv_imul hx hb dX12_feed_75 ?_
  refine gz_topi (y := 16) (by decide) ?_
  refine lv_isub hx hb dX12_feed_76 ?_
  refine gz_topi (y := 8) (by decide) ?_
  refine lv_iushr hx hb dX12_feed_77 rfl ?_
  refine lv_topi (fun x_61 ex_61 => ?_)
  refine lv_sipush (v := 255) hx hb dX12_feed_78 (by decide) ?_
  refine lv_iand hx hb dX12_feed_81 ?_
  refine lv_topi (fun x_62 ex_62 => ?_)
  refine va_iast hx hb hK hP hD hS 1 0 rfl rfl (by unfold vp_in; decide) dX12_feed_82 (fun H locs hP hD hS => ?_)
  have hP : va_P (dC, dI) vwCl [(h0, .inr (12, fsM r)), ((r 13), .inl ((kf 13), 1600, .inl (upd f_58 (10 : Int32).toNatClampNeg x_62))), (q_2, .inl (k_3, 5, .inl f_8))] H := hP
  have hD : va_D A [(h0, .inr (12, fsM r)), ((r 13), .inl ((kf 13), 1600, .inl (upd f_58 (10 : Int32).toNatClampNeg x_62))), (q_2, .inl (k_3, 5, .inl f_8))] := hD
  generalize upd f_58 (10 : Int32).toNatClampNeg x_62 = f_63 at hP hD
  refine lv_iinc (v := 11) (lv' := [(7, .int 11), (6, .ref q_2), (0, .ref h0), (1, .int p0), (2, .int p1), (3, .int p2), (4, .int p3), (5, .int p4)]) hx hb dX12_feed_83 hl (k := 0) rfl (by decide) (by decide) rfl (fun ls hl => ?_)
  refine lv_goto (tgt := 42) hx hb dX12_feed_86 (by decide) ?_
  refine lv_iload hx hb dX12_feed_42 (lv_at hl 0 rfl) ?_
  refine lv_bipush (v := 20) hx hb dX12_feed_44 (by decide) ?_
  refine lv_icmp_ge (tgt := 89) hx hb dX12_feed_46 (by decide) (fun c_64 => absurd c_64 (by decide)) (fun c_64 => ?_)
  refine lv_aload_n hx hb dX12_feed_49 rfl (lv_at hl 2 rfl) ?_
  refine va_get (D := (dC, dI)) (ci := 12) (v := .ref (r 13)) (C := RX12) (T := TX12) (N := 57) hx hb hts (fun w h => List.mem_cons_of_mem _ (jnGB_X12 w h)) hown hK hP 0 rfl rfl 25 (by decide) (hts _ (List.mem_cons_of_mem _ mGB_52)) (fun _ h9 => h9) rfl dX12_feed_50 ?_
  refine lv_aload_n hx hb dX12_feed_53 rfl (lv_at hl 2 rfl) ?_
  refine va_get (D := (dC, dI)) (ci := 12) (v := .int 0) (C := RX12) (T := TX12) (N := 57) hx hb hts (fun w h => List.mem_cons_of_mem _ (jnGB_X12 w h)) hown hK hP 0 rfl rfl 26 (by decide) (hts _ (List.mem_cons_of_mem _ mGB_30)) (fun _ h9 => h9) rfl dX12_feed_54 ?_
  refine lv_iload hx hb dX12_feed_57 (lv_at hl 0 rfl) ?_
  refine lv_iadd hx hb dX12_feed_59 ?_
  refine gz_topi (y := 11) (by decide) ?_
  refine lv_aload hx hb dX12_feed_60 (lv_at hl 1 rfl) ?_
  refine lv_iload hx hb dX12_feed_62 (lv_at hl 0 rfl) ?_
  refine lv_iconst (v := 4) hx hb dX12_feed_64 (by decide) ?_
  refine lv_idiv hx hb dX12_feed_65 (by decide) ?_
  refine gz_topi (y := 2) (by decide) ?_
  refine va_iald hx hb hK hP 2 1 rfl rfl (by unfold vp_in; decide) dX12_feed_66 ?_
  refine lv_topi (fun x_65 ex_65 => ?_)
  refine lv_bipush (v := 24) hx hb dX12_feed_67 (by decide) ?_
  refine lv_bipush (v := 8) hx hb dX12_feed_69 (by decide) ?_
  refine lv_iload hx hb dX12_feed_71 (lv_at hl 0 rfl) ?_
  refine lv_iconst (v := 4) hx hb dX12_feed_73 (by decide) ?_
  refine lv_irem hx hb dX12_feed_74 (by decide) ?_
  refine gz_topi (y := 3) (by decide) ?_
  refine lv_imul hx hb dX12_feed_75 ?_
  refine gz_topi (y := 24) (by decide) ?_
  refine lv_isub hx hb dX12_feed_76 ?_
  refine gz_topi (y := 0) (by decide) ?_
  refine lv_iushr hx hb dX12_feed_77 rfl ?_
  refine lv_topi (fun x_66 ex_66 => ?_)
  refine lv_sipush (v := 255) hx hb dX12_feed_78 (by decide) ?_
  refine lv_iand hx hb dX12_feed_81 ?_
  refine lv_topi (fun x_67 ex_67 => ?_)
  refine va_iast hx hb hK hP hD hS 1 0 rfl rfl (by unfold vp_in; decide) dX12_feed_82 (fun H locs hP hD hS => ?_)
  have hP : va_P (dC, dI) vwCl [(h0, .inr (12, fsM r)), ((r 13), .inl ((kf 13), 1600, .inl (upd f_63 (11 : Int32).toNatClampNeg x_67))), (q_2, .inl (k_3, 5, .inl f_8))] H := hP
  have hD : va_D A [(h0, .inr (12, fsM r)), ((r 13), .inl ((kf 13), 1600, .inl (upd f_63 (11 : Int32).toNatClampNeg x_67))), (q_2, .inl (k_3, 5, .inl f_8))] := hD
  generalize upd f_63 (11 : Int32).toNatClampNeg x_67 = f_68 at hP hD
  refine lv_iinc (v := 12) (lv' := [(7, .int 12), (6, .ref q_2), (0, .ref h0), (1, .int p0), (2, .int p1), (3, .int p2), (4, .int p3), (5, .int p4)]) hx hb dX12_feed_83 hl (k := 0) rfl (by decide) (by decide) rfl (fun ls hl => ?_)
  refine lv_goto (tgt := 42) hx hb dX12_feed_86 (by decide) ?_
  refine lv_iload hx hb dX12_feed_42 (lv_at hl 0 rfl) ?_
  refine lv_bipush (v := 20) hx hb dX12_feed_44 (by decide) ?_
  refine lv_icmp_ge (tgt := 89) hx hb dX12_feed_46 (by decide) (fun c_69 => absurd c_69 (by decide)) (fun c_69 => ?_)
  refine lv_aload_n hx hb dX12_feed_49 rfl (lv_at hl 2 rfl) ?_
  refine va_get (D := (dC, dI)) (ci := 12) (v := .ref (r 13)) (C := RX12) (T := TX12) (N := 57) hx hb hts (fun w h => List.mem_cons_of_mem _ (jnGB_X12 w h)) hown hK hP 0 rfl rfl 25 (by decide) (hts _ (List.mem_cons_of_mem _ mGB_52)) (fun _ h9 => h9) rfl dX12_feed_50 ?_
  refine lv_aload_n hx hb dX12_feed_53 rfl (lv_at hl 2 rfl) ?_
  refine va_get (D := (dC, dI)) (ci := 12) (v := .int 0) (C := RX12) (T := TX12) (N := 57) hx hb hts (fun w h => List.mem_cons_of_mem _ (jnGB_X12 w h)) hown hK hP 0 rfl rfl 26 (by decide) (hts _ (List.mem_cons_of_mem _ mGB_30)) (fun _ h9 => h9) rfl dX12_feed_54 ?_
  refine lv_iload hx hb dX12_feed_57 (lv_at hl 0 rfl) ?_
  refine lv_iadd hx hb dX12_feed_59 ?_
  refine gz_topi (y := 12) (by decide) ?_
  refine lv_aload hx hb dX12_feed_60 (lv_at hl 1 rfl) ?_
  refine lv_iload hx hb dX12_feed_62 (lv_at hl 0 rfl) ?_
  refine lv_iconst (v := 4) hx hb dX12_feed_64 (by decide) ?_
  refine lv_idiv hx hb dX12_feed_65 (by decide) ?_
  refine gz_topi (y := 3) (by decide) ?_
  refine va_iald hx hb hK hP 2 1 rfl rfl (by unfold vp_in; decide) dX12_feed_66 ?_
  refine lv_topi (fun x_70 ex_70 => ?_)
  refine lv_bipush (v := 24) hx hb dX12_feed_67 (by decide) ?_
  refine lv_bipush (v := 8) hx hb dX12_feed_69 (by decide) ?_
  refine lv_iload hx hb dX12_feed_71 (lv_at hl 0 rfl) ?_
  refine lv_iconst (v := 4) hx hb dX12_feed_73 (by decide) ?_
  refine lv_irem hx hb dX12_feed_74 (by decide) ?_
  refine gz_topi (y := 0) (by decide) ?_
  refine lv_imul hx hb dX12_feed_75 ?_
  refine gz_topi (y := 0) (by decide) ?_
  refine lv_isub hx hb dX12_feed_76 ?_
  refine gz_topi (y := 24) (by decide) ?_
  refine lv_iushr hx hb dX12_feed_77 rfl ?_
  refine lv_topi (fun x_71 ex_71 => ?_)
  refine lv_sipush (v := 255) hx hb dX12_feed_78 (by decide) ?_
  refine lv_iand hx hb dX12_feed_81 ?_
  refine lv_topi (fun x_72 ex_72 => ?_)
  refine va_iast hx hb hK hP hD hS 1 0 rfl rfl (by unfold vp_in; decide) dX12_feed_82 (fun H locs hP hD hS => ?_)
  have hP : va_P (dC, dI) vwCl [(h0, .inr (12, fsM r)), ((r 13), .inl ((kf 13), 1600, .inl (upd f_68 (12 : Int32).toNatClampNeg x_72))), (q_2, .inl (k_3, 5, .inl f_8))] H := hP
  have hD : va_D A [(h0, .inr (12, fsM r)), ((r 13), .inl ((kf 13), 1600, .inl (upd f_68 (12 : Int32).toNatClampNeg x_72))), (q_2, .inl (k_3, 5, .inl f_8))] := hD
  generalize upd f_68 (12 : Int32).toNatClampNeg x_72 = f_73 at hP hD
  refine lv_iinc (v := 13) (lv' := [(7, .int 13), (6, .ref q_2), (0, .ref h0), (1, .int p0), (2, .int p1), (3, .int p2), (4, .int p3), (5, .int p4)]) hx hb dX12_feed_83 hl (k := 0) rfl (by decide) (by decide) rfl (fun ls hl => ?_)
  refine lv_goto (tgt := 42) hx hb dX12_feed_86 (by decide) ?_
  refine lv_iload hx hb dX12_feed_42 (lv_at hl 0 rfl) ?_
  refine lv_bipush (v := 20) hx hb dX12_feed_44 (by decide) ?_
  refine lv_icmp_ge (tgt := 89) hx hb dX12_feed_46 (by decide) (fun c_74 => absurd c_74 (by decide)) (fun c_74 => ?_)
  refine lv_aload_n hx hb dX12_feed_49 rfl (lv_at hl 2 rfl) ?_
  refine va_get (D := (dC, dI)) (ci := 12) (v := .ref (r 13)) (C := RX12) (T := TX12) (N := 57) hx hb hts (fun w h => List.mem_cons_of_mem _ (jnGB_X12 w h)) hown hK hP 0 rfl rfl 25 (by decide) (hts _ (List.mem_cons_of_mem _ mGB_52)) (fun _ h9 => h9) rfl dX12_feed_50 ?_
  refine lv_aload_n hx hb dX12_feed_53 rfl (lv_at hl 2 rfl) ?_
  refine va_get (D := (dC, dI)) (ci := 12) (v := .int 0) (C := RX12) (T := TX12) (N := 57) hx hb hts (fun w h => List.mem_cons_of_mem _ (jnGB_X12 w h)) hown hK hP 0 rfl rfl 26 (by decide) (hts _ (List.mem_cons_of_mem _ mGB_30)) (fun _ h9 => h9) rfl dX12_feed_54 ?_
  refine lv_iload hx hb dX12_feed_57 (lv_at hl 0 rfl) ?_
  refine lv_iadd hx hb dX12_feed_59 ?_
  refine gz_topi (y := 13) (by decide) ?_
  refine lv_aload hx hb dX12_feed_60 (lv_at hl 1 rfl) ?_
  refine lv_iload hx hb dX12_feed_62 (lv_at hl 0 rfl) ?_
  refine lv_iconst (v := 4) hx hb dX12_feed_64 (by decide) ?_
  refine lv_idiv hx hb dX12_feed_65 (by decide) ?_
  refine gz_topi (y := 3) (by decide) ?_
  refine va_iald hx hb hK hP 2 1 rfl rfl (by unfold vp_in; decide) dX12_feed_66 ?_
  refine lv_topi (fun x_75 ex_75 => ?_)
  refine lv_bipush (v := 24) hx hb dX12_feed_67 (by decide) ?_
  refine lv_bipush (v := 8) hx hb dX12_feed_69 (by decide) ?_
  refine lv_iload hx hb dX12_feed_71 (lv_at hl 0 rfl) ?_
  refine lv_iconst (v := 4) hx hb dX12_feed_73 (by decide) ?_
  refine lv_irem hx hb dX12_feed_74 (by decide) ?_
  refine gz_topi (y := 1) (by decide) ?_
  refine lv_imul hx hb dX12_feed_75 ?_
  refine gz_topi (y := 8) (by decide) ?_
  refine lv_isub hx hb dX12_feed_76 ?_
  refine gz_topi (y := 16) (by decide) ?_
  refine lv_iushr hx hb dX12_feed_77 rfl ?_
  refine lv_topi (fun x_76 ex_76 => ?_)
  refine lv_sipush (v := 255) hx hb dX12_feed_78 (by decide) ?_
  refine lv_iand hx hb dX12_feed_81 ?_
  refine lv_topi (fun x_77 ex_77 => ?_)
  refine va_iast hx hb hK hP hD hS 1 0 rfl rfl (by unfold vp_in; decide) dX12_feed_82 (fun H locs hP hD hS => ?_)
  have hP : va_P (dC, dI) vwCl [(h0, .inr (12, fsM r)), ((r 13), .inl ((kf 13), 1600, .inl (upd f_73 (13 : Int32).toNatClampNeg x_77))), (q_2, .inl (k_3, 5, .inl f_8))] H := hP
  have hD : va_D A [(h0, .inr (12, fsM r)), ((r 13), .inl ((kf 13), 1600, .inl (upd f_73 (13 : Int32).toNatClampNeg x_77))), (q_2, .inl (k_3, 5, .inl f_8))] := hD
  generalize upd f_73 (13 : Int32).toNatClampNeg x_77 = f_78 at hP hD
  refine lv_iinc (v := 14) (lv' := [(7, .int 14), (6, .ref q_2), (0, .ref h0), (1, .int p0), (2, .int p1), (3, .int p2), (4, .int p3), (5, .int p4)]) hx hb dX12_feed_83 hl (k := 0) rfl (by decide) (by decide) rfl (fun ls hl => ?_)
  refine lv_goto (tgt := 42) hx hb dX12_feed_86 (by decide) ?_
  refine lv_iload hx hb dX12_feed_42 (lv_at hl 0 rfl) ?_
  refine lv_bipush (v := 20) hx hb dX12_feed_44 (by decide) ?_
  refine lv_icmp_ge (tgt := 89) hx hb dX12_feed_46 (by decide) (fun c_79 => absurd c_79 (by decide)) (fun c_79 => ?_)
  refine lv_aload_n hx hb dX12_feed_49 rfl (lv_at hl 2 rfl) ?_
  refine va_get (D := (dC, dI)) (ci := 12) (v := .ref (r 13)) (C := RX12) (T := TX12) (N := 57) hx hb hts (fun w h => List.mem_cons_of_mem _ (jnGB_X12 w h)) hown hK hP 0 rfl rfl 25 (by decide) (hts _ (List.mem_cons_of_mem _ mGB_52)) (fun _ h9 => h9) rfl dX12_feed_50 ?_
  refine lv_aload_n hx hb dX12_feed_53 rfl (lv_at hl 2 rfl) ?_
  refine va_get (D := (dC, dI)) (ci := 12) (v := .int 0) (C := RX12) (T := TX12) (N := 57) hx hb hts (fun w h => List.mem_cons_of_mem _ (jnGB_X12 w h)) hown hK hP 0 rfl rfl 26 (by decide) (hts _ (List.mem_cons_of_mem _ mGB_30)) (fun _ h9 => h9) rfl dX12_feed_54 ?_
  refine lv_iload hx hb dX12_feed_57 (lv_at hl 0 rfl) ?_
  refine lv_iadd hx hb dX12_feed_59 ?_
  refine gz_topi (y := 14) (by decide) ?_
  refine lv_aload hx hb dX12_feed_60 (lv_at hl 1 rfl) ?_
  refine lv_iload hx hb dX12_feed_62 (lv_at hl 0 rfl) ?_
  refine lv_iconst (v := 4) hx hb dX12_feed_64 (by decide) ?_
  refine lv_idiv hx hb dX12_feed_65 (by decide) ?_
  refine gz_topi (y := 3) (by decide) ?_
  refine va_iald hx hb hK hP 2 1 rfl rfl (by unfold vp_in; decide) dX12_feed_66 ?_
  refine lv_topi (fun x_80 ex_80 => ?_)
  refine lv_bipush (v := 24) hx hb dX12_feed_67 (by decide) ?_
  refine lv_bipush (v := 8) hx hb dX12_feed_69 (by decide) ?_
  refine lv_iload hx hb dX12_feed_71 (lv_at hl 0 rfl) ?_
  refine lv_iconst (v := 4) hx hb dX12_feed_73 (by decide) ?_
  refine lv_irem hx hb dX12_feed_74 (by decide) ?_
  refine gz_topi (y := 2) (by decide) ?_
  refine lv_imul hx hb dX12_feed_75 ?_
  refine gz_topi (y := 16) (by decide) ?_
  refine lv_isub hx hb dX12_feed_76 ?_
  refine gz_topi (y := 8) (by decide) ?_
  refine lv_iushr hx hb dX12_feed_77 rfl ?_
  refine lv_topi (fun x_81 ex_81 => ?_)
  refine lv_sipush (v := 255) hx hb dX12_feed_78 (by decide) ?_
  refine lv_iand hx hb dX12_feed_81 ?_
  refine lv_topi (fun x_82 ex_82 => ?_)
  refine va_iast hx hb hK hP hD hS 1 0 rfl rfl (by unfold vp_in; decide) dX12_feed_82 (fun H locs hP hD hS => ?_)
  have hP : va_P (dC, dI) vwCl [(h0, .inr (12, fsM r)), ((r 13), .inl ((kf 13), 1600, .inl (upd f_78 (14 : Int32).toNatClampNeg x_82))), (q_2, .inl (k_3, 5, .inl f_8))] H := hP
  have hD : va_D A [(h0, .inr (12, fsM r)), ((r 13), .inl ((kf 13), 1600, .inl (upd f_78 (14 : Int32).toNatClampNeg x_82))), (q_2, .inl (k_3, 5, .inl f_8))] := hD
  generalize upd f_78 (14 : Int32).toNatClampNeg x_82 = f_83 at hP hD
  refine lv_iinc (v := 15) (lv' := [(7, .int 15), (6, .ref q_2), (0, .ref h0), (1, .int p0), (2, .int p1), (3, .int p2), (4, .int p3), (5, .int p4)]) hx hb dX12_feed_83 hl (k := 0) rfl (by decide) (by decide) rfl (fun ls hl => ?_)
  refine lv_goto (tgt := 42) hx hb dX12_feed_86 (by decide) ?_
  refine lv_iload hx hb dX12_feed_42 (lv_at hl 0 rfl) ?_
  refine lv_bipush (v := 20) hx hb dX12_feed_44 (by decide) ?_
  refine lv_icmp_ge (tgt := 89) hx hb dX12_feed_46 (by decide) (fun c_84 => absurd c_84 (by decide)) (fun c_84 => ?_)
  refine lv_aload_n hx hb dX12_feed_49 rfl (lv_at hl 2 rfl) ?_
  refine va_get (D := (dC, dI)) (ci := 12) (v := .ref (r 13)) (C := RX12) (T := TX12) (N := 57) hx hb hts (fun w h => List.mem_cons_of_mem _ (jnGB_X12 w h)) hown hK hP 0 rfl rfl 25 (by decide) (hts _ (List.mem_cons_of_mem _ mGB_52)) (fun _ h9 => h9) rfl dX12_feed_50 ?_
  refine lv_aload_n hx hb dX12_feed_53 rfl (lv_at hl 2 rfl) ?_
  refine va_get (D := (dC, dI)) (ci := 12) (v := .int 0) (C := RX12) (T := TX12) (N := 57) hx hb hts (fun w h => List.mem_cons_of_mem _ (jnGB_X12 w h)) hown hK hP 0 rfl rfl 26 (by decide) (hts _ (List.mem_cons_of_mem _ mGB_30)) (fun _ h9 => h9) rfl dX12_feed_54 ?_
  refine lv_iload hx hb dX12_feed_57 (lv_at hl 0 rfl) ?_
  refine lv_iadd hx hb dX12_feed_59 ?_
  refine gz_topi (y := 15) (by decide) ?_
  refine lv_aload hx hb dX12_feed_60 (lv_at hl 1 rfl) ?_
  refine lv_iload hx hb dX12_feed_62 (lv_at hl 0 rfl) ?_
  refine lv_iconst (v := 4) hx hb dX12_feed_64 (by decide) ?_
  refine lv_idiv hx hb dX12_feed_65 (by decide) ?_
  refine gz_topi (y := 3) (by decide) ?_
  refine va_iald hx hb hK hP 2 1 rfl rfl (by unfold vp_in; decide) dX12_feed_66 ?_
  refine lv_topi (fun x_85 ex_85 => ?_)
  refine lv_bipush (v := 24) hx hb dX12_feed_67 (by decide) ?_
  refine lv_bipush (v := 8) hx hb dX12_feed_69 (by decide) ?_
  refine lv_iload hx hb dX12_feed_71 (lv_at hl 0 rfl) ?_
  refine lv_iconst (v := 4) hx hb dX12_feed_73 (by decide) ?_
  refine lv_irem hx hb dX12_feed_74 (by decide) ?_
  refine gz_topi (y := 3) (by decide) ?_
  refine lv_imul hx hb dX12_feed_75 ?_
  refine gz_topi (y := 24) (by decide) ?_
  refine lv_isub hx hb dX12_feed_76 ?_
  refine gz_topi (y := 0) (by decide) ?_
  refine lv_iushr hx hb dX12_feed_77 rfl ?_
  refine lv_topi (fun x_86 ex_86 => ?_)
  refine lv_sipush (v := 255) hx hb dX12_feed_78 (by decide) ?_
  refine lv_iand hx hb dX12_feed_81 ?_
  refine lv_topi (fun x_87 ex_87 => ?_)
  refine va_iast hx hb hK hP hD hS 1 0 rfl rfl (by unfold vp_in; decide) dX12_feed_82 (fun H locs hP hD hS => ?_)
  have hP : va_P (dC, dI) vwCl [(h0, .inr (12, fsM r)), ((r 13), .inl ((kf 13), 1600, .inl (upd f_83 (15 : Int32).toNatClampNeg x_87))), (q_2, .inl (k_3, 5, .inl f_8))] H := hP
  have hD : va_D A [(h0, .inr (12, fsM r)), ((r 13), .inl ((kf 13), 1600, .inl (upd f_83 (15 : Int32).toNatClampNeg x_87))), (q_2, .inl (k_3, 5, .inl f_8))] := hD
  generalize upd f_83 (15 : Int32).toNatClampNeg x_87 = f_88 at hP hD
  refine lv_iinc (v := 16) (lv' := [(7, .int 16), (6, .ref q_2), (0, .ref h0), (1, .int p0), (2, .int p1), (3, .int p2), (4, .int p3), (5, .int p4)]) hx hb dX12_feed_83 hl (k := 0) rfl (by decide) (by decide) rfl (fun ls hl => ?_)
  refine lv_goto (tgt := 42) hx hb dX12_feed_86 (by decide) ?_
  refine lv_iload hx hb dX12_feed_42 (lv_at hl 0 rfl) ?_
  refine lv_bipush (v := 20) hx hb dX12_feed_44 (by decide) ?_
  refine lv_icmp_ge (tgt := 89) hx hb dX12_feed_46 (by decide) (fun c_89 => absurd c_89 (by decide)) (fun c_89 => ?_)
  refine lv_aload_n hx hb dX12_feed_49 rfl (lv_at hl 2 rfl) ?_
  refine va_get (D := (dC, dI)) (ci := 12) (v := .ref (r 13)) (C := RX12) (T := TX12) (N := 57) hx hb hts (fun w h => List.mem_cons_of_mem _ (jnGB_X12 w h)) hown hK hP 0 rfl rfl 25 (by decide) (hts _ (List.mem_cons_of_mem _ mGB_52)) (fun _ h9 => h9) rfl dX12_feed_50 ?_
  refine lv_aload_n hx hb dX12_feed_53 rfl (lv_at hl 2 rfl) ?_
  refine va_get (D := (dC, dI)) (ci := 12) (v := .int 0) (C := RX12) (T := TX12) (N := 57) hx hb hts (fun w h => List.mem_cons_of_mem _ (jnGB_X12 w h)) hown hK hP 0 rfl rfl 26 (by decide) (hts _ (List.mem_cons_of_mem _ mGB_30)) (fun _ h9 => h9) rfl dX12_feed_54 ?_
  refine lv_iload hx hb dX12_feed_57 (lv_at hl 0 rfl) ?_
  refine lv_iadd hx hb dX12_feed_59 ?_
  refine gz_topi (y := 16) (by decide) ?_
  refine lv_aload hx hb dX12_feed_60 (lv_at hl 1 rfl) ?_
  refine lv_iload hx hb dX12_feed_62 (lv_at hl 0 rfl) ?_
  refine lv_iconst (v := 4) hx hb dX12_feed_64 (by decide) ?_
  refine lv_idiv hx hb dX12_feed_65 (by decide) ?_
  refine gz_topi (y := 4) (by decide) ?_
  refine va_iald hx hb hK hP 2 1 rfl rfl (by unfold vp_in; decide) dX12_feed_66 ?_
  refine lv_topi (fun x_90 ex_90 => ?_)
  refine lv_bipush (v := 24) hx hb dX12_feed_67 (by decide) ?_
  refine lv_bipush (v := 8) hx hb dX12_feed_69 (by decide) ?_
  refine lv_iload hx hb dX12_feed_71 (lv_at hl 0 rfl) ?_
  refine lv_iconst (v := 4) hx hb dX12_feed_73 (by decide) ?_
  refine lv_irem hx hb dX12_feed_74 (by decide) ?_
  refine gz_topi (y := 0) (by decide) ?_
  refine lv_imul hx hb dX12_feed_75 ?_
  refine gz_topi (y := 0) (by decide) ?_
  refine lv_isub hx hb dX12_feed_76 ?_
  refine gz_topi (y := 24) (by decide) ?_
  refine lv_iushr hx hb dX12_feed_77 rfl ?_
  refine lv_topi (fun x_91 ex_91 => ?_)
  refine lv_sipush (v := 255) hx hb dX12_feed_78 (by decide) ?_
  refine lv_iand hx hb dX12_feed_81 ?_
  refine lv_topi (fun x_92 ex_92 => ?_)
  refine va_iast hx hb hK hP hD hS 1 0 rfl rfl (by unfold vp_in; decide) dX12_feed_82 (fun H locs hP hD hS => ?_)
  have hP : va_P (dC, dI) vwCl [(h0, .inr (12, fsM r)), ((r 13), .inl ((kf 13), 1600, .inl (upd f_88 (16 : Int32).toNatClampNeg x_92))), (q_2, .inl (k_3, 5, .inl f_8))] H := hP
  have hD : va_D A [(h0, .inr (12, fsM r)), ((r 13), .inl ((kf 13), 1600, .inl (upd f_88 (16 : Int32).toNatClampNeg x_92))), (q_2, .inl (k_3, 5, .inl f_8))] := hD
  generalize upd f_88 (16 : Int32).toNatClampNeg x_92 = f_93 at hP hD
  refine lv_iinc (v := 17) (lv' := [(7, .int 17), (6, .ref q_2), (0, .ref h0), (1, .int p0), (2, .int p1), (3, .int p2), (4, .int p3), (5, .int p4)]) hx hb dX12_feed_83 hl (k := 0) rfl (by decide) (by decide) rfl (fun ls hl => ?_)
  refine lv_goto (tgt := 42) hx hb dX12_feed_86 (by decide) ?_
  refine lv_iload hx hb dX12_feed_42 (lv_at hl 0 rfl) ?_
  refine lv_bipush (v := 20) hx hb dX12_feed_44 (by decide) ?_
  refine lv_icmp_ge (tgt := 89) hx hb dX12_feed_46 (by decide) (fun c_94 => absurd c_94 (by decide)) (fun c_94 => ?_)
  refine lv_aload_n hx hb dX12_feed_49 rfl (lv_at hl 2 rfl) ?_
  refine va_get (D := (dC, dI)) (ci := 12) (v := .ref (r 13)) (C := RX12) (T := TX12) (N := 57) hx hb hts (fun w h => List.mem_cons_of_mem _ (jnGB_X12 w h)) hown hK hP 0 rfl rfl 25 (by decide) (hts _ (List.mem_cons_of_mem _ mGB_52)) (fun _ h9 => h9) rfl dX12_feed_50 ?_
  refine lv_aload_n hx hb dX12_feed_53 rfl (lv_at hl 2 rfl) ?_
  refine va_get (D := (dC, dI)) (ci := 12) (v := .int 0) (C := RX12) (T := TX12) (N := 57) hx hb hts (fun w h => List.mem_cons_of_mem _ (jnGB_X12 w h)) hown hK hP 0 rfl rfl 26 (by decide) (hts _ (List.mem_cons_of_mem _ mGB_30)) (fun _ h9 => h9) rfl dX12_feed_54 ?_
  refine lv_iload hx hb dX12_feed_57 (lv_at hl 0 rfl) ?_
  refine lv_iadd hx hb dX12_feed_59 ?_
  refine gz_topi (y := 17) (by decide) ?_
  refine lv_aload hx hb dX12_feed_60 (lv_at hl 1 rfl) ?_
  refine lv_iload hx hb dX12_feed_62 (lv_at hl 0 rfl) ?_
  refine lv_iconst (v := 4) hx hb dX12_feed_64 (by decide) ?_
  refine lv_idiv hx hb dX12_feed_65 (by decide) ?_
  refine gz_topi (y := 4) (by decide) ?_
  refine va_iald hx hb hK hP 2 1 rfl rfl (by unfold vp_in; decide) dX12_feed_66 ?_
  refine lv_topi (fun x_95 ex_95 => ?_)
  refine lv_bipush (v := 24) hx hb dX12_feed_67 (by decide) ?_
  refine lv_bipush (v := 8) hx hb dX12_feed_69 (by decide) ?_
  refine lv_iload hx hb dX12_feed_71 (lv_at hl 0 rfl) ?_
  refine lv_iconst (v := 4) hx hb dX12_feed_73 (by decide) ?_
  refine lv_irem hx hb dX12_feed_74 (by decide) ?_
  refine gz_topi (y := 1) (by decide) ?_
  refine lv_imul hx hb dX12_feed_75 ?_
  refine gz_topi (y := 8) (by decide) ?_
  refine lv_isub hx hb dX12_feed_76 ?_
  refine gz_topi (y := 16) (by decide) ?_
  refine lv_iushr hx hb dX12_feed_77 rfl ?_
  refine lv_topi (fun x_96 ex_96 => ?_)
  refine lv_sipush (v := 255) hx hb dX12_feed_78 (by decide) ?_
  refine lv_iand hx hb dX12_feed_81 ?_
  refine lv_topi (fun x_97 ex_97 => ?_)
  refine va_iast hx hb hK hP hD hS 1 0 rfl rfl (by unfold vp_in; decide) dX12_feed_82 (fun H locs hP hD hS => ?_)
  have hP : va_P (dC, dI) vwCl [(h0, .inr (12, fsM r)), ((r 13), .inl ((kf 13), 1600, .inl (upd f_93 (17 : Int32).toNatClampNeg x_97))), (q_2, .inl (k_3, 5, .inl f_8))] H := hP
  have hD : va_D A [(h0, .inr (12, fsM r)), ((r 13), .inl ((kf 13), 1600, .inl (upd f_93 (17 : Int32).toNatClampNeg x_97))), (q_2, .inl (k_3, 5, .inl f_8))] := hD
  generalize upd f_93 (17 : Int32).toNatClampNeg x_97 = f_98 at hP hD
  refine lv_iinc (v := 18) (lv' := [(7, .int 18), (6, .ref q_2), (0, .ref h0), (1, .int p0), (2, .int p1), (3, .int p2), (4, .int p3), (5, .int p4)]) hx hb dX12_feed_83 hl (k := 0) rfl (by decide) (by decide) rfl (fun ls hl => ?_)
  refine lv_goto (tgt := 42) hx hb dX12_feed_86 (by decide) ?_
  refine lv_iload hx hb dX12_feed_42 (lv_at hl 0 rfl) ?_
  refine lv_bipush (v := 20) hx hb dX12_feed_44 (by decide) ?_
  refine lv_icmp_ge (tgt := 89) hx hb dX12_feed_46 (by decide) (fun c_99 => absurd c_99 (by decide)) (fun c_99 => ?_)
  refine lv_aload_n hx hb dX12_feed_49 rfl (lv_at hl 2 rfl) ?_
  refine va_get (D := (dC, dI)) (ci := 12) (v := .ref (r 13)) (C := RX12) (T := TX12) (N := 57) hx hb hts (fun w h => List.mem_cons_of_mem _ (jnGB_X12 w h)) hown hK hP 0 rfl rfl 25 (by decide) (hts _ (List.mem_cons_of_mem _ mGB_52)) (fun _ h9 => h9) rfl dX12_feed_50 ?_
  refine lv_aload_n hx hb dX12_feed_53 rfl (lv_at hl 2 rfl) ?_
  refine va_get (D := (dC, dI)) (ci := 12) (v := .int 0) (C := RX12) (T := TX12) (N := 57) hx hb hts (fun w h => List.mem_cons_of_mem _ (jnGB_X12 w h)) hown hK hP 0 rfl rfl 26 (by decide) (hts _ (List.mem_cons_of_mem _ mGB_30)) (fun _ h9 => h9) rfl dX12_feed_54 ?_
  refine lv_iload hx hb dX12_feed_57 (lv_at hl 0 rfl) ?_
  refine lv_iadd hx hb dX12_feed_59 ?_
  refine gz_topi (y := 18) (by decide) ?_
  refine lv_aload hx hb dX12_feed_60 (lv_at hl 1 rfl) ?_
  refine lv_iload hx hb dX12_feed_62 (lv_at hl 0 rfl) ?_
  refine lv_iconst (v := 4) hx hb dX12_feed_64 (by decide) ?_
  refine lv_idiv hx hb dX12_feed_65 (by decide) ?_
  refine gz_topi (y := 4) (by decide) ?_
  refine va_iald hx hb hK hP 2 1 rfl rfl (by unfold vp_in; decide) dX12_feed_66 ?_
  refine lv_topi (fun x_100 ex_100 => ?_)
  refine lv_bipush (v := 24) hx hb dX12_feed_67 (by decide) ?_
  refine lv_bipush (v := 8) hx hb dX12_feed_69 (by decide) ?_
  refine lv_iload hx hb dX12_feed_71 (lv_at hl 0 rfl) ?_
  refine lv_iconst (v := 4) hx hb dX12_feed_73 (by decide) ?_
  refine lv_irem hx hb dX12_feed_74 (by decide) ?_
  refine gz_topi (y := 2) (by decide) ?_
  refine lv_imul hx hb dX12_feed_75 ?_
  refine gz_topi (y := 16) (by decide) ?_
  refine lv_isub hx hb dX12_feed_76 ?_
  refine gz_topi (y := 8) (by decide) ?_
  refine lv_iushr hx hb dX12_feed_77 rfl ?_
  refine lv_topi (fun x_101 ex_101 => ?_)
  refine lv_sipush (v := 255) hx hb dX12_feed_78 (by decide) ?_
  refine lv_iand hx hb dX12_feed_81 ?_
  refine lv_topi (fun x_102 ex_102 => ?_)
  refine va_iast hx hb hK hP hD hS 1 0 rfl rfl (by unfold vp_in; decide) dX12_feed_82 (fun H locs hP hD hS => ?_)
  have hP : va_P (dC, dI) vwCl [(h0, .inr (12, fsM r)), ((r 13), .inl ((kf 13), 1600, .inl (upd f_98 (18 : Int32).toNatClampNeg x_102))), (q_2, .inl (k_3, 5, .inl f_8))] H := hP
  have hD : va_D A [(h0, .inr (12, fsM r)), ((r 13), .inl ((kf 13), 1600, .inl (upd f_98 (18 : Int32).toNatClampNeg x_102))), (q_2, .inl (k_3, 5, .inl f_8))] := hD
  generalize upd f_98 (18 : Int32).toNatClampNeg x_102 = f_103 at hP hD
  refine lv_iinc (v := 19) (lv' := [(7, .int 19), (6, .ref q_2), (0, .ref h0), (1, .int p0), (2, .int p1), (3, .int p2), (4, .int p3), (5, .int p4)]) hx hb dX12_feed_83 hl (k := 0) rfl (by decide) (by decide) rfl (fun ls hl => ?_)
  refine lv_goto (tgt := 42) hx hb dX12_feed_86 (by decide) ?_
  refine lv_iload hx hb dX12_feed_42 (lv_at hl 0 rfl) ?_
  refine lv_bipush (v := 20) hx hb dX12_feed_44 (by decide) ?_
  refine lv_icmp_ge (tgt := 89) hx hb dX12_feed_46 (by decide) (fun c_104 => absurd c_104 (by decide)) (fun c_104 => ?_)
  refine lv_aload_n hx hb dX12_feed_49 rfl (lv_at hl 2 rfl) ?_
  refine va_get (D := (dC, dI)) (ci := 12) (v := .ref (r 13)) (C := RX12) (T := TX12) (N := 57) hx hb hts (fun w h => List.mem_cons_of_mem _ (jnGB_X12 w h)) hown hK hP 0 rfl rfl 25 (by decide) (hts _ (List.mem_cons_of_mem _ mGB_52)) (fun _ h9 => h9) rfl dX12_feed_50 ?_
  refine lv_aload_n hx hb dX12_feed_53 rfl (lv_at hl 2 rfl) ?_
  refine va_get (D := (dC, dI)) (ci := 12) (v := .int 0) (C := RX12) (T := TX12) (N := 57) hx hb hts (fun w h => List.mem_cons_of_mem _ (jnGB_X12 w h)) hown hK hP 0 rfl rfl 26 (by decide) (hts _ (List.mem_cons_of_mem _ mGB_30)) (fun _ h9 => h9) rfl dX12_feed_54 ?_
  refine lv_iload hx hb dX12_feed_57 (lv_at hl 0 rfl) ?_
  refine lv_iadd hx hb dX12_feed_59 ?_
  refine gz_topi (y := 19) (by decide) ?_
  refine lv_aload hx hb dX12_feed_60 (lv_at hl 1 rfl) ?_
  refine lv_iload hx hb dX12_feed_62 (lv_at hl 0 rfl) ?_
  refine lv_iconst (v := 4) hx hb dX12_feed_64 (by decide) ?_
  refine lv_idiv hx hb dX12_feed_65 (by decide) ?_
  refine gz_topi (y := 4) (by decide) ?_
  refine va_iald hx hb hK hP 2 1 rfl rfl (by unfold vp_in; decide) dX12_feed_66 ?_
  refine lv_topi (fun x_105 ex_105 => ?_)
  refine lv_bipush (v := 24) hx hb dX12_feed_67 (by decide) ?_
  refine lv_bipush (v := 8) hx hb dX12_feed_69 (by decide) ?_
  refine lv_iload hx hb dX12_feed_71 (lv_at hl 0 rfl) ?_
  refine lv_iconst (v := 4) hx hb dX12_feed_73 (by decide) ?_
  refine lv_irem hx hb dX12_feed_74 (by decide) ?_
  refine gz_topi (y := 3) (by decide) ?_
  refine lv_imul hx hb dX12_feed_75 ?_
  refine gz_topi (y := 24) (by decide) ?_
  refine lv_isub hx hb dX12_feed_76 ?_
  refine gz_topi (y := 0) (by decide) ?_
  refine lv_iushr hx hb dX12_feed_77 rfl ?_
  refine lv_topi (fun x_106 ex_106 => ?_)
  refine lv_sipush (v := 255) hx hb dX12_feed_78 (by decide) ?_
  refine lv_iand hx hb dX12_feed_81 ?_
  refine lv_topi (fun x_107 ex_107 => ?_)
  refine va_iast hx hb hK hP hD hS 1 0 rfl rfl (by unfold vp_in; decide) dX12_feed_82 (fun H locs hP hD hS => ?_)
  have hP : va_P (dC, dI) vwCl [(h0, .inr (12, fsM r)), ((r 13), .inl ((kf 13), 1600, .inl (upd f_103 (19 : Int32).toNatClampNeg x_107))), (q_2, .inl (k_3, 5, .inl f_8))] H := hP
  have hD : va_D A [(h0, .inr (12, fsM r)), ((r 13), .inl ((kf 13), 1600, .inl (upd f_103 (19 : Int32).toNatClampNeg x_107))), (q_2, .inl (k_3, 5, .inl f_8))] := hD
  generalize upd f_103 (19 : Int32).toNatClampNeg x_107 = f_108 at hP hD
  refine lv_iinc (v := 20) (lv' := [(7, .int 20), (6, .ref q_2), (0, .ref h0), (1, .int p0), (2, .int p1), (3, .int p2), (4, .int p3), (5, .int p4)]) hx hb dX12_feed_83 hl (k := 0) rfl (by decide) (by decide) rfl (fun ls hl => ?_)
  refine lv_goto (tgt := 42) hx hb dX12_feed_86 (by decide) ?_
  refine lv_iload hx hb dX12_feed_42 (lv_at hl 0 rfl) ?_
  refine lv_bipush (v := 20) hx hb dX12_feed_44 (by decide) ?_
  refine lv_icmp_ge (tgt := 89) hx hb dX12_feed_46 (by decide) (fun c_109 => ?_) (fun c_109 => absurd (by decide) c_109)
  refine lv_aload_n hx hb dX12_feed_89 rfl (lv_at hl 2 rfl) ?_
  refine lv_dup hx hb dX12_feed_90 rfl ?_
  refine va_get (D := (dC, dI)) (ci := 12) (v := .int 0) (C := RX12) (T := TX12) (N := 57) hx hb hts (fun w h => List.mem_cons_of_mem _ (jnGB_X12 w h)) hown hK hP 0 rfl rfl 26 (by decide) (hts _ (List.mem_cons_of_mem _ mGB_30)) (fun _ h9 => h9) rfl dX12_feed_91 ?_
  refine lv_bipush (v := 20) hx hb dX12_feed_94 (by decide) ?_
  refine lv_iadd hx hb dX12_feed_96 ?_
  refine gz_topi (y := 20) (by decide) ?_
  refine va_put (D := (dC, dI)) (ci := 12) (v := .int 20) (ty := .int) (C := RX12) (T := TX12) (N := 57) hx hb hts (fun w h => List.mem_cons_of_mem _ (jnGB_X12 w h)) tyX12 tyX12_ok nmX12 hown hK hP hD hS 0 rfl rfl 26 (by decide) (hts _ (List.mem_cons_of_mem _ mGB_30)) (fun _ h9 => h9) rfl (by decide +kernel) rfl rfl (Nat.le_of_ble_eq_true rfl) dX12_feed_97 (fun H locs hP hD hS => ?_)
  have hP : va_P (dC, dI) vwCl [(h0, .inr (12, [.int 0, .int 0, .int 0, .int 0, .int 0, .int 0, .int 0, .int 0, .ref (r 0), .ref (r 1), .int 0, .ref (r 2), .ref (r 3), .ref (r 4), .ref (r 5), .ref (r 6), .ref (r 7), .int 0, .ref (r 8), .ref (r 9), .ref (r 10), .ref (r 11), .ref (r 12), .int 0, .int 0, .ref (r 13), .int 20, .int 0, .int (-1), .int 0, .int 0, .int 0, .int 0, .int 0, .ref (r 14), .ref (r 15), .ref (r 16), .int 0, .ref (r 17), .ref (r 18), .ref (r 19), .int 0, .int (-1), .int (-1), .int (-1), .int (-1), .ref (r 20), .int 0, .int 0, .int 0, .int 0, .int 0, .ref (r 21), .ref (r 22), .int 0, .ref (r 23), .int 0])), ((r 13), .inl ((kf 13), 1600, .inl f_108)), (q_2, .inl (k_3, 5, .inl f_8))] H := hP
  have hD : va_D A [(h0, .inr (12, [.int 0, .int 0, .int 0, .int 0, .int 0, .int 0, .int 0, .int 0, .ref (r 0), .ref (r 1), .int 0, .ref (r 2), .ref (r 3), .ref (r 4), .ref (r 5), .ref (r 6), .ref (r 7), .int 0, .ref (r 8), .ref (r 9), .ref (r 10), .ref (r 11), .ref (r 12), .int 0, .int 0, .ref (r 13), .int 20, .int 0, .int (-1), .int 0, .int 0, .int 0, .int 0, .int 0, .ref (r 14), .ref (r 15), .ref (r 16), .int 0, .ref (r 17), .ref (r 18), .ref (r 19), .int 0, .int (-1), .int (-1), .int (-1), .int (-1), .ref (r 20), .int 0, .int 0, .int 0, .int 0, .int 0, .ref (r 21), .ref (r 22), .int 0, .ref (r 23), .int 0])), ((r 13), .inl ((kf 13), 1600, .inl f_108)), (q_2, .inl (k_3, 5, .inl f_8))] := hD
  refine lv_aload_n hx hb dX12_feed_100 rfl (lv_at hl 2 rfl) ?_
  refine va_get (D := (dC, dI)) (ci := 12) (v := .int 20) (C := RX12) (T := TX12) (N := 57) hx hb hts (fun w h => List.mem_cons_of_mem _ (jnGB_X12 w h)) hown hK hP 0 rfl rfl 26 (by decide) (hts _ (List.mem_cons_of_mem _ mGB_30)) (fun _ h9 => h9) rfl dX12_feed_101 ?_
  refine W.widen (k := 1) (n := 5) (Nat.le_of_ble_eq_true rfl) (Nat.le_of_ble_eq_true rfl) ?_
  exact W.iret (v := 20) hx hb hr (fun t ht hW => ⟨⟨20, (), rfl, rfl, trivial⟩, hS.F ht⟩) hS.2.2 dX12_feed_104
