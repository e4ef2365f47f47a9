theorem dX12_feed_0 : decode cX12_feed 0 = .ok (.aload_n 0, 1) := by decide +kernel
theorem dX12_feed_1 : decode cX12_feed 1 = .ok (.getfield 99, 3) := by decide +kernel
theorem dX12_feed_4 : decode cX12_feed 4 = .ok (.sipush 1580, 3) := by decide +kernel
theorem dX12_feed_7 : decode cX12_feed 7 = .ok (.if_icmp .le 5, 3) := by decide +kernel
theorem dX12_feed_10 : decode cX12_feed 10 = .ok (.iconst (-1), 1) := by decide +kernel
theorem dX12_feed_11 : decode cX12_feed 11 = .ok (.ireturn, 1) := by decide +kernel
theorem dX12_feed_12 : decode cX12_feed 12 = .ok (.iconst 5, 1) := by decide +kernel
theorem dX12_feed_13 : decode cX12_feed 13 = .ok (.newarray .int, 2) := by decide +kernel
theorem dX12_feed_15 : decode cX12_feed 15 = .ok (.dup, 1) := by decide +kernel
theorem dX12_feed_16 : decode cX12_feed 16 = .ok (.iconst 0, 1) := by decide +kernel
theorem dX12_feed_17 : decode cX12_feed 17 = .ok (.iload_n 1, 1) := by decide +kernel
theorem dX12_feed_18 : decode cX12_feed 18 = .ok (.iastore, 1) := by decide +kernel
theorem dX12_feed_19 : decode cX12_feed 19 = .ok (.dup, 1) := by decide +kernel
theorem dX12_feed_20 : decode cX12_feed 20 = .ok (.iconst 1, 1) := by decide +kernel
theorem dX12_feed_21 : decode cX12_feed 21 = .ok (.iload_n 2, 1) := by decide +kernel
theorem dX12_feed_22 : decode cX12_feed 22 = .ok (.iastore, 1) := by decide +kernel
theorem dX12_feed_23 : decode cX12_feed 23 = .ok (.dup, 1) := by decide +kernel
theorem dX12_feed_24 : decode cX12_feed 24 = .ok (.iconst 2, 1) := by decide +kernel
theorem dX12_feed_25 : decode cX12_feed 25 = .ok (.iload_n 3, 1) := by decide +kernel
theorem dX12_feed_26 : decode cX12_feed 26 = .ok (.iastore, 1) := by decide +kernel
theorem dX12_feed_27 : decode cX12_feed 27 = .ok (.dup, 1) := by decide +kernel
theorem dX12_feed_28 : decode cX12_feed 28 = .ok (.iconst 3, 1) := by decide +kernel
theorem dX12_feed_29 : decode cX12_feed 29 = .ok (.iload 4, 2) := by decide +kernel
theorem dX12_feed_31 : decode cX12_feed 31 = .ok (.iastore, 1) := by decide +kernel
theorem dX12_feed_32 : decode cX12_feed 32 = .ok (.dup, 1) := by decide +kernel
theorem dX12_feed_33 : decode cX12_feed 33 = .ok (.iconst 4, 1) := by decide +kernel
theorem dX12_feed_34 : decode cX12_feed 34 = .ok (.iload 5, 2) := by decide +kernel
theorem dX12_feed_36 : decode cX12_feed 36 = .ok (.iastore, 1) := by decide +kernel
theorem dX12_feed_37 : decode cX12_feed 37 = .ok (.astore 6, 2) := by decide +kernel
theorem dX12_feed_39 : decode cX12_feed 39 = .ok (.iconst 0, 1) := by decide +kernel
theorem dX12_feed_40 : decode cX12_feed 40 = .ok (.istore 7, 2) := by decide +kernel
theorem dX12_feed_42 : decode cX12_feed 42 = .ok (.iload 7, 2) := by decide +kernel
theorem dX12_feed_44 : decode cX12_feed 44 = .ok (.bipush 20, 2) := by decide +kernel
theorem dX12_feed_46 : decode cX12_feed 46 = .ok (.if_icmp .ge 43, 3) := by decide +kernel
theorem dX12_feed_49 : decode cX12_feed 49 = .ok (.aload_n 0, 1) := by decide +kernel
theorem dX12_feed_50 : decode cX12_feed 50 = .ok (.getfield 50, 3) := by decide +kernel
theorem dX12_feed_53 : decode cX12_feed 53 = .ok (.aload_n 0, 1) := by decide +kernel
theorem dX12_feed_54 : decode cX12_feed 54 = .ok (.getfield 99, 3) := by decide +kernel
theorem dX12_feed_57 : decode cX12_feed 57 = .ok (.iload 7, 2) := by decide +kernel
theorem dX12_feed_59 : decode cX12_feed 59 = .ok (.iadd, 1) := by decide +kernel
theorem dX12_feed_60 : decode cX12_feed 60 = .ok (.aload 6, 2) := by decide +kernel
theorem dX12_feed_62 : decode cX12_feed 62 = .ok (.iload 7, 2) := by decide +kernel
theorem dX12_feed_64 : decode cX12_feed 64 = .ok (.iconst 4, 1) := by decide +kernel
theorem dX12_feed_65 : decode cX12_feed 65 = .ok (.idiv, 1) := by decide +kernel
theorem dX12_feed_66 : decode cX12_feed 66 = .ok (.iaload, 1) := by decide +kernel
theorem dX12_feed_67 : decode cX12_feed 67 = .ok (.bipush 24, 2) := by decide +kernel
theorem dX12_feed_69 : decode cX12_feed 69 = .ok (.bipush 8, 2) := by decide +kernel
theorem dX12_feed_71 : decode cX12_feed 71 = .ok (.iload 7, 2) := by decide +kernel
theorem dX12_feed_73 : decode cX12_feed 73 = .ok (.iconst 4, 1) := by decide +kernel
theorem dX12_feed_74 : decode cX12_feed 74 = .ok (.irem, 1) := by decide +kernel
theorem dX12_feed_75 : decode cX12_feed 75 = .ok (.imul, 1) := by decide +kernel
theorem dX12_feed_76 : decode cX12_feed 76 = .ok (.isub, 1) := by decide +kernel
theorem dX12_feed_77 : decode cX12_feed 77 = .ok (.iushr, 1) := by decide +kernel
theorem dX12_feed_78 : decode cX12_feed 78 = .ok (.sipush 255, 3) := by decide +kernel
theorem dX12_feed_81 : decode cX12_feed 81 = .ok (.iand, 1) := by decide +kernel
theorem dX12_feed_82 : decode cX12_feed 82 = .ok (.iastore, 1) := by decide +kernel
theorem dX12_feed_83 : decode cX12_feed 83 = .ok (.iinc 7 1, 3) := by decide +kernel
theorem dX12_feed_86 : decode cX12_feed 86 = .ok (.goto (-44), 3) := by decide +kernel
theorem dX12_feed_89 : decode cX12_feed 89 = .ok (.aload_n 0, 1) := by decide +kernel
theorem dX12_feed_90 : decode cX12_feed 90 = .ok (.dup, 1) := by decide +kernel
theorem dX12_feed_91 : decode cX12_feed 91 = .ok (.getfield 99, 3) := by decide +kernel
theorem dX12_feed_94 : decode cX12_feed 94 = .ok (.bipush 20, 2) := by decide +kernel
theorem dX12_feed_96 : decode cX12_feed 96 = .ok (.iadd, 1) := by decide +kernel
theorem dX12_feed_97 : decode cX12_feed 97 = .ok (.putfield 99, 3) := by decide +kernel
theorem dX12_feed_100 : decode cX12_feed 100 = .ok (.aload_n 0, 1) := by decide +kernel
theorem dX12_feed_101 : decode cX12_feed 101 = .ok (.getfield 99, 3) := by decide +kernel
theorem dX12_feed_104 : decode cX12_feed 104 = .ok (.ireturn, 1) := by decide +kernel
set_option maxHeartbeats 4000000 in
set_option maxRecDepth 100000 in
theorem sX12_feed (l : Launch) (dC : Nat → ClassId) (dI : Nat → Nat → Nat) (sz : Nat) (h0 : Nat) (mi : Nat → Int32) (mr : Nat → Nat) (km_tape : ClassId) (fm_tape : Nat → Int32) (p1 : Int32) (p2 : Int32) (p3 : Int32) (p4 : Int32) (p5 : Int32) (gmi_0 : gi (mi 0) 0 24) (gmi_1 : gi (mi 1) 0 5) (gmi_2 : gi (mi 2) 0 5) (gmi_4 : gi (mi 4) 0 1) (gmi_7 : gi (mi 7) 0 6) (gmi_10 : gi (mi 10) 0 24) (gmi_17 : gi (mi 17) 0 8) (gmi_23 : gi (mi 23) 0 300) (gmi_24 : gi (mi 24) 0 1) (gmi_26 : gi (mi 26) 0 1600) (gmi_29 : gi (mi 29) 0 1600) (gmi_30 : gi (mi 30) 0 1600) (gmi_33 : gi (mi 33) 0 1) (gmi_37 : gi (mi 37) 0 1) (gmi_41 : gi (mi 41) 0 24) (gmi_50 : gi (mi 50) 0 1) (gmi_51 : gi (mi 51) 0 1) (gmi_56 : gi (mi 56) 0 80) : Met l yX12_feed (.code yX12_feed cX12_feed 8 (some .int) :: wsGB) ({ frames := 0, cells := 1, slots := 5, locals := 0 }) (va_Pc [.ref h0, .int p1, .int p2, .int p3, .int p4, .int p5] (fun U => U.heap.size = sz ∧ va_P (dC, dI) vwCl [(h0, .inr (12, fsMM mi mr)), ((mr 13), .inl (km_tape, 1600, .inl fm_tape))] U.heap ∧ va_K (dC, dI) vwCl [(km_tape, .int)] U ∧ va_D (fun _ => True) [(h0, .inr (12, fsMM mi mr)), ((mr 13), .inl (km_tape, 1600, .inl fm_tape))])) (va_Qi (fun (r : Int32) (u : Unit) => gi r (-1) 1600 ∧ ((1580 < (mi 26).toInt ∧ r.toInt = -1) ∨ ((mi 26).toInt ≤ 1580 ∧ r.toInt = (mi 26).toInt + 20))) (fun _ t => ∃ (w0_26 : Int32) (z1 : Nat → Int32), gi w0_26 0 1600 ∧ ((1580 < (mi 26).toInt ∧ w0_26.toInt = (mi 26).toInt) ∨ ((mi 26).toInt ≤ 1580 ∧ w0_26.toInt = (mi 26).toInt + 20)) ∧ va_P (dC, dI) vwCl [(h0, .inr (12, fsMM (upd mi 26 w0_26) mr)), ((mr 13), .inl (km_tape, 1600, .inl z1))] t.heap ∧ va_D (va_A [(h0, .inr (12, fsMM mi mr)), ((mr 13), .inl (km_tape, 1600, .inl fm_tape))] sz) [(h0, .inr (12, fsMM (upd mi 26 w0_26) mr)), ((mr 13), .inl (km_tape, 1600, .inl z1))]) (va_A [(h0, .inr (12, fsMM mi mr)), ((mr 13), .inl (km_tape, 1600, .inl fm_tape))] sz)) 1 5 (va_A [(h0, .inr (12, fsMM mi mr)), ((mr 13), .inl (km_tape, 1600, .inl fm_tape))] sz) := by
  refine Met.ofW (cc := cX12_feed) (maxL := 8) (ret := (some .int)) (by decide) rfl ?_
  intro p e s m args below meth c s₁ B hml hv
  obtain ⟨rfl, hsz, hP, hK, hD0⟩ := hv
  have hx := B.exec
  have hb := B.bytes
  have hr := B.returns
  have hts := atoms_spec (ws := (.code yX12_feed cX12_feed 8 (some .int) :: wsGB)) B.pre
  have hown : s.vm.findClass RX12 = some m.cls := findClass_of_methodNamed B.named
  have hlocks := B.notSynchronized
  subst hsz
  have hD := hD0.self (sz := s.heap.size)
  generalize hAe : va_A [(h0, .inr (12, fsMM mi mr)), ((mr 13), .inl (km_tape, 1600, .inl fm_tape))] s.heap.size = A at hD ⊢
  have hA : ∀ q : Nat, s.heap.size ≤ q → A q := fun q h => by rw [← hAe]; exact Or.inr h
  have hS : va_S A s.heap s.heap [] := va_S.rf
  have hl := lv_entry ([.ref h0, .int p1, .int p2, .int p3, .int p4, .int p5]) (n := 8) (Nat.le_of_ble_eq_true rfl)
  rw [lg_entry_eq]
  generalize (lg_sl ([.ref h0, .int p1, .int p2, .int p3, .int p4, .int p5]) ++ List.replicate (8 - (lg_sl ([.ref h0, .int p1, .int p2, .int p3, .int p4, .int p5])).length) Slot.unset).toArray = ls at hl ⊢
  have hl : lv_has ls 8 [(0, .ref h0), (1, .int p1), (2, .int p2), (3, .int p3), (4, .int p4), (5, .int p5)] := hl
  refine lv_aload_n hx hb dX12_feed_0 rfl (lv_at hl 0 rfl) ?_
  refine va_get (D := (dC, dI)) (ci := 12) (v := .int (mi 26)) (C := RX12) (T := TX12) (N := 57) hx hb hts (fun w h => List.mem_cons_of_mem _ (jnGB_X12 w h)) hown hK hP 0 rfl rfl 26 (by decide) (hts _ (List.mem_cons_of_mem _ mGB_43)) (fun _ h9 => h9) rfl dX12_feed_1 ?_
  refine lv_sipush (v := 1580) hx hb dX12_feed_4 (by decide) ?_
  refine lv_icmp_le (tgt := 12) hx hb dX12_feed_7 (by decide) (fun c_429 => ?_) (fun c_429 => ?_)
  · have hc_430 : (mi 26).toInt ≤ 1580 := by have h9 := Int32.le_iff_toInt_le.mp c_429; rw [show (1580 : Int32).toInt = 1580 from by decide] at h9; exact h9
    have g_431 : gi (mi 26) 0 1580 := gi_le_l c_429 gmi_26 (gi_c 1580 1580 (by decide))
    refine lv_iconst (v := 5) hx hb dX12_feed_12 (by decide) ?_
    refine va_newa (atype := .int) (ty := .int) (a0 := (5, .inl (fun _ => 0))) hx hb (hts _ (List.mem_cons_of_mem _ mGB_4)) rfl hK hP hD hS hA (fun _ => rfl) (by decide) (by decide) (Nat.le_of_ble_eq_true rfl) (Nat.le_of_ble_eq_true rfl) (Nat.le_of_ble_eq_true rfl) dX12_feed_13 (fun q_432 k_433 H hK hP hD hS => ?_)
    have hP : va_P (dC, dI) vwCl [(h0, .inr (12, fsMM mi mr)), ((mr 13), .inl (km_tape, 1600, .inl fm_tape)), (q_432, .inl (k_433, 5, .inl (fun _ => 0)))] H := hP
    have hD : va_D A [(h0, .inr (12, fsMM mi mr)), ((mr 13), .inl (km_tape, 1600, .inl fm_tape)), (q_432, .inl (k_433, 5, .inl (fun _ => 0)))] := hD
    have hK : va_K (dC, dI) vwCl [(km_tape, .int), (k_433, .int)] s := hK
    refine lv_dup hx hb dX12_feed_15 rfl ?_
    refine lv_iconst (v := 0) hx hb dX12_feed_16 (by decide) ?_
    refine lv_iload_n hx hb dX12_feed_17 rfl (lv_at hl 1 rfl) ?_
    refine va_iast hx hb hK hP hD hS 2 1 rfl rfl (gi_in (gi_c 0 0 (by decide)) (by decide)) dX12_feed_18 (fun H locs hP hD hS => ?_)
    have hP : va_P (dC, dI) vwCl [(h0, .inr (12, fsMM mi mr)), ((mr 13), .inl (km_tape, 1600, .inl fm_tape)), (q_432, .inl (k_433, 5, .inl (upd (fun _ => 0) (0 : Int32).toNatClampNeg p1)))] H := hP
    have hD : va_D A [(h0, .inr (12, fsMM mi mr)), ((mr 13), .inl (km_tape, 1600, .inl fm_tape)), (q_432, .inl (k_433, 5, .inl (upd (fun _ => 0) (0 : Int32).toNatClampNeg p1)))] := hD
    generalize upd (fun _ => 0) (0 : Int32).toNatClampNeg p1 = f_434 at hP hD
    refine lv_dup hx hb dX12_feed_19 rfl ?_
    refine lv_iconst (v := 1) hx hb dX12_feed_20 (by decide) ?_
    refine lv_iload_n hx hb dX12_feed_21 rfl (lv_at hl 2 rfl) ?_
    refine va_iast hx hb hK hP hD hS 2 1 rfl rfl (gi_in (gi_c 1 1 (by decide)) (by decide)) dX12_feed_22 (fun H locs hP hD hS => ?_)
    have hP : va_P (dC, dI) vwCl [(h0, .inr (12, fsMM mi mr)), ((mr 13), .inl (km_tape, 1600, .inl fm_tape)), (q_432, .inl (k_433, 5, .inl (upd f_434 (1 : Int32).toNatClampNeg p2)))] H := hP
    have hD : va_D A [(h0, .inr (12, fsMM mi mr)), ((mr 13), .inl (km_tape, 1600, .inl fm_tape)), (q_432, .inl (k_433, 5, .inl (upd f_434 (1 : Int32).toNatClampNeg p2)))] := hD
    generalize upd f_434 (1 : Int32).toNatClampNeg p2 = f_435 at hP hD
    refine lv_dup hx hb dX12_feed_23 rfl ?_
    refine lv_iconst (v := 2) hx hb dX12_feed_24 (by decide) ?_
    refine lv_iload_n hx hb dX12_feed_25 rfl (lv_at hl 3 rfl) ?_
    refine va_iast hx hb hK hP hD hS 2 1 rfl rfl (gi_in (gi_c 2 2 (by decide)) (by decide)) dX12_feed_26 (fun H locs hP hD hS => ?_)
    have hP : va_P (dC, dI) vwCl [(h0, .inr (12, fsMM mi mr)), ((mr 13), .inl (km_tape, 1600, .inl fm_tape)), (q_432, .inl (k_433, 5, .inl (upd f_435 (2 : Int32).toNatClampNeg p3)))] H := hP
    have hD : va_D A [(h0, .inr (12, fsMM mi mr)), ((mr 13), .inl (km_tape, 1600, .inl fm_tape)), (q_432, .inl (k_433, 5, .inl (upd f_435 (2 : Int32).toNatClampNeg p3)))] := hD
    generalize upd f_435 (2 : Int32).toNatClampNeg p3 = f_436 at hP hD
    refine lv_dup hx hb dX12_feed_27 rfl ?_
    refine lv_iconst (v := 3) hx hb dX12_feed_28 (by decide) ?_
    refine lv_iload hx hb dX12_feed_29 (lv_at hl 4 rfl) ?_
    refine va_iast hx hb hK hP hD hS 2 1 rfl rfl (gi_in (gi_c 3 3 (by decide)) (by decide)) dX12_feed_31 (fun H locs hP hD hS => ?_)
    have hP : va_P (dC, dI) vwCl [(h0, .inr (12, fsMM mi mr)), ((mr 13), .inl (km_tape, 1600, .inl fm_tape)), (q_432, .inl (k_433, 5, .inl (upd f_436 (3 : Int32).toNatClampNeg p4)))] H := hP
    have hD : va_D A [(h0, .inr (12, fsMM mi mr)), ((mr 13), .inl (km_tape, 1600, .inl fm_tape)), (q_432, .inl (k_433, 5, .inl (upd f_436 (3 : Int32).toNatClampNeg p4)))] := hD
    generalize upd f_436 (3 : Int32).toNatClampNeg p4 = f_437 at hP hD
    refine lv_dup hx hb dX12_feed_32 rfl ?_
    refine lv_iconst (v := 4) hx hb dX12_feed_33 (by decide) ?_
    refine lv_iload hx hb dX12_feed_34 (lv_at hl 5 rfl) ?_
    refine va_iast hx hb hK hP hD hS 2 1 rfl rfl (gi_in (gi_c 4 4 (by decide)) (by decide)) dX12_feed_36 (fun H locs hP hD hS => ?_)
    have hP : va_P (dC, dI) vwCl [(h0, .inr (12, fsMM mi mr)), ((mr 13), .inl (km_tape, 1600, .inl fm_tape)), (q_432, .inl (k_433, 5, .inl (upd f_437 (4 : Int32).toNatClampNeg p5)))] H := hP
    have hD : va_D A [(h0, .inr (12, fsMM mi mr)), ((mr 13), .inl (km_tape, 1600, .inl fm_tape)), (q_432, .inl (k_433, 5, .inl (upd f_437 (4 : Int32).toNatClampNeg p5)))] := hD
    generalize upd f_437 (4 : Int32).toNatClampNeg p5 = f_438 at hP hD
    refine lv_astore (lv' := [(6, .ref q_432), (0, .ref h0), (1, .int p1), (2, .int p2), (3, .int p3), (4, .int p4), (5, .int p5)]) hx hb dX12_feed_37 hl (by decide) rfl (fun ls hl => ?_)
    refine lv_iconst (v := 0) hx hb dX12_feed_39 (by decide) ?_
    refine lv_istore (lv' := [(7, .int 0), (6, .ref q_432), (0, .ref h0), (1, .int p1), (2, .int p2), (3, .int p3), (4, .int p4), (5, .int p5)]) hx hb dX12_feed_40 hl (by decide) rfl (fun ls hl => ?_)
    refine lv_iload hx hb dX12_feed_42 (lv_at hl 0 rfl) ?_
    refine lv_bipush (v := 20) hx hb dX12_feed_44 (by decide) ?_
    refine lv_icmp_ge (tgt := 89) hx hb dX12_feed_46 (by decide) (fun c_439 => absurd c_439 (gi_no_le (gi_c 20 20 (by decide)) (gi_c 0 0 (by decide)) (by decide))) (fun c_439 => ?_)
    refine lv_aload_n hx hb dX12_feed_49 rfl (lv_at hl 2 rfl) ?_
    refine va_get (D := (dC, dI)) (ci := 12) (v := .ref (mr 13)) (C := RX12) (T := TX12) (N := 57) hx hb hts (fun w h => List.mem_cons_of_mem _ (jnGB_X12 w h)) hown hK hP 0 rfl rfl 25 (by decide) (hts _ (List.mem_cons_of_mem _ mGB_24)) (fun _ h9 => h9) rfl dX12_feed_50 ?_
    refine lv_aload_n hx hb dX12_feed_53 rfl (lv_at hl 2 rfl) ?_
    refine va_get (D := (dC, dI)) (ci := 12) (v := .int (mi 26)) (C := RX12) (T := TX12) (N := 57) hx hb hts (fun w h => List.mem_cons_of_mem _ (jnGB_X12 w h)) hown hK hP 0 rfl rfl 26 (by decide) (hts _ (List.mem_cons_of_mem _ mGB_43)) (fun _ h9 => h9) rfl dX12_feed_54 ?_
    refine lv_iload hx hb dX12_feed_57 (lv_at hl 0 rfl) ?_
    refine lv_iadd hx hb dX12_feed_59 ?_
    refine lv_topi (fun x_440 ex_440 => ?_)
    have gx_440 : gi x_440 0 1580 := gi_add ex_440 g_431 (gi_c 0 0 (by decide)) (by decide)
    refine lv_aload hx hb dX12_feed_60 (lv_at hl 1 rfl) ?_
    refine lv_iload hx hb dX12_feed_62 (lv_at hl 0 rfl) ?_
    refine lv_iconst (v := 4) hx hb dX12_feed_64 (by decide) ?_
    refine lv_idiv hx hb dX12_feed_65 (by decide) ?_
    refine lv_topi (fun x_441 ex_441 => ?_)
    have gx_441 : gi x_441 0 0 := gi_div ex_441 (gi_c 0 0 (by decide)) (gi_c 4 4 (by decide)) (by decide)
    refine va_iald hx hb hK hP 2 1 rfl rfl (gi_in gx_441 (by decide)) dX12_feed_66 ?_
    refine lv_topi (fun x_442 ex_442 => ?_)
    have hlx_442 : x_442.toInt = (f_438 x_441.toNatClampNeg).toInt := congrArg Int32.toInt ex_442
    refine lv_bipush (v := 24) hx hb dX12_feed_67 (by decide) ?_
    refine lv_bipush (v := 8) hx hb dX12_feed_69 (by decide) ?_
    refine lv_iload hx hb dX12_feed_71 (lv_at hl 0 rfl) ?_
    refine lv_iconst (v := 4) hx hb dX12_feed_73 (by decide) ?_
    refine lv_irem hx hb dX12_feed_74 (by decide) ?_
    refine lv_topi (fun x_443 ex_443 => ?_)
    refine lv_imul hx hb dX12_feed_75 ?_
    refine lv_topi (fun x_444 ex_444 => ?_)
    refine lv_isub hx hb dX12_feed_76 ?_
    refine lv_topi (fun x_445 ex_445 => ?_)
    refine lv_iushr hx hb dX12_feed_77 rfl ?_
    refine lv_topi (fun x_446 ex_446 => ?_)
    refine lv_sipush (v := 255) hx hb dX12_feed_78 (by decide) ?_
    refine lv_iand hx hb dX12_feed_81 ?_
    refine lv_topi (fun x_447 ex_447 => ?_)
    refine va_iast hx hb hK hP hD hS 1 0 rfl rfl (gi_in gx_440 (by decide)) dX12_feed_82 (fun H locs hP hD hS => ?_)
    have hP : va_P (dC, dI) vwCl [(h0, .inr (12, fsMM mi mr)), ((mr 13), .inl (km_tape, 1600, .inl (upd fm_tape (x_440 : Int32).toNatClampNeg x_447))), (q_432, .inl (k_433, 5, .inl f_438))] H := hP
    have hD : va_D A [(h0, .inr (12, fsMM mi mr)), ((mr 13), .inl (km_tape, 1600, .inl (upd fm_tape (x_440 : Int32).toNatClampNeg x_447))), (q_432, .inl (k_433, 5, .inl f_438))] := hD
    generalize upd fm_tape (x_440 : Int32).toNatClampNeg x_447 = f_448 at hP hD
    refine lv_iinc (v := 1) (lv' := [(7, .int 1), (6, .ref q_432), (0, .ref h0), (1, .int p1), (2, .int p2), (3, .int p3), (4, .int p4), (5, .int p5)]) hx hb dX12_feed_83 hl (k := 0) rfl (by decide) (by decide) rfl (fun ls hl => ?_)
    refine lv_goto (tgt := 42) hx hb dX12_feed_86 (by decide) ?_
    refine lv_iload hx hb dX12_feed_42 (lv_at hl 0 rfl) ?_
    refine lv_bipush (v := 20) hx hb dX12_feed_44 (by decide) ?_
    refine lv_icmp_ge (tgt := 89) hx hb dX12_feed_46 (by decide) (fun c_449 => absurd c_449 (gi_no_le (gi_c 20 20 (by decide)) (gi_c 1 1 (by decide)) (by decide))) (fun c_449 => ?_)
    refine lv_aload_n hx hb dX12_feed_49 rfl (lv_at hl 2 rfl) ?_
    refine va_get (D := (dC, dI)) (ci := 12) (v := .ref (mr 13)) (C := RX12) (T := TX12) (N := 57) hx hb hts (fun w h => List.mem_cons_of_mem _ (jnGB_X12 w h)) hown hK hP 0 rfl rfl 25 (by decide) (hts _ (List.mem_cons_of_mem _ mGB_24)) (fun _ h9 => h9) rfl dX12_feed_50 ?_
    refine lv_aload_n hx hb dX12_feed_53 rfl (lv_at hl 2 rfl) ?_
    refine va_get (D := (dC, dI)) (ci := 12) (v := .int (mi 26)) (C := RX12) (T := TX12) (N := 57) hx hb hts (fun w h => List.mem_cons_of_mem _ (jnGB_X12 w h)) hown hK hP 0 rfl rfl 26 (by decide) (hts _ (List.mem_cons_of_mem _ mGB_43)) (fun _ h9 => h9) rfl dX12_feed_54 ?_
    refine lv_iload hx hb dX12_feed_57 (lv_at hl 0 rfl) ?_
    refine lv_iadd hx hb dX12_feed_59 ?_
    refine lv_topi (fun x_450 ex_450 => ?_)
    have gx_450 : gi x_450 1 1581 := gi_add ex_450 g_431 (gi_c 1 1 (by decide)) (by decide)
    refine lv_aload hx hb dX12_feed_60 (lv_at hl 1 rfl) ?_
    refine lv_iload hx hb dX12_feed_62 (lv_at hl 0 rfl) ?_
    refine lv_iconst (v := 4) hx hb dX12_feed_64 (by decide) ?_
    refine lv_idiv hx hb dX12_feed_65 (by decide) ?_
    refine lv_topi (fun x_451 ex_451 => ?_)
    have gx_451 : gi x_451 0 0 := gi_div ex_451 (gi_c 1 1 (by decide)) (gi_c 4 4 (by decide)) (by decide)
    refine va_iald hx hb hK hP 2 1 rfl rfl (gi_in gx_451 (by decide)) dX12_feed_66 ?_
    refine lv_topi (fun x_452 ex_452 => ?_)
    have hlx_452 : x_452.toInt = (f_438 x_451.toNatClampNeg).toInt := congrArg Int32.toInt ex_452
    refine lv_bipush (v := 24) hx hb dX12_feed_67 (by decide) ?_
    refine lv_bipush (v := 8) hx hb dX12_feed_69 (by decide) ?_
    refine lv_iload hx hb dX12_feed_71 (lv_at hl 0 rfl) ?_
    refine lv_iconst (v := 4) hx hb dX12_feed_73 (by decide) ?_
    refine lv_irem hx hb dX12_feed_74 (by decide) ?_
    refine lv_topi (fun x_453 ex_453 => ?_)
    refine lv_imul hx hb dX12_feed_75 ?_
    refine lv_topi (fun x_454 ex_454 => ?_)
    refine lv_isub hx hb dX12_feed_76 ?_
    refine lv_topi (fun x_455 ex_455 => ?_)
    refine lv_iushr hx hb dX12_feed_77 rfl ?_
    refine lv_topi (fun x_456 ex_456 => ?_)
    refine lv_sipush (v := 255) hx hb dX12_feed_78 (by decide) ?_
    refine lv_iand hx hb dX12_feed_81 ?_
    refine lv_topi (fun x_457 ex_457 => ?_)
    refine va_iast hx hb hK hP hD hS 1 0 rfl rfl (gi_in gx_450 (by decide)) dX12_feed_82 (fun H locs hP hD hS => ?_)
    have hP : va_P (dC, dI) vwCl [(h0, .inr (12, fsMM mi mr)), ((mr 13), .inl (km_tape, 1600, .inl (upd f_448 (x_450 : Int32).toNatClampNeg x_457))), (q_432, .inl (k_433, 5, .inl f_438))] H := hP
    have hD : va_D A [(h0, .inr (12, fsMM mi mr)), ((mr 13), .inl (km_tape, 1600, .inl (upd f_448 (x_450 : Int32).toNatClampNeg x_457))), (q_432, .inl (k_433, 5, .inl f_438))] := hD
    generalize upd f_448 (x_450 : Int32).toNatClampNeg x_457 = f_458 at hP hD
    refine lv_iinc (v := 2) (lv' := [(7, .int 2), (6, .ref q_432), (0, .ref h0), (1, .int p1), (2, .int p2), (3, .int p3), (4, .int p4), (5, .int p5)]) hx hb dX12_feed_83 hl (k := 0) rfl (by decide) (by decide) rfl (fun ls hl => ?_)
    refine lv_goto (tgt := 42) hx hb dX12_feed_86 (by decide) ?_
    refine lv_iload hx hb dX12_feed_42 (lv_at hl 0 rfl) ?_
    refine lv_bipush (v := 20) hx hb dX12_feed_44 (by decide) ?_
    refine lv_icmp_ge (tgt := 89) hx hb dX12_feed_46 (by decide) (fun c_459 => absurd c_459 (gi_no_le (gi_c 20 20 (by decide)) (gi_c 2 2 (by decide)) (by decide))) (fun c_459 => ?_)
    refine lv_aload_n hx hb dX12_feed_49 rfl (lv_at hl 2 rfl) ?_
    refine va_get (D := (dC, dI)) (ci := 12) (v := .ref (mr 13)) (C := RX12) (T := TX12) (N := 57) hx hb hts (fun w h => List.mem_cons_of_mem _ (jnGB_X12 w h)) hown hK hP 0 rfl rfl 25 (by decide) (hts _ (List.mem_cons_of_mem _ mGB_24)) (fun _ h9 => h9) rfl dX12_feed_50 ?_
    refine lv_aload_n hx hb dX12_feed_53 rfl (lv_at hl 2 rfl) ?_
    refine va_get (D := (dC, dI)) (ci := 12) (v := .int (mi 26)) (C := RX12) (T := TX12) (N := 57) hx hb hts (fun w h => List.mem_cons_of_mem _ (jnGB_X12 w h)) hown hK hP 0 rfl rfl 26 (by decide) (hts _ (List.mem_cons_of_mem _ mGB_43)) (fun _ h9 => h9) rfl dX12_feed_54 ?_
    refine lv_iload hx hb dX12_feed_57 (lv_at hl 0 rfl) ?_
    refine lv_iadd hx hb dX12_feed_59 ?_
    refine lv_topi (fun x_460 ex_460 => ?_)
    have gx_460 : gi x_460 2 1582 := gi_add ex_460 g_431 (gi_c 2 2 (by decide)) (by decide)
    refine lv_aload hx hb dX12_feed_60 (lv_at hl 1 rfl) ?_
    refine lv_iload hx hb dX12_feed_62 (lv_at hl 0 rfl) ?_
    refine lv_iconst (v := 4) hx hb dX12_feed_64 (by decide) ?_
    refine lv_idiv hx hb dX12_feed_65 (by decide) ?_
    refine lv_topi (fun x_461 ex_461 => ?_)
    have gx_461 : gi x_461 0 0 := gi_div ex_461 (gi_c 2 2 (by decide)) (gi_c 4 4 (by decide)) (by decide)
    refine va_iald hx hb hK hP 2 1 rfl rfl (gi_in gx_461 (by decide)) dX12_feed_66 ?_
    refine lv_topi (fun x_462 ex_462 => ?_)
    have hlx_462 : x_462.toInt = (f_438 x_461.toNatClampNeg).toInt := congrArg Int32.toInt ex_462
    refine lv_bipush (v := 24) hx hb dX12_feed_67 (by decide) ?_
    refine lv_bipush (v := 8) hx hb dX12_feed_69 (by decide) ?_
    refine lv_iload hx hb dX12_feed_71 (lv_at hl 0 rfl) ?_
    refine lv_iconst (v := 4) hx hb dX12_feed_73 (by decide) ?_
    refine lv_irem hx hb dX12_feed_74 (by decide) ?_
    refine lv_topi (fun x_463 ex_463 => ?_)
    refine lv_imul hx hb dX12_feed_75 ?_
    refine lv_topi (fun x_464 ex_464 => ?_)
    refine lv_isub hx hb dX12_feed_76 ?_
    refine lv_topi (fun x_465 ex_465 => ?_)
    refine lv_iushr hx hb dX12_feed_77 rfl ?_
    refine lv_topi (fun x_466 ex_466 => ?_)
    refine lv_sipush (v := 255) hx hb dX12_feed_78 (by decide) ?_
    refine lv_iand hx hb dX12_feed_81 ?_
    refine lv_topi (fun x_467 ex_467 => ?_)
    refine va_iast hx hb hK hP hD hS 1 0 rfl rfl (gi_in gx_460 (by decide)) dX12_feed_82 (fun H locs hP hD hS => ?_)
    have hP : va_P (dC, dI) vwCl [(h0, .inr (12, fsMM mi mr)), ((mr 13), .inl (km_tape, 1600, .inl (upd f_458 (x_460 : Int32).toNatClampNeg x_467))), (q_432, .inl (k_433, 5, .inl f_438))] H := hP
    have hD : va_D A [(h0, .inr (12, fsMM mi mr)), ((mr 13), .inl (km_tape, 1600, .inl (upd f_458 (x_460 : Int32).toNatClampNeg x_467))), (q_432, .inl (k_433, 5, .inl f_438))] := hD
    generalize upd f_458 (x_460 : Int32).toNatClampNeg x_467 = f_468 at hP hD
    refine lv_iinc (v := 3) (lv' := [(7, .int 3), (6, .ref q_432), (0, .ref h0), (1, .int p1), (2, .int p2), (3, .int p3), (4, .int p4), (5, .int p5)]) hx hb dX12_feed_83 hl (k := 0) rfl (by decide) (by decide) rfl (fun ls hl => ?_)
    refine lv_goto (tgt := 42) hx hb dX12_feed_86 (by decide) ?_
    refine lv_iload hx hb dX12_feed_42 (lv_at hl 0 rfl) ?_
    refine lv_bipush (v := 20) hx hb dX12_feed_44 (by decide) ?_
    refine lv_icmp_ge (tgt := 89) hx hb dX12_feed_46 (by decide) (fun c_469 => absurd c_469 (gi_no_le (gi_c 20 20 (by decide)) (gi_c 3 3 (by decide)) (by decide))) (fun c_469 => ?_)
    refine lv_aload_n hx hb dX12_feed_49 rfl (lv_at hl 2 rfl) ?_
    refine va_get (D := (dC, dI)) (ci := 12) (v := .ref (mr 13)) (C := RX12) (T := TX12) (N := 57) hx hb hts (fun w h => List.mem_cons_of_mem _ (jnGB_X12 w h)) hown hK hP 0 rfl rfl 25 (by decide) (hts _ (List.mem_cons_of_mem _ mGB_24)) (fun _ h9 => h9) rfl dX12_feed_50 ?_
    refine lv_aload_n hx hb dX12_feed_53 rfl (lv_at hl 2 rfl) ?_
    refine va_get (D := (dC, dI)) (ci := 12) (v := .int (mi 26)) (C := RX12) (T := TX12) (N := 57) hx hb hts (fun w h => List.mem_cons_of_mem _ (jnGB_X12 w h)) hown hK hP 0 rfl rfl 26 (by decide) (hts _ (List.mem_cons_of_mem _ mGB_43)) (fun _ h9 => h9) rfl dX12_feed_54 ?_
    refine lv_iload hx hb dX12_feed_57 (lv_at hl 0 rfl) ?_
    refine lv_iadd hx hb dX12_feed_59 ?_
    refine lv_topi (fun x_470 ex_470 => ?_)
    have gx_470 : gi x_470 3 1583 := gi_add ex_470 g_431 (gi_c 3 3 (by decide)) (by decide)
    refine lv_aload hx hb dX12_feed_60 (lv_at hl 1 rfl) ?_
    refine lv_iload hx hb dX12_feed_62 (lv_at hl 0 rfl) ?_
    refine lv_iconst (v := 4) hx hb dX12_feed_64 (by decide) ?_
    refine lv_idiv hx hb dX12_feed_65 (by decide) ?_
    refine lv_topi (fun x_471 ex_471 => ?_)
    have gx_471 : gi x_471 0 0 := gi_div ex_471 (gi_c 3 3 (by decide)) (gi_c 4 4 (by decide)) (by decide)
    refine va_iald hx hb hK hP 2 1 rfl rfl (gi_in gx_471 (by decide)) dX12_feed_66 ?_
    refine lv_topi (fun x_472 ex_472 => ?_)
    have hlx_472 : x_472.toInt = (f_438 x_471.toNatClampNeg).toInt := congrArg Int32.toInt ex_472
    refine lv_bipush (v := 24) hx hb dX12_feed_67 (by decide) ?_
    refine lv_bipush (v := 8) hx hb dX12_feed_69 (by decide) ?_
    refine lv_iload hx hb dX12_feed_71 (lv_at hl 0 rfl) ?_
    refine lv_iconst (v := 4) hx hb dX12_feed_73 (by decide) ?_
    refine lv_irem hx hb dX12_feed_74 (by decide) ?_
    refine lv_topi (fun x_473 ex_473 => ?_)
    refine lv_imul hx hb dX12_feed_75 ?_
    refine lv_topi (fun x_474 ex_474 => ?_)
    refine lv_isub hx hb dX12_feed_76 ?_
    refine lv_topi (fun x_475 ex_475 => ?_)
    refine lv_iushr hx hb dX12_feed_77 rfl ?_
    refine lv_topi (fun x_476 ex_476 => ?_)
    refine lv_sipush (v := 255) hx hb dX12_feed_78 (by decide) ?_
    refine lv_iand hx hb dX12_feed_81 ?_
    refine lv_topi (fun x_477 ex_477 => ?_)
    refine va_iast hx hb hK hP hD hS 1 0 rfl rfl (gi_in gx_470 (by decide)) dX12_feed_82 (fun H locs hP hD hS => ?_)
    have hP : va_P (dC, dI) vwCl [(h0, .inr (12, fsMM mi mr)), ((mr 13), .inl (km_tape, 1600, .inl (upd f_468 (x_470 : Int32).toNatClampNeg x_477))), (q_432, .inl (k_433, 5, .inl f_438))] H := hP
    have hD : va_D A [(h0, .inr (12, fsMM mi mr)), ((mr 13), .inl (km_tape, 1600, .inl (upd f_468 (x_470 : Int32).toNatClampNeg x_477))), (q_432, .inl (k_433, 5, .inl f_438))] := hD
    generalize upd f_468 (x_470 : Int32).toNatClampNeg x_477 = f_478 at hP hD
    refine lv_iinc (v := 4) (lv' := [(7, .int 4), (6, .ref q_432), (0, .ref h0), (1, .int p1), (2, .int p2), (3, .int p3), (4, .int p4), (5, .int p5)]) hx hb dX12_feed_83 hl (k := 0) rfl (by decide) (by decide) rfl (fun ls hl => ?_)
    refine lv_goto (tgt := 42) hx hb dX12_feed_86 (by decide) ?_
    refine lv_iload hx hb dX12_feed_42 (lv_at hl 0 rfl) ?_
    refine lv_bipush (v := 20) hx hb dX12_feed_44 (by decide) ?_
    refine lv_icmp_ge (tgt := 89) hx hb dX12_feed_46 (by decide) (fun c_479 => absurd c_479 (gi_no_le (gi_c 20 20 (by decide)) (gi_c 4 4 (by decide)) (by decide))) (fun c_479 => ?_)
    refine lv_aload_n hx hb dX12_feed_49 rfl (lv_at hl 2 rfl) ?_
    refine va_get (D := (dC, dI)) (ci := 12) (v := .ref (mr 13)) (C := RX12) (T := TX12) (N := 57) hx hb hts (fun w h => List.mem_cons_of_mem _ (jnGB_X12 w h)) hown hK hP 0 rfl rfl 25 (by decide) (hts _ (List.mem_cons_of_mem _ mGB_24)) (fun _ h9 => h9) rfl dX12_feed_50 ?_
    refine lv_aload_n hx hb dX12_feed_53 rfl (lv_at hl 2 rfl) ?_
    refine va_get (D := (dC, dI)) (ci := 12) (v := .int (mi 26)) (C := RX12) (T := TX12) (N := 57) hx hb hts (fun w h => List.mem_cons_of_mem _ (jnGB_X12 w h)) hown hK hP 0 rfl rfl 26 (by decide) (hts _ (List.mem_cons_of_mem _ mGB_43)) (fun _ h9 => h9) rfl dX12_feed_54 ?_
    refine lv_iload hx hb dX12_feed_57 (lv_at hl 0 rfl) ?_
    refine lv_iadd hx hb dX12_feed_59 ?_
    refine lv_topi (fun x_480 ex_480 => ?_)
    have gx_480 : gi x_480 4 1584 := gi_add ex_480 g_431 (gi_c 4 4 (by decide)) (by decide)
    refine lv_aload hx hb dX12_feed_60 (lv_at hl 1 rfl) ?_
    refine lv_iload hx hb dX12_feed_62 (lv_at hl 0 rfl) ?_
    refine lv_iconst (v := 4) hx hb dX12_feed_64 (by decide) ?_
    refine lv_idiv hx hb dX12_feed_65 (by decide) ?_
    refine lv_topi (fun x_481 ex_481 => ?_)
    have gx_481 : gi x_481 1 1 := gi_div ex_481 (gi_c 4 4 (by decide)) (gi_c 4 4 (by decide)) (by decide)
    refine va_iald hx hb hK hP 2 1 rfl rfl (gi_in gx_481 (by decide)) dX12_feed_66 ?_
    refine lv_topi (fun x_482 ex_482 => ?_)
    have hlx_482 : x_482.toInt = (f_438 x_481.toNatClampNeg).toInt := congrArg Int32.toInt ex_482
    refine lv_bipush (v := 24) hx hb dX12_feed_67 (by decide) ?_
    refine lv_bipush (v := 8) hx hb dX12_feed_69 (by decide) ?_
    refine lv_iload hx hb dX12_feed_71 (lv_at hl 0 rfl) ?_
    refine lv_iconst (v := 4) hx hb dX12_feed_73 (by decide) ?_
    refine lv_irem hx hb dX12_feed_74 (by decide) ?_
    refine lv_topi (fun x_483 ex_483 => ?_)
    refine lv_imul hx hb dX12_feed_75 ?_
    refine lv_topi (fun x_484 ex_484 => ?_)
    refine lv_isub hx hb dX12_feed_76 ?_
    refine lv_topi (fun x_485 ex_485 => ?_)
    refine lv_iushr hx hb dX12_feed_77 rfl ?_
    refine lv_topi (fun x_486 ex_486 => ?_)
    refine lv_sipush (v := 255) hx hb dX12_feed_78 (by decide) ?_
    refine lv_iand hx hb dX12_feed_81 ?_
    refine lv_topi (fun x_487 ex_487 => ?_)
    refine va_iast hx hb hK hP hD hS 1 0 rfl rfl (gi_in gx_480 (by decide)) dX12_feed_82 (fun H locs hP hD hS => ?_)
    have hP : va_P (dC, dI) vwCl [(h0, .inr (12, fsMM mi mr)), ((mr 13), .inl (km_tape, 1600, .inl (upd f_478 (x_480 : Int32).toNatClampNeg x_487))), (q_432, .inl (k_433, 5, .inl f_438))] H := hP
    have hD : va_D A [(h0, .inr (12, fsMM mi mr)), ((mr 13), .inl (km_tape, 1600, .inl (upd f_478 (x_480 : Int32).toNatClampNeg x_487))), (q_432, .inl (k_433, 5, .inl f_438))] := hD
    generalize upd f_478 (x_480 : Int32).toNatClampNeg x_487 = f_488 at hP hD
    refine lv_iinc (v := 5) (lv' := [(7, .int 5), (6, .ref q_432), (0, .ref h0), (1, .int p1), (2, .int p2), (3, .int p3), (4, .int p4), (5, .int p5)]) hx hb dX12_feed_83 hl (k := 0) rfl (by decide) (by decide) rfl (fun ls hl => ?_)
    refine lv_goto (tgt := 42) hx hb dX12_feed_86 (by decide) ?_
    refine lv_iload hx hb dX12_feed_42 (lv_at hl 0 rfl) ?_
    refine lv_bipush (v := 20) hx hb dX12_feed_44 (by decide) ?_
    refine lv_icmp_ge (tgt := 89) hx hb dX12_feed_46 (by decide) (fun c_489 => absurd c_489 (gi_no_le (gi_c 20 20 (by decide)) (gi_c 5 5 (by decide)) (by decide))) (fun c_489 => ?_)
    refine lv_aload_n hx hb dX12_feed_49 rfl (lv_at hl 2 rfl) ?_
    refine va_get (D := (dC, dI)) (ci := 12) (v := .ref (mr 13)) (C := RX12) (T := TX12) (N := 57) hx hb hts (fun w h => List.mem_cons_of_mem _ (jnGB_X12 w h)) hown hK hP 0 rfl rfl 25 (by decide) (hts _ (List.mem_cons_of_mem _ mGB_24)) (fun _ h9 => h9) rfl dX12_feed_50 ?_
    refine lv_aload_n hx hb dX12_feed_53 rfl (lv_at hl 2 rfl) ?_
    refine va_get (D := (dC, dI)) (ci := 12) (v := .int (mi 26)) (C := RX12) (T := TX12) (N := 57) hx hb hts (fun w h => List.mem_cons_of_mem _ (jnGB_X12 w h)) hown hK hP 0 rfl rfl 26 (by decide) (hts _ (List.mem_cons_of_mem _ mGB_43)) (fun _ h9 => h9) rfl dX12_feed_54 ?_
    refine lv_iload hx hb dX12_feed_57 (lv_at hl 0 rfl) ?_
    refine lv_iadd hx hb dX12_feed_59 ?_
    refine lv_topi (fun x_490 ex_490 => ?_)
    have gx_490 : gi x_490 5 1585 := gi_add ex_490 g_431 (gi_c 5 5 (by decide)) (by decide)
    refine lv_aload hx hb dX12_feed_60 (lv_at hl 1 rfl) ?_
    refine lv_iload hx hb dX12_feed_62 (lv_at hl 0 rfl) ?_
    refine lv_iconst (v := 4) hx hb dX12_feed_64 (by decide) ?_
    refine lv_idiv hx hb dX12_feed_65 (by decide) ?_
    refine lv_topi (fun x_491 ex_491 => ?_)
    have gx_491 : gi x_491 1 1 := gi_div ex_491 (gi_c 5 5 (by decide)) (gi_c 4 4 (by decide)) (by decide)
    refine va_iald hx hb hK hP 2 1 rfl rfl (gi_in gx_491 (by decide)) dX12_feed_66 ?_
    refine lv_topi (fun x_492 ex_492 => ?_)
    have hlx_492 : x_492.toInt = (f_438 x_491.toNatClampNeg).toInt := congrArg Int32.toInt ex_492
    refine lv_bipush (v := 24) hx hb dX12_feed_67 (by decide) ?_
    refine lv_bipush (v := 8) hx hb dX12_feed_69 (by decide) ?_
    refine lv_iload hx hb dX12_feed_71 (lv_at hl 0 rfl) ?_
    refine lv_iconst (v := 4) hx hb dX12_feed_73 (by decide) ?_
    refine lv_irem hx hb dX12_feed_74 (by decide) ?_
    refine lv_topi (fun x_493 ex_493 => ?_)
    refine lv_imul hx hb dX12_feed_75 ?_
    refine lv_topi (fun x_494 ex_494 => ?_)
    refine lv_isub hx hb dX12_feed_76 ?_
    refine lv_topi (fun x_495 ex_495 => ?_)
    refine lv_iushr hx hb dX12_feed_77 rfl ?_
    refine lv_topi (fun x_496 ex_496 => ?_)
    refine lv_sipush (v := 255) hx hb dX12_feed_78 (by decide) ?_
    refine lv_iand hx hb dX12_feed_81 ?_
    refine lv_topi (fun x_497 ex_497 => ?_)
    refine va_iast hx hb hK hP hD hS 1 0 rfl rfl (gi_in gx_490 (by decide)) dX12_feed_82 (fun H locs hP hD hS => ?_)
    have hP : va_P (dC, dI) vwCl [(h0, .inr (12, fsMM mi mr)), ((mr 13), .inl (km_tape, 1600, .inl (upd f_488 (x_490 : Int32).toNatClampNeg x_497))), (q_432, .inl (k_433, 5, .inl f_438))] H := hP
    have hD : va_D A [(h0, .inr (12, fsMM mi mr)), ((mr 13), .inl (km_tape, 1600, .inl (upd f_488 (x_490 : Int32).toNatClampNeg x_497))), (q_432, .inl (k_433, 5, .inl f_438))] := hD
    generalize upd f_488 (x_490 : Int32).toNatClampNeg x_497 = f_498 at hP hD
    refine lv_iinc (v := 6) (lv' := [(7, .int 6), (6, .ref q_432), (0, .ref h0), (1, .int p1), (2, .int p2), (3, .int p3), (4, .int p4), (5, .int p5)]) hx hb dX12_feed_83 hl (k := 0) rfl (by decide) (by decide) rfl (fun ls hl => ?_)
    refine lv_goto (tgt := 42) hx hb dX12_feed_86 (by decide) ?_
    refine lv_iload hx hb dX12_feed_42 (lv_at hl 0 rfl) ?_
    refine lv_bipush (v := 20) hx hb dX12_feed_44 (by decide) ?_
    refine lv_icmp_ge (tgt := 89) hx hb dX12_feed_46 (by decide) (fun c_499 => absurd c_499 (gi_no_le (gi_c 20 20 (by decide)) (gi_c 6 6 (by decide)) (by decide))) (fun c_499 => ?_)
    refine lv_aload_n hx hb dX12_feed_49 rfl (lv_at hl 2 rfl) ?_
    refine va_get (D := (dC, dI)) (ci := 12) (v := .ref (mr 13)) (C := RX12) (T := TX12) (N := 57) hx hb hts (fun w h => List.mem_cons_of_mem _ (jnGB_X12 w h)) hown hK hP 0 rfl rfl 25 (by decide) (hts _ (List.mem_cons_of_mem _ mGB_24)) (fun _ h9 => h9) rfl dX12_feed_50 ?_
    refine lv_aload_n hx hb dX12_feed_53 rfl (lv_at hl 2 rfl) ?_
    refine va_get (D := (dC, dI)) (ci := 12) (v := .int (mi 26)) (C := RX12) (T := TX12) (N := 57) hx hb hts (fun w h => List.mem_cons_of_mem _ (jnGB_X12 w h)) hown hK hP 0 rfl rfl 26 (by decide) (hts _ (List.mem_cons_of_mem _ mGB_43)) (fun _ h9 => h9) rfl dX12_feed_54 ?_
    refine lv_iload hx hb dX12_feed_57 (lv_at hl 0 rfl) ?_
    refine lv_iadd hx hb dX12_feed_59 ?_
    refine lv_topi (fun x_500 ex_500 => ?_)
    have gx_500 : gi x_500 6 1586 := gi_add ex_500 g_431 (gi_c 6 6 (by decide)) (by decide)
    refine lv_aload hx hb dX12_feed_60 (lv_at hl 1 rfl) ?_
    refine lv_iload hx hb dX12_feed_62 (lv_at hl 0 rfl) ?_
    refine lv_iconst (v := 4) hx hb dX12_feed_64 (by decide) ?_
    refine lv_idiv hx hb dX12_feed_65 (by decide) ?_
    refine lv_topi (fun x_501 ex_501 => ?_)
    have gx_501 : gi x_501 1 1 := gi_div ex_501 (gi_c 6 6 (by decide)) (gi_c 4 4 (by decide)) (by decide)
    refine va_iald hx hb hK hP 2 1 rfl rfl (gi_in gx_501 (by decide)) dX12_feed_66 ?_
    refine lv_topi (fun x_502 ex_502 => ?_)
    have hlx_502 : x_502.toInt = (f_438 x_501.toNatClampNeg).toInt := congrArg Int32.toInt ex_502
    refine lv_bipush (v := 24) hx hb dX12_feed_67 (by decide) ?_
    refine lv_bipush (v := 8) hx hb dX12_feed_69 (by decide) ?_
    refine lv_iload hx hb dX12_feed_71 (lv_at hl 0 rfl) ?_
    refine lv_iconst (v := 4) hx hb dX12_feed_73 (by decide) ?_
    refine lv_irem hx hb dX12_feed_74 (by decide) ?_
    refine lv_topi (fun x_503 ex_503 => ?_)
    refine lv_imul hx hb dX12_feed_75 ?_
    refine lv_topi (fun x_504 ex_504 => ?_)
    refine lv_isub hx hb dX12_feed_76 ?_
    refine lv_topi (fun x_505 ex_505 => ?_)
    refine lv_iushr hx hb dX12_feed_77 rfl ?_
    refine lv_topi (fun x_506 ex_506 => ?_)
    refine lv_sipush (v := 255) hx hb dX12_feed_78 (by decide) ?_
    refine lv_iand hx hb dX12_feed_81 ?_
    refine lv_topi (fun x_507 ex_507 => ?_)
    refine va_iast hx hb hK hP hD hS 1 0 rfl rfl (gi_in gx_500 (by decide)) dX12_feed_82 (fun H locs hP hD hS => ?_)
    have hP : va_P (dC, dI) vwCl [(h0, .inr (12, fsMM mi mr)), ((mr 13), .inl (km_tape, 1600, .inl (upd f_498 (x_500 : Int32).toNatClampNeg x_507))), (q_432, .inl (k_433, 5, .inl f_438))] H := hP
    have hD : va_D A [(h0, .inr (12, fsMM mi mr)), ((mr 13), .inl (km_tape, 1600, .inl (upd f_498 (x_500 : Int32).toNatClampNeg x_507))), (q_432, .inl (k_433, 5, .inl f_438))] := hD
    generalize upd f_498 (x_500 : Int32).toNatClampNeg x_507 = f_508 at hP hD
    refine lv_iinc (v := 7) (lv' := [(7, .int 7), (6, .ref q_432), (0, .ref h0), (1, .int p1), (2, .int p2), (3, .int p3), (4, .int p4), (5, .int p5)]) hx hb dX12_feed_83 hl (k := 0) rfl (by decide) (by decide) rfl (fun ls hl => ?_)
    refine lv_goto (tgt := 42) hx hb dX12_feed_86 (by decide) ?_
    refine lv_iload hx hb dX12_feed_42 (lv_at hl 0 rfl) ?_
    refine lv_bipush (v := 20) hx hb dX12_feed_44 (by decide) ?_
    refine lv_icmp_ge (tgt := 89) hx hb dX12_feed_46 (by decide) (fun c_509 => absurd c_509 (gi_no_le (gi_c 20 20 (by decide)) (gi_c 7 7 (by decide)) (by decide))) (fun c_509 => ?_)
    refine lv_aload_n hx hb dX12_feed_49 rfl (lv_at hl 2 rfl) ?_
    refine va_get (D := (dC, dI)) (ci := 12) (v := .ref (mr 13)) (C := RX12) (T := TX12) (N := 57) hx hb hts (fun w h => List.mem_cons_of_mem _ (jnGB_X12 w h)) hown hK hP 0 rfl rfl 25 (by decide) (hts _ (List.mem_cons_of_mem _ mGB_24)) (fun _ h9 => h9) rfl dX12_feed_50 ?_
    refine lv_aload_n hx hb dX12_feed_53 rfl (lv_at hl 2 rfl) ?_
    refine va_get (D := (dC, dI)) (ci := 12) (v := .int (mi 26)) (C := RX12) (T := TX12) (N := 57) hx hb hts (fun w h => List.mem_cons_of_mem _ (jnGB_X12 w h)) hown hK hP 0 rfl rfl 26 (by decide) (hts _ (List.mem_cons_of_mem _ mGB_43)) (fun _ h9 => h9) rfl dX12_feed_54 ?_
    refine lv_iload hx hb dX12_feed_57 (lv_at hl 0 rfl) ?_
    refine lv_iadd hx hb dX12_feed_59 ?_
    refine lv_topi (fun x_510 ex_510 => ?_)
    have gx_510 : gi x_510 7 1587 := gi_add ex_510 g_431 (gi_c 7 7 (by decide)) (by decide)
    refine lv_aload hx hb dX12_feed_60 (lv_at hl 1 rfl) ?_
    refine lv_iload hx hb dX12_feed_62 (lv_at hl 0 rfl) ?_
    refine lv_iconst (v := 4) hx hb dX12_feed_64 (by decide) ?_
    refine lv_idiv hx hb dX12_feed_65 (by decide) ?_
    refine lv_topi (fun x_511 ex_511 => ?_)
    have gx_511 : gi x_511 1 1 := gi_div ex_511 (gi_c 7 7 (by decide)) (gi_c 4 4 (by decide)) (by decide)
    refine va_iald hx hb hK hP 2 1 rfl rfl (gi_in gx_511 (by decide)) dX12_feed_66 ?_
    refine lv_topi (fun x_512 ex_512 => ?_)
    have hlx_512 : x_512.toInt = (f_438 x_511.toNatClampNeg).toInt := congrArg Int32.toInt ex_512
    refine lv_bipush (v := 24) hx hb dX12_feed_67 (by decide) ?_
    refine lv_bipush (v := 8) hx hb dX12_feed_69 (by decide) ?_
    refine lv_iload hx hb dX12_feed_71 (lv_at hl 0 rfl) ?_
    refine lv_iconst (v := 4) hx hb dX12_feed_73 (by decide) ?_
    refine lv_irem hx hb dX12_feed_74 (by decide) ?_
    refine lv_topi (fun x_513 ex_513 => ?_)
    refine lv_imul hx hb dX12_feed_75 ?_
    refine lv_topi (fun x_514 ex_514 => ?_)
    refine lv_isub hx hb dX12_feed_76 ?_
    refine lv_topi (fun x_515 ex_515 => ?_)
    refine lv_iushr hx hb dX12_feed_77 rfl ?_
    refine lv_topi (fun x_516 ex_516 => ?_)
    refine lv_sipush (v := 255) hx hb dX12_feed_78 (by decide) ?_
    refine lv_iand hx hb dX12_feed_81 ?_
    refine lv_topi (fun x_517 ex_517 => ?_)
    refine va_iast hx hb hK hP hD hS 1 0 rfl rfl (gi_in gx_510 (by decide)) dX12_feed_82 (fun H locs hP hD hS => ?_)
    have hP : va_P (dC, dI) vwCl [(h0, .inr (12, fsMM mi mr)), ((mr 13), .inl (km_tape, 1600, .inl (upd f_508 (x_510 : Int32).toNatClampNeg x_517))), (q_432, .inl (k_433, 5, .inl f_438))] H := hP
    have hD : va_D A [(h0, .inr (12, fsMM mi mr)), ((mr 13), .inl (km_tape, 1600, .inl (upd f_508 (x_510 : Int32).toNatClampNeg x_517))), (q_432, .inl (k_433, 5, .inl f_438))] := hD
    generalize upd f_508 (x_510 : Int32).toNatClampNeg x_517 = f_518 at hP hD
    refine lv_iinc (v := 8) (lv' := [(7, .int 8), (6, .ref q_432), (0, .ref h0), (1, .int p1), (2, .int p2), (3, .int p3), (4, .int p4), (5, .int p5)]) hx hb dX12_feed_83 hl (k := 0) rfl (by decide) (by decide) rfl (fun ls hl => ?_)
    refine lv_goto (tgt := 42) hx hb dX12_feed_86 (by decide) ?_
    refine lv_iload hx hb dX12_feed_42 (lv_at hl 0 rfl) ?_
    refine lv_bipush (v := 20) hx hb dX12_feed_44 (by decide) ?_
    refine lv_icmp_ge (tgt := 89) hx hb dX12_feed_46 (by decide) (fun c_519 => absurd c_519 (gi_no_le (gi_c 20 20 (by decide)) (gi_c 8 8 (by decide)) (by decide))) (fun c_519 => ?_)
    refine lv_aload_n hx hb dX12_feed_49 rfl (lv_at hl 2 rfl) ?_
    refine va_get (D := (dC, dI)) (ci := 12) (v := .ref (mr 13)) (C := RX12) (T := TX12) (N := 57) hx hb hts (fun w h => List.mem_cons_of_mem _ (jnGB_X12 w h)) hown hK hP 0 rfl rfl 25 (by decide) (hts _ (List.mem_cons_of_mem _ mGB_24)) (fun _ h9 => h9) rfl dX12_feed_50 ?_
    refine lv_aload_n hx hb dX12_feed_53 rfl (lv_at hl 2 rfl) ?_
    refine va_get (D := (dC, dI)) (ci := 12) (v := .int (mi 26)) (C := RX12) (T := TX12) (N := 57) hx hb hts (fun w h => List.mem_cons_of_mem _ (jnGB_X12 w h)) hown hK hP 0 rfl rfl 26 (by decide) (hts _ (List.mem_cons_of_mem _ mGB_43)) (fun _ h9 => h9) rfl dX12_feed_54 ?_
    refine lv_iload hx hb dX12_feed_57 (lv_at hl 0 rfl) ?_
    refine lv_iadd hx hb dX12_feed_59 ?_
    refine lv_topi (fun x_520 ex_520 => ?_)
    have gx_520 : gi x_520 8 1588 := gi_add ex_520 g_431 (gi_c 8 8 (by decide)) (by decide)
    refine lv_aload hx hb dX12_feed_60 (lv_at hl 1 rfl) ?_
    refine lv_iload hx hb dX12_feed_62 (lv_at hl 0 rfl) ?_
    refine lv_iconst (v := 4) hx hb dX12_feed_64 (by decide) ?_
    refine lv_idiv hx hb dX12_feed_65 (by decide) ?_
    refine lv_topi (fun x_521 ex_521 => ?_)
    have gx_521 : gi x_521 2 2 := gi_div ex_521 (gi_c 8 8 (by decide)) (gi_c 4 4 (by decide)) (by decide)
    refine va_iald hx hb hK hP 2 1 rfl rfl (gi_in gx_521 (by decide)) dX12_feed_66 ?_
    refine lv_topi (fun x_522 ex_522 => ?_)
    have hlx_522 : x_522.toInt = (f_438 x_521.toNatClampNeg).toInt := congrArg Int32.toInt ex_522
    refine lv_bipush (v := 24) hx hb dX12_feed_67 (by decide) ?_
    refine lv_bipush (v := 8) hx hb dX12_feed_69 (by decide) ?_
    refine lv_iload hx hb dX12_feed_71 (lv_at hl 0 rfl) ?_
    refine lv_iconst (v := 4) hx hb dX12_feed_73 (by decide) ?_
    refine lv_irem hx hb dX12_feed_74 (by decide) ?_
    refine lv_topi (fun x_523 ex_523 => ?_)
    refine lv_imul hx hb dX12_feed_75 ?_
    refine lv_topi (fun x_524 ex_524 => ?_)
    refine lv_isub hx hb dX12_feed_76 ?_
    refine lv_topi (fun x_525 ex_525 => ?_)
    refine lv_iushr hx hb dX12_feed_77 rfl ?_
    refine lv_topi (fun x_526 ex_526 => ?_)
    refine lv_sipush (v := 255) hx hb dX12_feed_78 (by decide) ?_
    refine lv_iand hx hb dX12_feed_81 ?_
    refine lv_topi (fun x_527 ex_527 => ?_)
    refine va_iast hx hb hK hP hD hS 1 0 rfl rfl (gi_in gx_520 (by decide)) dX12_feed_82 (fun H locs hP hD hS => ?_)
    have hP : va_P (dC, dI) vwCl [(h0, .inr (12, fsMM mi mr)), ((mr 13), .inl (km_tape, 1600, .inl (upd f_518 (x_520 : Int32).toNatClampNeg x_527))), (q_432, .inl (k_433, 5, .inl f_438))] H := hP
    have hD : va_D A [(h0, .inr (12, fsMM mi mr)), ((mr 13), .inl (km_tape, 1600, .inl (upd f_518 (x_520 : Int32).toNatClampNeg x_527))), (q_432, .inl (k_433, 5, .inl f_438))] := hD
    generalize upd f_518 (x_520 : Int32).toNatClampNeg x_527 = f_528 at hP hD
    refine lv_iinc (v := 9) (lv' := [(7, .int 9), (6, .ref q_432), (0, .ref h0), (1, .int p1), (2, .int p2), (3, .int p3), (4, .int p4), (5, .int p5)]) hx hb dX12_feed_83 hl (k := 0) rfl (by decide) (by decide) rfl (fun ls hl => ?_)
    refine lv_goto (tgt := 42) hx hb dX12_feed_86 (by decide) ?_
    refine lv_iload hx hb dX12_feed_42 (lv_at hl 0 rfl) ?_
    refine lv_bipush (v := 20) hx hb dX12_feed_44 (by decide) ?_
    refine lv_icmp_ge (tgt := 89) hx hb dX12_feed_46 (by decide) (fun c_529 => absurd c_529 (gi_no_le (gi_c 20 20 (by decide)) (gi_c 9 9 (by decide)) (by decide))) (fun c_529 => ?_)
    refine lv_aload_n hx hb dX12_feed_49 rfl (lv_at hl 2 rfl) ?_
    refine va_get (D := (dC, dI)) (ci := 12) (v := .ref (mr 13)) (C := RX12) (T := TX12) (N := 57) hx hb hts (fun w h => List.mem_cons_of_mem _ (jnGB_X12 w h)) hown hK hP 0 rfl rfl 25 (by decide) (hts _ (List.mem_cons_of_mem _ mGB_24)) (fun _ h9 => h9) rfl dX12_feed_50 ?_
    refine lv_aload_n hx hb dX12_feed_53 rfl (lv_at hl 2 rfl) ?_
    refine va_get (D := (dC, dI)) (ci := 12) (v := .int (mi 26)) (C := RX12) (T := TX12) (N := 57) hx hb hts (fun w h => List.mem_cons_of_mem _ (jnGB_X12 w h)) hown hK hP 0 rfl rfl 26 (by decide) (hts _ (List.mem_cons_of_mem _ mGB_43)) (fun _ h9 => h9) rfl dX12_feed_54 ?_
    refine lv_iload hx hb dX12_feed_57 (lv_at hl 0 rfl) ?_
    refine lv_iadd hx hb dX12_feed_59 ?_
    refine lv_topi (fun x_530 ex_530 => ?_)
    have gx_530 : gi x_530 9 1589 := gi_add ex_530 g_431 (gi_c 9 9 (by decide)) (by decide)
    refine lv_aload hx hb dX12_feed_60 (lv_at hl 1 rfl) ?_
    refine lv_iload hx hb dX12_feed_62 (lv_at hl 0 rfl) ?_
    refine lv_iconst (v := 4) hx hb dX12_feed_64 (by decide) ?_
    refine lv_idiv hx hb dX12_feed_65 (by decide) ?_
    refine lv_topi (fun x_531 ex_531 => ?_)
    have gx_531 : gi x_531 2 2 := gi_div ex_531 (gi_c 9 9 (by decide)) (gi_c 4 4 (by decide)) (by decide)
    refine va_iald hx hb hK hP 2 1 rfl rfl (gi_in gx_531 (by decide)) dX12_feed_66 ?_
    refine lv_topi (fun x_532 ex_532 => ?_)
    have hlx_532 : x_532.toInt = (f_438 x_531.toNatClampNeg).toInt := congrArg Int32.toInt ex_532
    refine lv_bipush (v := 24) hx hb dX12_feed_67 (by decide) ?_
    refine lv_bipush (v := 8) hx hb dX12_feed_69 (by decide) ?_
    refine lv_iload hx hb dX12_feed_71 (lv_at hl 0 rfl) ?_
    refine lv_iconst (v := 4) hx hb dX12_feed_73 (by decide) ?_
    refine lv_irem hx hb dX12_feed_74 (by decide) ?_
    refine lv_topi (fun x_533 ex_533 => ?_)
    refine lv_imul hx hb dX12_feed_75 ?_
    refine lv_topi (fun x_534 ex_534 => ?_)
    refine lv_isub hx hb dX12_feed_76 ?_
    refine lv_topi (fun x_535 ex_535 => ?_)
    refine lv_iushr hx hb dX12_feed_77 rfl ?_
    refine lv_topi (fun x_536 ex_536 => ?_)
    refine lv_sipush (v := 255) hx hb dX12_feed_78 (by decide) ?_
    refine lv_iand hx hb dX12_feed_81 ?_
    refine lv_topi (fun x_537 ex_537 => ?_)
    refine va_iast hx hb hK hP hD hS 1 0 rfl rfl (gi_in gx_530 (by decide)) dX12_feed_82 (fun H locs hP hD hS => ?_)
    have hP : va_P (dC, dI) vwCl [(h0, .inr (12, fsMM mi mr)), ((mr 13), .inl (km_tape, 1600, .inl (upd f_528 (x_530 : Int32).toNatClampNeg x_537))), (q_432, .inl (k_433, 5, .inl f_438))] H := hP
    have hD : va_D A [(h0, .inr (12, fsMM mi mr)), ((mr 13), .inl (km_tape, 1600, .inl (upd f_528 (x_530 : Int32).toNatClampNeg x_537))), (q_432, .inl (k_433, 5, .inl f_438))] := hD
    generalize upd f_528 (x_530 : Int32).toNatClampNeg x_537 = f_538 at hP hD
    refine lv_iinc (v := 10) (lv' := [(7, .int 10), (6, .ref q_432), (0, .ref h0), (1, .int p1), (2, .int p2), (3, .int p3), (4, .int p4), (5, .int p5)]) hx hb dX12_feed_83 hl (k := 0) rfl (by decide) (by decide) rfl (fun ls hl => ?_)
    refine lv_goto (tgt := 42) hx hb dX12_feed_86 (by decide) ?_
    refine lv_iload hx hb dX12_feed_42 (lv_at hl 0 rfl) ?_
    refine lv_bipush (v := 20) hx hb dX12_feed_44 (by decide) ?_
    refine lv_icmp_ge (tgt := 89) hx hb dX12_feed_46 (by decide) (fun c_539 => absurd c_539 (gi_no_le (gi_c 20 20 (by decide)) (gi_c 10 10 (by decide)) (by decide))) (fun c_539 => ?_)
    refine lv_aload_n hx hb dX12_feed_49 rfl (lv_at hl 2 rfl) ?_
    refine va_get (D := (dC, dI)) (ci := 12) (v := .ref (mr 13)) (C := RX12) (T := TX12) (N := 57) hx hb hts (fun w h => List.mem_cons_of_mem _ (jnGB_X12 w h)) hown hK hP 0 rfl rfl 25 (by decide) (hts _ (List.mem_cons_of_mem _ mGB_24)) (fun _ h9 => h9) rfl dX12_feed_50 ?_
    refine lv_aload_n hx hb dX12_feed_53 rfl (lv_at hl 2 rfl) ?_
    refine va_get (D := (dC, dI)) (ci := 12) (v := .int (mi 26)) (C := RX12) (T := TX12) (N := 57) hx hb hts (fun w h => List.mem_cons_of_mem _ (jnGB_X12 w h)) hown hK hP 0 rfl rfl 26 (by decide) (hts _ (List.mem_cons_of_mem _ mGB_43)) (fun _ h9 => h9) rfl dX12_feed_54 ?_
    refine lv_iload hx hb dX12_feed_57 (lv_at hl 0 rfl) ?_
    refine lv_iadd hx hb dX12_feed_59 ?_
    refine lv_topi (fun x_540 ex_540 => ?_)
    have gx_540 : gi x_540 10 1590 := gi_add ex_540 g_431 (gi_c 10 10 (by decide)) (by decide)
    refine lv_aload hx hb dX12_feed_60 (lv_at hl 1 rfl) ?_
    refine lv_iload hx hb dX12_feed_62 (lv_at hl 0 rfl) ?_
    refine lv_iconst (v := 4) hx hb dX12_feed_64 (by decide) ?_
    refine lv_idiv hx hb dX12_feed_65 (by decide) ?_
    refine lv_topi (fun x_541 ex_541 => ?_)
    have gx_541 : gi x_541 2 2 := gi_div ex_541 (gi_c 10 10 (by decide)) (gi_c 4 4 (by decide)) (by decide)
    refine va_iald hx hb hK hP 2 1 rfl rfl (gi_in gx_541 (by decide)) dX12_feed_66 ?_
    refine lv_topi (fun x_542 ex_542 => ?_)
    have hlx_542 : x_542.toInt = (f_438 x_541.toNatClampNeg).toInt := congrArg Int32.toInt ex_542
    refine lv_bipush (v := 24) hx hb dX12_feed_67 (by decide) ?_
    refine lv_bipush (v := 8) hx hb dX12_feed_69 (by decide) ?_
    refine lv_iload hx hb dX12_feed_71 (lv_at hl 0 rfl) ?_
    refine lv_iconst (v := 4) hx hb dX12_feed_73 (by decide) ?_
    refine lv_irem hx hb dX12_feed_74 (by decide) ?_
    refine lv_topi (fun x_543 ex_543 => ?_)
    refine lv_imul hx hb dX12_feed_75 ?_
    refine lv_topi (fun x_544 ex_544 => ?_)
    refine lv_isub hx hb dX12_feed_76 ?_
    refine lv_topi (fun x_545 ex_545 => ?_)
    refine lv_iushr hx hb dX12_feed_77 rfl ?_
    refine lv_topi (fun x_546 ex_546 => ?_)
    refine lv_sipush (v := 255) hx hb dX12_feed_78 (by decide) ?_
    refine lv_iand hx hb dX12_feed_81 ?_
    refine lv_topi (fun x_547 ex_547 => ?_)
    refine va_iast hx hb hK hP hD hS 1 0 rfl rfl (gi_in gx_540 (by decide)) dX12_feed_82 (fun H locs hP hD hS => ?_)
    have hP : va_P (dC, dI) vwCl [(h0, .inr (12, fsMM mi mr)), ((mr 13), .inl (km_tape, 1600, .inl (upd f_538 (x_540 : Int32).toNatClampNeg x_547))), (q_432, .inl (k_433, 5, .inl f_438))] H := hP
    have hD : va_D A [(h0, .inr (12, fsMM mi mr)), ((mr 13), .inl (km_tape, 1600, .inl (upd f_538 (x_540 : Int32).toNatClampNeg x_547))), (q_432, .inl (k_433, 5, .inl f_438))] := hD
    generalize upd f_538 (x_540 : Int32).toNatClampNeg x_547 = f_548 at hP hD
    refine lv_iinc (v := 11) (lv' := [(7, .int 11), (6, .ref q_432), (0, .ref h0), (1, .int p1), (2, .int p2), (3, .int p3), (4, .int p4), (5, .int p5)]) hx hb dX12_feed_83 hl (k := 0) rfl (by decide) (by decide) rfl (fun ls hl => ?_)
    refine lv_goto (tgt := 42) hx hb dX12_feed_86 (by decide) ?_
    refine lv_iload hx hb dX12_feed_42 (lv_at hl 0 rfl) ?_
    refine lv_bipush (v := 20) hx hb dX12_feed_44 (by decide) ?_
    refine lv_icmp_ge (tgt := 89) hx hb dX12_feed_46 (by decide) (fun c_549 => absurd c_549 (gi_no_le (gi_c 20 20 (by decide)) (gi_c 11 11 (by decide)) (by decide))) (fun c_549 => ?_)
    refine lv_aload_n hx hb dX12_feed_49 rfl (lv_at hl 2 rfl) ?_
    refine va_get (D := (dC, dI)) (ci := 12) (v := .ref (mr 13)) (C := RX12) (T := TX12) (N := 57) hx hb hts (fun w h => List.mem_cons_of_mem _ (jnGB_X12 w h)) hown hK hP 0 rfl rfl 25 (by decide) (hts _ (List.mem_cons_of_mem _ mGB_24)) (fun _ h9 => h9) rfl dX12_feed_50 ?_
    refine lv_aload_n hx hb dX12_feed_53 rfl (lv_at hl 2 rfl) ?_
    refine va_get (D := (dC, dI)) (ci := 12) (v := .int (mi 26)) (C := RX12) (T := TX12) (N := 57) hx hb hts (fun w h => List.mem_cons_of_mem _ (jnGB_X12 w h)) hown hK hP 0 rfl rfl 26 (by decide) (hts _ (List.mem_cons_of_mem _ mGB_43)) (fun _ h9 => h9) rfl dX12_feed_54 ?_
    refine lv_iload hx hb dX12_feed_57 (lv_at hl 0 rfl) ?_
    refine lv_iadd hx hb dX12_feed_59 ?_
    refine lv_topi (fun x_550 ex_550 => ?_)
    have gx_550 : gi x_550 11 1591 := gi_add ex_550 g_431 (gi_c 11 11 (by decide)) (by decide)
    refine lv_aload hx hb dX12_feed_60 (lv_at hl 1 rfl) ?_
    refine lv_iload hx hb dX12_feed_62 (lv_at hl 0 rfl) ?_
    refine lv_iconst (v := 4) hx hb dX12_feed_64 (by decide) ?_
    refine lv_idiv hx hb dX12_feed_65 (by decide) ?_
    refine lv_topi (fun x_551 ex_551 => ?_)
    have gx_551 : gi x_551 2 2 := gi_div ex_551 (gi_c 11 11 (by decide)) (gi_c 4 4 (by decide)) (by decide)
    refine va_iald hx hb hK hP 2 1 rfl rfl (gi_in gx_551 (by decide)) dX12_feed_66 ?_
    refine lv_topi (fun x_552 ex_552 => ?_)
    have hlx_552 : x_552.toInt = (f_438 x_551.toNatClampNeg).toInt := congrArg Int32.toInt ex_552
    refine lv_bipush (v := 24) hx hb dX12_feed_67 (by decide) ?_
    refine lv_bipush (v := 8) hx hb dX12_feed_69 (by decide) ?_
    refine lv_iload hx hb dX12_feed_71 (lv_at hl 0 rfl) ?_
    refine lv_iconst (v := 4) hx hb dX12_feed_73 (by decide) ?_
    refine lv_irem hx hb dX12_feed_74 (by decide) ?_
    refine lv_topi (fun x_553 ex_553 => ?_)
    refine lv_imul hx hb dX12_feed_75 ?_
    refine lv_topi (fun x_554 ex_554 => ?_)
    refine lv_isub hx hb dX12_feed_76 ?_
    refine lv_topi (fun x_555 ex_555 => ?_)
    refine lv_iushr hx hb dX12_feed_77 rfl ?_
    refine lv_topi (fun x_556 ex_556 => ?_)
    refine lv_sipush (v := 255) hx hb dX12_feed_78 (by decide) ?_
    refine lv_iand hx hb dX12_feed_81 ?_
    refine lv_topi (fun x_557 ex_557 => ?_)
    refine va_iast hx hb hK hP hD hS 1 0 rfl rfl (gi_in gx_550 (by decide)) dX12_feed_82 (fun H locs hP hD hS => ?_)
    have hP : va_P (dC, dI) vwCl [(h0, .inr (12, fsMM mi mr)), ((mr 13), .inl (km_tape, 1600, .inl (upd f_548 (x_550 : Int32).toNatClampNeg x_557))), (q_432, .inl (k_433, 5, .inl f_438))] H := hP
    have hD : va_D A [(h0, .inr (12, fsMM mi mr)), ((mr 13), .inl (km_tape, 1600, .inl (upd f_548 (x_550 : Int32).toNatClampNeg x_557))), (q_432, .inl (k_433, 5, .inl f_438))] := hD
    generalize upd f_548 (x_550 : Int32).toNatClampNeg x_557 = f_558 at hP hD
    refine lv_iinc (v := 12) (lv' := [(7, .int 12), (6, .ref q_432), (0, .ref h0), (1, .int p1), (2, .int p2), (3, .int p3), (4, .int p4), (5, .int p5)]) hx hb dX12_feed_83 hl (k := 0) rfl (by decide) (by decide) rfl (fun ls hl => ?_)
    refine lv_goto (tgt := 42) hx hb dX12_feed_86 (by decide) ?_
    refine lv_iload hx hb dX12_feed_42 (lv_at hl 0 rfl) ?_
    refine lv_bipush (v := 20) hx hb dX12_feed_44 (by decide) ?_
    refine lv_icmp_ge (tgt := 89) hx hb dX12_feed_46 (by decide) (fun c_559 => absurd c_559 (gi_no_le (gi_c 20 20 (by decide)) (gi_c 12 12 (by decide)) (by decide))) (fun c_559 => ?_)
    refine lv_aload_n hx hb dX12_feed_49 rfl (lv_at hl 2 rfl) ?_
    refine va_get (D := (dC, dI)) (ci := 12) (v := .ref (mr 13)) (C := RX12) (T := TX12) (N := 57) hx hb hts (fun w h => List.mem_cons_of_mem _ (jnGB_X12 w h)) hown hK hP 0 rfl rfl 25 (by decide) (hts _ (List.mem_cons_of_mem _ mGB_24)) (fun _ h9 => h9) rfl dX12_feed_50 ?_
    refine lv_aload_n hx hb dX12_feed_53 rfl (lv_at hl 2 rfl) ?_
    refine va_get (D := (dC, dI)) (ci := 12) (v := .int (mi 26)) (C := RX12) (T := TX12) (N := 57) hx hb hts (fun w h => List.mem_cons_of_mem _ (jnGB_X12 w h)) hown hK hP 0 rfl rfl 26 (by decide) (hts _ (List.mem_cons_of_mem _ mGB_43)) (fun _ h9 => h9) rfl dX12_feed_54 ?_
    refine lv_iload hx hb dX12_feed_57 (lv_at hl 0 rfl) ?_
    refine lv_iadd hx hb dX12_feed_59 ?_
    refine lv_topi (fun x_560 ex_560 => ?_)
    have gx_560 : gi x_560 12 1592 := gi_add ex_560 g_431 (gi_c 12 12 (by decide)) (by decide)
    refine lv_aload hx hb dX12_feed_60 (lv_at hl 1 rfl) ?_
    refine lv_iload hx hb dX12_feed_62 (lv_at hl 0 rfl) ?_
    refine lv_iconst (v := 4) hx hb dX12_feed_64 (by decide) ?_
    refine lv_idiv hx hb dX12_feed_65 (by decide) ?_
    refine lv_topi (fun x_561 ex_561 => ?_)
    have gx_561 : gi x_561 3 3 := gi_div ex_561 (gi_c 12 12 (by decide)) (gi_c 4 4 (by decide)) (by decide)
    refine va_iald hx hb hK hP 2 1 rfl rfl (gi_in gx_561 (by decide)) dX12_feed_66 ?_
    refine lv_topi (fun x_562 ex_562 => ?_)
    have hlx_562 : x_562.toInt = (f_438 x_561.toNatClampNeg).toInt := congrArg Int32.toInt ex_562
    refine lv_bipush (v := 24) hx hb dX12_feed_67 (by decide) ?_
    refine lv_bipush (v := 8) hx hb dX12_feed_69 (by decide) ?_
    refine lv_iload hx hb dX12_feed_71 (lv_at hl 0 rfl) ?_
    refine lv_iconst (v := 4) hx hb dX12_feed_73 (by decide) ?_
    refine lv_irem hx hb dX12_feed_74 (by decide) ?_
    refine lv_topi (fun x_563 ex_563 => ?_)
    refine lv_imul hx hb dX12_feed_75 ?_
    refine lv_topi (fun x_564 ex_564 => ?_)
    refine lv_isub hx hb dX12_feed_76 ?_
    refine lv_topi (fun x_565 ex_565 => ?_)
    refine lv_iushr hx hb dX12_feed_77 rfl ?_
    refine lv_topi (fun x_566 ex_566 => ?_)
    refine lv_sipush (v := 255) hx hb dX12_feed_78 (by decide) ?_
    refine lv_iand hx hb dX12_feed_81 ?_
    refine lv_topi (fun x_567 ex_567 => ?_)
    refine va_iast hx hb hK hP hD hS 1 0 rfl rfl (gi_in gx_560 (by decide)) dX12_feed_82 (fun H locs hP hD hS => ?_)
    have hP : va_P (dC, dI) vwCl [(h0, .inr (12, fsMM mi mr)), ((mr 13), .inl (km_tape, 1600, .inl (upd f_558 (x_560 : Int32).toNatClampNeg x_567))), (q_432, .inl (k_433, 5, .inl f_438))] H := hP
    have hD : va_D A [(h0, .inr (12, fsMM mi mr)), ((mr 13), .inl (km_tape, 1600, .inl (upd f_558 (x_560 : Int32).toNatClampNeg x_567))), (q_432, .inl (k_433, 5, .inl f_438))] := hD
    generalize upd f_558 (x_560 : Int32).toNatClampNeg x_567 = f_568 at hP hD
    refine lv_iinc (v := 13) (lv' := [(7, .int 13), (6, .ref q_432), (0, .ref h0), (1, .int p1), (2, .int p2), (3, .int p3), (4, .int p4), (5, .int p5)]) hx hb dX12_feed_83 hl (k := 0) rfl (by decide) (by decide) rfl (fun ls hl => ?_)
    refine lv_goto (tgt := 42) hx hb dX12_feed_86 (by decide) ?_
    refine lv_iload hx hb dX12_feed_42 (lv_at hl 0 rfl) ?_
    refine lv_bipush (v := 20) hx hb dX12_feed_44 (by decide) ?_
    refine lv_icmp_ge (tgt := 89) hx hb dX12_feed_46 (by decide) (fun c_569 => absurd c_569 (gi_no_le (gi_c 20 20 (by decide)) (gi_c 13 13 (by decide)) (by decide))) (fun c_569 => ?_)
    refine lv_aload_n hx hb dX12_feed_49 rfl (lv_at hl 2 rfl) ?_
    refine va_get (D := (dC, dI)) (ci := 12) (v := .ref (mr 13)) (C := RX12) (T := TX12) (N := 57) hx hb hts (fun w h => List.mem_cons_of_mem _ (jnGB_X12 w h)) hown hK hP 0 rfl rfl 25 (by decide) (hts _ (List.mem_cons_of_mem _ mGB_24)) (fun _ h9 => h9) rfl dX12_feed_50 ?_
    refine lv_aload_n hx hb dX12_feed_53 rfl (lv_at hl 2 rfl) ?_
    refine va_get (D := (dC, dI)) (ci := 12) (v := .int (mi 26)) (C := RX12) (T := TX12) (N := 57) hx hb hts (fun w h => List.mem_cons_of_mem _ (jnGB_X12 w h)) hown hK hP 0 rfl rfl 26 (by decide) (hts _ (List.mem_cons_of_mem _ mGB_43)) (fun _ h9 => h9) rfl dX12_feed_54 ?_
    refine lv_iload hx hb dX12_feed_57 (lv_at hl 0 rfl) ?_
    refine lv_iadd hx hb dX12_feed_59 ?_
    refine lv_topi (fun x_570 ex_570 => ?_)
    have gx_570 : gi x_570 13 1593 := gi_add ex_570 g_431 (gi_c 13 13 (by decide)) (by decide)
    refine lv_aload hx hb dX12_feed_60 (lv_at hl 1 rfl) ?_
    refine lv_iload hx hb dX12_feed_62 (lv_at hl 0 rfl) ?_
    refine lv_iconst (v := 4) hx hb dX12_feed_64 (by decide) ?_
    refine lv_idiv hx hb dX12_feed_65 (by decide) ?_
    refine lv_topi (fun x_571 ex_571 => ?_)
    have gx_571 : gi x_571 3 3 := gi_div ex_571 (gi_c 13 13 (by decide)) (gi_c 4 4 (by decide)) (by decide)
    refine va_iald hx hb hK hP 2 1 rfl rfl (gi_in gx_571 (by decide)) dX12_feed_66 ?_
    refine lv_topi (fun x_572 ex_572 => ?_)
    have hlx_572 : x_572.toInt = (f_438 x_571.toNatClampNeg).toInt := congrArg Int32.toInt ex_572
    refine lv_bipush (v := 24) hx hb dX12_feed_67 (by decide) ?_
    refine lv_bipush (v := 8) hx hb dX12_feed_69 (by decide) ?_
    refine lv_iload hx hb dX12_feed_71 (lv_at hl 0 rfl) ?_
    refine lv_iconst (v := 4) hx hb dX12_feed_73 (by decide) ?_
    refine lv_irem hx hb dX12_feed_74 (by decide) ?_
    refine lv_topi (fun x_573 ex_573 => ?_)
    refine lv_imul hx hb dX12_feed_75 ?_
    refine lv_topi (fun x_574 ex_574 => ?_)
    refine lv_isub hx hb dX12_feed_76 ?_
    refine lv_topi (fun x_575 ex_575 => ?_)
    refine lv_iushr hx hb dX12_feed_77 rfl ?_
    refine lv_topi (fun x_576 ex_576 => ?_)
    refine lv_sipush (v := 255) hx hb dX12_feed_78 (by decide) ?_
    refine lv_iand hx hb dX12_feed_81 ?_
    refine lv_topi (fun x_577 ex_577 => ?_)
    refine va_iast hx hb hK hP hD hS 1 0 rfl rfl (gi_in gx_570 (by decide)) dX12_feed_82 (fun H locs hP hD hS => ?_)
    have hP : va_P (dC, dI) vwCl [(h0, .inr (12, fsMM mi mr)), ((mr 13), .inl (km_tape, 1600, .inl (upd f_568 (x_570 : Int32).toNatClampNeg x_577))), (q_432, .inl (k_433, 5, .inl f_438))] H := hP
    have hD : va_D A [(h0, .inr (12, fsMM mi mr)), ((mr 13), .inl (km_tape, 1600, .inl (upd f_568 (x_570 : Int32).toNatClampNeg x_577))), (q_432, .inl (k_433, 5, .inl f_438))] := hD
    generalize upd f_568 (x_570 : Int32).toNatClampNeg x_577 = f_578 at hP hD
    refine lv_iinc (v := 14) (lv' := [(7, .int 14), (6, .ref q_432), (0, .ref h0), (1, .int p1), (2, .int p2), (3, .int p3), (4, .int p4), (5, .int p5)]) hx hb dX12_feed_83 hl (k := 0) rfl (by decide) (by decide) rfl (fun ls hl => ?_)
    refine lv_goto (tgt := 42) hx hb dX12_feed_86 (by decide) ?_
    refine lv_iload hx hb dX12_feed_42 (lv_at hl 0 rfl) ?_
    refine lv_bipush (v := 20) hx hb dX12_feed_44 (by decide) ?_
    refine lv_icmp_ge (tgt := 89) hx hb dX12_feed_46 (by decide) (fun c_579 => absurd c_579 (gi_no_le (gi_c 20 20 (by decide)) (gi_c 14 14 (by decide)) (by decide))) (fun c_579 => ?_)
    refine lv_aload_n hx hb dX12_feed_49 rfl (lv_at hl 2 rfl) ?_
    refine va_get (D := (dC, dI)) (ci := 12) (v := .ref (mr 13)) (C := RX12) (T := TX12) (N := 57) hx hb hts (fun w h => List.mem_cons_of_mem _ (jnGB_X12 w h)) hown hK hP 0 rfl rfl 25 (by decide) (hts _ (List.mem_cons_of_mem _ mGB_24)) (fun _ h9 => h9) rfl dX12_feed_50 ?_
    refine lv_aload_n hx hb dX12_feed_53 rfl (lv_at hl 2 rfl) ?_
    refine va_get (D := (dC, dI)) (ci := 12) (v := .int (mi 26)) (C := RX12) (T := TX12) (N := 57) hx hb hts (fun w h => List.mem_cons_of_mem _ (jnGB_X12 w h)) hown hK hP 0 rfl rfl 26 (by decide) (hts _ (List.mem_cons_of_mem _ mGB_43)) (fun _ h9 => h9) rfl dX12_feed_54 ?_
    refine lv_iload hx hb dX12_feed_57 (lv_at hl 0 rfl) ?_
    refine lv_iadd hx hb dX12_feed_59 ?_
    refine lv_topi (fun x_580 ex_580 => ?_)
    have gx_580 : gi x_580 14 1594 := gi_add ex_580 g_431 (gi_c 14 14 (by decide)) (by decide)
    refine lv_aload hx hb dX12_feed_60 (lv_at hl 1 rfl) ?_
    refine lv_iload hx hb dX12_feed_62 (lv_at hl 0 rfl) ?_
    refine lv_iconst (v := 4) hx hb dX12_feed_64 (by decide) ?_
    refine lv_idiv hx hb dX12_feed_65 (by decide) ?_
    refine lv_topi (fun x_581 ex_581 => ?_)
    have gx_581 : gi x_581 3 3 := gi_div ex_581 (gi_c 14 14 (by decide)) (gi_c 4 4 (by decide)) (by decide)
    refine va_iald hx hb hK hP 2 1 rfl rfl (gi_in gx_581 (by decide)) dX12_feed_66 ?_
    refine lv_topi (fun x_582 ex_582 => ?_)
    have hlx_582 : x_582.toInt = (f_438 x_581.toNatClampNeg).toInt := congrArg Int32.toInt ex_582
    refine lv_bipush (v := 24) hx hb dX12_feed_67 (by decide) ?_
    refine lv_bipush (v := 8) hx hb dX12_feed_69 (by decide) ?_
    refine lv_iload hx hb dX12_feed_71 (lv_at hl 0 rfl) ?_
    refine lv_iconst (v := 4) hx hb dX12_feed_73 (by decide) ?_
    refine lv_irem hx hb dX12_feed_74 (by decide) ?_
    refine lv_topi (fun x_583 ex_583 => ?_)
    refine lv_imul hx hb dX12_feed_75 ?_
    refine lv_topi (fun x_584 ex_584 => ?_)
    refine lv_isub hx hb dX12_feed_76 ?_
    refine lv_topi (fun x_585 ex_585 => ?_)
    refine lv_iushr hx hb dX12_feed_77 rfl ?_
    refine lv_topi (fun x_586 ex_586 => ?_)
    refine lv_sipush (v := 255) hx hb dX12_feed_78 (by decide) ?_
    refine lv_iand hx hb dX12_feed_81 ?_
    refine lv_topi (fun x_587 ex_587 => ?_)
    refine va_iast hx hb hK hP hD hS 1 0 rfl rfl (gi_in gx_580 (by decide)) dX12_feed_82 (fun H locs hP hD hS => ?_)
    have hP : va_P (dC, dI) vwCl [(h0, .inr (12, fsMM mi mr)), ((mr 13), .inl (km_tape, 1600, .inl (upd f_578 (x_580 : Int32).toNatClampNeg x_587))), (q_432, .inl (k_433, 5, .inl f_438))] H := hP
    have hD : va_D A [(h0, .inr (12, fsMM mi mr)), ((mr 13), .inl (km_tape, 1600, .inl (upd f_578 (x_580 : Int32).toNatClampNeg x_587))), (q_432, .inl (k_433, 5, .inl f_438))] := hD
    generalize upd f_578 (x_580 : Int32).toNatClampNeg x_587 = f_588 at hP hD
    refine lv_iinc (v := 15) (lv' := [(7, .int 15), (6, .ref q_432), (0, .ref h0), (1, .int p1), (2, .int p2), (3, .int p3), (4, .int p4), (5, .int p5)]) hx hb dX12_feed_83 hl (k := 0) rfl (by decide) (by decide) rfl (fun ls hl => ?_)
    refine lv_goto (tgt := 42) hx hb dX12_feed_86 (by decide) ?_
    refine lv_iload hx hb dX12_feed_42 (lv_at hl 0 rfl) ?_
    refine lv_bipush (v := 20) hx hb dX12_feed_44 (by decide) ?_
    refine lv_icmp_ge (tgt := 89) hx hb dX12_feed_46 (by decide) (fun c_589 => absurd c_589 (gi_no_le (gi_c 20 20 (by decide)) (gi_c 15 15 (by decide)) (by decide))) (fun c_589 => ?_)
    refine lv_aload_n hx hb dX12_feed_49 rfl (lv_at hl 2 rfl) ?_
    refine va_get (D := (dC, dI)) (ci := 12) (v := .ref (mr 13)) (C := RX12) (T := TX12) (N := 57) hx hb hts (fun w h => List.mem_cons_of_mem _ (jnGB_X12 w h)) hown hK hP 0 rfl rfl 25 (by decide) (hts _ (List.mem_cons_of_mem _ mGB_24)) (fun _ h9 => h9) rfl dX12_feed_50 ?_
    refine lv_aload_n hx hb dX12_feed_53 rfl (lv_at hl 2 rfl) ?_
    refine va_get (D := (dC, dI)) (ci := 12) (v := .int (mi 26)) (C := RX12) (T := TX12) (N := 57) hx hb hts (fun w h => List.mem_cons_of_mem _ (jnGB_X12 w h)) hown hK hP 0 rfl rfl 26 (by decide) (hts _ (List.mem_cons_of_mem _ mGB_43)) (fun _ h9 => h9) rfl dX12_feed_54 ?_
    refine lv_iload hx hb dX12_feed_57 (lv_at hl 0 rfl) ?_
    refine lv_iadd hx hb dX12_feed_59 ?_
    refine lv_topi (fun x_590 ex_590 => ?_)
    have gx_590 : gi x_590 15 1595 := gi_add ex_590 g_431 (gi_c 15 15 (by decide)) (by decide)
    refine lv_aload hx hb dX12_feed_60 (lv_at hl 1 rfl) ?_
    refine lv_iload hx hb dX12_feed_62 (lv_at hl 0 rfl) ?_
    refine lv_iconst (v := 4) hx hb dX12_feed_64 (by decide) ?_
    refine lv_idiv hx hb dX12_feed_65 (by decide) ?_
    refine lv_topi (fun x_591 ex_591 => ?_)
    have gx_591 : gi x_591 3 3 := gi_div ex_591 (gi_c 15 15 (by decide)) (gi_c 4 4 (by decide)) (by decide)
    refine va_iald hx hb hK hP 2 1 rfl rfl (gi_in gx_591 (by decide)) dX12_feed_66 ?_
    refine lv_topi (fun x_592 ex_592 => ?_)
    have hlx_592 : x_592.toInt = (f_438 x_591.toNatClampNeg).toInt := congrArg Int32.toInt ex_592
    refine lv_bipush (v := 24) hx hb dX12_feed_67 (by decide) ?_
    refine lv_bipush (v := 8) hx hb dX12_feed_69 (by decide) ?_
    refine lv_iload hx hb dX12_feed_71 (lv_at hl 0 rfl) ?_
    refine lv_iconst (v := 4) hx hb dX12_feed_73 (by decide) ?_
    refine lv_irem hx hb dX12_feed_74 (by decide) ?_
    refine lv_topi (fun x_593 ex_593 => ?_)
    refine lv_imul hx hb dX12_feed_75 ?_
    refine lv_topi (fun x_594 ex_594 => ?_)
    refine lv_isub hx hb dX12_feed_76 ?_
    refine lv_topi (fun x_595 ex_595 => ?_)
    refine lv_iushr hx hb dX12_feed_77 rfl ?_
    refine lv_topi (fun x_596 ex_596 => ?_)
    refine lv_sipush (v := 255) hx hb dX12_feed_78 (by decide) ?_
    refine lv_iand hx hb dX12_feed_81 ?_
    refine lv_topi (fun x_597 ex_597 => ?_)
    refine va_iast hx hb hK hP hD hS 1 0 rfl rfl (gi_in gx_590 (by decide)) dX12_feed_82 (fun H locs hP hD hS => ?_)
    have hP : va_P (dC, dI) vwCl [(h0, .inr (12, fsMM mi mr)), ((mr 13), .inl (km_tape, 1600, .inl (upd f_588 (x_590 : Int32).toNatClampNeg x_597))), (q_432, .inl (k_433, 5, .inl f_438))] H := hP
    have hD : va_D A [(h0, .inr (12, fsMM mi mr)), ((mr 13), .inl (km_tape, 1600, .inl (upd f_588 (x_590 : Int32).toNatClampNeg x_597))), (q_432, .inl (k_433, 5, .inl f_438))] := hD
    generalize upd f_588 (x_590 : Int32).toNatClampNeg x_597 = f_598 at hP hD
    refine lv_iinc (v := 16) (lv' := [(7, .int 16), (6, .ref q_432), (0, .ref h0), (1, .int p1), (2, .int p2), (3, .int p3), (4, .int p4), (5, .int p5)]) hx hb dX12_feed_83 hl (k := 0) rfl (by decide) (by decide) rfl (fun ls hl => ?_)
    refine lv_goto (tgt := 42) hx hb dX12_feed_86 (by decide) ?_
    refine lv_iload hx hb dX12_feed_42 (lv_at hl 0 rfl) ?_
    refine lv_bipush (v := 20) hx hb dX12_feed_44 (by decide) ?_
    refine lv_icmp_ge (tgt := 89) hx hb dX12_feed_46 (by decide) (fun c_599 => absurd c_599 (gi_no_le (gi_c 20 20 (by decide)) (gi_c 16 16 (by decide)) (by decide))) (fun c_599 => ?_)
    refine lv_aload_n hx hb dX12_feed_49 rfl (lv_at hl 2 rfl) ?_
    refine va_get (D := (dC, dI)) (ci := 12) (v := .ref (mr 13)) (C := RX12) (T := TX12) (N := 57) hx hb hts (fun w h => List.mem_cons_of_mem _ (jnGB_X12 w h)) hown hK hP 0 rfl rfl 25 (by decide) (hts _ (List.mem_cons_of_mem _ mGB_24)) (fun _ h9 => h9) rfl dX12_feed_50 ?_
    refine lv_aload_n hx hb dX12_feed_53 rfl (lv_at hl 2 rfl) ?_
    refine va_get (D := (dC, dI)) (ci := 12) (v := .int (mi 26)) (C := RX12) (T := TX12) (N := 57) hx hb hts (fun w h => List.mem_cons_of_mem _ (jnGB_X12 w h)) hown hK hP 0 rfl rfl 26 (by decide) (hts _ (List.mem_cons_of_mem _ mGB_43)) (fun _ h9 => h9) rfl dX12_feed_54 ?_
    refine lv_iload hx hb dX12_feed_57 (lv_at hl 0 rfl) ?_
    refine lv_iadd hx hb dX12_feed_59 ?_
    refine lv_topi (fun x_600 ex_600 => ?_)
    have gx_600 : gi x_600 16 1596 := gi_add ex_600 g_431 (gi_c 16 16 (by decide)) (by decide)
    refine lv_aload hx hb dX12_feed_60 (lv_at hl 1 rfl) ?_
    refine lv_iload hx hb dX12_feed_62 (lv_at hl 0 rfl) ?_
    refine lv_iconst (v := 4) hx hb dX12_feed_64 (by decide) ?_
    refine lv_idiv hx hb dX12_feed_65 (by decide) ?_
    refine lv_topi (fun x_601 ex_601 => ?_)
    have gx_601 : gi x_601 4 4 := gi_div ex_601 (gi_c 16 16 (by decide)) (gi_c 4 4 (by decide)) (by decide)
    refine va_iald hx hb hK hP 2 1 rfl rfl (gi_in gx_601 (by decide)) dX12_feed_66 ?_
    refine lv_topi (fun x_602 ex_602 => ?_)
    have hlx_602 : x_602.toInt = (f_438 x_601.toNatClampNeg).toInt := congrArg Int32.toInt ex_602
    refine lv_bipush (v := 24) hx hb dX12_feed_67 (by decide) ?_
    refine lv_bipush (v := 8) hx hb dX12_feed_69 (by decide) ?_
    refine lv_iload hx hb dX12_feed_71 (lv_at hl 0 rfl) ?_
    refine lv_iconst (v := 4) hx hb dX12_feed_73 (by decide) ?_
    refine lv_irem hx hb dX12_feed_74 (by decide) ?_
    refine lv_topi (fun x_603 ex_603 => ?_)
    refine lv_imul hx hb dX12_feed_75 ?_
    refine lv_topi (fun x_604 ex_604 => ?_)
    refine lv_isub hx hb dX12_feed_76 ?_
    refine lv_topi (fun x_605 ex_605 => ?_)
    refine lv_iushr hx hb dX12_feed_77 rfl ?_
    refine lv_topi (fun x_606 ex_606 => ?_)
    refine lv_sipush (v := 255) hx hb dX12_feed_78 (by decide) ?_
    refine lv_iand hx hb dX12_feed_81 ?_
    refine lv_topi (fun x_607 ex_607 => ?_)
    refine va_iast hx hb hK hP hD hS 1 0 rfl rfl (gi_in gx_600 (by decide)) dX12_feed_82 (fun H locs hP hD hS => ?_)
    have hP : va_P (dC, dI) vwCl [(h0, .inr (12, fsMM mi mr)), ((mr 13), .inl (km_tape, 1600, .inl (upd f_598 (x_600 : Int32).toNatClampNeg x_607))), (q_432, .inl (k_433, 5, .inl f_438))] H := hP
    have hD : va_D A [(h0, .inr (12, fsMM mi mr)), ((mr 13), .inl (km_tape, 1600, .inl (upd f_598 (x_600 : Int32).toNatClampNeg x_607))), (q_432, .inl (k_433, 5, .inl f_438))] := hD
    generalize upd f_598 (x_600 : Int32).toNatClampNeg x_607 = f_608 at hP hD
    refine lv_iinc (v := 17) (lv' := [(7, .int 17), (6, .ref q_432), (0, .ref h0), (1, .int p1), (2, .int p2), (3, .int p3), (4, .int p4), (5, .int p5)]) hx hb dX12_feed_83 hl (k := 0) rfl (by decide) (by decide) rfl (fun ls hl => ?_)
    refine lv_goto (tgt := 42) hx hb dX12_feed_86 (by decide) ?_
    refine lv_iload hx hb dX12_feed_42 (lv_at hl 0 rfl) ?_
    refine lv_bipush (v := 20) hx hb dX12_feed_44 (by decide) ?_
    refine lv_icmp_ge (tgt := 89) hx hb dX12_feed_46 (by decide) (fun c_609 => absurd c_609 (gi_no_le (gi_c 20 20 (by decide)) (gi_c 17 17 (by decide)) (by decide))) (fun c_609 => ?_)
    refine lv_aload_n hx hb dX12_feed_49 rfl (lv_at hl 2 rfl) ?_
    refine va_get (D := (dC, dI)) (ci := 12) (v := .ref (mr 13)) (C := RX12) (T := TX12) (N := 57) hx hb hts (fun w h => List.mem_cons_of_mem _ (jnGB_X12 w h)) hown hK hP 0 rfl rfl 25 (by decide) (hts _ (List.mem_cons_of_mem _ mGB_24)) (fun _ h9 => h9) rfl dX12_feed_50 ?_
    refine lv_aload_n hx hb dX12_feed_53 rfl (lv_at hl 2 rfl) ?_
    refine va_get (D := (dC, dI)) (ci := 12) (v := .int (mi 26)) (C := RX12) (T := TX12) (N := 57) hx hb hts (fun w h => List.mem_cons_of_mem _ (jnGB_X12 w h)) hown hK hP 0 rfl rfl 26 (by decide) (hts _ (List.mem_cons_of_mem _ mGB_43)) (fun _ h9 => h9) rfl dX12_feed_54 ?_
    refine lv_iload hx hb dX12_feed_57 (lv_at hl 0 rfl) ?_
    refine lv_iadd hx hb dX12_feed_59 ?_
    refine lv_topi (fun x_610 ex_610 => ?_)
    have gx_610 : gi x_610 17 1597 := gi_add ex_610 g_431 (gi_c 17 17 (by decide)) (by decide)
    refine lv_aload hx hb dX12_feed_60 (lv_at hl 1 rfl) ?_
    refine lv_iload hx hb dX12_feed_62 (lv_at hl 0 rfl) ?_
    refine lv_iconst (v := 4) hx hb dX12_feed_64 (by decide) ?_
    refine lv_idiv hx hb dX12_feed_65 (by decide) ?_
    refine lv_topi (fun x_611 ex_611 => ?_)
    have gx_611 : gi x_611 4 4 := gi_div ex_611 (gi_c 17 17 (by decide)) (gi_c 4 4 (by decide)) (by decide)
    refine va_iald hx hb hK hP 2 1 rfl rfl (gi_in gx_611 (by decide)) dX12_feed_66 ?_
    refine lv_topi (fun x_612 ex_612 => ?_)
    have hlx_612 : x_612.toInt = (f_438 x_611.toNatClampNeg).toInt := congrArg Int32.toInt ex_612
    refine lv_bipush (v := 24) hx hb dX12_feed_67 (by decide) ?_
    refine lv_bipush (v := 8) hx hb dX12_feed_69 (by decide) ?_
    refine lv_iload hx hb dX12_feed_71 (lv_at hl 0 rfl) ?_
    refine lv_iconst (v := 4) hx hb dX12_feed_73 (by decide) ?_
    refine lv_irem hx hb dX12_feed_74 (by decide) ?_
    refine lv_topi (fun x_613 ex_613 => ?_)
    refine lv_imul hx hb dX12_feed_75 ?_
    refine lv_topi (fun x_614 ex_614 => ?_)
    refine lv_isub hx hb dX12_feed_76 ?_
    refine lv_topi (fun x_615 ex_615 => ?_)
    refine lv_iushr hx hb dX12_feed_77 rfl ?_
    refine lv_topi (fun x_616 ex_616 => ?_)
    refine lv_sipush (v := 255) hx hb dX12_feed_78 (by decide) ?_
    refine lv_iand hx hb dX12_feed_81 ?_
    refine lv_topi (fun x_617 ex_617 => ?_)
    refine va_iast hx hb hK hP hD hS 1 0 rfl rfl (gi_in gx_610 (by decide)) dX12_feed_82 (fun H locs hP hD hS => ?_)
    have hP : va_P (dC, dI) vwCl [(h0, .inr (12, fsMM mi mr)), ((mr 13), .inl (km_tape, 1600, .inl (upd f_608 (x_610 : Int32).toNatClampNeg x_617))), (q_432, .inl (k_433, 5, .inl f_438))] H := hP
    have hD : va_D A [(h0, .inr (12, fsMM mi mr)), ((mr 13), .inl (km_tape, 1600, .inl (upd f_608 (x_610 : Int32).toNatClampNeg x_617))), (q_432, .inl (k_433, 5, .inl f_438))] := hD
    generalize upd f_608 (x_610 : Int32).toNatClampNeg x_617 = f_618 at hP hD
    refine lv_iinc (v := 18) (lv' := [(7, .int 18), (6, .ref q_432), (0, .ref h0), (1, .int p1), (2, .int p2), (3, .int p3), (4, .int p4), (5, .int p5)]) hx hb dX12_feed_83 hl (k := 0) rfl (by decide) (by decide) rfl (fun ls hl => ?_)
    refine lv_goto (tgt := 42) hx hb dX12_feed_86 (by decide) ?_
    refine lv_iload hx hb dX12_feed_42 (lv_at hl 0 rfl) ?_
    refine lv_bipush (v := 20) hx hb dX12_feed_44 (by decide) ?_
    refine lv_icmp_ge (tgt := 89) hx hb dX12_feed_46 (by decide) (fun c_619 => absurd c_619 (gi_no_le (gi_c 20 20 (by decide)) (gi_c 18 18 (by decide)) (by decide))) (fun c_619 => ?_)
    refine lv_aload_n hx hb dX12_feed_49 rfl (lv_at hl 2 rfl) ?_
    refine va_get (D := (dC, dI)) (ci := 12) (v := .ref (mr 13)) (C := RX12) (T := TX12) (N := 57) hx hb hts (fun w h => List.mem_cons_of_mem _ (jnGB_X12 w h)) hown hK hP 0 rfl rfl 25 (by decide) (hts _ (List.mem_cons_of_mem _ mGB_24)) (fun _ h9 => h9) rfl dX12_feed_50 ?_
    refine lv_aload_n hx hb dX12_feed_53 rfl (lv_at hl 2 rfl) ?_
    refine va_get (D := (dC, dI)) (ci := 12) (v := .int (mi 26)) (C := RX12) (T := TX12) (N := 57) hx hb hts (fun w h => List.mem_cons_of_mem _ (jnGB_X12 w h)) hown hK hP 0 rfl rfl 26 (by decide) (hts _ (List.mem_cons_of_mem _ mGB_43)) (fun _ h9 => h9) rfl dX12_feed_54 ?_
    refine lv_iload hx hb dX12_feed_57 (lv_at hl 0 rfl) ?_
    refine lv_iadd hx hb dX12_feed_59 ?_
    refine lv_topi (fun x_620 ex_620 => ?_)
    have gx_620 : gi x_620 18 1598 := gi_add ex_620 g_431 (gi_c 18 18 (by decide)) (by decide)
    refine lv_aload hx hb dX12_feed_60 (lv_at hl 1 rfl) ?_
    refine lv_iload hx hb dX12_feed_62 (lv_at hl 0 rfl) ?_
    refine lv_iconst (v := 4) hx hb dX12_feed_64 (by decide) ?_
    refine lv_idiv hx hb dX12_feed_65 (by decide) ?_
    refine lv_topi (fun x_621 ex_621 => ?_)
    have gx_621 : gi x_621 4 4 := gi_div ex_621 (gi_c 18 18 (by decide)) (gi_c 4 4 (by decide)) (by decide)
    refine va_iald hx hb hK hP 2 1 rfl rfl (gi_in gx_621 (by decide)) dX12_feed_66 ?_
    refine lv_topi (fun x_622 ex_622 => ?_)
    have hlx_622 : x_622.toInt = (f_438 x_621.toNatClampNeg).toInt := congrArg Int32.toInt ex_622
    refine lv_bipush (v := 24) hx hb dX12_feed_67 (by decide) ?_
    refine lv_bipush (v := 8) hx hb dX12_feed_69 (by decide) ?_
    refine lv_iload hx hb dX12_feed_71 (lv_at hl 0 rfl) ?_
    refine lv_iconst (v := 4) hx hb dX12_feed_73 (by decide) ?_
    refine lv_irem hx hb dX12_feed_74 (by decide) ?_
    refine lv_topi (fun x_623 ex_623 => ?_)
    refine lv_imul hx hb dX12_feed_75 ?_
    refine lv_topi (fun x_624 ex_624 => ?_)
    refine lv_isub hx hb dX12_feed_76 ?_
    refine lv_topi (fun x_625 ex_625 => ?_)
    refine lv_iushr hx hb dX12_feed_77 rfl ?_
    refine lv_topi (fun x_626 ex_626 => ?_)
    refine lv_sipush (v := 255) hx hb dX12_feed_78 (by decide) ?_
    refine lv_iand hx hb dX12_feed_81 ?_
    refine lv_topi (fun x_627 ex_627 => ?_)
    refine va_iast hx hb hK hP hD hS 1 0 rfl rfl (gi_in gx_620 (by decide)) dX12_feed_82 (fun H locs hP hD hS => ?_)
    have hP : va_P (dC, dI) vwCl [(h0, .inr (12, fsMM mi mr)), ((mr 13), .inl (km_tape, 1600, .inl (upd f_618 (x_620 : Int32).toNatClampNeg x_627))), (q_432, .inl (k_433, 5, .inl f_438))] H := hP
    have hD : va_D A [(h0, .inr (12, fsMM mi mr)), ((mr 13), .inl (km_tape, 1600, .inl (upd f_618 (x_620 : Int32).toNatClampNeg x_627))), (q_432, .inl (k_433, 5, .inl f_438))] := hD
    generalize upd f_618 (x_620 : Int32).toNatClampNeg x_627 = f_628 at hP hD
    refine lv_iinc (v := 19) (lv' := [(7, .int 19), (6, .ref q_432), (0, .ref h0), (1, .int p1), (2, .int p2), (3, .int p3), (4, .int p4), (5, .int p5)]) hx hb dX12_feed_83 hl (k := 0) rfl (by decide) (by decide) rfl (fun ls hl => ?_)
    refine lv_goto (tgt := 42) hx hb dX12_feed_86 (by decide) ?_
    refine lv_iload hx hb dX12_feed_42 (lv_at hl 0 rfl) ?_
    refine lv_bipush (v := 20) hx hb dX12_feed_44 (by decide) ?_
    refine lv_icmp_ge (tgt := 89) hx hb dX12_feed_46 (by decide) (fun c_629 => absurd c_629 (gi_no_le (gi_c 20 20 (by decide)) (gi_c 19 19 (by decide)) (by decide))) (fun c_629 => ?_)
    refine lv_aload_n hx hb dX12_feed_49 rfl (lv_at hl 2 rfl) ?_
    refine va_get (D := (dC, dI)) (ci := 12) (v := .ref (mr 13)) (C := RX12) (T := TX12) (N := 57) hx hb hts (fun w h => List.mem_cons_of_mem _ (jnGB_X12 w h)) hown hK hP 0 rfl rfl 25 (by decide) (hts _ (List.mem_cons_of_mem _ mGB_24)) (fun _ h9 => h9) rfl dX12_feed_50 ?_
    refine lv_aload_n hx hb dX12_feed_53 rfl (lv_at hl 2 rfl) ?_
    refine va_get (D := (dC, dI)) (ci := 12) (v := .int (mi 26)) (C := RX12) (T := TX12) (N := 57) hx hb hts (fun w h => List.mem_cons_of_mem _ (jnGB_X12 w h)) hown hK hP 0 rfl rfl 26 (by decide) (hts _ (List.mem_cons_of_mem _ mGB_43)) (fun _ h9 => h9) rfl dX12_feed_54 ?_
    refine lv_iload hx hb dX12_feed_57 (lv_at hl 0 rfl) ?_
    refine lv_iadd hx hb dX12_feed_59 ?_
    refine lv_topi (fun x_630 ex_630 => ?_)
    have gx_630 : gi x_630 19 1599 := gi_add ex_630 g_431 (gi_c 19 19 (by decide)) (by decide)
    refine lv_aload hx hb dX12_feed_60 (lv_at hl 1 rfl) ?_
    refine lv_iload hx hb dX12_feed_62 (lv_at hl 0 rfl) ?_
    refine lv_iconst (v := 4) hx hb dX12_feed_64 (by decide) ?_
    refine lv_idiv hx hb dX12_feed_65 (by decide) ?_
    refine lv_topi (fun x_631 ex_631 => ?_)
    have gx_631 : gi x_631 4 4 := gi_div ex_631 (gi_c 19 19 (by decide)) (gi_c 4 4 (by decide)) (by decide)
    refine va_iald hx hb hK hP 2 1 rfl rfl (gi_in gx_631 (by decide)) dX12_feed_66 ?_
    refine lv_topi (fun x_632 ex_632 => ?_)
    have hlx_632 : x_632.toInt = (f_438 x_631.toNatClampNeg).toInt := congrArg Int32.toInt ex_632
    refine lv_bipush (v := 24) hx hb dX12_feed_67 (by decide) ?_
    refine lv_bipush (v := 8) hx hb dX12_feed_69 (by decide) ?_
    refine lv_iload hx hb dX12_feed_71 (lv_at hl 0 rfl) ?_
    refine lv_iconst (v := 4) hx hb dX12_feed_73 (by decide) ?_
    refine lv_irem hx hb dX12_feed_74 (by decide) ?_
    refine lv_topi (fun x_633 ex_633 => ?_)
    refine lv_imul hx hb dX12_feed_75 ?_
    refine lv_topi (fun x_634 ex_634 => ?_)
    refine lv_isub hx hb dX12_feed_76 ?_
    refine lv_topi (fun x_635 ex_635 => ?_)
    refine lv_iushr hx hb dX12_feed_77 rfl ?_
    refine lv_topi (fun x_636 ex_636 => ?_)
    refine lv_sipush (v := 255) hx hb dX12_feed_78 (by decide) ?_
    refine lv_iand hx hb dX12_feed_81 ?_
    refine lv_topi (fun x_637 ex_637 => ?_)
    refine va_iast hx hb hK hP hD hS 1 0 rfl rfl (gi_in gx_630 (by decide)) dX12_feed_82 (fun H locs hP hD hS => ?_)
    have hP : va_P (dC, dI) vwCl [(h0, .inr (12, fsMM mi mr)), ((mr 13), .inl (km_tape, 1600, .inl (upd f_628 (x_630 : Int32).toNatClampNeg x_637))), (q_432, .inl (k_433, 5, .inl f_438))] H := hP
    have hD : va_D A [(h0, .inr (12, fsMM mi mr)), ((mr 13), .inl (km_tape, 1600, .inl (upd f_628 (x_630 : Int32).toNatClampNeg x_637))), (q_432, .inl (k_433, 5, .inl f_438))] := hD
    generalize upd f_628 (x_630 : Int32).toNatClampNeg x_637 = f_638 at hP hD
    refine lv_iinc (v := 20) (lv' := [(7, .int 20), (6, .ref q_432), (0, .ref h0), (1, .int p1), (2, .int p2), (3, .int p3), (4, .int p4), (5, .int p5)]) hx hb dX12_feed_83 hl (k := 0) rfl (by decide) (by decide) rfl (fun ls hl => ?_)
    refine lv_goto (tgt := 42) hx hb dX12_feed_86 (by decide) ?_
    refine lv_iload hx hb dX12_feed_42 (lv_at hl 0 rfl) ?_
    refine lv_bipush (v := 20) hx hb dX12_feed_44 (by decide) ?_
    refine lv_icmp_ge (tgt := 89) hx hb dX12_feed_46 (by decide) (fun c_639 => ?_) (fun c_639 => absurd (gi_is_le (gi_c 20 20 (by decide)) (gi_c 20 20 (by decide)) (by decide)) c_639)
    refine lv_aload_n hx hb dX12_feed_89 rfl (lv_at hl 2 rfl) ?_
    refine lv_dup hx hb dX12_feed_90 rfl ?_
    refine va_get (D := (dC, dI)) (ci := 12) (v := .int (mi 26)) (C := RX12) (T := TX12) (N := 57) hx hb hts (fun w h => List.mem_cons_of_mem _ (jnGB_X12 w h)) hown hK hP 0 rfl rfl 26 (by decide) (hts _ (List.mem_cons_of_mem _ mGB_43)) (fun _ h9 => h9) rfl dX12_feed_91 ?_
    refine lv_bipush (v := 20) hx hb dX12_feed_94 (by decide) ?_
    refine lv_iadd hx hb dX12_feed_96 ?_
    refine lv_topi (fun x_640 ex_640 => ?_)
    have gx_640 : gi x_640 20 1600 := gi_add ex_640 g_431 (gi_c 20 20 (by decide)) (by decide)
    refine va_put (D := (dC, dI)) (ci := 12) (v := .int x_640) (ty := .int) (C := RX12) (T := TX12) (N := 57) hx hb hts (fun w h => List.mem_cons_of_mem _ (jnGB_X12 w h)) tyX12 tyX12_ok nmX12 hown hK hP hD hS 0 rfl rfl 26 (by decide) (hts _ (List.mem_cons_of_mem _ mGB_43)) (fun _ h9 => h9) rfl (by decide +kernel) rfl rfl (Nat.le_of_ble_eq_true rfl) dX12_feed_97 (fun H locs hP hD hS => ?_)
    have hP : va_P (dC, dI) vwCl [(h0, .inr (12, fsMM (upd mi 26 x_640) mr)), ((mr 13), .inl (km_tape, 1600, .inl f_638)), (q_432, .inl (k_433, 5, .inl f_438))] H := hP
    have hD : va_D A [(h0, .inr (12, fsMM (upd mi 26 x_640) mr)), ((mr 13), .inl (km_tape, 1600, .inl f_638)), (q_432, .inl (k_433, 5, .inl f_438))] := hD
    refine lv_aload_n hx hb dX12_feed_100 rfl (lv_at hl 2 rfl) ?_
    refine va_get (D := (dC, dI)) (ci := 12) (v := .int x_640) (C := RX12) (T := TX12) (N := 57) hx hb hts (fun w h => List.mem_cons_of_mem _ (jnGB_X12 w h)) hown hK hP 0 rfl rfl 26 (by decide) (hts _ (List.mem_cons_of_mem _ mGB_43)) (fun _ h9 => h9) rfl dX12_feed_101 ?_
    have hP := hP.sub (ws' := [(h0, .inr (12, fsMM (upd mi 26 x_640) mr)), ((mr 13), .inl (km_tape, 1600, .inl f_638))]) [0, 1] rfl
    have hD := hD.sub (ws' := [(h0, .inr (12, fsMM (upd mi 26 x_640) mr)), ((mr 13), .inl (km_tape, 1600, .inl f_638))]) [0, 1] (by decide) rfl
    refine W.widen (k := 1) (n := 5) (Nat.le_of_ble_eq_true rfl) (Nat.le_of_ble_eq_true rfl) ?_
    exact W.iret (v := x_640) hx hb hr (fun t ht hW => ⟨⟨x_640, (), rfl, ⟨(gi_w gx_640 (by decide)), (show ((1580 < (mi 26).toInt ∧ x_640.toInt = -1) ∨ ((mi 26).toInt ≤ 1580 ∧ x_640.toInt = (mi 26).toInt + 20)) from by have qgx_640 := gx_640.1; have rgx_640 := gx_640.2; have igx_640 : x_640.toInt = (mi 26).toInt + 20 := (by have hc20 : (20 : Int32).toInt = 20 := (by decide); have h9 := gi_addI ex_640 (by have h1 := g_431.1; have h2 := (gi_c 20 20 (by decide)).1; have h3 := g_431.2; have h4 := (gi_c 20 20 (by decide)).2; omega) (by have h1 := g_431.1; have h2 := (gi_c 20 20 (by decide)).1; have h3 := g_431.2; have h4 := (gi_c 20 20 (by decide)).2; omega); rw [hc20] at h9; exact h9); have qgmi_26 := g_431.1; have rgmi_26 := g_431.2; omega)⟩, x_640, f_638, (gi_w gx_640 (by decide)), (show ((1580 < (mi 26).toInt ∧ x_640.toInt = (mi 26).toInt) ∨ ((mi 26).toInt ≤ 1580 ∧ x_640.toInt = (mi 26).toInt + 20)) from by have qgx_640 := gx_640.1; have rgx_640 := gx_640.2; have igx_640 : x_640.toInt = (mi 26).toInt + 20 := (by have hc20 : (20 : Int32).toInt = 20 := (by decide); have h9 := gi_addI ex_640 (by have h1 := g_431.1; have h2 := (gi_c 20 20 (by decide)).1; have h3 := g_431.2; have h4 := (gi_c 20 20 (by decide)).2; omega) (by have h1 := g_431.1; have h2 := (gi_c 20 20 (by decide)).1; have h3 := g_431.2; have h4 := (gi_c 20 20 (by decide)).2; omega); rw [hc20] at h9; exact h9); have qgmi_26 := g_431.1; have rgmi_26 := g_431.2; omega), by rw [ht]; exact hP, hD⟩, hS.F ht⟩) hS.2.2 dX12_feed_104
  · have hc_641 : 1580 < (mi 26).toInt := by have h9 := Int32.lt_iff_toInt_lt.mp (Int32.not_le.mp c_429); rw [show (1580 : Int32).toInt = 1580 from by decide] at h9; exact h9
    have g_642 : gi (mi 26) 1581 1600 := gi_lt_r (Int32.not_le.mp c_429) (gi_c 1580 1580 (by decide)) gmi_26 (by decide)
    refine lv_iconst (v := (-1)) hx hb dX12_feed_10 (by decide) ?_
    refine W.widen (k := 1) (n := 5) (Nat.le_of_ble_eq_true rfl) (Nat.le_of_ble_eq_true rfl) ?_
    exact W.iret (v := (-1)) hx hb hr (fun t ht hW => ⟨⟨(-1), (), rfl, ⟨(gi_w (gi_c (-1) (-1) (by decide)) (by decide)), (show ((1580 < (mi 26).toInt ∧ ((-1) : Int32).toInt = -1) ∨ ((mi 26).toInt ≤ 1580 ∧ ((-1) : Int32).toInt = (mi 26).toInt + 20)) from by have km1 : ((-1) : Int32).toInt = (-1) := (by decide); have qgmi_26 := g_642.1; have rgmi_26 := g_642.2; omega)⟩, (mi 26), fm_tape, (gi_w g_642 (by decide)), (show ((1580 < (mi 26).toInt ∧ (mi 26).toInt = (mi 26).toInt) ∨ ((mi 26).toInt ≤ 1580 ∧ (mi 26).toInt = (mi 26).toInt + 20)) from by have qgmi_26 := g_642.1; have rgmi_26 := g_642.2; omega), by rw [ht]; exact hP, hD⟩, hS.F ht⟩) hS.2.2 dX12_feed_11
