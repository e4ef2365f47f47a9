theorem dX12_dueSpanOf_0 : decode cX12_dueSpanOf 0 = .ok (.bipush 29, 2) := by decide +kernel
theorem dX12_dueSpanOf_2 : decode cX12_dueSpanOf 2 = .ok (.aload_n 0, 1) := by decide +kernel
theorem dX12_dueSpanOf_3 : decode cX12_dueSpanOf 3 = .ok (.iload_n 1, 1) := by decide +kernel
theorem dX12_dueSpanOf_4 : decode cX12_dueSpanOf 4 = .ok (.invokevirtual 438, 3) := by decide +kernel
theorem dX12_dueSpanOf_7 : decode cX12_dueSpanOf 7 = .ok (.imul, 1) := by decide +kernel
theorem dX12_dueSpanOf_8 : decode cX12_dueSpanOf 8 = .ok (.aload_n 0, 1) := by decide +kernel
theorem dX12_dueSpanOf_9 : decode cX12_dueSpanOf 9 = .ok (.iload_n 1, 1) := by decide +kernel
theorem dX12_dueSpanOf_10 : decode cX12_dueSpanOf 10 = .ok (.invokevirtual 441, 3) := by decide +kernel
theorem dX12_dueSpanOf_13 : decode cX12_dueSpanOf 13 = .ok (.iadd, 1) := by decide +kernel
theorem dX12_dueSpanOf_14 : decode cX12_dueSpanOf 14 = .ok (.istore_n 3, 1) := by decide +kernel
theorem dX12_dueSpanOf_15 : decode cX12_dueSpanOf 15 = .ok (.aload_n 0, 1) := by decide +kernel
theorem dX12_dueSpanOf_16 : decode cX12_dueSpanOf 16 = .ok (.iload_n 1, 1) := by decide +kernel
theorem dX12_dueSpanOf_17 : decode cX12_dueSpanOf 17 = .ok (.invokevirtual 438, 3) := by decide +kernel
theorem dX12_dueSpanOf_20 : decode cX12_dueSpanOf 20 = .ok (.bipush 30, 2) := by decide +kernel
theorem dX12_dueSpanOf_22 : decode cX12_dueSpanOf 22 = .ok (.iadd, 1) := by decide +kernel
theorem dX12_dueSpanOf_23 : decode cX12_dueSpanOf 23 = .ok (.istore 4, 2) := by decide +kernel
theorem dX12_dueSpanOf_25 : decode cX12_dueSpanOf 25 = .ok (.iconst 0, 1) := by decide +kernel
theorem dX12_dueSpanOf_26 : decode cX12_dueSpanOf 26 = .ok (.istore 5, 2) := by decide +kernel
theorem dX12_dueSpanOf_28 : decode cX12_dueSpanOf 28 = .ok (.iload 5, 2) := by decide +kernel
theorem dX12_dueSpanOf_30 : decode cX12_dueSpanOf 30 = .ok (.iload 4, 2) := by decide +kernel
theorem dX12_dueSpanOf_32 : decode cX12_dueSpanOf 32 = .ok (.if_icmp .gt 40, 3) := by decide +kernel
theorem dX12_dueSpanOf_35 : decode cX12_dueSpanOf 35 = .ok (.iload_n 3, 1) := by decide +kernel
theorem dX12_dueSpanOf_36 : decode cX12_dueSpanOf 36 = .ok (.iload_n 2, 1) := by decide +kernel
theorem dX12_dueSpanOf_37 : decode cX12_dueSpanOf 37 = .ok (.ifCond .ne 8, 3) := by decide +kernel
theorem dX12_dueSpanOf_40 : decode cX12_dueSpanOf 40 = .ok (.iload 5, 2) := by decide +kernel
theorem dX12_dueSpanOf_42 : decode cX12_dueSpanOf 42 = .ok (.goto 8, 3) := by decide +kernel
theorem dX12_dueSpanOf_45 : decode cX12_dueSpanOf 45 = .ok (.iload 4, 2) := by decide +kernel
theorem dX12_dueSpanOf_47 : decode cX12_dueSpanOf 47 = .ok (.iload 5, 2) := by decide +kernel
theorem dX12_dueSpanOf_49 : decode cX12_dueSpanOf 49 = .ok (.isub, 1) := by decide +kernel
theorem dX12_dueSpanOf_50 : decode cX12_dueSpanOf 50 = .ok (.iadd, 1) := by decide +kernel
theorem dX12_dueSpanOf_51 : decode cX12_dueSpanOf 51 = .ok (.istore 6, 2) := by decide +kernel
theorem dX12_dueSpanOf_53 : decode cX12_dueSpanOf 53 = .ok (.aload_n 0, 1) := by decide +kernel
theorem dX12_dueSpanOf_54 : decode cX12_dueSpanOf 54 = .ok (.iload_n 1, 1) := by decide +kernel
theorem dX12_dueSpanOf_55 : decode cX12_dueSpanOf 55 = .ok (.iload 6, 2) := by decide +kernel
theorem dX12_dueSpanOf_57 : decode cX12_dueSpanOf 57 = .ok (.invokevirtual 444, 3) := by decide +kernel
theorem dX12_dueSpanOf_60 : decode cX12_dueSpanOf 60 = .ok (.ifCond .le 6, 3) := by decide +kernel
theorem dX12_dueSpanOf_63 : decode cX12_dueSpanOf 63 = .ok (.iload 6, 2) := by decide +kernel
theorem dX12_dueSpanOf_65 : decode cX12_dueSpanOf 65 = .ok (.ireturn, 1) := by decide +kernel
theorem dX12_dueSpanOf_66 : decode cX12_dueSpanOf 66 = .ok (.iinc 5 1, 3) := by decide +kernel
theorem dX12_dueSpanOf_69 : decode cX12_dueSpanOf 69 = .ok (.goto (-41), 3) := by decide +kernel
theorem dX12_dueSpanOf_72 : decode cX12_dueSpanOf 72 = .ok (.bipush (-2), 2) := by decide +kernel
theorem dX12_dueSpanOf_74 : decode cX12_dueSpanOf 74 = .ok (.ireturn, 1) := by decide +kernel
set_option maxHeartbeats 4000000 in
set_option maxRecDepth 100000 in
theorem lp_sX12_dueSpanOf {p : Program} {l : Launch} {e : Env} {R : Room} {s : State} {m : MethodId} {args : Array Value} {below : List Frame} {meth : Method} {c : Code} {Q : State → Prop} {A : Nat → Prop} {cells slots : Nat} {dC : Nat → ClassId} {dI : Nat → Nat → Nat} (h0 : Nat) (mi : Nat → Int32) (mr : Nat → Nat) (km_must : ClassId) (fm_must : Nat → Int32) (km_least : ClassId) (fm_least : Nat → Int32) (km_pin : ClassId) (fm_pin : Nat → Int32) (km_ways : ClassId) (fm_ways : Nat → Int32) (km_deedMonth : ClassId) (fm_deedMonth : Nat → Int32) (km_deedLong : ClassId) (fm_deedLong : Nat → Int32) (km_deedKind : ClassId) (fm_deedKind : Nat → Int32) (km_deedDay : ClassId) (fm_deedDay : Nat → Int32) (p1 : Int32) (p2 : Int32) (gmi_0 : gi (mi 0) 0 24) (gmi_1 : gi (mi 1) 0 5) (gmi_2 : gi (mi 2) 0 5) (gmi_4 : gi (mi 4) 0 1) (gmi_7 : gi (mi 7) 0 6) (gmi_10 : gi (mi 10) 0 24) (gmi_17 : gi (mi 17) 0 8) (gmi_23 : gi (mi 23) 0 300) (gmi_24 : gi (mi 24) 0 1) (gmi_26 : gi (mi 26) 0 1600) (gmi_29 : gi (mi 29) 0 1600) (gmi_30 : gi (mi 30) 0 1600) (gmi_33 : gi (mi 33) 0 1) (gmi_37 : gi (mi 37) 0 1) (gmi_41 : gi (mi 41) 0 24) (gmi_50 : gi (mi 50) 0 1) (gmi_51 : gi (mi 51) 0 1) (gmi_56 : gi (mi 56) 0 80) (gfm_deedMonth : ga fm_deedMonth 8 0 23) (gfm_deedLong : ga fm_deedLong 8 0 600) (gp1 : gi p1 0 7) (hdd : ∀ j : Nat, j < 8 → ((fm_deedKind j).toInt ≠ 0 ∨ (fm_deedMonth j).toInt + (fm_deedLong j).toInt ≤ 23)) (hx : p.tables.exec = Jvm.exec) (hb : c.code = cX12_dueSpanOf) (hml : c.maxLocals = 7) (hown : s.vm.findClass RX12 = some m.cls) (hts : ∀ w ∈ ((.code yX12_dueSpanOf cX12_dueSpanOf 7 (some .int) :: wsGB) : List Cond), w.before args s = true) (hK : va_K (dC, dI) vwCl [(km_must, .int), (km_least, .int), (km_pin, .int), (km_ways, .int), (km_deedMonth, .int), (km_deedLong, .int), (km_deedKind, .int), (km_deedDay, .int)] s) (hA : ∀ q : Nat, s.heap.size ≤ q → A q) (hRf : 7 ≤ R.frames) (hRl : 170 ≤ R.locals) (hRc : cells ≤ R.cells) (hRs : slots ≤ R.slots) (kr74 : ∀ (v : Int32) (z3 : Nat → Int32) (z4 : Nat → Int32) (H : Heap) (locs : List Loc) (ls : Array Slot), gi v (-2) (-2) → va_P (dC, dI) vwCl [(h0, .inr (12, fsMM mi mr)), ((mr 14), .inl (km_must, 25, .inl fm_must)), ((mr 15), .inl (km_least, 25, .inl fm_least)), ((mr 16), .inl (km_pin, 25, .inl z3)), ((mr 17), .inl (km_ways, 6875, .inl z4)), ((mr 8), .inl (km_deedMonth, 8, .inl fm_deedMonth)), ((mr 10), .inl (km_deedLong, 8, .inl fm_deedLong)), ((mr 11), .inl (km_deedKind, 8, .inl fm_deedKind)), ((mr 9), .inl (km_deedDay, 8, .inl fm_deedDay))] H → va_D A [(h0, .inr (12, fsMM mi mr)), ((mr 14), .inl (km_must, 25, .inl fm_must)), ((mr 15), .inl (km_least, 25, .inl fm_least)), ((mr 16), .inl (km_pin, 25, .inl z3)), ((mr 17), .inl (km_ways, 6875, .inl z4)), ((mr 8), .inl (km_deedMonth, 8, .inl fm_deedMonth)), ((mr 10), .inl (km_deedLong, 8, .inl fm_deedLong)), ((mr 11), .inl (km_deedKind, 8, .inl fm_deedKind)), ((mr 9), .inl (km_deedDay, 8, .inl fm_deedDay))] → va_S A s.heap H locs → lv_has ls 7 [] → W p l e R s m args below meth c H locs cells slots Q (F0 m 74 ls [.int v])) (kr65 : ∀ (v : Int32) (z3 : Nat → Int32) (z4 : Nat → Int32) (H : Heap) (locs : List Loc) (ls : Array Slot), gi v 0 1320 → va_P (dC, dI) vwCl [(h0, .inr (12, fsMM mi mr)), ((mr 14), .inl (km_must, 25, .inl fm_must)), ((mr 15), .inl (km_least, 25, .inl fm_least)), ((mr 16), .inl (km_pin, 25, .inl z3)), ((mr 17), .inl (km_ways, 6875, .inl z4)), ((mr 8), .inl (km_deedMonth, 8, .inl fm_deedMonth)), ((mr 10), .inl (km_deedLong, 8, .inl fm_deedLong)), ((mr 11), .inl (km_deedKind, 8, .inl fm_deedKind)), ((mr 9), .inl (km_deedDay, 8, .inl fm_deedDay))] H → va_D A [(h0, .inr (12, fsMM mi mr)), ((mr 14), .inl (km_must, 25, .inl fm_must)), ((mr 15), .inl (km_least, 25, .inl fm_least)), ((mr 16), .inl (km_pin, 25, .inl z3)), ((mr 17), .inl (km_ways, 6875, .inl z4)), ((mr 8), .inl (km_deedMonth, 8, .inl fm_deedMonth)), ((mr 10), .inl (km_deedLong, 8, .inl fm_deedLong)), ((mr 11), .inl (km_deedKind, 8, .inl fm_deedKind)), ((mr 9), .inl (km_deedDay, 8, .inl fm_deedDay))] → va_S A s.heap H locs → lv_has ls 7 [] → W p l e R s m args below meth c H locs cells slots Q (F0 m 65 ls [.int v])) : ∀ z : Nat, (∀ (v3 : Int32) (v4 : Int32) (v5 : Int32) (z3 : Nat → Int32) (z4 : Nat → Int32) (H : Heap) (locs : List Loc) (ls : Array Slot), gi v3 0 1267 → gi v4 30 53 → gi v5 0 72 → 145 + (-2) * v5.toInt < (z : Int) → va_P (dC, dI) vwCl [(h0, .inr (12, fsMM mi mr)), ((mr 14), .inl (km_must, 25, .inl fm_must)), ((mr 15), .inl (km_least, 25, .inl fm_least)), ((mr 16), .inl (km_pin, 25, .inl z3)), ((mr 17), .inl (km_ways, 6875, .inl z4)), ((mr 8), .inl (km_deedMonth, 8, .inl fm_deedMonth)), ((mr 10), .inl (km_deedLong, 8, .inl fm_deedLong)), ((mr 11), .inl (km_deedKind, 8, .inl fm_deedKind)), ((mr 9), .inl (km_deedDay, 8, .inl fm_deedDay))] H → va_D A [(h0, .inr (12, fsMM mi mr)), ((mr 14), .inl (km_must, 25, .inl fm_must)), ((mr 15), .inl (km_least, 25, .inl fm_least)), ((mr 16), .inl (km_pin, 25, .inl z3)), ((mr 17), .inl (km_ways, 6875, .inl z4)), ((mr 8), .inl (km_deedMonth, 8, .inl fm_deedMonth)), ((mr 10), .inl (km_deedLong, 8, .inl fm_deedLong)), ((mr 11), .inl (km_deedKind, 8, .inl fm_deedKind)), ((mr 9), .inl (km_deedDay, 8, .inl fm_deedDay))] → va_S A s.heap H locs → lv_has ls 7 [(0, .ref h0), (1, .int p1), (2, .int p2), (3, .int v3), (4, .int v4), (5, .int v5)] → W p l e R s m args below meth c H locs cells slots Q (F0 m 28 ls [])) := by
  intro z
  induction z with
  | zero =>
    intro v3 v4 v5 z3 z4 H locs ls gv3 gv4 gv5 hmu hP hD hS hl
    exact absurd hmu (by have hv51 := gv5.1; have hv52 := gv5.2; omega)
  | succ z ih =>
      intro v3 v4 v5 z3 z4 H locs ls gv3 gv4 gv5 hmu hP hD hS hl
      refine lv_iload hx hb dX12_dueSpanOf_28 (lv_at hl 5 rfl) ?_
      refine lv_iload hx hb dX12_dueSpanOf_30 (lv_at hl 4 rfl) ?_
      refine lv_icmp_gt (tgt := 72) hx hb dX12_dueSpanOf_32 (by decide) (fun c_551 => ?_) (fun c_551 => ?_)
      · have g_552 : gi v5 31 72 := gi_lt_r c_551 gv4 gv5 (by decide)
        refine lv_bipush (v := (-2)) hx hb dX12_dueSpanOf_72 (by decide) ?_
        exact kr74 (-2) z3 z4 _ _ _ (gi_c (-2) (-2) (by decide)) hP hD hS (lv_sub hl [] rfl)
      · have g_553 : gi v5 0 53 := gi_le_l (Int32.not_lt.mp c_551) gv5 gv4
        refine lv_iload_n hx hb dX12_dueSpanOf_35 rfl (lv_at hl 3 rfl) ?_
        refine lv_iload_n hx hb dX12_dueSpanOf_36 rfl (lv_at hl 2 rfl) ?_
        refine lv_if_ne (tgt := 45) hx hb dX12_dueSpanOf_37 (by decide) (fun c_554 => ?_) (fun c_554 => ?_)
        · refine lv_iload hx hb dX12_dueSpanOf_45 (lv_at hl 4 rfl) ?_
          refine lv_iload hx hb dX12_dueSpanOf_47 (lv_at hl 5 rfl) ?_
          refine lv_isub hx hb dX12_dueSpanOf_49 ?_
          refine lv_topi (fun x_555 ex_555 => ?_)
          have gx_555 : gi x_555 0 53 := gi_subrel ex_555 (Int32.le_iff_toInt_le.mp (Int32.not_lt.mp c_551)) gv4 g_553 (by decide)
          refine lv_iadd hx hb dX12_dueSpanOf_50 ?_
          refine lv_topi (fun x_556 ex_556 => ?_)
          have gx_556 : gi x_556 0 1320 := gi_add ex_556 gv3 gx_555 (by decide)
          refine lv_istore (lv' := [(6, .int x_556), (0, .ref h0), (1, .int p1), (2, .int p2), (3, .int v3), (4, .int v4), (5, .int v5)]) hx hb dX12_dueSpanOf_51 hl (by decide) rfl (fun ls hl => ?_)
          refine lv_aload_n hx hb dX12_dueSpanOf_53 rfl (lv_at hl 1 rfl) ?_
          refine lv_iload_n hx hb dX12_dueSpanOf_54 rfl (lv_at hl 2 rfl) ?_
          refine lv_iload hx hb dX12_dueSpanOf_55 (lv_at hl 0 rfl) ?_
          have hPc := hP.sub (ws' := [(h0, .inr (12, fsMM mi mr)), ((mr 14), .inl (km_must, 25, .inl fm_must)), ((mr 15), .inl (km_least, 25, .inl fm_least)), ((mr 16), .inl (km_pin, 25, .inl z3)), ((mr 17), .inl (km_ways, 6875, .inl z4)), ((mr 8), .inl (km_deedMonth, 8, .inl fm_deedMonth)), ((mr 10), .inl (km_deedLong, 8, .inl fm_deedLong)), ((mr 11), .inl (km_deedKind, 8, .inl fm_deedKind)), ((mr 9), .inl (km_deedDay, 8, .inl fm_deedDay))]) [0, 1, 2, 3, 4, 5, 6, 7, 8] rfl
          have hKc := hK.sub (tys' := [(km_must, .int), (km_least, .int), (km_pin, .int), (km_ways, .int), (km_deedMonth, .int), (km_deedLong, .int), (km_deedKind, .int), (km_deedDay, .int)]) [0, 1, 2, 3, 4, 5, 6, 7] rfl
          have hDc := hD.sub (ws' := [(h0, .inr (12, fsMM mi mr)), ((mr 14), .inl (km_must, 25, .inl fm_must)), ((mr 15), .inl (km_least, 25, .inl fm_least)), ((mr 16), .inl (km_pin, 25, .inl z3)), ((mr 17), .inl (km_ways, 6875, .inl z4)), ((mr 8), .inl (km_deedMonth, 8, .inl fm_deedMonth)), ((mr 10), .inl (km_deedLong, 8, .inl fm_deedLong)), ((mr 11), .inl (km_deedKind, 8, .inl fm_deedKind)), ((mr 9), .inl (km_deedDay, 8, .inl fm_deedDay))]) [0, 1, 2, 3, 4, 5, 6, 7, 8] (by decide) rfl
          have hFc := va_free (wc := [(h0, .inr (12, fsMM mi mr)), ((mr 14), .inl (km_must, 25, .inl fm_must)), ((mr 15), .inl (km_least, 25, .inl fm_least)), ((mr 16), .inl (km_pin, 25, .inl z3)), ((mr 17), .inl (km_ways, 6875, .inl z4)), ((mr 8), .inl (km_deedMonth, 8, .inl fm_deedMonth)), ((mr 10), .inl (km_deedLong, 8, .inl fm_deedLong)), ((mr 11), .inl (km_deedKind, 8, .inl fm_deedKind)), ((mr 9), .inl (km_deedDay, 8, .inl fm_deedDay))]) hD hS hA [0, 1, 2, 3, 4, 5, 6, 7, 8] rfl
          refine va_calli (va_runV (As := [.int p1, .int x_556]) (rest := []) ⟨hx, hb, hml, hown, hts⟩ (sX12_duesOn l dC dI H.size h0 mi mr km_must fm_must km_least fm_least km_pin z3 km_ways z4 km_deedMonth fm_deedMonth km_deedLong fm_deedLong km_deedKind fm_deedKind km_deedDay fm_deedDay p1 x_556 gmi_0 gmi_1 gmi_2 gmi_4 gmi_7 gmi_10 gmi_17 gmi_23 gmi_24 gmi_26 gmi_29 gmi_30 gmi_33 gmi_37 gmi_41 gmi_50 gmi_51 gmi_56 gfm_deedMonth gfm_deedLong gp1 hdd) (cwV 2 hts (gz_gV mGB_484 mGB_485 mGB_486 mGB_1 mGB_487 goodGB) rfl rfl rfl (by decide +kernel) ⟨Nat.le_trans (Nat.le_of_ble_eq_true rfl) hRf, Nat.le_trans (Nat.le_of_ble_eq_true rfl) hRl⟩) ⟨fun a U g mk q => by obtain ⟨q0, q1, qP, qK, qD⟩ := q; exact ⟨q0, q1, qP, va_K.moved (u := U) (U := U.calling g mk a) (Vm.Alike.refl U.vm) qK, qD⟩, va_recv hKc hPc (ci := 12) (q0 := 0) rfl rfl, fun U hU hW => ⟨rfl, by rw [hU], by rw [hU]; exact hPc, va_K.moved hW.alike hKc, hDc.weaken (fun _ _ _ _ => trivial)⟩⟩ rfl rfl hl.1 rfl (lv_room (Nat.le_of_ble_eq_true rfl)) dX12_dueSpanOf_57 ⟨hRc, hRs⟩) hS (fun q _ h => hFc q h) hFc (fun r_557 u t H1 locs ht hvm hw hB hz1 hk1 hS => ?_)
          obtain ⟨f_558, f_559, hP1, hD1⟩ := hB
          rw [ht] at hP1
          obtain ⟨hP, hD⟩ := va_join (wr := []) (w1 := [(h0, .inr (12, fsMM mi mr)), ((mr 14), .inl (km_must, 25, .inl fm_must)), ((mr 15), .inl (km_least, 25, .inl fm_least)), ((mr 16), .inl (km_pin, 25, .inl f_558)), ((mr 17), .inl (km_ways, 6875, .inl f_559)), ((mr 8), .inl (km_deedMonth, 8, .inl fm_deedMonth)), ((mr 10), .inl (km_deedLong, 8, .inl fm_deedLong)), ((mr 11), .inl (km_deedKind, 8, .inl fm_deedKind)), ((mr 9), .inl (km_deedDay, 8, .inl fm_deedDay))]) hP hD [0, 1, 2, 3, 4, 5, 6, 7, 8] [] rfl rfl (by decide) (by decide) hk1 hFc hP1 hD1
          have hP := hP.sub (ws' := [(h0, .inr (12, fsMM mi mr)), ((mr 14), .inl (km_must, 25, .inl fm_must)), ((mr 15), .inl (km_least, 25, .inl fm_least)), ((mr 16), .inl (km_pin, 25, .inl f_558)), ((mr 17), .inl (km_ways, 6875, .inl f_559)), ((mr 8), .inl (km_deedMonth, 8, .inl fm_deedMonth)), ((mr 10), .inl (km_deedLong, 8, .inl fm_deedLong)), ((mr 11), .inl (km_deedKind, 8, .inl fm_deedKind)), ((mr 9), .inl (km_deedDay, 8, .inl fm_deedDay))]) [0, 1, 2, 3, 4, 5, 6, 7, 8] rfl
          have hD := hD.sub (ws' := [(h0, .inr (12, fsMM mi mr)), ((mr 14), .inl (km_must, 25, .inl fm_must)), ((mr 15), .inl (km_least, 25, .inl fm_least)), ((mr 16), .inl (km_pin, 25, .inl f_558)), ((mr 17), .inl (km_ways, 6875, .inl f_559)), ((mr 8), .inl (km_deedMonth, 8, .inl fm_deedMonth)), ((mr 10), .inl (km_deedLong, 8, .inl fm_deedLong)), ((mr 11), .inl (km_deedKind, 8, .inl fm_deedKind)), ((mr 9), .inl (km_deedDay, 8, .inl fm_deedDay))]) [0, 1, 2, 3, 4, 5, 6, 7, 8] (by decide) rfl
          generalize H1 = H at hP hS ⊢
          refine lv_if_le (tgt := 66) hx hb dX12_dueSpanOf_60 (by decide) (fun c_560 => ?_) (fun c_560 => ?_)
          · have g_561 : gi r_557 (-2147483648) 0 := gi_le_l c_560 (gi_any r_557) (gi_c 0 0 (by decide))
            obtain ⟨x_562, ex_562⟩ : ∃ y : Int32, y = v5 + 1 := ⟨_, rfl⟩
            have gx_562 : gi x_562 1 54 := gi_add ex_562 g_553 (gi_c 1 1 (by decide)) (by decide)
            refine lv_iinc (v := x_562) (lv' := [(5, .int x_562), (6, .int x_556), (0, .ref h0), (1, .int p1), (2, .int p2), (3, .int v3), (4, .int v4)]) hx hb dX12_dueSpanOf_66 hl (k := 6) rfl (by rw [ex_562]; rfl) (by decide) rfl (fun ls hl => ?_)
            refine lv_goto (tgt := 28) hx hb dX12_dueSpanOf_69 (by decide) ?_
            exact ih v3 v4 x_562 f_558 f_559 _ _ _ gv3 gv4 (gi_w gx_562 (by decide)) (by have av5 := gv5.1; have bv5 := gv5.2; have qgx_562 := gx_562.1; have rgx_562 := gx_562.2; have igx_562 : x_562.toInt = v5.toInt + 1 := (by have hc1 : (1 : Int32).toInt = 1 := (by decide); have h9 := gi_addI ex_562 (by have h1 := g_553.1; have h2 := (gi_c 1 1 (by decide)).1; have h3 := g_553.2; have h4 := (gi_c 1 1 (by decide)).2; omega) (by have h1 := g_553.1; have h2 := (gi_c 1 1 (by decide)).1; have h3 := g_553.2; have h4 := (gi_c 1 1 (by decide)).2; omega); rw [hc1] at h9; exact h9); have qgv5 := g_553.1; have rgv5 := g_553.2; omega) hP hD hS (lv_sub hl [2, 3, 4, 5, 6, 0] rfl)
          · have g_563 : gi r_557 1 2147483647 := gi_lt_r (Int32.not_le.mp c_560) (gi_c 0 0 (by decide)) (gi_any r_557) (by decide)
            refine lv_iload hx hb dX12_dueSpanOf_63 (lv_at hl 0 rfl) ?_
            exact kr65 x_556 f_558 f_559 _ _ _ gx_556 hP hD hS (lv_sub hl [] rfl)
        · have g_564 : gi p2 0 0 := gi_eq c_554 (gi_c 0 0 (by decide))
          refine lv_iload hx hb dX12_dueSpanOf_40 (lv_at hl 5 rfl) ?_
          refine lv_goto (tgt := 50) hx hb dX12_dueSpanOf_42 (by decide) ?_
          refine lv_iadd hx hb dX12_dueSpanOf_50 ?_
          refine lv_topi (fun x_565 ex_565 => ?_)
          have gx_565 : gi x_565 0 1320 := gi_add ex_565 gv3 g_553 (by decide)
          refine lv_istore (lv' := [(6, .int x_565), (0, .ref h0), (1, .int p1), (2, .int p2), (3, .int v3), (4, .int v4), (5, .int v5)]) hx hb dX12_dueSpanOf_51 hl (by decide) rfl (fun ls hl => ?_)
          refine lv_aload_n hx hb dX12_dueSpanOf_53 rfl (lv_at hl 1 rfl) ?_
          refine lv_iload_n hx hb dX12_dueSpanOf_54 rfl (lv_at hl 2 rfl) ?_
          refine lv_iload hx hb dX12_dueSpanOf_55 (lv_at hl 0 rfl) ?_
          have hPc := hP.sub (ws' := [(h0, .inr (12, fsMM mi mr)), ((mr 14), .inl (km_must, 25, .inl fm_must)), ((mr 15), .inl (km_least, 25, .inl fm_least)), ((mr 16), .inl (km_pin, 25, .inl z3)), ((mr 17), .inl (km_ways, 6875, .inl z4)), ((mr 8), .inl (km_deedMonth, 8, .inl fm_deedMonth)), ((mr 10), .inl (km_deedLong, 8, .inl fm_deedLong)), ((mr 11), .inl (km_deedKind, 8, .inl fm_deedKind)), ((mr 9), .inl (km_deedDay, 8, .inl fm_deedDay))]) [0, 1, 2, 3, 4, 5, 6, 7, 8] rfl
          have hKc := hK.sub (tys' := [(km_must, .int), (km_least, .int), (km_pin, .int), (km_ways, .int), (km_deedMonth, .int), (km_deedLong, .int), (km_deedKind, .int), (km_deedDay, .int)]) [0, 1, 2, 3, 4, 5, 6, 7] rfl
          have hDc := hD.sub (ws' := [(h0, .inr (12, fsMM mi mr)), ((mr 14), .inl (km_must, 25, .inl fm_must)), ((mr 15), .inl (km_least, 25, .inl fm_least)), ((mr 16), .inl (km_pin, 25, .inl z3)), ((mr 17), .inl (km_ways, 6875, .inl z4)), ((mr 8), .inl (km_deedMonth, 8, .inl fm_deedMonth)), ((mr 10), .inl (km_deedLong, 8, .inl fm_deedLong)), ((mr 11), .inl (km_deedKind, 8, .inl fm_deedKind)), ((mr 9), .inl (km_deedDay, 8, .inl fm_deedDay))]) [0, 1, 2, 3, 4, 5, 6, 7, 8] (by decide) rfl
          have hFc := va_free (wc := [(h0, .inr (12, fsMM mi mr)), ((mr 14), .inl (km_must, 25, .inl fm_must)), ((mr 15), .inl (km_least, 25, .inl fm_least)), ((mr 16), .inl (km_pin, 25, .inl z3)), ((mr 17), .inl (km_ways, 6875, .inl z4)), ((mr 8), .inl (km_deedMonth, 8, .inl fm_deedMonth)), ((mr 10), .inl (km_deedLong, 8, .inl fm_deedLong)), ((mr 11), .inl (km_deedKind, 8, .inl fm_deedKind)), ((mr 9), .inl (km_deedDay, 8, .inl fm_deedDay))]) hD hS hA [0, 1, 2, 3, 4, 5, 6, 7, 8] rfl
          refine va_calli (va_runV (As := [.int p1, .int x_565]) (rest := []) ⟨hx, hb, hml, hown, hts⟩ (sX12_duesOn l dC dI H.size h0 mi mr km_must fm_must km_least fm_least km_pin z3 km_ways z4 km_deedMonth fm_deedMonth km_deedLong fm_deedLong km_deedKind fm_deedKind km_deedDay fm_deedDay p1 x_565 gmi_0 gmi_1 gmi_2 gmi_4 gmi_7 gmi_10 gmi_17 gmi_23 gmi_24 gmi_26 gmi_29 gmi_30 gmi_33 gmi_37 gmi_41 gmi_50 gmi_51 gmi_56 gfm_deedMonth gfm_deedLong gp1 hdd) (cwV 2 hts (gz_gV mGB_484 mGB_485 mGB_486 mGB_1 mGB_487 goodGB) rfl rfl rfl (by decide +kernel) ⟨Nat.le_trans (Nat.le_of_ble_eq_true rfl) hRf, Nat.le_trans (Nat.le_of_ble_eq_true rfl) hRl⟩) ⟨fun a U g mk q => by obtain ⟨q0, q1, qP, qK, qD⟩ := q; exact ⟨q0, q1, qP, va_K.moved (u := U) (U := U.calling g mk a) (Vm.Alike.refl U.vm) qK, qD⟩, va_recv hKc hPc (ci := 12) (q0 := 0) rfl rfl, fun U hU hW => ⟨rfl, by rw [hU], by rw [hU]; exact hPc, va_K.moved hW.alike hKc, hDc.weaken (fun _ _ _ _ => trivial)⟩⟩ rfl rfl hl.1 rfl (lv_room (Nat.le_of_ble_eq_true rfl)) dX12_dueSpanOf_57 ⟨hRc, hRs⟩) hS (fun q _ h => hFc q h) hFc (fun r_566 u t H1 locs ht hvm hw hB hz1 hk1 hS => ?_)
          obtain ⟨f_567, f_568, hP1, hD1⟩ := hB
          rw [ht] at hP1
          obtain ⟨hP, hD⟩ := va_join (wr := []) (w1 := [(h0, .inr (12, fsMM mi mr)), ((mr 14), .inl (km_must, 25, .inl fm_must)), ((mr 15), .inl (km_least, 25, .inl fm_least)), ((mr 16), .inl (km_pin, 25, .inl f_567)), ((mr 17), .inl (km_ways, 6875, .inl f_568)), ((mr 8), .inl (km_deedMonth, 8, .inl fm_deedMonth)), ((mr 10), .inl (km_deedLong, 8, .inl fm_deedLong)), ((mr 11), .inl (km_deedKind, 8, .inl fm_deedKind)), ((mr 9), .inl (km_deedDay, 8, .inl fm_deedDay))]) hP hD [0, 1, 2, 3, 4, 5, 6, 7, 8] [] rfl rfl (by decide) (by decide) hk1 hFc hP1 hD1
          have hP := hP.sub (ws' := [(h0, .inr (12, fsMM mi mr)), ((mr 14), .inl (km_must, 25, .inl fm_must)), ((mr 15), .inl (km_least, 25, .inl fm_least)), ((mr 16), .inl (km_pin, 25, .inl f_567)), ((mr 17), .inl (km_ways, 6875, .inl f_568)), ((mr 8), .inl (km_deedMonth, 8, .inl fm_deedMonth)), ((mr 10), .inl (km_deedLong, 8, .inl fm_deedLong)), ((mr 11), .inl (km_deedKind, 8, .inl fm_deedKind)), ((mr 9), .inl (km_deedDay, 8, .inl fm_deedDay))]) [0, 1, 2, 3, 4, 5, 6, 7, 8] rfl
          have hD := hD.sub (ws' := [(h0, .inr (12, fsMM mi mr)), ((mr 14), .inl (km_must, 25, .inl fm_must)), ((mr 15), .inl (km_least, 25, .inl fm_least)), ((mr 16), .inl (km_pin, 25, .inl f_567)), ((mr 17), .inl (km_ways, 6875, .inl f_568)), ((mr 8), .inl (km_deedMonth, 8, .inl fm_deedMonth)), ((mr 10), .inl (km_deedLong, 8, .inl fm_deedLong)), ((mr 11), .inl (km_deedKind, 8, .inl fm_deedKind)), ((mr 9), .inl (km_deedDay, 8, .inl fm_deedDay))]) [0, 1, 2, 3, 4, 5, 6, 7, 8] (by decide) rfl
          generalize H1 = H at hP hS ⊢
          refine lv_if_le (tgt := 66) hx hb dX12_dueSpanOf_60 (by decide) (fun c_569 => ?_) (fun c_569 => ?_)
          · have g_570 : gi r_566 (-2147483648) 0 := gi_le_l c_569 (gi_any r_566) (gi_c 0 0 (by decide))
            obtain ⟨x_571, ex_571⟩ : ∃ y : Int32, y = v5 + 1 := ⟨_, rfl⟩
            have gx_571 : gi x_571 1 54 := gi_add ex_571 g_553 (gi_c 1 1 (by decide)) (by decide)
            refine lv_iinc (v := x_571) (lv' := [(5, .int x_571), (6, .int x_565), (0, .ref h0), (1, .int p1), (2, .int p2), (3, .int v3), (4, .int v4)]) hx hb dX12_dueSpanOf_66 hl (k := 6) rfl (by rw [ex_571]; rfl) (by decide) rfl (fun ls hl => ?_)
            refine lv_goto (tgt := 28) hx hb dX12_dueSpanOf_69 (by decide) ?_
            exact ih v3 v4 x_571 f_567 f_568 _ _ _ gv3 gv4 (gi_w gx_571 (by decide)) (by have av5 := gv5.1; have bv5 := gv5.2; have qgx_571 := gx_571.1; have rgx_571 := gx_571.2; have igx_571 : x_571.toInt = v5.toInt + 1 := (by have hc1 : (1 : Int32).toInt = 1 := (by decide); have h9 := gi_addI ex_571 (by have h1 := g_553.1; have h2 := (gi_c 1 1 (by decide)).1; have h3 := g_553.2; have h4 := (gi_c 1 1 (by decide)).2; omega) (by have h1 := g_553.1; have h2 := (gi_c 1 1 (by decide)).1; have h3 := g_553.2; have h4 := (gi_c 1 1 (by decide)).2; omega); rw [hc1] at h9; exact h9); have qgv5 := g_553.1; have rgv5 := g_553.2; omega) hP hD hS (lv_sub hl [2, 3, 4, 5, 6, 0] rfl)
          · have g_572 : gi r_566 1 2147483647 := gi_lt_r (Int32.not_le.mp c_569) (gi_c 0 0 (by decide)) (gi_any r_566) (by decide)
            refine lv_iload hx hb dX12_dueSpanOf_63 (lv_at hl 0 rfl) ?_
            exact kr65 x_565 f_567 f_568 _ _ _ gx_565 hP hD hS (lv_sub hl [] rfl)
set_option maxHeartbeats 4000000 in
set_option maxRecDepth 100000 in
theorem sX12_dueSpanOf (l : Launch) (dC : Nat → ClassId) (dI : Nat → Nat → Nat) (sz : Nat) (h0 : Nat) (mi : Nat → Int32) (mr : Nat → Nat) (km_must : ClassId) (fm_must : Nat → Int32) (km_least : ClassId) (fm_least : Nat → Int32) (km_pin : ClassId) (fm_pin : Nat → Int32) (km_ways : ClassId) (fm_ways : Nat → Int32) (km_deedMonth : ClassId) (fm_deedMonth : Nat → Int32) (km_deedLong : ClassId) (fm_deedLong : Nat → Int32) (km_deedKind : ClassId) (fm_deedKind : Nat → Int32) (km_deedDay : ClassId) (fm_deedDay : Nat → Int32) (p1 : Int32) (p2 : Int32) (gmi_0 : gi (mi 0) 0 24) (gmi_1 : gi (mi 1) 0 5) (gmi_2 : gi (mi 2) 0 5) (gmi_4 : gi (mi 4) 0 1) (gmi_7 : gi (mi 7) 0 6) (gmi_10 : gi (mi 10) 0 24) (gmi_17 : gi (mi 17) 0 8) (gmi_23 : gi (mi 23) 0 300) (gmi_24 : gi (mi 24) 0 1) (gmi_26 : gi (mi 26) 0 1600) (gmi_29 : gi (mi 29) 0 1600) (gmi_30 : gi (mi 30) 0 1600) (gmi_33 : gi (mi 33) 0 1) (gmi_37 : gi (mi 37) 0 1) (gmi_41 : gi (mi 41) 0 24) (gmi_50 : gi (mi 50) 0 1) (gmi_51 : gi (mi 51) 0 1) (gmi_56 : gi (mi 56) 0 80) (gfm_deedMonth : ga fm_deedMonth 8 0 23) (gfm_deedLong : ga fm_deedLong 8 0 600) (gp1 : gi p1 0 7) (hdd : ∀ j : Nat, j < 8 → ((fm_deedKind j).toInt ≠ 0 ∨ (fm_deedMonth j).toInt + (fm_deedLong j).toInt ≤ 23)) : Met l yX12_dueSpanOf (.code yX12_dueSpanOf cX12_dueSpanOf 7 (some .int) :: wsGB) ({ frames := 7, cells := 0, slots := 0, locals := 170 }) (va_Pc [.ref h0, .int p1, .int p2] (fun U => U.heap.size = sz ∧ va_P (dC, dI) vwCl [(h0, .inr (12, fsMM mi mr)), ((mr 14), .inl (km_must, 25, .inl fm_must)), ((mr 15), .inl (km_least, 25, .inl fm_least)), ((mr 16), .inl (km_pin, 25, .inl fm_pin)), ((mr 17), .inl (km_ways, 6875, .inl fm_ways)), ((mr 8), .inl (km_deedMonth, 8, .inl fm_deedMonth)), ((mr 10), .inl (km_deedLong, 8, .inl fm_deedLong)), ((mr 11), .inl (km_deedKind, 8, .inl fm_deedKind)), ((mr 9), .inl (km_deedDay, 8, .inl fm_deedDay))] U.heap ∧ va_K (dC, dI) vwCl [(km_must, .int), (km_least, .int), (km_pin, .int), (km_ways, .int), (km_deedMonth, .int), (km_deedLong, .int), (km_deedKind, .int), (km_deedDay, .int)] U ∧ va_D (fun _ => True) [(h0, .inr (12, fsMM mi mr)), ((mr 14), .inl (km_must, 25, .inl fm_must)), ((mr 15), .inl (km_least, 25, .inl fm_least)), ((mr 16), .inl (km_pin, 25, .inl fm_pin)), ((mr 17), .inl (km_ways, 6875, .inl fm_ways)), ((mr 8), .inl (km_deedMonth, 8, .inl fm_deedMonth)), ((mr 10), .inl (km_deedLong, 8, .inl fm_deedLong)), ((mr 11), .inl (km_deedKind, 8, .inl fm_deedKind)), ((mr 9), .inl (km_deedDay, 8, .inl fm_deedDay))])) (va_Qi (fun (r : Int32) (u : Unit) => gi r (-2) 1320) (fun _ t => ∃ (z3 : Nat → Int32) (z4 : Nat → Int32), va_P (dC, dI) vwCl [(h0, .inr (12, fsMM mi mr)), ((mr 14), .inl (km_must, 25, .inl fm_must)), ((mr 15), .inl (km_least, 25, .inl fm_least)), ((mr 16), .inl (km_pin, 25, .inl z3)), ((mr 17), .inl (km_ways, 6875, .inl z4)), ((mr 8), .inl (km_deedMonth, 8, .inl fm_deedMonth)), ((mr 10), .inl (km_deedLong, 8, .inl fm_deedLong)), ((mr 11), .inl (km_deedKind, 8, .inl fm_deedKind)), ((mr 9), .inl (km_deedDay, 8, .inl fm_deedDay))] t.heap ∧ va_D (va_A [(h0, .inr (12, fsMM mi mr)), ((mr 14), .inl (km_must, 25, .inl fm_must)), ((mr 15), .inl (km_least, 25, .inl fm_least)), ((mr 16), .inl (km_pin, 25, .inl fm_pin)), ((mr 17), .inl (km_ways, 6875, .inl fm_ways)), ((mr 8), .inl (km_deedMonth, 8, .inl fm_deedMonth)), ((mr 10), .inl (km_deedLong, 8, .inl fm_deedLong)), ((mr 11), .inl (km_deedKind, 8, .inl fm_deedKind)), ((mr 9), .inl (km_deedDay, 8, .inl fm_deedDay))] sz) [(h0, .inr (12, fsMM mi mr)), ((mr 14), .inl (km_must, 25, .inl fm_must)), ((mr 15), .inl (km_least, 25, .inl fm_least)), ((mr 16), .inl (km_pin, 25, .inl z3)), ((mr 17), .inl (km_ways, 6875, .inl z4)), ((mr 8), .inl (km_deedMonth, 8, .inl fm_deedMonth)), ((mr 10), .inl (km_deedLong, 8, .inl fm_deedLong)), ((mr 11), .inl (km_deedKind, 8, .inl fm_deedKind)), ((mr 9), .inl (km_deedDay, 8, .inl fm_deedDay))]) (va_A [(h0, .inr (12, fsMM mi mr)), ((mr 14), .inl (km_must, 25, .inl fm_must)), ((mr 15), .inl (km_least, 25, .inl fm_least)), ((mr 16), .inl (km_pin, 25, .inl fm_pin)), ((mr 17), .inl (km_ways, 6875, .inl fm_ways)), ((mr 8), .inl (km_deedMonth, 8, .inl fm_deedMonth)), ((mr 10), .inl (km_deedLong, 8, .inl fm_deedLong)), ((mr 11), .inl (km_deedKind, 8, .inl fm_deedKind)), ((mr 9), .inl (km_deedDay, 8, .inl fm_deedDay))] sz)) 0 0 (va_A [(h0, .inr (12, fsMM mi mr)), ((mr 14), .inl (km_must, 25, .inl fm_must)), ((mr 15), .inl (km_least, 25, .inl fm_least)), ((mr 16), .inl (km_pin, 25, .inl fm_pin)), ((mr 17), .inl (km_ways, 6875, .inl fm_ways)), ((mr 8), .inl (km_deedMonth, 8, .inl fm_deedMonth)), ((mr 10), .inl (km_deedLong, 8, .inl fm_deedLong)), ((mr 11), .inl (km_deedKind, 8, .inl fm_deedKind)), ((mr 9), .inl (km_deedDay, 8, .inl fm_deedDay))] sz) := by
  refine Met.ofW (cc := cX12_dueSpanOf) (maxL := 7) (ret := (some .int)) (by decide) rfl ?_
  intro p e s m args below meth c s₁ B hml hv
  obtain ⟨rfl, hsz, hP, hK, hD0⟩ := hv
  have hx := B.exec
  have hb := B.bytes
  have hr := B.returns
  have hts := atoms_spec (ws := (.code yX12_dueSpanOf cX12_dueSpanOf 7 (some .int) :: wsGB)) B.pre
  have hown : s.vm.findClass RX12 = some m.cls := findClass_of_methodNamed B.named
  have hlocks := B.notSynchronized
  subst hsz
  have hD := hD0.self (sz := s.heap.size)
  generalize hAe : va_A [(h0, .inr (12, fsMM mi mr)), ((mr 14), .inl (km_must, 25, .inl fm_must)), ((mr 15), .inl (km_least, 25, .inl fm_least)), ((mr 16), .inl (km_pin, 25, .inl fm_pin)), ((mr 17), .inl (km_ways, 6875, .inl fm_ways)), ((mr 8), .inl (km_deedMonth, 8, .inl fm_deedMonth)), ((mr 10), .inl (km_deedLong, 8, .inl fm_deedLong)), ((mr 11), .inl (km_deedKind, 8, .inl fm_deedKind)), ((mr 9), .inl (km_deedDay, 8, .inl fm_deedDay))] s.heap.size = A at hD ⊢
  have hA : ∀ q : Nat, s.heap.size ≤ q → A q := fun q h => by rw [← hAe]; exact Or.inr h
  have hS : va_S A s.heap s.heap [] := va_S.rf
  have hl := lv_entry ([.ref h0, .int p1, .int p2]) (n := 7) (Nat.le_of_ble_eq_true rfl)
  rw [lg_entry_eq]
  generalize (lg_sl ([.ref h0, .int p1, .int p2]) ++ List.replicate (7 - (lg_sl ([.ref h0, .int p1, .int p2])).length) Slot.unset).toArray = ls at hl ⊢
  have hl : lv_has ls 7 [(0, .ref h0), (1, .int p1), (2, .int p2)] := hl
  refine lv_bipush (v := 29) hx hb dX12_dueSpanOf_0 (by decide) ?_
  refine lv_aload_n hx hb dX12_dueSpanOf_2 rfl (lv_at hl 0 rfl) ?_
  refine lv_iload_n hx hb dX12_dueSpanOf_3 rfl (lv_at hl 1 rfl) ?_
  have hPc := hP.sub (ws' := [(h0, .inr (12, fsMM mi mr)), ((mr 8), .inl (km_deedMonth, 8, .inl fm_deedMonth)), ((mr 10), .inl (km_deedLong, 8, .inl fm_deedLong)), ((mr 11), .inl (km_deedKind, 8, .inl fm_deedKind))]) [0, 5, 6, 7] rfl
  have hKc := hK.sub (tys' := [(km_deedMonth, .int), (km_deedLong, .int), (km_deedKind, .int)]) [4, 5, 6] rfl
  refine va_calli (va_runV (As := [.int p1]) (rest := [.int 29]) ⟨hx, hb, hml, hown, hts⟩ (sX12_monthOf l dC dI h0 mi mr km_deedMonth fm_deedMonth km_deedLong fm_deedLong km_deedKind fm_deedKind p1 gmi_0 gmi_1 gmi_2 gmi_4 gmi_7 gmi_10 gmi_17 gmi_23 gmi_24 gmi_26 gmi_29 gmi_30 gmi_33 gmi_37 gmi_41 gmi_50 gmi_51 gmi_56 gfm_deedMonth gfm_deedLong gp1 hdd) (cwV 1 hts (gz_gV mGB_459 mGB_460 mGB_461 mGB_1 mGB_462 goodGB) rfl rfl rfl (by decide +kernel) ⟨Nat.le_of_ble_eq_true rfl, Nat.le_of_ble_eq_true rfl⟩) ⟨fun a U g mk q => by obtain ⟨q0, qP, qK⟩ := q; exact ⟨q0, qP, va_K.moved (u := U) (U := U.calling g mk a) (Vm.Alike.refl U.vm) qK⟩, va_recv hKc hPc (ci := 12) (q0 := 0) rfl rfl, fun U hU hW => ⟨rfl, by rw [hU]; exact hPc, va_K.moved hW.alike hKc⟩⟩ rfl rfl hl.1 rfl (lv_room (Nat.le_of_ble_eq_true rfl)) dX12_dueSpanOf_4 ⟨Nat.zero_le _, Nat.zero_le _⟩) hS (fun q _ h => h.elim) (fun q h => h.elim) (fun r_573 u t H1 locs ht hvm hw hB hz1 hk1 hS => ?_)
  have hP := gz_keep hP hk1
  generalize H1 = H at hP hS ⊢
  have gr_573 : gi r_573 0 23 := hw
  refine lv_imul hx hb dX12_dueSpanOf_7 ?_
  refine lv_topi (fun x_574 ex_574 => ?_)
  have gx_574 : gi x_574 0 667 := gi_mul ex_574 (gi_c 29 29 (by decide)) gr_573 (by decide)
  refine lv_aload_n hx hb dX12_dueSpanOf_8 rfl (lv_at hl 0 rfl) ?_
  refine lv_iload_n hx hb dX12_dueSpanOf_9 rfl (lv_at hl 1 rfl) ?_
  have hPc := hP.sub (ws' := [(h0, .inr (12, fsMM mi mr)), ((mr 8), .inl (km_deedMonth, 8, .inl fm_deedMonth)), ((mr 10), .inl (km_deedLong, 8, .inl fm_deedLong)), ((mr 11), .inl (km_deedKind, 8, .inl fm_deedKind))]) [0, 5, 6, 7] rfl
  have hKc := hK.sub (tys' := [(km_deedMonth, .int), (km_deedLong, .int), (km_deedKind, .int)]) [4, 5, 6] rfl
  refine va_calli (va_runV (As := [.int p1]) (rest := [.int x_574]) ⟨hx, hb, hml, hown, hts⟩ (sX12_behindOf l dC dI h0 mi mr km_deedMonth fm_deedMonth km_deedLong fm_deedLong km_deedKind fm_deedKind p1 gmi_0 gmi_1 gmi_2 gmi_4 gmi_7 gmi_10 gmi_17 gmi_23 gmi_24 gmi_26 gmi_29 gmi_30 gmi_33 gmi_37 gmi_41 gmi_50 gmi_51 gmi_56 gfm_deedMonth gfm_deedLong gp1) (cwV 1 hts (gz_gV mGB_463 mGB_464 mGB_465 mGB_1 mGB_466 goodGB) rfl rfl rfl (by decide +kernel) ⟨Nat.le_of_ble_eq_true rfl, Nat.le_of_ble_eq_true rfl⟩) ⟨fun a U g mk q => by obtain ⟨q0, qP, qK⟩ := q; exact ⟨q0, qP, va_K.moved (u := U) (U := U.calling g mk a) (Vm.Alike.refl U.vm) qK⟩, va_recv hKc hPc (ci := 12) (q0 := 0) rfl rfl, fun U hU hW => ⟨rfl, by rw [hU]; exact hPc, va_K.moved hW.alike hKc⟩⟩ rfl rfl hl.1 rfl (lv_room (Nat.le_of_ble_eq_true rfl)) dX12_dueSpanOf_10 ⟨Nat.zero_le _, Nat.zero_le _⟩) hS (fun q _ h => h.elim) (fun q h => h.elim) (fun r_575 u t H1 locs ht hvm hw hB hz1 hk1 hS => ?_)
  have hP := gz_keep hP hk1
  generalize H1 = H at hP hS ⊢
  have gr_575 : gi r_575 0 600 := hw
  refine lv_iadd hx hb dX12_dueSpanOf_13 ?_
  refine lv_topi (fun x_576 ex_576 => ?_)
  have gx_576 : gi x_576 0 1267 := gi_add ex_576 gx_574 gr_575 (by decide)
  refine lv_istore_n (lv' := [(3, .int x_576), (0, .ref h0), (1, .int p1), (2, .int p2)]) hx hb dX12_dueSpanOf_14 rfl hl (by decide) rfl (fun ls hl => ?_)
  refine lv_aload_n hx hb dX12_dueSpanOf_15 rfl (lv_at hl 1 rfl) ?_
  refine lv_iload_n hx hb dX12_dueSpanOf_16 rfl (lv_at hl 2 rfl) ?_
  have hPc := hP.sub (ws' := [(h0, .inr (12, fsMM mi mr)), ((mr 8), .inl (km_deedMonth, 8, .inl fm_deedMonth)), ((mr 10), .inl (km_deedLong, 8, .inl fm_deedLong)), ((mr 11), .inl (km_deedKind, 8, .inl fm_deedKind))]) [0, 5, 6, 7] rfl
  have hKc := hK.sub (tys' := [(km_deedMonth, .int), (km_deedLong, .int), (km_deedKind, .int)]) [4, 5, 6] rfl
  refine va_calli (va_runV (As := [.int p1]) (rest := []) ⟨hx, hb, hml, hown, hts⟩ (sX12_monthOf l dC dI h0 mi mr km_deedMonth fm_deedMonth km_deedLong fm_deedLong km_deedKind fm_deedKind p1 gmi_0 gmi_1 gmi_2 gmi_4 gmi_7 gmi_10 gmi_17 gmi_23 gmi_24 gmi_26 gmi_29 gmi_30 gmi_33 gmi_37 gmi_41 gmi_50 gmi_51 gmi_56 gfm_deedMonth gfm_deedLong gp1 hdd) (cwV 1 hts (gz_gV mGB_459 mGB_460 mGB_461 mGB_1 mGB_462 goodGB) rfl rfl rfl (by decide +kernel) ⟨Nat.le_of_ble_eq_true rfl, Nat.le_of_ble_eq_true rfl⟩) ⟨fun a U g mk q => by obtain ⟨q0, qP, qK⟩ := q; exact ⟨q0, qP, va_K.moved (u := U) (U := U.calling g mk a) (Vm.Alike.refl U.vm) qK⟩, va_recv hKc hPc (ci := 12) (q0 := 0) rfl rfl, fun U hU hW => ⟨rfl, by rw [hU]; exact hPc, va_K.moved hW.alike hKc⟩⟩ rfl rfl hl.1 rfl (lv_room (Nat.le_of_ble_eq_true rfl)) dX12_dueSpanOf_17 ⟨Nat.zero_le _, Nat.zero_le _⟩) hS (fun q _ h => h.elim) (fun q h => h.elim) (fun r_577 u t H1 locs ht hvm hw hB hz1 hk1 hS => ?_)
  have hP := gz_keep hP hk1
  generalize H1 = H at hP hS ⊢
  have gr_577 : gi r_577 0 23 := hw
  refine lv_bipush (v := 30) hx hb dX12_dueSpanOf_20 (by decide) ?_
  refine lv_iadd hx hb dX12_dueSpanOf_22 ?_
  refine lv_topi (fun x_578 ex_578 => ?_)
  have gx_578 : gi x_578 30 53 := gi_add ex_578 gr_577 (gi_c 30 30 (by decide)) (by decide)
  refine lv_istore (lv' := [(4, .int x_578), (3, .int x_576), (0, .ref h0), (1, .int p1), (2, .int p2)]) hx hb dX12_dueSpanOf_23 hl (by decide) rfl (fun ls hl => ?_)
  refine lv_iconst (v := 0) hx hb dX12_dueSpanOf_25 (by decide) ?_
  refine lv_istore (lv' := [(5, .int 0), (4, .int x_578), (3, .int x_576), (0, .ref h0), (1, .int p1), (2, .int p2)]) hx hb dX12_dueSpanOf_26 hl (by decide) rfl (fun ls hl => ?_)
  refine (lp_sX12_dueSpanOf h0 mi mr km_must fm_must km_least fm_least km_pin fm_pin km_ways fm_ways km_deedMonth fm_deedMonth km_deedLong fm_deedLong km_deedKind fm_deedKind km_deedDay fm_deedDay p1 p2 gmi_0 gmi_1 gmi_2 gmi_4 gmi_7 gmi_10 gmi_17 gmi_23 gmi_24 gmi_26 gmi_29 gmi_30 gmi_33 gmi_37 gmi_41 gmi_50 gmi_51 gmi_56 gfm_deedMonth gfm_deedLong gp1 hdd hx hb hml hown hts hK hA (Nat.le_of_ble_eq_true rfl) (Nat.le_of_ble_eq_true rfl) (Nat.zero_le _) (Nat.zero_le _) (fun v z3 z4 H locs ls gv hP hD hS hl => ?_) (fun v z3 z4 H locs ls gv hP hD hS hl => ?_) 158) x_576 x_578 0 fm_pin fm_ways _ _ _ gx_576 gx_578 (gi_w (gi_c 0 0 (by decide)) (by decide)) (by have k0 : (0 : Int32).toInt = 0 := (by decide); omega) hP hD hS (lv_sub hl [3, 4, 5, 2, 1, 0] rfl)
  · skip
    exact W.iret (v := v) hx hb hr (fun t ht hW => ⟨⟨v, (), rfl, (gi_w gv (by decide)), z3, z4, by rw [ht]; exact hP, hD⟩, hS.F ht⟩) hS.2.2 dX12_dueSpanOf_74
  · skip
    exact W.iret (v := v) hx hb hr (fun t ht hW => ⟨⟨v, (), rfl, (gi_w gv (by decide)), z3, z4, by rw [ht]; exact hP, hD⟩, hS.F ht⟩) hS.2.2 dX12_dueSpanOf_65
