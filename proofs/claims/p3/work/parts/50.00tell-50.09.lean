theorem dX12_tell_0 : decode cX12_tell 0 = .ok (.aload_n 0, 1) := by decide +kernel
theorem dX12_tell_1 : decode cX12_tell 1 = .ok (.iload_n 1, 1) := by decide +kernel
theorem dX12_tell_2 : decode cX12_tell 2 = .ok (.invokevirtual 359, 3) := by decide +kernel
theorem dX12_tell_5 : decode cX12_tell 5 = .ok (.ifCond .ne 6, 3) := by decide +kernel
theorem dX12_tell_8 : decode cX12_tell 8 = .ok (.bipush (-2), 2) := by decide +kernel
theorem dX12_tell_10 : decode cX12_tell 10 = .ok (.ireturn, 1) := by decide +kernel
theorem dX12_tell_11 : decode cX12_tell 11 = .ok (.aload_n 0, 1) := by decide +kernel
theorem dX12_tell_12 : decode cX12_tell 12 = .ok (.iload_n 1, 1) := by decide +kernel
theorem dX12_tell_13 : decode cX12_tell 13 = .ok (.invokevirtual 382, 3) := by decide +kernel
theorem dX12_tell_16 : decode cX12_tell 16 = .ok (.aload_n 0, 1) := by decide +kernel
theorem dX12_tell_17 : decode cX12_tell 17 = .ok (.iconst 0, 1) := by decide +kernel
theorem dX12_tell_18 : decode cX12_tell 18 = .ok (.putfield 289, 3) := by decide +kernel
theorem dX12_tell_21 : decode cX12_tell 21 = .ok (.iconst 0, 1) := by decide +kernel
theorem dX12_tell_22 : decode cX12_tell 22 = .ok (.istore_n 2, 1) := by decide +kernel
theorem dX12_tell_23 : decode cX12_tell 23 = .ok (.iload_n 2, 1) := by decide +kernel
theorem dX12_tell_24 : decode cX12_tell 24 = .ok (.aload_n 0, 1) := by decide +kernel
theorem dX12_tell_25 : decode cX12_tell 25 = .ok (.getfield 117, 3) := by decide +kernel
theorem dX12_tell_28 : decode cX12_tell 28 = .ok (.if_icmp .ge 98, 3) := by decide +kernel
theorem dX12_tell_31 : decode cX12_tell 31 = .ok (.iload_n 2, 1) := by decide +kernel
theorem dX12_tell_32 : decode cX12_tell 32 = .ok (.ifCond .le 24, 3) := by decide +kernel
theorem dX12_tell_35 : decode cX12_tell 35 = .ok (.aload_n 0, 1) := by decide +kernel
theorem dX12_tell_36 : decode cX12_tell 36 = .ok (.getfield 96, 3) := by decide +kernel
theorem dX12_tell_39 : decode cX12_tell 39 = .ok (.aload_n 0, 1) := by decide +kernel
theorem dX12_tell_40 : decode cX12_tell 40 = .ok (.getfield 289, 3) := by decide +kernel
theorem dX12_tell_43 : decode cX12_tell 43 = .ok (.bipush 32, 2) := by decide +kernel
theorem dX12_tell_45 : decode cX12_tell 45 = .ok (.iastore, 1) := by decide +kernel
theorem dX12_tell_46 : decode cX12_tell 46 = .ok (.aload_n 0, 1) := by decide +kernel
theorem dX12_tell_47 : decode cX12_tell 47 = .ok (.dup, 1) := by decide +kernel
theorem dX12_tell_48 : decode cX12_tell 48 = .ok (.getfield 289, 3) := by decide +kernel
theorem dX12_tell_51 : decode cX12_tell 51 = .ok (.iconst 1, 1) := by decide +kernel
theorem dX12_tell_52 : decode cX12_tell 52 = .ok (.iadd, 1) := by decide +kernel
theorem dX12_tell_53 : decode cX12_tell 53 = .ok (.putfield 289, 3) := by decide +kernel
theorem dX12_tell_56 : decode cX12_tell 56 = .ok (.aload_n 0, 1) := by decide +kernel
theorem dX12_tell_57 : decode cX12_tell 57 = .ok (.getfield 96, 3) := by decide +kernel
theorem dX12_tell_60 : decode cX12_tell 60 = .ok (.aload_n 0, 1) := by decide +kernel
theorem dX12_tell_61 : decode cX12_tell 61 = .ok (.getfield 289, 3) := by decide +kernel
theorem dX12_tell_64 : decode cX12_tell 64 = .ok (.aload_n 0, 1) := by decide +kernel
theorem dX12_tell_65 : decode cX12_tell 65 = .ok (.iload_n 2, 1) := by decide +kernel
theorem dX12_tell_66 : decode cX12_tell 66 = .ok (.invokevirtual 404, 3) := by decide +kernel
theorem dX12_tell_69 : decode cX12_tell 69 = .ok (.bipush 30, 2) := by decide +kernel
theorem dX12_tell_71 : decode cX12_tell 71 = .ok (.if_icmp .ne 8, 3) := by decide +kernel
theorem dX12_tell_74 : decode cX12_tell 74 = .ok (.bipush 51, 2) := by decide +kernel
theorem dX12_tell_76 : decode cX12_tell 76 = .ok (.goto 5, 3) := by decide +kernel
theorem dX12_tell_79 : decode cX12_tell 79 = .ok (.bipush 50, 2) := by decide +kernel
theorem dX12_tell_81 : decode cX12_tell 81 = .ok (.iastore, 1) := by decide +kernel
theorem dX12_tell_82 : decode cX12_tell 82 = .ok (.aload_n 0, 1) := by decide +kernel
theorem dX12_tell_83 : decode cX12_tell 83 = .ok (.getfield 96, 3) := by decide +kernel
theorem dX12_tell_86 : decode cX12_tell 86 = .ok (.aload_n 0, 1) := by decide +kernel
theorem dX12_tell_87 : decode cX12_tell 87 = .ok (.getfield 289, 3) := by decide +kernel
theorem dX12_tell_90 : decode cX12_tell 90 = .ok (.iconst 1, 1) := by decide +kernel
theorem dX12_tell_91 : decode cX12_tell 91 = .ok (.iadd, 1) := by decide +kernel
theorem dX12_tell_92 : decode cX12_tell 92 = .ok (.aload_n 0, 1) := by decide +kernel
theorem dX12_tell_93 : decode cX12_tell 93 = .ok (.iload_n 2, 1) := by decide +kernel
theorem dX12_tell_94 : decode cX12_tell 94 = .ok (.invokevirtual 404, 3) := by decide +kernel
theorem dX12_tell_97 : decode cX12_tell 97 = .ok (.bipush 30, 2) := by decide +kernel
theorem dX12_tell_99 : decode cX12_tell 99 = .ok (.if_icmp .ne 8, 3) := by decide +kernel
theorem dX12_tell_102 : decode cX12_tell 102 = .ok (.bipush 48, 2) := by decide +kernel
theorem dX12_tell_104 : decode cX12_tell 104 = .ok (.goto 5, 3) := by decide +kernel
theorem dX12_tell_107 : decode cX12_tell 107 = .ok (.bipush 57, 2) := by decide +kernel
theorem dX12_tell_109 : decode cX12_tell 109 = .ok (.iastore, 1) := by decide +kernel
theorem dX12_tell_110 : decode cX12_tell 110 = .ok (.aload_n 0, 1) := by decide +kernel
theorem dX12_tell_111 : decode cX12_tell 111 = .ok (.dup, 1) := by decide +kernel
theorem dX12_tell_112 : decode cX12_tell 112 = .ok (.getfield 289, 3) := by decide +kernel
theorem dX12_tell_115 : decode cX12_tell 115 = .ok (.iconst 2, 1) := by decide +kernel
theorem dX12_tell_116 : decode cX12_tell 116 = .ok (.iadd, 1) := by decide +kernel
theorem dX12_tell_117 : decode cX12_tell 117 = .ok (.putfield 289, 3) := by decide +kernel
theorem dX12_tell_120 : decode cX12_tell 120 = .ok (.iinc 2 1, 3) := by decide +kernel
theorem dX12_tell_123 : decode cX12_tell 123 = .ok (.goto (-100), 3) := by decide +kernel
theorem dX12_tell_126 : decode cX12_tell 126 = .ok (.aload_n 0, 1) := by decide +kernel
theorem dX12_tell_127 : decode cX12_tell 127 = .ok (.getfield 289, 3) := by decide +kernel
theorem dX12_tell_130 : decode cX12_tell 130 = .ok (.ireturn, 1) := by decide +kernel
set_option maxHeartbeats 4000000 in
set_option maxRecDepth 100000 in
theorem lp_sX12_tell {p : Program} {l : Launch} {e : Env} {R : Room} {s : State} {m : MethodId} {args : Array Value} {below : List Frame} {meth : Method} {c : Code} {Q : State → Prop} {A : Nat → Prop} {cells slots : Nat} {dC : Nat → ClassId} {dI : Nat → Nat → Nat} (h0 : Nat) (mi : Nat → Int32) (mr : Nat → Nat) (km_must : ClassId) (fm_must : Nat → Int32) (km_least : ClassId) (fm_least : Nat → Int32) (km_pin : ClassId) (fm_pin : Nat → Int32) (km_ways : ClassId) (fm_ways : Nat → Int32) (km_verdict : ClassId) (fm_verdict : Nat → Int32) (km_row : ClassId) (fm_row : Nat → Int32) (km_struck : ClassId) (fm_struck : Nat → Int32) (km_reportKnown : ClassId) (fm_reportKnown : Nat → Int32) (km_reportPlace : ClassId) (fm_reportPlace : Nat → Int32) (km_reportMonth : ClassId) (fm_reportMonth : Nat → Int32) (km_reportDay : ClassId) (fm_reportDay : Nat → Int32) (km_reportKind : ClassId) (fm_reportKind : Nat → Int32) (km_trust : ClassId) (fm_trust : Nat → Int32) (km_letter : ClassId) (fm_letter : Nat → Int32) (km_official : ClassId) (fm_official : Nat → Int32) (km_out : ClassId) (fm_out : Nat → Int32) (p1 : Int32) (gmi_0 : gi (mi 0) 0 24) (gmi_1 : gi (mi 1) 0 5) (gmi_2 : gi (mi 2) 0 5) (gmi_4 : gi (mi 4) 0 1) (gmi_7 : gi (mi 7) 0 6) (gmi_10 : gi (mi 10) 0 24) (gmi_17 : gi (mi 17) 0 8) (gmi_23 : gi (mi 23) 0 300) (gmi_24 : gi (mi 24) 0 1) (gmi_26 : gi (mi 26) 0 1600) (gmi_29 : gi (mi 29) 0 1600) (gmi_30 : gi (mi 30) 0 1600) (gmi_33 : gi (mi 33) 0 1) (gmi_37 : gi (mi 37) 0 1) (gmi_41 : gi (mi 41) 0 24) (gmi_50 : gi (mi 50) 0 1) (gmi_51 : gi (mi 51) 0 1) (gmi_56 : gi (mi 56) 0 80) (gfm_row : ga fm_row 24 0 23) (gfm_struck : ga fm_struck 24 0 1) (gfm_reportKnown : ga fm_reportKnown 24 0 999) (gfm_reportPlace : ga fm_reportPlace 24 0 5) (gfm_reportMonth : ga fm_reportMonth 24 0 23) (gfm_reportDay : ga fm_reportDay 24 0 999) (hx : p.tables.exec = Jvm.exec) (hb : c.code = cX12_tell) (hml : c.maxLocals = 3) (hown : s.vm.findClass RX12 = some m.cls) (hts : ∀ w ∈ ((.code yX12_tell cX12_tell 3 (some .int) :: wsGB) : List Cond), w.before args s = true) (hK : va_K (dC, dI) vwCl [(km_must, .int), (km_least, .int), (km_pin, .int), (km_ways, .int), (km_verdict, .int), (km_row, .int), (km_struck, .boolean), (km_reportKnown, .int), (km_reportPlace, .int), (km_reportMonth, .int), (km_reportDay, .int), (km_reportKind, .int), (km_trust, .int), (km_letter, .int), (km_official, .int), (km_out, .int)] s) (hA : ∀ q : Nat, s.heap.size ≤ q → A q) (hRf : 6 ≤ R.frames) (hRl : 140 ≤ R.locals) (hRc : cells ≤ R.cells) (hRs : slots ≤ R.slots) (kr10 : ∀ (v : Int32) (w0_37 : Int32) (w0_41 : Int32) (w0_56 : Int32) (z1 : Nat → Int32) (z2 : Nat → Int32) (z3 : Nat → Int32) (z4 : Nat → Int32) (z5 : Nat → Int32) (z6 : Nat → Int32) (z15 : Nat → Int32) (z16 : Nat → Int32) (H : Heap) (locs : List Loc) (ls : Array Slot), gi v (-2) (-2) → gi w0_37 0 1 → gi w0_41 0 24 → gi w0_56 0 80 → ga z6 24 0 23 → va_P (dC, dI) vwCl [(h0, .inr (12, fsMM (upd (upd (upd mi 37 w0_37) 41 w0_41) 56 w0_56) mr)), ((mr 14), .inl (km_must, 25, .inl z1)), ((mr 15), .inl (km_least, 25, .inl z2)), ((mr 16), .inl (km_pin, 25, .inl z3)), ((mr 17), .inl (km_ways, 6875, .inl z4)), ((mr 18), .inl (km_verdict, 24, .inl z5)), ((mr 19), .inl (km_row, 24, .inl z6)), ((mr 4), .inl (km_struck, 24, .inl fm_struck)), ((mr 7), .inl (km_reportKnown, 24, .inl fm_reportKnown)), ((mr 2), .inl (km_reportPlace, 24, .inl fm_reportPlace)), ((mr 5), .inl (km_reportMonth, 24, .inl fm_reportMonth)), ((mr 6), .inl (km_reportDay, 24, .inl fm_reportDay)), ((mr 3), .inl (km_reportKind, 24, .inl fm_reportKind)), ((mr 0), .inl (km_trust, 6, .inl fm_trust)), ((mr 1), .inl (km_letter, 36, .inl fm_letter)), ((mr 20), .inl (km_official, 25, .inl z15)), ((mr 23), .inl (km_out, 80, .inl z16))] H → va_D A [(h0, .inr (12, fsMM (upd (upd (upd mi 37 w0_37) 41 w0_41) 56 w0_56) mr)), ((mr 14), .inl (km_must, 25, .inl z1)), ((mr 15), .inl (km_least, 25, .inl z2)), ((mr 16), .inl (km_pin, 25, .inl z3)), ((mr 17), .inl (km_ways, 6875, .inl z4)), ((mr 18), .inl (km_verdict, 24, .inl z5)), ((mr 19), .inl (km_row, 24, .inl z6)), ((mr 4), .inl (km_struck, 24, .inl fm_struck)), ((mr 7), .inl (km_reportKnown, 24, .inl fm_reportKnown)), ((mr 2), .inl (km_reportPlace, 24, .inl fm_reportPlace)), ((mr 5), .inl (km_reportMonth, 24, .inl fm_reportMonth)), ((mr 6), .inl (km_reportDay, 24, .inl fm_reportDay)), ((mr 3), .inl (km_reportKind, 24, .inl fm_reportKind)), ((mr 0), .inl (km_trust, 6, .inl fm_trust)), ((mr 1), .inl (km_letter, 36, .inl fm_letter)), ((mr 20), .inl (km_official, 25, .inl z15)), ((mr 23), .inl (km_out, 80, .inl z16))] → va_S A s.heap H locs → lv_has ls 3 [] → W p l e R s m args below meth c H locs cells slots Q (F0 m 10 ls [.int v])) (kr130 : ∀ (v : Int32) (w0_37 : Int32) (w0_41 : Int32) (w0_56 : Int32) (z1 : Nat → Int32) (z2 : Nat → Int32) (z3 : Nat → Int32) (z4 : Nat → Int32) (z5 : Nat → Int32) (z6 : Nat → Int32) (z15 : Nat → Int32) (z16 : Nat → Int32) (H : Heap) (locs : List Loc) (ls : Array Slot), gi v 0 80 → gi w0_37 0 1 → gi w0_41 0 24 → gi w0_56 0 80 → ga z6 24 0 23 → va_P (dC, dI) vwCl [(h0, .inr (12, fsMM (upd (upd (upd mi 37 w0_37) 41 w0_41) 56 w0_56) mr)), ((mr 14), .inl (km_must, 25, .inl z1)), ((mr 15), .inl (km_least, 25, .inl z2)), ((mr 16), .inl (km_pin, 25, .inl z3)), ((mr 17), .inl (km_ways, 6875, .inl z4)), ((mr 18), .inl (km_verdict, 24, .inl z5)), ((mr 19), .inl (km_row, 24, .inl z6)), ((mr 4), .inl (km_struck, 24, .inl fm_struck)), ((mr 7), .inl (km_reportKnown, 24, .inl fm_reportKnown)), ((mr 2), .inl (km_reportPlace, 24, .inl fm_reportPlace)), ((mr 5), .inl (km_reportMonth, 24, .inl fm_reportMonth)), ((mr 6), .inl (km_reportDay, 24, .inl fm_reportDay)), ((mr 3), .inl (km_reportKind, 24, .inl fm_reportKind)), ((mr 0), .inl (km_trust, 6, .inl fm_trust)), ((mr 1), .inl (km_letter, 36, .inl fm_letter)), ((mr 20), .inl (km_official, 25, .inl z15)), ((mr 23), .inl (km_out, 80, .inl z16))] H → va_D A [(h0, .inr (12, fsMM (upd (upd (upd mi 37 w0_37) 41 w0_41) 56 w0_56) mr)), ((mr 14), .inl (km_must, 25, .inl z1)), ((mr 15), .inl (km_least, 25, .inl z2)), ((mr 16), .inl (km_pin, 25, .inl z3)), ((mr 17), .inl (km_ways, 6875, .inl z4)), ((mr 18), .inl (km_verdict, 24, .inl z5)), ((mr 19), .inl (km_row, 24, .inl z6)), ((mr 4), .inl (km_struck, 24, .inl fm_struck)), ((mr 7), .inl (km_reportKnown, 24, .inl fm_reportKnown)), ((mr 2), .inl (km_reportPlace, 24, .inl fm_reportPlace)), ((mr 5), .inl (km_reportMonth, 24, .inl fm_reportMonth)), ((mr 6), .inl (km_reportDay, 24, .inl fm_reportDay)), ((mr 3), .inl (km_reportKind, 24, .inl fm_reportKind)), ((mr 0), .inl (km_trust, 6, .inl fm_trust)), ((mr 1), .inl (km_letter, 36, .inl fm_letter)), ((mr 20), .inl (km_official, 25, .inl z15)), ((mr 23), .inl (km_out, 80, .inl z16))] → va_S A s.heap H locs → lv_has ls 3 [] → W p l e R s m args below meth c H locs cells slots Q (F0 m 130 ls [.int v])) : ∀ z : Nat, (∀ (v2 : Int32) (w0_37 : Int32) (w0_41 : Int32) (w0_56 : Int32) (z1 : Nat → Int32) (z2 : Nat → Int32) (z3 : Nat → Int32) (z4 : Nat → Int32) (z5 : Nat → Int32) (z6 : Nat → Int32) (z15 : Nat → Int32) (z16 : Nat → Int32) (H : Heap) (locs : List Loc) (ls : Array Slot), gi p1 0 999 → gi v2 0 24 → gi w0_37 0 1 → gi w0_41 0 24 → gi w0_56 0 80 → ga z6 24 0 23 → w0_56.toInt ≤ 3 * v2.toInt → 0 ≤ w0_56.toInt → 49 + (-2) * v2.toInt < (z : Int) → va_P (dC, dI) vwCl [(h0, .inr (12, fsMM (upd (upd (upd mi 37 w0_37) 41 w0_41) 56 w0_56) mr)), ((mr 14), .inl (km_must, 25, .inl z1)), ((mr 15), .inl (km_least, 25, .inl z2)), ((mr 16), .inl (km_pin, 25, .inl z3)), ((mr 17), .inl (km_ways, 6875, .inl z4)), ((mr 18), .inl (km_verdict, 24, .inl z5)), ((mr 19), .inl (km_row, 24, .inl z6)), ((mr 4), .inl (km_struck, 24, .inl fm_struck)), ((mr 7), .inl (km_reportKnown, 24, .inl fm_reportKnown)), ((mr 2), .inl (km_reportPlace, 24, .inl fm_reportPlace)), ((mr 5), .inl (km_reportMonth, 24, .inl fm_reportMonth)), ((mr 6), .inl (km_reportDay, 24, .inl fm_reportDay)), ((mr 3), .inl (km_reportKind, 24, .inl fm_reportKind)), ((mr 0), .inl (km_trust, 6, .inl fm_trust)), ((mr 1), .inl (km_letter, 36, .inl fm_letter)), ((mr 20), .inl (km_official, 25, .inl z15)), ((mr 23), .inl (km_out, 80, .inl z16))] H → va_D A [(h0, .inr (12, fsMM (upd (upd (upd mi 37 w0_37) 41 w0_41) 56 w0_56) mr)), ((mr 14), .inl (km_must, 25, .inl z1)), ((mr 15), .inl (km_least, 25, .inl z2)), ((mr 16), .inl (km_pin, 25, .inl z3)), ((mr 17), .inl (km_ways, 6875, .inl z4)), ((mr 18), .inl (km_verdict, 24, .inl z5)), ((mr 19), .inl (km_row, 24, .inl z6)), ((mr 4), .inl (km_struck, 24, .inl fm_struck)), ((mr 7), .inl (km_reportKnown, 24, .inl fm_reportKnown)), ((mr 2), .inl (km_reportPlace, 24, .inl fm_reportPlace)), ((mr 5), .inl (km_reportMonth, 24, .inl fm_reportMonth)), ((mr 6), .inl (km_reportDay, 24, .inl fm_reportDay)), ((mr 3), .inl (km_reportKind, 24, .inl fm_reportKind)), ((mr 0), .inl (km_trust, 6, .inl fm_trust)), ((mr 1), .inl (km_letter, 36, .inl fm_letter)), ((mr 20), .inl (km_official, 25, .inl z15)), ((mr 23), .inl (km_out, 80, .inl z16))] → va_S A s.heap H locs → lv_has ls 3 [(0, .ref h0), (1, .int p1), (2, .int v2)] → W p l e R s m args below meth c H locs cells slots Q (F0 m 23 ls [])) := by
  intro z
  induction z with
  | zero =>
    intro v2 w0_37 w0_41 w0_56 z1 z2 z3 z4 z5 z6 z15 z16 H locs ls gf_p1 gv2 gw0_37 gw0_41 gw0_56 gz6 hinv0 hinv1 hmu hP hD hS hl
    exact absurd hmu (by have hv21 := gv2.1; have hv22 := gv2.2; omega)
  | succ z ih =>
      intro v2 w0_37 w0_41 w0_56 z1 z2 z3 z4 z5 z6 z15 z16 H locs ls gf_p1 gv2 gw0_37 gw0_41 gw0_56 gz6 hinv0 hinv1 hmu hP hD hS hl
      refine lv_iload_n hx hb dX12_tell_23 rfl (lv_at hl 2 rfl) ?_
      refine lv_aload_n hx hb dX12_tell_24 rfl (lv_at hl 0 rfl) ?_
      refine va_get (D := (dC, dI)) (ci := 12) (v := .int (mi 0)) (C := RX12) (T := TX12) (N := 57) hx hb hts (fun w h => List.mem_cons_of_mem _ (jnGB_X12 w h)) hown hK hP 0 rfl rfl 0 (by decide) (hts _ (List.mem_cons_of_mem _ mGB_103)) (fun _ h9 => h9) rfl dX12_tell_25 ?_
      refine lv_icmp_ge (tgt := 126) hx hb dX12_tell_28 (by decide) (fun c_1329 => ?_) (fun c_1329 => ?_)
      · have hc_1330 : (mi 0).toInt ≤ v2.toInt := by have h9 := Int32.le_iff_toInt_le.mp c_1329; exact h9
        refine lv_aload_n hx hb dX12_tell_126 rfl (lv_at hl 0 rfl) ?_
        refine va_get (D := (dC, dI)) (ci := 12) (v := .int w0_56) (C := RX12) (T := TX12) (N := 57) hx hb hts (fun w h => List.mem_cons_of_mem _ (jnGB_X12 w h)) hown hK hP 0 rfl rfl 56 (by decide) (hts _ (List.mem_cons_of_mem _ mGB_219)) (fun _ h9 => h9) rfl dX12_tell_127 ?_
        exact kr130 w0_56 w0_37 w0_41 w0_56 z1 z2 z3 z4 z5 z6 z15 z16 _ _ _ gw0_56 gw0_37 gw0_41 gw0_56 gz6 hP hD hS (lv_sub hl [] rfl)
      · have hc_1331 : v2.toInt < (mi 0).toInt := by have h9 := Int32.lt_iff_toInt_lt.mp (Int32.not_le.mp c_1329); exact h9
        have g_1332 : gi v2 0 23 := gi_lt_l (Int32.not_le.mp c_1329) gv2 gmi_0 (by decide)
        have g_1333 : gi (mi 0) 1 24 := gi_lt_r (Int32.not_le.mp c_1329) gv2 gmi_0 (by decide)
        refine lv_iload_n hx hb dX12_tell_31 rfl (lv_at hl 2 rfl) ?_
        refine lv_if_le (tgt := 56) hx hb dX12_tell_32 (by decide) (fun c_1334 => ?_) (fun c_1334 => ?_)
        · have hc_1335 : v2.toInt ≤ 0 := by have h9 := Int32.le_iff_toInt_le.mp c_1334; rw [show (0 : Int32).toInt = 0 from by decide] at h9; exact h9
          have g_1336 : gi v2 0 0 := gi_le_l c_1334 g_1332 (gi_c 0 0 (by decide))
          refine lv_aload_n hx hb dX12_tell_56 rfl (lv_at hl 0 rfl) ?_
          refine va_get (D := (dC, dI)) (ci := 12) (v := .ref (mr 23)) (C := RX12) (T := TX12) (N := 57) hx hb hts (fun w h => List.mem_cons_of_mem _ (jnGB_X12 w h)) hown hK hP 0 rfl rfl 55 (by decide) (hts _ (List.mem_cons_of_mem _ mGB_39)) (fun _ h9 => h9) rfl dX12_tell_57 ?_
          refine lv_aload_n hx hb dX12_tell_60 rfl (lv_at hl 0 rfl) ?_
          refine va_get (D := (dC, dI)) (ci := 12) (v := .int w0_56) (C := RX12) (T := TX12) (N := 57) hx hb hts (fun w h => List.mem_cons_of_mem _ (jnGB_X12 w h)) hown hK hP 0 rfl rfl 56 (by decide) (hts _ (List.mem_cons_of_mem _ mGB_219)) (fun _ h9 => h9) rfl dX12_tell_61 ?_
          refine lv_aload_n hx hb dX12_tell_64 rfl (lv_at hl 0 rfl) ?_
          refine lv_iload_n hx hb dX12_tell_65 rfl (lv_at hl 2 rfl) ?_
          have hPc := hP.sub (ws' := [(h0, .inr (12, fsMM (upd (upd (upd mi 37 w0_37) 41 w0_41) 56 w0_56) mr)), ((mr 20), .inl (km_official, 25, .inl z15))]) [0, 15] rfl
          have hKc := hK.sub (tys' := [(km_official, .int)]) [14] rfl
          refine va_calli (va_runV (As := [.int v2]) (rest := [.int w0_56, .ref (mr 23)]) ⟨hx, hb, hml, hown, hts⟩ (sX12_lengthBy l dC dI h0 (upd (upd (upd mi 37 w0_37) 41 w0_41) 56 w0_56) mr km_official z15 v2 (gi_w g_1333 (by decide)) gmi_1 gmi_2 gmi_4 gmi_7 gmi_10 gmi_17 gmi_23 gmi_24 gmi_26 gmi_29 gmi_30 gmi_33 gw0_37 gw0_41 gmi_50 gmi_51 gw0_56 (gi_w g_1336 (by decide))) (cwV 1 hts (gz_gV mGB_423 mGB_424 mGB_425 mGB_1 mGB_426 goodGB) rfl rfl rfl (by decide +kernel) ⟨Nat.le_trans (Nat.le_of_ble_eq_true rfl) hRf, Nat.le_trans (Nat.le_of_ble_eq_true rfl) hRl⟩) ⟨fun a U g mk q => by obtain ⟨q0, qP, qK⟩ := q; exact ⟨q0, qP, va_K.moved (u := U) (U := U.calling g mk a) (Vm.Alike.refl U.vm) qK⟩, va_recv hKc hPc (ci := 12) (q0 := 0) rfl rfl, fun U hU hW => ⟨rfl, by rw [hU]; exact hPc, va_K.moved hW.alike hKc⟩⟩ rfl rfl hl.1 rfl (lv_room (Nat.le_of_ble_eq_true rfl)) dX12_tell_66 ⟨hRc, hRs⟩) hS (fun q _ h => h.elim) (fun q h => h.elim) (fun r_1337 u t H1 locs ht hvm hw hB hz1 hk1 hS => ?_)
          have hP := gz_keep hP hk1
          generalize H1 = H at hP hS ⊢
          refine lv_bipush (v := 30) hx hb dX12_tell_69 (by decide) ?_
          refine lv_icmp_ne (tgt := 79) hx hb dX12_tell_71 (by decide) (fun c_1338 => ?_) (fun c_1338 => ?_)
          · have hc_1339 : r_1337.toInt ≠ 30 := fun h9 => c_1338 (Int32.toInt_inj.mp (by rw [show (30 : Int32).toInt = 30 from by decide]; exact h9))
            refine lv_bipush (v := 50) hx hb dX12_tell_79 (by decide) ?_
            refine va_iast hx hb hK hP hD hS 16 15 rfl rfl (gz_inR (n := 80) (by have qgw0_56 := gw0_56.1; have rgw0_56 := gw0_56.2; have qgv2 := g_1336.1; have rgv2 := g_1336.2; have qgmi_0 := g_1333.1; have rgmi_0 := g_1333.2; omega) (by have qgw0_56 := gw0_56.1; have rgw0_56 := gw0_56.2; have qgv2 := g_1336.1; have rgv2 := g_1336.2; have qgmi_0 := g_1333.1; have rgmi_0 := g_1333.2; omega)) dX12_tell_81 (fun H locs hP hD hS => ?_)
            have hP : va_P (dC, dI) vwCl [(h0, .inr (12, fsMM (upd (upd (upd mi 37 w0_37) 41 w0_41) 56 w0_56) mr)), ((mr 14), .inl (km_must, 25, .inl z1)), ((mr 15), .inl (km_least, 25, .inl z2)), ((mr 16), .inl (km_pin, 25, .inl z3)), ((mr 17), .inl (km_ways, 6875, .inl z4)), ((mr 18), .inl (km_verdict, 24, .inl z5)), ((mr 19), .inl (km_row, 24, .inl z6)), ((mr 4), .inl (km_struck, 24, .inl fm_struck)), ((mr 7), .inl (km_reportKnown, 24, .inl fm_reportKnown)), ((mr 2), .inl (km_reportPlace, 24, .inl fm_reportPlace)), ((mr 5), .inl (km_reportMonth, 24, .inl fm_reportMonth)), ((mr 6), .inl (km_reportDay, 24, .inl fm_reportDay)), ((mr 3), .inl (km_reportKind, 24, .inl fm_reportKind)), ((mr 0), .inl (km_trust, 6, .inl fm_trust)), ((mr 1), .inl (km_letter, 36, .inl fm_letter)), ((mr 20), .inl (km_official, 25, .inl z15)), ((mr 23), .inl (km_out, 80, .inl (upd z16 (w0_56 : Int32).toNatClampNeg 50)))] H := hP
            have hD : va_D A [(h0, .inr (12, fsMM (upd (upd (upd mi 37 w0_37) 41 w0_41) 56 w0_56) mr)), ((mr 14), .inl (km_must, 25, .inl z1)), ((mr 15), .inl (km_least, 25, .inl z2)), ((mr 16), .inl (km_pin, 25, .inl z3)), ((mr 17), .inl (km_ways, 6875, .inl z4)), ((mr 18), .inl (km_verdict, 24, .inl z5)), ((mr 19), .inl (km_row, 24, .inl z6)), ((mr 4), .inl (km_struck, 24, .inl fm_struck)), ((mr 7), .inl (km_reportKnown, 24, .inl fm_reportKnown)), ((mr 2), .inl (km_reportPlace, 24, .inl fm_reportPlace)), ((mr 5), .inl (km_reportMonth, 24, .inl fm_reportMonth)), ((mr 6), .inl (km_reportDay, 24, .inl fm_reportDay)), ((mr 3), .inl (km_reportKind, 24, .inl fm_reportKind)), ((mr 0), .inl (km_trust, 6, .inl fm_trust)), ((mr 1), .inl (km_letter, 36, .inl fm_letter)), ((mr 20), .inl (km_official, 25, .inl z15)), ((mr 23), .inl (km_out, 80, .inl (upd z16 (w0_56 : Int32).toNatClampNeg 50)))] := hD
            generalize upd z16 (w0_56 : Int32).toNatClampNeg 50 = f_1340 at hP hD
            refine lv_aload_n hx hb dX12_tell_82 rfl (lv_at hl 0 rfl) ?_
            refine va_get (D := (dC, dI)) (ci := 12) (v := .ref (mr 23)) (C := RX12) (T := TX12) (N := 57) hx hb hts (fun w h => List.mem_cons_of_mem _ (jnGB_X12 w h)) hown hK hP 0 rfl rfl 55 (by decide) (hts _ (List.mem_cons_of_mem _ mGB_39)) (fun _ h9 => h9) rfl dX12_tell_83 ?_
            refine lv_aload_n hx hb dX12_tell_86 rfl (lv_at hl 0 rfl) ?_
            refine va_get (D := (dC, dI)) (ci := 12) (v := .int w0_56) (C := RX12) (T := TX12) (N := 57) hx hb hts (fun w h => List.mem_cons_of_mem _ (jnGB_X12 w h)) hown hK hP 0 rfl rfl 56 (by decide) (hts _ (List.mem_cons_of_mem _ mGB_219)) (fun _ h9 => h9) rfl dX12_tell_87 ?_
            refine lv_iconst (v := 1) hx hb dX12_tell_90 (by decide) ?_
            refine lv_iadd hx hb dX12_tell_91 ?_
            refine lv_topi (fun x_1341 ex_1341 => ?_)
            have gx_1341 : gi x_1341 1 81 := gi_add ex_1341 gw0_56 (gi_c 1 1 (by decide)) (by decide)
            refine lv_aload_n hx hb dX12_tell_92 rfl (lv_at hl 0 rfl) ?_
            refine lv_iload_n hx hb dX12_tell_93 rfl (lv_at hl 2 rfl) ?_
            have hPc := hP.sub (ws' := [(h0, .inr (12, fsMM (upd (upd (upd mi 37 w0_37) 41 w0_41) 56 w0_56) mr)), ((mr 20), .inl (km_official, 25, .inl z15))]) [0, 15] rfl
            have hKc := hK.sub (tys' := [(km_official, .int)]) [14] rfl
            refine va_calli (va_runV (As := [.int v2]) (rest := [.int x_1341, .ref (mr 23)]) ⟨hx, hb, hml, hown, hts⟩ (sX12_lengthBy l dC dI h0 (upd (upd (upd mi 37 w0_37) 41 w0_41) 56 w0_56) mr km_official z15 v2 (gi_w g_1333 (by decide)) gmi_1 gmi_2 gmi_4 gmi_7 gmi_10 gmi_17 gmi_23 gmi_24 gmi_26 gmi_29 gmi_30 gmi_33 gw0_37 gw0_41 gmi_50 gmi_51 gw0_56 (gi_w g_1336 (by decide))) (cwV 1 hts (gz_gV mGB_423 mGB_424 mGB_425 mGB_1 mGB_426 goodGB) rfl rfl rfl (by decide +kernel) ⟨Nat.le_trans (Nat.le_of_ble_eq_true rfl) hRf, Nat.le_trans (Nat.le_of_ble_eq_true rfl) hRl⟩) ⟨fun a U g mk q => by obtain ⟨q0, qP, qK⟩ := q; exact ⟨q0, qP, va_K.moved (u := U) (U := U.calling g mk a) (Vm.Alike.refl U.vm) qK⟩, va_recv hKc hPc (ci := 12) (q0 := 0) rfl rfl, fun U hU hW => ⟨rfl, by rw [hU]; exact hPc, va_K.moved hW.alike hKc⟩⟩ rfl rfl hl.1 rfl (lv_room (Nat.le_of_ble_eq_true rfl)) dX12_tell_94 ⟨hRc, hRs⟩) hS (fun q _ h => h.elim) (fun q h => h.elim) (fun r_1342 u t H1 locs ht hvm hw hB hz1 hk1 hS => ?_)
            have hP := gz_keep hP hk1
            generalize H1 = H at hP hS ⊢
            refine lv_bipush (v := 30) hx hb dX12_tell_97 (by decide) ?_
            refine lv_icmp_ne (tgt := 107) hx hb dX12_tell_99 (by decide) (fun c_1343 => ?_) (fun c_1343 => ?_)
            · have hc_1344 : r_1342.toInt ≠ 30 := fun h9 => c_1343 (Int32.toInt_inj.mp (by rw [show (30 : Int32).toInt = 30 from by decide]; exact h9))
              refine lv_bipush (v := 57) hx hb dX12_tell_107 (by decide) ?_
              refine va_iast hx hb hK hP hD hS 16 15 rfl rfl (gz_inR (n := 80) (by have qgx_1341 := gx_1341.1; have rgx_1341 := gx_1341.2; have igx_1341 : x_1341.toInt = w0_56.toInt + 1 := (by have hc1 : (1 : Int32).toInt = 1 := (by decide); have h9 := gi_addI ex_1341 (by have h1 := gw0_56.1; have h2 := (gi_c 1 1 (by decide)).1; have h3 := gw0_56.2; have h4 := (gi_c 1 1 (by decide)).2; omega) (by have h1 := gw0_56.1; have h2 := (gi_c 1 1 (by decide)).1; have h3 := gw0_56.2; have h4 := (gi_c 1 1 (by decide)).2; omega); rw [hc1] at h9; exact h9); have qgw0_56 := gw0_56.1; have rgw0_56 := gw0_56.2; have qgv2 := g_1336.1; have rgv2 := g_1336.2; have qgmi_0 := g_1333.1; have rgmi_0 := g_1333.2; omega) (by have qgx_1341 := gx_1341.1; have rgx_1341 := gx_1341.2; have igx_1341 : x_1341.toInt = w0_56.toInt + 1 := (by have hc1 : (1 : Int32).toInt = 1 := (by decide); have h9 := gi_addI ex_1341 (by have h1 := gw0_56.1; have h2 := (gi_c 1 1 (by decide)).1; have h3 := gw0_56.2; have h4 := (gi_c 1 1 (by decide)).2; omega) (by have h1 := gw0_56.1; have h2 := (gi_c 1 1 (by decide)).1; have h3 := gw0_56.2; have h4 := (gi_c 1 1 (by decide)).2; omega); rw [hc1] at h9; exact h9); have qgw0_56 := gw0_56.1; have rgw0_56 := gw0_56.2; have qgv2 := g_1336.1; have rgv2 := g_1336.2; have qgmi_0 := g_1333.1; have rgmi_0 := g_1333.2; omega)) dX12_tell_109 (fun H locs hP hD hS => ?_)
              have hP : va_P (dC, dI) vwCl [(h0, .inr (12, fsMM (upd (upd (upd mi 37 w0_37) 41 w0_41) 56 w0_56) mr)), ((mr 14), .inl (km_must, 25, .inl z1)), ((mr 15), .inl (km_least, 25, .inl z2)), ((mr 16), .inl (km_pin, 25, .inl z3)), ((mr 17), .inl (km_ways, 6875, .inl z4)), ((mr 18), .inl (km_verdict, 24, .inl z5)), ((mr 19), .inl (km_row, 24, .inl z6)), ((mr 4), .inl (km_struck, 24, .inl fm_struck)), ((mr 7), .inl (km_reportKnown, 24, .inl fm_reportKnown)), ((mr 2), .inl (km_reportPlace, 24, .inl fm_reportPlace)), ((mr 5), .inl (km_reportMonth, 24, .inl fm_reportMonth)), ((mr 6), .inl (km_reportDay, 24, .inl fm_reportDay)), ((mr 3), .inl (km_reportKind, 24, .inl fm_reportKind)), ((mr 0), .inl (km_trust, 6, .inl fm_trust)), ((mr 1), .inl (km_letter, 36, .inl fm_letter)), ((mr 20), .inl (km_official, 25, .inl z15)), ((mr 23), .inl (km_out, 80, .inl (upd f_1340 (x_1341 : Int32).toNatClampNeg 57)))] H := hP
              have hD : va_D A [(h0, .inr (12, fsMM (upd (upd (upd mi 37 w0_37) 41 w0_41) 56 w0_56) mr)), ((mr 14), .inl (km_must, 25, .inl z1)), ((mr 15), .inl (km_least, 25, .inl z2)), ((mr 16), .inl (km_pin, 25, .inl z3)), ((mr 17), .inl (km_ways, 6875, .inl z4)), ((mr 18), .inl (km_verdict, 24, .inl z5)), ((mr 19), .inl (km_row, 24, .inl z6)), ((mr 4), .inl (km_struck, 24, .inl fm_struck)), ((mr 7), .inl (km_reportKnown, 24, .inl fm_reportKnown)), ((mr 2), .inl (km_reportPlace, 24, .inl fm_reportPlace)), ((mr 5), .inl (km_reportMonth, 24, .inl fm_reportMonth)), ((mr 6), .inl (km_reportDay, 24, .inl fm_reportDay)), ((mr 3), .inl (km_reportKind, 24, .inl fm_reportKind)), ((mr 0), .inl (km_trust, 6, .inl fm_trust)), ((mr 1), .inl (km_letter, 36, .inl fm_letter)), ((mr 20), .inl (km_official, 25, .inl z15)), ((mr 23), .inl (km_out, 80, .inl (upd f_1340 (x_1341 : Int32).toNatClampNeg 57)))] := hD
              generalize upd f_1340 (x_1341 : Int32).toNatClampNeg 57 = f_1345 at hP hD
              refine lv_aload_n hx hb dX12_tell_110 rfl (lv_at hl 0 rfl) ?_
              refine lv_dup hx hb dX12_tell_111 rfl ?_
              refine va_get (D := (dC, dI)) (ci := 12) (v := .int w0_56) (C := RX12) (T := TX12) (N := 57) hx hb hts (fun w h => List.mem_cons_of_mem _ (jnGB_X12 w h)) hown hK hP 0 rfl rfl 56 (by decide) (hts _ (List.mem_cons_of_mem _ mGB_219)) (fun _ h9 => h9) rfl dX12_tell_112 ?_
              refine lv_iconst (v := 2) hx hb dX12_tell_115 (by decide) ?_
              refine lv_iadd hx hb dX12_tell_116 ?_
              refine lv_topi (fun x_1346 ex_1346 => ?_)
              have gx_1346 : gi x_1346 2 82 := gi_add ex_1346 gw0_56 (gi_c 2 2 (by decide)) (by decide)
              refine va_put (D := (dC, dI)) (ci := 12) (v := .int x_1346) (ty := .int) (C := RX12) (T := TX12) (N := 57) hx hb hts (fun w h => List.mem_cons_of_mem _ (jnGB_X12 w h)) tyX12 tyX12_ok nmX12 hown hK hP hD hS 0 rfl rfl 56 (by decide) (hts _ (List.mem_cons_of_mem _ mGB_219)) (fun _ h9 => h9) rfl (by decide +kernel) rfl rfl (Nat.le_of_ble_eq_true rfl) dX12_tell_117 (fun H locs hP hD hS => ?_)
              have hP : va_P (dC, dI) vwCl [(h0, .inr (12, fsMM (upd (upd (upd mi 37 w0_37) 41 w0_41) 56 x_1346) mr)), ((mr 14), .inl (km_must, 25, .inl z1)), ((mr 15), .inl (km_least, 25, .inl z2)), ((mr 16), .inl (km_pin, 25, .inl z3)), ((mr 17), .inl (km_ways, 6875, .inl z4)), ((mr 18), .inl (km_verdict, 24, .inl z5)), ((mr 19), .inl (km_row, 24, .inl z6)), ((mr 4), .inl (km_struck, 24, .inl fm_struck)), ((mr 7), .inl (km_reportKnown, 24, .inl fm_reportKnown)), ((mr 2), .inl (km_reportPlace, 24, .inl fm_reportPlace)), ((mr 5), .inl (km_reportMonth, 24, .inl fm_reportMonth)), ((mr 6), .inl (km_reportDay, 24, .inl fm_reportDay)), ((mr 3), .inl (km_reportKind, 24, .inl fm_reportKind)), ((mr 0), .inl (km_trust, 6, .inl fm_trust)), ((mr 1), .inl (km_letter, 36, .inl fm_letter)), ((mr 20), .inl (km_official, 25, .inl z15)), ((mr 23), .inl (km_out, 80, .inl f_1345))] H := hP
              have hD : va_D A [(h0, .inr (12, fsMM (upd (upd (upd mi 37 w0_37) 41 w0_41) 56 x_1346) mr)), ((mr 14), .inl (km_must, 25, .inl z1)), ((mr 15), .inl (km_least, 25, .inl z2)), ((mr 16), .inl (km_pin, 25, .inl z3)), ((mr 17), .inl (km_ways, 6875, .inl z4)), ((mr 18), .inl (km_verdict, 24, .inl z5)), ((mr 19), .inl (km_row, 24, .inl z6)), ((mr 4), .inl (km_struck, 24, .inl fm_struck)), ((mr 7), .inl (km_reportKnown, 24, .inl fm_reportKnown)), ((mr 2), .inl (km_reportPlace, 24, .inl fm_reportPlace)), ((mr 5), .inl (km_reportMonth, 24, .inl fm_reportMonth)), ((mr 6), .inl (km_reportDay, 24, .inl fm_reportDay)), ((mr 3), .inl (km_reportKind, 24, .inl fm_reportKind)), ((mr 0), .inl (km_trust, 6, .inl fm_trust)), ((mr 1), .inl (km_letter, 36, .inl fm_letter)), ((mr 20), .inl (km_official, 25, .inl z15)), ((mr 23), .inl (km_out, 80, .inl f_1345))] := hD
              obtain ⟨x_1347, ex_1347⟩ : ∃ y : Int32, y = v2 + 1 := ⟨_, rfl⟩
              have gx_1347 : gi x_1347 1 1 := gi_add ex_1347 g_1336 (gi_c 1 1 (by decide)) (by decide)
              refine lv_iinc (v := x_1347) (lv' := [(2, .int x_1347), (0, .ref h0), (1, .int p1)]) hx hb dX12_tell_120 hl (k := 2) rfl (by rw [ex_1347]; rfl) (by decide) rfl (fun ls hl => ?_)
              refine lv_goto (tgt := 23) hx hb dX12_tell_123 (by decide) ?_
              exact ih x_1347 w0_37 w0_41 x_1346 z1 z2 z3 z4 z5 z6 z15 f_1345 _ _ _ gf_p1 (gi_w gx_1347 (by decide)) gw0_37 gw0_41 (show gi x_1346 0 80 from ⟨by have qgx_1346 := gx_1346.1; have rgx_1346 := gx_1346.2; have igx_1346 : x_1346.toInt = w0_56.toInt + 2 := (by have hc2 : (2 : Int32).toInt = 2 := (by decide); have h9 := gi_addI ex_1346 (by have h1 := gw0_56.1; have h2 := (gi_c 2 2 (by decide)).1; have h3 := gw0_56.2; have h4 := (gi_c 2 2 (by decide)).2; omega) (by have h1 := gw0_56.1; have h2 := (gi_c 2 2 (by decide)).1; have h3 := gw0_56.2; have h4 := (gi_c 2 2 (by decide)).2; omega); rw [hc2] at h9; exact h9); have qgw0_56 := gw0_56.1; have rgw0_56 := gw0_56.2; have qgv2 := g_1336.1; have rgv2 := g_1336.2; have qgmi_0 := g_1333.1; have rgmi_0 := g_1333.2; omega, by have qgx_1346 := gx_1346.1; have rgx_1346 := gx_1346.2; have igx_1346 : x_1346.toInt = w0_56.toInt + 2 := (by have hc2 : (2 : Int32).toInt = 2 := (by decide); have h9 := gi_addI ex_1346 (by have h1 := gw0_56.1; have h2 := (gi_c 2 2 (by decide)).1; have h3 := gw0_56.2; have h4 := (gi_c 2 2 (by decide)).2; omega) (by have h1 := gw0_56.1; have h2 := (gi_c 2 2 (by decide)).1; have h3 := gw0_56.2; have h4 := (gi_c 2 2 (by decide)).2; omega); rw [hc2] at h9; exact h9); have qgw0_56 := gw0_56.1; have rgw0_56 := gw0_56.2; have qgv2 := g_1336.1; have rgv2 := g_1336.2; have qgmi_0 := g_1333.1; have rgmi_0 := g_1333.2; omega⟩) gz6 (show x_1346.toInt ≤ 3 * x_1347.toInt from by have qgx_1347 := gx_1347.1; have rgx_1347 := gx_1347.2; have igx_1347 : x_1347.toInt = v2.toInt + 1 := (by have hc1 : (1 : Int32).toInt = 1 := (by decide); have h9 := gi_addI ex_1347 (by have h1 := g_1336.1; have h2 := (gi_c 1 1 (by decide)).1; have h3 := g_1336.2; have h4 := (gi_c 1 1 (by decide)).2; omega) (by have h1 := g_1336.1; have h2 := (gi_c 1 1 (by decide)).1; have h3 := g_1336.2; have h4 := (gi_c 1 1 (by decide)).2; omega); rw [hc1] at h9; exact h9); have qgv2 := g_1336.1; have rgv2 := g_1336.2; have qgx_1346 := gx_1346.1; have rgx_1346 := gx_1346.2; have igx_1346 : x_1346.toInt = w0_56.toInt + 2 := (by have hc2 : (2 : Int32).toInt = 2 := (by decide); have h9 := gi_addI ex_1346 (by have h1 := gw0_56.1; have h2 := (gi_c 2 2 (by decide)).1; have h3 := gw0_56.2; have h4 := (gi_c 2 2 (by decide)).2; omega) (by have h1 := gw0_56.1; have h2 := (gi_c 2 2 (by decide)).1; have h3 := gw0_56.2; have h4 := (gi_c 2 2 (by decide)).2; omega); rw [hc2] at h9; exact h9); have qgw0_56 := gw0_56.1; have rgw0_56 := gw0_56.2; have qgmi_0 := g_1333.1; have rgmi_0 := g_1333.2; omega) (show 0 ≤ x_1346.toInt from by have qgx_1346 := gx_1346.1; have rgx_1346 := gx_1346.2; have igx_1346 : x_1346.toInt = w0_56.toInt + 2 := (by have hc2 : (2 : Int32).toInt = 2 := (by decide); have h9 := gi_addI ex_1346 (by have h1 := gw0_56.1; have h2 := (gi_c 2 2 (by decide)).1; have h3 := gw0_56.2; have h4 := (gi_c 2 2 (by decide)).2; omega) (by have h1 := gw0_56.1; have h2 := (gi_c 2 2 (by decide)).1; have h3 := gw0_56.2; have h4 := (gi_c 2 2 (by decide)).2; omega); rw [hc2] at h9; exact h9); have qgw0_56 := gw0_56.1; have rgw0_56 := gw0_56.2; have qgv2 := g_1336.1; have rgv2 := g_1336.2; have qgmi_0 := g_1333.1; have rgmi_0 := g_1333.2; omega) (by have av2 := gv2.1; have bv2 := gv2.2; have qgx_1347 := gx_1347.1; have rgx_1347 := gx_1347.2; have igx_1347 : x_1347.toInt = v2.toInt + 1 := (by have hc1 : (1 : Int32).toInt = 1 := (by decide); have h9 := gi_addI ex_1347 (by have h1 := g_1336.1; have h2 := (gi_c 1 1 (by decide)).1; have h3 := g_1336.2; have h4 := (gi_c 1 1 (by decide)).2; omega) (by have h1 := g_1336.1; have h2 := (gi_c 1 1 (by decide)).1; have h3 := g_1336.2; have h4 := (gi_c 1 1 (by decide)).2; omega); rw [hc1] at h9; exact h9); have qgv2 := g_1336.1; have rgv2 := g_1336.2; omega) hP hD hS (lv_sub hl [1, 2, 0] rfl)
            · have hc_1348 : r_1342.toInt = 30 := by have h9 := congrArg Int32.toInt c_1343; rw [show (30 : Int32).toInt = 30 from by decide] at h9; exact h9
              have g_1349 : gi r_1342 30 30 := gi_eq c_1343 (gi_c 30 30 (by decide))
              refine lv_bipush (v := 48) hx hb dX12_tell_102 (by decide) ?_
              refine lv_goto (tgt := 109) hx hb dX12_tell_104 (by decide) ?_
              refine va_iast hx hb hK hP hD hS 16 15 rfl rfl (gz_inR (n := 80) (by have qgx_1341 := gx_1341.1; have rgx_1341 := gx_1341.2; have igx_1341 : x_1341.toInt = w0_56.toInt + 1 := (by have hc1 : (1 : Int32).toInt = 1 := (by decide); have h9 := gi_addI ex_1341 (by have h1 := gw0_56.1; have h2 := (gi_c 1 1 (by decide)).1; have h3 := gw0_56.2; have h4 := (gi_c 1 1 (by decide)).2; omega) (by have h1 := gw0_56.1; have h2 := (gi_c 1 1 (by decide)).1; have h3 := gw0_56.2; have h4 := (gi_c 1 1 (by decide)).2; omega); rw [hc1] at h9; exact h9); have qgw0_56 := gw0_56.1; have rgw0_56 := gw0_56.2; have qgv2 := g_1336.1; have rgv2 := g_1336.2; have qgr_1342 := g_1349.1; have rgr_1342 := g_1349.2; have qgmi_0 := g_1333.1; have rgmi_0 := g_1333.2; omega) (by have qgx_1341 := gx_1341.1; have rgx_1341 := gx_1341.2; have igx_1341 : x_1341.toInt = w0_56.toInt + 1 := (by have hc1 : (1 : Int32).toInt = 1 := (by decide); have h9 := gi_addI ex_1341 (by have h1 := gw0_56.1; have h2 := (gi_c 1 1 (by decide)).1; have h3 := gw0_56.2; have h4 := (gi_c 1 1 (by decide)).2; omega) (by have h1 := gw0_56.1; have h2 := (gi_c 1 1 (by decide)).1; have h3 := gw0_56.2; have h4 := (gi_c 1 1 (by decide)).2; omega); rw [hc1] at h9; exact h9); have qgw0_56 := gw0_56.1; have rgw0_56 := gw0_56.2; have qgv2 := g_1336.1; have rgv2 := g_1336.2; have qgr_1342 := g_1349.1; have rgr_1342 := g_1349.2; have qgmi_0 := g_1333.1; have rgmi_0 := g_1333.2; omega)) dX12_tell_109 (fun H locs hP hD hS => ?_)
              have hP : va_P (dC, dI) vwCl [(h0, .inr (12, fsMM (upd (upd (upd mi 37 w0_37) 41 w0_41) 56 w0_56) mr)), ((mr 14), .inl (km_must, 25, .inl z1)), ((mr 15), .inl (km_least, 25, .inl z2)), ((mr 16), .inl (km_pin, 25, .inl z3)), ((mr 17), .inl (km_ways, 6875, .inl z4)), ((mr 18), .inl (km_verdict, 24, .inl z5)), ((mr 19), .inl (km_row, 24, .inl z6)), ((mr 4), .inl (km_struck, 24, .inl fm_struck)), ((mr 7), .inl (km_reportKnown, 24, .inl fm_reportKnown)), ((mr 2), .inl (km_reportPlace, 24, .inl fm_reportPlace)), ((mr 5), .inl (km_reportMonth, 24, .inl fm_reportMonth)), ((mr 6), .inl (km_reportDay, 24, .inl fm_reportDay)), ((mr 3), .inl (km_reportKind, 24, .inl fm_reportKind)), ((mr 0), .inl (km_trust, 6, .inl fm_trust)), ((mr 1), .inl (km_letter, 36, .inl fm_letter)), ((mr 20), .inl (km_official, 25, .inl z15)), ((mr 23), .inl (km_out, 80, .inl (upd f_1340 (x_1341 : Int32).toNatClampNeg 48)))] H := hP
              have hD : va_D A [(h0, .inr (12, fsMM (upd (upd (upd mi 37 w0_37) 41 w0_41) 56 w0_56) mr)), ((mr 14), .inl (km_must, 25, .inl z1)), ((mr 15), .inl (km_least, 25, .inl z2)), ((mr 16), .inl (km_pin, 25, .inl z3)), ((mr 17), .inl (km_ways, 6875, .inl z4)), ((mr 18), .inl (km_verdict, 24, .inl z5)), ((mr 19), .inl (km_row, 24, .inl z6)), ((mr 4), .inl (km_struck, 24, .inl fm_struck)), ((mr 7), .inl (km_reportKnown, 24, .inl fm_reportKnown)), ((mr 2), .inl (km_reportPlace, 24, .inl fm_reportPlace)), ((mr 5), .inl (km_reportMonth, 24, .inl fm_reportMonth)), ((mr 6), .inl (km_reportDay, 24, .inl fm_reportDay)), ((mr 3), .inl (km_reportKind, 24, .inl fm_reportKind)), ((mr 0), .inl (km_trust, 6, .inl fm_trust)), ((mr 1), .inl (km_letter, 36, .inl fm_letter)), ((mr 20), .inl (km_official, 25, .inl z15)), ((mr 23), .inl (km_out, 80, .inl (upd f_1340 (x_1341 : Int32).toNatClampNeg 48)))] := hD
              generalize upd f_1340 (x_1341 : Int32).toNatClampNeg 48 = f_1350 at hP hD
              refine lv_aload_n hx hb dX12_tell_110 rfl (lv_at hl 0 rfl) ?_
              refine lv_dup hx hb dX12_tell_111 rfl ?_
              refine va_get (D := (dC, dI)) (ci := 12) (v := .int w0_56) (C := RX12) (T := TX12) (N := 57) hx hb hts (fun w h => List.mem_cons_of_mem _ (jnGB_X12 w h)) hown hK hP 0 rfl rfl 56 (by decide) (hts _ (List.mem_cons_of_mem _ mGB_219)) (fun _ h9 => h9) rfl dX12_tell_112 ?_
              refine lv_iconst (v := 2) hx hb dX12_tell_115 (by decide) ?_
              refine lv_iadd hx hb dX12_tell_116 ?_
              refine lv_topi (fun x_1351 ex_1351 => ?_)
              have gx_1351 : gi x_1351 2 82 := gi_add ex_1351 gw0_56 (gi_c 2 2 (by decide)) (by decide)
              refine va_put (D := (dC, dI)) (ci := 12) (v := .int x_1351) (ty := .int) (C := RX12) (T := TX12) (N := 57) hx hb hts (fun w h => List.mem_cons_of_mem _ (jnGB_X12 w h)) tyX12 tyX12_ok nmX12 hown hK hP hD hS 0 rfl rfl 56 (by decide) (hts _ (List.mem_cons_of_mem _ mGB_219)) (fun _ h9 => h9) rfl (by decide +kernel) rfl rfl (Nat.le_of_ble_eq_true rfl) dX12_tell_117 (fun H locs hP hD hS => ?_)
              have hP : va_P (dC, dI) vwCl [(h0, .inr (12, fsMM (upd (upd (upd mi 37 w0_37) 41 w0_41) 56 x_1351) mr)), ((mr 14), .inl (km_must, 25, .inl z1)), ((mr 15), .inl (km_least, 25, .inl z2)), ((mr 16), .inl (km_pin, 25, .inl z3)), ((mr 17), .inl (km_ways, 6875, .inl z4)), ((mr 18), .inl (km_verdict, 24, .inl z5)), ((mr 19), .inl (km_row, 24, .inl z6)), ((mr 4), .inl (km_struck, 24, .inl fm_struck)), ((mr 7), .inl (km_reportKnown, 24, .inl fm_reportKnown)), ((mr 2), .inl (km_reportPlace, 24, .inl fm_reportPlace)), ((mr 5), .inl (km_reportMonth, 24, .inl fm_reportMonth)), ((mr 6), .inl (km_reportDay, 24, .inl fm_reportDay)), ((mr 3), .inl (km_reportKind, 24, .inl fm_reportKind)), ((mr 0), .inl (km_trust, 6, .inl fm_trust)), ((mr 1), .inl (km_letter, 36, .inl fm_letter)), ((mr 20), .inl (km_official, 25, .inl z15)), ((mr 23), .inl (km_out, 80, .inl f_1350))] H := hP
              have hD : va_D A [(h0, .inr (12, fsMM (upd (upd (upd mi 37 w0_37) 41 w0_41) 56 x_1351) mr)), ((mr 14), .inl (km_must, 25, .inl z1)), ((mr 15), .inl (km_least, 25, .inl z2)), ((mr 16), .inl (km_pin, 25, .inl z3)), ((mr 17), .inl (km_ways, 6875, .inl z4)), ((mr 18), .inl (km_verdict, 24, .inl z5)), ((mr 19), .inl (km_row, 24, .inl z6)), ((mr 4), .inl (km_struck, 24, .inl fm_struck)), ((mr 7), .inl (km_reportKnown, 24, .inl fm_reportKnown)), ((mr 2), .inl (km_reportPlace, 24, .inl fm_reportPlace)), ((mr 5), .inl (km_reportMonth, 24, .inl fm_reportMonth)), ((mr 6), .inl (km_reportDay, 24, .inl fm_reportDay)), ((mr 3), .inl (km_reportKind, 24, .inl fm_reportKind)), ((mr 0), .inl (km_trust, 6, .inl fm_trust)), ((mr 1), .inl (km_letter, 36, .inl fm_letter)), ((mr 20), .inl (km_official, 25, .inl z15)), ((mr 23), .inl (km_out, 80, .inl f_1350))] := hD
              obtain ⟨x_1352, ex_1352⟩ : ∃ y : Int32, y = v2 + 1 := ⟨_, rfl⟩
              have gx_1352 : gi x_1352 1 1 := gi_add ex_1352 g_1336 (gi_c 1 1 (by decide)) (by decide)
              refine lv_iinc (v := x_1352) (lv' := [(2, .int x_1352), (0, .ref h0), (1, .int p1)]) hx hb dX12_tell_120 hl (k := 2) rfl (by rw [ex_1352]; rfl) (by decide) rfl (fun ls hl => ?_)
              refine lv_goto (tgt := 23) hx hb dX12_tell_123 (by decide) ?_
              exact ih x_1352 w0_37 w0_41 x_1351 z1 z2 z3 z4 z5 z6 z15 f_1350 _ _ _ gf_p1 (gi_w gx_1352 (by decide)) gw0_37 gw0_41 (show gi x_1351 0 80 from ⟨by have qgx_1351 := gx_1351.1; have rgx_1351 := gx_1351.2; have igx_1351 : x_1351.toInt = w0_56.toInt + 2 := (by have hc2 : (2 : Int32).toInt = 2 := (by decide); have h9 := gi_addI ex_1351 (by have h1 := gw0_56.1; have h2 := (gi_c 2 2 (by decide)).1; have h3 := gw0_56.2; have h4 := (gi_c 2 2 (by decide)).2; omega) (by have h1 := gw0_56.1; have h2 := (gi_c 2 2 (by decide)).1; have h3 := gw0_56.2; have h4 := (gi_c 2 2 (by decide)).2; omega); rw [hc2] at h9; exact h9); have qgw0_56 := gw0_56.1; have rgw0_56 := gw0_56.2; have qgv2 := g_1336.1; have rgv2 := g_1336.2; have qgr_1342 := g_1349.1; have rgr_1342 := g_1349.2; have qgmi_0 := g_1333.1; have rgmi_0 := g_1333.2; omega, by have qgx_1351 := gx_1351.1; have rgx_1351 := gx_1351.2; have igx_1351 : x_1351.toInt = w0_56.toInt + 2 := (by have hc2 : (2 : Int32).toInt = 2 := (by decide); have h9 := gi_addI ex_1351 (by have h1 := gw0_56.1; have h2 := (gi_c 2 2 (by decide)).1; have h3 := gw0_56.2; have h4 := (gi_c 2 2 (by decide)).2; omega) (by have h1 := gw0_56.1; have h2 := (gi_c 2 2 (by decide)).1; have h3 := gw0_56.2; have h4 := (gi_c 2 2 (by decide)).2; omega); rw [hc2] at h9; exact h9); have qgw0_56 := gw0_56.1; have rgw0_56 := gw0_56.2; have qgv2 := g_1336.1; have rgv2 := g_1336.2; have qgr_1342 := g_1349.1; have rgr_1342 := g_1349.2; have qgmi_0 := g_1333.1; have rgmi_0 := g_1333.2; omega⟩) gz6 (show x_1351.toInt ≤ 3 * x_1352.toInt from by have qgx_1352 := gx_1352.1; have rgx_1352 := gx_1352.2; have igx_1352 : x_1352.toInt = v2.toInt + 1 := (by have hc1 : (1 : Int32).toInt = 1 := (by decide); have h9 := gi_addI ex_1352 (by have h1 := g_1336.1; have h2 := (gi_c 1 1 (by decide)).1; have h3 := g_1336.2; have h4 := (gi_c 1 1 (by decide)).2; omega) (by have h1 := g_1336.1; have h2 := (gi_c 1 1 (by decide)).1; have h3 := g_1336.2; have h4 := (gi_c 1 1 (by decide)).2; omega); rw [hc1] at h9; exact h9); have qgv2 := g_1336.1; have rgv2 := g_1336.2; have qgx_1351 := gx_1351.1; have rgx_1351 := gx_1351.2; have igx_1351 : x_1351.toInt = w0_56.toInt + 2 := (by have hc2 : (2 : Int32).toInt = 2 := (by decide); have h9 := gi_addI ex_1351 (by have h1 := gw0_56.1; have h2 := (gi_c 2 2 (by decide)).1; have h3 := gw0_56.2; have h4 := (gi_c 2 2 (by decide)).2; omega) (by have h1 := gw0_56.1; have h2 := (gi_c 2 2 (by decide)).1; have h3 := gw0_56.2; have h4 := (gi_c 2 2 (by decide)).2; omega); rw [hc2] at h9; exact h9); have qgw0_56 := gw0_56.1; have rgw0_56 := gw0_56.2; have qgr_1342 := g_1349.1; have rgr_1342 := g_1349.2; have qgmi_0 := g_1333.1; have rgmi_0 := g_1333.2; omega) (show 0 ≤ x_1351.toInt from by have qgx_1351 := gx_1351.1; have rgx_1351 := gx_1351.2; have igx_1351 : x_1351.toInt = w0_56.toInt + 2 := (by have hc2 : (2 : Int32).toInt = 2 := (by decide); have h9 := gi_addI ex_1351 (by have h1 := gw0_56.1; have h2 := (gi_c 2 2 (by decide)).1; have h3 := gw0_56.2; have h4 := (gi_c 2 2 (by decide)).2; omega) (by have h1 := gw0_56.1; have h2 := (gi_c 2 2 (by decide)).1; have h3 := gw0_56.2; have h4 := (gi_c 2 2 (by decide)).2; omega); rw [hc2] at h9; exact h9); have qgw0_56 := gw0_56.1; have rgw0_56 := gw0_56.2; have qgv2 := g_1336.1; have rgv2 := g_1336.2; have qgr_1342 := g_1349.1; have rgr_1342 := g_1349.2; have qgmi_0 := g_1333.1; have rgmi_0 := g_1333.2; omega) (by have av2 := gv2.1; have bv2 := gv2.2; have qgx_1352 := gx_1352.1; have rgx_1352 := gx_1352.2; have igx_1352 : x_1352.toInt = v2.toInt + 1 := (by have hc1 : (1 : Int32).toInt = 1 := (by decide); have h9 := gi_addI ex_1352 (by have h1 := g_1336.1; have h2 := (gi_c 1 1 (by decide)).1; have h3 := g_1336.2; have h4 := (gi_c 1 1 (by decide)).2; omega) (by have h1 := g_1336.1; have h2 := (gi_c 1 1 (by decide)).1; have h3 := g_1336.2; have h4 := (gi_c 1 1 (by decide)).2; omega); rw [hc1] at h9; exact h9); have qgv2 := g_1336.1; have rgv2 := g_1336.2; omega) hP hD hS (lv_sub hl [1, 2, 0] rfl)
          · have hc_1353 : r_1337.toInt = 30 := by have h9 := congrArg Int32.toInt c_1338; rw [show (30 : Int32).toInt = 30 from by decide] at h9; exact h9
            have g_1354 : gi r_1337 30 30 := gi_eq c_1338 (gi_c 30 30 (by decide))
            refine lv_bipush (v := 51) hx hb dX12_tell_74 (by decide) ?_
            refine lv_goto (tgt := 81) hx hb dX12_tell_76 (by decide) ?_
            refine va_iast hx hb hK hP hD hS 16 15 rfl rfl (gz_inR (n := 80) (by have qgw0_56 := gw0_56.1; have rgw0_56 := gw0_56.2; have qgv2 := g_1336.1; have rgv2 := g_1336.2; have qgr_1337 := g_1354.1; have rgr_1337 := g_1354.2; have qgmi_0 := g_1333.1; have rgmi_0 := g_1333.2; omega) (by have qgw0_56 := gw0_56.1; have rgw0_56 := gw0_56.2; have qgv2 := g_1336.1; have rgv2 := g_1336.2; have qgr_1337 := g_1354.1; have rgr_1337 := g_1354.2; have qgmi_0 := g_1333.1; have rgmi_0 := g_1333.2; omega)) dX12_tell_81 (fun H locs hP hD hS => ?_)
            have hP : va_P (dC, dI) vwCl [(h0, .inr (12, fsMM (upd (upd (upd mi 37 w0_37) 41 w0_41) 56 w0_56) mr)), ((mr 14), .inl (km_must, 25, .inl z1)), ((mr 15), .inl (km_least, 25, .inl z2)), ((mr 16), .inl (km_pin, 25, .inl z3)), ((mr 17), .inl (km_ways, 6875, .inl z4)), ((mr 18), .inl (km_verdict, 24, .inl z5)), ((mr 19), .inl (km_row, 24, .inl z6)), ((mr 4), .inl (km_struck, 24, .inl fm_struck)), ((mr 7), .inl (km_reportKnown, 24, .inl fm_reportKnown)), ((mr 2), .inl (km_reportPlace, 24, .inl fm_reportPlace)), ((mr 5), .inl (km_reportMonth, 24, .inl fm_reportMonth)), ((mr 6), .inl (km_reportDay, 24, .inl fm_reportDay)), ((mr 3), .inl (km_reportKind, 24, .inl fm_reportKind)), ((mr 0), .inl (km_trust, 6, .inl fm_trust)), ((mr 1), .inl (km_letter, 36, .inl fm_letter)), ((mr 20), .inl (km_official, 25, .inl z15)), ((mr 23), .inl (km_out, 80, .inl (upd z16 (w0_56 : Int32).toNatClampNeg 51)))] H := hP
            have hD : va_D A [(h0, .inr (12, fsMM (upd (upd (upd mi 37 w0_37) 41 w0_41) 56 w0_56) mr)), ((mr 14), .inl (km_must, 25, .inl z1)), ((mr 15), .inl (km_least, 25, .inl z2)), ((mr 16), .inl (km_pin, 25, .inl z3)), ((mr 17), .inl (km_ways, 6875, .inl z4)), ((mr 18), .inl (km_verdict, 24, .inl z5)), ((mr 19), .inl (km_row, 24, .inl z6)), ((mr 4), .inl (km_struck, 24, .inl fm_struck)), ((mr 7), .inl (km_reportKnown, 24, .inl fm_reportKnown)), ((mr 2), .inl (km_reportPlace, 24, .inl fm_reportPlace)), ((mr 5), .inl (km_reportMonth, 24, .inl fm_reportMonth)), ((mr 6), .inl (km_reportDay, 24, .inl fm_reportDay)), ((mr 3), .inl (km_reportKind, 24, .inl fm_reportKind)), ((mr 0), .inl (km_trust, 6, .inl fm_trust)), ((mr 1), .inl (km_letter, 36, .inl fm_letter)), ((mr 20), .inl (km_official, 25, .inl z15)), ((mr 23), .inl (km_out, 80, .inl (upd z16 (w0_56 : Int32).toNatClampNeg 51)))] := hD
            generalize upd z16 (w0_56 : Int32).toNatClampNeg 51 = f_1355 at hP hD
            refine lv_aload_n hx hb dX12_tell_82 rfl (lv_at hl 0 rfl) ?_
            refine va_get (D := (dC, dI)) (ci := 12) (v := .ref (mr 23)) (C := RX12) (T := TX12) (N := 57) hx hb hts (fun w h => List.mem_cons_of_mem _ (jnGB_X12 w h)) hown hK hP 0 rfl rfl 55 (by decide) (hts _ (List.mem_cons_of_mem _ mGB_39)) (fun _ h9 => h9) rfl dX12_tell_83 ?_
            refine lv_aload_n hx hb dX12_tell_86 rfl (lv_at hl 0 rfl) ?_
            refine va_get (D := (dC, dI)) (ci := 12) (v := .int w0_56) (C := RX12) (T := TX12) (N := 57) hx hb hts (fun w h => List.mem_cons_of_mem _ (jnGB_X12 w h)) hown hK hP 0 rfl rfl 56 (by decide) (hts _ (List.mem_cons_of_mem _ mGB_219)) (fun _ h9 => h9) rfl dX12_tell_87 ?_
            refine lv_iconst (v := 1) hx hb dX12_tell_90 (by decide) ?_
            refine lv_iadd hx hb dX12_tell_91 ?_
            refine lv_topi (fun x_1356 ex_1356 => ?_)
            have gx_1356 : gi x_1356 1 81 := gi_add ex_1356 gw0_56 (gi_c 1 1 (by decide)) (by decide)
            refine lv_aload_n hx hb dX12_tell_92 rfl (lv_at hl 0 rfl) ?_
            refine lv_iload_n hx hb dX12_tell_93 rfl (lv_at hl 2 rfl) ?_
            have hPc := hP.sub (ws' := [(h0, .inr (12, fsMM (upd (upd (upd mi 37 w0_37) 41 w0_41) 56 w0_56) mr)), ((mr 20), .inl (km_official, 25, .inl z15))]) [0, 15] rfl
            have hKc := hK.sub (tys' := [(km_official, .int)]) [14] rfl
            refine va_calli (va_runV (As := [.int v2]) (rest := [.int x_1356, .ref (mr 23)]) ⟨hx, hb, hml, hown, hts⟩ (sX12_lengthBy l dC dI h0 (upd (upd (upd mi 37 w0_37) 41 w0_41) 56 w0_56) mr km_official z15 v2 (gi_w g_1333 (by decide)) gmi_1 gmi_2 gmi_4 gmi_7 gmi_10 gmi_17 gmi_23 gmi_24 gmi_26 gmi_29 gmi_30 gmi_33 gw0_37 gw0_41 gmi_50 gmi_51 gw0_56 (gi_w g_1336 (by decide))) (cwV 1 hts (gz_gV mGB_423 mGB_424 mGB_425 mGB_1 mGB_426 goodGB) rfl rfl rfl (by decide +kernel) ⟨Nat.le_trans (Nat.le_of_ble_eq_true rfl) hRf, Nat.le_trans (Nat.le_of_ble_eq_true rfl) hRl⟩) ⟨fun a U g mk q => by obtain ⟨q0, qP, qK⟩ := q; exact ⟨q0, qP, va_K.moved (u := U) (U := U.calling g mk a) (Vm.Alike.refl U.vm) qK⟩, va_recv hKc hPc (ci := 12) (q0 := 0) rfl rfl, fun U hU hW => ⟨rfl, by rw [hU]; exact hPc, va_K.moved hW.alike hKc⟩⟩ rfl rfl hl.1 rfl (lv_room (Nat.le_of_ble_eq_true rfl)) dX12_tell_94 ⟨hRc, hRs⟩) hS (fun q _ h => h.elim) (fun q h => h.elim) (fun r_1357 u t H1 locs ht hvm hw hB hz1 hk1 hS => ?_)
            have hP := gz_keep hP hk1
            generalize H1 = H at hP hS ⊢
            refine lv_bipush (v := 30) hx hb dX12_tell_97 (by decide) ?_
            refine lv_icmp_ne (tgt := 107) hx hb dX12_tell_99 (by decide) (fun c_1358 => ?_) (fun c_1358 => ?_)
            · have hc_1359 : r_1357.toInt ≠ 30 := fun h9 => c_1358 (Int32.toInt_inj.mp (by rw [show (30 : Int32).toInt = 30 from by decide]; exact h9))
              refine lv_bipush (v := 57) hx hb dX12_tell_107 (by decide) ?_
              refine va_iast hx hb hK hP hD hS 16 15 rfl rfl (gz_inR (n := 80) (by have qgx_1356 := gx_1356.1; have rgx_1356 := gx_1356.2; have igx_1356 : x_1356.toInt = w0_56.toInt + 1 := (by have hc1 : (1 : Int32).toInt = 1 := (by decide); have h9 := gi_addI ex_1356 (by have h1 := gw0_56.1; have h2 := (gi_c 1 1 (by decide)).1; have h3 := gw0_56.2; have h4 := (gi_c 1 1 (by decide)).2; omega) (by have h1 := gw0_56.1; have h2 := (gi_c 1 1 (by decide)).1; have h3 := gw0_56.2; have h4 := (gi_c 1 1 (by decide)).2; omega); rw [hc1] at h9; exact h9); have qgw0_56 := gw0_56.1; have rgw0_56 := gw0_56.2; have qgv2 := g_1336.1; have rgv2 := g_1336.2; have qgr_1337 := g_1354.1; have rgr_1337 := g_1354.2; have qgmi_0 := g_1333.1; have rgmi_0 := g_1333.2; omega) (by have qgx_1356 := gx_1356.1; have rgx_1356 := gx_1356.2; have igx_1356 : x_1356.toInt = w0_56.toInt + 1 := (by have hc1 : (1 : Int32).toInt = 1 := (by decide); have h9 := gi_addI ex_1356 (by have h1 := gw0_56.1; have h2 := (gi_c 1 1 (by decide)).1; have h3 := gw0_56.2; have h4 := (gi_c 1 1 (by decide)).2; omega) (by have h1 := gw0_56.1; have h2 := (gi_c 1 1 (by decide)).1; have h3 := gw0_56.2; have h4 := (gi_c 1 1 (by decide)).2; omega); rw [hc1] at h9; exact h9); have qgw0_56 := gw0_56.1; have rgw0_56 := gw0_56.2; have qgv2 := g_1336.1; have rgv2 := g_1336.2; have qgr_1337 := g_1354.1; have rgr_1337 := g_1354.2; have qgmi_0 := g_1333.1; have rgmi_0 := g_1333.2; omega)) dX12_tell_109 (fun H locs hP hD hS => ?_)
              have hP : va_P (dC, dI) vwCl [(h0, .inr (12, fsMM (upd (upd (upd mi 37 w0_37) 41 w0_41) 56 w0_56) mr)), ((mr 14), .inl (km_must, 25, .inl z1)), ((mr 15), .inl (km_least, 25, .inl z2)), ((mr 16), .inl (km_pin, 25, .inl z3)), ((mr 17), .inl (km_ways, 6875, .inl z4)), ((mr 18), .inl (km_verdict, 24, .inl z5)), ((mr 19), .inl (km_row, 24, .inl z6)), ((mr 4), .inl (km_struck, 24, .inl fm_struck)), ((mr 7), .inl (km_reportKnown, 24, .inl fm_reportKnown)), ((mr 2), .inl (km_reportPlace, 24, .inl fm_reportPlace)), ((mr 5), .inl (km_reportMonth, 24, .inl fm_reportMonth)), ((mr 6), .inl (km_reportDay, 24, .inl fm_reportDay)), ((mr 3), .inl (km_reportKind, 24, .inl fm_reportKind)), ((mr 0), .inl (km_trust, 6, .inl fm_trust)), ((mr 1), .inl (km_letter, 36, .inl fm_letter)), ((mr 20), .inl (km_official, 25, .inl z15)), ((mr 23), .inl (km_out, 80, .inl (upd f_1355 (x_1356 : Int32).toNatClampNeg 57)))] H := hP
              have hD : va_D A [(h0, .inr (12, fsMM (upd (upd (upd mi 37 w0_37) 41 w0_41) 56 w0_56) mr)), ((mr 14), .inl (km_must, 25, .inl z1)), ((mr 15), .inl (km_least, 25, .inl z2)), ((mr 16), .inl (km_pin, 25, .inl z3)), ((mr 17), .inl (km_ways, 6875, .inl z4)), ((mr 18), .inl (km_verdict, 24, .inl z5)), ((mr 19), .inl (km_row, 24, .inl z6)), ((mr 4), .inl (km_struck, 24, .inl fm_struck)), ((mr 7), .inl (km_reportKnown, 24, .inl fm_reportKnown)), ((mr 2), .inl (km_reportPlace, 24, .inl fm_reportPlace)), ((mr 5), .inl (km_reportMonth, 24, .inl fm_reportMonth)), ((mr 6), .inl (km_reportDay, 24, .inl fm_reportDay)), ((mr 3), .inl (km_reportKind, 24, .inl fm_reportKind)), ((mr 0), .inl (km_trust, 6, .inl fm_trust)), ((mr 1), .inl (km_letter, 36, .inl fm_letter)), ((mr 20), .inl (km_official, 25, .inl z15)), ((mr 23), .inl (km_out, 80, .inl (upd f_1355 (x_1356 : Int32).toNatClampNeg 57)))] := hD
              generalize upd f_1355 (x_1356 : Int32).toNatClampNeg 57 = f_1360 at hP hD
              refine lv_aload_n hx hb dX12_tell_110 rfl (lv_at hl 0 rfl) ?_
              refine lv_dup hx hb dX12_tell_111 rfl ?_
              refine va_get (D := (dC, dI)) (ci := 12) (v := .int w0_56) (C := RX12) (T := TX12) (N := 57) hx hb hts (fun w h => List.mem_cons_of_mem _ (jnGB_X12 w h)) hown hK hP 0 rfl rfl 56 (by decide) (hts _ (List.mem_cons_of_mem _ mGB_219)) (fun _ h9 => h9) rfl dX12_tell_112 ?_
              refine lv_iconst (v := 2) hx hb dX12_tell_115 (by decide) ?_
              refine lv_iadd hx hb dX12_tell_116 ?_
              refine lv_topi (fun x_1361 ex_1361 => ?_)
              have gx_1361 : gi x_1361 2 82 := gi_add ex_1361 gw0_56 (gi_c 2 2 (by decide)) (by decide)
              refine va_put (D := (dC, dI)) (ci := 12) (v := .int x_1361) (ty := .int) (C := RX12) (T := TX12) (N := 57) hx hb hts (fun w h => List.mem_cons_of_mem _ (jnGB_X12 w h)) tyX12 tyX12_ok nmX12 hown hK hP hD hS 0 rfl rfl 56 (by decide) (hts _ (List.mem_cons_of_mem _ mGB_219)) (fun _ h9 => h9) rfl (by decide +kernel) rfl rfl (Nat.le_of_ble_eq_true rfl) dX12_tell_117 (fun H locs hP hD hS => ?_)
              have hP : va_P (dC, dI) vwCl [(h0, .inr (12, fsMM (upd (upd (upd mi 37 w0_37) 41 w0_41) 56 x_1361) mr)), ((mr 14), .inl (km_must, 25, .inl z1)), ((mr 15), .inl (km_least, 25, .inl z2)), ((mr 16), .inl (km_pin, 25, .inl z3)), ((mr 17), .inl (km_ways, 6875, .inl z4)), ((mr 18), .inl (km_verdict, 24, .inl z5)), ((mr 19), .inl (km_row, 24, .inl z6)), ((mr 4), .inl (km_struck, 24, .inl fm_struck)), ((mr 7), .inl (km_reportKnown, 24, .inl fm_reportKnown)), ((mr 2), .inl (km_reportPlace, 24, .inl fm_reportPlace)), ((mr 5), .inl (km_reportMonth, 24, .inl fm_reportMonth)), ((mr 6), .inl (km_reportDay, 24, .inl fm_reportDay)), ((mr 3), .inl (km_reportKind, 24, .inl fm_reportKind)), ((mr 0), .inl (km_trust, 6, .inl fm_trust)), ((mr 1), .inl (km_letter, 36, .inl fm_letter)), ((mr 20), .inl (km_official, 25, .inl z15)), ((mr 23), .inl (km_out, 80, .inl f_1360))] H := hP
              have hD : va_D A [(h0, .inr (12, fsMM (upd (upd (upd mi 37 w0_37) 41 w0_41) 56 x_1361) mr)), ((mr 14), .inl (km_must, 25, .inl z1)), ((mr 15), .inl (km_least, 25, .inl z2)), ((mr 16), .inl (km_pin, 25, .inl z3)), ((mr 17), .inl (km_ways, 6875, .inl z4)), ((mr 18), .inl (km_verdict, 24, .inl z5)), ((mr 19), .inl (km_row, 24, .inl z6)), ((mr 4), .inl (km_struck, 24, .inl fm_struck)), ((mr 7), .inl (km_reportKnown, 24, .inl fm_reportKnown)), ((mr 2), .inl (km_reportPlace, 24, .inl fm_reportPlace)), ((mr 5), .inl (km_reportMonth, 24, .inl fm_reportMonth)), ((mr 6), .inl (km_reportDay, 24, .inl fm_reportDay)), ((mr 3), .inl (km_reportKind, 24, .inl fm_reportKind)), ((mr 0), .inl (km_trust, 6, .inl fm_trust)), ((mr 1), .inl (km_letter, 36, .inl fm_letter)), ((mr 20), .inl (km_official, 25, .inl z15)), ((mr 23), .inl (km_out, 80, .inl f_1360))] := hD
              obtain ⟨x_1362, ex_1362⟩ : ∃ y : Int32, y = v2 + 1 := ⟨_, rfl⟩
              have gx_1362 : gi x_1362 1 1 := gi_add ex_1362 g_1336 (gi_c 1 1 (by decide)) (by decide)
              refine lv_iinc (v := x_1362) (lv' := [(2, .int x_1362), (0, .ref h0), (1, .int p1)]) hx hb dX12_tell_120 hl (k := 2) rfl (by rw [ex_1362]; rfl) (by decide) rfl (fun ls hl => ?_)
              refine lv_goto (tgt := 23) hx hb dX12_tell_123 (by decide) ?_
              exact ih x_1362 w0_37 w0_41 x_1361 z1 z2 z3 z4 z5 z6 z15 f_1360 _ _ _ gf_p1 (gi_w gx_1362 (by decide)) gw0_37 gw0_41 (show gi x_1361 0 80 from ⟨by have qgx_1361 := gx_1361.1; have rgx_1361 := gx_1361.2; have igx_1361 : x_1361.toInt = w0_56.toInt + 2 := (by have hc2 : (2 : Int32).toInt = 2 := (by decide); have h9 := gi_addI ex_1361 (by have h1 := gw0_56.1; have h2 := (gi_c 2 2 (by decide)).1; have h3 := gw0_56.2; have h4 := (gi_c 2 2 (by decide)).2; omega) (by have h1 := gw0_56.1; have h2 := (gi_c 2 2 (by decide)).1; have h3 := gw0_56.2; have h4 := (gi_c 2 2 (by decide)).2; omega); rw [hc2] at h9; exact h9); have qgw0_56 := gw0_56.1; have rgw0_56 := gw0_56.2; have qgv2 := g_1336.1; have rgv2 := g_1336.2; have qgr_1337 := g_1354.1; have rgr_1337 := g_1354.2; have qgmi_0 := g_1333.1; have rgmi_0 := g_1333.2; omega, by have qgx_1361 := gx_1361.1; have rgx_1361 := gx_1361.2; have igx_1361 : x_1361.toInt = w0_56.toInt + 2 := (by have hc2 : (2 : Int32).toInt = 2 := (by decide); have h9 := gi_addI ex_1361 (by have h1 := gw0_56.1; have h2 := (gi_c 2 2 (by decide)).1; have h3 := gw0_56.2; have h4 := (gi_c 2 2 (by decide)).2; omega) (by have h1 := gw0_56.1; have h2 := (gi_c 2 2 (by decide)).1; have h3 := gw0_56.2; have h4 := (gi_c 2 2 (by decide)).2; omega); rw [hc2] at h9; exact h9); have qgw0_56 := gw0_56.1; have rgw0_56 := gw0_56.2; have qgv2 := g_1336.1; have rgv2 := g_1336.2; have qgr_1337 := g_1354.1; have rgr_1337 := g_1354.2; have qgmi_0 := g_1333.1; have rgmi_0 := g_1333.2; omega⟩) gz6 (show x_1361.toInt ≤ 3 * x_1362.toInt from by have qgx_1362 := gx_1362.1; have rgx_1362 := gx_1362.2; have igx_1362 : x_1362.toInt = v2.toInt + 1 := (by have hc1 : (1 : Int32).toInt = 1 := (by decide); have h9 := gi_addI ex_1362 (by have h1 := g_1336.1; have h2 := (gi_c 1 1 (by decide)).1; have h3 := g_1336.2; have h4 := (gi_c 1 1 (by decide)).2; omega) (by have h1 := g_1336.1; have h2 := (gi_c 1 1 (by decide)).1; have h3 := g_1336.2; have h4 := (gi_c 1 1 (by decide)).2; omega); rw [hc1] at h9; exact h9); have qgv2 := g_1336.1; have rgv2 := g_1336.2; have qgx_1361 := gx_1361.1; have rgx_1361 := gx_1361.2; have igx_1361 : x_1361.toInt = w0_56.toInt + 2 := (by have hc2 : (2 : Int32).toInt = 2 := (by decide); have h9 := gi_addI ex_1361 (by have h1 := gw0_56.1; have h2 := (gi_c 2 2 (by decide)).1; have h3 := gw0_56.2; have h4 := (gi_c 2 2 (by decide)).2; omega) (by have h1 := gw0_56.1; have h2 := (gi_c 2 2 (by decide)).1; have h3 := gw0_56.2; have h4 := (gi_c 2 2 (by decide)).2; omega); rw [hc2] at h9; exact h9); have qgw0_56 := gw0_56.1; have rgw0_56 := gw0_56.2; have qgr_1337 := g_1354.1; have rgr_1337 := g_1354.2; have qgmi_0 := g_1333.1; have rgmi_0 := g_1333.2; omega) (show 0 ≤ x_1361.toInt from by have qgx_1361 := gx_1361.1; have rgx_1361 := gx_1361.2; have igx_1361 : x_1361.toInt = w0_56.toInt + 2 := (by have hc2 : (2 : Int32).toInt = 2 := (by decide); have h9 := gi_addI ex_1361 (by have h1 := gw0_56.1; have h2 := (gi_c 2 2 (by decide)).1; have h3 := gw0_56.2; have h4 := (gi_c 2 2 (by decide)).2; omega) (by have h1 := gw0_56.1; have h2 := (gi_c 2 2 (by decide)).1; have h3 := gw0_56.2; have h4 := (gi_c 2 2 (by decide)).2; omega); rw [hc2] at h9; exact h9); have qgw0_56 := gw0_56.1; have rgw0_56 := gw0_56.2; have qgv2 := g_1336.1; have rgv2 := g_1336.2; have qgr_1337 := g_1354.1; have rgr_1337 := g_1354.2; have qgmi_0 := g_1333.1; have rgmi_0 := g_1333.2; omega) (by have av2 := gv2.1; have bv2 := gv2.2; have qgx_1362 := gx_1362.1; have rgx_1362 := gx_1362.2; have igx_1362 : x_1362.toInt = v2.toInt + 1 := (by have hc1 : (1 : Int32).toInt = 1 := (by decide); have h9 := gi_addI ex_1362 (by have h1 := g_1336.1; have h2 := (gi_c 1 1 (by decide)).1; have h3 := g_1336.2; have h4 := (gi_c 1 1 (by decide)).2; omega) (by have h1 := g_1336.1; have h2 := (gi_c 1 1 (by decide)).1; have h3 := g_1336.2; have h4 := (gi_c 1 1 (by decide)).2; omega); rw [hc1] at h9; exact h9); have qgv2 := g_1336.1; have rgv2 := g_1336.2; omega) hP hD hS (lv_sub hl [1, 2, 0] rfl)
            · have hc_1363 : r_1357.toInt = 30 := by have h9 := congrArg Int32.toInt c_1358; rw [show (30 : Int32).toInt = 30 from by decide] at h9; exact h9
              have g_1364 : gi r_1357 30 30 := gi_eq c_1358 (gi_c 30 30 (by decide))
              refine lv_bipush (v := 48) hx hb dX12_tell_102 (by decide) ?_
              refine lv_goto (tgt := 109) hx hb dX12_tell_104 (by decide) ?_
              refine va_iast hx hb hK hP hD hS 16 15 rfl rfl (gz_inR (n := 80) (by have qgx_1356 := gx_1356.1; have rgx_1356 := gx_1356.2; have igx_1356 : x_1356.toInt = w0_56.toInt + 1 := (by have hc1 : (1 : Int32).toInt = 1 := (by decide); have h9 := gi_addI ex_1356 (by have h1 := gw0_56.1; have h2 := (gi_c 1 1 (by decide)).1; have h3 := gw0_56.2; have h4 := (gi_c 1 1 (by decide)).2; omega) (by have h1 := gw0_56.1; have h2 := (gi_c 1 1 (by decide)).1; have h3 := gw0_56.2; have h4 := (gi_c 1 1 (by decide)).2; omega); rw [hc1] at h9; exact h9); have qgw0_56 := gw0_56.1; have rgw0_56 := gw0_56.2; have qgv2 := g_1336.1; have rgv2 := g_1336.2; have qgr_1357 := g_1364.1; have rgr_1357 := g_1364.2; have qgr_1337 := g_1354.1; have rgr_1337 := g_1354.2; have qgmi_0 := g_1333.1; have rgmi_0 := g_1333.2; omega) (by have qgx_1356 := gx_1356.1; have rgx_1356 := gx_1356.2; have igx_1356 : x_1356.toInt = w0_56.toInt + 1 := (by have hc1 : (1 : Int32).toInt = 1 := (by decide); have h9 := gi_addI ex_1356 (by have h1 := gw0_56.1; have h2 := (gi_c 1 1 (by decide)).1; have h3 := gw0_56.2; have h4 := (gi_c 1 1 (by decide)).2; omega) (by have h1 := gw0_56.1; have h2 := (gi_c 1 1 (by decide)).1; have h3 := gw0_56.2; have h4 := (gi_c 1 1 (by decide)).2; omega); rw [hc1] at h9; exact h9); have qgw0_56 := gw0_56.1; have rgw0_56 := gw0_56.2; have qgv2 := g_1336.1; have rgv2 := g_1336.2; have qgr_1357 := g_1364.1; have rgr_1357 := g_1364.2; have qgr_1337 := g_1354.1; have rgr_1337 := g_1354.2; have qgmi_0 := g_1333.1; have rgmi_0 := g_1333.2; omega)) dX12_tell_109 (fun H locs hP hD hS => ?_)
              have hP : va_P (dC, dI) vwCl [(h0, .inr (12, fsMM (upd (upd (upd mi 37 w0_37) 41 w0_41) 56 w0_56) mr)), ((mr 14), .inl (km_must, 25, .inl z1)), ((mr 15), .inl (km_least, 25, .inl z2)), ((mr 16), .inl (km_pin, 25, .inl z3)), ((mr 17), .inl (km_ways, 6875, .inl z4)), ((mr 18), .inl (km_verdict, 24, .inl z5)), ((mr 19), .inl (km_row, 24, .inl z6)), ((mr 4), .inl (km_struck, 24, .inl fm_struck)), ((mr 7), .inl (km_reportKnown, 24, .inl fm_reportKnown)), ((mr 2), .inl (km_reportPlace, 24, .inl fm_reportPlace)), ((mr 5), .inl (km_reportMonth, 24, .inl fm_reportMonth)), ((mr 6), .inl (km_reportDay, 24, .inl fm_reportDay)), ((mr 3), .inl (km_reportKind, 24, .inl fm_reportKind)), ((mr 0), .inl (km_trust, 6, .inl fm_trust)), ((mr 1), .inl (km_letter, 36, .inl fm_letter)), ((mr 20), .inl (km_official, 25, .inl z15)), ((mr 23), .inl (km_out, 80, .inl (upd f_1355 (x_1356 : Int32).toNatClampNeg 48)))] H := hP
              have hD : va_D A [(h0, .inr (12, fsMM (upd (upd (upd mi 37 w0_37) 41 w0_41) 56 w0_56) mr)), ((mr 14), .inl (km_must, 25, .inl z1)), ((mr 15), .inl (km_least, 25, .inl z2)), ((mr 16), .inl (km_pin, 25, .inl z3)), ((mr 17), .inl (km_ways, 6875, .inl z4)), ((mr 18), .inl (km_verdict, 24, .inl z5)), ((mr 19), .inl (km_row, 24, .inl z6)), ((mr 4), .inl (km_struck, 24, .inl fm_struck)), ((mr 7), .inl (km_reportKnown, 24, .inl fm_reportKnown)), ((mr 2), .inl (km_reportPlace, 24, .inl fm_reportPlace)), ((mr 5), .inl (km_reportMonth, 24, .inl fm_reportMonth)), ((mr 6), .inl (km_reportDay, 24, .inl fm_reportDay)), ((mr 3), .inl (km_reportKind, 24, .inl fm_reportKind)), ((mr 0), .inl (km_trust, 6, .inl fm_trust)), ((mr 1), .inl (km_letter, 36, .inl fm_letter)), ((mr 20), .inl (km_official, 25, .inl z15)), ((mr 23), .inl (km_out, 80, .inl (upd f_1355 (x_1356 : Int32).toNatClampNeg 48)))] := hD
              generalize upd f_1355 (x_1356 : Int32).toNatClampNeg 48 = f_1365 at hP hD
              refine lv_aload_n hx hb dX12_tell_110 rfl (lv_at hl 0 rfl) ?_
              refine lv_dup hx hb dX12_tell_111 rfl ?_
              refine va_get (D := (dC, dI)) (ci := 12) (v := .int w0_56) (C := RX12) (T := TX12) (N := 57) hx hb hts (fun w h => List.mem_cons_of_mem _ (jnGB_X12 w h)) hown hK hP 0 rfl rfl 56 (by decide) (hts _ (List.mem_cons_of_mem _ mGB_219)) (fun _ h9 => h9) rfl dX12_tell_112 ?_
              refine lv_iconst (v := 2) hx hb dX12_tell_115 (by decide) ?_
              refine lv_iadd hx hb dX12_tell_116 ?_
              refine lv_topi (fun x_1366 ex_1366 => ?_)
              have gx_1366 : gi x_1366 2 82 := gi_add ex_1366 gw0_56 (gi_c 2 2 (by decide)) (by decide)
              refine va_put (D := (dC, dI)) (ci := 12) (v := .int x_1366) (ty := .int) (C := RX12) (T := TX12) (N := 57) hx hb hts (fun w h => List.mem_cons_of_mem _ (jnGB_X12 w h)) tyX12 tyX12_ok nmX12 hown hK hP hD hS 0 rfl rfl 56 (by decide) (hts _ (List.mem_cons_of_mem _ mGB_219)) (fun _ h9 => h9) rfl (by decide +kernel) rfl rfl (Nat.le_of_ble_eq_true rfl) dX12_tell_117 (fun H locs hP hD hS => ?_)
              have hP : va_P (dC, dI) vwCl [(h0, .inr (12, fsMM (upd (upd (upd mi 37 w0_37) 41 w0_41) 56 x_1366) mr)), ((mr 14), .inl (km_must, 25, .inl z1)), ((mr 15), .inl (km_least, 25, .inl z2)), ((mr 16), .inl (km_pin, 25, .inl z3)), ((mr 17), .inl (km_ways, 6875, .inl z4)), ((mr 18), .inl (km_verdict, 24, .inl z5)), ((mr 19), .inl (km_row, 24, .inl z6)), ((mr 4), .inl (km_struck, 24, .inl fm_struck)), ((mr 7), .inl (km_reportKnown, 24, .inl fm_reportKnown)), ((mr 2), .inl (km_reportPlace, 24, .inl fm_reportPlace)), ((mr 5), .inl (km_reportMonth, 24, .inl fm_reportMonth)), ((mr 6), .inl (km_reportDay, 24, .inl fm_reportDay)), ((mr 3), .inl (km_reportKind, 24, .inl fm_reportKind)), ((mr 0), .inl (km_trust, 6, .inl fm_trust)), ((mr 1), .inl (km_letter, 36, .inl fm_letter)), ((mr 20), .inl (km_official, 25, .inl z15)), ((mr 23), .inl (km_out, 80, .inl f_1365))] H := hP
              have hD : va_D A [(h0, .inr (12, fsMM (upd (upd (upd mi 37 w0_37) 41 w0_41) 56 x_1366) mr)), ((mr 14), .inl (km_must, 25, .inl z1)), ((mr 15), .inl (km_least, 25, .inl z2)), ((mr 16), .inl (km_pin, 25, .inl z3)), ((mr 17), .inl (km_ways, 6875, .inl z4)), ((mr 18), .inl (km_verdict, 24, .inl z5)), ((mr 19), .inl (km_row, 24, .inl z6)), ((mr 4), .inl (km_struck, 24, .inl fm_struck)), ((mr 7), .inl (km_reportKnown, 24, .inl fm_reportKnown)), ((mr 2), .inl (km_reportPlace, 24, .inl fm_reportPlace)), ((mr 5), .inl (km_reportMonth, 24, .inl fm_reportMonth)), ((mr 6), .inl (km_reportDay, 24, .inl fm_reportDay)), ((mr 3), .inl (km_reportKind, 24, .inl fm_reportKind)), ((mr 0), .inl (km_trust, 6, .inl fm_trust)), ((mr 1), .inl (km_letter, 36, .inl fm_letter)), ((mr 20), .inl (km_official, 25, .inl z15)), ((mr 23), .inl (km_out, 80, .inl f_1365))] := hD
              obtain ⟨x_1367, ex_1367⟩ : ∃ y : Int32, y = v2 + 1 := ⟨_, rfl⟩
              have gx_1367 : gi x_1367 1 1 := gi_add ex_1367 g_1336 (gi_c 1 1 (by decide)) (by decide)
              refine lv_iinc (v := x_1367) (lv' := [(2, .int x_1367), (0, .ref h0), (1, .int p1)]) hx hb dX12_tell_120 hl (k := 2) rfl (by rw [ex_1367]; rfl) (by decide) rfl (fun ls hl => ?_)
              refine lv_goto (tgt := 23) hx hb dX12_tell_123 (by decide) ?_
              exact ih x_1367 w0_37 w0_41 x_1366 z1 z2 z3 z4 z5 z6 z15 f_1365 _ _ _ gf_p1 (gi_w gx_1367 (by decide)) gw0_37 gw0_41 (show gi x_1366 0 80 from ⟨by have qgx_1366 := gx_1366.1; have rgx_1366 := gx_1366.2; have igx_1366 : x_1366.toInt = w0_56.toInt + 2 := (by have hc2 : (2 : Int32).toInt = 2 := (by decide); have h9 := gi_addI ex_1366 (by have h1 := gw0_56.1; have h2 := (gi_c 2 2 (by decide)).1; have h3 := gw0_56.2; have h4 := (gi_c 2 2 (by decide)).2; omega) (by have h1 := gw0_56.1; have h2 := (gi_c 2 2 (by decide)).1; have h3 := gw0_56.2; have h4 := (gi_c 2 2 (by decide)).2; omega); rw [hc2] at h9; exact h9); have qgw0_56 := gw0_56.1; have rgw0_56 := gw0_56.2; have qgv2 := g_1336.1; have rgv2 := g_1336.2; have qgr_1357 := g_1364.1; have rgr_1357 := g_1364.2; have qgr_1337 := g_1354.1; have rgr_1337 := g_1354.2; have qgmi_0 := g_1333.1; have rgmi_0 := g_1333.2; omega, by have qgx_1366 := gx_1366.1; have rgx_1366 := gx_1366.2; have igx_1366 : x_1366.toInt = w0_56.toInt + 2 := (by have hc2 : (2 : Int32).toInt = 2 := (by decide); have h9 := gi_addI ex_1366 (by have h1 := gw0_56.1; have h2 := (gi_c 2 2 (by decide)).1; have h3 := gw0_56.2; have h4 := (gi_c 2 2 (by decide)).2; omega) (by have h1 := gw0_56.1; have h2 := (gi_c 2 2 (by decide)).1; have h3 := gw0_56.2; have h4 := (gi_c 2 2 (by decide)).2; omega); rw [hc2] at h9; exact h9); have qgw0_56 := gw0_56.1; have rgw0_56 := gw0_56.2; have qgv2 := g_1336.1; have rgv2 := g_1336.2; have qgr_1357 := g_1364.1; have rgr_1357 := g_1364.2; have qgr_1337 := g_1354.1; have rgr_1337 := g_1354.2; have qgmi_0 := g_1333.1; have rgmi_0 := g_1333.2; omega⟩) gz6 (show x_1366.toInt ≤ 3 * x_1367.toInt from by have qgx_1367 := gx_1367.1; have rgx_1367 := gx_1367.2; have igx_1367 : x_1367.toInt = v2.toInt + 1 := (by have hc1 : (1 : Int32).toInt = 1 := (by decide); have h9 := gi_addI ex_1367 (by have h1 := g_1336.1; have h2 := (gi_c 1 1 (by decide)).1; have h3 := g_1336.2; have h4 := (gi_c 1 1 (by decide)).2; omega) (by have h1 := g_1336.1; have h2 := (gi_c 1 1 (by decide)).1; have h3 := g_1336.2; have h4 := (gi_c 1 1 (by decide)).2; omega); rw [hc1] at h9; exact h9); have qgv2 := g_1336.1; have rgv2 := g_1336.2; have qgx_1366 := gx_1366.1; have rgx_1366 := gx_1366.2; have igx_1366 : x_1366.toInt = w0_56.toInt + 2 := (by have hc2 : (2 : Int32).toInt = 2 := (by decide); have h9 := gi_addI ex_1366 (by have h1 := gw0_56.1; have h2 := (gi_c 2 2 (by decide)).1; have h3 := gw0_56.2; have h4 := (gi_c 2 2 (by decide)).2; omega) (by have h1 := gw0_56.1; have h2 := (gi_c 2 2 (by decide)).1; have h3 := gw0_56.2; have h4 := (gi_c 2 2 (by decide)).2; omega); rw [hc2] at h9; exact h9); have qgw0_56 := gw0_56.1; have rgw0_56 := gw0_56.2; have qgr_1357 := g_1364.1; have rgr_1357 := g_1364.2; have qgr_1337 := g_1354.1; have rgr_1337 := g_1354.2; have qgmi_0 := g_1333.1; have rgmi_0 := g_1333.2; omega) (show 0 ≤ x_1366.toInt from by have qgx_1366 := gx_1366.1; have rgx_1366 := gx_1366.2; have igx_1366 : x_1366.toInt = w0_56.toInt + 2 := (by have hc2 : (2 : Int32).toInt = 2 := (by decide); have h9 := gi_addI ex_1366 (by have h1 := gw0_56.1; have h2 := (gi_c 2 2 (by decide)).1; have h3 := gw0_56.2; have h4 := (gi_c 2 2 (by decide)).2; omega) (by have h1 := gw0_56.1; have h2 := (gi_c 2 2 (by decide)).1; have h3 := gw0_56.2; have h4 := (gi_c 2 2 (by decide)).2; omega); rw [hc2] at h9; exact h9); have qgw0_56 := gw0_56.1; have rgw0_56 := gw0_56.2; have qgv2 := g_1336.1; have rgv2 := g_1336.2; have qgr_1357 := g_1364.1; have rgr_1357 := g_1364.2; have qgr_1337 := g_1354.1; have rgr_1337 := g_1354.2; have qgmi_0 := g_1333.1; have rgmi_0 := g_1333.2; omega) (by have av2 := gv2.1; have bv2 := gv2.2; have qgx_1367 := gx_1367.1; have rgx_1367 := gx_1367.2; have igx_1367 : x_1367.toInt = v2.toInt + 1 := (by have hc1 : (1 : Int32).toInt = 1 := (by decide); have h9 := gi_addI ex_1367 (by have h1 := g_1336.1; have h2 := (gi_c 1 1 (by decide)).1; have h3 := g_1336.2; have h4 := (gi_c 1 1 (by decide)).2; omega) (by have h1 := g_1336.1; have h2 := (gi_c 1 1 (by decide)).1; have h3 := g_1336.2; have h4 := (gi_c 1 1 (by decide)).2; omega); rw [hc1] at h9; exact h9); have qgv2 := g_1336.1; have rgv2 := g_1336.2; omega) hP hD hS (lv_sub hl [1, 2, 0] rfl)
        · have hc_1368 : 0 < v2.toInt := by have h9 := Int32.lt_iff_toInt_lt.mp (Int32.not_le.mp c_1334); rw [show (0 : Int32).toInt = 0 from by decide] at h9; exact h9
          have g_1369 : gi v2 1 23 := gi_lt_r (Int32.not_le.mp c_1334) (gi_c 0 0 (by decide)) g_1332 (by decide)
          refine lv_aload_n hx hb dX12_tell_35 rfl (lv_at hl 0 rfl) ?_
          refine va_get (D := (dC, dI)) (ci := 12) (v := .ref (mr 23)) (C := RX12) (T := TX12) (N := 57) hx hb hts (fun w h => List.mem_cons_of_mem _ (jnGB_X12 w h)) hown hK hP 0 rfl rfl 55 (by decide) (hts _ (List.mem_cons_of_mem _ mGB_39)) (fun _ h9 => h9) rfl dX12_tell_36 ?_
          refine lv_aload_n hx hb dX12_tell_39 rfl (lv_at hl 0 rfl) ?_
          refine va_get (D := (dC, dI)) (ci := 12) (v := .int w0_56) (C := RX12) (T := TX12) (N := 57) hx hb hts (fun w h => List.mem_cons_of_mem _ (jnGB_X12 w h)) hown hK hP 0 rfl rfl 56 (by decide) (hts _ (List.mem_cons_of_mem _ mGB_219)) (fun _ h9 => h9) rfl dX12_tell_40 ?_
          refine lv_bipush (v := 32) hx hb dX12_tell_43 (by decide) ?_
          refine va_iast hx hb hK hP hD hS 16 15 rfl rfl (gz_inR (n := 80) (by have qgw0_56 := gw0_56.1; have rgw0_56 := gw0_56.2; have qgv2 := g_1369.1; have rgv2 := g_1369.2; have qgmi_0 := g_1333.1; have rgmi_0 := g_1333.2; omega) (by have qgw0_56 := gw0_56.1; have rgw0_56 := gw0_56.2; have qgv2 := g_1369.1; have rgv2 := g_1369.2; have qgmi_0 := g_1333.1; have rgmi_0 := g_1333.2; omega)) dX12_tell_45 (fun H locs hP hD hS => ?_)
          have hP : va_P (dC, dI) vwCl [(h0, .inr (12, fsMM (upd (upd (upd mi 37 w0_37) 41 w0_41) 56 w0_56) mr)), ((mr 14), .inl (km_must, 25, .inl z1)), ((mr 15), .inl (km_least, 25, .inl z2)), ((mr 16), .inl (km_pin, 25, .inl z3)), ((mr 17), .inl (km_ways, 6875, .inl z4)), ((mr 18), .inl (km_verdict, 24, .inl z5)), ((mr 19), .inl (km_row, 24, .inl z6)), ((mr 4), .inl (km_struck, 24, .inl fm_struck)), ((mr 7), .inl (km_reportKnown, 24, .inl fm_reportKnown)), ((mr 2), .inl (km_reportPlace, 24, .inl fm_reportPlace)), ((mr 5), .inl (km_reportMonth, 24, .inl fm_reportMonth)), ((mr 6), .inl (km_reportDay, 24, .inl fm_reportDay)), ((mr 3), .inl (km_reportKind, 24, .inl fm_reportKind)), ((mr 0), .inl (km_trust, 6, .inl fm_trust)), ((mr 1), .inl (km_letter, 36, .inl fm_letter)), ((mr 20), .inl (km_official, 25, .inl z15)), ((mr 23), .inl (km_out, 80, .inl (upd z16 (w0_56 : Int32).toNatClampNeg 32)))] H := hP
          have hD : va_D A [(h0, .inr (12, fsMM (upd (upd (upd mi 37 w0_37) 41 w0_41) 56 w0_56) mr)), ((mr 14), .inl (km_must, 25, .inl z1)), ((mr 15), .inl (km_least, 25, .inl z2)), ((mr 16), .inl (km_pin, 25, .inl z3)), ((mr 17), .inl (km_ways, 6875, .inl z4)), ((mr 18), .inl (km_verdict, 24, .inl z5)), ((mr 19), .inl (km_row, 24, .inl z6)), ((mr 4), .inl (km_struck, 24, .inl fm_struck)), ((mr 7), .inl (km_reportKnown, 24, .inl fm_reportKnown)), ((mr 2), .inl (km_reportPlace, 24, .inl fm_reportPlace)), ((mr 5), .inl (km_reportMonth, 24, .inl fm_reportMonth)), ((mr 6), .inl (km_reportDay, 24, .inl fm_reportDay)), ((mr 3), .inl (km_reportKind, 24, .inl fm_reportKind)), ((mr 0), .inl (km_trust, 6, .inl fm_trust)), ((mr 1), .inl (km_letter, 36, .inl fm_letter)), ((mr 20), .inl (km_official, 25, .inl z15)), ((mr 23), .inl (km_out, 80, .inl (upd z16 (w0_56 : Int32).toNatClampNeg 32)))] := hD
          generalize upd z16 (w0_56 : Int32).toNatClampNeg 32 = f_1370 at hP hD
          refine lv_aload_n hx hb dX12_tell_46 rfl (lv_at hl 0 rfl) ?_
          refine lv_dup hx hb dX12_tell_47 rfl ?_
          refine va_get (D := (dC, dI)) (ci := 12) (v := .int w0_56) (C := RX12) (T := TX12) (N := 57) hx hb hts (fun w h => List.mem_cons_of_mem _ (jnGB_X12 w h)) hown hK hP 0 rfl rfl 56 (by decide) (hts _ (List.mem_cons_of_mem _ mGB_219)) (fun _ h9 => h9) rfl dX12_tell_48 ?_
          refine lv_iconst (v := 1) hx hb dX12_tell_51 (by decide) ?_
          refine lv_iadd hx hb dX12_tell_52 ?_
          refine lv_topi (fun x_1371 ex_1371 => ?_)
          have gx_1371 : gi x_1371 1 81 := gi_add ex_1371 gw0_56 (gi_c 1 1 (by decide)) (by decide)
          refine va_put (D := (dC, dI)) (ci := 12) (v := .int x_1371) (ty := .int) (C := RX12) (T := TX12) (N := 57) hx hb hts (fun w h => List.mem_cons_of_mem _ (jnGB_X12 w h)) tyX12 tyX12_ok nmX12 hown hK hP hD hS 0 rfl rfl 56 (by decide) (hts _ (List.mem_cons_of_mem _ mGB_219)) (fun _ h9 => h9) rfl (by decide +kernel) rfl rfl (Nat.le_of_ble_eq_true rfl) dX12_tell_53 (fun H locs hP hD hS => ?_)
          have hP : va_P (dC, dI) vwCl [(h0, .inr (12, fsMM (upd (upd (upd mi 37 w0_37) 41 w0_41) 56 x_1371) mr)), ((mr 14), .inl (km_must, 25, .inl z1)), ((mr 15), .inl (km_least, 25, .inl z2)), ((mr 16), .inl (km_pin, 25, .inl z3)), ((mr 17), .inl (km_ways, 6875, .inl z4)), ((mr 18), .inl (km_verdict, 24, .inl z5)), ((mr 19), .inl (km_row, 24, .inl z6)), ((mr 4), .inl (km_struck, 24, .inl fm_struck)), ((mr 7), .inl (km_reportKnown, 24, .inl fm_reportKnown)), ((mr 2), .inl (km_reportPlace, 24, .inl fm_reportPlace)), ((mr 5), .inl (km_reportMonth, 24, .inl fm_reportMonth)), ((mr 6), .inl (km_reportDay, 24, .inl fm_reportDay)), ((mr 3), .inl (km_reportKind, 24, .inl fm_reportKind)), ((mr 0), .inl (km_trust, 6, .inl fm_trust)), ((mr 1), .inl (km_letter, 36, .inl fm_letter)), ((mr 20), .inl (km_official, 25, .inl z15)), ((mr 23), .inl (km_out, 80, .inl f_1370))] H := hP
          have hD : va_D A [(h0, .inr (12, fsMM (upd (upd (upd mi 37 w0_37) 41 w0_41) 56 x_1371) mr)), ((mr 14), .inl (km_must, 25, .inl z1)), ((mr 15), .inl (km_least, 25, .inl z2)), ((mr 16), .inl (km_pin, 25, .inl z3)), ((mr 17), .inl (km_ways, 6875, .inl z4)), ((mr 18), .inl (km_verdict, 24, .inl z5)), ((mr 19), .inl (km_row, 24, .inl z6)), ((mr 4), .inl (km_struck, 24, .inl fm_struck)), ((mr 7), .inl (km_reportKnown, 24, .inl fm_reportKnown)), ((mr 2), .inl (km_reportPlace, 24, .inl fm_reportPlace)), ((mr 5), .inl (km_reportMonth, 24, .inl fm_reportMonth)), ((mr 6), .inl (km_reportDay, 24, .inl fm_reportDay)), ((mr 3), .inl (km_reportKind, 24, .inl fm_reportKind)), ((mr 0), .inl (km_trust, 6, .inl fm_trust)), ((mr 1), .inl (km_letter, 36, .inl fm_letter)), ((mr 20), .inl (km_official, 25, .inl z15)), ((mr 23), .inl (km_out, 80, .inl f_1370))] := hD
          refine lv_aload_n hx hb dX12_tell_56 rfl (lv_at hl 0 rfl) ?_
          refine va_get (D := (dC, dI)) (ci := 12) (v := .ref (mr 23)) (C := RX12) (T := TX12) (N := 57) hx hb hts (fun w h => List.mem_cons_of_mem _ (jnGB_X12 w h)) hown hK hP 0 rfl rfl 55 (by decide) (hts _ (List.mem_cons_of_mem _ mGB_39)) (fun _ h9 => h9) rfl dX12_tell_57 ?_
          refine lv_aload_n hx hb dX12_tell_60 rfl (lv_at hl 0 rfl) ?_
          refine va_get (D := (dC, dI)) (ci := 12) (v := .int x_1371) (C := RX12) (T := TX12) (N := 57) hx hb hts (fun w h => List.mem_cons_of_mem _ (jnGB_X12 w h)) hown hK hP 0 rfl rfl 56 (by decide) (hts _ (List.mem_cons_of_mem _ mGB_219)) (fun _ h9 => h9) rfl dX12_tell_61 ?_
          refine lv_aload_n hx hb dX12_tell_64 rfl (lv_at hl 0 rfl) ?_
          refine lv_iload_n hx hb dX12_tell_65 rfl (lv_at hl 2 rfl) ?_
          have hPc := hP.sub (ws' := [(h0, .inr (12, fsMM (upd (upd (upd mi 37 w0_37) 41 w0_41) 56 x_1371) mr)), ((mr 20), .inl (km_official, 25, .inl z15))]) [0, 15] rfl
          have hKc := hK.sub (tys' := [(km_official, .int)]) [14] rfl
          refine va_calli (va_runV (As := [.int v2]) (rest := [.int x_1371, .ref (mr 23)]) ⟨hx, hb, hml, hown, hts⟩ (sX12_lengthBy l dC dI h0 (upd (upd (upd mi 37 w0_37) 41 w0_41) 56 x_1371) mr km_official z15 v2 (gi_w g_1333 (by decide)) gmi_1 gmi_2 gmi_4 gmi_7 gmi_10 gmi_17 gmi_23 gmi_24 gmi_26 gmi_29 gmi_30 gmi_33 gw0_37 gw0_41 gmi_50 gmi_51 (show gi x_1371 0 80 from ⟨by have qgx_1371 := gx_1371.1; have rgx_1371 := gx_1371.2; have igx_1371 : x_1371.toInt = w0_56.toInt + 1 := (by have hc1 : (1 : Int32).toInt = 1 := (by decide); have h9 := gi_addI ex_1371 (by have h1 := gw0_56.1; have h2 := (gi_c 1 1 (by decide)).1; have h3 := gw0_56.2; have h4 := (gi_c 1 1 (by decide)).2; omega) (by have h1 := gw0_56.1; have h2 := (gi_c 1 1 (by decide)).1; have h3 := gw0_56.2; have h4 := (gi_c 1 1 (by decide)).2; omega); rw [hc1] at h9; exact h9); have qgw0_56 := gw0_56.1; have rgw0_56 := gw0_56.2; have qgv2 := g_1369.1; have rgv2 := g_1369.2; have qgmi_0 := g_1333.1; have rgmi_0 := g_1333.2; omega, by have qgx_1371 := gx_1371.1; have rgx_1371 := gx_1371.2; have igx_1371 : x_1371.toInt = w0_56.toInt + 1 := (by have hc1 : (1 : Int32).toInt = 1 := (by decide); have h9 := gi_addI ex_1371 (by have h1 := gw0_56.1; have h2 := (gi_c 1 1 (by decide)).1; have h3 := gw0_56.2; have h4 := (gi_c 1 1 (by decide)).2; omega) (by have h1 := gw0_56.1; have h2 := (gi_c 1 1 (by decide)).1; have h3 := gw0_56.2; have h4 := (gi_c 1 1 (by decide)).2; omega); rw [hc1] at h9; exact h9); have qgw0_56 := gw0_56.1; have rgw0_56 := gw0_56.2; have qgv2 := g_1369.1; have rgv2 := g_1369.2; have qgmi_0 := g_1333.1; have rgmi_0 := g_1333.2; omega⟩) (gi_w g_1369 (by decide))) (cwV 1 hts (gz_gV mGB_423 mGB_424 mGB_425 mGB_1 mGB_426 goodGB) rfl rfl rfl (by decide +kernel) ⟨Nat.le_trans (Nat.le_of_ble_eq_true rfl) hRf, Nat.le_trans (Nat.le_of_ble_eq_true rfl) hRl⟩) ⟨fun a U g mk q => by obtain ⟨q0, qP, qK⟩ := q; exact ⟨q0, qP, va_K.moved (u := U) (U := U.calling g mk a) (Vm.Alike.refl U.vm) qK⟩, va_recv hKc hPc (ci := 12) (q0 := 0) rfl rfl, fun U hU hW => ⟨rfl, by rw [hU]; exact hPc, va_K.moved hW.alike hKc⟩⟩ rfl rfl hl.1 rfl (lv_room (Nat.le_of_ble_eq_true rfl)) dX12_tell_66 ⟨hRc, hRs⟩) hS (fun q _ h => h.elim) (fun q h => h.elim) (fun r_1372 u t H1 locs ht hvm hw hB hz1 hk1 hS => ?_)
          have hP := gz_keep hP hk1
          generalize H1 = H at hP hS ⊢
          refine lv_bipush (v := 30) hx hb dX12_tell_69 (by decide) ?_
          refine lv_icmp_ne (tgt := 79) hx hb dX12_tell_71 (by decide) (fun c_1373 => ?_) (fun c_1373 => ?_)
          · have hc_1374 : r_1372.toInt ≠ 30 := fun h9 => c_1373 (Int32.toInt_inj.mp (by rw [show (30 : Int32).toInt = 30 from by decide]; exact h9))
            refine lv_bipush (v := 50) hx hb dX12_tell_79 (by decide) ?_
            refine va_iast hx hb hK hP hD hS 16 15 rfl rfl (gz_inR (n := 80) (by have qgx_1371 := gx_1371.1; have rgx_1371 := gx_1371.2; have igx_1371 : x_1371.toInt = w0_56.toInt + 1 := (by have hc1 : (1 : Int32).toInt = 1 := (by decide); have h9 := gi_addI ex_1371 (by have h1 := gw0_56.1; have h2 := (gi_c 1 1 (by decide)).1; have h3 := gw0_56.2; have h4 := (gi_c 1 1 (by decide)).2; omega) (by have h1 := gw0_56.1; have h2 := (gi_c 1 1 (by decide)).1; have h3 := gw0_56.2; have h4 := (gi_c 1 1 (by decide)).2; omega); rw [hc1] at h9; exact h9); have qgw0_56 := gw0_56.1; have rgw0_56 := gw0_56.2; have qgv2 := g_1369.1; have rgv2 := g_1369.2; have qgmi_0 := g_1333.1; have rgmi_0 := g_1333.2; omega) (by have qgx_1371 := gx_1371.1; have rgx_1371 := gx_1371.2; have igx_1371 : x_1371.toInt = w0_56.toInt + 1 := (by have hc1 : (1 : Int32).toInt = 1 := (by decide); have h9 := gi_addI ex_1371 (by have h1 := gw0_56.1; have h2 := (gi_c 1 1 (by decide)).1; have h3 := gw0_56.2; have h4 := (gi_c 1 1 (by decide)).2; omega) (by have h1 := gw0_56.1; have h2 := (gi_c 1 1 (by decide)).1; have h3 := gw0_56.2; have h4 := (gi_c 1 1 (by decide)).2; omega); rw [hc1] at h9; exact h9); have qgw0_56 := gw0_56.1; have rgw0_56 := gw0_56.2; have qgv2 := g_1369.1; have rgv2 := g_1369.2; have qgmi_0 := g_1333.1; have rgmi_0 := g_1333.2; omega)) dX12_tell_81 (fun H locs hP hD hS => ?_)
            have hP : va_P (dC, dI) vwCl [(h0, .inr (12, fsMM (upd (upd (upd mi 37 w0_37) 41 w0_41) 56 x_1371) mr)), ((mr 14), .inl (km_must, 25, .inl z1)), ((mr 15), .inl (km_least, 25, .inl z2)), ((mr 16), .inl (km_pin, 25, .inl z3)), ((mr 17), .inl (km_ways, 6875, .inl z4)), ((mr 18), .inl (km_verdict, 24, .inl z5)), ((mr 19), .inl (km_row, 24, .inl z6)), ((mr 4), .inl (km_struck, 24, .inl fm_struck)), ((mr 7), .inl (km_reportKnown, 24, .inl fm_reportKnown)), ((mr 2), .inl (km_reportPlace, 24, .inl fm_reportPlace)), ((mr 5), .inl (km_reportMonth, 24, .inl fm_reportMonth)), ((mr 6), .inl (km_reportDay, 24, .inl fm_reportDay)), ((mr 3), .inl (km_reportKind, 24, .inl fm_reportKind)), ((mr 0), .inl (km_trust, 6, .inl fm_trust)), ((mr 1), .inl (km_letter, 36, .inl fm_letter)), ((mr 20), .inl (km_official, 25, .inl z15)), ((mr 23), .inl (km_out, 80, .inl (upd f_1370 (x_1371 : Int32).toNatClampNeg 50)))] H := hP
            have hD : va_D A [(h0, .inr (12, fsMM (upd (upd (upd mi 37 w0_37) 41 w0_41) 56 x_1371) mr)), ((mr 14), .inl (km_must, 25, .inl z1)), ((mr 15), .inl (km_least, 25, .inl z2)), ((mr 16), .inl (km_pin, 25, .inl z3)), ((mr 17), .inl (km_ways, 6875, .inl z4)), ((mr 18), .inl (km_verdict, 24, .inl z5)), ((mr 19), .inl (km_row, 24, .inl z6)), ((mr 4), .inl (km_struck, 24, .inl fm_struck)), ((mr 7), .inl (km_reportKnown, 24, .inl fm_reportKnown)), ((mr 2), .inl (km_reportPlace, 24, .inl fm_reportPlace)), ((mr 5), .inl (km_reportMonth, 24, .inl fm_reportMonth)), ((mr 6), .inl (km_reportDay, 24, .inl fm_reportDay)), ((mr 3), .inl (km_reportKind, 24, .inl fm_reportKind)), ((mr 0), .inl (km_trust, 6, .inl fm_trust)), ((mr 1), .inl (km_letter, 36, .inl fm_letter)), ((mr 20), .inl (km_official, 25, .inl z15)), ((mr 23), .inl (km_out, 80, .inl (upd f_1370 (x_1371 : Int32).toNatClampNeg 50)))] := hD
            generalize upd f_1370 (x_1371 : Int32).toNatClampNeg 50 = f_1375 at hP hD
            refine lv_aload_n hx hb dX12_tell_82 rfl (lv_at hl 0 rfl) ?_
            refine va_get (D := (dC, dI)) (ci := 12) (v := .ref (mr 23)) (C := RX12) (T := TX12) (N := 57) hx hb hts (fun w h => List.mem_cons_of_mem _ (jnGB_X12 w h)) hown hK hP 0 rfl rfl 55 (by decide) (hts _ (List.mem_cons_of_mem _ mGB_39)) (fun _ h9 => h9) rfl dX12_tell_83 ?_
            refine lv_aload_n hx hb dX12_tell_86 rfl (lv_at hl 0 rfl) ?_
            refine va_get (D := (dC, dI)) (ci := 12) (v := .int x_1371) (C := RX12) (T := TX12) (N := 57) hx hb hts (fun w h => List.mem_cons_of_mem _ (jnGB_X12 w h)) hown hK hP 0 rfl rfl 56 (by decide) (hts _ (List.mem_cons_of_mem _ mGB_219)) (fun _ h9 => h9) rfl dX12_tell_87 ?_
            refine lv_iconst (v := 1) hx hb dX12_tell_90 (by decide) ?_
            refine lv_iadd hx hb dX12_tell_91 ?_
            refine lv_topi (fun x_1376 ex_1376 => ?_)
            have gx_1376 : gi x_1376 2 82 := gi_add ex_1376 gx_1371 (gi_c 1 1 (by decide)) (by decide)
            refine lv_aload_n hx hb dX12_tell_92 rfl (lv_at hl 0 rfl) ?_
            refine lv_iload_n hx hb dX12_tell_93 rfl (lv_at hl 2 rfl) ?_
            have hPc := hP.sub (ws' := [(h0, .inr (12, fsMM (upd (upd (upd mi 37 w0_37) 41 w0_41) 56 x_1371) mr)), ((mr 20), .inl (km_official, 25, .inl z15))]) [0, 15] rfl
            have hKc := hK.sub (tys' := [(km_official, .int)]) [14] rfl
            refine va_calli (va_runV (As := [.int v2]) (rest := [.int x_1376, .ref (mr 23)]) ⟨hx, hb, hml, hown, hts⟩ (sX12_lengthBy l dC dI h0 (upd (upd (upd mi 37 w0_37) 41 w0_41) 56 x_1371) mr km_official z15 v2 (gi_w g_1333 (by decide)) gmi_1 gmi_2 gmi_4 gmi_7 gmi_10 gmi_17 gmi_23 gmi_24 gmi_26 gmi_29 gmi_30 gmi_33 gw0_37 gw0_41 gmi_50 gmi_51 (show gi x_1371 0 80 from ⟨by have qgx_1371 := gx_1371.1; have rgx_1371 := gx_1371.2; have igx_1371 : x_1371.toInt = w0_56.toInt + 1 := (by have hc1 : (1 : Int32).toInt = 1 := (by decide); have h9 := gi_addI ex_1371 (by have h1 := gw0_56.1; have h2 := (gi_c 1 1 (by decide)).1; have h3 := gw0_56.2; have h4 := (gi_c 1 1 (by decide)).2; omega) (by have h1 := gw0_56.1; have h2 := (gi_c 1 1 (by decide)).1; have h3 := gw0_56.2; have h4 := (gi_c 1 1 (by decide)).2; omega); rw [hc1] at h9; exact h9); have qgw0_56 := gw0_56.1; have rgw0_56 := gw0_56.2; have qgv2 := g_1369.1; have rgv2 := g_1369.2; have qgmi_0 := g_1333.1; have rgmi_0 := g_1333.2; omega, by have qgx_1371 := gx_1371.1; have rgx_1371 := gx_1371.2; have igx_1371 : x_1371.toInt = w0_56.toInt + 1 := (by have hc1 : (1 : Int32).toInt = 1 := (by decide); have h9 := gi_addI ex_1371 (by have h1 := gw0_56.1; have h2 := (gi_c 1 1 (by decide)).1; have h3 := gw0_56.2; have h4 := (gi_c 1 1 (by decide)).2; omega) (by have h1 := gw0_56.1; have h2 := (gi_c 1 1 (by decide)).1; have h3 := gw0_56.2; have h4 := (gi_c 1 1 (by decide)).2; omega); rw [hc1] at h9; exact h9); have qgw0_56 := gw0_56.1; have rgw0_56 := gw0_56.2; have qgv2 := g_1369.1; have rgv2 := g_1369.2; have qgmi_0 := g_1333.1; have rgmi_0 := g_1333.2; omega⟩) (gi_w g_1369 (by decide))) (cwV 1 hts (gz_gV mGB_423 mGB_424 mGB_425 mGB_1 mGB_426 goodGB) rfl rfl rfl (by decide +kernel) ⟨Nat.le_trans (Nat.le_of_ble_eq_true rfl) hRf, Nat.le_trans (Nat.le_of_ble_eq_true rfl) hRl⟩) ⟨fun a U g mk q => by obtain ⟨q0, qP, qK⟩ := q; exact ⟨q0, qP, va_K.moved (u := U) (U := U.calling g mk a) (Vm.Alike.refl U.vm) qK⟩, va_recv hKc hPc (ci := 12) (q0 := 0) rfl rfl, fun U hU hW => ⟨rfl, by rw [hU]; exact hPc, va_K.moved hW.alike hKc⟩⟩ rfl rfl hl.1 rfl (lv_room (Nat.le_of_ble_eq_true rfl)) dX12_tell_94 ⟨hRc, hRs⟩) hS (fun q _ h => h.elim) (fun q h => h.elim) (fun r_1377 u t H1 locs ht hvm hw hB hz1 hk1 hS => ?_)
            have hP := gz_keep hP hk1
            generalize H1 = H at hP hS ⊢
            refine lv_bipush (v := 30) hx hb dX12_tell_97 (by decide) ?_
            refine lv_icmp_ne (tgt := 107) hx hb dX12_tell_99 (by decide) (fun c_1378 => ?_) (fun c_1378 => ?_)
            · have hc_1379 : r_1377.toInt ≠ 30 := fun h9 => c_1378 (Int32.toInt_inj.mp (by rw [show (30 : Int32).toInt = 30 from by decide]; exact h9))
              refine lv_bipush (v := 57) hx hb dX12_tell_107 (by decide) ?_
              refine va_iast hx hb hK hP hD hS 16 15 rfl rfl (gz_inR (n := 80) (by have qgx_1376 := gx_1376.1; have rgx_1376 := gx_1376.2; have igx_1376 : x_1376.toInt = x_1371.toInt + 1 := (by have hc1 : (1 : Int32).toInt = 1 := (by decide); have h9 := gi_addI ex_1376 (by have h1 := gx_1371.1; have h2 := (gi_c 1 1 (by decide)).1; have h3 := gx_1371.2; have h4 := (gi_c 1 1 (by decide)).2; omega) (by have h1 := gx_1371.1; have h2 := (gi_c 1 1 (by decide)).1; have h3 := gx_1371.2; have h4 := (gi_c 1 1 (by decide)).2; omega); rw [hc1] at h9; exact h9); have qgx_1371 := gx_1371.1; have rgx_1371 := gx_1371.2; have igx_1371 : x_1371.toInt = w0_56.toInt + 1 := (by have hc1 : (1 : Int32).toInt = 1 := (by decide); have h9 := gi_addI ex_1371 (by have h1 := gw0_56.1; have h2 := (gi_c 1 1 (by decide)).1; have h3 := gw0_56.2; have h4 := (gi_c 1 1 (by decide)).2; omega) (by have h1 := gw0_56.1; have h2 := (gi_c 1 1 (by decide)).1; have h3 := gw0_56.2; have h4 := (gi_c 1 1 (by decide)).2; omega); rw [hc1] at h9; exact h9); have qgw0_56 := gw0_56.1; have rgw0_56 := gw0_56.2; have qgv2 := g_1369.1; have rgv2 := g_1369.2; have qgmi_0 := g_1333.1; have rgmi_0 := g_1333.2; omega) (by have qgx_1376 := gx_1376.1; have rgx_1376 := gx_1376.2; have igx_1376 : x_1376.toInt = x_1371.toInt + 1 := (by have hc1 : (1 : Int32).toInt = 1 := (by decide); have h9 := gi_addI ex_1376 (by have h1 := gx_1371.1; have h2 := (gi_c 1 1 (by decide)).1; have h3 := gx_1371.2; have h4 := (gi_c 1 1 (by decide)).2; omega) (by have h1 := gx_1371.1; have h2 := (gi_c 1 1 (by decide)).1; have h3 := gx_1371.2; have h4 := (gi_c 1 1 (by decide)).2; omega); rw [hc1] at h9; exact h9); have qgx_1371 := gx_1371.1; have rgx_1371 := gx_1371.2; have igx_1371 : x_1371.toInt = w0_56.toInt + 1 := (by have hc1 : (1 : Int32).toInt = 1 := (by decide); have h9 := gi_addI ex_1371 (by have h1 := gw0_56.1; have h2 := (gi_c 1 1 (by decide)).1; have h3 := gw0_56.2; have h4 := (gi_c 1 1 (by decide)).2; omega) (by have h1 := gw0_56.1; have h2 := (gi_c 1 1 (by decide)).1; have h3 := gw0_56.2; have h4 := (gi_c 1 1 (by decide)).2; omega); rw [hc1] at h9; exact h9); have qgw0_56 := gw0_56.1; have rgw0_56 := gw0_56.2; have qgv2 := g_1369.1; have rgv2 := g_1369.2; have qgmi_0 := g_1333.1; have rgmi_0 := g_1333.2; omega)) dX12_tell_109 (fun H locs hP hD hS => ?_)
              have hP : va_P (dC, dI) vwCl [(h0, .inr (12, fsMM (upd (upd (upd mi 37 w0_37) 41 w0_41) 56 x_1371) mr)), ((mr 14), .inl (km_must, 25, .inl z1)), ((mr 15), .inl (km_least, 25, .inl z2)), ((mr 16), .inl (km_pin, 25, .inl z3)), ((mr 17), .inl (km_ways, 6875, .inl z4)), ((mr 18), .inl (km_verdict, 24, .inl z5)), ((mr 19), .inl (km_row, 24, .inl z6)), ((mr 4), .inl (km_struck, 24, .inl fm_struck)), ((mr 7), .inl (km_reportKnown, 24, .inl fm_reportKnown)), ((mr 2), .inl (km_reportPlace, 24, .inl fm_reportPlace)), ((mr 5), .inl (km_reportMonth, 24, .inl fm_reportMonth)), ((mr 6), .inl (km_reportDay, 24, .inl fm_reportDay)), ((mr 3), .inl (km_reportKind, 24, .inl fm_reportKind)), ((mr 0), .inl (km_trust, 6, .inl fm_trust)), ((mr 1), .inl (km_letter, 36, .inl fm_letter)), ((mr 20), .inl (km_official, 25, .inl z15)), ((mr 23), .inl (km_out, 80, .inl (upd f_1375 (x_1376 : Int32).toNatClampNeg 57)))] H := hP
              have hD : va_D A [(h0, .inr (12, fsMM (upd (upd (upd mi 37 w0_37) 41 w0_41) 56 x_1371) mr)), ((mr 14), .inl (km_must, 25, .inl z1)), ((mr 15), .inl (km_least, 25, .inl z2)), ((mr 16), .inl (km_pin, 25, .inl z3)), ((mr 17), .inl (km_ways, 6875, .inl z4)), ((mr 18), .inl (km_verdict, 24, .inl z5)), ((mr 19), .inl (km_row, 24, .inl z6)), ((mr 4), .inl (km_struck, 24, .inl fm_struck)), ((mr 7), .inl (km_reportKnown, 24, .inl fm_reportKnown)), ((mr 2), .inl (km_reportPlace, 24, .inl fm_reportPlace)), ((mr 5), .inl (km_reportMonth, 24, .inl fm_reportMonth)), ((mr 6), .inl (km_reportDay, 24, .inl fm_reportDay)), ((mr 3), .inl (km_reportKind, 24, .inl fm_reportKind)), ((mr 0), .inl (km_trust, 6, .inl fm_trust)), ((mr 1), .inl (km_letter, 36, .inl fm_letter)), ((mr 20), .inl (km_official, 25, .inl z15)), ((mr 23), .inl (km_out, 80, .inl (upd f_1375 (x_1376 : Int32).toNatClampNeg 57)))] := hD
              generalize upd f_1375 (x_1376 : Int32).toNatClampNeg 57 = f_1380 at hP hD
              refine lv_aload_n hx hb dX12_tell_110 rfl (lv_at hl 0 rfl) ?_
              refine lv_dup hx hb dX12_tell_111 rfl ?_
              refine va_get (D := (dC, dI)) (ci := 12) (v := .int x_1371) (C := RX12) (T := TX12) (N := 57) hx hb hts (fun w h => List.mem_cons_of_mem _ (jnGB_X12 w h)) hown hK hP 0 rfl rfl 56 (by decide) (hts _ (List.mem_cons_of_mem _ mGB_219)) (fun _ h9 => h9) rfl dX12_tell_112 ?_
              refine lv_iconst (v := 2) hx hb dX12_tell_115 (by decide) ?_
              refine lv_iadd hx hb dX12_tell_116 ?_
              refine lv_topi (fun x_1381 ex_1381 => ?_)
              have gx_1381 : gi x_1381 3 83 := gi_add ex_1381 gx_1371 (gi_c 2 2 (by decide)) (by decide)
              refine va_put (D := (dC, dI)) (ci := 12) (v := .int x_1381) (ty := .int) (C := RX12) (T := TX12) (N := 57) hx hb hts (fun w h => List.mem_cons_of_mem _ (jnGB_X12 w h)) tyX12 tyX12_ok nmX12 hown hK hP hD hS 0 rfl rfl 56 (by decide) (hts _ (List.mem_cons_of_mem _ mGB_219)) (fun _ h9 => h9) rfl (by decide +kernel) rfl rfl (Nat.le_of_ble_eq_true rfl) dX12_tell_117 (fun H locs hP hD hS => ?_)
              have hP : va_P (dC, dI) vwCl [(h0, .inr (12, fsMM (upd (upd (upd mi 37 w0_37) 41 w0_41) 56 x_1381) mr)), ((mr 14), .inl (km_must, 25, .inl z1)), ((mr 15), .inl (km_least, 25, .inl z2)), ((mr 16), .inl (km_pin, 25, .inl z3)), ((mr 17), .inl (km_ways, 6875, .inl z4)), ((mr 18), .inl (km_verdict, 24, .inl z5)), ((mr 19), .inl (km_row, 24, .inl z6)), ((mr 4), .inl (km_struck, 24, .inl fm_struck)), ((mr 7), .inl (km_reportKnown, 24, .inl fm_reportKnown)), ((mr 2), .inl (km_reportPlace, 24, .inl fm_reportPlace)), ((mr 5), .inl (km_reportMonth, 24, .inl fm_reportMonth)), ((mr 6), .inl (km_reportDay, 24, .inl fm_reportDay)), ((mr 3), .inl (km_reportKind, 24, .inl fm_reportKind)), ((mr 0), .inl (km_trust, 6, .inl fm_trust)), ((mr 1), .inl (km_letter, 36, .inl fm_letter)), ((mr 20), .inl (km_official, 25, .inl z15)), ((mr 23), .inl (km_out, 80, .inl f_1380))] H := hP
              have hD : va_D A [(h0, .inr (12, fsMM (upd (upd (upd mi 37 w0_37) 41 w0_41) 56 x_1381) mr)), ((mr 14), .inl (km_must, 25, .inl z1)), ((mr 15), .inl (km_least, 25, .inl z2)), ((mr 16), .inl (km_pin, 25, .inl z3)), ((mr 17), .inl (km_ways, 6875, .inl z4)), ((mr 18), .inl (km_verdict, 24, .inl z5)), ((mr 19), .inl (km_row, 24, .inl z6)), ((mr 4), .inl (km_struck, 24, .inl fm_struck)), ((mr 7), .inl (km_reportKnown, 24, .inl fm_reportKnown)), ((mr 2), .inl (km_reportPlace, 24, .inl fm_reportPlace)), ((mr 5), .inl (km_reportMonth, 24, .inl fm_reportMonth)), ((mr 6), .inl (km_reportDay, 24, .inl fm_reportDay)), ((mr 3), .inl (km_reportKind, 24, .inl fm_reportKind)), ((mr 0), .inl (km_trust, 6, .inl fm_trust)), ((mr 1), .inl (km_letter, 36, .inl fm_letter)), ((mr 20), .inl (km_official, 25, .inl z15)), ((mr 23), .inl (km_out, 80, .inl f_1380))] := hD
              obtain ⟨x_1382, ex_1382⟩ : ∃ y : Int32, y = v2 + 1 := ⟨_, rfl⟩
              have gx_1382 : gi x_1382 2 24 := gi_add ex_1382 g_1369 (gi_c 1 1 (by decide)) (by decide)
              refine lv_iinc (v := x_1382) (lv' := [(2, .int x_1382), (0, .ref h0), (1, .int p1)]) hx hb dX12_tell_120 hl (k := 2) rfl (by rw [ex_1382]; rfl) (by decide) rfl (fun ls hl => ?_)
              refine lv_goto (tgt := 23) hx hb dX12_tell_123 (by decide) ?_
              exact ih x_1382 w0_37 w0_41 x_1381 z1 z2 z3 z4 z5 z6 z15 f_1380 _ _ _ gf_p1 (gi_w gx_1382 (by decide)) gw0_37 gw0_41 (show gi x_1381 0 80 from ⟨by have qgx_1381 := gx_1381.1; have rgx_1381 := gx_1381.2; have igx_1381 : x_1381.toInt = x_1371.toInt + 2 := (by have hc2 : (2 : Int32).toInt = 2 := (by decide); have h9 := gi_addI ex_1381 (by have h1 := gx_1371.1; have h2 := (gi_c 2 2 (by decide)).1; have h3 := gx_1371.2; have h4 := (gi_c 2 2 (by decide)).2; omega) (by have h1 := gx_1371.1; have h2 := (gi_c 2 2 (by decide)).1; have h3 := gx_1371.2; have h4 := (gi_c 2 2 (by decide)).2; omega); rw [hc2] at h9; exact h9); have qgx_1371 := gx_1371.1; have rgx_1371 := gx_1371.2; have igx_1371 : x_1371.toInt = w0_56.toInt + 1 := (by have hc1 : (1 : Int32).toInt = 1 := (by decide); have h9 := gi_addI ex_1371 (by have h1 := gw0_56.1; have h2 := (gi_c 1 1 (by decide)).1; have h3 := gw0_56.2; have h4 := (gi_c 1 1 (by decide)).2; omega) (by have h1 := gw0_56.1; have h2 := (gi_c 1 1 (by decide)).1; have h3 := gw0_56.2; have h4 := (gi_c 1 1 (by decide)).2; omega); rw [hc1] at h9; exact h9); have qgw0_56 := gw0_56.1; have rgw0_56 := gw0_56.2; have qgv2 := g_1369.1; have rgv2 := g_1369.2; have qgmi_0 := g_1333.1; have rgmi_0 := g_1333.2; omega, by have qgx_1381 := gx_1381.1; have rgx_1381 := gx_1381.2; have igx_1381 : x_1381.toInt = x_1371.toInt + 2 := (by have hc2 : (2 : Int32).toInt = 2 := (by decide); have h9 := gi_addI ex_1381 (by have h1 := gx_1371.1; have h2 := (gi_c 2 2 (by decide)).1; have h3 := gx_1371.2; have h4 := (gi_c 2 2 (by decide)).2; omega) (by have h1 := gx_1371.1; have h2 := (gi_c 2 2 (by decide)).1; have h3 := gx_1371.2; have h4 := (gi_c 2 2 (by decide)).2; omega); rw [hc2] at h9; exact h9); have qgx_1371 := gx_1371.1; have rgx_1371 := gx_1371.2; have igx_1371 : x_1371.toInt = w0_56.toInt + 1 := (by have hc1 : (1 : Int32).toInt = 1 := (by decide); have h9 := gi_addI ex_1371 (by have h1 := gw0_56.1; have h2 := (gi_c 1 1 (by decide)).1; have h3 := gw0_56.2; have h4 := (gi_c 1 1 (by decide)).2; omega) (by have h1 := gw0_56.1; have h2 := (gi_c 1 1 (by decide)).1; have h3 := gw0_56.2; have h4 := (gi_c 1 1 (by decide)).2; omega); rw [hc1] at h9; exact h9); have qgw0_56 := gw0_56.1; have rgw0_56 := gw0_56.2; have qgv2 := g_1369.1; have rgv2 := g_1369.2; have qgmi_0 := g_1333.1; have rgmi_0 := g_1333.2; omega⟩) gz6 (show x_1381.toInt ≤ 3 * x_1382.toInt from by have qgx_1382 := gx_1382.1; have rgx_1382 := gx_1382.2; have igx_1382 : x_1382.toInt = v2.toInt + 1 := (by have hc1 : (1 : Int32).toInt = 1 := (by decide); have h9 := gi_addI ex_1382 (by have h1 := g_1369.1; have h2 := (gi_c 1 1 (by decide)).1; have h3 := g_1369.2; have h4 := (gi_c 1 1 (by decide)).2; omega) (by have h1 := g_1369.1; have h2 := (gi_c 1 1 (by decide)).1; have h3 := g_1369.2; have h4 := (gi_c 1 1 (by decide)).2; omega); rw [hc1] at h9; exact h9); have qgv2 := g_1369.1; have rgv2 := g_1369.2; have qgx_1381 := gx_1381.1; have rgx_1381 := gx_1381.2; have igx_1381 : x_1381.toInt = x_1371.toInt + 2 := (by have hc2 : (2 : Int32).toInt = 2 := (by decide); have h9 := gi_addI ex_1381 (by have h1 := gx_1371.1; have h2 := (gi_c 2 2 (by decide)).1; have h3 := gx_1371.2; have h4 := (gi_c 2 2 (by decide)).2; omega) (by have h1 := gx_1371.1; have h2 := (gi_c 2 2 (by decide)).1; have h3 := gx_1371.2; have h4 := (gi_c 2 2 (by decide)).2; omega); rw [hc2] at h9; exact h9); have qgx_1371 := gx_1371.1; have rgx_1371 := gx_1371.2; have igx_1371 : x_1371.toInt = w0_56.toInt + 1 := (by have hc1 : (1 : Int32).toInt = 1 := (by decide); have h9 := gi_addI ex_1371 (by have h1 := gw0_56.1; have h2 := (gi_c 1 1 (by decide)).1; have h3 := gw0_56.2; have h4 := (gi_c 1 1 (by decide)).2; omega) (by have h1 := gw0_56.1; have h2 := (gi_c 1 1 (by decide)).1; have h3 := gw0_56.2; have h4 := (gi_c 1 1 (by decide)).2; omega); rw [hc1] at h9; exact h9); have qgw0_56 := gw0_56.1; have rgw0_56 := gw0_56.2; have qgmi_0 := g_1333.1; have rgmi_0 := g_1333.2; omega) (show 0 ≤ x_1381.toInt from by have qgx_1381 := gx_1381.1; have rgx_1381 := gx_1381.2; have igx_1381 : x_1381.toInt = x_1371.toInt + 2 := (by have hc2 : (2 : Int32).toInt = 2 := (by decide); have h9 := gi_addI ex_1381 (by have h1 := gx_1371.1; have h2 := (gi_c 2 2 (by decide)).1; have h3 := gx_1371.2; have h4 := (gi_c 2 2 (by decide)).2; omega) (by have h1 := gx_1371.1; have h2 := (gi_c 2 2 (by decide)).1; have h3 := gx_1371.2; have h4 := (gi_c 2 2 (by decide)).2; omega); rw [hc2] at h9; exact h9); have qgx_1371 := gx_1371.1; have rgx_1371 := gx_1371.2; have igx_1371 : x_1371.toInt = w0_56.toInt + 1 := (by have hc1 : (1 : Int32).toInt = 1 := (by decide); have h9 := gi_addI ex_1371 (by have h1 := gw0_56.1; have h2 := (gi_c 1 1 (by decide)).1; have h3 := gw0_56.2; have h4 := (gi_c 1 1 (by decide)).2; omega) (by have h1 := gw0_56.1; have h2 := (gi_c 1 1 (by decide)).1; have h3 := gw0_56.2; have h4 := (gi_c 1 1 (by decide)).2; omega); rw [hc1] at h9; exact h9); have qgw0_56 := gw0_56.1; have rgw0_56 := gw0_56.2; have qgv2 := g_1369.1; have rgv2 := g_1369.2; have qgmi_0 := g_1333.1; have rgmi_0 := g_1333.2; omega) (by have av2 := gv2.1; have bv2 := gv2.2; have qgx_1382 := gx_1382.1; have rgx_1382 := gx_1382.2; have igx_1382 : x_1382.toInt = v2.toInt + 1 := (by have hc1 : (1 : Int32).toInt = 1 := (by decide); have h9 := gi_addI ex_1382 (by have h1 := g_1369.1; have h2 := (gi_c 1 1 (by decide)).1; have h3 := g_1369.2; have h4 := (gi_c 1 1 (by decide)).2; omega) (by have h1 := g_1369.1; have h2 := (gi_c 1 1 (by decide)).1; have h3 := g_1369.2; have h4 := (gi_c 1 1 (by decide)).2; omega); rw [hc1] at h9; exact h9); have qgv2 := g_1369.1; have rgv2 := g_1369.2; omega) hP hD hS (lv_sub hl [1, 2, 0] rfl)
            · have hc_1383 : r_1377.toInt = 30 := by have h9 := congrArg Int32.toInt c_1378; rw [show (30 : Int32).toInt = 30 from by decide] at h9; exact h9
              have g_1384 : gi r_1377 30 30 := gi_eq c_1378 (gi_c 30 30 (by decide))
              refine lv_bipush (v := 48) hx hb dX12_tell_102 (by decide) ?_
              refine lv_goto (tgt := 109) hx hb dX12_tell_104 (by decide) ?_
              refine va_iast hx hb hK hP hD hS 16 15 rfl rfl (gz_inR (n := 80) (by have qgx_1376 := gx_1376.1; have rgx_1376 := gx_1376.2; have igx_1376 : x_1376.toInt = x_1371.toInt + 1 := (by have hc1 : (1 : Int32).toInt = 1 := (by decide); have h9 := gi_addI ex_1376 (by have h1 := gx_1371.1; have h2 := (gi_c 1 1 (by decide)).1; have h3 := gx_1371.2; have h4 := (gi_c 1 1 (by decide)).2; omega) (by have h1 := gx_1371.1; have h2 := (gi_c 1 1 (by decide)).1; have h3 := gx_1371.2; have h4 := (gi_c 1 1 (by decide)).2; omega); rw [hc1] at h9; exact h9); have qgx_1371 := gx_1371.1; have rgx_1371 := gx_1371.2; have igx_1371 : x_1371.toInt = w0_56.toInt + 1 := (by have hc1 : (1 : Int32).toInt = 1 := (by decide); have h9 := gi_addI ex_1371 (by have h1 := gw0_56.1; have h2 := (gi_c 1 1 (by decide)).1; have h3 := gw0_56.2; have h4 := (gi_c 1 1 (by decide)).2; omega) (by have h1 := gw0_56.1; have h2 := (gi_c 1 1 (by decide)).1; have h3 := gw0_56.2; have h4 := (gi_c 1 1 (by decide)).2; omega); rw [hc1] at h9; exact h9); have qgw0_56 := gw0_56.1; have rgw0_56 := gw0_56.2; have qgv2 := g_1369.1; have rgv2 := g_1369.2; have qgr_1377 := g_1384.1; have rgr_1377 := g_1384.2; have qgmi_0 := g_1333.1; have rgmi_0 := g_1333.2; omega) (by have qgx_1376 := gx_1376.1; have rgx_1376 := gx_1376.2; have igx_1376 : x_1376.toInt = x_1371.toInt + 1 := (by have hc1 : (1 : Int32).toInt = 1 := (by decide); have h9 := gi_addI ex_1376 (by have h1 := gx_1371.1; have h2 := (gi_c 1 1 (by decide)).1; have h3 := gx_1371.2; have h4 := (gi_c 1 1 (by decide)).2; omega) (by have h1 := gx_1371.1; have h2 := (gi_c 1 1 (by decide)).1; have h3 := gx_1371.2; have h4 := (gi_c 1 1 (by decide)).2; omega); rw [hc1] at h9; exact h9); have qgx_1371 := gx_1371.1; have rgx_1371 := gx_1371.2; have igx_1371 : x_1371.toInt = w0_56.toInt + 1 := (by have hc1 : (1 : Int32).toInt = 1 := (by decide); have h9 := gi_addI ex_1371 (by have h1 := gw0_56.1; have h2 := (gi_c 1 1 (by decide)).1; have h3 := gw0_56.2; have h4 := (gi_c 1 1 (by decide)).2; omega) (by have h1 := gw0_56.1; have h2 := (gi_c 1 1 (by decide)).1; have h3 := gw0_56.2; have h4 := (gi_c 1 1 (by decide)).2; omega); rw [hc1] at h9; exact h9); have qgw0_56 := gw0_56.1; have rgw0_56 := gw0_56.2; have qgv2 := g_1369.1; have rgv2 := g_1369.2; have qgr_1377 := g_1384.1; have rgr_1377 := g_1384.2; have qgmi_0 := g_1333.1; have rgmi_0 := g_1333.2; omega)) dX12_tell_109 (fun H locs hP hD hS => ?_)
              have hP : va_P (dC, dI) vwCl [(h0, .inr (12, fsMM (upd (upd (upd mi 37 w0_37) 41 w0_41) 56 x_1371) mr)), ((mr 14), .inl (km_must, 25, .inl z1)), ((mr 15), .inl (km_least, 25, .inl z2)), ((mr 16), .inl (km_pin, 25, .inl z3)), ((mr 17), .inl (km_ways, 6875, .inl z4)), ((mr 18), .inl (km_verdict, 24, .inl z5)), ((mr 19), .inl (km_row, 24, .inl z6)), ((mr 4), .inl (km_struck, 24, .inl fm_struck)), ((mr 7), .inl (km_reportKnown, 24, .inl fm_reportKnown)), ((mr 2), .inl (km_reportPlace, 24, .inl fm_reportPlace)), ((mr 5), .inl (km_reportMonth, 24, .inl fm_reportMonth)), ((mr 6), .inl (km_reportDay, 24, .inl fm_reportDay)), ((mr 3), .inl (km_reportKind, 24, .inl fm_reportKind)), ((mr 0), .inl (km_trust, 6, .inl fm_trust)), ((mr 1), .inl (km_letter, 36, .inl fm_letter)), ((mr 20), .inl (km_official, 25, .inl z15)), ((mr 23), .inl (km_out, 80, .inl (upd f_1375 (x_1376 : Int32).toNatClampNeg 48)))] H := hP
              have hD : va_D A [(h0, .inr (12, fsMM (upd (upd (upd mi 37 w0_37) 41 w0_41) 56 x_1371) mr)), ((mr 14), .inl (km_must, 25, .inl z1)), ((mr 15), .inl (km_least, 25, .inl z2)), ((mr 16), .inl (km_pin, 25, .inl z3)), ((mr 17), .inl (km_ways, 6875, .inl z4)), ((mr 18), .inl (km_verdict, 24, .inl z5)), ((mr 19), .inl (km_row, 24, .inl z6)), ((mr 4), .inl (km_struck, 24, .inl fm_struck)), ((mr 7), .inl (km_reportKnown, 24, .inl fm_reportKnown)), ((mr 2), .inl (km_reportPlace, 24, .inl fm_reportPlace)), ((mr 5), .inl (km_reportMonth, 24, .inl fm_reportMonth)), ((mr 6), .inl (km_reportDay, 24, .inl fm_reportDay)), ((mr 3), .inl (km_reportKind, 24, .inl fm_reportKind)), ((mr 0), .inl (km_trust, 6, .inl fm_trust)), ((mr 1), .inl (km_letter, 36, .inl fm_letter)), ((mr 20), .inl (km_official, 25, .inl z15)), ((mr 23), .inl (km_out, 80, .inl (upd f_1375 (x_1376 : Int32).toNatClampNeg 48)))] := hD
              generalize upd f_1375 (x_1376 : Int32).toNatClampNeg 48 = f_1385 at hP hD
              refine lv_aload_n hx hb dX12_tell_110 rfl (lv_at hl 0 rfl) ?_
              refine lv_dup hx hb dX12_tell_111 rfl ?_
              refine va_get (D := (dC, dI)) (ci := 12) (v := .int x_1371) (C := RX12) (T := TX12) (N := 57) hx hb hts (fun w h => List.mem_cons_of_mem _ (jnGB_X12 w h)) hown hK hP 0 rfl rfl 56 (by decide) (hts _ (List.mem_cons_of_mem _ mGB_219)) (fun _ h9 => h9) rfl dX12_tell_112 ?_
              refine lv_iconst (v := 2) hx hb dX12_tell_115 (by decide) ?_
              refine lv_iadd hx hb dX12_tell_116 ?_
              refine lv_topi (fun x_1386 ex_1386 => ?_)
              have gx_1386 : gi x_1386 3 83 := gi_add ex_1386 gx_1371 (gi_c 2 2 (by decide)) (by decide)
              refine va_put (D := (dC, dI)) (ci := 12) (v := .int x_1386) (ty := .int) (C := RX12) (T := TX12) (N := 57) hx hb hts (fun w h => List.mem_cons_of_mem _ (jnGB_X12 w h)) tyX12 tyX12_ok nmX12 hown hK hP hD hS 0 rfl rfl 56 (by decide) (hts _ (List.mem_cons_of_mem _ mGB_219)) (fun _ h9 => h9) rfl (by decide +kernel) rfl rfl (Nat.le_of_ble_eq_true rfl) dX12_tell_117 (fun H locs hP hD hS => ?_)
              have hP : va_P (dC, dI) vwCl [(h0, .inr (12, fsMM (upd (upd (upd mi 37 w0_37) 41 w0_41) 56 x_1386) mr)), ((mr 14), .inl (km_must, 25, .inl z1)), ((mr 15), .inl (km_least, 25, .inl z2)), ((mr 16), .inl (km_pin, 25, .inl z3)), ((mr 17), .inl (km_ways, 6875, .inl z4)), ((mr 18), .inl (km_verdict, 24, .inl z5)), ((mr 19), .inl (km_row, 24, .inl z6)), ((mr 4), .inl (km_struck, 24, .inl fm_struck)), ((mr 7), .inl (km_reportKnown, 24, .inl fm_reportKnown)), ((mr 2), .inl (km_reportPlace, 24, .inl fm_reportPlace)), ((mr 5), .inl (km_reportMonth, 24, .inl fm_reportMonth)), ((mr 6), .inl (km_reportDay, 24, .inl fm_reportDay)), ((mr 3), .inl (km_reportKind, 24, .inl fm_reportKind)), ((mr 0), .inl (km_trust, 6, .inl fm_trust)), ((mr 1), .inl (km_letter, 36, .inl fm_letter)), ((mr 20), .inl (km_official, 25, .inl z15)), ((mr 23), .inl (km_out, 80, .inl f_1385))] H := hP
              have hD : va_D A [(h0, .inr (12, fsMM (upd (upd (upd mi 37 w0_37) 41 w0_41) 56 x_1386) mr)), ((mr 14), .inl (km_must, 25, .inl z1)), ((mr 15), .inl (km_least, 25, .inl z2)), ((mr 16), .inl (km_pin, 25, .inl z3)), ((mr 17), .inl (km_ways, 6875, .inl z4)), ((mr 18), .inl (km_verdict, 24, .inl z5)), ((mr 19), .inl (km_row, 24, .inl z6)), ((mr 4), .inl (km_struck, 24, .inl fm_struck)), ((mr 7), .inl (km_reportKnown, 24, .inl fm_reportKnown)), ((mr 2), .inl (km_reportPlace, 24, .inl fm_reportPlace)), ((mr 5), .inl (km_reportMonth, 24, .inl fm_reportMonth)), ((mr 6), .inl (km_reportDay, 24, .inl fm_reportDay)), ((mr 3), .inl (km_reportKind, 24, .inl fm_reportKind)), ((mr 0), .inl (km_trust, 6, .inl fm_trust)), ((mr 1), .inl (km_letter, 36, .inl fm_letter)), ((mr 20), .inl (km_official, 25, .inl z15)), ((mr 23), .inl (km_out, 80, .inl f_1385))] := hD
              obtain ⟨x_1387, ex_1387⟩ : ∃ y : Int32, y = v2 + 1 := ⟨_, rfl⟩
              have gx_1387 : gi x_1387 2 24 := gi_add ex_1387 g_1369 (gi_c 1 1 (by decide)) (by decide)
              refine lv_iinc (v := x_1387) (lv' := [(2, .int x_1387), (0, .ref h0), (1, .int p1)]) hx hb dX12_tell_120 hl (k := 2) rfl (by rw [ex_1387]; rfl) (by decide) rfl (fun ls hl => ?_)
              refine lv_goto (tgt := 23) hx hb dX12_tell_123 (by decide) ?_
              exact ih x_1387 w0_37 w0_41 x_1386 z1 z2 z3 z4 z5 z6 z15 f_1385 _ _ _ gf_p1 (gi_w gx_1387 (by decide)) gw0_37 gw0_41 (show gi x_1386 0 80 from ⟨by have qgx_1386 := gx_1386.1; have rgx_1386 := gx_1386.2; have igx_1386 : x_1386.toInt = x_1371.toInt + 2 := (by have hc2 : (2 : Int32).toInt = 2 := (by decide); have h9 := gi_addI ex_1386 (by have h1 := gx_1371.1; have h2 := (gi_c 2 2 (by decide)).1; have h3 := gx_1371.2; have h4 := (gi_c 2 2 (by decide)).2; omega) (by have h1 := gx_1371.1; have h2 := (gi_c 2 2 (by decide)).1; have h3 := gx_1371.2; have h4 := (gi_c 2 2 (by decide)).2; omega); rw [hc2] at h9; exact h9); have qgx_1371 := gx_1371.1; have rgx_1371 := gx_1371.2; have igx_1371 : x_1371.toInt = w0_56.toInt + 1 := (by have hc1 : (1 : Int32).toInt = 1 := (by decide); have h9 := gi_addI ex_1371 (by have h1 := gw0_56.1; have h2 := (gi_c 1 1 (by decide)).1; have h3 := gw0_56.2; have h4 := (gi_c 1 1 (by decide)).2; omega) (by have h1 := gw0_56.1; have h2 := (gi_c 1 1 (by decide)).1; have h3 := gw0_56.2; have h4 := (gi_c 1 1 (by decide)).2; omega); rw [hc1] at h9; exact h9); have qgw0_56 := gw0_56.1; have rgw0_56 := gw0_56.2; have qgv2 := g_1369.1; have rgv2 := g_1369.2; have qgr_1377 := g_1384.1; have rgr_1377 := g_1384.2; have qgmi_0 := g_1333.1; have rgmi_0 := g_1333.2; omega, by have qgx_1386 := gx_1386.1; have rgx_1386 := gx_1386.2; have igx_1386 : x_1386.toInt = x_1371.toInt + 2 := (by have hc2 : (2 : Int32).toInt = 2 := (by decide); have h9 := gi_addI ex_1386 (by have h1 := gx_1371.1; have h2 := (gi_c 2 2 (by decide)).1; have h3 := gx_1371.2; have h4 := (gi_c 2 2 (by decide)).2; omega) (by have h1 := gx_1371.1; have h2 := (gi_c 2 2 (by decide)).1; have h3 := gx_1371.2; have h4 := (gi_c 2 2 (by decide)).2; omega); rw [hc2] at h9; exact h9); have qgx_1371 := gx_1371.1; have rgx_1371 := gx_1371.2; have igx_1371 : x_1371.toInt = w0_56.toInt + 1 := (by have hc1 : (1 : Int32).toInt = 1 := (by decide); have h9 := gi_addI ex_1371 (by have h1 := gw0_56.1; have h2 := (gi_c 1 1 (by decide)).1; have h3 := gw0_56.2; have h4 := (gi_c 1 1 (by decide)).2; omega) (by have h1 := gw0_56.1; have h2 := (gi_c 1 1 (by decide)).1; have h3 := gw0_56.2; have h4 := (gi_c 1 1 (by decide)).2; omega); rw [hc1] at h9; exact h9); have qgw0_56 := gw0_56.1; have rgw0_56 := gw0_56.2; have qgv2 := g_1369.1; have rgv2 := g_1369.2; have qgr_1377 := g_1384.1; have rgr_1377 := g_1384.2; have qgmi_0 := g_1333.1; have rgmi_0 := g_1333.2; omega⟩) gz6 (show x_1386.toInt ≤ 3 * x_1387.toInt from by have qgx_1387 := gx_1387.1; have rgx_1387 := gx_1387.2; have igx_1387 : x_1387.toInt = v2.toInt + 1 := (by have hc1 : (1 : Int32).toInt = 1 := (by decide); have h9 := gi_addI ex_1387 (by have h1 := g_1369.1; have h2 := (gi_c 1 1 (by decide)).1; have h3 := g_1369.2; have h4 := (gi_c 1 1 (by decide)).2; omega) (by have h1 := g_1369.1; have h2 := (gi_c 1 1 (by decide)).1; have h3 := g_1369.2; have h4 := (gi_c 1 1 (by decide)).2; omega); rw [hc1] at h9; exact h9); have qgv2 := g_1369.1; have rgv2 := g_1369.2; have qgx_1386 := gx_1386.1; have rgx_1386 := gx_1386.2; have igx_1386 : x_1386.toInt = x_1371.toInt + 2 := (by have hc2 : (2 : Int32).toInt = 2 := (by decide); have h9 := gi_addI ex_1386 (by have h1 := gx_1371.1; have h2 := (gi_c 2 2 (by decide)).1; have h3 := gx_1371.2; have h4 := (gi_c 2 2 (by decide)).2; omega) (by have h1 := gx_1371.1; have h2 := (gi_c 2 2 (by decide)).1; have h3 := gx_1371.2; have h4 := (gi_c 2 2 (by decide)).2; omega); rw [hc2] at h9; exact h9); have qgx_1371 := gx_1371.1; have rgx_1371 := gx_1371.2; have igx_1371 : x_1371.toInt = w0_56.toInt + 1 := (by have hc1 : (1 : Int32).toInt = 1 := (by decide); have h9 := gi_addI ex_1371 (by have h1 := gw0_56.1; have h2 := (gi_c 1 1 (by decide)).1; have h3 := gw0_56.2; have h4 := (gi_c 1 1 (by decide)).2; omega) (by have h1 := gw0_56.1; have h2 := (gi_c 1 1 (by decide)).1; have h3 := gw0_56.2; have h4 := (gi_c 1 1 (by decide)).2; omega); rw [hc1] at h9; exact h9); have qgw0_56 := gw0_56.1; have rgw0_56 := gw0_56.2; have qgr_1377 := g_1384.1; have rgr_1377 := g_1384.2; have qgmi_0 := g_1333.1; have rgmi_0 := g_1333.2; omega) (show 0 ≤ x_1386.toInt from by have qgx_1386 := gx_1386.1; have rgx_1386 := gx_1386.2; have igx_1386 : x_1386.toInt = x_1371.toInt + 2 := (by have hc2 : (2 : Int32).toInt = 2 := (by decide); have h9 := gi_addI ex_1386 (by have h1 := gx_1371.1; have h2 := (gi_c 2 2 (by decide)).1; have h3 := gx_1371.2; have h4 := (gi_c 2 2 (by decide)).2; omega) (by have h1 := gx_1371.1; have h2 := (gi_c 2 2 (by decide)).1; have h3 := gx_1371.2; have h4 := (gi_c 2 2 (by decide)).2; omega); rw [hc2] at h9; exact h9); have qgx_1371 := gx_1371.1; have rgx_1371 := gx_1371.2; have igx_1371 : x_1371.toInt = w0_56.toInt + 1 := (by have hc1 : (1 : Int32).toInt = 1 := (by decide); have h9 := gi_addI ex_1371 (by have h1 := gw0_56.1; have h2 := (gi_c 1 1 (by decide)).1; have h3 := gw0_56.2; have h4 := (gi_c 1 1 (by decide)).2; omega) (by have h1 := gw0_56.1; have h2 := (gi_c 1 1 (by decide)).1; have h3 := gw0_56.2; have h4 := (gi_c 1 1 (by decide)).2; omega); rw [hc1] at h9; exact h9); have qgw0_56 := gw0_56.1; have rgw0_56 := gw0_56.2; have qgv2 := g_1369.1; have rgv2 := g_1369.2; have qgr_1377 := g_1384.1; have rgr_1377 := g_1384.2; have qgmi_0 := g_1333.1; have rgmi_0 := g_1333.2; omega) (by have av2 := gv2.1; have bv2 := gv2.2; have qgx_1387 := gx_1387.1; have rgx_1387 := gx_1387.2; have igx_1387 : x_1387.toInt = v2.toInt + 1 := (by have hc1 : (1 : Int32).toInt = 1 := (by decide); have h9 := gi_addI ex_1387 (by have h1 := g_1369.1; have h2 := (gi_c 1 1 (by decide)).1; have h3 := g_1369.2; have h4 := (gi_c 1 1 (by decide)).2; omega) (by have h1 := g_1369.1; have h2 := (gi_c 1 1 (by decide)).1; have h3 := g_1369.2; have h4 := (gi_c 1 1 (by decide)).2; omega); rw [hc1] at h9; exact h9); have qgv2 := g_1369.1; have rgv2 := g_1369.2; omega) hP hD hS (lv_sub hl [1, 2, 0] rfl)
          · have hc_1388 : r_1372.toInt = 30 := by have h9 := congrArg Int32.toInt c_1373; rw [show (30 : Int32).toInt = 30 from by decide] at h9; exact h9
            have g_1389 : gi r_1372 30 30 := gi_eq c_1373 (gi_c 30 30 (by decide))
            refine lv_bipush (v := 51) hx hb dX12_tell_74 (by decide) ?_
            refine lv_goto (tgt := 81) hx hb dX12_tell_76 (by decide) ?_
            refine va_iast hx hb hK hP hD hS 16 15 rfl rfl (gz_inR (n := 80) (by have qgx_1371 := gx_1371.1; have rgx_1371 := gx_1371.2; have igx_1371 : x_1371.toInt = w0_56.toInt + 1 := (by have hc1 : (1 : Int32).toInt = 1 := (by decide); have h9 := gi_addI ex_1371 (by have h1 := gw0_56.1; have h2 := (gi_c 1 1 (by decide)).1; have h3 := gw0_56.2; have h4 := (gi_c 1 1 (by decide)).2; omega) (by have h1 := gw0_56.1; have h2 := (gi_c 1 1 (by decide)).1; have h3 := gw0_56.2; have h4 := (gi_c 1 1 (by decide)).2; omega); rw [hc1] at h9; exact h9); have qgw0_56 := gw0_56.1; have rgw0_56 := gw0_56.2; have qgv2 := g_1369.1; have rgv2 := g_1369.2; have qgr_1372 := g_1389.1; have rgr_1372 := g_1389.2; have qgmi_0 := g_1333.1; have rgmi_0 := g_1333.2; omega) (by have qgx_1371 := gx_1371.1; have rgx_1371 := gx_1371.2; have igx_1371 : x_1371.toInt = w0_56.toInt + 1 := (by have hc1 : (1 : Int32).toInt = 1 := (by decide); have h9 := gi_addI ex_1371 (by have h1 := gw0_56.1; have h2 := (gi_c 1 1 (by decide)).1; have h3 := gw0_56.2; have h4 := (gi_c 1 1 (by decide)).2; omega) (by have h1 := gw0_56.1; have h2 := (gi_c 1 1 (by decide)).1; have h3 := gw0_56.2; have h4 := (gi_c 1 1 (by decide)).2; omega); rw [hc1] at h9; exact h9); have qgw0_56 := gw0_56.1; have rgw0_56 := gw0_56.2; have qgv2 := g_1369.1; have rgv2 := g_1369.2; have qgr_1372 := g_1389.1; have rgr_1372 := g_1389.2; have qgmi_0 := g_1333.1; have rgmi_0 := g_1333.2; omega)) dX12_tell_81 (fun H locs hP hD hS => ?_)
            have hP : va_P (dC, dI) vwCl [(h0, .inr (12, fsMM (upd (upd (upd mi 37 w0_37) 41 w0_41) 56 x_1371) mr)), ((mr 14), .inl (km_must, 25, .inl z1)), ((mr 15), .inl (km_least, 25, .inl z2)), ((mr 16), .inl (km_pin, 25, .inl z3)), ((mr 17), .inl (km_ways, 6875, .inl z4)), ((mr 18), .inl (km_verdict, 24, .inl z5)), ((mr 19), .inl (km_row, 24, .inl z6)), ((mr 4), .inl (km_struck, 24, .inl fm_struck)), ((mr 7), .inl (km_reportKnown, 24, .inl fm_reportKnown)), ((mr 2), .inl (km_reportPlace, 24, .inl fm_reportPlace)), ((mr 5), .inl (km_reportMonth, 24, .inl fm_reportMonth)), ((mr 6), .inl (km_reportDay, 24, .inl fm_reportDay)), ((mr 3), .inl (km_reportKind, 24, .inl fm_reportKind)), ((mr 0), .inl (km_trust, 6, .inl fm_trust)), ((mr 1), .inl (km_letter, 36, .inl fm_letter)), ((mr 20), .inl (km_official, 25, .inl z15)), ((mr 23), .inl (km_out, 80, .inl (upd f_1370 (x_1371 : Int32).toNatClampNeg 51)))] H := hP
            have hD : va_D A [(h0, .inr (12, fsMM (upd (upd (upd mi 37 w0_37) 41 w0_41) 56 x_1371) mr)), ((mr 14), .inl (km_must, 25, .inl z1)), ((mr 15), .inl (km_least, 25, .inl z2)), ((mr 16), .inl (km_pin, 25, .inl z3)), ((mr 17), .inl (km_ways, 6875, .inl z4)), ((mr 18), .inl (km_verdict, 24, .inl z5)), ((mr 19), .inl (km_row, 24, .inl z6)), ((mr 4), .inl (km_struck, 24, .inl fm_struck)), ((mr 7), .inl (km_reportKnown, 24, .inl fm_reportKnown)), ((mr 2), .inl (km_reportPlace, 24, .inl fm_reportPlace)), ((mr 5), .inl (km_reportMonth, 24, .inl fm_reportMonth)), ((mr 6), .inl (km_reportDay, 24, .inl fm_reportDay)), ((mr 3), .inl (km_reportKind, 24, .inl fm_reportKind)), ((mr 0), .inl (km_trust, 6, .inl fm_trust)), ((mr 1), .inl (km_letter, 36, .inl fm_letter)), ((mr 20), .inl (km_official, 25, .inl z15)), ((mr 23), .inl (km_out, 80, .inl (upd f_1370 (x_1371 : Int32).toNatClampNeg 51)))] := hD
            generalize upd f_1370 (x_1371 : Int32).toNatClampNeg 51 = f_1390 at hP hD
            refine lv_aload_n hx hb dX12_tell_82 rfl (lv_at hl 0 rfl) ?_
            refine va_get (D := (dC, dI)) (ci := 12) (v := .ref (mr 23)) (C := RX12) (T := TX12) (N := 57) hx hb hts (fun w h => List.mem_cons_of_mem _ (jnGB_X12 w h)) hown hK hP 0 rfl rfl 55 (by decide) (hts _ (List.mem_cons_of_mem _ mGB_39)) (fun _ h9 => h9) rfl dX12_tell_83 ?_
            refine lv_aload_n hx hb dX12_tell_86 rfl (lv_at hl 0 rfl) ?_
            refine va_get (D := (dC, dI)) (ci := 12) (v := .int x_1371) (C := RX12) (T := TX12) (N := 57) hx hb hts (fun w h => List.mem_cons_of_mem _ (jnGB_X12 w h)) hown hK hP 0 rfl rfl 56 (by decide) (hts _ (List.mem_cons_of_mem _ mGB_219)) (fun _ h9 => h9) rfl dX12_tell_87 ?_
            refine lv_iconst (v := 1) hx hb dX12_tell_90 (by decide) ?_
            refine lv_iadd hx hb dX12_tell_91 ?_
            refine lv_topi (fun x_1391 ex_1391 => ?_)
            have gx_1391 : gi x_1391 2 82 := gi_add ex_1391 gx_1371 (gi_c 1 1 (by decide)) (by decide)
            refine lv_aload_n hx hb dX12_tell_92 rfl (lv_at hl 0 rfl) ?_
            refine lv_iload_n hx hb dX12_tell_93 rfl (lv_at hl 2 rfl) ?_
            have hPc := hP.sub (ws' := [(h0, .inr (12, fsMM (upd (upd (upd mi 37 w0_37) 41 w0_41) 56 x_1371) mr)), ((mr 20), .inl (km_official, 25, .inl z15))]) [0, 15] rfl
            have hKc := hK.sub (tys' := [(km_official, .int)]) [14] rfl
            refine va_calli (va_runV (As := [.int v2]) (rest := [.int x_1391, .ref (mr 23)]) ⟨hx, hb, hml, hown, hts⟩ (sX12_lengthBy l dC dI h0 (upd (upd (upd mi 37 w0_37) 41 w0_41) 56 x_1371) mr km_official z15 v2 (gi_w g_1333 (by decide)) gmi_1 gmi_2 gmi_4 gmi_7 gmi_10 gmi_17 gmi_23 gmi_24 gmi_26 gmi_29 gmi_30 gmi_33 gw0_37 gw0_41 gmi_50 gmi_51 (show gi x_1371 0 80 from ⟨by have qgx_1371 := gx_1371.1; have rgx_1371 := gx_1371.2; have igx_1371 : x_1371.toInt = w0_56.toInt + 1 := (by have hc1 : (1 : Int32).toInt = 1 := (by decide); have h9 := gi_addI ex_1371 (by have h1 := gw0_56.1; have h2 := (gi_c 1 1 (by decide)).1; have h3 := gw0_56.2; have h4 := (gi_c 1 1 (by decide)).2; omega) (by have h1 := gw0_56.1; have h2 := (gi_c 1 1 (by decide)).1; have h3 := gw0_56.2; have h4 := (gi_c 1 1 (by decide)).2; omega); rw [hc1] at h9; exact h9); have qgw0_56 := gw0_56.1; have rgw0_56 := gw0_56.2; have qgv2 := g_1369.1; have rgv2 := g_1369.2; have qgr_1372 := g_1389.1; have rgr_1372 := g_1389.2; have qgmi_0 := g_1333.1; have rgmi_0 := g_1333.2; omega, by have qgx_1371 := gx_1371.1; have rgx_1371 := gx_1371.2; have igx_1371 : x_1371.toInt = w0_56.toInt + 1 := (by have hc1 : (1 : Int32).toInt = 1 := (by decide); have h9 := gi_addI ex_1371 (by have h1 := gw0_56.1; have h2 := (gi_c 1 1 (by decide)).1; have h3 := gw0_56.2; have h4 := (gi_c 1 1 (by decide)).2; omega) (by have h1 := gw0_56.1; have h2 := (gi_c 1 1 (by decide)).1; have h3 := gw0_56.2; have h4 := (gi_c 1 1 (by decide)).2; omega); rw [hc1] at h9; exact h9); have qgw0_56 := gw0_56.1; have rgw0_56 := gw0_56.2; have qgv2 := g_1369.1; have rgv2 := g_1369.2; have qgr_1372 := g_1389.1; have rgr_1372 := g_1389.2; have qgmi_0 := g_1333.1; have rgmi_0 := g_1333.2; omega⟩) (gi_w g_1369 (by decide))) (cwV 1 hts (gz_gV mGB_423 mGB_424 mGB_425 mGB_1 mGB_426 goodGB) rfl rfl rfl (by decide +kernel) ⟨Nat.le_trans (Nat.le_of_ble_eq_true rfl) hRf, Nat.le_trans (Nat.le_of_ble_eq_true rfl) hRl⟩) ⟨fun a U g mk q => by obtain ⟨q0, qP, qK⟩ := q; exact ⟨q0, qP, va_K.moved (u := U) (U := U.calling g mk a) (Vm.Alike.refl U.vm) qK⟩, va_recv hKc hPc (ci := 12) (q0 := 0) rfl rfl, fun U hU hW => ⟨rfl, by rw [hU]; exact hPc, va_K.moved hW.alike hKc⟩⟩ rfl rfl hl.1 rfl (lv_room (Nat.le_of_ble_eq_true rfl)) dX12_tell_94 ⟨hRc, hRs⟩) hS (fun q _ h => h.elim) (fun q h => h.elim) (fun r_1392 u t H1 locs ht hvm hw hB hz1 hk1 hS => ?_)
            have hP := gz_keep hP hk1
            generalize H1 = H at hP hS ⊢
            refine lv_bipush (v := 30) hx hb dX12_tell_97 (by decide) ?_
            refine lv_icmp_ne (tgt := 107) hx hb dX12_tell_99 (by decide) (fun c_1393 => ?_) (fun c_1393 => ?_)
            · have hc_1394 : r_1392.toInt ≠ 30 := fun h9 => c_1393 (Int32.toInt_inj.mp (by rw [show (30 : Int32).toInt = 30 from by decide]; exact h9))
              refine lv_bipush (v := 57) hx hb dX12_tell_107 (by decide) ?_
              refine va_iast hx hb hK hP hD hS 16 15 rfl rfl (gz_inR (n := 80) (by have qgx_1391 := gx_1391.1; have rgx_1391 := gx_1391.2; have igx_1391 : x_1391.toInt = x_1371.toInt + 1 := (by have hc1 : (1 : Int32).toInt = 1 := (by decide); have h9 := gi_addI ex_1391 (by have h1 := gx_1371.1; have h2 := (gi_c 1 1 (by decide)).1; have h3 := gx_1371.2; have h4 := (gi_c 1 1 (by decide)).2; omega) (by have h1 := gx_1371.1; have h2 := (gi_c 1 1 (by decide)).1; have h3 := gx_1371.2; have h4 := (gi_c 1 1 (by decide)).2; omega); rw [hc1] at h9; exact h9); have qgx_1371 := gx_1371.1; have rgx_1371 := gx_1371.2; have igx_1371 : x_1371.toInt = w0_56.toInt + 1 := (by have hc1 : (1 : Int32).toInt = 1 := (by decide); have h9 := gi_addI ex_1371 (by have h1 := gw0_56.1; have h2 := (gi_c 1 1 (by decide)).1; have h3 := gw0_56.2; have h4 := (gi_c 1 1 (by decide)).2; omega) (by have h1 := gw0_56.1; have h2 := (gi_c 1 1 (by decide)).1; have h3 := gw0_56.2; have h4 := (gi_c 1 1 (by decide)).2; omega); rw [hc1] at h9; exact h9); have qgw0_56 := gw0_56.1; have rgw0_56 := gw0_56.2; have qgv2 := g_1369.1; have rgv2 := g_1369.2; have qgr_1372 := g_1389.1; have rgr_1372 := g_1389.2; have qgmi_0 := g_1333.1; have rgmi_0 := g_1333.2; omega) (by have qgx_1391 := gx_1391.1; have rgx_1391 := gx_1391.2; have igx_1391 : x_1391.toInt = x_1371.toInt + 1 := (by have hc1 : (1 : Int32).toInt = 1 := (by decide); have h9 := gi_addI ex_1391 (by have h1 := gx_1371.1; have h2 := (gi_c 1 1 (by decide)).1; have h3 := gx_1371.2; have h4 := (gi_c 1 1 (by decide)).2; omega) (by have h1 := gx_1371.1; have h2 := (gi_c 1 1 (by decide)).1; have h3 := gx_1371.2; have h4 := (gi_c 1 1 (by decide)).2; omega); rw [hc1] at h9; exact h9); have qgx_1371 := gx_1371.1; have rgx_1371 := gx_1371.2; have igx_1371 : x_1371.toInt = w0_56.toInt + 1 := (by have hc1 : (1 : Int32).toInt = 1 := (by decide); have h9 := gi_addI ex_1371 (by have h1 := gw0_56.1; have h2 := (gi_c 1 1 (by decide)).1; have h3 := gw0_56.2; have h4 := (gi_c 1 1 (by decide)).2; omega) (by have h1 := gw0_56.1; have h2 := (gi_c 1 1 (by decide)).1; have h3 := gw0_56.2; have h4 := (gi_c 1 1 (by decide)).2; omega); rw [hc1] at h9; exact h9); have qgw0_56 := gw0_56.1; have rgw0_56 := gw0_56.2; have qgv2 := g_1369.1; have rgv2 := g_1369.2; have qgr_1372 := g_1389.1; have rgr_1372 := g_1389.2; have qgmi_0 := g_1333.1; have rgmi_0 := g_1333.2; omega)) dX12_tell_109 (fun H locs hP hD hS => ?_)
              have hP : va_P (dC, dI) vwCl [(h0, .inr (12, fsMM (upd (upd (upd mi 37 w0_37) 41 w0_41) 56 x_1371) mr)), ((mr 14), .inl (km_must, 25, .inl z1)), ((mr 15), .inl (km_least, 25, .inl z2)), ((mr 16), .inl (km_pin, 25, .inl z3)), ((mr 17), .inl (km_ways, 6875, .inl z4)), ((mr 18), .inl (km_verdict, 24, .inl z5)), ((mr 19), .inl (km_row, 24, .inl z6)), ((mr 4), .inl (km_struck, 24, .inl fm_struck)), ((mr 7), .inl (km_reportKnown, 24, .inl fm_reportKnown)), ((mr 2), .inl (km_reportPlace, 24, .inl fm_reportPlace)), ((mr 5), .inl (km_reportMonth, 24, .inl fm_reportMonth)), ((mr 6), .inl (km_reportDay, 24, .inl fm_reportDay)), ((mr 3), .inl (km_reportKind, 24, .inl fm_reportKind)), ((mr 0), .inl (km_trust, 6, .inl fm_trust)), ((mr 1), .inl (km_letter, 36, .inl fm_letter)), ((mr 20), .inl (km_official, 25, .inl z15)), ((mr 23), .inl (km_out, 80, .inl (upd f_1390 (x_1391 : Int32).toNatClampNeg 57)))] H := hP
              have hD : va_D A [(h0, .inr (12, fsMM (upd (upd (upd mi 37 w0_37) 41 w0_41) 56 x_1371) mr)), ((mr 14), .inl (km_must, 25, .inl z1)), ((mr 15), .inl (km_least, 25, .inl z2)), ((mr 16), .inl (km_pin, 25, .inl z3)), ((mr 17), .inl (km_ways, 6875, .inl z4)), ((mr 18), .inl (km_verdict, 24, .inl z5)), ((mr 19), .inl (km_row, 24, .inl z6)), ((mr 4), .inl (km_struck, 24, .inl fm_struck)), ((mr 7), .inl (km_reportKnown, 24, .inl fm_reportKnown)), ((mr 2), .inl (km_reportPlace, 24, .inl fm_reportPlace)), ((mr 5), .inl (km_reportMonth, 24, .inl fm_reportMonth)), ((mr 6), .inl (km_reportDay, 24, .inl fm_reportDay)), ((mr 3), .inl (km_reportKind, 24, .inl fm_reportKind)), ((mr 0), .inl (km_trust, 6, .inl fm_trust)), ((mr 1), .inl (km_letter, 36, .inl fm_letter)), ((mr 20), .inl (km_official, 25, .inl z15)), ((mr 23), .inl (km_out, 80, .inl (upd f_1390 (x_1391 : Int32).toNatClampNeg 57)))] := hD
              generalize upd f_1390 (x_1391 : Int32).toNatClampNeg 57 = f_1395 at hP hD
              refine lv_aload_n hx hb dX12_tell_110 rfl (lv_at hl 0 rfl) ?_
              refine lv_dup hx hb dX12_tell_111 rfl ?_
              refine va_get (D := (dC, dI)) (ci := 12) (v := .int x_1371) (C := RX12) (T := TX12) (N := 57) hx hb hts (fun w h => List.mem_cons_of_mem _ (jnGB_X12 w h)) hown hK hP 0 rfl rfl 56 (by decide) (hts _ (List.mem_cons_of_mem _ mGB_219)) (fun _ h9 => h9) rfl dX12_tell_112 ?_
              refine lv_iconst (v := 2) hx hb dX12_tell_115 (by decide) ?_
              refine lv_iadd hx hb dX12_tell_116 ?_
              refine lv_topi (fun x_1396 ex_1396 => ?_)
              have gx_1396 : gi x_1396 3 83 := gi_add ex_1396 gx_1371 (gi_c 2 2 (by decide)) (by decide)
              refine va_put (D := (dC, dI)) (ci := 12) (v := .int x_1396) (ty := .int) (C := RX12) (T := TX12) (N := 57) hx hb hts (fun w h => List.mem_cons_of_mem _ (jnGB_X12 w h)) tyX12 tyX12_ok nmX12 hown hK hP hD hS 0 rfl rfl 56 (by decide) (hts _ (List.mem_cons_of_mem _ mGB_219)) (fun _ h9 => h9) rfl (by decide +kernel) rfl rfl (Nat.le_of_ble_eq_true rfl) dX12_tell_117 (fun H locs hP hD hS => ?_)
              have hP : va_P (dC, dI) vwCl [(h0, .inr (12, fsMM (upd (upd (upd mi 37 w0_37) 41 w0_41) 56 x_1396) mr)), ((mr 14), .inl (km_must, 25, .inl z1)), ((mr 15), .inl (km_least, 25, .inl z2)), ((mr 16), .inl (km_pin, 25, .inl z3)), ((mr 17), .inl (km_ways, 6875, .inl z4)), ((mr 18), .inl (km_verdict, 24, .inl z5)), ((mr 19), .inl (km_row, 24, .inl z6)), ((mr 4), .inl (km_struck, 24, .inl fm_struck)), ((mr 7), .inl (km_reportKnown, 24, .inl fm_reportKnown)), ((mr 2), .inl (km_reportPlace, 24, .inl fm_reportPlace)), ((mr 5), .inl (km_reportMonth, 24, .inl fm_reportMonth)), ((mr 6), .inl (km_reportDay, 24, .inl fm_reportDay)), ((mr 3), .inl (km_reportKind, 24, .inl fm_reportKind)), ((mr 0), .inl (km_trust, 6, .inl fm_trust)), ((mr 1), .inl (km_letter, 36, .inl fm_letter)), ((mr 20), .inl (km_official, 25, .inl z15)), ((mr 23), .inl (km_out, 80, .inl f_1395))] H := hP
              have hD : va_D A [(h0, .inr (12, fsMM (upd (upd (upd mi 37 w0_37) 41 w0_41) 56 x_1396) mr)), ((mr 14), .inl (km_must, 25, .inl z1)), ((mr 15), .inl (km_least, 25, .inl z2)), ((mr 16), .inl (km_pin, 25, .inl z3)), ((mr 17), .inl (km_ways, 6875, .inl z4)), ((mr 18), .inl (km_verdict, 24, .inl z5)), ((mr 19), .inl (km_row, 24, .inl z6)), ((mr 4), .inl (km_struck, 24, .inl fm_struck)), ((mr 7), .inl (km_reportKnown, 24, .inl fm_reportKnown)), ((mr 2), .inl (km_reportPlace, 24, .inl fm_reportPlace)), ((mr 5), .inl (km_reportMonth, 24, .inl fm_reportMonth)), ((mr 6), .inl (km_reportDay, 24, .inl fm_reportDay)), ((mr 3), .inl (km_reportKind, 24, .inl fm_reportKind)), ((mr 0), .inl (km_trust, 6, .inl fm_trust)), ((mr 1), .inl (km_letter, 36, .inl fm_letter)), ((mr 20), .inl (km_official, 25, .inl z15)), ((mr 23), .inl (km_out, 80, .inl f_1395))] := hD
              obtain ⟨x_1397, ex_1397⟩ : ∃ y : Int32, y = v2 + 1 := ⟨_, rfl⟩
              have gx_1397 : gi x_1397 2 24 := gi_add ex_1397 g_1369 (gi_c 1 1 (by decide)) (by decide)
              refine lv_iinc (v := x_1397) (lv' := [(2, .int x_1397), (0, .ref h0), (1, .int p1)]) hx hb dX12_tell_120 hl (k := 2) rfl (by rw [ex_1397]; rfl) (by decide) rfl (fun ls hl => ?_)
              refine lv_goto (tgt := 23) hx hb dX12_tell_123 (by decide) ?_
              exact ih x_1397 w0_37 w0_41 x_1396 z1 z2 z3 z4 z5 z6 z15 f_1395 _ _ _ gf_p1 (gi_w gx_1397 (by decide)) gw0_37 gw0_41 (show gi x_1396 0 80 from ⟨by have qgx_1396 := gx_1396.1; have rgx_1396 := gx_1396.2; have igx_1396 : x_1396.toInt = x_1371.toInt + 2 := (by have hc2 : (2 : Int32).toInt = 2 := (by decide); have h9 := gi_addI ex_1396 (by have h1 := gx_1371.1; have h2 := (gi_c 2 2 (by decide)).1; have h3 := gx_1371.2; have h4 := (gi_c 2 2 (by decide)).2; omega) (by have h1 := gx_1371.1; have h2 := (gi_c 2 2 (by decide)).1; have h3 := gx_1371.2; have h4 := (gi_c 2 2 (by decide)).2; omega); rw [hc2] at h9; exact h9); have qgx_1371 := gx_1371.1; have rgx_1371 := gx_1371.2; have igx_1371 : x_1371.toInt = w0_56.toInt + 1 := (by have hc1 : (1 : Int32).toInt = 1 := (by decide); have h9 := gi_addI ex_1371 (by have h1 := gw0_56.1; have h2 := (gi_c 1 1 (by decide)).1; have h3 := gw0_56.2; have h4 := (gi_c 1 1 (by decide)).2; omega) (by have h1 := gw0_56.1; have h2 := (gi_c 1 1 (by decide)).1; have h3 := gw0_56.2; have h4 := (gi_c 1 1 (by decide)).2; omega); rw [hc1] at h9; exact h9); have qgw0_56 := gw0_56.1; have rgw0_56 := gw0_56.2; have qgv2 := g_1369.1; have rgv2 := g_1369.2; have qgr_1372 := g_1389.1; have rgr_1372 := g_1389.2; have qgmi_0 := g_1333.1; have rgmi_0 := g_1333.2; omega, by have qgx_1396 := gx_1396.1; have rgx_1396 := gx_1396.2; have igx_1396 : x_1396.toInt = x_1371.toInt + 2 := (by have hc2 : (2 : Int32).toInt = 2 := (by decide); have h9 := gi_addI ex_1396 (by have h1 := gx_1371.1; have h2 := (gi_c 2 2 (by decide)).1; have h3 := gx_1371.2; have h4 := (gi_c 2 2 (by decide)).2; omega) (by have h1 := gx_1371.1; have h2 := (gi_c 2 2 (by decide)).1; have h3 := gx_1371.2; have h4 := (gi_c 2 2 (by decide)).2; omega); rw [hc2] at h9; exact h9); have qgx_1371 := gx_1371.1; have rgx_1371 := gx_1371.2; have igx_1371 : x_1371.toInt = w0_56.toInt + 1 := (by have hc1 : (1 : Int32).toInt = 1 := (by decide); have h9 := gi_addI ex_1371 (by have h1 := gw0_56.1; have h2 := (gi_c 1 1 (by decide)).1; have h3 := gw0_56.2; have h4 := (gi_c 1 1 (by decide)).2; omega) (by have h1 := gw0_56.1; have h2 := (gi_c 1 1 (by decide)).1; have h3 := gw0_56.2; have h4 := (gi_c 1 1 (by decide)).2; omega); rw [hc1] at h9; exact h9); have qgw0_56 := gw0_56.1; have rgw0_56 := gw0_56.2; have qgv2 := g_1369.1; have rgv2 := g_1369.2; have qgr_1372 := g_1389.1; have rgr_1372 := g_1389.2; have qgmi_0 := g_1333.1; have rgmi_0 := g_1333.2; omega⟩) gz6 (show x_1396.toInt ≤ 3 * x_1397.toInt from by have qgx_1397 := gx_1397.1; have rgx_1397 := gx_1397.2; have igx_1397 : x_1397.toInt = v2.toInt + 1 := (by have hc1 : (1 : Int32).toInt = 1 := (by decide); have h9 := gi_addI ex_1397 (by have h1 := g_1369.1; have h2 := (gi_c 1 1 (by decide)).1; have h3 := g_1369.2; have h4 := (gi_c 1 1 (by decide)).2; omega) (by have h1 := g_1369.1; have h2 := (gi_c 1 1 (by decide)).1; have h3 := g_1369.2; have h4 := (gi_c 1 1 (by decide)).2; omega); rw [hc1] at h9; exact h9); have qgv2 := g_1369.1; have rgv2 := g_1369.2; have qgx_1396 := gx_1396.1; have rgx_1396 := gx_1396.2; have igx_1396 : x_1396.toInt = x_1371.toInt + 2 := (by have hc2 : (2 : Int32).toInt = 2 := (by decide); have h9 := gi_addI ex_1396 (by have h1 := gx_1371.1; have h2 := (gi_c 2 2 (by decide)).1; have h3 := gx_1371.2; have h4 := (gi_c 2 2 (by decide)).2; omega) (by have h1 := gx_1371.1; have h2 := (gi_c 2 2 (by decide)).1; have h3 := gx_1371.2; have h4 := (gi_c 2 2 (by decide)).2; omega); rw [hc2] at h9; exact h9); have qgx_1371 := gx_1371.1; have rgx_1371 := gx_1371.2; have igx_1371 : x_1371.toInt = w0_56.toInt + 1 := (by have hc1 : (1 : Int32).toInt = 1 := (by decide); have h9 := gi_addI ex_1371 (by have h1 := gw0_56.1; have h2 := (gi_c 1 1 (by decide)).1; have h3 := gw0_56.2; have h4 := (gi_c 1 1 (by decide)).2; omega) (by have h1 := gw0_56.1; have h2 := (gi_c 1 1 (by decide)).1; have h3 := gw0_56.2; have h4 := (gi_c 1 1 (by decide)).2; omega); rw [hc1] at h9; exact h9); have qgw0_56 := gw0_56.1; have rgw0_56 := gw0_56.2; have qgr_1372 := g_1389.1; have rgr_1372 := g_1389.2; have qgmi_0 := g_1333.1; have rgmi_0 := g_1333.2; omega) (show 0 ≤ x_1396.toInt from by have qgx_1396 := gx_1396.1; have rgx_1396 := gx_1396.2; have igx_1396 : x_1396.toInt = x_1371.toInt + 2 := (by have hc2 : (2 : Int32).toInt = 2 := (by decide); have h9 := gi_addI ex_1396 (by have h1 := gx_1371.1; have h2 := (gi_c 2 2 (by decide)).1; have h3 := gx_1371.2; have h4 := (gi_c 2 2 (by decide)).2; omega) (by have h1 := gx_1371.1; have h2 := (gi_c 2 2 (by decide)).1; have h3 := gx_1371.2; have h4 := (gi_c 2 2 (by decide)).2; omega); rw [hc2] at h9; exact h9); have qgx_1371 := gx_1371.1; have rgx_1371 := gx_1371.2; have igx_1371 : x_1371.toInt = w0_56.toInt + 1 := (by have hc1 : (1 : Int32).toInt = 1 := (by decide); have h9 := gi_addI ex_1371 (by have h1 := gw0_56.1; have h2 := (gi_c 1 1 (by decide)).1; have h3 := gw0_56.2; have h4 := (gi_c 1 1 (by decide)).2; omega) (by have h1 := gw0_56.1; have h2 := (gi_c 1 1 (by decide)).1; have h3 := gw0_56.2; have h4 := (gi_c 1 1 (by decide)).2; omega); rw [hc1] at h9; exact h9); have qgw0_56 := gw0_56.1; have rgw0_56 := gw0_56.2; have qgv2 := g_1369.1; have rgv2 := g_1369.2; have qgr_1372 := g_1389.1; have rgr_1372 := g_1389.2; have qgmi_0 := g_1333.1; have rgmi_0 := g_1333.2; omega) (by have av2 := gv2.1; have bv2 := gv2.2; have qgx_1397 := gx_1397.1; have rgx_1397 := gx_1397.2; have igx_1397 : x_1397.toInt = v2.toInt + 1 := (by have hc1 : (1 : Int32).toInt = 1 := (by decide); have h9 := gi_addI ex_1397 (by have h1 := g_1369.1; have h2 := (gi_c 1 1 (by decide)).1; have h3 := g_1369.2; have h4 := (gi_c 1 1 (by decide)).2; omega) (by have h1 := g_1369.1; have h2 := (gi_c 1 1 (by decide)).1; have h3 := g_1369.2; have h4 := (gi_c 1 1 (by decide)).2; omega); rw [hc1] at h9; exact h9); have qgv2 := g_1369.1; have rgv2 := g_1369.2; omega) hP hD hS (lv_sub hl [1, 2, 0] rfl)
            · have hc_1398 : r_1392.toInt = 30 := by have h9 := congrArg Int32.toInt c_1393; rw [show (30 : Int32).toInt = 30 from by decide] at h9; exact h9
              have g_1399 : gi r_1392 30 30 := gi_eq c_1393 (gi_c 30 30 (by decide))
              refine lv_bipush (v := 48) hx hb dX12_tell_102 (by decide) ?_
              refine lv_goto (tgt := 109) hx hb dX12_tell_104 (by decide) ?_
              refine va_iast hx hb hK hP hD hS 16 15 rfl rfl (gz_inR (n := 80) (by have qgx_1391 := gx_1391.1; have rgx_1391 := gx_1391.2; have igx_1391 : x_1391.toInt = x_1371.toInt + 1 := (by have hc1 : (1 : Int32).toInt = 1 := (by decide); have h9 := gi_addI ex_1391 (by have h1 := gx_1371.1; have h2 := (gi_c 1 1 (by decide)).1; have h3 := gx_1371.2; have h4 := (gi_c 1 1 (by decide)).2; omega) (by have h1 := gx_1371.1; have h2 := (gi_c 1 1 (by decide)).1; have h3 := gx_1371.2; have h4 := (gi_c 1 1 (by decide)).2; omega); rw [hc1] at h9; exact h9); have qgx_1371 := gx_1371.1; have rgx_1371 := gx_1371.2; have igx_1371 : x_1371.toInt = w0_56.toInt + 1 := (by have hc1 : (1 : Int32).toInt = 1 := (by decide); have h9 := gi_addI ex_1371 (by have h1 := gw0_56.1; have h2 := (gi_c 1 1 (by decide)).1; have h3 := gw0_56.2; have h4 := (gi_c 1 1 (by decide)).2; omega) (by have h1 := gw0_56.1; have h2 := (gi_c 1 1 (by decide)).1; have h3 := gw0_56.2; have h4 := (gi_c 1 1 (by decide)).2; omega); rw [hc1] at h9; exact h9); have qgw0_56 := gw0_56.1; have rgw0_56 := gw0_56.2; have qgv2 := g_1369.1; have rgv2 := g_1369.2; have qgr_1392 := g_1399.1; have rgr_1392 := g_1399.2; have qgr_1372 := g_1389.1; have rgr_1372 := g_1389.2; have qgmi_0 := g_1333.1; have rgmi_0 := g_1333.2; omega) (by have qgx_1391 := gx_1391.1; have rgx_1391 := gx_1391.2; have igx_1391 : x_1391.toInt = x_1371.toInt + 1 := (by have hc1 : (1 : Int32).toInt = 1 := (by decide); have h9 := gi_addI ex_1391 (by have h1 := gx_1371.1; have h2 := (gi_c 1 1 (by decide)).1; have h3 := gx_1371.2; have h4 := (gi_c 1 1 (by decide)).2; omega) (by have h1 := gx_1371.1; have h2 := (gi_c 1 1 (by decide)).1; have h3 := gx_1371.2; have h4 := (gi_c 1 1 (by decide)).2; omega); rw [hc1] at h9; exact h9); have qgx_1371 := gx_1371.1; have rgx_1371 := gx_1371.2; have igx_1371 : x_1371.toInt = w0_56.toInt + 1 := (by have hc1 : (1 : Int32).toInt = 1 := (by decide); have h9 := gi_addI ex_1371 (by have h1 := gw0_56.1; have h2 := (gi_c 1 1 (by decide)).1; have h3 := gw0_56.2; have h4 := (gi_c 1 1 (by decide)).2; omega) (by have h1 := gw0_56.1; have h2 := (gi_c 1 1 (by decide)).1; have h3 := gw0_56.2; have h4 := (gi_c 1 1 (by decide)).2; omega); rw [hc1] at h9; exact h9); have qgw0_56 := gw0_56.1; have rgw0_56 := gw0_56.2; have qgv2 := g_1369.1; have rgv2 := g_1369.2; have qgr_1392 := g_1399.1; have rgr_1392 := g_1399.2; have qgr_1372 := g_1389.1; have rgr_1372 := g_1389.2; have qgmi_0 := g_1333.1; have rgmi_0 := g_1333.2; omega)) dX12_tell_109 (fun H locs hP hD hS => ?_)
              have hP : va_P (dC, dI) vwCl [(h0, .inr (12, fsMM (upd (upd (upd mi 37 w0_37) 41 w0_41) 56 x_1371) mr)), ((mr 14), .inl (km_must, 25, .inl z1)), ((mr 15), .inl (km_least, 25, .inl z2)), ((mr 16), .inl (km_pin, 25, .inl z3)), ((mr 17), .inl (km_ways, 6875, .inl z4)), ((mr 18), .inl (km_verdict, 24, .inl z5)), ((mr 19), .inl (km_row, 24, .inl z6)), ((mr 4), .inl (km_struck, 24, .inl fm_struck)), ((mr 7), .inl (km_reportKnown, 24, .inl fm_reportKnown)), ((mr 2), .inl (km_reportPlace, 24, .inl fm_reportPlace)), ((mr 5), .inl (km_reportMonth, 24, .inl fm_reportMonth)), ((mr 6), .inl (km_reportDay, 24, .inl fm_reportDay)), ((mr 3), .inl (km_reportKind, 24, .inl fm_reportKind)), ((mr 0), .inl (km_trust, 6, .inl fm_trust)), ((mr 1), .inl (km_letter, 36, .inl fm_letter)), ((mr 20), .inl (km_official, 25, .inl z15)), ((mr 23), .inl (km_out, 80, .inl (upd f_1390 (x_1391 : Int32).toNatClampNeg 48)))] H := hP
              have hD : va_D A [(h0, .inr (12, fsMM (upd (upd (upd mi 37 w0_37) 41 w0_41) 56 x_1371) mr)), ((mr 14), .inl (km_must, 25, .inl z1)), ((mr 15), .inl (km_least, 25, .inl z2)), ((mr 16), .inl (km_pin, 25, .inl z3)), ((mr 17), .inl (km_ways, 6875, .inl z4)), ((mr 18), .inl (km_verdict, 24, .inl z5)), ((mr 19), .inl (km_row, 24, .inl z6)), ((mr 4), .inl (km_struck, 24, .inl fm_struck)), ((mr 7), .inl (km_reportKnown, 24, .inl fm_reportKnown)), ((mr 2), .inl (km_reportPlace, 24, .inl fm_reportPlace)), ((mr 5), .inl (km_reportMonth, 24, .inl fm_reportMonth)), ((mr 6), .inl (km_reportDay, 24, .inl fm_reportDay)), ((mr 3), .inl (km_reportKind, 24, .inl fm_reportKind)), ((mr 0), .inl (km_trust, 6, .inl fm_trust)), ((mr 1), .inl (km_letter, 36, .inl fm_letter)), ((mr 20), .inl (km_official, 25, .inl z15)), ((mr 23), .inl (km_out, 80, .inl (upd f_1390 (x_1391 : Int32).toNatClampNeg 48)))] := hD
              generalize upd f_1390 (x_1391 : Int32).toNatClampNeg 48 = f_1400 at hP hD
              refine lv_aload_n hx hb dX12_tell_110 rfl (lv_at hl 0 rfl) ?_
              refine lv_dup hx hb dX12_tell_111 rfl ?_
              refine va_get (D := (dC, dI)) (ci := 12) (v := .int x_1371) (C := RX12) (T := TX12) (N := 57) hx hb hts (fun w h => List.mem_cons_of_mem _ (jnGB_X12 w h)) hown hK hP 0 rfl rfl 56 (by decide) (hts _ (List.mem_cons_of_mem _ mGB_219)) (fun _ h9 => h9) rfl dX12_tell_112 ?_
              refine lv_iconst (v := 2) hx hb dX12_tell_115 (by decide) ?_
              refine lv_iadd hx hb dX12_tell_116 ?_
              refine lv_topi (fun x_1401 ex_1401 => ?_)
              have gx_1401 : gi x_1401 3 83 := gi_add ex_1401 gx_1371 (gi_c 2 2 (by decide)) (by decide)
              refine va_put (D := (dC, dI)) (ci := 12) (v := .int x_1401) (ty := .int) (C := RX12) (T := TX12) (N := 57) hx hb hts (fun w h => List.mem_cons_of_mem _ (jnGB_X12 w h)) tyX12 tyX12_ok nmX12 hown hK hP hD hS 0 rfl rfl 56 (by decide) (hts _ (List.mem_cons_of_mem _ mGB_219)) (fun _ h9 => h9) rfl (by decide +kernel) rfl rfl (Nat.le_of_ble_eq_true rfl) dX12_tell_117 (fun H locs hP hD hS => ?_)
              have hP : va_P (dC, dI) vwCl [(h0, .inr (12, fsMM (upd (upd (upd mi 37 w0_37) 41 w0_41) 56 x_1401) mr)), ((mr 14), .inl (km_must, 25, .inl z1)), ((mr 15), .inl (km_least, 25, .inl z2)), ((mr 16), .inl (km_pin, 25, .inl z3)), ((mr 17), .inl (km_ways, 6875, .inl z4)), ((mr 18), .inl (km_verdict, 24, .inl z5)), ((mr 19), .inl (km_row, 24, .inl z6)), ((mr 4), .inl (km_struck, 24, .inl fm_struck)), ((mr 7), .inl (km_reportKnown, 24, .inl fm_reportKnown)), ((mr 2), .inl (km_reportPlace, 24, .inl fm_reportPlace)), ((mr 5), .inl (km_reportMonth, 24, .inl fm_reportMonth)), ((mr 6), .inl (km_reportDay, 24, .inl fm_reportDay)), ((mr 3), .inl (km_reportKind, 24, .inl fm_reportKind)), ((mr 0), .inl (km_trust, 6, .inl fm_trust)), ((mr 1), .inl (km_letter, 36, .inl fm_letter)), ((mr 20), .inl (km_official, 25, .inl z15)), ((mr 23), .inl (km_out, 80, .inl f_1400))] H := hP
              have hD : va_D A [(h0, .inr (12, fsMM (upd (upd (upd mi 37 w0_37) 41 w0_41) 56 x_1401) mr)), ((mr 14), .inl (km_must, 25, .inl z1)), ((mr 15), .inl (km_least, 25, .inl z2)), ((mr 16), .inl (km_pin, 25, .inl z3)), ((mr 17), .inl (km_ways, 6875, .inl z4)), ((mr 18), .inl (km_verdict, 24, .inl z5)), ((mr 19), .inl (km_row, 24, .inl z6)), ((mr 4), .inl (km_struck, 24, .inl fm_struck)), ((mr 7), .inl (km_reportKnown, 24, .inl fm_reportKnown)), ((mr 2), .inl (km_reportPlace, 24, .inl fm_reportPlace)), ((mr 5), .inl (km_reportMonth, 24, .inl fm_reportMonth)), ((mr 6), .inl (km_reportDay, 24, .inl fm_reportDay)), ((mr 3), .inl (km_reportKind, 24, .inl fm_reportKind)), ((mr 0), .inl (km_trust, 6, .inl fm_trust)), ((mr 1), .inl (km_letter, 36, .inl fm_letter)), ((mr 20), .inl (km_official, 25, .inl z15)), ((mr 23), .inl (km_out, 80, .inl f_1400))] := hD
              obtain ⟨x_1402, ex_1402⟩ : ∃ y : Int32, y = v2 + 1 := ⟨_, rfl⟩
              have gx_1402 : gi x_1402 2 24 := gi_add ex_1402 g_1369 (gi_c 1 1 (by decide)) (by decide)
              refine lv_iinc (v := x_1402) (lv' := [(2, .int x_1402), (0, .ref h0), (1, .int p1)]) hx hb dX12_tell_120 hl (k := 2) rfl (by rw [ex_1402]; rfl) (by decide) rfl (fun ls hl => ?_)
              refine lv_goto (tgt := 23) hx hb dX12_tell_123 (by decide) ?_
              exact ih x_1402 w0_37 w0_41 x_1401 z1 z2 z3 z4 z5 z6 z15 f_1400 _ _ _ gf_p1 (gi_w gx_1402 (by decide)) gw0_37 gw0_41 (show gi x_1401 0 80 from ⟨by have qgx_1401 := gx_1401.1; have rgx_1401 := gx_1401.2; have igx_1401 : x_1401.toInt = x_1371.toInt + 2 := (by have hc2 : (2 : Int32).toInt = 2 := (by decide); have h9 := gi_addI ex_1401 (by have h1 := gx_1371.1; have h2 := (gi_c 2 2 (by decide)).1; have h3 := gx_1371.2; have h4 := (gi_c 2 2 (by decide)).2; omega) (by have h1 := gx_1371.1; have h2 := (gi_c 2 2 (by decide)).1; have h3 := gx_1371.2; have h4 := (gi_c 2 2 (by decide)).2; omega); rw [hc2] at h9; exact h9); have qgx_1371 := gx_1371.1; have rgx_1371 := gx_1371.2; have igx_1371 : x_1371.toInt = w0_56.toInt + 1 := (by have hc1 : (1 : Int32).toInt = 1 := (by decide); have h9 := gi_addI ex_1371 (by have h1 := gw0_56.1; have h2 := (gi_c 1 1 (by decide)).1; have h3 := gw0_56.2; have h4 := (gi_c 1 1 (by decide)).2; omega) (by have h1 := gw0_56.1; have h2 := (gi_c 1 1 (by decide)).1; have h3 := gw0_56.2; have h4 := (gi_c 1 1 (by decide)).2; omega); rw [hc1] at h9; exact h9); have qgw0_56 := gw0_56.1; have rgw0_56 := gw0_56.2; have qgv2 := g_1369.1; have rgv2 := g_1369.2; have qgr_1392 := g_1399.1; have rgr_1392 := g_1399.2; have qgr_1372 := g_1389.1; have rgr_1372 := g_1389.2; have qgmi_0 := g_1333.1; have rgmi_0 := g_1333.2; omega, by have qgx_1401 := gx_1401.1; have rgx_1401 := gx_1401.2; have igx_1401 : x_1401.toInt = x_1371.toInt + 2 := (by have hc2 : (2 : Int32).toInt = 2 := (by decide); have h9 := gi_addI ex_1401 (by have h1 := gx_1371.1; have h2 := (gi_c 2 2 (by decide)).1; have h3 := gx_1371.2; have h4 := (gi_c 2 2 (by decide)).2; omega) (by have h1 := gx_1371.1; have h2 := (gi_c 2 2 (by decide)).1; have h3 := gx_1371.2; have h4 := (gi_c 2 2 (by decide)).2; omega); rw [hc2] at h9; exact h9); have qgx_1371 := gx_1371.1; have rgx_1371 := gx_1371.2; have igx_1371 : x_1371.toInt = w0_56.toInt + 1 := (by have hc1 : (1 : Int32).toInt = 1 := (by decide); have h9 := gi_addI ex_1371 (by have h1 := gw0_56.1; have h2 := (gi_c 1 1 (by decide)).1; have h3 := gw0_56.2; have h4 := (gi_c 1 1 (by decide)).2; omega) (by have h1 := gw0_56.1; have h2 := (gi_c 1 1 (by decide)).1; have h3 := gw0_56.2; have h4 := (gi_c 1 1 (by decide)).2; omega); rw [hc1] at h9; exact h9); have qgw0_56 := gw0_56.1; have rgw0_56 := gw0_56.2; have qgv2 := g_1369.1; have rgv2 := g_1369.2; have qgr_1392 := g_1399.1; have rgr_1392 := g_1399.2; have qgr_1372 := g_1389.1; have rgr_1372 := g_1389.2; have qgmi_0 := g_1333.1; have rgmi_0 := g_1333.2; omega⟩) gz6 (show x_1401.toInt ≤ 3 * x_1402.toInt from by have qgx_1402 := gx_1402.1; have rgx_1402 := gx_1402.2; have igx_1402 : x_1402.toInt = v2.toInt + 1 := (by have hc1 : (1 : Int32).toInt = 1 := (by decide); have h9 := gi_addI ex_1402 (by have h1 := g_1369.1; have h2 := (gi_c 1 1 (by decide)).1; have h3 := g_1369.2; have h4 := (gi_c 1 1 (by decide)).2; omega) (by have h1 := g_1369.1; have h2 := (gi_c 1 1 (by decide)).1; have h3 := g_1369.2; have h4 := (gi_c 1 1 (by decide)).2; omega); rw [hc1] at h9; exact h9); have qgv2 := g_1369.1; have rgv2 := g_1369.2; have qgx_1401 := gx_1401.1; have rgx_1401 := gx_1401.2; have igx_1401 : x_1401.toInt = x_1371.toInt + 2 := (by have hc2 : (2 : Int32).toInt = 2 := (by decide); have h9 := gi_addI ex_1401 (by have h1 := gx_1371.1; have h2 := (gi_c 2 2 (by decide)).1; have h3 := gx_1371.2; have h4 := (gi_c 2 2 (by decide)).2; omega) (by have h1 := gx_1371.1; have h2 := (gi_c 2 2 (by decide)).1; have h3 := gx_1371.2; have h4 := (gi_c 2 2 (by decide)).2; omega); rw [hc2] at h9; exact h9); have qgx_1371 := gx_1371.1; have rgx_1371 := gx_1371.2; have igx_1371 : x_1371.toInt = w0_56.toInt + 1 := (by have hc1 : (1 : Int32).toInt = 1 := (by decide); have h9 := gi_addI ex_1371 (by have h1 := gw0_56.1; have h2 := (gi_c 1 1 (by decide)).1; have h3 := gw0_56.2; have h4 := (gi_c 1 1 (by decide)).2; omega) (by have h1 := gw0_56.1; have h2 := (gi_c 1 1 (by decide)).1; have h3 := gw0_56.2; have h4 := (gi_c 1 1 (by decide)).2; omega); rw [hc1] at h9; exact h9); have qgw0_56 := gw0_56.1; have rgw0_56 := gw0_56.2; have qgr_1392 := g_1399.1; have rgr_1392 := g_1399.2; have qgr_1372 := g_1389.1; have rgr_1372 := g_1389.2; have qgmi_0 := g_1333.1; have rgmi_0 := g_1333.2; omega) (show 0 ≤ x_1401.toInt from by have qgx_1401 := gx_1401.1; have rgx_1401 := gx_1401.2; have igx_1401 : x_1401.toInt = x_1371.toInt + 2 := (by have hc2 : (2 : Int32).toInt = 2 := (by decide); have h9 := gi_addI ex_1401 (by have h1 := gx_1371.1; have h2 := (gi_c 2 2 (by decide)).1; have h3 := gx_1371.2; have h4 := (gi_c 2 2 (by decide)).2; omega) (by have h1 := gx_1371.1; have h2 := (gi_c 2 2 (by decide)).1; have h3 := gx_1371.2; have h4 := (gi_c 2 2 (by decide)).2; omega); rw [hc2] at h9; exact h9); have qgx_1371 := gx_1371.1; have rgx_1371 := gx_1371.2; have igx_1371 : x_1371.toInt = w0_56.toInt + 1 := (by have hc1 : (1 : Int32).toInt = 1 := (by decide); have h9 := gi_addI ex_1371 (by have h1 := gw0_56.1; have h2 := (gi_c 1 1 (by decide)).1; have h3 := gw0_56.2; have h4 := (gi_c 1 1 (by decide)).2; omega) (by have h1 := gw0_56.1; have h2 := (gi_c 1 1 (by decide)).1; have h3 := gw0_56.2; have h4 := (gi_c 1 1 (by decide)).2; omega); rw [hc1] at h9; exact h9); have qgw0_56 := gw0_56.1; have rgw0_56 := gw0_56.2; have qgv2 := g_1369.1; have rgv2 := g_1369.2; have qgr_1392 := g_1399.1; have rgr_1392 := g_1399.2; have qgr_1372 := g_1389.1; have rgr_1372 := g_1389.2; have qgmi_0 := g_1333.1; have rgmi_0 := g_1333.2; omega) (by have av2 := gv2.1; have bv2 := gv2.2; have qgx_1402 := gx_1402.1; have rgx_1402 := gx_1402.2; have igx_1402 : x_1402.toInt = v2.toInt + 1 := (by have hc1 : (1 : Int32).toInt = 1 := (by decide); have h9 := gi_addI ex_1402 (by have h1 := g_1369.1; have h2 := (gi_c 1 1 (by decide)).1; have h3 := g_1369.2; have h4 := (gi_c 1 1 (by decide)).2; omega) (by have h1 := g_1369.1; have h2 := (gi_c 1 1 (by decide)).1; have h3 := g_1369.2; have h4 := (gi_c 1 1 (by decide)).2; omega); rw [hc1] at h9; exact h9); have qgv2 := g_1369.1; have rgv2 := g_1369.2; omega) hP hD hS (lv_sub hl [1, 2, 0] rfl)
set_option maxHeartbeats 4000000 in
set_option maxRecDepth 100000 in
theorem sX12_tell (l : Launch) (dC : Nat → ClassId) (dI : Nat → Nat → Nat) (sz : Nat) (h0 : Nat) (mi : Nat → Int32) (mr : Nat → Nat) (km_must : ClassId) (fm_must : Nat → Int32) (km_least : ClassId) (fm_least : Nat → Int32) (km_pin : ClassId) (fm_pin : Nat → Int32) (km_ways : ClassId) (fm_ways : Nat → Int32) (km_verdict : ClassId) (fm_verdict : Nat → Int32) (km_row : ClassId) (fm_row : Nat → Int32) (km_struck : ClassId) (fm_struck : Nat → Int32) (km_reportKnown : ClassId) (fm_reportKnown : Nat → Int32) (km_reportPlace : ClassId) (fm_reportPlace : Nat → Int32) (km_reportMonth : ClassId) (fm_reportMonth : Nat → Int32) (km_reportDay : ClassId) (fm_reportDay : Nat → Int32) (km_reportKind : ClassId) (fm_reportKind : Nat → Int32) (km_trust : ClassId) (fm_trust : Nat → Int32) (km_letter : ClassId) (fm_letter : Nat → Int32) (km_official : ClassId) (fm_official : Nat → Int32) (km_out : ClassId) (fm_out : Nat → Int32) (p1 : Int32) (gmi_0 : gi (mi 0) 0 24) (gmi_1 : gi (mi 1) 0 5) (gmi_2 : gi (mi 2) 0 5) (gmi_4 : gi (mi 4) 0 1) (gmi_7 : gi (mi 7) 0 6) (gmi_10 : gi (mi 10) 0 24) (gmi_17 : gi (mi 17) 0 8) (gmi_23 : gi (mi 23) 0 300) (gmi_24 : gi (mi 24) 0 1) (gmi_26 : gi (mi 26) 0 1600) (gmi_29 : gi (mi 29) 0 1600) (gmi_30 : gi (mi 30) 0 1600) (gmi_33 : gi (mi 33) 0 1) (gmi_37 : gi (mi 37) 0 1) (gmi_41 : gi (mi 41) 0 24) (gmi_50 : gi (mi 50) 0 1) (gmi_51 : gi (mi 51) 0 1) (gmi_56 : gi (mi 56) 0 80) (gfm_row : ga fm_row 24 0 23) (gfm_struck : ga fm_struck 24 0 1) (gfm_reportKnown : ga fm_reportKnown 24 0 999) (gfm_reportPlace : ga fm_reportPlace 24 0 5) (gfm_reportMonth : ga fm_reportMonth 24 0 23) (gfm_reportDay : ga fm_reportDay 24 0 999) : Met l yX12_tell (.code yX12_tell cX12_tell 3 (some .int) :: wsGB) ({ frames := 6, cells := 0, slots := 0, locals := 140 }) (va_Pc [.ref h0, .int p1] (fun U => U.heap.size = sz ∧ va_P (dC, dI) vwCl [(h0, .inr (12, fsMM mi mr)), ((mr 14), .inl (km_must, 25, .inl fm_must)), ((mr 15), .inl (km_least, 25, .inl fm_least)), ((mr 16), .inl (km_pin, 25, .inl fm_pin)), ((mr 17), .inl (km_ways, 6875, .inl fm_ways)), ((mr 18), .inl (km_verdict, 24, .inl fm_verdict)), ((mr 19), .inl (km_row, 24, .inl fm_row)), ((mr 4), .inl (km_struck, 24, .inl fm_struck)), ((mr 7), .inl (km_reportKnown, 24, .inl fm_reportKnown)), ((mr 2), .inl (km_reportPlace, 24, .inl fm_reportPlace)), ((mr 5), .inl (km_reportMonth, 24, .inl fm_reportMonth)), ((mr 6), .inl (km_reportDay, 24, .inl fm_reportDay)), ((mr 3), .inl (km_reportKind, 24, .inl fm_reportKind)), ((mr 0), .inl (km_trust, 6, .inl fm_trust)), ((mr 1), .inl (km_letter, 36, .inl fm_letter)), ((mr 20), .inl (km_official, 25, .inl fm_official)), ((mr 23), .inl (km_out, 80, .inl fm_out))] U.heap ∧ va_K (dC, dI) vwCl [(km_must, .int), (km_least, .int), (km_pin, .int), (km_ways, .int), (km_verdict, .int), (km_row, .int), (km_struck, .boolean), (km_reportKnown, .int), (km_reportPlace, .int), (km_reportMonth, .int), (km_reportDay, .int), (km_reportKind, .int), (km_trust, .int), (km_letter, .int), (km_official, .int), (km_out, .int)] U ∧ va_D (fun _ => True) [(h0, .inr (12, fsMM mi mr)), ((mr 14), .inl (km_must, 25, .inl fm_must)), ((mr 15), .inl (km_least, 25, .inl fm_least)), ((mr 16), .inl (km_pin, 25, .inl fm_pin)), ((mr 17), .inl (km_ways, 6875, .inl fm_ways)), ((mr 18), .inl (km_verdict, 24, .inl fm_verdict)), ((mr 19), .inl (km_row, 24, .inl fm_row)), ((mr 4), .inl (km_struck, 24, .inl fm_struck)), ((mr 7), .inl (km_reportKnown, 24, .inl fm_reportKnown)), ((mr 2), .inl (km_reportPlace, 24, .inl fm_reportPlace)), ((mr 5), .inl (km_reportMonth, 24, .inl fm_reportMonth)), ((mr 6), .inl (km_reportDay, 24, .inl fm_reportDay)), ((mr 3), .inl (km_reportKind, 24, .inl fm_reportKind)), ((mr 0), .inl (km_trust, 6, .inl fm_trust)), ((mr 1), .inl (km_letter, 36, .inl fm_letter)), ((mr 20), .inl (km_official, 25, .inl fm_official)), ((mr 23), .inl (km_out, 80, .inl fm_out))])) (va_Qi (fun (r : Int32) (u : Unit) => gi r (-2) 80) (fun _ t => ∃ (w0_37 : Int32) (w0_41 : Int32) (w0_56 : Int32) (z1 : Nat → Int32) (z2 : Nat → Int32) (z3 : Nat → Int32) (z4 : Nat → Int32) (z5 : Nat → Int32) (z6 : Nat → Int32) (z15 : Nat → Int32) (z16 : Nat → Int32), gi w0_37 0 1 ∧ gi w0_41 0 24 ∧ gi w0_56 0 80 ∧ ga z6 24 0 23 ∧ va_P (dC, dI) vwCl [(h0, .inr (12, fsMM (upd (upd (upd mi 37 w0_37) 41 w0_41) 56 w0_56) mr)), ((mr 14), .inl (km_must, 25, .inl z1)), ((mr 15), .inl (km_least, 25, .inl z2)), ((mr 16), .inl (km_pin, 25, .inl z3)), ((mr 17), .inl (km_ways, 6875, .inl z4)), ((mr 18), .inl (km_verdict, 24, .inl z5)), ((mr 19), .inl (km_row, 24, .inl z6)), ((mr 4), .inl (km_struck, 24, .inl fm_struck)), ((mr 7), .inl (km_reportKnown, 24, .inl fm_reportKnown)), ((mr 2), .inl (km_reportPlace, 24, .inl fm_reportPlace)), ((mr 5), .inl (km_reportMonth, 24, .inl fm_reportMonth)), ((mr 6), .inl (km_reportDay, 24, .inl fm_reportDay)), ((mr 3), .inl (km_reportKind, 24, .inl fm_reportKind)), ((mr 0), .inl (km_trust, 6, .inl fm_trust)), ((mr 1), .inl (km_letter, 36, .inl fm_letter)), ((mr 20), .inl (km_official, 25, .inl z15)), ((mr 23), .inl (km_out, 80, .inl z16))] t.heap ∧ va_D (va_A [(h0, .inr (12, fsMM mi mr)), ((mr 14), .inl (km_must, 25, .inl fm_must)), ((mr 15), .inl (km_least, 25, .inl fm_least)), ((mr 16), .inl (km_pin, 25, .inl fm_pin)), ((mr 17), .inl (km_ways, 6875, .inl fm_ways)), ((mr 18), .inl (km_verdict, 24, .inl fm_verdict)), ((mr 19), .inl (km_row, 24, .inl fm_row)), ((mr 4), .inl (km_struck, 24, .inl fm_struck)), ((mr 7), .inl (km_reportKnown, 24, .inl fm_reportKnown)), ((mr 2), .inl (km_reportPlace, 24, .inl fm_reportPlace)), ((mr 5), .inl (km_reportMonth, 24, .inl fm_reportMonth)), ((mr 6), .inl (km_reportDay, 24, .inl fm_reportDay)), ((mr 3), .inl (km_reportKind, 24, .inl fm_reportKind)), ((mr 0), .inl (km_trust, 6, .inl fm_trust)), ((mr 1), .inl (km_letter, 36, .inl fm_letter)), ((mr 20), .inl (km_official, 25, .inl fm_official)), ((mr 23), .inl (km_out, 80, .inl fm_out))] sz) [(h0, .inr (12, fsMM (upd (upd (upd mi 37 w0_37) 41 w0_41) 56 w0_56) mr)), ((mr 14), .inl (km_must, 25, .inl z1)), ((mr 15), .inl (km_least, 25, .inl z2)), ((mr 16), .inl (km_pin, 25, .inl z3)), ((mr 17), .inl (km_ways, 6875, .inl z4)), ((mr 18), .inl (km_verdict, 24, .inl z5)), ((mr 19), .inl (km_row, 24, .inl z6)), ((mr 4), .inl (km_struck, 24, .inl fm_struck)), ((mr 7), .inl (km_reportKnown, 24, .inl fm_reportKnown)), ((mr 2), .inl (km_reportPlace, 24, .inl fm_reportPlace)), ((mr 5), .inl (km_reportMonth, 24, .inl fm_reportMonth)), ((mr 6), .inl (km_reportDay, 24, .inl fm_reportDay)), ((mr 3), .inl (km_reportKind, 24, .inl fm_reportKind)), ((mr 0), .inl (km_trust, 6, .inl fm_trust)), ((mr 1), .inl (km_letter, 36, .inl fm_letter)), ((mr 20), .inl (km_official, 25, .inl z15)), ((mr 23), .inl (km_out, 80, .inl z16))]) (va_A [(h0, .inr (12, fsMM mi mr)), ((mr 14), .inl (km_must, 25, .inl fm_must)), ((mr 15), .inl (km_least, 25, .inl fm_least)), ((mr 16), .inl (km_pin, 25, .inl fm_pin)), ((mr 17), .inl (km_ways, 6875, .inl fm_ways)), ((mr 18), .inl (km_verdict, 24, .inl fm_verdict)), ((mr 19), .inl (km_row, 24, .inl fm_row)), ((mr 4), .inl (km_struck, 24, .inl fm_struck)), ((mr 7), .inl (km_reportKnown, 24, .inl fm_reportKnown)), ((mr 2), .inl (km_reportPlace, 24, .inl fm_reportPlace)), ((mr 5), .inl (km_reportMonth, 24, .inl fm_reportMonth)), ((mr 6), .inl (km_reportDay, 24, .inl fm_reportDay)), ((mr 3), .inl (km_reportKind, 24, .inl fm_reportKind)), ((mr 0), .inl (km_trust, 6, .inl fm_trust)), ((mr 1), .inl (km_letter, 36, .inl fm_letter)), ((mr 20), .inl (km_official, 25, .inl fm_official)), ((mr 23), .inl (km_out, 80, .inl fm_out))] sz)) 0 0 (va_A [(h0, .inr (12, fsMM mi mr)), ((mr 14), .inl (km_must, 25, .inl fm_must)), ((mr 15), .inl (km_least, 25, .inl fm_least)), ((mr 16), .inl (km_pin, 25, .inl fm_pin)), ((mr 17), .inl (km_ways, 6875, .inl fm_ways)), ((mr 18), .inl (km_verdict, 24, .inl fm_verdict)), ((mr 19), .inl (km_row, 24, .inl fm_row)), ((mr 4), .inl (km_struck, 24, .inl fm_struck)), ((mr 7), .inl (km_reportKnown, 24, .inl fm_reportKnown)), ((mr 2), .inl (km_reportPlace, 24, .inl fm_reportPlace)), ((mr 5), .inl (km_reportMonth, 24, .inl fm_reportMonth)), ((mr 6), .inl (km_reportDay, 24, .inl fm_reportDay)), ((mr 3), .inl (km_reportKind, 24, .inl fm_reportKind)), ((mr 0), .inl (km_trust, 6, .inl fm_trust)), ((mr 1), .inl (km_letter, 36, .inl fm_letter)), ((mr 20), .inl (km_official, 25, .inl fm_official)), ((mr 23), .inl (km_out, 80, .inl fm_out))] sz) := by
  refine Met.ofW (cc := cX12_tell) (maxL := 3) (ret := (some .int)) (by decide) rfl ?_
  intro p e s m args below meth c s₁ B hml hv
  obtain ⟨rfl, hsz, hP, hK, hD0⟩ := hv
  have hx := B.exec
  have hb := B.bytes
  have hr := B.returns
  have hts := atoms_spec (ws := (.code yX12_tell cX12_tell 3 (some .int) :: wsGB)) B.pre
  have hown : s.vm.findClass RX12 = some m.cls := findClass_of_methodNamed B.named
  have hlocks := B.notSynchronized
  subst hsz
  have hD := hD0.self (sz := s.heap.size)
  generalize hAe : va_A [(h0, .inr (12, fsMM mi mr)), ((mr 14), .inl (km_must, 25, .inl fm_must)), ((mr 15), .inl (km_least, 25, .inl fm_least)), ((mr 16), .inl (km_pin, 25, .inl fm_pin)), ((mr 17), .inl (km_ways, 6875, .inl fm_ways)), ((mr 18), .inl (km_verdict, 24, .inl fm_verdict)), ((mr 19), .inl (km_row, 24, .inl fm_row)), ((mr 4), .inl (km_struck, 24, .inl fm_struck)), ((mr 7), .inl (km_reportKnown, 24, .inl fm_reportKnown)), ((mr 2), .inl (km_reportPlace, 24, .inl fm_reportPlace)), ((mr 5), .inl (km_reportMonth, 24, .inl fm_reportMonth)), ((mr 6), .inl (km_reportDay, 24, .inl fm_reportDay)), ((mr 3), .inl (km_reportKind, 24, .inl fm_reportKind)), ((mr 0), .inl (km_trust, 6, .inl fm_trust)), ((mr 1), .inl (km_letter, 36, .inl fm_letter)), ((mr 20), .inl (km_official, 25, .inl fm_official)), ((mr 23), .inl (km_out, 80, .inl fm_out))] s.heap.size = A at hD ⊢
  have hA : ∀ q : Nat, s.heap.size ≤ q → A q := fun q h => by rw [← hAe]; exact Or.inr h
  have hS : va_S A s.heap s.heap [] := va_S.rf
  have hl := lv_entry ([.ref h0, .int p1]) (n := 3) (Nat.le_of_ble_eq_true rfl)
  rw [lg_entry_eq]
  generalize (lg_sl ([.ref h0, .int p1]) ++ List.replicate (3 - (lg_sl ([.ref h0, .int p1])).length) Slot.unset).toArray = ls at hl ⊢
  have hl : lv_has ls 3 [(0, .ref h0), (1, .int p1)] := hl
  refine lv_aload_n hx hb dX12_tell_0 rfl (lv_at hl 0 rfl) ?_
  refine lv_iload_n hx hb dX12_tell_1 rfl (lv_at hl 1 rfl) ?_
  have hPc := hP.sub (ws' := [(h0, .inr (12, fsMM mi mr))]) [0] rfl
  have hKc := hK.sub (tys' := []) [] rfl
  refine va_calli (va_runV (As := [.int p1]) (rest := []) ⟨hx, hb, hml, hown, hts⟩ (sX12_isTime l dC dI h0 mi mr p1 gmi_0 gmi_1 gmi_2 gmi_4 gmi_7 gmi_10 gmi_17 gmi_23 gmi_24 gmi_26 gmi_29 gmi_30 gmi_33 gmi_37 gmi_41 gmi_50 gmi_51 gmi_56) (cwV 1 hts (gz_gV mGB_256 mGB_257 mGB_258 mGB_1 mGB_259 goodGB) rfl rfl rfl (by decide +kernel) ⟨Nat.le_of_ble_eq_true rfl, Nat.le_of_ble_eq_true rfl⟩) ⟨fun a U g mk q => by obtain ⟨q0, qP, qK⟩ := q; exact ⟨q0, qP, va_K.moved (u := U) (U := U.calling g mk a) (Vm.Alike.refl U.vm) qK⟩, va_recv hKc hPc (ci := 12) (q0 := 0) rfl rfl, fun U hU hW => ⟨rfl, by rw [hU]; exact hPc, va_K.moved hW.alike hKc⟩⟩ rfl rfl hl.1 rfl (lv_room (Nat.le_of_ble_eq_true rfl)) dX12_tell_2 ⟨Nat.zero_le _, Nat.zero_le _⟩) hS (fun q _ h => h.elim) (fun q h => h.elim) (fun r_1403 u t H1 locs ht hvm hw hB hz1 hk1 hS => ?_)
  have hP := gz_keep hP hk1
  generalize H1 = H at hP hS ⊢
  have gr_1403 : gi r_1403 0 1 := hw.1
  have hqr_1403 := hw.2
  refine lv_if_ne (tgt := 11) hx hb dX12_tell_5 (by decide) (fun c_1404 => ?_) (fun c_1404 => ?_)
  · have hc_1405 : r_1403.toInt ≠ 0 := fun h9 => c_1404 (Int32.toInt_inj.mp (by rw [show (0 : Int32).toInt = 0 from by decide]; exact h9))
    have g_1406 : gi r_1403 1 1 := gi_ne_lo c_1404 gr_1403 (gi_c 0 0 (by decide)) (by decide)
    have g_1407 : gi p1 0 999 := gi_cap (gi_any p1) (hqr_1403 (gz_one g_1406)) (by decide)
    refine lv_aload_n hx hb dX12_tell_11 rfl (lv_at hl 0 rfl) ?_
    refine lv_iload_n hx hb dX12_tell_12 rfl (lv_at hl 1 rfl) ?_
    have hPc := hP.sub (ws' := [(h0, .inr (12, fsMM mi mr)), ((mr 14), .inl (km_must, 25, .inl fm_must)), ((mr 15), .inl (km_least, 25, .inl fm_least)), ((mr 16), .inl (km_pin, 25, .inl fm_pin)), ((mr 17), .inl (km_ways, 6875, .inl fm_ways)), ((mr 18), .inl (km_verdict, 24, .inl fm_verdict)), ((mr 19), .inl (km_row, 24, .inl fm_row)), ((mr 4), .inl (km_struck, 24, .inl fm_struck)), ((mr 7), .inl (km_reportKnown, 24, .inl fm_reportKnown)), ((mr 2), .inl (km_reportPlace, 24, .inl fm_reportPlace)), ((mr 5), .inl (km_reportMonth, 24, .inl fm_reportMonth)), ((mr 6), .inl (km_reportDay, 24, .inl fm_reportDay)), ((mr 3), .inl (km_reportKind, 24, .inl fm_reportKind)), ((mr 0), .inl (km_trust, 6, .inl fm_trust)), ((mr 1), .inl (km_letter, 36, .inl fm_letter)), ((mr 20), .inl (km_official, 25, .inl fm_official))]) [0, 1, 2, 3, 4, 5, 6, 7, 8, 9, 10, 11, 12, 13, 14, 15] rfl
    have hKc := hK.sub (tys' := [(km_must, .int), (km_least, .int), (km_pin, .int), (km_ways, .int), (km_verdict, .int), (km_row, .int), (km_struck, .boolean), (km_reportKnown, .int), (km_reportPlace, .int), (km_reportMonth, .int), (km_reportDay, .int), (km_reportKind, .int), (km_trust, .int), (km_letter, .int), (km_official, .int)]) [0, 1, 2, 3, 4, 5, 6, 7, 8, 9, 10, 11, 12, 13, 14] rfl
    have hDc := hD.sub (ws' := [(h0, .inr (12, fsMM mi mr)), ((mr 14), .inl (km_must, 25, .inl fm_must)), ((mr 15), .inl (km_least, 25, .inl fm_least)), ((mr 16), .inl (km_pin, 25, .inl fm_pin)), ((mr 17), .inl (km_ways, 6875, .inl fm_ways)), ((mr 18), .inl (km_verdict, 24, .inl fm_verdict)), ((mr 19), .inl (km_row, 24, .inl fm_row)), ((mr 4), .inl (km_struck, 24, .inl fm_struck)), ((mr 7), .inl (km_reportKnown, 24, .inl fm_reportKnown)), ((mr 2), .inl (km_reportPlace, 24, .inl fm_reportPlace)), ((mr 5), .inl (km_reportMonth, 24, .inl fm_reportMonth)), ((mr 6), .inl (km_reportDay, 24, .inl fm_reportDay)), ((mr 3), .inl (km_reportKind, 24, .inl fm_reportKind)), ((mr 0), .inl (km_trust, 6, .inl fm_trust)), ((mr 1), .inl (km_letter, 36, .inl fm_letter)), ((mr 20), .inl (km_official, 25, .inl fm_official))]) [0, 1, 2, 3, 4, 5, 6, 7, 8, 9, 10, 11, 12, 13, 14, 15] (by decide) rfl
    have hFc := va_free (wc := [(h0, .inr (12, fsMM mi mr)), ((mr 14), .inl (km_must, 25, .inl fm_must)), ((mr 15), .inl (km_least, 25, .inl fm_least)), ((mr 16), .inl (km_pin, 25, .inl fm_pin)), ((mr 17), .inl (km_ways, 6875, .inl fm_ways)), ((mr 18), .inl (km_verdict, 24, .inl fm_verdict)), ((mr 19), .inl (km_row, 24, .inl fm_row)), ((mr 4), .inl (km_struck, 24, .inl fm_struck)), ((mr 7), .inl (km_reportKnown, 24, .inl fm_reportKnown)), ((mr 2), .inl (km_reportPlace, 24, .inl fm_reportPlace)), ((mr 5), .inl (km_reportMonth, 24, .inl fm_reportMonth)), ((mr 6), .inl (km_reportDay, 24, .inl fm_reportDay)), ((mr 3), .inl (km_reportKind, 24, .inl fm_reportKind)), ((mr 0), .inl (km_trust, 6, .inl fm_trust)), ((mr 1), .inl (km_letter, 36, .inl fm_letter)), ((mr 20), .inl (km_official, 25, .inl fm_official))]) hD hS hA [0, 1, 2, 3, 4, 5, 6, 7, 8, 9, 10, 11, 12, 13, 14, 15] rfl
    refine va_callv (va_runV (As := [.int p1]) (rest := []) ⟨hx, hb, hml, hown, hts⟩ (sX12_officialBy l dC dI H.size h0 mi mr km_must fm_must km_least fm_least km_pin fm_pin km_ways fm_ways km_verdict fm_verdict km_row fm_row km_struck fm_struck km_reportKnown fm_reportKnown km_reportPlace fm_reportPlace km_reportMonth fm_reportMonth km_reportDay fm_reportDay km_reportKind fm_reportKind km_trust fm_trust km_letter fm_letter km_official fm_official p1 gmi_0 gmi_1 gmi_2 gmi_4 gmi_7 gmi_10 gmi_17 gmi_23 gmi_24 gmi_26 gmi_29 gmi_30 gmi_33 gmi_37 gmi_41 gmi_50 gmi_51 gmi_56 gfm_row gfm_struck gfm_reportKnown gfm_reportPlace gfm_reportMonth gfm_reportDay) (cwV 1 hts (gz_gV mGB_358 mGB_359 mGB_360 mGB_1 mGB_361 goodGB) rfl rfl rfl (by decide +kernel) ⟨Nat.le_of_ble_eq_true rfl, Nat.le_of_ble_eq_true rfl⟩) ⟨fun a U g mk q => by obtain ⟨q0, q1, qP, qK, qD⟩ := q; exact ⟨q0, q1, qP, va_K.moved (u := U) (U := U.calling g mk a) (Vm.Alike.refl U.vm) qK, qD⟩, va_recv hKc hPc (ci := 12) (q0 := 0) rfl rfl, fun U hU hW => ⟨rfl, by rw [hU], by rw [hU]; exact hPc, va_K.moved hW.alike hKc, hDc.weaken (fun _ _ _ _ => trivial)⟩⟩ rfl rfl hl.1 rfl (lv_room (Nat.le_of_ble_eq_true rfl)) dX12_tell_13 ⟨Nat.zero_le _, Nat.zero_le _⟩) hS (fun q _ h => hFc q h) hFc (fun u t H1 locs ht hvm hw hB hz1 hk1 hS => ?_)
    obtain ⟨y_1409, y_1410, f_1411, f_1412, f_1413, f_1414, f_1415, f_1416, f_1417, gy_1409, gy_1410, gf_1416, hP1, hD1⟩ := hB
    rw [ht] at hP1
    obtain ⟨hP, hD⟩ := va_join (wr := [((mr 23), .inl (km_out, 80, .inl fm_out))]) (w1 := [(h0, .inr (12, fsMM (upd (upd mi 37 y_1409) 41 y_1410) mr)), ((mr 14), .inl (km_must, 25, .inl f_1411)), ((mr 15), .inl (km_least, 25, .inl f_1412)), ((mr 16), .inl (km_pin, 25, .inl f_1413)), ((mr 17), .inl (km_ways, 6875, .inl f_1414)), ((mr 18), .inl (km_verdict, 24, .inl f_1415)), ((mr 19), .inl (km_row, 24, .inl f_1416)), ((mr 4), .inl (km_struck, 24, .inl fm_struck)), ((mr 7), .inl (km_reportKnown, 24, .inl fm_reportKnown)), ((mr 2), .inl (km_reportPlace, 24, .inl fm_reportPlace)), ((mr 5), .inl (km_reportMonth, 24, .inl fm_reportMonth)), ((mr 6), .inl (km_reportDay, 24, .inl fm_reportDay)), ((mr 3), .inl (km_reportKind, 24, .inl fm_reportKind)), ((mr 0), .inl (km_trust, 6, .inl fm_trust)), ((mr 1), .inl (km_letter, 36, .inl fm_letter)), ((mr 20), .inl (km_official, 25, .inl f_1417))]) hP hD [0, 1, 2, 3, 4, 5, 6, 7, 8, 9, 10, 11, 12, 13, 14, 15] [16] rfl rfl (by decide) (by decide) hk1 hFc hP1 hD1
    have hP := hP.sub (ws' := [(h0, .inr (12, fsMM (upd (upd mi 37 y_1409) 41 y_1410) mr)), ((mr 14), .inl (km_must, 25, .inl f_1411)), ((mr 15), .inl (km_least, 25, .inl f_1412)), ((mr 16), .inl (km_pin, 25, .inl f_1413)), ((mr 17), .inl (km_ways, 6875, .inl f_1414)), ((mr 18), .inl (km_verdict, 24, .inl f_1415)), ((mr 19), .inl (km_row, 24, .inl f_1416)), ((mr 4), .inl (km_struck, 24, .inl fm_struck)), ((mr 7), .inl (km_reportKnown, 24, .inl fm_reportKnown)), ((mr 2), .inl (km_reportPlace, 24, .inl fm_reportPlace)), ((mr 5), .inl (km_reportMonth, 24, .inl fm_reportMonth)), ((mr 6), .inl (km_reportDay, 24, .inl fm_reportDay)), ((mr 3), .inl (km_reportKind, 24, .inl fm_reportKind)), ((mr 0), .inl (km_trust, 6, .inl fm_trust)), ((mr 1), .inl (km_letter, 36, .inl fm_letter)), ((mr 20), .inl (km_official, 25, .inl f_1417)), ((mr 23), .inl (km_out, 80, .inl fm_out))]) [1, 2, 3, 4, 5, 6, 7, 8, 9, 10, 11, 12, 13, 14, 15, 16, 0] rfl
    have hD := hD.sub (ws' := [(h0, .inr (12, fsMM (upd (upd mi 37 y_1409) 41 y_1410) mr)), ((mr 14), .inl (km_must, 25, .inl f_1411)), ((mr 15), .inl (km_least, 25, .inl f_1412)), ((mr 16), .inl (km_pin, 25, .inl f_1413)), ((mr 17), .inl (km_ways, 6875, .inl f_1414)), ((mr 18), .inl (km_verdict, 24, .inl f_1415)), ((mr 19), .inl (km_row, 24, .inl f_1416)), ((mr 4), .inl (km_struck, 24, .inl fm_struck)), ((mr 7), .inl (km_reportKnown, 24, .inl fm_reportKnown)), ((mr 2), .inl (km_reportPlace, 24, .inl fm_reportPlace)), ((mr 5), .inl (km_reportMonth, 24, .inl fm_reportMonth)), ((mr 6), .inl (km_reportDay, 24, .inl fm_reportDay)), ((mr 3), .inl (km_reportKind, 24, .inl fm_reportKind)), ((mr 0), .inl (km_trust, 6, .inl fm_trust)), ((mr 1), .inl (km_letter, 36, .inl fm_letter)), ((mr 20), .inl (km_official, 25, .inl f_1417)), ((mr 23), .inl (km_out, 80, .inl fm_out))]) [1, 2, 3, 4, 5, 6, 7, 8, 9, 10, 11, 12, 13, 14, 15, 16, 0] (by decide) rfl
    generalize H1 = H at hP hS ⊢
    refine lv_aload_n hx hb dX12_tell_16 rfl (lv_at hl 0 rfl) ?_
    refine lv_iconst (v := 0) hx hb dX12_tell_17 (by decide) ?_
    refine va_put (D := (dC, dI)) (ci := 12) (v := .int 0) (ty := .int) (C := RX12) (T := TX12) (N := 57) hx hb hts (fun w h => List.mem_cons_of_mem _ (jnGB_X12 w h)) tyX12 tyX12_ok nmX12 hown hK hP hD hS 0 rfl rfl 56 (by decide) (hts _ (List.mem_cons_of_mem _ mGB_219)) (fun _ h9 => h9) rfl (by decide +kernel) rfl rfl (Nat.le_of_ble_eq_true rfl) dX12_tell_18 (fun H locs hP hD hS => ?_)
    have hP : va_P (dC, dI) vwCl [(h0, .inr (12, fsMM (upd (upd (upd mi 37 y_1409) 41 y_1410) 56 0) mr)), ((mr 14), .inl (km_must, 25, .inl f_1411)), ((mr 15), .inl (km_least, 25, .inl f_1412)), ((mr 16), .inl (km_pin, 25, .inl f_1413)), ((mr 17), .inl (km_ways, 6875, .inl f_1414)), ((mr 18), .inl (km_verdict, 24, .inl f_1415)), ((mr 19), .inl (km_row, 24, .inl f_1416)), ((mr 4), .inl (km_struck, 24, .inl fm_struck)), ((mr 7), .inl (km_reportKnown, 24, .inl fm_reportKnown)), ((mr 2), .inl (km_reportPlace, 24, .inl fm_reportPlace)), ((mr 5), .inl (km_reportMonth, 24, .inl fm_reportMonth)), ((mr 6), .inl (km_reportDay, 24, .inl fm_reportDay)), ((mr 3), .inl (km_reportKind, 24, .inl fm_reportKind)), ((mr 0), .inl (km_trust, 6, .inl fm_trust)), ((mr 1), .inl (km_letter, 36, .inl fm_letter)), ((mr 20), .inl (km_official, 25, .inl f_1417)), ((mr 23), .inl (km_out, 80, .inl fm_out))] H := hP
    have hD : va_D A [(h0, .inr (12, fsMM (upd (upd (upd mi 37 y_1409) 41 y_1410) 56 0) mr)), ((mr 14), .inl (km_must, 25, .inl f_1411)), ((mr 15), .inl (km_least, 25, .inl f_1412)), ((mr 16), .inl (km_pin, 25, .inl f_1413)), ((mr 17), .inl (km_ways, 6875, .inl f_1414)), ((mr 18), .inl (km_verdict, 24, .inl f_1415)), ((mr 19), .inl (km_row, 24, .inl f_1416)), ((mr 4), .inl (km_struck, 24, .inl fm_struck)), ((mr 7), .inl (km_reportKnown, 24, .inl fm_reportKnown)), ((mr 2), .inl (km_reportPlace, 24, .inl fm_reportPlace)), ((mr 5), .inl (km_reportMonth, 24, .inl fm_reportMonth)), ((mr 6), .inl (km_reportDay, 24, .inl fm_reportDay)), ((mr 3), .inl (km_reportKind, 24, .inl fm_reportKind)), ((mr 0), .inl (km_trust, 6, .inl fm_trust)), ((mr 1), .inl (km_letter, 36, .inl fm_letter)), ((mr 20), .inl (km_official, 25, .inl f_1417)), ((mr 23), .inl (km_out, 80, .inl fm_out))] := hD
    refine lv_iconst (v := 0) hx hb dX12_tell_21 (by decide) ?_
    refine lv_istore_n (lv' := [(2, .int 0), (0, .ref h0), (1, .int p1)]) hx hb dX12_tell_22 rfl hl (by decide) rfl (fun ls hl => ?_)
    refine (lp_sX12_tell h0 mi mr km_must fm_must km_least fm_least km_pin fm_pin km_ways fm_ways km_verdict fm_verdict km_row fm_row km_struck fm_struck km_reportKnown fm_reportKnown km_reportPlace fm_reportPlace km_reportMonth fm_reportMonth km_reportDay fm_reportDay km_reportKind fm_reportKind km_trust fm_trust km_letter fm_letter km_official fm_official km_out fm_out p1 gmi_0 gmi_1 gmi_2 gmi_4 gmi_7 gmi_10 gmi_17 gmi_23 gmi_24 gmi_26 gmi_29 gmi_30 gmi_33 gmi_37 gmi_41 gmi_50 gmi_51 gmi_56 gfm_row gfm_struck gfm_reportKnown gfm_reportPlace gfm_reportMonth gfm_reportDay hx hb hml hown hts hK hA (Nat.le_of_ble_eq_true rfl) (Nat.le_of_ble_eq_true rfl) (Nat.zero_le _) (Nat.zero_le _) (fun v w0_37 w0_41 w0_56 z1 z2 z3 z4 z5 z6 z15 z16 H locs ls gv gw0_37 gw0_41 gw0_56 gz6 hP hD hS hl => ?_) (fun v w0_37 w0_41 w0_56 z1 z2 z3 z4 z5 z6 z15 z16 H locs ls gv gw0_37 gw0_41 gw0_56 gz6 hP hD hS hl => ?_) 62) 0 y_1409 y_1410 0 f_1411 f_1412 f_1413 f_1414 f_1415 f_1416 f_1417 fm_out _ _ _ g_1407 (gi_w (gi_c 0 0 (by decide)) (by decide)) gy_1409 gy_1410 (gi_w (gi_c 0 0 (by decide)) (by decide)) gf_1416 (show (0 : Int32).toInt ≤ 3 * (0 : Int32).toInt from by have k0 : (0 : Int32).toInt = 0 := (by decide); have qgr_1403 := g_1406.1; have rgr_1403 := g_1406.2; omega) (show 0 ≤ (0 : Int32).toInt from by have k0 : (0 : Int32).toInt = 0 := (by decide); have qgr_1403 := g_1406.1; have rgr_1403 := g_1406.2; omega) (by have k0 : (0 : Int32).toInt = 0 := (by decide); omega) hP hD hS (lv_sub hl [1, 2, 0] rfl)
    · skip
      exact W.iret (v := v) hx hb hr (fun t ht hW => ⟨⟨v, (), rfl, (gi_w gv (by decide)), w0_37, w0_41, w0_56, z1, z2, z3, z4, z5, z6, z15, z16, gw0_37, gw0_41, gw0_56, gz6, by rw [ht]; exact hP, hD⟩, hS.F ht⟩) hS.2.2 dX12_tell_10
    · skip
      exact W.iret (v := v) hx hb hr (fun t ht hW => ⟨⟨v, (), rfl, (gi_w gv (by decide)), w0_37, w0_41, w0_56, z1, z2, z3, z4, z5, z6, z15, z16, gw0_37, gw0_41, gw0_56, gz6, by rw [ht]; exact hP, hD⟩, hS.F ht⟩) hS.2.2 dX12_tell_130
  · have hc_1418 : r_1403.toInt = 0 := by have h9 := congrArg Int32.toInt c_1404; rw [show (0 : Int32).toInt = 0 from by decide] at h9; exact h9
    have g_1419 : gi r_1403 0 0 := gi_eq c_1404 (gi_c 0 0 (by decide))
    refine lv_bipush (v := (-2)) hx hb dX12_tell_8 (by decide) ?_
    exact W.iret (v := (-2)) hx hb hr (fun t ht hW => ⟨⟨(-2), (), rfl, (gi_w (gi_c (-2) (-2) (by decide)) (by decide)), (mi 37), (mi 41), (mi 56), fm_must, fm_least, fm_pin, fm_ways, fm_verdict, fm_row, fm_official, fm_out, gmi_37, gmi_41, gmi_56, gfm_row, by rw [ht]; exact hP, hD⟩, hS.F ht⟩) hS.2.2 dX12_tell_10
theorem dX12_feed_0 : decode cX12_feed 0 = .ok (.aload_n 0, 1) := by decide +kernel
theorem dX12_feed_1 : decode cX12_feed 1 = .ok (.getfield 99, 3) := by decide +kernel
theorem dX12_feed_4 : decode cX12_feed 4 = .ok (.sipush 1580, 3) := by decide +kernel
theorem dX12_feed_7 : decode cX12_feed 7 = .ok (.if_icmp .le 5, 3) := by decide +kernel
theorem dX12_feed_10 : decode cX12_feed 10 = .ok (.iconst (-1), 1) := by decide +kernel
theorem dX12_feed_11 : decode cX12_feed 11 = .ok (.ireturn, 1) := by decide +kernel
theorem dX12_feed_12 : decode cX12_feed 12 = .ok (.iconst 5, 1) := by decide +kernel
theorem dX12_feed_13 : decode cX12_feed 13 = .ok (.newarray .int, 2) := by decide +kernel
theorem dX12_feed_15 : decode cX12_feed 15 = .ok (.dup, 1) := by decide +kernel
theorem dX12_feed_16 : decode cX12_feed 16 = .ok (.iconst 0, 1) := by decide +kernel
theorem dX12_feed_17 : decode cX12_feed 17 = .ok (.iload_n 1, 1) := by decide +kernel
theorem dX12_feed_18 : decode cX12_feed 18 = .ok (.iastore, 1) := by decide +kernel
theorem dX12_feed_19 : decode cX12_feed 19 = .ok (.dup, 1) := by decide +kernel
theorem dX12_feed_20 : decode cX12_feed 20 = .ok (.iconst 1, 1) := by decide +kernel
theorem dX12_feed_21 : decode cX12_feed 21 = .ok (.iload_n 2, 1) := by decide +kernel
theorem dX12_feed_22 : decode cX12_feed 22 = .ok (.iastore, 1) := by decide +kernel
theorem dX12_feed_23 : decode cX12_feed 23 = .ok (.dup, 1) := by decide +kernel
theorem dX12_feed_24 : decode cX12_feed 24 = .ok (.iconst 2, 1) := by decide +kernel
theorem dX12_feed_25 : decode cX12_feed 25 = .ok (.iload_n 3, 1) := by decide +kernel
theorem dX12_feed_26 : decode cX12_feed 26 = .ok (.iastore, 1) := by decide +kernel
theorem dX12_feed_27 : decode cX12_feed 27 = .ok (.dup, 1) := by decide +kernel
theorem dX12_feed_28 : decode cX12_feed 28 = .ok (.iconst 3, 1) := by decide +kernel
theorem dX12_feed_29 : decode cX12_feed 29 = .ok (.iload 4, 2) := by decide +kernel
theorem dX12_feed_31 : decode cX12_feed 31 = .ok (.iastore, 1) := by decide +kernel
theorem dX12_feed_32 : decode cX12_feed 32 = .ok (.dup, 1) := by decide +kernel
theorem dX12_feed_33 : decode cX12_feed 33 = .ok (.iconst 4, 1) := by decide +kernel
theorem dX12_feed_34 : decode cX12_feed 34 = .ok (.iload 5, 2) := by decide +kernel
theorem dX12_feed_36 : decode cX12_feed 36 = .ok (.iastore, 1) := by decide +kernel
theorem dX12_feed_37 : decode cX12_feed 37 = .ok (.astore 6, 2) := by decide +kernel
theorem dX12_feed_39 : decode cX12_feed 39 = .ok (.iconst 0, 1) := by decide +kernel
theorem dX12_feed_40 : decode cX12_feed 40 = .ok (.istore 7, 2) := by decide +kernel
theorem dX12_feed_42 : decode cX12_feed 42 = .ok (.iload 7, 2) := by decide +kernel
theorem dX12_feed_44 : decode cX12_feed 44 = .ok (.bipush 20, 2) := by decide +kernel
theorem dX12_feed_46 : decode cX12_feed 46 = .ok (.if_icmp .ge 43, 3) := by decide +kernel
theorem dX12_feed_49 : decode cX12_feed 49 = .ok (.aload_n 0, 1) := by decide +kernel
theorem dX12_feed_50 : decode cX12_feed 50 = .ok (.getfield 50, 3) := by decide +kernel
theorem dX12_feed_53 : decode cX12_feed 53 = .ok (.aload_n 0, 1) := by decide +kernel
theorem dX12_feed_54 : decode cX12_feed 54 = .ok (.getfield 99, 3) := by decide +kernel
theorem dX12_feed_57 : decode cX12_feed 57 = .ok (.iload 7, 2) := by decide +kernel
theorem dX12_feed_59 : decode cX12_feed 59 = .ok (.iadd, 1) := by decide +kernel
theorem dX12_feed_60 : decode cX12_feed 60 = .ok (.aload 6, 2) := by decide +kernel
theorem dX12_feed_62 : decode cX12_feed 62 = .ok (.iload 7, 2) := by decide +kernel
theorem dX12_feed_64 : decode cX12_feed 64 = .ok (.iconst 4, 1) := by decide +kernel
theorem dX12_feed_65 : decode cX12_feed 65 = .ok (.idiv, 1) := by decide +kernel
theorem dX12_feed_66 : decode cX12_feed 66 = .ok (.iaload, 1) := by decide +kernel
theorem dX12_feed_67 : decode cX12_feed 67 = .ok (.bipush 24, 2) := by decide +kernel
theorem dX12_feed_69 : decode cX12_feed 69 = .ok (.bipush 8, 2) := by decide +kernel
theorem dX12_feed_71 : decode cX12_feed 71 = .ok (.iload 7, 2) := by decide +kernel
theorem dX12_feed_73 : decode cX12_feed 73 = .ok (.iconst 4, 1) := by decide +kernel
theorem dX12_feed_74 : decode cX12_feed 74 = .ok (.irem, 1) := by decide +kernel
theorem dX12_feed_75 : decode cX12_feed 75 = .ok (.imul, 1) := by decide +kernel
theorem dX12_feed_76 : decode cX12_feed 76 = .ok (.isub, 1) := by decide +kernel
theorem dX12_feed_77 : decode cX12_feed 77 = .ok (.iushr, 1) := by decide +kernel
theorem dX12_feed_78 : decode cX12_feed 78 = .ok (.sipush 255, 3) := by decide +kernel
theorem dX12_feed_81 : decode cX12_feed 81 = .ok (.iand, 1) := by decide +kernel
theorem dX12_feed_82 : decode cX12_feed 82 = .ok (.iastore, 1) := by decide +kernel
theorem dX12_feed_83 : decode cX12_feed 83 = .ok (.iinc 7 1, 3) := by decide +kernel
theorem dX12_feed_86 : decode cX12_feed 86 = .ok (.goto (-44), 3) := by decide +kernel
theorem dX12_feed_89 : decode cX12_feed 89 = .ok (.aload_n 0, 1) := by decide +kernel
theorem dX12_feed_90 : decode cX12_feed 90 = .ok (.dup, 1) := by decide +kernel
theorem dX12_feed_91 : decode cX12_feed 91 = .ok (.getfield 99, 3) := by decide +kernel
theorem dX12_feed_94 : decode cX12_feed 94 = .ok (.bipush 20, 2) := by decide +kernel
theorem dX12_feed_96 : decode cX12_feed 96 = .ok (.iadd, 1) := by decide +kernel
theorem dX12_feed_97 : decode cX12_feed 97 = .ok (.putfield 99, 3) := by decide +kernel
theorem dX12_feed_100 : decode cX12_feed 100 = .ok (.aload_n 0, 1) := by decide +kernel
theorem dX12_feed_101 : decode cX12_feed 101 = .ok (.getfield 99, 3) := by decide +kernel
theorem dX12_feed_104 : decode cX12_feed 104 = .ok (.ireturn, 1) := by decide +kernel
set_option maxHeartbeats 4000000 in
set_option maxRecDepth 100000 in
theorem sX12_feed (l : Launch) (dC : Nat → ClassId) (dI : Nat → Nat → Nat) (sz : Nat) (h0 : Nat) (mi : Nat → Int32) (mr : Nat → Nat) (km_tape : ClassId) (fm_tape : Nat → Int32) (p1 : Int32) (p2 : Int32) (p3 : Int32) (p4 : Int32) (p5 : Int32) (gmi_0 : gi (mi 0) 0 24) (gmi_1 : gi (mi 1) 0 5) (gmi_2 : gi (mi 2) 0 5) (gmi_4 : gi (mi 4) 0 1) (gmi_7 : gi (mi 7) 0 6) (gmi_10 : gi (mi 10) 0 24) (gmi_17 : gi (mi 17) 0 8) (gmi_23 : gi (mi 23) 0 300) (gmi_24 : gi (mi 24) 0 1) (gmi_26 : gi (mi 26) 0 1600) (gmi_29 : gi (mi 29) 0 1600) (gmi_30 : gi (mi 30) 0 1600) (gmi_33 : gi (mi 33) 0 1) (gmi_37 : gi (mi 37) 0 1) (gmi_41 : gi (mi 41) 0 24) (gmi_50 : gi (mi 50) 0 1) (gmi_51 : gi (mi 51) 0 1) (gmi_56 : gi (mi 56) 0 80) : Met l yX12_feed (.code yX12_feed cX12_feed 8 (some .int) :: wsGB) ({ frames := 0, cells := 1, slots := 5, locals := 0 }) (va_Pc [.ref h0, .int p1, .int p2, .int p3, .int p4, .int p5] (fun U => U.heap.size = sz ∧ va_P (dC, dI) vwCl [(h0, .inr (12, fsMM mi mr)), ((mr 13), .inl (km_tape, 1600, .inl fm_tape))] U.heap ∧ va_K (dC, dI) vwCl [(km_tape, .int)] U ∧ va_D (fun _ => True) [(h0, .inr (12, fsMM mi mr)), ((mr 13), .inl (km_tape, 1600, .inl fm_tape))])) (va_Qi (fun (r : Int32) (u : Unit) => gi r (-1) 1600 ∧ ((1580 < (mi 26).toInt ∧ r.toInt = -1) ∨ ((mi 26).toInt ≤ 1580 ∧ r.toInt = (mi 26).toInt + 20))) (fun _ t => ∃ (w0_26 : Int32) (z1 : Nat → Int32), gi w0_26 0 1600 ∧ ((1580 < (mi 26).toInt ∧ w0_26.toInt = (mi 26).toInt) ∨ ((mi 26).toInt ≤ 1580 ∧ w0_26.toInt = (mi 26).toInt + 20)) ∧ va_P (dC, dI) vwCl [(h0, .inr (12, fsMM (upd mi 26 w0_26) mr)), ((mr 13), .inl (km_tape, 1600, .inl z1))] t.heap ∧ va_D (va_A [(h0, .inr (12, fsMM mi mr)), ((mr 13), .inl (km_tape, 1600, .inl fm_tape))] sz) [(h0, .inr (12, fsMM (upd mi 26 w0_26) mr)), ((mr 13), .inl (km_tape, 1600, .inl z1))]) (va_A [(h0, .inr (12, fsMM mi mr)), ((mr 13), .inl (km_tape, 1600, .inl fm_tape))] sz)) 1 5 (va_A [(h0, .inr (12, fsMM mi mr)), ((mr 13), .inl (km_tape, 1600, .inl fm_tape))] sz) := by
  refine Met.ofW (cc := cX12_feed) (maxL := 8) (ret := (some .int)) (by decide) rfl ?_
  intro p e s m args below meth c s₁ B hml hv
  obtain ⟨rfl, hsz, hP, hK, hD0⟩ := hv
  have hx := B.exec
  have hb := B.bytes
  have hr := B.returns
  have hts := atoms_spec (ws := (.code yX12_feed cX12_feed 8 (some .int) :: wsGB)) B.pre
  have hown : s.vm.findClass RX12 = some m.cls := findClass_of_methodNamed B.named
  have hlocks := B.notSynchronized
  subst hsz
  have hD := hD0.self (sz := s.heap.size)
  generalize hAe : va_A [(h0, .inr (12, fsMM mi mr)), ((mr 13), .inl (km_tape, 1600, .inl fm_tape))] s.heap.size = A at hD ⊢
  have hA : ∀ q : Nat, s.heap.size ≤ q → A q := fun q h => by rw [← hAe]; exact Or.inr h
  have hS : va_S A s.heap s.heap [] := va_S.rf
  have hl := lv_entry ([.ref h0, .int p1, .int p2, .int p3, .int p4, .int p5]) (n := 8) (Nat.le_of_ble_eq_true rfl)
  rw [lg_entry_eq]
  generalize (lg_sl ([.ref h0, .int p1, .int p2, .int p3, .int p4, .int p5]) ++ List.replicate (8 - (lg_sl ([.ref h0, .int p1, .int p2, .int p3, .int p4, .int p5])).length) Slot.unset).toArray = ls at hl ⊢
  have hl : lv_has ls 8 [(0, .ref h0), (1, .int p1), (2, .int p2), (3, .int p3), (4, .int p4), (5, .int p5)] := hl
  refine lv_aload_n hx hb dX12_feed_0 rfl (lv_at hl 0 rfl) ?_
  refine va_get (D := (dC, dI)) (ci := 12) (v := .int (mi 26)) (C := RX12) (T := TX12) (N := 57) hx hb hts (fun w h => List.mem_cons_of_mem _ (jnGB_X12 w h)) hown hK hP 0 rfl rfl 26 (by decide) (hts _ (List.mem_cons_of_mem _ mGB_43)) (fun _ h9 => h9) rfl dX12_feed_1 ?_
  refine lv_sipush (v := 1580) hx hb dX12_feed_4 (by decide) ?_
  refine lv_icmp_le (tgt := 12) hx hb dX12_feed_7 (by decide) (fun c_429 => ?_) (fun c_429 => ?_)
  · have hc_430 : (mi 26).toInt ≤ 1580 := by have h9 := Int32.le_iff_toInt_le.mp c_429; rw [show (1580 : Int32).toInt = 1580 from by decide] at h9; exact h9
    have g_431 : gi (mi 26) 0 1580 := gi_le_l c_429 gmi_26 (gi_c 1580 1580 (by decide))
    refine lv_iconst (v := 5) hx hb dX12_feed_12 (by decide) ?_
    refine va_newa (atype := .int) (ty := .int) (a0 := (5, .inl (fun _ => 0))) hx hb (hts _ (List.mem_cons_of_mem _ mGB_4)) rfl hK hP hD hS hA (fun _ => rfl) (by decide) (by decide) (Nat.le_of_ble_eq_true rfl) (Nat.le_of_ble_eq_true rfl) (Nat.le_of_ble_eq_true rfl) dX12_feed_13 (fun q_432 k_433 H hK hP hD hS => ?_)
    have hP : va_P (dC, dI) vwCl [(h0, .inr (12, fsMM mi mr)), ((mr 13), .inl (km_tape, 1600, .inl fm_tape)), (q_432, .inl (k_433, 5, .inl (fun _ => 0)))] H := hP
    have hD : va_D A [(h0, .inr (12, fsMM mi mr)), ((mr 13), .inl (km_tape, 1600, .inl fm_tape)), (q_432, .inl (k_433, 5, .inl (fun _ => 0)))] := hD
    have hK : va_K (dC, dI) vwCl [(km_tape, .int), (k_433, .int)] s := hK
    refine lv_dup hx hb dX12_feed_15 rfl ?_
    refine lv_iconst (v := 0) hx hb dX12_feed_16 (by decide) ?_
    refine lv_iload_n hx hb dX12_feed_17 rfl (lv_at hl 1 rfl) ?_
    refine va_iast hx hb hK hP hD hS 2 1 rfl rfl (gi_in (gi_c 0 0 (by decide)) (by decide)) dX12_feed_18 (fun H locs hP hD hS => ?_)
    have hP : va_P (dC, dI) vwCl [(h0, .inr (12, fsMM mi mr)), ((mr 13), .inl (km_tape, 1600, .inl fm_tape)), (q_432, .inl (k_433, 5, .inl (upd (fun _ => 0) (0 : Int32).toNatClampNeg p1)))] H := hP
    have hD : va_D A [(h0, .inr (12, fsMM mi mr)), ((mr 13), .inl (km_tape, 1600, .inl fm_tape)), (q_432, .inl (k_433, 5, .inl (upd (fun _ => 0) (0 : Int32).toNatClampNeg p1)))] := hD
    generalize upd (fun _ => 0) (0 : Int32).toNatClampNeg p1 = f_434 at hP hD
    refine lv_dup hx hb dX12_feed_19 rfl ?_
    refine lv_iconst (v := 1) hx hb dX12_feed_20 (by decide) ?_
    refine lv_iload_n hx hb dX12_feed_21 rfl (lv_at hl 2 rfl) ?_
    refine va_iast hx hb hK hP hD hS 2 1 rfl rfl (gi_in (gi_c 1 1 (by decide)) (by decide)) dX12_feed_22 (fun H locs hP hD hS => ?_)
    have hP : va_P (dC, dI) vwCl [(h0, .inr (12, fsMM mi mr)), ((mr 13), .inl (km_tape, 1600, .inl fm_tape)), (q_432, .inl (k_433, 5, .inl (upd f_434 (1 : Int32).toNatClampNeg p2)))] H := hP
    have hD : va_D A [(h0, .inr (12, fsMM mi mr)), ((mr 13), .inl (km_tape, 1600, .inl fm_tape)), (q_432, .inl (k_433, 5, .inl (upd f_434 (1 : Int32).toNatClampNeg p2)))] := hD
    generalize upd f_434 (1 : Int32).toNatClampNeg p2 = f_435 at hP hD
    refine lv_dup hx hb dX12_feed_23 rfl ?_
    refine lv_iconst (v := 2) hx hb dX12_feed_24 (by decide) ?_
    refine lv_iload_n hx hb dX12_feed_25 rfl (lv_at hl 3 rfl) ?_
    refine va_iast hx hb hK hP hD hS 2 1 rfl rfl (gi_in (gi_c 2 2 (by decide)) (by decide)) dX12_feed_26 (fun H locs hP hD hS => ?_)
    have hP : va_P (dC, dI) vwCl [(h0, .inr (12, fsMM mi mr)), ((mr 13), .inl (km_tape, 1600, .inl fm_tape)), (q_432, .inl (k_433, 5, .inl (upd f_435 (2 : Int32).toNatClampNeg p3)))] H := hP
    have hD : va_D A [(h0, .inr (12, fsMM mi mr)), ((mr 13), .inl (km_tape, 1600, .inl fm_tape)), (q_432, .inl (k_433, 5, .inl (upd f_435 (2 : Int32).toNatClampNeg p3)))] := hD
    generalize upd f_435 (2 : Int32).toNatClampNeg p3 = f_436 at hP hD
    refine lv_dup hx hb dX12_feed_27 rfl ?_
    refine lv_iconst (v := 3) hx hb dX12_feed_28 (by decide) ?_
    refine lv_iload hx hb dX12_feed_29 (lv_at hl 4 rfl) ?_
    refine va_iast hx hb hK hP hD hS 2 1 rfl rfl (gi_in (gi_c 3 3 (by decide)) (by decide)) dX12_feed_31 (fun H locs hP hD hS => ?_)
    have hP : va_P (dC, dI) vwCl [(h0, .inr (12, fsMM mi mr)), ((mr 13), .inl (km_tape, 1600, .inl fm_tape)), (q_432, .inl (k_433, 5, .inl (upd f_436 (3 : Int32).toNatClampNeg p4)))] H := hP
    have hD : va_D A [(h0, .inr (12, fsMM mi mr)), ((mr 13), .inl (km_tape, 1600, .inl fm_tape)), (q_432, .inl (k_433, 5, .inl (upd f_436 (3 : Int32).toNatClampNeg p4)))] := hD
    generalize upd f_436 (3 : Int32).toNatClampNeg p4 = f_437 at hP hD
    refine lv_dup hx hb dX12_feed_32 rfl ?_
    refine lv_iconst (v := 4) hx hb dX12_feed_33 (by decide) ?_
    refine lv_iload hx hb dX12_feed_34 (lv_at hl 5 rfl) ?_
    refine va_iast hx hb hK hP hD hS 2 1 rfl rfl (gi_in (gi_c 4 4 (by decide)) (by decide)) dX12_feed_36 (fun H locs hP hD hS => ?_)
    have hP : va_P (dC, dI) vwCl [(h0, .inr (12, fsMM mi mr)), ((mr 13), .inl (km_tape, 1600, .inl fm_tape)), (q_432, .inl (k_433, 5, .inl (upd f_437 (4 : Int32).toNatClampNeg p5)))] H := hP
    have hD : va_D A [(h0, .inr (12, fsMM mi mr)), ((mr 13), .inl (km_tape, 1600, .inl fm_tape)), (q_432, .inl (k_433, 5, .inl (upd f_437 (4 : Int32).toNatClampNeg p5)))] := hD
    generalize upd f_437 (4 : Int32).toNatClampNeg p5 = f_438 at hP hD
    refine lv_astore (lv' := [(6, .ref q_432), (0, .ref h0), (1, .int p1), (2, .int p2), (3, .int p3), (4, .int p4), (5, .int p5)]) hx hb dX12_feed_37 hl (by decide) rfl (fun ls hl => ?_)
    refine lv_iconst (v := 0) hx hb dX12_feed_39 (by decide) ?_
    refine lv_istore (lv' := [(7, .int 0), (6, .ref q_432), (0, .ref h0), (1, .int p1), (2, .int p2), (3, .int p3), (4, .int p4), (5, .int p5)]) hx hb dX12_feed_40 hl (by decide) rfl (fun ls hl => ?_)
    refine lv_iload hx hb dX12_feed_42 (lv_at hl 0 rfl) ?_
    refine lv_bipush (v := 20) hx hb dX12_feed_44 (by decide) ?_
    refine lv_icmp_ge (tgt := 89) hx hb dX12_feed_46 (by decide) (fun c_439 => absurd c_439 (gi_no_le (gi_c 20 20 (by decide)) (gi_c 0 0 (by decide)) (by decide))) (fun c_439 => ?_)
    refine lv_aload_n hx hb dX12_feed_49 rfl (lv_at hl 2 rfl) ?_
    refine va_get (D := (dC, dI)) (ci := 12) (v := .ref (mr 13)) (C := RX12) (T := TX12) (N := 57) hx hb hts (fun w h => List.mem_cons_of_mem _ (jnGB_X12 w h)) hown hK hP 0 rfl rfl 25 (by decide) (hts _ (List.mem_cons_of_mem _ mGB_24)) (fun _ h9 => h9) rfl dX12_feed_50 ?_
    refine lv_aload_n hx hb dX12_feed_53 rfl (lv_at hl 2 rfl) ?_
    refine va_get (D := (dC, dI)) (ci := 12) (v := .int (mi 26)) (C := RX12) (T := TX12) (N := 57) hx hb hts (fun w h => List.mem_cons_of_mem _ (jnGB_X12 w h)) hown hK hP 0 rfl rfl 26 (by decide) (hts _ (List.mem_cons_of_mem _ mGB_43)) (fun _ h9 => h9) rfl dX12_feed_54 ?_
    refine lv_iload hx hb dX12_feed_57 (lv_at hl 0 rfl) ?_
    refine lv_iadd hx hb dX12_feed_59 ?_
    refine lv_topi (fun x_440 ex_440 => ?_)
    have gx_440 : gi x_440 0 1580 := gi_add ex_440 g_431 (gi_c 0 0 (by decide)) (by decide)
    refine lv_aload hx hb dX12_feed_60 (lv_at hl 1 rfl) ?_
    refine lv_iload hx hb dX12_feed_62 (lv_at hl 0 rfl) ?_
    refine lv_iconst (v := 4) hx hb dX12_feed_64 (by decide) ?_
    refine lv_idiv hx hb dX12_feed_65 (by decide) ?_
    refine lv_topi (fun x_441 ex_441 => ?_)
    have gx_441 : gi x_441 0 0 := gi_div ex_441 (gi_c 0 0 (by decide)) (gi_c 4 4 (by decide)) (by decide)
    refine va_iald hx hb hK hP 2 1 rfl rfl (gi_in gx_441 (by decide)) dX12_feed_66 ?_
    refine lv_topi (fun x_442 ex_442 => ?_)
    have hlx_442 : x_442.toInt = (f_438 x_441.toNatClampNeg).toInt := congrArg Int32.toInt ex_442
    refine lv_bipush (v := 24) hx hb dX12_feed_67 (by decide) ?_
    refine lv_bipush (v := 8) hx hb dX12_feed_69 (by decide) ?_
    refine lv_iload hx hb dX12_feed_71 (lv_at hl 0 rfl) ?_
    refine lv_iconst (v := 4) hx hb dX12_feed_73 (by decide) ?_
    refine lv_irem hx hb dX12_feed_74 (by decide) ?_
    refine lv_topi (fun x_443 ex_443 => ?_)
    refine lv_imul hx hb dX12_feed_75 ?_
    refine lv_topi (fun x_444 ex_444 => ?_)
    refine lv_isub hx hb dX12_feed_76 ?_
    refine lv_topi (fun x_445 ex_445 => ?_)
    refine lv_iushr hx hb dX12_feed_77 rfl ?_
    refine lv_topi (fun x_446 ex_446 => ?_)
    refine lv_sipush (v := 255) hx hb dX12_feed_78 (by decide) ?_
    refine lv_iand hx hb dX12_feed_81 ?_
    refine lv_topi (fun x_447 ex_447 => ?_)
    refine va_iast hx hb hK hP hD hS 1 0 rfl rfl (gi_in gx_440 (by decide)) dX12_feed_82 (fun H locs hP hD hS => ?_)
    have hP : va_P (dC, dI) vwCl [(h0, .inr (12, fsMM mi mr)), ((mr 13), .inl (km_tape, 1600, .inl (upd fm_tape (x_440 : Int32).toNatClampNeg x_447))), (q_432, .inl (k_433, 5, .inl f_438))] H := hP
    have hD : va_D A [(h0, .inr (12, fsMM mi mr)), ((mr 13), .inl (km_tape, 1600, .inl (upd fm_tape (x_440 : Int32).toNatClampNeg x_447))), (q_432, .inl (k_433, 5, .inl f_438))] := hD
    generalize upd fm_tape (x_440 : Int32).toNatClampNeg x_447 = f_448 at hP hD
    refine lv_iinc (v := 1) (lv' := [(7, .int 1), (6, .ref q_432), (0, .ref h0), (1, .int p1), (2, .int p2), (3, .int p3), (4, .int p4), (5, .int p5)]) hx hb dX12_feed_83 hl (k := 0) rfl (by decide) (by decide) rfl (fun ls hl => ?_)
    refine lv_goto (tgt := 42) hx hb dX12_feed_86 (by decide) ?_
    refine lv_iload hx hb dX12_feed_42 (lv_at hl 0 rfl) ?_
    refine lv_bipush (v := 20) hx hb dX12_feed_44 (by decide) ?_
    refine lv_icmp_ge (tgt := 89) hx hb dX12_feed_46 (by decide) (fun c_449 => absurd c_449 (gi_no_le (gi_c 20 20 (by decide)) (gi_c 1 1 (by decide)) (by decide))) (fun c_449 => ?_)
    refine lv_aload_n hx hb dX12_feed_49 rfl (lv_at hl 2 rfl) ?_
    refine va_get (D := (dC, dI)) (ci := 12) (v := .ref (mr 13)) (C := RX12) (T := TX12) (N := 57) hx hb hts (fun w h => List.mem_cons_of_mem _ (jnGB_X12 w h)) hown hK hP 0 rfl rfl 25 (by decide) (hts _ (List.mem_cons_of_mem _ mGB_24)) (fun _ h9 => h9) rfl dX12_feed_50 ?_
    refine lv_aload_n hx hb dX12_feed_53 rfl (lv_at hl 2 rfl) ?_
    refine va_get (D := (dC, dI)) (ci := 12) (v := .int (mi 26)) (C := RX12) (T := TX12) (N := 57) hx hb hts (fun w h => List.mem_cons_of_mem _ (jnGB_X12 w h)) hown hK hP 0 rfl rfl 26 (by decide) (hts _ (List.mem_cons_of_mem _ mGB_43)) (fun _ h9 => h9) rfl dX12_feed_54 ?_
    refine lv_iload hx hb dX12_feed_57 (lv_at hl 0 rfl) ?_
    refine lv_iadd hx hb dX12_feed_59 ?_
    refine lv_topi (fun x_450 ex_450 => ?_)
    have gx_450 : gi x_450 1 1581 := gi_add ex_450 g_431 (gi_c 1 1 (by decide)) (by decide)
    refine lv_aload hx hb dX12_feed_60 (lv_at hl 1 rfl) ?_
    refine lv_iload hx hb dX12_feed_62 (lv_at hl 0 rfl) ?_
    refine lv_iconst (v := 4) hx hb dX12_feed_64 (by decide) ?_
    refine lv_idiv hx hb dX12_feed_65 (by decide) ?_
    refine lv_topi (fun x_451 ex_451 => ?_)
    have gx_451 : gi x_451 0 0 := gi_div ex_451 (gi_c 1 1 (by decide)) (gi_c 4 4 (by decide)) (by decide)
    refine va_iald hx hb hK hP 2 1 rfl rfl (gi_in gx_451 (by decide)) dX12_feed_66 ?_
    refine lv_topi (fun x_452 ex_452 => ?_)
    have hlx_452 : x_452.toInt = (f_438 x_451.toNatClampNeg).toInt := congrArg Int32.toInt ex_452
    refine lv_bipush (v := 24) hx hb dX12_feed_67 (by decide) ?_
    refine lv_bipush (v := 8) hx hb dX12_feed_69 (by decide) ?_
    refine lv_iload hx hb dX12_feed_71 (lv_at hl 0 rfl) ?_
    refine lv_iconst (v := 4) hx hb dX12_feed_73 (by decide) ?_
    refine lv_irem hx hb dX12_feed_74 (by decide) ?_
    refine lv_topi (fun x_453 ex_453 => ?_)
    refine lv_imul hx hb dX12_feed_75 ?_
    refine lv_topi (fun x_454 ex_454 => ?_)
    refine lv_isub hx hb dX12_feed_76 ?_
    refine lv_topi (fun x_455 ex_455 => ?_)
    refine lv_iushr hx hb dX12_feed_77 rfl ?_
    refine lv_topi (fun x_456 ex_456 => ?_)
    refine lv_sipush (v := 255) hx hb dX12_feed_78 (by decide) ?_
    refine lv_iand hx hb dX12_feed_81 ?_
    refine lv_topi (fun x_457 ex_457 => ?_)
    refine va_iast hx hb hK hP hD hS 1 0 rfl rfl (gi_in gx_450 (by decide)) dX12_feed_82 (fun H locs hP hD hS => ?_)
    have hP : va_P (dC, dI) vwCl [(h0, .inr (12, fsMM mi mr)), ((mr 13), .inl (km_tape, 1600, .inl (upd f_448 (x_450 : Int32).toNatClampNeg x_457))), (q_432, .inl (k_433, 5, .inl f_438))] H := hP
    have hD : va_D A [(h0, .inr (12, fsMM mi mr)), ((mr 13), .inl (km_tape, 1600, .inl (upd f_448 (x_450 : Int32).toNatClampNeg x_457))), (q_432, .inl (k_433, 5, .inl f_438))] := hD
    generalize upd f_448 (x_450 : Int32).toNatClampNeg x_457 = f_458 at hP hD
    refine lv_iinc (v := 2) (lv' := [(7, .int 2), (6, .ref q_432), (0, .ref h0), (1, .int p1), (2, .int p2), (3, .int p3), (4, .int p4), (5, .int p5)]) hx hb dX12_feed_83 hl (k := 0) rfl (by decide) (by decide) rfl (fun ls hl => ?_)
    refine lv_goto (tgt := 42) hx hb dX12_feed_86 (by decide) ?_
    refine lv_iload hx hb dX12_feed_42 (lv_at hl 0 rfl) ?_
    refine lv_bipush (v := 20) hx hb dX12_feed_44 (by decide) ?_
    refine lv_icmp_ge (tgt := 89) hx hb dX12_feed_46 (by decide) (fun c_459 => absurd c_459 (gi_no_le (gi_c 20 20 (by decide)) (gi_c 2 2 (by decide)) (by decide))) (fun c_459 => ?_)
    refine lv_aload_n hx hb dX12_feed_49 rfl (lv_at hl 2 rfl) ?_
    refine va_get (D := (dC, dI)) (ci := 12) (v := .ref (mr 13)) (C := RX12) (T := TX12) (N := 57) hx hb hts (fun w h => List.mem_cons_of_mem _ (jnGB_X12 w h)) hown hK hP 0 rfl rfl 25 (by decide) (hts _ (List.mem_cons_of_mem _ mGB_24)) (fun _ h9 => h9) rfl dX12_feed_50 ?_
    refine lv_aload_n hx hb dX12_feed_53 rfl (lv_at hl 2 rfl) ?_
    refine va_get (D := (dC, dI)) (ci := 12) (v := .int (mi 26)) (C := RX12) (T := TX12) (N := 57) hx hb hts (fun w h => List.mem_cons_of_mem _ (jnGB_X12 w h)) hown hK hP 0 rfl rfl 26 (by decide) (hts _ (List.mem_cons_of_mem _ mGB_43)) (fun _ h9 => h9) rfl dX12_feed_54 ?_
    refine lv_iload hx hb dX12_feed_57 (lv_at hl 0 rfl) ?_
    refine lv_iadd hx hb dX12_feed_59 ?_
    refine lv_topi (fun x_460 ex_460 => ?_)
    have gx_460 : gi x_460 2 1582 := gi_add ex_460 g_431 (gi_c 2 2 (by decide)) (by decide)
    refine lv_aload hx hb dX12_feed_60 (lv_at hl 1 rfl) ?_
    refine lv_iload hx hb dX12_feed_62 (lv_at hl 0 rfl) ?_
    refine lv_iconst (v := 4) hx hb dX12_feed_64 (by decide) ?_
    refine lv_idiv hx hb dX12_feed_65 (by decide) ?_
    refine lv_topi (fun x_461 ex_461 => ?_)
    have gx_461 : gi x_461 0 0 := gi_div ex_461 (gi_c 2 2 (by decide)) (gi_c 4 4 (by decide)) (by decide)
    refine va_iald hx hb hK hP 2 1 rfl rfl (gi_in gx_461 (by decide)) dX12_feed_66 ?_
    refine lv_topi (fun x_462 ex_462 => ?_)
    have hlx_462 : x_462.toInt = (f_438 x_461.toNatClampNeg).toInt := congrArg Int32.toInt ex_462
    refine lv_bipush (v := 24) hx hb dX12_feed_67 (by decide) ?_
    refine lv_bipush (v := 8) hx hb dX12_feed_69 (by decide) ?_
    refine lv_iload hx hb dX12_feed_71 (lv_at hl 0 rfl) ?_
    refine lv_iconst (v := 4) hx hb dX12_feed_73 (by decide) ?_
    refine lv_irem hx hb dX12_feed_74 (by decide) ?_
    refine lv_topi (fun x_463 ex_463 => ?_)
    refine lv_imul hx hb dX12_feed_75 ?_
    refine lv_topi (fun x_464 ex_464 => ?_)
    refine lv_isub hx hb dX12_feed_76 ?_
    refine lv_topi (fun x_465 ex_465 => ?_)
    refine lv_iushr hx hb dX12_feed_77 rfl ?_
    refine lv_topi (fun x_466 ex_466 => ?_)
    refine lv_sipush (v := 255) hx hb dX12_feed_78 (by decide) ?_
    refine lv_iand hx hb dX12_feed_81 ?_
    refine lv_topi (fun x_467 ex_467 => ?_)
    refine va_iast hx hb hK hP hD hS 1 0 rfl rfl (gi_in gx_460 (by decide)) dX12_feed_82 (fun H locs hP hD hS => ?_)
    have hP : va_P (dC, dI) vwCl [(h0, .inr (12, fsMM mi mr)), ((mr 13), .inl (km_tape, 1600, .inl (upd f_458 (x_460 : Int32).toNatClampNeg x_467))), (q_432, .inl (k_433, 5, .inl f_438))] H := hP
    have hD : va_D A [(h0, .inr (12, fsMM mi mr)), ((mr 13), .inl (km_tape, 1600, .inl (upd f_458 (x_460 : Int32).toNatClampNeg x_467))), (q_432, .inl (k_433, 5, .inl f_438))] := hD
    generalize upd f_458 (x_460 : Int32).toNatClampNeg x_467 = f_468 at hP hD
    refine lv_iinc (v := 3) (lv' := [(7, .int 3), (6, .ref q_432), (0, .ref h0), (1, .int p1), (2, .int p2), (3, .int p3), (4, .int p4), (5, .int p5)]) hx hb dX12_feed_83 hl (k := 0) rfl (by decide) (by decide) rfl (fun ls hl => ?_)
    refine lv_goto (tgt := 42) hx hb dX12_feed_86 (by decide) ?_
    refine lv_iload hx hb dX12_feed_42 (lv_at hl 0 rfl) ?_
    refine lv_bipush (v := 20) hx hb dX12_feed_44 (by decide) ?_
    refine lv_icmp_ge (tgt := 89) hx hb dX12_feed_46 (by decide) (fun c_469 => absurd c_469 (gi_no_le (gi_c 20 20 (by decide)) (gi_c 3 3 (by decide)) (by decide))) (fun c_469 => ?_)
    refine lv_aload_n hx hb dX12_feed_49 rfl (lv_at hl 2 rfl) ?_
    refine va_get (D := (dC, dI)) (ci := 12) (v := .ref (mr 13)) (C := RX12) (T := TX12) (N := 57) hx hb hts (fun w h => List.mem_cons_of_mem _ (jnGB_X12 w h)) hown hK hP 0 rfl rfl 25 (by decide) (hts _ (List.mem_cons_of_mem _ mGB_24)) (fun _ h9 => h9) rfl dX12_feed_50 ?_
    refine lv_aload_n hx hb dX12_feed_53 rfl (lv_at hl 2 rfl) ?_
    refine va_get (D := (dC, dI)) (ci := 12) (v := .int (mi 26)) (C := RX12) (T := TX12) (N := 57) hx hb hts (fun w h => List.mem_cons_of_mem _ (jnGB_X12 w h)) hown hK hP 0 rfl rfl 26 (by decide) (hts _ (List.mem_cons_of_mem _ mGB_43)) (fun _ h9 => h9) rfl dX12_feed_54 ?_
    refine lv_iload hx hb dX12_feed_57 (lv_at hl 0 rfl) ?_
    refine lv_iadd hx hb dX12_feed_59 ?_
    refine lv_topi (fun x_470 ex_470 => ?_)
    have gx_470 : gi x_470 3 1583 := gi_add ex_470 g_431 (gi_c 3 3 (by decide)) (by decide)
    refine lv_aload hx hb dX12_feed_60 (lv_at hl 1 rfl) ?_
    refine lv_iload hx hb dX12_feed_62 (lv_at hl 0 rfl) ?_
    refine lv_iconst (v := 4) hx hb dX12_feed_64 (by decide) ?_
    refine lv_idiv hx hb dX12_feed_65 (by decide) ?_
    refine lv_topi (fun x_471 ex_471 => ?_)
    have gx_471 : gi x_471 0 0 := gi_div ex_471 (gi_c 3 3 (by decide)) (gi_c 4 4 (by decide)) (by decide)
    refine va_iald hx hb hK hP 2 1 rfl rfl (gi_in gx_471 (by decide)) dX12_feed_66 ?_
    refine lv_topi (fun x_472 ex_472 => ?_)
    have hlx_472 : x_472.toInt = (f_438 x_471.toNatClampNeg).toInt := congrArg Int32.toInt ex_472
    refine lv_bipush (v := 24) hx hb dX12_feed_67 (by decide) ?_
    refine lv_bipush (v := 8) hx hb dX12_feed_69 (by decide) ?_
    refine lv_iload hx hb dX12_feed_71 (lv_at hl 0 rfl) ?_
    refine lv_iconst (v := 4) hx hb dX12_feed_73 (by decide) ?_
    refine lv_irem hx hb dX12_feed_74 (by decide) ?_
    refine lv_topi (fun x_473 ex_473 => ?_)
    refine lv_imul hx hb dX12_feed_75 ?_
    refine lv_topi (fun x_474 ex_474 => ?_)
    refine lv_isub hx hb dX12_feed_76 ?_
    refine lv_topi (fun x_475 ex_475 => ?_)
    refine lv_iushr hx hb dX12_feed_77 rfl ?_
    refine lv_topi (fun x_476 ex_476 => ?_)
    refine lv_sipush (v := 255) hx hb dX12_feed_78 (by decide) ?_
    refine lv_iand hx hb dX12_feed_81 ?_
    refine lv_topi (fun x_477 ex_477 => ?_)
    refine va_iast hx hb hK hP hD hS 1 0 rfl rfl (gi_in gx_470 (by decide)) dX12_feed_82 (fun H locs hP hD hS => ?_)
    have hP : va_P (dC, dI) vwCl [(h0, .inr (12, fsMM mi mr)), ((mr 13), .inl (km_tape, 1600, .inl (upd f_468 (x_470 : Int32).toNatClampNeg x_477))), (q_432, .inl (k_433, 5, .inl f_438))] H := hP
    have hD : va_D A [(h0, .inr (12, fsMM mi mr)), ((mr 13), .inl (km_tape, 1600, .inl (upd f_468 (x_470 : Int32).toNatClampNeg x_477))), (q_432, .inl (k_433, 5, .inl f_438))] := hD
    generalize upd f_468 (x_470 : Int32).toNatClampNeg x_477 = f_478 at hP hD
    refine lv_iinc (v := 4) (lv' := [(7, .int 4), (6, .ref q_432), (0, .ref h0), (1, .int p1), (2, .int p2), (3, .int p3), (4, .int p4), (5, .int p5)]) hx hb dX12_feed_83 hl (k := 0) rfl (by decide) (by decide) rfl (fun ls hl => ?_)
    refine lv_goto (tgt := 42) hx hb dX12_feed_86 (by decide) ?_
    refine lv_iload hx hb dX12_feed_42 (lv_at hl 0 rfl) ?_
    refine lv_bipush (v := 20) hx hb dX12_feed_44 (by decide) ?_
    refine lv_icmp_ge (tgt := 89) hx hb dX12_feed_46 (by decide) (fun c_479 => absurd c_479 (gi_no_le (gi_c 20 20 (by decide)) (gi_c 4 4 (by decide)) (by decide))) (fun c_479 => ?_)
    refine lv_aload_n hx hb dX12_feed_49 rfl (lv_at hl 2 rfl) ?_
    refine va_get (D := (dC, dI)) (ci := 12) (v := .ref (mr 13)) (C := RX12) (T := TX12) (N := 57) hx hb hts (fun w h => List.mem_cons_of_mem _ (jnGB_X12 w h)) hown hK hP 0 rfl rfl 25 (by decide) (hts _ (List.mem_cons_of_mem _ mGB_24)) (fun _ h9 => h9) rfl dX12_feed_50 ?_
    refine lv_aload_n hx hb dX12_feed_53 rfl (lv_at hl 2 rfl) ?_
    refine va_get (D := (dC, dI)) (ci := 12) (v := .int (mi 26)) (C := RX12) (T := TX12) (N := 57) hx hb hts (fun w h => List.mem_cons_of_mem _ (jnGB_X12 w h)) hown hK hP 0 rfl rfl 26 (by decide) (hts _ (List.mem_cons_of_mem _ mGB_43)) (fun _ h9 => h9) rfl dX12_feed_54 ?_
    refine lv_iload hx hb dX12_feed_57 (lv_at hl 0 rfl) ?_
    refine lv_iadd hx hb dX12_feed_59 ?_
    refine lv_topi (fun x_480 ex_480 => ?_)
    have gx_480 : gi x_480 4 1584 := gi_add ex_480 g_431 (gi_c 4 4 (by decide)) (by decide)
    refine lv_aload hx hb dX12_feed_60 (lv_at hl 1 rfl) ?_
    refine lv_iload hx hb dX12_feed_62 (lv_at hl 0 rfl) ?_
    refine lv_iconst (v := 4) hx hb dX12_feed_64 (by decide) ?_
    refine lv_idiv hx hb dX12_feed_65 (by decide) ?_
    refine lv_topi (fun x_481 ex_481 => ?_)
    have gx_481 : gi x_481 1 1 := gi_div ex_481 (gi_c 4 4 (by decide)) (gi_c 4 4 (by decide)) (by decide)
    refine va_iald hx hb hK hP 2 1 rfl rfl (gi_in gx_481 (by decide)) dX12_feed_66 ?_
    refine lv_topi (fun x_482 ex_482 => ?_)
    have hlx_482 : x_482.toInt = (f_438 x_481.toNatClampNeg).toInt := congrArg Int32.toInt ex_482
    refine lv_bipush (v := 24) hx hb dX12_feed_67 (by decide) ?_
    refine lv_bipush (v := 8) hx hb dX12_feed_69 (by decide) ?_
    refine lv_iload hx hb dX12_feed_71 (lv_at hl 0 rfl) ?_
    refine lv_iconst (v := 4) hx hb dX12_feed_73 (by decide) ?_
    refine lv_irem hx hb dX12_feed_74 (by decide) ?_
    refine lv_topi (fun x_483 ex_483 => ?_)
    refine lv_imul hx hb dX12_feed_75 ?_
    refine lv_topi (fun x_484 ex_484 => ?_)
    refine lv_isub hx hb dX12_feed_76 ?_
    refine lv_topi (fun x_485 ex_485 => ?_)
    refine lv_iushr hx hb dX12_feed_77 rfl ?_
    refine lv_topi (fun x_486 ex_486 => ?_)
    refine lv_sipush (v := 255) hx hb dX12_feed_78 (by decide) ?_
    refine lv_iand hx hb dX12_feed_81 ?_
    refine lv_topi (fun x_487 ex_487 => ?_)
    refine va_iast hx hb hK hP hD hS 1 0 rfl rfl (gi_in gx_480 (by decide)) dX12_feed_82 (fun H locs hP hD hS => ?_)
    have hP : va_P (dC, dI) vwCl [(h0, .inr (12, fsMM mi mr)), ((mr 13), .inl (km_tape, 1600, .inl (upd f_478 (x_480 : Int32).toNatClampNeg x_487))), (q_432, .inl (k_433, 5, .inl f_438))] H := hP
    have hD : va_D A [(h0, .inr (12, fsMM mi mr)), ((mr 13), .inl (km_tape, 1600, .inl (upd f_478 (x_480 : Int32).toNatClampNeg x_487))), (q_432, .inl (k_433, 5, .inl f_438))] := hD
    generalize upd f_478 (x_480 : Int32).toNatClampNeg x_487 = f_488 at hP hD
    refine lv_iinc (v := 5) (lv' := [(7, .int 5), (6, .ref q_432), (0, .ref h0), (1, .int p1), (2, .int p2), (3, .int p3), (4, .int p4), (5, .int p5)]) hx hb dX12_feed_83 hl (k := 0) rfl (by decide) (by decide) rfl (fun ls hl => ?_)
    refine lv_goto (tgt := 42) hx hb dX12_feed_86 (by decide) ?_
    refine lv_iload hx hb dX12_feed_42 (lv_at hl 0 rfl) ?_
    refine lv_bipush (v := 20) hx hb dX12_feed_44 (by decide) ?_
    refine lv_icmp_ge (tgt := 89) hx hb dX12_feed_46 (by decide) (fun c_489 => absurd c_489 (gi_no_le (gi_c 20 20 (by decide)) (gi_c 5 5 (by decide)) (by decide))) (fun c_489 => ?_)
    refine lv_aload_n hx hb dX12_feed_49 rfl (lv_at hl 2 rfl) ?_
    refine va_get (D := (dC, dI)) (ci := 12) (v := .ref (mr 13)) (C := RX12) (T := TX12) (N := 57) hx hb hts (fun w h => List.mem_cons_of_mem _ (jnGB_X12 w h)) hown hK hP 0 rfl rfl 25 (by decide) (hts _ (List.mem_cons_of_mem _ mGB_24)) (fun _ h9 => h9) rfl dX12_feed_50 ?_
    refine lv_aload_n hx hb dX12_feed_53 rfl (lv_at hl 2 rfl) ?_
    refine va_get (D := (dC, dI)) (ci := 12) (v := .int (mi 26)) (C := RX12) (T := TX12) (N := 57) hx hb hts (fun w h => List.mem_cons_of_mem _ (jnGB_X12 w h)) hown hK hP 0 rfl rfl 26 (by decide) (hts _ (List.mem_cons_of_mem _ mGB_43)) (fun _ h9 => h9) rfl dX12_feed_54 ?_
    refine lv_iload hx hb dX12_feed_57 (lv_at hl 0 rfl) ?_
    refine lv_iadd hx hb dX12_feed_59 ?_
    refine lv_topi (fun x_490 ex_490 => ?_)
    have gx_490 : gi x_490 5 1585 := gi_add ex_490 g_431 (gi_c 5 5 (by decide)) (by decide)
    refine lv_aload hx hb dX12_feed_60 (lv_at hl 1 rfl) ?_
    refine lv_iload hx hb dX12_feed_62 (lv_at hl 0 rfl) ?_
    refine lv_iconst (v := 4) hx hb dX12_feed_64 (by decide) ?_
    refine lv_idiv hx hb dX12_feed_65 (by decide) ?_
    refine lv_topi (fun x_491 ex_491 => ?_)
    have gx_491 : gi x_491 1 1 := gi_div ex_491 (gi_c 5 5 (by decide)) (gi_c 4 4 (by decide)) (by decide)
    refine va_iald hx hb hK hP 2 1 rfl rfl (gi_in gx_491 (by decide)) dX12_feed_66 ?_
    refine lv_topi (fun x_492 ex_492 => ?_)
    have hlx_492 : x_492.toInt = (f_438 x_491.toNatClampNeg).toInt := congrArg Int32.toInt ex_492
    refine lv_bipush (v := 24) hx hb dX12_feed_67 (by decide) ?_
    refine lv_bipush (v := 8) hx hb dX12_feed_69 (by decide) ?_
    refine lv_iload hx hb dX12_feed_71 (lv_at hl 0 rfl) ?_
    refine lv_iconst (v := 4) hx hb dX12_feed_73 (by decide) ?_
    refine lv_irem hx hb dX12_feed_74 (by decide) ?_
    refine lv_topi (fun x_493 ex_493 => ?_)
    refine lv_imul hx hb dX12_feed_75 ?_
    refine lv_topi (fun x_494 ex_494 => ?_)
    refine lv_isub hx hb dX12_feed_76 ?_
    refine lv_topi (fun x_495 ex_495 => ?_)
    refine lv_iushr hx hb dX12_feed_77 rfl ?_
    refine lv_topi (fun x_496 ex_496 => ?_)
    refine lv_sipush (v := 255) hx hb dX12_feed_78 (by decide) ?_
    refine lv_iand hx hb dX12_feed_81 ?_
    refine lv_topi (fun x_497 ex_497 => ?_)
    refine va_iast hx hb hK hP hD hS 1 0 rfl rfl (gi_in gx_490 (by decide)) dX12_feed_82 (fun H locs hP hD hS => ?_)
    have hP : va_P (dC, dI) vwCl [(h0, .inr (12, fsMM mi mr)), ((mr 13), .inl (km_tape, 1600, .inl (upd f_488 (x_490 : Int32).toNatClampNeg x_497))), (q_432, .inl (k_433, 5, .inl f_438))] H := hP
    have hD : va_D A [(h0, .inr (12, fsMM mi mr)), ((mr 13), .inl (km_tape, 1600, .inl (upd f_488 (x_490 : Int32).toNatClampNeg x_497))), (q_432, .inl (k_433, 5, .inl f_438))] := hD
    generalize upd f_488 (x_490 : Int32).toNatClampNeg x_497 = f_498 at hP hD
    refine lv_iinc (v := 6) (lv' := [(7, .int 6), (6, .ref q_432), (0, .ref h0), (1, .int p1), (2, .int p2), (3, .int p3), (4, .int p4), (5, .int p5)]) hx hb dX12_feed_83 hl (k := 0) rfl (by decide) (by decide) rfl (fun ls hl => ?_)
    refine lv_goto (tgt := 42) hx hb dX12_feed_86 (by decide) ?_
    refine lv_iload hx hb dX12_feed_42 (lv_at hl 0 rfl) ?_
    refine lv_bipush (v := 20) hx hb dX12_feed_44 (by decide) ?_
    refine lv_icmp_ge (tgt := 89) hx hb dX12_feed_46 (by decide) (fun c_499 => absurd c_499 (gi_no_le (gi_c 20 20 (by decide)) (gi_c 6 6 (by decide)) (by decide))) (fun c_499 => ?_)
    refine lv_aload_n hx hb dX12_feed_49 rfl (lv_at hl 2 rfl) ?_
    refine va_get (D := (dC, dI)) (ci := 12) (v := .ref (mr 13)) (C := RX12) (T := TX12) (N := 57) hx hb hts (fun w h => List.mem_cons_of_mem _ (jnGB_X12 w h)) hown hK hP 0 rfl rfl 25 (by decide) (hts _ (List.mem_cons_of_mem _ mGB_24)) (fun _ h9 => h9) rfl dX12_feed_50 ?_
    refine lv_aload_n hx hb dX12_feed_53 rfl (lv_at hl 2 rfl) ?_
    refine va_get (D := (dC, dI)) (ci := 12) (v := .int (mi 26)) (C := RX12) (T := TX12) (N := 57) hx hb hts (fun w h => List.mem_cons_of_mem _ (jnGB_X12 w h)) hown hK hP 0 rfl rfl 26 (by decide) (hts _ (List.mem_cons_of_mem _ mGB_43)) (fun _ h9 => h9) rfl dX12_feed_54 ?_
    refine lv_iload hx hb dX12_feed_57 (lv_at hl 0 rfl) ?_
    refine lv_iadd hx hb dX12_feed_59 ?_
    refine lv_topi (fun x_500 ex_500 => ?_)
    have gx_500 : gi x_500 6 1586 := gi_add ex_500 g_431 (gi_c 6 6 (by decide)) (by decide)
    refine lv_aload hx hb dX12_feed_60 (lv_at hl 1 rfl) ?_
    refine lv_iload hx hb dX12_feed_62 (lv_at hl 0 rfl) ?_
    refine lv_iconst (v := 4) hx hb dX12_feed_64 (by decide) ?_
    refine lv_idiv hx hb dX12_feed_65 (by decide) ?_
    refine lv_topi (fun x_501 ex_501 => ?_)
    have gx_501 : gi x_501 1 1 := gi_div ex_501 (gi_c 6 6 (by decide)) (gi_c 4 4 (by decide)) (by decide)
    refine va_iald hx hb hK hP 2 1 rfl rfl (gi_in gx_501 (by decide)) dX12_feed_66 ?_
    refine lv_topi (fun x_502 ex_502 => ?_)
    have hlx_502 : x_502.toInt = (f_438 x_501.toNatClampNeg).toInt := congrArg Int32.toInt ex_502
    refine lv_bipush (v := 24) hx hb dX12_feed_67 (by decide) ?_
    refine lv_bipush (v := 8) hx hb dX12_feed_69 (by decide) ?_
    refine lv_iload hx hb dX12_feed_71 (lv_at hl 0 rfl) ?_
    refine lv_iconst (v := 4) hx hb dX12_feed_73 (by decide) ?_
    refine lv_irem hx hb dX12_feed_74 (by decide) ?_
    refine lv_topi (fun x_503 ex_503 => ?_)
    refine lv_imul hx hb dX12_feed_75 ?_
    refine lv_topi (fun x_504 ex_504 => ?_)
    refine lv_isub hx hb dX12_feed_76 ?_
    refine lv_topi (fun x_505 ex_505 => ?_)
    refine lv_iushr hx hb dX12_feed_77 rfl ?_
    refine lv_topi (fun x_506 ex_506 => ?_)
    refine lv_sipush (v := 255) hx hb dX12_feed_78 (by decide) ?_
    refine lv_iand hx hb dX12_feed_81 ?_
    refine lv_topi (fun x_507 ex_507 => ?_)
    refine va_iast hx hb hK hP hD hS 1 0 rfl rfl (gi_in gx_500 (by decide)) dX12_feed_82 (fun H locs hP hD hS => ?_)
    have hP : va_P (dC, dI) vwCl [(h0, .inr (12, fsMM mi mr)), ((mr 13), .inl (km_tape, 1600, .inl (upd f_498 (x_500 : Int32).toNatClampNeg x_507))), (q_432, .inl (k_433, 5, .inl f_438))] H := hP
    have hD : va_D A [(h0, .inr (12, fsMM mi mr)), ((mr 13), .inl (km_tape, 1600, .inl (upd f_498 (x_500 : Int32).toNatClampNeg x_507))), (q_432, .inl (k_433, 5, .inl f_438))] := hD
    generalize upd f_498 (x_500 : Int32).toNatClampNeg x_507 = f_508 at hP hD
    refine lv_iinc (v := 7) (lv' := [(7, .int 7), (6, .ref q_432), (0, .ref h0), (1, .int p1), (2, .int p2), (3, .int p3), (4, .int p4), (5, .int p5)]) hx hb dX12_feed_83 hl (k := 0) rfl (by decide) (by decide) rfl (fun ls hl => ?_)
    refine lv_goto (tgt := 42) hx hb dX12_feed_86 (by decide) ?_
    refine lv_iload hx hb dX12_feed_42 (lv_at hl 0 rfl) ?_
    refine lv_bipush (v := 20) hx hb dX12_feed_44 (by decide) ?_
    refine lv_icmp_ge (tgt := 89) hx hb dX12_feed_46 (by decide) (fun c_509 => absurd c_509 (gi_no_le (gi_c 20 20 (by decide)) (gi_c 7 7 (by decide)) (by decide))) (fun c_509 => ?_)
    refine lv_aload_n hx hb dX12_feed_49 rfl (lv_at hl 2 rfl) ?_
    refine va_get (D := (dC, dI)) (ci := 12) (v := .ref (mr 13)) (C := RX12) (T := TX12) (N := 57) hx hb hts (fun w h => List.mem_cons_of_mem _ (jnGB_X12 w h)) hown hK hP 0 rfl rfl 25 (by decide) (hts _ (List.mem_cons_of_mem _ mGB_24)) (fun _ h9 => h9) rfl dX12_feed_50 ?_
    refine lv_aload_n hx hb dX12_feed_53 rfl (lv_at hl 2 rfl) ?_
    refine va_get (D := (dC, dI)) (ci := 12) (v := .int (mi 26)) (C := RX12) (T := TX12) (N := 57) hx hb hts (fun w h => List.mem_cons_of_mem _ (jnGB_X12 w h)) hown hK hP 0 rfl rfl 26 (by decide) (hts _ (List.mem_cons_of_mem _ mGB_43)) (fun _ h9 => h9) rfl dX12_feed_54 ?_
    refine lv_iload hx hb dX12_feed_57 (lv_at hl 0 rfl) ?_
    refine lv_iadd hx hb dX12_feed_59 ?_
    refine lv_topi (fun x_510 ex_510 => ?_)
    have gx_510 : gi x_510 7 1587 := gi_add ex_510 g_431 (gi_c 7 7 (by decide)) (by decide)
    refine lv_aload hx hb dX12_feed_60 (lv_at hl 1 rfl) ?_
    refine lv_iload hx hb dX12_feed_62 (lv_at hl 0 rfl) ?_
    refine lv_iconst (v := 4) hx hb dX12_feed_64 (by decide) ?_
    refine lv_idiv hx hb dX12_feed_65 (by decide) ?_
    refine lv_topi (fun x_511 ex_511 => ?_)
    have gx_511 : gi x_511 1 1 := gi_div ex_511 (gi_c 7 7 (by decide)) (gi_c 4 4 (by decide)) (by decide)
    refine va_iald hx hb hK hP 2 1 rfl rfl (gi_in gx_511 (by decide)) dX12_feed_66 ?_
    refine lv_topi (fun x_512 ex_512 => ?_)
    have hlx_512 : x_512.toInt = (f_438 x_511.toNatClampNeg).toInt := congrArg Int32.toInt ex_512
    refine lv_bipush (v := 24) hx hb dX12_feed_67 (by decide) ?_
    refine lv_bipush (v := 8) hx hb dX12_feed_69 (by decide) ?_
    refine lv_iload hx hb dX12_feed_71 (lv_at hl 0 rfl) ?_
    refine lv_iconst (v := 4) hx hb dX12_feed_73 (by decide) ?_
    refine lv_irem hx hb dX12_feed_74 (by decide) ?_
    refine lv_topi (fun x_513 ex_513 => ?_)
    refine lv_imul hx hb dX12_feed_75 ?_
    refine lv_topi (fun x_514 ex_514 => ?_)
    refine lv_isub hx hb dX12_feed_76 ?_
    refine lv_topi (fun x_515 ex_515 => ?_)
    refine lv_iushr hx hb dX12_feed_77 rfl ?_
    refine lv_topi (fun x_516 ex_516 => ?_)
    refine lv_sipush (v := 255) hx hb dX12_feed_78 (by decide) ?_
    refine lv_iand hx hb dX12_feed_81 ?_
    refine lv_topi (fun x_517 ex_517 => ?_)
    refine va_iast hx hb hK hP hD hS 1 0 rfl rfl (gi_in gx_510 (by decide)) dX12_feed_82 (fun H locs hP hD hS => ?_)
    have hP : va_P (dC, dI) vwCl [(h0, .inr (12, fsMM mi mr)), ((mr 13), .inl (km_tape, 1600, .inl (upd f_508 (x_510 : Int32).toNatClampNeg x_517))), (q_432, .inl (k_433, 5, .inl f_438))] H := hP
    have hD : va_D A [(h0, .inr (12, fsMM mi mr)), ((mr 13), .inl (km_tape, 1600, .inl (upd f_508 (x_510 : Int32).toNatClampNeg x_517))), (q_432, .inl (k_433, 5, .inl f_438))] := hD
    generalize upd f_508 (x_510 : Int32).toNatClampNeg x_517 = f_518 at hP hD
    refine lv_iinc (v := 8) (lv' := [(7, .int 8), (6, .ref q_432), (0, .ref h0), (1, .int p1), (2, .int p2), (3, .int p3), (4, .int p4), (5, .int p5)]) hx hb dX12_feed_83 hl (k := 0) rfl (by decide) (by decide) rfl (fun ls hl => ?_)
    refine lv_goto (tgt := 42) hx hb dX12_feed_86 (by decide) ?_
    refine lv_iload hx hb dX12_feed_42 (lv_at hl 0 rfl) ?_
    refine lv_bipush (v := 20) hx hb dX12_feed_44 (by decide) ?_
    refine lv_icmp_ge (tgt := 89) hx hb dX12_feed_46 (by decide) (fun c_519 => absurd c_519 (gi_no_le (gi_c 20 20 (by decide)) (gi_c 8 8 (by decide)) (by decide))) (fun c_519 => ?_)
    refine lv_aload_n hx hb dX12_feed_49 rfl (lv_at hl 2 rfl) ?_
    refine va_get (D := (dC, dI)) (ci := 12) (v := .ref (mr 13)) (C := RX12) (T := TX12) (N := 57) hx hb hts (fun w h => List.mem_cons_of_mem _ (jnGB_X12 w h)) hown hK hP 0 rfl rfl 25 (by decide) (hts _ (List.mem_cons_of_mem _ mGB_24)) (fun _ h9 => h9) rfl dX12_feed_50 ?_
    refine lv_aload_n hx hb dX12_feed_53 rfl (lv_at hl 2 rfl) ?_
    refine va_get (D := (dC, dI)) (ci := 12) (v := .int (mi 26)) (C := RX12) (T := TX12) (N := 57) hx hb hts (fun w h => List.mem_cons_of_mem _ (jnGB_X12 w h)) hown hK hP 0 rfl rfl 26 (by decide) (hts _ (List.mem_cons_of_mem _ mGB_43)) (fun _ h9 => h9) rfl dX12_feed_54 ?_
    refine lv_iload hx hb dX12_feed_57 (lv_at hl 0 rfl) ?_
    refine lv_iadd hx hb dX12_feed_59 ?_
    refine lv_topi (fun x_520 ex_520 => ?_)
    have gx_520 : gi x_520 8 1588 := gi_add ex_520 g_431 (gi_c 8 8 (by decide)) (by decide)
    refine lv_aload hx hb dX12_feed_60 (lv_at hl 1 rfl) ?_
    refine lv_iload hx hb dX12_feed_62 (lv_at hl 0 rfl) ?_
    refine lv_iconst (v := 4) hx hb dX12_feed_64 (by decide) ?_
    refine lv_idiv hx hb dX12_feed_65 (by decide) ?_
    refine lv_topi (fun x_521 ex_521 => ?_)
    have gx_521 : gi x_521 2 2 := gi_div ex_521 (gi_c 8 8 (by decide)) (gi_c 4 4 (by decide)) (by decide)
    refine va_iald hx hb hK hP 2 1 rfl rfl (gi_in gx_521 (by decide)) dX12_feed_66 ?_
    refine lv_topi (fun x_522 ex_522 => ?_)
    have hlx_522 : x_522.toInt = (f_438 x_521.toNatClampNeg).toInt := congrArg Int32.toInt ex_522
    refine lv_bipush (v := 24) hx hb dX12_feed_67 (by decide) ?_
    refine lv_bipush (v := 8) hx hb dX12_feed_69 (by decide) ?_
    refine lv_iload hx hb dX12_feed_71 (lv_at hl 0 rfl) ?_
    refine lv_iconst (v := 4) hx hb dX12_feed_73 (by decide) ?_
    refine lv_irem hx hb dX12_feed_74 (by decide) ?_
    refine lv_topi (fun x_523 ex_523 => ?_)
    refine lv_imul hx hb dX12_feed_75 ?_
    refine lv_topi (fun x_524 ex_524 => ?_)
    refine lv_isub hx hb dX12_feed_76 ?_
    refine lv_topi (fun x_525 ex_525 => ?_)
    refine lv_iushr hx hb dX12_feed_77 rfl ?_
    refine lv_topi (fun x_526 ex_526 => ?_)
    refine lv_sipush (v := 255) hx hb dX12_feed_78 (by decide) ?_
    refine lv_iand hx hb dX12_feed_81 ?_
    refine lv_topi (fun x_527 ex_527 => ?_)
    refine va_iast hx hb hK hP hD hS 1 0 rfl rfl (gi_in gx_520 (by decide)) dX12_feed_82 (fun H locs hP hD hS => ?_)
    have hP : va_P (dC, dI) vwCl [(h0, .inr (12, fsMM mi mr)), ((mr 13), .inl (km_tape, 1600, .inl (upd f_518 (x_520 : Int32).toNatClampNeg x_527))), (q_432, .inl (k_433, 5, .inl f_438))] H := hP
    have hD : va_D A [(h0, .inr (12, fsMM mi mr)), ((mr 13), .inl (km_tape, 1600, .inl (upd f_518 (x_520 : Int32).toNatClampNeg x_527))), (q_432, .inl (k_433, 5, .inl f_438))] := hD
    generalize upd f_518 (x_520 : Int32).toNatClampNeg x_527 = f_528 at hP hD
    refine lv_iinc (v := 9) (lv' := [(7, .int 9), (6, .ref q_432), (0, .ref h0), (1, .int p1), (2, .int p2), (3, .int p3), (4, .int p4), (5, .int p5)]) hx hb dX12_feed_83 hl (k := 0) rfl (by decide) (by decide) rfl (fun ls hl => ?_)
    refine lv_goto (tgt := 42) hx hb dX12_feed_86 (by decide) ?_
    refine lv_iload hx hb dX12_feed_42 (lv_at hl 0 rfl) ?_
    refine lv_bipush (v := 20) hx hb dX12_feed_44 (by decide) ?_
    refine lv_icmp_ge (tgt := 89) hx hb dX12_feed_46 (by decide) (fun c_529 => absurd c_529 (gi_no_le (gi_c 20 20 (by decide)) (gi_c 9 9 (by decide)) (by decide))) (fun c_529 => ?_)
    refine lv_aload_n hx hb dX12_feed_49 rfl (lv_at hl 2 rfl) ?_
    refine va_get (D := (dC, dI)) (ci := 12) (v := .ref (mr 13)) (C := RX12) (T := TX12) (N := 57) hx hb hts (fun w h => List.mem_cons_of_mem _ (jnGB_X12 w h)) hown hK hP 0 rfl rfl 25 (by decide) (hts _ (List.mem_cons_of_mem _ mGB_24)) (fun _ h9 => h9) rfl dX12_feed_50 ?_
    refine lv_aload_n hx hb dX12_feed_53 rfl (lv_at hl 2 rfl) ?_
    refine va_get (D := (dC, dI)) (ci := 12) (v := .int (mi 26)) (C := RX12) (T := TX12) (N := 57) hx hb hts (fun w h => List.mem_cons_of_mem _ (jnGB_X12 w h)) hown hK hP 0 rfl rfl 26 (by decide) (hts _ (List.mem_cons_of_mem _ mGB_43)) (fun _ h9 => h9) rfl dX12_feed_54 ?_
    refine lv_iload hx hb dX12_feed_57 (lv_at hl 0 rfl) ?_
    refine lv_iadd hx hb dX12_feed_59 ?_
    refine lv_topi (fun x_530 ex_530 => ?_)
    have gx_530 : gi x_530 9 1589 := gi_add ex_530 g_431 (gi_c 9 9 (by decide)) (by decide)
    refine lv_aload hx hb dX12_feed_60 (lv_at hl 1 rfl) ?_
    refine lv_iload hx hb dX12_feed_62 (lv_at hl 0 rfl) ?_
    refine lv_iconst (v := 4) hx hb dX12_feed_64 (by decide) ?_
    refine lv_idiv hx hb dX12_feed_65 (by decide) ?_
    refine lv_topi (fun x_531 ex_531 => ?_)
    have gx_531 : gi x_531 2 2 := gi_div ex_531 (gi_c 9 9 (by decide)) (gi_c 4 4 (by decide)) (by decide)
    refine va_iald hx hb hK hP 2 1 rfl rfl (gi_in gx_531 (by decide)) dX12_feed_66 ?_
    refine lv_topi (fun x_532 ex_532 => ?_)
    have hlx_532 : x_532.toInt = (f_438 x_531.toNatClampNeg).toInt := congrArg Int32.toInt ex_532
    refine lv_bipush (v := 24) hx hb dX12_feed_67 (by decide) ?_
    refine lv_bipush (v := 8) hx hb dX12_feed_69 (by decide) ?_
    refine lv_iload hx hb dX12_feed_71 (lv_at hl 0 rfl) ?_
    refine lv_iconst (v := 4) hx hb dX12_feed_73 (by decide) ?_
    refine lv_irem hx hb dX12_feed_74 (by decide) ?_
    refine lv_topi (fun x_533 ex_533 => ?_)
    refine lv_imul hx hb dX12_feed_75 ?_
    refine lv_topi (fun x_534 ex_534 => ?_)
    refine lv_isub hx hb dX12_feed_76 ?_
    refine lv_topi (fun x_535 ex_535 => ?_)
    refine lv_iushr hx hb dX12_feed_77 rfl ?_
    refine lv_topi (fun x_536 ex_536 => ?_)
    refine lv_sipush (v := 255) hx hb dX12_feed_78 (by decide) ?_
    refine lv_iand hx hb dX12_feed_81 ?_
    refine lv_topi (fun x_537 ex_537 => ?_)
    refine va_iast hx hb hK hP hD hS 1 0 rfl rfl (gi_in gx_530 (by decide)) dX12_feed_82 (fun H locs hP hD hS => ?_)
    have hP : va_P (dC, dI) vwCl [(h0, .inr (12, fsMM mi mr)), ((mr 13), .inl (km_tape, 1600, .inl (upd f_528 (x_530 : Int32).toNatClampNeg x_537))), (q_432, .inl (k_433, 5, .inl f_438))] H := hP
    have hD : va_D A [(h0, .inr (12, fsMM mi mr)), ((mr 13), .inl (km_tape, 1600, .inl (upd f_528 (x_530 : Int32).toNatClampNeg x_537))), (q_432, .inl (k_433, 5, .inl f_438))] := hD
    generalize upd f_528 (x_530 : Int32).toNatClampNeg x_537 = f_538 at hP hD
    refine lv_iinc (v := 10) (lv' := [(7, .int 10), (6, .ref q_432), (0, .ref h0), (1, .int p1), (2, .int p2), (3, .int p3), (4, .int p4), (5, .int p5)]) hx hb dX12_feed_83 hl (k := 0) rfl (by decide) (by decide) rfl (fun ls hl => ?_)
    refine lv_goto (tgt := 42) hx hb dX12_feed_86 (by decide) ?_
    refine lv_iload hx hb dX12_feed_42 (lv_at hl 0 rfl) ?_
    refine lv_bipush (v := 20) hx hb dX12_feed_44 (by decide) ?_
    refine lv_icmp_ge (tgt := 89) hx hb dX12_feed_46 (by decide) (fun c_539 => absurd c_539 (gi_no_le (gi_c 20 20 (by decide)) (gi_c 10 10 (by decide)) (by decide))) (fun c_539 => ?_)
    refine lv_aload_n hx hb dX12_feed_49 rfl (lv_at hl 2 rfl) ?_
    refine va_get (D := (dC, dI)) (ci := 12) (v := .ref (mr 13)) (C := RX12) (T := TX12) (N := 57) hx hb hts (fun w h => List.mem_cons_of_mem _ (jnGB_X12 w h)) hown hK hP 0 rfl rfl 25 (by decide) (hts _ (List.mem_cons_of_mem _ mGB_24)) (fun _ h9 => h9) rfl dX12_feed_50 ?_
    refine lv_aload_n hx hb dX12_feed_53 rfl (lv_at hl 2 rfl) ?_
    refine va_get (D := (dC, dI)) (ci := 12) (v := .int (mi 26)) (C := RX12) (T := TX12) (N := 57) hx hb hts (fun w h => List.mem_cons_of_mem _ (jnGB_X12 w h)) hown hK hP 0 rfl rfl 26 (by decide) (hts _ (List.mem_cons_of_mem _ mGB_43)) (fun _ h9 => h9) rfl dX12_feed_54 ?_
    refine lv_iload hx hb dX12_feed_57 (lv_at hl 0 rfl) ?_
    refine lv_iadd hx hb dX12_feed_59 ?_
    refine lv_topi (fun x_540 ex_540 => ?_)
    have gx_540 : gi x_540 10 1590 := gi_add ex_540 g_431 (gi_c 10 10 (by decide)) (by decide)
    refine lv_aload hx hb dX12_feed_60 (lv_at hl 1 rfl) ?_
    refine lv_iload hx hb dX12_feed_62 (lv_at hl 0 rfl) ?_
    refine lv_iconst (v := 4) hx hb dX12_feed_64 (by decide) ?_
    refine lv_idiv hx hb dX12_feed_65 (by decide) ?_
    refine lv_topi (fun x_541 ex_541 => ?_)
    have gx_541 : gi x_541 2 2 := gi_div ex_541 (gi_c 10 10 (by decide)) (gi_c 4 4 (by decide)) (by decide)
    refine va_iald hx hb hK hP 2 1 rfl rfl (gi_in gx_541 (by decide)) dX12_feed_66 ?_
    refine lv_topi (fun x_542 ex_542 => ?_)
    have hlx_542 : x_542.toInt = (f_438 x_541.toNatClampNeg).toInt := congrArg Int32.toInt ex_542
    refine lv_bipush (v := 24) hx hb dX12_feed_67 (by decide) ?_
    refine lv_bipush (v := 8) hx hb dX12_feed_69 (by decide) ?_
    refine lv_iload hx hb dX12_feed_71 (lv_at hl 0 rfl) ?_
    refine lv_iconst (v := 4) hx hb dX12_feed_73 (by decide) ?_
    refine lv_irem hx hb dX12_feed_74 (by decide) ?_
    refine lv_topi (fun x_543 ex_543 => ?_)
    refine lv_imul hx hb dX12_feed_75 ?_
    refine lv_topi (fun x_544 ex_544 => ?_)
    refine lv_isub hx hb dX12_feed_76 ?_
    refine lv_topi (fun x_545 ex_545 => ?_)
    refine lv_iushr hx hb dX12_feed_77 rfl ?_
    refine lv_topi (fun x_546 ex_546 => ?_)
    refine lv_sipush (v := 255) hx hb dX12_feed_78 (by decide) ?_
    refine lv_iand hx hb dX12_feed_81 ?_
    refine lv_topi (fun x_547 ex_547 => ?_)
    refine va_iast hx hb hK hP hD hS 1 0 rfl rfl (gi_in gx_540 (by decide)) dX12_feed_82 (fun H locs hP hD hS => ?_)
    have hP : va_P (dC, dI) vwCl [(h0, .inr (12, fsMM mi mr)), ((mr 13), .inl (km_tape, 1600, .inl (upd f_538 (x_540 : Int32).toNatClampNeg x_547))), (q_432, .inl (k_433, 5, .inl f_438))] H := hP
    have hD : va_D A [(h0, .inr (12, fsMM mi mr)), ((mr 13), .inl (km_tape, 1600, .inl (upd f_538 (x_540 : Int32).toNatClampNeg x_547))), (q_432, .inl (k_433, 5, .inl f_438))] := hD
    generalize upd f_538 (x_540 : Int32).toNatClampNeg x_547 = f_548 at hP hD
    refine lv_iinc (v := 11) (lv' := [(7, .int 11), (6, .ref q_432), (0, .ref h0), (1, .int p1), (2, .int p2), (3, .int p3), (4, .int p4), (5, .int p5)]) hx hb dX12_feed_83 hl (k := 0) rfl (by decide) (by decide) rfl (fun ls hl => ?_)
    refine lv_goto (tgt := 42) hx hb dX12_feed_86 (by decide) ?_
    refine lv_iload hx hb dX12_feed_42 (lv_at hl 0 rfl) ?_
    refine lv_bipush (v := 20) hx hb dX12_feed_44 (by decide) ?_
    refine lv_icmp_ge (tgt := 89) hx hb dX12_feed_46 (by decide) (fun c_549 => absurd c_549 (gi_no_le (gi_c 20 20 (by decide)) (gi_c 11 11 (by decide)) (by decide))) (fun c_549 => ?_)
    refine lv_aload_n hx hb dX12_feed_49 rfl (lv_at hl 2 rfl) ?_
    refine va_get (D := (dC, dI)) (ci := 12) (v := .ref (mr 13)) (C := RX12) (T := TX12) (N := 57) hx hb hts (fun w h => List.mem_cons_of_mem _ (jnGB_X12 w h)) hown hK hP 0 rfl rfl 25 (by decide) (hts _ (List.mem_cons_of_mem _ mGB_24)) (fun _ h9 => h9) rfl dX12_feed_50 ?_
    refine lv_aload_n hx hb dX12_feed_53 rfl (lv_at hl 2 rfl) ?_
    refine va_get (D := (dC, dI)) (ci := 12) (v := .int (mi 26)) (C := RX12) (T := TX12) (N := 57) hx hb hts (fun w h => List.mem_cons_of_mem _ (jnGB_X12 w h)) hown hK hP 0 rfl rfl 26 (by decide) (hts _ (List.mem_cons_of_mem _ mGB_43)) (fun _ h9 => h9) rfl dX12_feed_54 ?_
    refine lv_iload hx hb dX12_feed_57 (lv_at hl 0 rfl) ?_
    refine lv_iadd hx hb dX12_feed_59 ?_
    refine lv_topi (fun x_550 ex_550 => ?_)
    have gx_550 : gi x_550 11 1591 := gi_add ex_550 g_431 (gi_c 11 11 (by decide)) (by decide)
    refine lv_aload hx hb dX12_feed_60 (lv_at hl 1 rfl) ?_
    refine lv_iload hx hb dX12_feed_62 (lv_at hl 0 rfl) ?_
    refine lv_iconst (v := 4) hx hb dX12_feed_64 (by decide) ?_
    refine lv_idiv hx hb dX12_feed_65 (by decide) ?_
    refine lv_topi (fun x_551 ex_551 => ?_)
    have gx_551 : gi x_551 2 2 := gi_div ex_551 (gi_c 11 11 (by decide)) (gi_c 4 4 (by decide)) (by decide)
    refine va_iald hx hb hK hP 2 1 rfl rfl (gi_in gx_551 (by decide)) dX12_feed_66 ?_
    refine lv_topi (fun x_552 ex_552 => ?_)
    have hlx_552 : x_552.toInt = (f_438 x_551.toNatClampNeg).toInt := congrArg Int32.toInt ex_552
    refine lv_bipush (v := 24) hx hb dX12_feed_67 (by decide) ?_
    refine lv_bipush (v := 8) hx hb dX12_feed_69 (by decide) ?_
    refine lv_iload hx hb dX12_feed_71 (lv_at hl 0 rfl) ?_
    refine lv_iconst (v := 4) hx hb dX12_feed_73 (by decide) ?_
    refine lv_irem hx hb dX12_feed_74 (by decide) ?_
    refine lv_topi (fun x_553 ex_553 => ?_)
    refine lv_imul hx hb dX12_feed_75 ?_
    refine lv_topi (fun x_554 ex_554 => ?_)
    refine lv_isub hx hb dX12_feed_76 ?_
    refine lv_topi (fun x_555 ex_555 => ?_)
    refine lv_iushr hx hb dX12_feed_77 rfl ?_
    refine lv_topi (fun x_556 ex_556 => ?_)
    refine lv_sipush (v := 255) hx hb dX12_feed_78 (by decide) ?_
    refine lv_iand hx hb dX12_feed_81 ?_
    refine lv_topi (fun x_557 ex_557 => ?_)
    refine va_iast hx hb hK hP hD hS 1 0 rfl rfl (gi_in gx_550 (by decide)) dX12_feed_82 (fun H locs hP hD hS => ?_)
    have hP : va_P (dC, dI) vwCl [(h0, .inr (12, fsMM mi mr)), ((mr 13), .inl (km_tape, 1600, .inl (upd f_548 (x_550 : Int32).toNatClampNeg x_557))), (q_432, .inl (k_433, 5, .inl f_438))] H := hP
    have hD : va_D A [(h0, .inr (12, fsMM mi mr)), ((mr 13), .inl (km_tape, 1600, .inl (upd f_548 (x_550 : Int32).toNatClampNeg x_557))), (q_432, .inl (k_433, 5, .inl f_438))] := hD
    generalize upd f_548 (x_550 : Int32).toNatClampNeg x_557 = f_558 at hP hD
    refine lv_iinc (v := 12) (lv' := [(7, .int 12), (6, .ref q_432), (0, .ref h0), (1, .int p1), (2, .int p2), (3, .int p3), (4, .int p4), (5, .int p5)]) hx hb dX12_feed_83 hl (k := 0) rfl (by decide) (by decide) rfl (fun ls hl => ?_)
    refine lv_goto (tgt := 42) hx hb dX12_feed_86 (by decide) ?_
    refine lv_iload hx hb dX12_feed_42 (lv_at hl 0 rfl) ?_
    refine lv_bipush (v := 20) hx hb dX12_feed_44 (by decide) ?_
    refine lv_icmp_ge (tgt := 89) hx hb dX12_feed_46 (by decide) (fun c_559 => absurd c_559 (gi_no_le (gi_c 20 20 (by decide)) (gi_c 12 12 (by decide)) (by decide))) (fun c_559 => ?_)
    refine lv_aload_n hx hb dX12_feed_49 rfl (lv_at hl 2 rfl) ?_
    refine va_get (D := (dC, dI)) (ci := 12) (v := .ref (mr 13)) (C := RX12) (T := TX12) (N := 57) hx hb hts (fun w h => List.mem_cons_of_mem _ (jnGB_X12 w h)) hown hK hP 0 rfl rfl 25 (by decide) (hts _ (List.mem_cons_of_mem _ mGB_24)) (fun _ h9 => h9) rfl dX12_feed_50 ?_
    refine lv_aload_n hx hb dX12_feed_53 rfl (lv_at hl 2 rfl) ?_
    refine va_get (D := (dC, dI)) (ci := 12) (v := .int (mi 26)) (C := RX12) (T := TX12) (N := 57) hx hb hts (fun w h => List.mem_cons_of_mem _ (jnGB_X12 w h)) hown hK hP 0 rfl rfl 26 (by decide) (hts _ (List.mem_cons_of_mem _ mGB_43)) (fun _ h9 => h9) rfl dX12_feed_54 ?_
    refine lv_iload hx hb dX12_feed_57 (lv_at hl 0 rfl) ?_
    refine lv_iadd hx hb dX12_feed_59 ?_
    refine lv_topi (fun x_560 ex_560 => ?_)
    have gx_560 : gi x_560 12 1592 := gi_add ex_560 g_431 (gi_c 12 12 (by decide)) (by decide)
    refine lv_aload hx hb dX12_feed_60 (lv_at hl 1 rfl) ?_
    refine lv_iload hx hb dX12_feed_62 (lv_at hl 0 rfl) ?_
    refine lv_iconst (v := 4) hx hb dX12_feed_64 (by decide) ?_
    refine lv_idiv hx hb dX12_feed_65 (by decide) ?_
    refine lv_topi (fun x_561 ex_561 => ?_)
    have gx_561 : gi x_561 3 3 := gi_div ex_561 (gi_c 12 12 (by decide)) (gi_c 4 4 (by decide)) (by decide)
    refine va_iald hx hb hK hP 2 1 rfl rfl (gi_in gx_561 (by decide)) dX12_feed_66 ?_
    refine lv_topi (fun x_562 ex_562 => ?_)
    have hlx_562 : x_562.toInt = (f_438 x_561.toNatClampNeg).toInt := congrArg Int32.toInt ex_562
    refine lv_bipush (v := 24) hx hb dX12_feed_67 (by decide) ?_
    refine lv_bipush (v := 8) hx hb dX12_feed_69 (by decide) ?_
    refine lv_iload hx hb dX12_feed_71 (lv_at hl 0 rfl) ?_
    refine lv_iconst (v := 4) hx hb dX12_feed_73 (by decide) ?_
    refine lv_irem hx hb dX12_feed_74 (by decide) ?_
    refine lv_topi (fun x_563 ex_563 => ?_)
    refine lv_imul hx hb dX12_feed_75 ?_
    refine lv_topi (fun x_564 ex_564 => ?_)
    refine lv_isub hx hb dX12_feed_76 ?_
    refine lv_topi (fun x_565 ex_565 => ?_)
    refine lv_iushr hx hb dX12_feed_77 rfl ?_
    refine lv_topi (fun x_566 ex_566 => ?_)
    refine lv_sipush (v := 255) hx hb dX12_feed_78 (by decide) ?_
    refine lv_iand hx hb dX12_feed_81 ?_
    refine lv_topi (fun x_567 ex_567 => ?_)
    refine va_iast hx hb hK hP hD hS 1 0 rfl rfl (gi_in gx_560 (by decide)) dX12_feed_82 (fun H locs hP hD hS => ?_)
    have hP : va_P (dC, dI) vwCl [(h0, .inr (12, fsMM mi mr)), ((mr 13), .inl (km_tape, 1600, .inl (upd f_558 (x_560 : Int32).toNatClampNeg x_567))), (q_432, .inl (k_433, 5, .inl f_438))] H := hP
    have hD : va_D A [(h0, .inr (12, fsMM mi mr)), ((mr 13), .inl (km_tape, 1600, .inl (upd f_558 (x_560 : Int32).toNatClampNeg x_567))), (q_432, .inl (k_433, 5, .inl f_438))] := hD
    generalize upd f_558 (x_560 : Int32).toNatClampNeg x_567 = f_568 at hP hD
    refine lv_iinc (v := 13) (lv' := [(7, .int 13), (6, .ref q_432), (0, .ref h0), (1, .int p1), (2, .int p2), (3, .int p3), (4, .int p4), (5, .int p5)]) hx hb dX12_feed_83 hl (k := 0) rfl (by decide) (by decide) rfl (fun ls hl => ?_)
    refine lv_goto (tgt := 42) hx hb dX12_feed_86 (by decide) ?_
    refine lv_iload hx hb dX12_feed_42 (lv_at hl 0 rfl) ?_
    refine lv_bipush (v := 20) hx hb dX12_feed_44 (by decide) ?_
    refine lv_icmp_ge (tgt := 89) hx hb dX12_feed_46 (by decide) (fun c_569 => absurd c_569 (gi_no_le (gi_c 20 20 (by decide)) (gi_c 13 13 (by decide)) (by decide))) (fun c_569 => ?_)
    refine lv_aload_n hx hb dX12_feed_49 rfl (lv_at hl 2 rfl) ?_
    refine va_get (D := (dC, dI)) (ci := 12) (v := .ref (mr 13)) (C := RX12) (T := TX12) (N := 57) hx hb hts (fun w h => List.mem_cons_of_mem _ (jnGB_X12 w h)) hown hK hP 0 rfl rfl 25 (by decide) (hts _ (List.mem_cons_of_mem _ mGB_24)) (fun _ h9 => h9) rfl dX12_feed_50 ?_
    refine lv_aload_n hx hb dX12_feed_53 rfl (lv_at hl 2 rfl) ?_
    refine va_get (D := (dC, dI)) (ci := 12) (v := .int (mi 26)) (C := RX12) (T := TX12) (N := 57) hx hb hts (fun w h => List.mem_cons_of_mem _ (jnGB_X12 w h)) hown hK hP 0 rfl rfl 26 (by decide) (hts _ (List.mem_cons_of_mem _ mGB_43)) (fun _ h9 => h9) rfl dX12_feed_54 ?_
    refine lv_iload hx hb dX12_feed_57 (lv_at hl 0 rfl) ?_
    refine lv_iadd hx hb dX12_feed_59 ?_
    refine lv_topi (fun x_570 ex_570 => ?_)
    have gx_570 : gi x_570 13 1593 := gi_add ex_570 g_431 (gi_c 13 13 (by decide)) (by decide)
    refine lv_aload hx hb dX12_feed_60 (lv_at hl 1 rfl) ?_
    refine lv_iload hx hb dX12_feed_62 (lv_at hl 0 rfl) ?_
    refine lv_iconst (v := 4) hx hb dX12_feed_64 (by decide) ?_
    refine lv_idiv hx hb dX12_feed_65 (by decide) ?_
    refine lv_topi (fun x_571 ex_571 => ?_)
    have gx_571 : gi x_571 3 3 := gi_div ex_571 (gi_c 13 13 (by decide)) (gi_c 4 4 (by decide)) (by decide)
    refine va_iald hx hb hK hP 2 1 rfl rfl (gi_in gx_571 (by decide)) dX12_feed_66 ?_
    refine lv_topi (fun x_572 ex_572 => ?_)
    have hlx_572 : x_572.toInt = (f_438 x_571.toNatClampNeg).toInt := congrArg Int32.toInt ex_572
    refine lv_bipush (v := 24) hx hb dX12_feed_67 (by decide) ?_
    refine lv_bipush (v := 8) hx hb dX12_feed_69 (by decide) ?_
    refine lv_iload hx hb dX12_feed_71 (lv_at hl 0 rfl) ?_
    refine lv_iconst (v := 4) hx hb dX12_feed_73 (by decide) ?_
    refine lv_irem hx hb dX12_feed_74 (by decide) ?_
    refine lv_topi (fun x_573 ex_573 => ?_)
    refine lv_imul hx hb dX12_feed_75 ?_
    refine lv_topi (fun x_574 ex_574 => ?_)
    refine lv_isub hx hb dX12_feed_76 ?_
    refine lv_topi (fun x_575 ex_575 => ?_)
    refine lv_iushr hx hb dX12_feed_77 rfl ?_
    refine lv_topi (fun x_576 ex_576 => ?_)
    refine lv_sipush (v := 255) hx hb dX12_feed_78 (by decide) ?_
    refine lv_iand hx hb dX12_feed_81 ?_
    refine lv_topi (fun x_577 ex_577 => ?_)
    refine va_iast hx hb hK hP hD hS 1 0 rfl rfl (gi_in gx_570 (by decide)) dX12_feed_82 (fun H locs hP hD hS => ?_)
    have hP : va_P (dC, dI) vwCl [(h0, .inr (12, fsMM mi mr)), ((mr 13), .inl (km_tape, 1600, .inl (upd f_568 (x_570 : Int32).toNatClampNeg x_577))), (q_432, .inl (k_433, 5, .inl f_438))] H := hP
    have hD : va_D A [(h0, .inr (12, fsMM mi mr)), ((mr 13), .inl (km_tape, 1600, .inl (upd f_568 (x_570 : Int32).toNatClampNeg x_577))), (q_432, .inl (k_433, 5, .inl f_438))] := hD
    generalize upd f_568 (x_570 : Int32).toNatClampNeg x_577 = f_578 at hP hD
    refine lv_iinc (v := 14) (lv' := [(7, .int 14), (6, .ref q_432), (0, .ref h0), (1, .int p1), (2, .int p2), (3, .int p3), (4, .int p4), (5, .int p5)]) hx hb dX12_feed_83 hl (k := 0) rfl (by decide) (by decide) rfl (fun ls hl => ?_)
    refine lv_goto (tgt := 42) hx hb dX12_feed_86 (by decide) ?_
    refine lv_iload hx hb dX12_feed_42 (lv_at hl 0 rfl) ?_
    refine lv_bipush (v := 20) hx hb dX12_feed_44 (by decide) ?_
    refine lv_icmp_ge (tgt := 89) hx hb dX12_feed_46 (by decide) (fun c_579 => absurd c_579 (gi_no_le (gi_c 20 20 (by decide)) (gi_c 14 14 (by decide)) (by decide))) (fun c_579 => ?_)
    refine lv_aload_n hx hb dX12_feed_49 rfl (lv_at hl 2 rfl) ?_
    refine va_get (D := (dC, dI)) (ci := 12) (v := .ref (mr 13)) (C := RX12) (T := TX12) (N := 57) hx hb hts (fun w h => List.mem_cons_of_mem _ (jnGB_X12 w h)) hown hK hP 0 rfl rfl 25 (by decide) (hts _ (List.mem_cons_of_mem _ mGB_24)) (fun _ h9 => h9) rfl dX12_feed_50 ?_
    refine lv_aload_n hx hb dX12_feed_53 rfl (lv_at hl 2 rfl) ?_
    refine va_get (D := (dC, dI)) (ci := 12) (v := .int (mi 26)) (C := RX12) (T := TX12) (N := 57) hx hb hts (fun w h => List.mem_cons_of_mem _ (jnGB_X12 w h)) hown hK hP 0 rfl rfl 26 (by decide) (hts _ (List.mem_cons_of_mem _ mGB_43)) (fun _ h9 => h9) rfl dX12_feed_54 ?_
    refine lv_iload hx hb dX12_feed_57 (lv_at hl 0 rfl) ?_
    refine lv_iadd hx hb dX12_feed_59 ?_
    refine lv_topi (fun x_580 ex_580 => ?_)
    have gx_580 : gi x_580 14 1594 := gi_add ex_580 g_431 (gi_c 14 14 (by decide)) (by decide)
    refine lv_aload hx hb dX12_feed_60 (lv_at hl 1 rfl) ?_
    refine lv_iload hx hb dX12_feed_62 (lv_at hl 0 rfl) ?_
    refine lv_iconst (v := 4) hx hb dX12_feed_64 (by decide) ?_
    refine lv_idiv hx hb dX12_feed_65 (by decide) ?_
    refine lv_topi (fun x_581 ex_581 => ?_)
    have gx_581 : gi x_581 3 3 := gi_div ex_581 (gi_c 14 14 (by decide)) (gi_c 4 4 (by decide)) (by decide)
    refine va_iald hx hb hK hP 2 1 rfl rfl (gi_in gx_581 (by decide)) dX12_feed_66 ?_
    refine lv_topi (fun x_582 ex_582 => ?_)
    have hlx_582 : x_582.toInt = (f_438 x_581.toNatClampNeg).toInt := congrArg Int32.toInt ex_582
    refine lv_bipush (v := 24) hx hb dX12_feed_67 (by decide) ?_
    refine lv_bipush (v := 8) hx hb dX12_feed_69 (by decide) ?_
    refine lv_iload hx hb dX12_feed_71 (lv_at hl 0 rfl) ?_
    refine lv_iconst (v := 4) hx hb dX12_feed_73 (by decide) ?_
    refine lv_irem hx hb dX12_feed_74 (by decide) ?_
    refine lv_topi (fun x_583 ex_583 => ?_)
    refine lv_imul hx hb dX12_feed_75 ?_
    refine lv_topi (fun x_584 ex_584 => ?_)
    refine lv_isub hx hb dX12_feed_76 ?_
    refine lv_topi (fun x_585 ex_585 => ?_)
    refine lv_iushr hx hb dX12_feed_77 rfl ?_
    refine lv_topi (fun x_586 ex_586 => ?_)
    refine lv_sipush (v := 255) hx hb dX12_feed_78 (by decide) ?_
    refine lv_iand hx hb dX12_feed_81 ?_
    refine lv_topi (fun x_587 ex_587 => ?_)
    refine va_iast hx hb hK hP hD hS 1 0 rfl rfl (gi_in gx_580 (by decide)) dX12_feed_82 (fun H locs hP hD hS => ?_)
    have hP : va_P (dC, dI) vwCl [(h0, .inr (12, fsMM mi mr)), ((mr 13), .inl (km_tape, 1600, .inl (upd f_578 (x_580 : Int32).toNatClampNeg x_587))), (q_432, .inl (k_433, 5, .inl f_438))] H := hP
    have hD : va_D A [(h0, .inr (12, fsMM mi mr)), ((mr 13), .inl (km_tape, 1600, .inl (upd f_578 (x_580 : Int32).toNatClampNeg x_587))), (q_432, .inl (k_433, 5, .inl f_438))] := hD
    generalize upd f_578 (x_580 : Int32).toNatClampNeg x_587 = f_588 at hP hD
    refine lv_iinc (v := 15) (lv' := [(7, .int 15), (6, .ref q_432), (0, .ref h0), (1, .int p1), (2, .int p2), (3, .int p3), (4, .int p4), (5, .int p5)]) hx hb dX12_feed_83 hl (k := 0) rfl (by decide) (by decide) rfl (fun ls hl => ?_)
    refine lv_goto (tgt := 42) hx hb dX12_feed_86 (by decide) ?_
    refine lv_iload hx hb dX12_feed_42 (lv_at hl 0 rfl) ?_
    refine lv_bipush (v := 20) hx hb dX12_feed_44 (by decide) ?_
    refine lv_icmp_ge (tgt := 89) hx hb dX12_feed_46 (by decide) (fun c_589 => absurd c_589 (gi_no_le (gi_c 20 20 (by decide)) (gi_c 15 15 (by decide)) (by decide))) (fun c_589 => ?_)
    refine lv_aload_n hx hb dX12_feed_49 rfl (lv_at hl 2 rfl) ?_
    refine va_get (D := (dC, dI)) (ci := 12) (v := .ref (mr 13)) (C := RX12) (T := TX12) (N := 57) hx hb hts (fun w h => List.mem_cons_of_mem _ (jnGB_X12 w h)) hown hK hP 0 rfl rfl 25 (by decide) (hts _ (List.mem_cons_of_mem _ mGB_24)) (fun _ h9 => h9) rfl dX12_feed_50 ?_
    refine lv_aload_n hx hb dX12_feed_53 rfl (lv_at hl 2 rfl) ?_
    refine va_get (D := (dC, dI)) (ci := 12) (v := .int (mi 26)) (C := RX12) (T := TX12) (N := 57) hx hb hts (fun w h => List.mem_cons_of_mem _ (jnGB_X12 w h)) hown hK hP 0 rfl rfl 26 (by decide) (hts _ (List.mem_cons_of_mem _ mGB_43)) (fun _ h9 => h9) rfl dX12_feed_54 ?_
    refine lv_iload hx hb dX12_feed_57 (lv_at hl 0 rfl) ?_
    refine lv_iadd hx hb dX12_feed_59 ?_
    refine lv_topi (fun x_590 ex_590 => ?_)
    have gx_590 : gi x_590 15 1595 := gi_add ex_590 g_431 (gi_c 15 15 (by decide)) (by decide)
    refine lv_aload hx hb dX12_feed_60 (lv_at hl 1 rfl) ?_
    refine lv_iload hx hb dX12_feed_62 (lv_at hl 0 rfl) ?_
    refine lv_iconst (v := 4) hx hb dX12_feed_64 (by decide) ?_
    refine lv_idiv hx hb dX12_feed_65 (by decide) ?_
    refine lv_topi (fun x_591 ex_591 => ?_)
    have gx_591 : gi x_591 3 3 := gi_div ex_591 (gi_c 15 15 (by decide)) (gi_c 4 4 (by decide)) (by decide)
    refine va_iald hx hb hK hP 2 1 rfl rfl (gi_in gx_591 (by decide)) dX12_feed_66 ?_
    refine lv_topi (fun x_592 ex_592 => ?_)
    have hlx_592 : x_592.toInt = (f_438 x_591.toNatClampNeg).toInt := congrArg Int32.toInt ex_592
    refine lv_bipush (v := 24) hx hb dX12_feed_67 (by decide) ?_
    refine lv_bipush (v := 8) hx hb dX12_feed_69 (by decide) ?_
    refine lv_iload hx hb dX12_feed_71 (lv_at hl 0 rfl) ?_
    refine lv_iconst (v := 4) hx hb dX12_feed_73 (by decide) ?_
    refine lv_irem hx hb dX12_feed_74 (by decide) ?_
    refine lv_topi (fun x_593 ex_593 => ?_)
    refine lv_imul hx hb dX12_feed_75 ?_
    refine lv_topi (fun x_594 ex_594 => ?_)
    refine lv_isub hx hb dX12_feed_76 ?_
    refine lv_topi (fun x_595 ex_595 => ?_)
    refine lv_iushr hx hb dX12_feed_77 rfl ?_
    refine lv_topi (fun x_596 ex_596 => ?_)
    refine lv_sipush (v := 255) hx hb dX12_feed_78 (by decide) ?_
    refine lv_iand hx hb dX12_feed_81 ?_
    refine lv_topi (fun x_597 ex_597 => ?_)
    refine va_iast hx hb hK hP hD hS 1 0 rfl rfl (gi_in gx_590 (by decide)) dX12_feed_82 (fun H locs hP hD hS => ?_)
    have hP : va_P (dC, dI) vwCl [(h0, .inr (12, fsMM mi mr)), ((mr 13), .inl (km_tape, 1600, .inl (upd f_588 (x_590 : Int32).toNatClampNeg x_597))), (q_432, .inl (k_433, 5, .inl f_438))] H := hP
    have hD : va_D A [(h0, .inr (12, fsMM mi mr)), ((mr 13), .inl (km_tape, 1600, .inl (upd f_588 (x_590 : Int32).toNatClampNeg x_597))), (q_432, .inl (k_433, 5, .inl f_438))] := hD
    generalize upd f_588 (x_590 : Int32).toNatClampNeg x_597 = f_598 at hP hD
    refine lv_iinc (v := 16) (lv' := [(7, .int 16), (6, .ref q_432), (0, .ref h0), (1, .int p1), (2, .int p2), (3, .int p3), (4, .int p4), (5, .int p5)]) hx hb dX12_feed_83 hl (k := 0) rfl (by decide) (by decide) rfl (fun ls hl => ?_)
    refine lv_goto (tgt := 42) hx hb dX12_feed_86 (by decide) ?_
    refine lv_iload hx hb dX12_feed_42 (lv_at hl 0 rfl) ?_
    refine lv_bipush (v := 20) hx hb dX12_feed_44 (by decide) ?_
    refine lv_icmp_ge (tgt := 89) hx hb dX12_feed_46 (by decide) (fun c_599 => absurd c_599 (gi_no_le (gi_c 20 20 (by decide)) (gi_c 16 16 (by decide)) (by decide))) (fun c_599 => ?_)
    refine lv_aload_n hx hb dX12_feed_49 rfl (lv_at hl 2 rfl) ?_
    refine va_get (D := (dC, dI)) (ci := 12) (v := .ref (mr 13)) (C := RX12) (T := TX12) (N := 57) hx hb hts (fun w h => List.mem_cons_of_mem _ (jnGB_X12 w h)) hown hK hP 0 rfl rfl 25 (by decide) (hts _ (List.mem_cons_of_mem _ mGB_24)) (fun _ h9 => h9) rfl dX12_feed_50 ?_
    refine lv_aload_n hx hb dX12_feed_53 rfl (lv_at hl 2 rfl) ?_
    refine va_get (D := (dC, dI)) (ci := 12) (v := .int (mi 26)) (C := RX12) (T := TX12) (N := 57) hx hb hts (fun w h => List.mem_cons_of_mem _ (jnGB_X12 w h)) hown hK hP 0 rfl rfl 26 (by decide) (hts _ (List.mem_cons_of_mem _ mGB_43)) (fun _ h9 => h9) rfl dX12_feed_54 ?_
    refine lv_iload hx hb dX12_feed_57 (lv_at hl 0 rfl) ?_
    refine lv_iadd hx hb dX12_feed_59 ?_
    refine lv_topi (fun x_600 ex_600 => ?_)
    have gx_600 : gi x_600 16 1596 := gi_add ex_600 g_431 (gi_c 16 16 (by decide)) (by decide)
    refine lv_aload hx hb dX12_feed_60 (lv_at hl 1 rfl) ?_
    refine lv_iload hx hb dX12_feed_62 (lv_at hl 0 rfl) ?_
    refine lv_iconst (v := 4) hx hb dX12_feed_64 (by decide) ?_
    refine lv_idiv hx hb dX12_feed_65 (by decide) ?_
    refine lv_topi (fun x_601 ex_601 => ?_)
    have gx_601 : gi x_601 4 4 := gi_div ex_601 (gi_c 16 16 (by decide)) (gi_c 4 4 (by decide)) (by decide)
    refine va_iald hx hb hK hP 2 1 rfl rfl (gi_in gx_601 (by decide)) dX12_feed_66 ?_
    refine lv_topi (fun x_602 ex_602 => ?_)
    have hlx_602 : x_602.toInt = (f_438 x_601.toNatClampNeg).toInt := congrArg Int32.toInt ex_602
    refine lv_bipush (v := 24) hx hb dX12_feed_67 (by decide) ?_
    refine lv_bipush (v := 8) hx hb dX12_feed_69 (by decide) ?_
    refine lv_iload hx hb dX12_feed_71 (lv_at hl 0 rfl) ?_
    refine lv_iconst (v := 4) hx hb dX12_feed_73 (by decide) ?_
    refine lv_irem hx hb dX12_feed_74 (by decide) ?_
    refine lv_topi (fun x_603 ex_603 => ?_)
    refine lv_imul hx hb dX12_feed_75 ?_
    refine lv_topi (fun x_604 ex_604 => ?_)
    refine lv_isub hx hb dX12_feed_76 ?_
    refine lv_topi (fun x_605 ex_605 => ?_)
    refine lv_iushr hx hb dX12_feed_77 rfl ?_
    refine lv_topi (fun x_606 ex_606 => ?_)
    refine lv_sipush (v := 255) hx hb dX12_feed_78 (by decide) ?_
    refine lv_iand hx hb dX12_feed_81 ?_
    refine lv_topi (fun x_607 ex_607 => ?_)
    refine va_iast hx hb hK hP hD hS 1 0 rfl rfl (gi_in gx_600 (by decide)) dX12_feed_82 (fun H locs hP hD hS => ?_)
    have hP : va_P (dC, dI) vwCl [(h0, .inr (12, fsMM mi mr)), ((mr 13), .inl (km_tape, 1600, .inl (upd f_598 (x_600 : Int32).toNatClampNeg x_607))), (q_432, .inl (k_433, 5, .inl f_438))] H := hP
    have hD : va_D A [(h0, .inr (12, fsMM mi mr)), ((mr 13), .inl (km_tape, 1600, .inl (upd f_598 (x_600 : Int32).toNatClampNeg x_607))), (q_432, .inl (k_433, 5, .inl f_438))] := hD
    generalize upd f_598 (x_600 : Int32).toNatClampNeg x_607 = f_608 at hP hD
    refine lv_iinc (v := 17) (lv' := [(7, .int 17), (6, .ref q_432), (0, .ref h0), (1, .int p1), (2, .int p2), (3, .int p3), (4, .int p4), (5, .int p5)]) hx hb dX12_feed_83 hl (k := 0) rfl (by decide) (by decide) rfl (fun ls hl => ?_)
    refine lv_goto (tgt := 42) hx hb dX12_feed_86 (by decide) ?_
    refine lv_iload hx hb dX12_feed_42 (lv_at hl 0 rfl) ?_
    refine lv_bipush (v := 20) hx hb dX12_feed_44 (by decide) ?_
    refine lv_icmp_ge (tgt := 89) hx hb dX12_feed_46 (by decide) (fun c_609 => absurd c_609 (gi_no_le (gi_c 20 20 (by decide)) (gi_c 17 17 (by decide)) (by decide))) (fun c_609 => ?_)
    refine lv_aload_n hx hb dX12_feed_49 rfl (lv_at hl 2 rfl) ?_
    refine va_get (D := (dC, dI)) (ci := 12) (v := .ref (mr 13)) (C := RX12) (T := TX12) (N := 57) hx hb hts (fun w h => List.mem_cons_of_mem _ (jnGB_X12 w h)) hown hK hP 0 rfl rfl 25 (by decide) (hts _ (List.mem_cons_of_mem _ mGB_24)) (fun _ h9 => h9) rfl dX12_feed_50 ?_
    refine lv_aload_n hx hb dX12_feed_53 rfl (lv_at hl 2 rfl) ?_
    refine va_get (D := (dC, dI)) (ci := 12) (v := .int (mi 26)) (C := RX12) (T := TX12) (N := 57) hx hb hts (fun w h => List.mem_cons_of_mem _ (jnGB_X12 w h)) hown hK hP 0 rfl rfl 26 (by decide) (hts _ (List.mem_cons_of_mem _ mGB_43)) (fun _ h9 => h9) rfl dX12_feed_54 ?_
    refine lv_iload hx hb dX12_feed_57 (lv_at hl 0 rfl) ?_
    refine lv_iadd hx hb dX12_feed_59 ?_
    refine lv_topi (fun x_610 ex_610 => ?_)
    have gx_610 : gi x_610 17 1597 := gi_add ex_610 g_431 (gi_c 17 17 (by decide)) (by decide)
    refine lv_aload hx hb dX12_feed_60 (lv_at hl 1 rfl) ?_
    refine lv_iload hx hb dX12_feed_62 (lv_at hl 0 rfl) ?_
    refine lv_iconst (v := 4) hx hb dX12_feed_64 (by decide) ?_
    refine lv_idiv hx hb dX12_feed_65 (by decide) ?_
    refine lv_topi (fun x_611 ex_611 => ?_)
    have gx_611 : gi x_611 4 4 := gi_div ex_611 (gi_c 17 17 (by decide)) (gi_c 4 4 (by decide)) (by decide)
    refine va_iald hx hb hK hP 2 1 rfl rfl (gi_in gx_611 (by decide)) dX12_feed_66 ?_
    refine lv_topi (fun x_612 ex_612 => ?_)
    have hlx_612 : x_612.toInt = (f_438 x_611.toNatClampNeg).toInt := congrArg Int32.toInt ex_612
    refine lv_bipush (v := 24) hx hb dX12_feed_67 (by decide) ?_
    refine lv_bipush (v := 8) hx hb dX12_feed_69 (by decide) ?_
    refine lv_iload hx hb dX12_feed_71 (lv_at hl 0 rfl) ?_
    refine lv_iconst (v := 4) hx hb dX12_feed_73 (by decide) ?_
    refine lv_irem hx hb dX12_feed_74 (by decide) ?_
    refine lv_topi (fun x_613 ex_613 => ?_)
    refine lv_imul hx hb dX12_feed_75 ?_
    refine lv_topi (fun x_614 ex_614 => ?_)
    refine lv_isub hx hb dX12_feed_76 ?_
    refine lv_topi (fun x_615 ex_615 => ?_)
    refine lv_iushr hx hb dX12_feed_77 rfl ?_
    refine lv_topi (fun x_616 ex_616 => ?_)
    refine lv_sipush (v := 255) hx hb dX12_feed_78 (by decide) ?_
    refine lv_iand hx hb dX12_feed_81 ?_
    refine lv_topi (fun x_617 ex_617 => ?_)
    refine va_iast hx hb hK hP hD hS 1 0 rfl rfl (gi_in gx_610 (by decide)) dX12_feed_82 (fun H locs hP hD hS => ?_)
    have hP : va_P (dC, dI) vwCl [(h0, .inr (12, fsMM mi mr)), ((mr 13), .inl (km_tape, 1600, .inl (upd f_608 (x_610 : Int32).toNatClampNeg x_617))), (q_432, .inl (k_433, 5, .inl f_438))] H := hP
    have hD : va_D A [(h0, .inr (12, fsMM mi mr)), ((mr 13), .inl (km_tape, 1600, .inl (upd f_608 (x_610 : Int32).toNatClampNeg x_617))), (q_432, .inl (k_433, 5, .inl f_438))] := hD
    generalize upd f_608 (x_610 : Int32).toNatClampNeg x_617 = f_618 at hP hD
    refine lv_iinc (v := 18) (lv' := [(7, .int 18), (6, .ref q_432), (0, .ref h0), (1, .int p1), (2, .int p2), (3, .int p3), (4, .int p4), (5, .int p5)]) hx hb dX12_feed_83 hl (k := 0) rfl (by decide) (by decide) rfl (fun ls hl => ?_)
    refine lv_goto (tgt := 42) hx hb dX12_feed_86 (by decide) ?_
    refine lv_iload hx hb dX12_feed_42 (lv_at hl 0 rfl) ?_
    refine lv_bipush (v := 20) hx hb dX12_feed_44 (by decide) ?_
    refine lv_icmp_ge (tgt := 89) hx hb dX12_feed_46 (by decide) (fun c_619 => absurd c_619 (gi_no_le (gi_c 20 20 (by decide)) (gi_c 18 18 (by decide)) (by decide))) (fun c_619 => ?_)
    refine lv_aload_n hx hb dX12_feed_49 rfl (lv_at hl 2 rfl) ?_
    refine va_get (D := (dC, dI)) (ci := 12) (v := .ref (mr 13)) (C := RX12) (T := TX12) (N := 57) hx hb hts (fun w h => List.mem_cons_of_mem _ (jnGB_X12 w h)) hown hK hP 0 rfl rfl 25 (by decide) (hts _ (List.mem_cons_of_mem _ mGB_24)) (fun _ h9 => h9) rfl dX12_feed_50 ?_
    refine lv_aload_n hx hb dX12_feed_53 rfl (lv_at hl 2 rfl) ?_
    refine va_get (D := (dC, dI)) (ci := 12) (v := .int (mi 26)) (C := RX12) (T := TX12) (N := 57) hx hb hts (fun w h => List.mem_cons_of_mem _ (jnGB_X12 w h)) hown hK hP 0 rfl rfl 26 (by decide) (hts _ (List.mem_cons_of_mem _ mGB_43)) (fun _ h9 => h9) rfl dX12_feed_54 ?_
    refine lv_iload hx hb dX12_feed_57 (lv_at hl 0 rfl) ?_
    refine lv_iadd hx hb dX12_feed_59 ?_
    refine lv_topi (fun x_620 ex_620 => ?_)
    have gx_620 : gi x_620 18 1598 := gi_add ex_620 g_431 (gi_c 18 18 (by decide)) (by decide)
    refine lv_aload hx hb dX12_feed_60 (lv_at hl 1 rfl) ?_
    refine lv_iload hx hb dX12_feed_62 (lv_at hl 0 rfl) ?_
    refine lv_iconst (v := 4) hx hb dX12_feed_64 (by decide) ?_
    refine lv_idiv hx hb dX12_feed_65 (by decide) ?_
    refine lv_topi (fun x_621 ex_621 => ?_)
    have gx_621 : gi x_621 4 4 := gi_div ex_621 (gi_c 18 18 (by decide)) (gi_c 4 4 (by decide)) (by decide)
    refine va_iald hx hb hK hP 2 1 rfl rfl (gi_in gx_621 (by decide)) dX12_feed_66 ?_
    refine lv_topi (fun x_622 ex_622 => ?_)
    have hlx_622 : x_622.toInt = (f_438 x_621.toNatClampNeg).toInt := congrArg Int32.toInt ex_622
    refine lv_bipush (v := 24) hx hb dX12_feed_67 (by decide) ?_
    refine lv_bipush (v := 8) hx hb dX12_feed_69 (by decide) ?_
    refine lv_iload hx hb dX12_feed_71 (lv_at hl 0 rfl) ?_
    refine lv_iconst (v := 4) hx hb dX12_feed_73 (by decide) ?_
    refine lv_irem hx hb dX12_feed_74 (by decide) ?_
    refine lv_topi (fun x_623 ex_623 => ?_)
    refine lv_imul hx hb dX12_feed_75 ?_
    refine lv_topi (fun x_624 ex_624 => ?_)
    refine lv_isub hx hb dX12_feed_76 ?_
    refine lv_topi (fun x_625 ex_625 => ?_)
    refine lv_iushr hx hb dX12_feed_77 rfl ?_
    refine lv_topi (fun x_626 ex_626 => ?_)
    refine lv_sipush (v := 255) hx hb dX12_feed_78 (by decide) ?_
    refine lv_iand hx hb dX12_feed_81 ?_
    refine lv_topi (fun x_627 ex_627 => ?_)
    refine va_iast hx hb hK hP hD hS 1 0 rfl rfl (gi_in gx_620 (by decide)) dX12_feed_82 (fun H locs hP hD hS => ?_)
    have hP : va_P (dC, dI) vwCl [(h0, .inr (12, fsMM mi mr)), ((mr 13), .inl (km_tape, 1600, .inl (upd f_618 (x_620 : Int32).toNatClampNeg x_627))), (q_432, .inl (k_433, 5, .inl f_438))] H := hP
    have hD : va_D A [(h0, .inr (12, fsMM mi mr)), ((mr 13), .inl (km_tape, 1600, .inl (upd f_618 (x_620 : Int32).toNatClampNeg x_627))), (q_432, .inl (k_433, 5, .inl f_438))] := hD
    generalize upd f_618 (x_620 : Int32).toNatClampNeg x_627 = f_628 at hP hD
    refine lv_iinc (v := 19) (lv' := [(7, .int 19), (6, .ref q_432), (0, .ref h0), (1, .int p1), (2, .int p2), (3, .int p3), (4, .int p4), (5, .int p5)]) hx hb dX12_feed_83 hl (k := 0) rfl (by decide) (by decide) rfl (fun ls hl => ?_)
    refine lv_goto (tgt := 42) hx hb dX12_feed_86 (by decide) ?_
    refine lv_iload hx hb dX12_feed_42 (lv_at hl 0 rfl) ?_
    refine lv_bipush (v := 20) hx hb dX12_feed_44 (by decide) ?_
    refine lv_icmp_ge (tgt := 89) hx hb dX12_feed_46 (by decide) (fun c_629 => absurd c_629 (gi_no_le (gi_c 20 20 (by decide)) (gi_c 19 19 (by decide)) (by decide))) (fun c_629 => ?_)
    refine lv_aload_n hx hb dX12_feed_49 rfl (lv_at hl 2 rfl) ?_
    refine va_get (D := (dC, dI)) (ci := 12) (v := .ref (mr 13)) (C := RX12) (T := TX12) (N := 57) hx hb hts (fun w h => List.mem_cons_of_mem _ (jnGB_X12 w h)) hown hK hP 0 rfl rfl 25 (by decide) (hts _ (List.mem_cons_of_mem _ mGB_24)) (fun _ h9 => h9) rfl dX12_feed_50 ?_
    refine lv_aload_n hx hb dX12_feed_53 rfl (lv_at hl 2 rfl) ?_
    refine va_get (D := (dC, dI)) (ci := 12) (v := .int (mi 26)) (C := RX12) (T := TX12) (N := 57) hx hb hts (fun w h => List.mem_cons_of_mem _ (jnGB_X12 w h)) hown hK hP 0 rfl rfl 26 (by decide) (hts _ (List.mem_cons_of_mem _ mGB_43)) (fun _ h9 => h9) rfl dX12_feed_54 ?_
    refine lv_iload hx hb dX12_feed_57 (lv_at hl 0 rfl) ?_
    refine lv_iadd hx hb dX12_feed_59 ?_
    refine lv_topi (fun x_630 ex_630 => ?_)
    have gx_630 : gi x_630 19 1599 := gi_add ex_630 g_431 (gi_c 19 19 (by decide)) (by decide)
    refine lv_aload hx hb dX12_feed_60 (lv_at hl 1 rfl) ?_
    refine lv_iload hx hb dX12_feed_62 (lv_at hl 0 rfl) ?_
    refine lv_iconst (v := 4) hx hb dX12_feed_64 (by decide) ?_
    refine lv_idiv hx hb dX12_feed_65 (by decide) ?_
    refine lv_topi (fun x_631 ex_631 => ?_)
    have gx_631 : gi x_631 4 4 := gi_div ex_631 (gi_c 19 19 (by decide)) (gi_c 4 4 (by decide)) (by decide)
    refine va_iald hx hb hK hP 2 1 rfl rfl (gi_in gx_631 (by decide)) dX12_feed_66 ?_
    refine lv_topi (fun x_632 ex_632 => ?_)
    have hlx_632 : x_632.toInt = (f_438 x_631.toNatClampNeg).toInt := congrArg Int32.toInt ex_632
    refine lv_bipush (v := 24) hx hb dX12_feed_67 (by decide) ?_
    refine lv_bipush (v := 8) hx hb dX12_feed_69 (by decide) ?_
    refine lv_iload hx hb dX12_feed_71 (lv_at hl 0 rfl) ?_
    refine lv_iconst (v := 4) hx hb dX12_feed_73 (by decide) ?_
    refine lv_irem hx hb dX12_feed_74 (by decide) ?_
    refine lv_topi (fun x_633 ex_633 => ?_)
    refine lv_imul hx hb dX12_feed_75 ?_
    refine lv_topi (fun x_634 ex_634 => ?_)
    refine lv_isub hx hb dX12_feed_76 ?_
    refine lv_topi (fun x_635 ex_635 => ?_)
    refine lv_iushr hx hb dX12_feed_77 rfl ?_
    refine lv_topi (fun x_636 ex_636 => ?_)
    refine lv_sipush (v := 255) hx hb dX12_feed_78 (by decide) ?_
    refine lv_iand hx hb dX12_feed_81 ?_
    refine lv_topi (fun x_637 ex_637 => ?_)
    refine va_iast hx hb hK hP hD hS 1 0 rfl rfl (gi_in gx_630 (by decide)) dX12_feed_82 (fun H locs hP hD hS => ?_)
    have hP : va_P (dC, dI) vwCl [(h0, .inr (12, fsMM mi mr)), ((mr 13), .inl (km_tape, 1600, .inl (upd f_628 (x_630 : Int32).toNatClampNeg x_637))), (q_432, .inl (k_433, 5, .inl f_438))] H := hP
    have hD : va_D A [(h0, .inr (12, fsMM mi mr)), ((mr 13), .inl (km_tape, 1600, .inl (upd f_628 (x_630 : Int32).toNatClampNeg x_637))), (q_432, .inl (k_433, 5, .inl f_438))] := hD
    generalize upd f_628 (x_630 : Int32).toNatClampNeg x_637 = f_638 at hP hD
    refine lv_iinc (v := 20) (lv' := [(7, .int 20), (6, .ref q_432), (0, .ref h0), (1, .int p1), (2, .int p2), (3, .int p3), (4, .int p4), (5, .int p5)]) hx hb dX12_feed_83 hl (k := 0) rfl (by decide) (by decide) rfl (fun ls hl => ?_)
    refine lv_goto (tgt := 42) hx hb dX12_feed_86 (by decide) ?_
    refine lv_iload hx hb dX12_feed_42 (lv_at hl 0 rfl) ?_
    refine lv_bipush (v := 20) hx hb dX12_feed_44 (by decide) ?_
    refine lv_icmp_ge (tgt := 89) hx hb dX12_feed_46 (by decide) (fun c_639 => ?_) (fun c_639 => absurd (gi_is_le (gi_c 20 20 (by decide)) (gi_c 20 20 (by decide)) (by decide)) c_639)
    refine lv_aload_n hx hb dX12_feed_89 rfl (lv_at hl 2 rfl) ?_
    refine lv_dup hx hb dX12_feed_90 rfl ?_
    refine va_get (D := (dC, dI)) (ci := 12) (v := .int (mi 26)) (C := RX12) (T := TX12) (N := 57) hx hb hts (fun w h => List.mem_cons_of_mem _ (jnGB_X12 w h)) hown hK hP 0 rfl rfl 26 (by decide) (hts _ (List.mem_cons_of_mem _ mGB_43)) (fun _ h9 => h9) rfl dX12_feed_91 ?_
    refine lv_bipush (v := 20) hx hb dX12_feed_94 (by decide) ?_
    refine lv_iadd hx hb dX12_feed_96 ?_
    refine lv_topi (fun x_640 ex_640 => ?_)
    have gx_640 : gi x_640 20 1600 := gi_add ex_640 g_431 (gi_c 20 20 (by decide)) (by decide)
    refine va_put (D := (dC, dI)) (ci := 12) (v := .int x_640) (ty := .int) (C := RX12) (T := TX12) (N := 57) hx hb hts (fun w h => List.mem_cons_of_mem _ (jnGB_X12 w h)) tyX12 tyX12_ok nmX12 hown hK hP hD hS 0 rfl rfl 26 (by decide) (hts _ (List.mem_cons_of_mem _ mGB_43)) (fun _ h9 => h9) rfl (by decide +kernel) rfl rfl (Nat.le_of_ble_eq_true rfl) dX12_feed_97 (fun H locs hP hD hS => ?_)
    have hP : va_P (dC, dI) vwCl [(h0, .inr (12, fsMM (upd mi 26 x_640) mr)), ((mr 13), .inl (km_tape, 1600, .inl f_638)), (q_432, .inl (k_433, 5, .inl f_438))] H := hP
    have hD : va_D A [(h0, .inr (12, fsMM (upd mi 26 x_640) mr)), ((mr 13), .inl (km_tape, 1600, .inl f_638)), (q_432, .inl (k_433, 5, .inl f_438))] := hD
    refine lv_aload_n hx hb dX12_feed_100 rfl (lv_at hl 2 rfl) ?_
    refine va_get (D := (dC, dI)) (ci := 12) (v := .int x_640) (C := RX12) (T := TX12) (N := 57) hx hb hts (fun w h => List.mem_cons_of_mem _ (jnGB_X12 w h)) hown hK hP 0 rfl rfl 26 (by decide) (hts _ (List.mem_cons_of_mem _ mGB_43)) (fun _ h9 => h9) rfl dX12_feed_101 ?_
    have hP := hP.sub (ws' := [(h0, .inr (12, fsMM (upd mi 26 x_640) mr)), ((mr 13), .inl (km_tape, 1600, .inl f_638))]) [0, 1] rfl
    have hD := hD.sub (ws' := [(h0, .inr (12, fsMM (upd mi 26 x_640) mr)), ((mr 13), .inl (km_tape, 1600, .inl f_638))]) [0, 1] (by decide) rfl
    refine W.widen (k := 1) (n := 5) (Nat.le_of_ble_eq_true rfl) (Nat.le_of_ble_eq_true rfl) ?_
    exact W.iret (v := x_640) hx hb hr (fun t ht hW => ⟨⟨x_640, (), rfl, ⟨(gi_w gx_640 (by decide)), (show ((1580 < (mi 26).toInt ∧ x_640.toInt = -1) ∨ ((mi 26).toInt ≤ 1580 ∧ x_640.toInt = (mi 26).toInt + 20)) from by have qgx_640 := gx_640.1; have rgx_640 := gx_640.2; have igx_640 : x_640.toInt = (mi 26).toInt + 20 := (by have hc20 : (20 : Int32).toInt = 20 := (by decide); have h9 := gi_addI ex_640 (by have h1 := g_431.1; have h2 := (gi_c 20 20 (by decide)).1; have h3 := g_431.2; have h4 := (gi_c 20 20 (by decide)).2; omega) (by have h1 := g_431.1; have h2 := (gi_c 20 20 (by decide)).1; have h3 := g_431.2; have h4 := (gi_c 20 20 (by decide)).2; omega); rw [hc20] at h9; exact h9); have qgmi_26 := g_431.1; have rgmi_26 := g_431.2; omega)⟩, x_640, f_638, (gi_w gx_640 (by decide)), (show ((1580 < (mi 26).toInt ∧ x_640.toInt = (mi 26).toInt) ∨ ((mi 26).toInt ≤ 1580 ∧ x_640.toInt = (mi 26).toInt + 20)) from by have qgx_640 := gx_640.1; have rgx_640 := gx_640.2; have igx_640 : x_640.toInt = (mi 26).toInt + 20 := (by have hc20 : (20 : Int32).toInt = 20 := (by decide); have h9 := gi_addI ex_640 (by have h1 := g_431.1; have h2 := (gi_c 20 20 (by decide)).1; have h3 := g_431.2; have h4 := (gi_c 20 20 (by decide)).2; omega) (by have h1 := g_431.1; have h2 := (gi_c 20 20 (by decide)).1; have h3 := g_431.2; have h4 := (gi_c 20 20 (by decide)).2; omega); rw [hc20] at h9; exact h9); have qgmi_26 := g_431.1; have rgmi_26 := g_431.2; omega), by rw [ht]; exact hP, hD⟩, hS.F ht⟩) hS.2.2 dX12_feed_104
  · have hc_641 : 1580 < (mi 26).toInt := by have h9 := Int32.lt_iff_toInt_lt.mp (Int32.not_le.mp c_429); rw [show (1580 : Int32).toInt = 1580 from by decide] at h9; exact h9
    have g_642 : gi (mi 26) 1581 1600 := gi_lt_r (Int32.not_le.mp c_429) (gi_c 1580 1580 (by decide)) gmi_26 (by decide)
    refine lv_iconst (v := (-1)) hx hb dX12_feed_10 (by decide) ?_
    refine W.widen (k := 1) (n := 5) (Nat.le_of_ble_eq_true rfl) (Nat.le_of_ble_eq_true rfl) ?_
    exact W.iret (v := (-1)) hx hb hr (fun t ht hW => ⟨⟨(-1), (), rfl, ⟨(gi_w (gi_c (-1) (-1) (by decide)) (by decide)), (show ((1580 < (mi 26).toInt ∧ ((-1) : Int32).toInt = -1) ∨ ((mi 26).toInt ≤ 1580 ∧ ((-1) : Int32).toInt = (mi 26).toInt + 20)) from by have km1 : ((-1) : Int32).toInt = (-1) := (by decide); have qgmi_26 := g_642.1; have rgmi_26 := g_642.2; omega)⟩, (mi 26), fm_tape, (gi_w g_642 (by decide)), (show ((1580 < (mi 26).toInt ∧ (mi 26).toInt = (mi 26).toInt) ∨ ((mi 26).toInt ≤ 1580 ∧ (mi 26).toInt = (mi 26).toInt + 20)) from by have qgmi_26 := g_642.1; have rgmi_26 := g_642.2; omega), by rw [ht]; exact hP, hD⟩, hS.F ht⟩) hS.2.2 dX12_feed_11
theorem dX12_moves_0 : decode cX12_moves 0 = .ok (.aload_n 0, 1) := by decide +kernel
theorem dX12_moves_1 : decode cX12_moves 1 = .ok (.getfield 106, 3) := by decide +kernel
theorem dX12_moves_4 : decode cX12_moves 4 = .ok (.ifCond .eq 7, 3) := by decide +kernel
theorem dX12_moves_7 : decode cX12_moves 7 = .ok (.iload_n 1, 1) := by decide +kernel
theorem dX12_moves_8 : decode cX12_moves 8 = .ok (.goto 12, 3) := by decide +kernel
theorem dX12_moves_11 : decode cX12_moves 11 = .ok (.aload_n 0, 1) := by decide +kernel
theorem dX12_moves_12 : decode cX12_moves 12 = .ok (.getfield 47, 3) := by decide +kernel
theorem dX12_moves_15 : decode cX12_moves 15 = .ok (.aload_n 0, 1) := by decide +kernel
theorem dX12_moves_16 : decode cX12_moves 16 = .ok (.getfield 110, 3) := by decide +kernel
theorem dX12_moves_19 : decode cX12_moves 19 = .ok (.iaload, 1) := by decide +kernel
theorem dX12_moves_20 : decode cX12_moves 20 = .ok (.istore_n 2, 1) := by decide +kernel
theorem dX12_moves_21 : decode cX12_moves 21 = .ok (.aload_n 0, 1) := by decide +kernel
theorem dX12_moves_22 : decode cX12_moves 22 = .ok (.getfield 47, 3) := by decide +kernel
theorem dX12_moves_25 : decode cX12_moves 25 = .ok (.aload_n 0, 1) := by decide +kernel
theorem dX12_moves_26 : decode cX12_moves 26 = .ok (.getfield 110, 3) := by decide +kernel
theorem dX12_moves_29 : decode cX12_moves 29 = .ok (.iload_n 2, 1) := by decide +kernel
theorem dX12_moves_30 : decode cX12_moves 30 = .ok (.iastore, 1) := by decide +kernel
theorem dX12_moves_31 : decode cX12_moves 31 = .ok (.aload_n 0, 1) := by decide +kernel
theorem dX12_moves_32 : decode cX12_moves 32 = .ok (.dup, 1) := by decide +kernel
theorem dX12_moves_33 : decode cX12_moves 33 = .ok (.getfield 110, 3) := by decide +kernel
theorem dX12_moves_36 : decode cX12_moves 36 = .ok (.iconst 1, 1) := by decide +kernel
theorem dX12_moves_37 : decode cX12_moves 37 = .ok (.iadd, 1) := by decide +kernel
theorem dX12_moves_38 : decode cX12_moves 38 = .ok (.putfield 110, 3) := by decide +kernel
theorem dX12_moves_41 : decode cX12_moves 41 = .ok (.iload_n 2, 1) := by decide +kernel
theorem dX12_moves_42 : decode cX12_moves 42 = .ok (.ireturn, 1) := by decide +kernel
set_option maxHeartbeats 4000000 in
set_option maxRecDepth 100000 in
theorem sX12_movesK (l : Launch) (dC : Nat → ClassId) (dI : Nat → Nat → Nat) (sz : Nat) (h0 : Nat) (mi : Nat → Int32) (mr : Nat → Nat) (km_kept : ClassId) (fm_kept : Nat → Int32) (p1 : Int32) (gmi_0 : gi (mi 0) 0 100000) (gmi_1 : gi (mi 1) 0 100000) (gmi_2 : gi (mi 2) 0 100000) (gmi_4 : gi (mi 4) 0 1) (gmi_7 : gi (mi 7) 0 6) (gmi_10 : gi (mi 10) 0 24) (gmi_17 : gi (mi 17) 0 8) (gmi_23 : gi (mi 23) 0 300) (gmi_24 : gi (mi 24) 0 1) (gmi_26 : gi (mi 26) 0 1600) (gmi_29 : gi (mi 29) 0 1600) (gmi_30 : gi (mi 30) 0 1600) (gmi_32 : gi (mi 32) 0 100000) (gmi_33 : gi (mi 33) 0 1) (gmi_37 : gi (mi 37) 0 1) (gmi_41 : gi (mi 41) 0 24) (gmi_50 : gi (mi 50) 0 1) (gmi_51 : gi (mi 51) 0 1) (gmi_56 : gi (mi 56) 0 80) (hpq0 : 1 ≤ (mi 24).toInt) (hpq1 : (mi 23).toInt ≤ 299) : Met l yX12_moves (.code yX12_moves cX12_moves 3 (some .int) :: wsGB) ({ frames := 0, cells := 0, slots := 0, locals := 0 }) (va_Pc [.ref h0, .int p1] (fun U => U.heap.size = sz ∧ va_P (dC, dI) vwCl [(h0, .inr (12, fsMM mi mr)), ((mr 12), .inl (km_kept, 300, .inl fm_kept))] U.heap ∧ va_K (dC, dI) vwCl [(km_kept, .int)] U ∧ va_D (fun _ => True) [(h0, .inr (12, fsMM mi mr)), ((mr 12), .inl (km_kept, 300, .inl fm_kept))])) (va_Qi (fun (r : Int32) (u : Int32) => r = u ∧ gi r (-2147483648) 2147483647) (fun r t => ∃ (w0_23 : Int32) (z1 : Nat → Int32), gi w0_23 0 300 ∧ w0_23.toInt = (mi 23).toInt + 1 ∧ z1 = upd fm_kept (mi 23).toNatClampNeg p1 ∧ r = p1 ∧ va_P (dC, dI) vwCl [(h0, .inr (12, fsMM (upd mi 23 w0_23) mr)), ((mr 12), .inl (km_kept, 300, .inl z1))] t.heap ∧ va_D (va_A [(h0, .inr (12, fsMM mi mr)), ((mr 12), .inl (km_kept, 300, .inl fm_kept))] sz) [(h0, .inr (12, fsMM (upd mi 23 w0_23) mr)), ((mr 12), .inl (km_kept, 300, .inl z1))]) (va_A [(h0, .inr (12, fsMM mi mr)), ((mr 12), .inl (km_kept, 300, .inl fm_kept))] sz)) 0 0 (va_A [(h0, .inr (12, fsMM mi mr)), ((mr 12), .inl (km_kept, 300, .inl fm_kept))] sz) := by
  refine Met.ofW (cc := cX12_moves) (maxL := 3) (ret := (some .int)) (by decide) rfl ?_
  intro p e s m args below meth c s₁ B hml hv
  obtain ⟨rfl, hsz, hP, hK, hD0⟩ := hv
  have hx := B.exec
  have hb := B.bytes
  have hr := B.returns
  have hts := atoms_spec (ws := (.code yX12_moves cX12_moves 3 (some .int) :: wsGB)) B.pre
  have hown : s.vm.findClass RX12 = some m.cls := findClass_of_methodNamed B.named
  have hlocks := B.notSynchronized
  subst hsz
  have hD := hD0.self (sz := s.heap.size)
  generalize hAe : va_A [(h0, .inr (12, fsMM mi mr)), ((mr 12), .inl (km_kept, 300, .inl fm_kept))] s.heap.size = A at hD ⊢
  have hA : ∀ q : Nat, s.heap.size ≤ q → A q := fun q h => by rw [← hAe]; exact Or.inr h
  have hS : va_S A s.heap s.heap [] := va_S.rf
  have hl := lv_entry ([.ref h0, .int p1]) (n := 3) (Nat.le_of_ble_eq_true rfl)
  rw [lg_entry_eq]
  generalize (lg_sl ([.ref h0, .int p1]) ++ List.replicate (3 - (lg_sl ([.ref h0, .int p1])).length) Slot.unset).toArray = ls at hl ⊢
  have hl : lv_has ls 3 [(0, .ref h0), (1, .int p1)] := hl
  have g_11 : gi (mi 24) 1 1 := ⟨by omega, gmi_24.2⟩
  have g_12 : gi (mi 23) 0 299 := ⟨gmi_23.1, by omega⟩
  refine lv_aload_n hx hb dX12_moves_0 rfl (lv_at hl 0 rfl) ?_
  refine va_get (D := (dC, dI)) (ci := 12) (v := .int (mi 24)) (C := RX12) (T := TX12) (N := 57) hx hb hts (fun w h => List.mem_cons_of_mem _ (jnGB_X12 w h)) hown hK hP 0 rfl rfl 24 (by decide) (hts _ (List.mem_cons_of_mem _ mGB_121)) (fun _ h9 => h9) rfl dX12_moves_1 ?_
  refine lv_if_eq (tgt := 11) hx hb dX12_moves_4 (by decide) (fun c_13 => absurd c_13 (gi_no_eq g_11 (gi_c 0 0 (by decide)) (by decide))) (fun c_13 => ?_)
  refine lv_iload_n hx hb dX12_moves_7 rfl (lv_at hl 1 rfl) ?_
  refine lv_goto (tgt := 20) hx hb dX12_moves_8 (by decide) ?_
  refine lv_istore_n (lv' := [(2, .int p1), (0, .ref h0), (1, .int p1)]) hx hb dX12_moves_20 rfl hl (by decide) rfl (fun ls hl => ?_)
  refine lv_aload_n hx hb dX12_moves_21 rfl (lv_at hl 1 rfl) ?_
  refine va_get (D := (dC, dI)) (ci := 12) (v := .ref (mr 12)) (C := RX12) (T := TX12) (N := 57) hx hb hts (fun w h => List.mem_cons_of_mem _ (jnGB_X12 w h)) hown hK hP 0 rfl rfl 22 (by decide) (hts _ (List.mem_cons_of_mem _ mGB_23)) (fun _ h9 => h9) rfl dX12_moves_22 ?_
  refine lv_aload_n hx hb dX12_moves_25 rfl (lv_at hl 1 rfl) ?_
  refine va_get (D := (dC, dI)) (ci := 12) (v := .int (mi 23)) (C := RX12) (T := TX12) (N := 57) hx hb hts (fun w h => List.mem_cons_of_mem _ (jnGB_X12 w h)) hown hK hP 0 rfl rfl 23 (by decide) (hts _ (List.mem_cons_of_mem _ mGB_122)) (fun _ h9 => h9) rfl dX12_moves_26 ?_
  refine lv_iload_n hx hb dX12_moves_29 rfl (lv_at hl 0 rfl) ?_
  refine va_iast hx hb hK hP hD hS 1 0 rfl rfl (gi_in g_12 (by decide)) dX12_moves_30 (fun H locs hP hD hS => ?_)
  have hP : va_P (dC, dI) vwCl [(h0, .inr (12, fsMM mi mr)), ((mr 12), .inl (km_kept, 300, .inl (upd fm_kept ((mi 23) : Int32).toNatClampNeg p1)))] H := hP
  have hD : va_D A [(h0, .inr (12, fsMM mi mr)), ((mr 12), .inl (km_kept, 300, .inl (upd fm_kept ((mi 23) : Int32).toNatClampNeg p1)))] := hD
  obtain ⟨f_14, ef_14⟩ : ∃ f9, upd fm_kept ((mi 23) : Int32).toNatClampNeg p1 = f9 := ⟨_, rfl⟩
  rw [ef_14] at hP hD
  refine lv_aload_n hx hb dX12_moves_31 rfl (lv_at hl 1 rfl) ?_
  refine lv_dup hx hb dX12_moves_32 rfl ?_
  refine va_get (D := (dC, dI)) (ci := 12) (v := .int (mi 23)) (C := RX12) (T := TX12) (N := 57) hx hb hts (fun w h => List.mem_cons_of_mem _ (jnGB_X12 w h)) hown hK hP 0 rfl rfl 23 (by decide) (hts _ (List.mem_cons_of_mem _ mGB_122)) (fun _ h9 => h9) rfl dX12_moves_33 ?_
  refine lv_iconst (v := 1) hx hb dX12_moves_36 (by decide) ?_
  refine lv_iadd hx hb dX12_moves_37 ?_
  refine lv_topi (fun x_15 ex_15 => ?_)
  have gx_15 : gi x_15 1 300 := gi_add ex_15 g_12 (gi_c 1 1 (by decide)) (by decide)
  refine va_put (D := (dC, dI)) (ci := 12) (v := .int x_15) (ty := .int) (C := RX12) (T := TX12) (N := 57) hx hb hts (fun w h => List.mem_cons_of_mem _ (jnGB_X12 w h)) tyX12 tyX12_ok nmX12 hown hK hP hD hS 0 rfl rfl 23 (by decide) (hts _ (List.mem_cons_of_mem _ mGB_122)) (fun _ h9 => h9) rfl (by decide +kernel) rfl rfl (Nat.le_of_ble_eq_true rfl) dX12_moves_38 (fun H locs hP hD hS => ?_)
  have hP : va_P (dC, dI) vwCl [(h0, .inr (12, fsMM (upd mi 23 x_15) mr)), ((mr 12), .inl (km_kept, 300, .inl f_14))] H := hP
  have hD : va_D A [(h0, .inr (12, fsMM (upd mi 23 x_15) mr)), ((mr 12), .inl (km_kept, 300, .inl f_14))] := hD
  refine lv_iload_n hx hb dX12_moves_41 rfl (lv_at hl 0 rfl) ?_
  exact W.iret (v := p1) hx hb hr (fun t ht hW => ⟨⟨p1, p1, rfl, ⟨rfl, (gi_any p1)⟩, x_15, f_14, (gi_w gx_15 (by decide)), (show x_15.toInt = (mi 23).toInt + 1 from by have qgx_15 := gx_15.1; have rgx_15 := gx_15.2; have igx_15 : x_15.toInt = (mi 23).toInt + 1 := (by have hc1 : (1 : Int32).toInt = 1 := (by decide); have h9 := gi_addI ex_15 (by have h1 := g_12.1; have h2 := (gi_c 1 1 (by decide)).1; have h3 := g_12.2; have h4 := (gi_c 1 1 (by decide)).2; omega) (by have h1 := g_12.1; have h2 := (gi_c 1 1 (by decide)).1; have h3 := g_12.2; have h4 := (gi_c 1 1 (by decide)).2; omega); rw [hc1] at h9; exact h9); have qgmi_23 := g_12.1; have rgmi_23 := g_12.2; have qgmi_24 := g_11.1; have rgmi_24 := g_11.2; omega), (show f_14 = upd fm_kept (mi 23).toNatClampNeg p1 from by exact ef_14.symm), (show p1 = p1 from by rfl), by rw [ht]; exact hP, hD⟩, hS.F ht⟩) hS.2.2 dX12_moves_42
set_option maxHeartbeats 4000000 in
set_option maxRecDepth 100000 in
theorem sX12_movesR (l : Launch) (dC : Nat → ClassId) (dI : Nat → Nat → Nat) (sz : Nat) (h0 : Nat) (mi : Nat → Int32) (mr : Nat → Nat) (km_kept : ClassId) (fm_kept : Nat → Int32) (p1 : Int32) (gmi_0 : gi (mi 0) 0 100000) (gmi_1 : gi (mi 1) 0 100000) (gmi_2 : gi (mi 2) 0 100000) (gmi_4 : gi (mi 4) 0 1) (gmi_7 : gi (mi 7) 0 6) (gmi_10 : gi (mi 10) 0 24) (gmi_17 : gi (mi 17) 0 8) (gmi_23 : gi (mi 23) 0 300) (gmi_24 : gi (mi 24) 0 1) (gmi_26 : gi (mi 26) 0 1600) (gmi_29 : gi (mi 29) 0 1600) (gmi_30 : gi (mi 30) 0 1600) (gmi_32 : gi (mi 32) 0 100000) (gmi_33 : gi (mi 33) 0 1) (gmi_37 : gi (mi 37) 0 1) (gmi_41 : gi (mi 41) 0 24) (gmi_50 : gi (mi 50) 0 1) (gmi_51 : gi (mi 51) 0 1) (gmi_56 : gi (mi 56) 0 80) (hpq0 : (mi 24).toInt ≤ 0) (hpq1 : (mi 23).toInt ≤ 299) : Met l yX12_moves (.code yX12_moves cX12_moves 3 (some .int) :: wsGB) ({ frames := 0, cells := 0, slots := 0, locals := 0 }) (va_Pc [.ref h0, .int p1] (fun U => U.heap.size = sz ∧ va_P (dC, dI) vwCl [(h0, .inr (12, fsMM mi mr)), ((mr 12), .inl (km_kept, 300, .inl fm_kept))] U.heap ∧ va_K (dC, dI) vwCl [(km_kept, .int)] U ∧ va_D (fun _ => True) [(h0, .inr (12, fsMM mi mr)), ((mr 12), .inl (km_kept, 300, .inl fm_kept))])) (va_Qi (fun (r : Int32) (u : Int32) => r = u ∧ gi r (-2147483648) 2147483647) (fun r t => ∃ (w0_23 : Int32) (z1 : Nat → Int32), gi w0_23 0 300 ∧ w0_23.toInt = (mi 23).toInt + 1 ∧ z1 = fm_kept ∧ r = fm_kept (mi 23).toNatClampNeg ∧ va_P (dC, dI) vwCl [(h0, .inr (12, fsMM (upd mi 23 w0_23) mr)), ((mr 12), .inl (km_kept, 300, .inl z1))] t.heap ∧ va_D (va_A [(h0, .inr (12, fsMM mi mr)), ((mr 12), .inl (km_kept, 300, .inl fm_kept))] sz) [(h0, .inr (12, fsMM (upd mi 23 w0_23) mr)), ((mr 12), .inl (km_kept, 300, .inl z1))]) (va_A [(h0, .inr (12, fsMM mi mr)), ((mr 12), .inl (km_kept, 300, .inl fm_kept))] sz)) 0 0 (va_A [(h0, .inr (12, fsMM mi mr)), ((mr 12), .inl (km_kept, 300, .inl fm_kept))] sz) := by
  refine Met.ofW (cc := cX12_moves) (maxL := 3) (ret := (some .int)) (by decide) rfl ?_
  intro p e s m args below meth c s₁ B hml hv
  obtain ⟨rfl, hsz, hP, hK, hD0⟩ := hv
  have hx := B.exec
  have hb := B.bytes
  have hr := B.returns
  have hts := atoms_spec (ws := (.code yX12_moves cX12_moves 3 (some .int) :: wsGB)) B.pre
  have hown : s.vm.findClass RX12 = some m.cls := findClass_of_methodNamed B.named
  have hlocks := B.notSynchronized
  subst hsz
  have hD := hD0.self (sz := s.heap.size)
  generalize hAe : va_A [(h0, .inr (12, fsMM mi mr)), ((mr 12), .inl (km_kept, 300, .inl fm_kept))] s.heap.size = A at hD ⊢
  have hA : ∀ q : Nat, s.heap.size ≤ q → A q := fun q h => by rw [← hAe]; exact Or.inr h
  have hS : va_S A s.heap s.heap [] := va_S.rf
  have hl := lv_entry ([.ref h0, .int p1]) (n := 3) (Nat.le_of_ble_eq_true rfl)
  rw [lg_entry_eq]
  generalize (lg_sl ([.ref h0, .int p1]) ++ List.replicate (3 - (lg_sl ([.ref h0, .int p1])).length) Slot.unset).toArray = ls at hl ⊢
  have hl : lv_has ls 3 [(0, .ref h0), (1, .int p1)] := hl
  have g_13 : gi (mi 24) 0 0 := ⟨gmi_24.1, by omega⟩
  have g_14 : gi (mi 23) 0 299 := ⟨gmi_23.1, by omega⟩
  refine lv_aload_n hx hb dX12_moves_0 rfl (lv_at hl 0 rfl) ?_
  refine va_get (D := (dC, dI)) (ci := 12) (v := .int (mi 24)) (C := RX12) (T := TX12) (N := 57) hx hb hts (fun w h => List.mem_cons_of_mem _ (jnGB_X12 w h)) hown hK hP 0 rfl rfl 24 (by decide) (hts _ (List.mem_cons_of_mem _ mGB_121)) (fun _ h9 => h9) rfl dX12_moves_1 ?_
  refine lv_if_eq (tgt := 11) hx hb dX12_moves_4 (by decide) (fun c_15 => ?_) (fun c_15 => absurd (gi_is_eq g_13 (gi_c 0 0 (by decide))) c_15)
  refine lv_aload_n hx hb dX12_moves_11 rfl (lv_at hl 0 rfl) ?_
  refine va_get (D := (dC, dI)) (ci := 12) (v := .ref (mr 12)) (C := RX12) (T := TX12) (N := 57) hx hb hts (fun w h => List.mem_cons_of_mem _ (jnGB_X12 w h)) hown hK hP 0 rfl rfl 22 (by decide) (hts _ (List.mem_cons_of_mem _ mGB_23)) (fun _ h9 => h9) rfl dX12_moves_12 ?_
  refine lv_aload_n hx hb dX12_moves_15 rfl (lv_at hl 0 rfl) ?_
  refine va_get (D := (dC, dI)) (ci := 12) (v := .int (mi 23)) (C := RX12) (T := TX12) (N := 57) hx hb hts (fun w h => List.mem_cons_of_mem _ (jnGB_X12 w h)) hown hK hP 0 rfl rfl 23 (by decide) (hts _ (List.mem_cons_of_mem _ mGB_122)) (fun _ h9 => h9) rfl dX12_moves_16 ?_
  refine va_iald hx hb hK hP 1 0 rfl rfl (gi_in g_14 (by decide)) dX12_moves_19 ?_
  refine lv_topi (fun x_16 ex_16 => ?_)
  have hlx_16 : x_16.toInt = (fm_kept (mi 23).toNatClampNeg).toInt := congrArg Int32.toInt ex_16
  refine lv_istore_n (lv' := [(2, .int x_16), (0, .ref h0), (1, .int p1)]) hx hb dX12_moves_20 rfl hl (by decide) rfl (fun ls hl => ?_)
  refine lv_aload_n hx hb dX12_moves_21 rfl (lv_at hl 1 rfl) ?_
  refine va_get (D := (dC, dI)) (ci := 12) (v := .ref (mr 12)) (C := RX12) (T := TX12) (N := 57) hx hb hts (fun w h => List.mem_cons_of_mem _ (jnGB_X12 w h)) hown hK hP 0 rfl rfl 22 (by decide) (hts _ (List.mem_cons_of_mem _ mGB_23)) (fun _ h9 => h9) rfl dX12_moves_22 ?_
  refine lv_aload_n hx hb dX12_moves_25 rfl (lv_at hl 1 rfl) ?_
  refine va_get (D := (dC, dI)) (ci := 12) (v := .int (mi 23)) (C := RX12) (T := TX12) (N := 57) hx hb hts (fun w h => List.mem_cons_of_mem _ (jnGB_X12 w h)) hown hK hP 0 rfl rfl 23 (by decide) (hts _ (List.mem_cons_of_mem _ mGB_122)) (fun _ h9 => h9) rfl dX12_moves_26 ?_
  refine lv_iload_n hx hb dX12_moves_29 rfl (lv_at hl 0 rfl) ?_
  refine va_iast hx hb hK hP hD hS 1 0 rfl rfl (gi_in g_14 (by decide)) dX12_moves_30 (fun H locs hP hD hS => ?_)
  have hP : va_P (dC, dI) vwCl [(h0, .inr (12, fsMM mi mr)), ((mr 12), .inl (km_kept, 300, .inl (upd fm_kept ((mi 23) : Int32).toNatClampNeg x_16)))] H := hP
  have hD : va_D A [(h0, .inr (12, fsMM mi mr)), ((mr 12), .inl (km_kept, 300, .inl (upd fm_kept ((mi 23) : Int32).toNatClampNeg x_16)))] := hD
  obtain ⟨f_17, ef_17⟩ : ∃ f9, upd fm_kept ((mi 23) : Int32).toNatClampNeg x_16 = f9 := ⟨_, rfl⟩
  rw [ef_17] at hP hD
  refine lv_aload_n hx hb dX12_moves_31 rfl (lv_at hl 1 rfl) ?_
  refine lv_dup hx hb dX12_moves_32 rfl ?_
  refine va_get (D := (dC, dI)) (ci := 12) (v := .int (mi 23)) (C := RX12) (T := TX12) (N := 57) hx hb hts (fun w h => List.mem_cons_of_mem _ (jnGB_X12 w h)) hown hK hP 0 rfl rfl 23 (by decide) (hts _ (List.mem_cons_of_mem _ mGB_122)) (fun _ h9 => h9) rfl dX12_moves_33 ?_
  refine lv_iconst (v := 1) hx hb dX12_moves_36 (by decide) ?_
  refine lv_iadd hx hb dX12_moves_37 ?_
  refine lv_topi (fun x_18 ex_18 => ?_)
  have gx_18 : gi x_18 1 300 := gi_add ex_18 g_14 (gi_c 1 1 (by decide)) (by decide)
  refine va_put (D := (dC, dI)) (ci := 12) (v := .int x_18) (ty := .int) (C := RX12) (T := TX12) (N := 57) hx hb hts (fun w h => List.mem_cons_of_mem _ (jnGB_X12 w h)) tyX12 tyX12_ok nmX12 hown hK hP hD hS 0 rfl rfl 23 (by decide) (hts _ (List.mem_cons_of_mem _ mGB_122)) (fun _ h9 => h9) rfl (by decide +kernel) rfl rfl (Nat.le_of_ble_eq_true rfl) dX12_moves_38 (fun H locs hP hD hS => ?_)
  have hP : va_P (dC, dI) vwCl [(h0, .inr (12, fsMM (upd mi 23 x_18) mr)), ((mr 12), .inl (km_kept, 300, .inl f_17))] H := hP
  have hD : va_D A [(h0, .inr (12, fsMM (upd mi 23 x_18) mr)), ((mr 12), .inl (km_kept, 300, .inl f_17))] := hD
  refine lv_iload_n hx hb dX12_moves_41 rfl (lv_at hl 0 rfl) ?_
  exact W.iret (v := x_16) hx hb hr (fun t ht hW => ⟨⟨x_16, x_16, rfl, ⟨rfl, (gi_any x_16)⟩, x_18, f_17, (gi_w gx_18 (by decide)), (show x_18.toInt = (mi 23).toInt + 1 from by have qgx_18 := gx_18.1; have rgx_18 := gx_18.2; have igx_18 : x_18.toInt = (mi 23).toInt + 1 := (by have hc1 : (1 : Int32).toInt = 1 := (by decide); have h9 := gi_addI ex_18 (by have h1 := g_14.1; have h2 := (gi_c 1 1 (by decide)).1; have h3 := g_14.2; have h4 := (gi_c 1 1 (by decide)).2; omega) (by have h1 := g_14.1; have h2 := (gi_c 1 1 (by decide)).1; have h3 := g_14.2; have h4 := (gi_c 1 1 (by decide)).2; omega); rw [hc1] at h9; exact h9); have qgmi_23 := g_14.1; have rgmi_23 := g_14.2; have qgmi_24 := g_13.1; have rgmi_24 := g_13.2; omega), (show f_17 = fm_kept from by rw [← ef_17, ex_16]; exact upd_self _ _), (show x_16 = fm_kept (mi 23).toNatClampNeg from by exact ex_16), by rw [ht]; exact hP, hD⟩, hS.F ht⟩) hS.2.2 dX12_moves_42
theorem dX12_movesRow_0 : decode cX12_movesRow 0 = .ok (.iconst 0, 1) := by decide +kernel
theorem dX12_movesRow_1 : decode cX12_movesRow 1 = .ok (.istore_n 2, 1) := by decide +kernel
theorem dX12_movesRow_2 : decode cX12_movesRow 2 = .ok (.iload_n 2, 1) := by decide +kernel
theorem dX12_movesRow_3 : decode cX12_movesRow 3 = .ok (.aload_n 1, 1) := by decide +kernel
theorem dX12_movesRow_4 : decode cX12_movesRow 4 = .ok (.arraylength, 1) := by decide +kernel
theorem dX12_movesRow_5 : decode cX12_movesRow 5 = .ok (.if_icmp .ge 19, 3) := by decide +kernel
theorem dX12_movesRow_8 : decode cX12_movesRow 8 = .ok (.aload_n 1, 1) := by decide +kernel
theorem dX12_movesRow_9 : decode cX12_movesRow 9 = .ok (.iload_n 2, 1) := by decide +kernel
theorem dX12_movesRow_10 : decode cX12_movesRow 10 = .ok (.aload_n 0, 1) := by decide +kernel
theorem dX12_movesRow_11 : decode cX12_movesRow 11 = .ok (.aload_n 1, 1) := by decide +kernel
theorem dX12_movesRow_12 : decode cX12_movesRow 12 = .ok (.iload_n 2, 1) := by decide +kernel
theorem dX12_movesRow_13 : decode cX12_movesRow 13 = .ok (.iaload, 1) := by decide +kernel
theorem dX12_movesRow_14 : decode cX12_movesRow 14 = .ok (.invokevirtual 113, 3) := by decide +kernel
theorem dX12_movesRow_17 : decode cX12_movesRow 17 = .ok (.iastore, 1) := by decide +kernel
theorem dX12_movesRow_18 : decode cX12_movesRow 18 = .ok (.iinc 2 1, 3) := by decide +kernel
theorem dX12_movesRow_21 : decode cX12_movesRow 21 = .ok (.goto (-19), 3) := by decide +kernel
theorem dX12_movesRow_24 : decode cX12_movesRow 24 = .ok (.return_, 1) := by decide +kernel
set_option maxHeartbeats 4000000 in
set_option maxRecDepth 100000 in
theorem lp_sX12_movesRowK6 {p : Program} {l : Launch} {e : Env} {R : Room} {s : State} {m : MethodId} {args : Array Value} {below : List Frame} {meth : Method} {c : Code} {Q : State → Prop} {A : Nat → Prop} {cells slots : Nat} {dC : Nat → ClassId} {dI : Nat → Nat → Nat} (h0 : Nat) (rw : Nat) (mi : Nat → Int32) (mr : Nat → Nat) (km_kept : ClassId) (fm_kept : Nat → Int32) (krw : ClassId) (frw : Nat → Int32) (gmi_0 : gi (mi 0) 0 100000) (gmi_1 : gi (mi 1) 0 100000) (gmi_2 : gi (mi 2) 0 100000) (gmi_4 : gi (mi 4) 0 1) (gmi_7 : gi (mi 7) 0 6) (gmi_10 : gi (mi 10) 0 24) (gmi_17 : gi (mi 17) 0 8) (gmi_23 : gi (mi 23) 0 300) (gmi_24 : gi (mi 24) 0 1) (gmi_26 : gi (mi 26) 0 1600) (gmi_29 : gi (mi 29) 0 1600) (gmi_30 : gi (mi 30) 0 1600) (gmi_32 : gi (mi 32) 0 100000) (gmi_33 : gi (mi 33) 0 1) (gmi_37 : gi (mi 37) 0 1) (gmi_41 : gi (mi 41) 0 24) (gmi_50 : gi (mi 50) 0 1) (gmi_51 : gi (mi 51) 0 1) (gmi_56 : gi (mi 56) 0 80) (hpq0 : (mi 24).toInt = 1) (hpq1 : (mi 23).toInt ≤ 294) (hx : p.tables.exec = Jvm.exec) (hb : c.code = cX12_movesRow) (hml : c.maxLocals = 3) (hown : s.vm.findClass RX12 = some m.cls) (hts : ∀ w ∈ ((.code yX12_movesRow cX12_movesRow 3 none :: wsGB) : List Cond), w.before args s = true) (hK : va_K (dC, dI) vwCl [(km_kept, .int), (krw, .int)] s) (hA : ∀ q : Nat, s.heap.size ≤ q → A q) (hRf : 1 ≤ R.frames) (hRl : 22 ≤ R.locals) (hRc : cells ≤ R.cells) (hRs : slots ≤ R.slots) (kr24 : ∀ (w0_23 : Int32) (z1 : Nat → Int32) (z2 : Nat → Int32) (H : Heap) (locs : List Loc) (ls : Array Slot), gi w0_23 0 300 → w0_23.toInt = (mi 23).toInt + 6 → z2 = frw → (∀ j : Nat, (j : Int) < 6 → z1 ((mi 23).toNatClampNeg + j) = frw j) → (∀ j : Nat, j < (mi 23).toNatClampNeg → z1 j = fm_kept j) → va_P (dC, dI) vwCl [(h0, .inr (12, fsMM (upd mi 23 w0_23) mr)), ((mr 12), .inl (km_kept, 300, .inl z1)), (rw, .inl (krw, 6, .inl z2))] H → va_D A [(h0, .inr (12, fsMM (upd mi 23 w0_23) mr)), ((mr 12), .inl (km_kept, 300, .inl z1)), (rw, .inl (krw, 6, .inl z2))] → va_S A s.heap H locs → lv_has ls 3 [] → W p l e R s m args below meth c H locs cells slots Q (F0 m 24 ls [])) : ∀ z : Nat, (∀ (v2 : Int32) (w0_23 : Int32) (z1 : Nat → Int32) (z2 : Nat → Int32) (H : Heap) (locs : List Loc) (ls : Array Slot), gi v2 0 6 → gi w0_23 0 300 → w0_23.toInt = (mi 23).toInt + v2.toInt → z2 = frw → (∀ j : Nat, (j : Int) < v2.toInt → z1 ((mi 23).toNatClampNeg + j) = frw j) → (∀ j : Nat, j < (mi 23).toNatClampNeg → z1 j = fm_kept j) → 13 + (-2) * v2.toInt < (z : Int) → va_P (dC, dI) vwCl [(h0, .inr (12, fsMM (upd mi 23 w0_23) mr)), ((mr 12), .inl (km_kept, 300, .inl z1)), (rw, .inl (krw, 6, .inl z2))] H → va_D A [(h0, .inr (12, fsMM (upd mi 23 w0_23) mr)), ((mr 12), .inl (km_kept, 300, .inl z1)), (rw, .inl (krw, 6, .inl z2))] → va_S A s.heap H locs → lv_has ls 3 [(0, .ref h0), (1, .ref rw), (2, .int v2)] → W p l e R s m args below meth c H locs cells slots Q (F0 m 2 ls [])) := by
  intro z
  induction z with
  | zero =>
    intro v2 w0_23 z1 z2 H locs ls gv2 gw0_23 hinv0 hinv1 hinv2 hinv3 hmu hP hD hS hl
    exact absurd hmu (by have hv21 := gv2.1; have hv22 := gv2.2; omega)
  | succ z ih =>
      intro v2 w0_23 z1 z2 H locs ls gv2 gw0_23 hinv0 hinv1 hinv2 hinv3 hmu hP hD hS hl
      have g_74 : gi (mi 23) 0 294 := ⟨gmi_23.1, by omega⟩
      refine lv_iload_n hx hb dX12_movesRow_2 rfl (lv_at hl 2 rfl) ?_
      refine lv_aload_n hx hb dX12_movesRow_3 rfl (lv_at hl 1 rfl) ?_
      refine va_alen (v := 6) hx hb hK hP 2 1 rfl rfl rfl dX12_movesRow_4 ?_
      refine lv_icmp_ge (tgt := 24) hx hb dX12_movesRow_5 (by decide) (fun c_75 => ?_) (fun c_75 => ?_)
      · have hc_76 : 6 ≤ v2.toInt := by have h9 := Int32.le_iff_toInt_le.mp c_75; rw [show (6 : Int32).toInt = 6 from by decide] at h9; exact h9
        have g_77 : gi v2 6 6 := gi_le_r c_75 (gi_c 6 6 (by decide)) gv2
        exact kr24 w0_23 z1 z2 _ _ _ gw0_23 (show w0_23.toInt = (mi 23).toInt + 6 from by have qgw0_23 := gw0_23.1; have rgw0_23 := gw0_23.2; have qgv2 := g_77.1; have rgv2 := g_77.2; have qgmi_24 := gmi_24.1; have rgmi_24 := gmi_24.2; have qgmi_23 := g_74.1; have rgmi_23 := g_74.2; omega) (show z2 = frw from by exact hinv1) (show ∀ j : Nat, (j : Int) < 6 → z1 ((mi 23).toNatClampNeg + j) = frw j from by exact fun j hj => hinv2 j (by have qgw0_23 := gw0_23.1; have rgw0_23 := gw0_23.2; have qgv2 := g_77.1; have rgv2 := g_77.2; have qgmi_24 := gmi_24.1; have rgmi_24 := gmi_24.2; have qgmi_23 := g_74.1; have rgmi_23 := g_74.2; omega)) (show ∀ j : Nat, j < (mi 23).toNatClampNeg → z1 j = fm_kept j from by exact hinv3) hP hD hS (lv_sub hl [] rfl)
      · have hc_78 : v2.toInt < 6 := by have h9 := Int32.lt_iff_toInt_lt.mp (Int32.not_le.mp c_75); rw [show (6 : Int32).toInt = 6 from by decide] at h9; exact h9
        have g_79 : gi v2 0 5 := gi_lt_l (Int32.not_le.mp c_75) gv2 (gi_c 6 6 (by decide)) (by decide)
        refine lv_aload_n hx hb dX12_movesRow_8 rfl (lv_at hl 1 rfl) ?_
        refine lv_iload_n hx hb dX12_movesRow_9 rfl (lv_at hl 2 rfl) ?_
        refine lv_aload_n hx hb dX12_movesRow_10 rfl (lv_at hl 0 rfl) ?_
        refine lv_aload_n hx hb dX12_movesRow_11 rfl (lv_at hl 1 rfl) ?_
        refine lv_iload_n hx hb dX12_movesRow_12 rfl (lv_at hl 2 rfl) ?_
        refine va_iald hx hb hK hP 2 1 rfl rfl (gi_in g_79 (by decide)) dX12_movesRow_13 ?_
        refine lv_topi (fun x_80 ex_80 => ?_)
        have hlx_80 : x_80.toInt = (z2 v2.toNatClampNeg).toInt := congrArg Int32.toInt ex_80
        have hPc := hP.sub (ws' := [(h0, .inr (12, fsMM (upd mi 23 w0_23) mr)), ((mr 12), .inl (km_kept, 300, .inl z1))]) [0, 1] rfl
        have hKc := hK.sub (tys' := [(km_kept, .int)]) [0] rfl
        have hDc := hD.sub (ws' := [(h0, .inr (12, fsMM (upd mi 23 w0_23) mr)), ((mr 12), .inl (km_kept, 300, .inl z1))]) [0, 1] (by decide) rfl
        have hFc := va_free (wc := [(h0, .inr (12, fsMM (upd mi 23 w0_23) mr)), ((mr 12), .inl (km_kept, 300, .inl z1))]) hD hS hA [0, 1] rfl
        refine va_calli (va_runV (As := [.int x_80]) (rest := [.int v2, .ref rw]) ⟨hx, hb, hml, hown, hts⟩ (sX12_movesK l dC dI H.size h0 (upd mi 23 w0_23) mr km_kept z1 x_80 gmi_0 gmi_1 gmi_2 gmi_4 gmi_7 gmi_10 gmi_17 gw0_23 gmi_24 gmi_26 gmi_29 gmi_30 gmi_32 gmi_33 gmi_37 gmi_41 gmi_50 gmi_51 gmi_56 (show 1 ≤ (mi 24).toInt from by have qgw0_23 := gw0_23.1; have rgw0_23 := gw0_23.2; have qgv2 := g_79.1; have rgv2 := g_79.2; have qgmi_24 := gmi_24.1; have rgmi_24 := gmi_24.2; have qgmi_23 := g_74.1; have rgmi_23 := g_74.2; omega) (show w0_23.toInt ≤ 299 from by have qgw0_23 := gw0_23.1; have rgw0_23 := gw0_23.2; have qgv2 := g_79.1; have rgv2 := g_79.2; have qgmi_24 := gmi_24.1; have rgmi_24 := gmi_24.2; have qgmi_23 := g_74.1; have rgmi_23 := g_74.2; omega)) (cwV 1 hts (gz_gV mGB_123 mGB_124 mGB_125 mGB_1 mGB_126 goodGB) rfl rfl rfl (by decide +kernel) ⟨Nat.le_trans (Nat.le_of_ble_eq_true rfl) hRf, Nat.le_trans (Nat.le_of_ble_eq_true rfl) hRl⟩) ⟨fun a U g mk q => by obtain ⟨q0, q1, qP, qK, qD⟩ := q; exact ⟨q0, q1, qP, va_K.moved (u := U) (U := U.calling g mk a) (Vm.Alike.refl U.vm) qK, qD⟩, va_recv hKc hPc (ci := 12) (q0 := 0) rfl rfl, fun U hU hW => ⟨rfl, by rw [hU], by rw [hU]; exact hPc, va_K.moved hW.alike hKc, hDc.weaken (fun _ _ _ _ => trivial)⟩⟩ rfl rfl hl.1 rfl (lv_room (Nat.le_of_ble_eq_true rfl)) dX12_movesRow_14 ⟨hRc, hRs⟩) hS (fun q _ h => hFc q h) hFc (fun r_81 u t H1 locs ht hvm hw hB hz1 hk1 hS => ?_)
        obtain ⟨hu_, hw⟩ := hw
        subst hu_
        obtain ⟨y_82, f_83, gy_82, hpr0_r_81, hpr1_r_81, hpr2_r_81, hP1, hD1⟩ := hB
        rw [ht] at hP1
        obtain ⟨hP, hD⟩ := va_join (wr := [(rw, .inl (krw, 6, .inl z2))]) (w1 := [(h0, .inr (12, fsMM (upd mi 23 y_82) mr)), ((mr 12), .inl (km_kept, 300, .inl f_83))]) hP hD [0, 1] [2] rfl rfl (by decide) (by decide) hk1 hFc hP1 hD1
        have hP := hP.sub (ws' := [(h0, .inr (12, fsMM (upd mi 23 y_82) mr)), ((mr 12), .inl (km_kept, 300, .inl f_83)), (rw, .inl (krw, 6, .inl z2))]) [1, 2, 0] rfl
        have hD := hD.sub (ws' := [(h0, .inr (12, fsMM (upd mi 23 y_82) mr)), ((mr 12), .inl (km_kept, 300, .inl f_83)), (rw, .inl (krw, 6, .inl z2))]) [1, 2, 0] (by decide) rfl
        have hpr0_r_81 : y_82.toInt = w0_23.toInt + 1 := hpr0_r_81
        have g_84 : gi y_82 1 301 := ⟨by have u1 := gw0_23.1; omega, by have u2 := gw0_23.2; omega⟩
        have hpr1_r_81 : f_83 = upd z1 w0_23.toNatClampNeg x_80 := hpr1_r_81
        have hpr2_r_81 : r_81 = x_80 := hpr2_r_81
        generalize H1 = H at hP hS ⊢
        refine va_iast hx hb hK hP hD hS 2 1 rfl rfl (gi_in g_79 (by decide)) dX12_movesRow_17 (fun H locs hP hD hS => ?_)
        have hP : va_P (dC, dI) vwCl [(h0, .inr (12, fsMM (upd mi 23 y_82) mr)), ((mr 12), .inl (km_kept, 300, .inl f_83)), (rw, .inl (krw, 6, .inl (upd z2 (v2 : Int32).toNatClampNeg r_81)))] H := hP
        have hD : va_D A [(h0, .inr (12, fsMM (upd mi 23 y_82) mr)), ((mr 12), .inl (km_kept, 300, .inl f_83)), (rw, .inl (krw, 6, .inl (upd z2 (v2 : Int32).toNatClampNeg r_81)))] := hD
        generalize ef_85 : upd z2 (v2 : Int32).toNatClampNeg r_81 = f_85 at hP hD
        obtain ⟨x_86, ex_86⟩ : ∃ y : Int32, y = v2 + 1 := ⟨_, rfl⟩
        have gx_86 : gi x_86 1 6 := gi_add ex_86 g_79 (gi_c 1 1 (by decide)) (by decide)
        refine lv_iinc (v := x_86) (lv' := [(2, .int x_86), (0, .ref h0), (1, .ref rw)]) hx hb dX12_movesRow_18 hl (k := 2) rfl (by rw [ex_86]; rfl) (by decide) rfl (fun ls hl => ?_)
        refine lv_goto (tgt := 2) hx hb dX12_movesRow_21 (by decide) ?_
        exact ih x_86 y_82 f_83 f_85 _ _ _ (gi_w gx_86 (by decide)) (show gi y_82 0 300 from ⟨by have qgy_82 := g_84.1; have rgy_82 := g_84.2; have qgw0_23 := gw0_23.1; have rgw0_23 := gw0_23.2; have qgv2 := g_79.1; have rgv2 := g_79.2; have qgmi_24 := gmi_24.1; have rgmi_24 := gmi_24.2; have qgmi_23 := g_74.1; have rgmi_23 := g_74.2; omega, by have qgy_82 := g_84.1; have rgy_82 := g_84.2; have qgw0_23 := gw0_23.1; have rgw0_23 := gw0_23.2; have qgv2 := g_79.1; have rgv2 := g_79.2; have qgmi_24 := gmi_24.1; have rgmi_24 := gmi_24.2; have qgmi_23 := g_74.1; have rgmi_23 := g_74.2; omega⟩) (show y_82.toInt = (mi 23).toInt + x_86.toInt from by have qgy_82 := g_84.1; have rgy_82 := g_84.2; have qgx_86 := gx_86.1; have rgx_86 := gx_86.2; have igx_86 : x_86.toInt = v2.toInt + 1 := (by have hc1 : (1 : Int32).toInt = 1 := (by decide); have h9 := gi_addI ex_86 (by have h1 := g_79.1; have h2 := (gi_c 1 1 (by decide)).1; have h3 := g_79.2; have h4 := (gi_c 1 1 (by decide)).2; omega) (by have h1 := g_79.1; have h2 := (gi_c 1 1 (by decide)).1; have h3 := g_79.2; have h4 := (gi_c 1 1 (by decide)).2; omega); rw [hc1] at h9; exact h9); have qgv2 := g_79.1; have rgv2 := g_79.2; have qgw0_23 := gw0_23.1; have rgw0_23 := gw0_23.2; have qgmi_24 := gmi_24.1; have rgmi_24 := gmi_24.2; have qgmi_23 := g_74.1; have rgmi_23 := g_74.2; omega) (show f_85 = frw from by rw [← ef_85, hpr2_r_81, ex_80, upd_self]; exact hinv1) (show ∀ j : Nat, (j : Int) < x_86.toInt → f_83 ((mi 23).toNatClampNeg + j) = frw j from by exact mv_k hinv2 (by have qgy_82 := g_84.1; have rgy_82 := g_84.2; have qgw0_23 := gw0_23.1; have rgw0_23 := gw0_23.2; have qgv2 := g_79.1; have rgv2 := g_79.2; have qgmi_24 := gmi_24.1; have rgmi_24 := gmi_24.2; have qgmi_23 := g_74.1; have rgmi_23 := g_74.2; omega) (by have qgy_82 := g_84.1; have rgy_82 := g_84.2; have qgw0_23 := gw0_23.1; have rgw0_23 := gw0_23.2; have qgv2 := g_79.1; have rgv2 := g_79.2; have qgmi_24 := gmi_24.1; have rgmi_24 := gmi_24.2; have qgmi_23 := g_74.1; have rgmi_23 := g_74.2; omega) (by have qgy_82 := g_84.1; have rgy_82 := g_84.2; have qgw0_23 := gw0_23.1; have rgw0_23 := gw0_23.2; have qgv2 := g_79.1; have rgv2 := g_79.2; have qgmi_24 := gmi_24.1; have rgmi_24 := gmi_24.2; have qgmi_23 := g_74.1; have rgmi_23 := g_74.2; omega) (ex_80.trans (congrFun hinv1 _)) hpr1_r_81 (by have qgy_82 := g_84.1; have rgy_82 := g_84.2; have qgx_86 := gx_86.1; have rgx_86 := gx_86.2; have igx_86 : x_86.toInt = v2.toInt + 1 := (by have hc1 : (1 : Int32).toInt = 1 := (by decide); have h9 := gi_addI ex_86 (by have h1 := g_79.1; have h2 := (gi_c 1 1 (by decide)).1; have h3 := g_79.2; have h4 := (gi_c 1 1 (by decide)).2; omega) (by have h1 := g_79.1; have h2 := (gi_c 1 1 (by decide)).1; have h3 := g_79.2; have h4 := (gi_c 1 1 (by decide)).2; omega); rw [hc1] at h9; exact h9); have qgv2 := g_79.1; have rgv2 := g_79.2; have qgw0_23 := gw0_23.1; have rgw0_23 := gw0_23.2; have qgmi_24 := gmi_24.1; have rgmi_24 := gmi_24.2; have qgmi_23 := g_74.1; have rgmi_23 := g_74.2; omega)) (show ∀ j : Nat, j < (mi 23).toNatClampNeg → f_83 j = fm_kept j from by exact mv_f (k := v2) (a := w0_23) hinv3 (by have qgy_82 := g_84.1; have rgy_82 := g_84.2; have qgw0_23 := gw0_23.1; have rgw0_23 := gw0_23.2; have qgv2 := g_79.1; have rgv2 := g_79.2; have qgmi_24 := gmi_24.1; have rgmi_24 := gmi_24.2; have qgmi_23 := g_74.1; have rgmi_23 := g_74.2; omega) (by have qgy_82 := g_84.1; have rgy_82 := g_84.2; have qgw0_23 := gw0_23.1; have rgw0_23 := gw0_23.2; have qgv2 := g_79.1; have rgv2 := g_79.2; have qgmi_24 := gmi_24.1; have rgmi_24 := gmi_24.2; have qgmi_23 := g_74.1; have rgmi_23 := g_74.2; omega) (by have qgy_82 := g_84.1; have rgy_82 := g_84.2; have qgw0_23 := gw0_23.1; have rgw0_23 := gw0_23.2; have qgv2 := g_79.1; have rgv2 := g_79.2; have qgmi_24 := gmi_24.1; have rgmi_24 := gmi_24.2; have qgmi_23 := g_74.1; have rgmi_23 := g_74.2; omega) hpr1_r_81) (by have av2 := gv2.1; have bv2 := gv2.2; have qgx_86 := gx_86.1; have rgx_86 := gx_86.2; have igx_86 : x_86.toInt = v2.toInt + 1 := (by have hc1 : (1 : Int32).toInt = 1 := (by decide); have h9 := gi_addI ex_86 (by have h1 := g_79.1; have h2 := (gi_c 1 1 (by decide)).1; have h3 := g_79.2; have h4 := (gi_c 1 1 (by decide)).2; omega) (by have h1 := g_79.1; have h2 := (gi_c 1 1 (by decide)).1; have h3 := g_79.2; have h4 := (gi_c 1 1 (by decide)).2; omega); rw [hc1] at h9; exact h9); have qgv2 := g_79.1; have rgv2 := g_79.2; omega) hP hD hS (lv_sub hl [1, 2, 0] rfl)
set_option maxHeartbeats 4000000 in
set_option maxRecDepth 100000 in
theorem sX12_movesRowK6 (l : Launch) (dC : Nat → ClassId) (dI : Nat → Nat → Nat) (sz : Nat) (h0 : Nat) (rw : Nat) (mi : Nat → Int32) (mr : Nat → Nat) (km_kept : ClassId) (fm_kept : Nat → Int32) (krw : ClassId) (frw : Nat → Int32) (gmi_0 : gi (mi 0) 0 100000) (gmi_1 : gi (mi 1) 0 100000) (gmi_2 : gi (mi 2) 0 100000) (gmi_4 : gi (mi 4) 0 1) (gmi_7 : gi (mi 7) 0 6) (gmi_10 : gi (mi 10) 0 24) (gmi_17 : gi (mi 17) 0 8) (gmi_23 : gi (mi 23) 0 300) (gmi_24 : gi (mi 24) 0 1) (gmi_26 : gi (mi 26) 0 1600) (gmi_29 : gi (mi 29) 0 1600) (gmi_30 : gi (mi 30) 0 1600) (gmi_32 : gi (mi 32) 0 100000) (gmi_33 : gi (mi 33) 0 1) (gmi_37 : gi (mi 37) 0 1) (gmi_41 : gi (mi 41) 0 24) (gmi_50 : gi (mi 50) 0 1) (gmi_51 : gi (mi 51) 0 1) (gmi_56 : gi (mi 56) 0 80) (hpq0 : (mi 24).toInt = 1) (hpq1 : (mi 23).toInt ≤ 294) : Met l yX12_movesRow (.code yX12_movesRow cX12_movesRow 3 none :: wsGB) ({ frames := 1, cells := 0, slots := 0, locals := 22 }) (va_Pc [.ref h0, .ref rw] (fun U => U.heap.size = sz ∧ va_P (dC, dI) vwCl [(h0, .inr (12, fsMM mi mr)), ((mr 12), .inl (km_kept, 300, .inl fm_kept)), (rw, .inl (krw, 6, .inl frw))] U.heap ∧ va_K (dC, dI) vwCl [(km_kept, .int), (krw, .int)] U ∧ va_D (fun _ => True) [(h0, .inr (12, fsMM mi mr)), ((mr 12), .inl (km_kept, 300, .inl fm_kept)), (rw, .inl (krw, 6, .inl frw))])) (va_Qv (fun (u : Unit) => True) (fun _ t => ∃ (w0_23 : Int32) (z1 : Nat → Int32) (z2 : Nat → Int32), gi w0_23 0 300 ∧ w0_23.toInt = (mi 23).toInt + 6 ∧ z2 = frw ∧ (∀ j : Nat, (j : Int) < 6 → z1 ((mi 23).toNatClampNeg + j) = frw j) ∧ (∀ j : Nat, j < (mi 23).toNatClampNeg → z1 j = fm_kept j) ∧ va_P (dC, dI) vwCl [(h0, .inr (12, fsMM (upd mi 23 w0_23) mr)), ((mr 12), .inl (km_kept, 300, .inl z1)), (rw, .inl (krw, 6, .inl z2))] t.heap ∧ va_D (va_A [(h0, .inr (12, fsMM mi mr)), ((mr 12), .inl (km_kept, 300, .inl fm_kept)), (rw, .inl (krw, 6, .inl frw))] sz) [(h0, .inr (12, fsMM (upd mi 23 w0_23) mr)), ((mr 12), .inl (km_kept, 300, .inl z1)), (rw, .inl (krw, 6, .inl z2))]) (va_A [(h0, .inr (12, fsMM mi mr)), ((mr 12), .inl (km_kept, 300, .inl fm_kept)), (rw, .inl (krw, 6, .inl frw))] sz)) 0 0 (va_A [(h0, .inr (12, fsMM mi mr)), ((mr 12), .inl (km_kept, 300, .inl fm_kept)), (rw, .inl (krw, 6, .inl frw))] sz) := by
  refine Met.ofW (cc := cX12_movesRow) (maxL := 3) (ret := none) (by decide) rfl ?_
  intro p e s m args below meth c s₁ B hml hv
  obtain ⟨rfl, hsz, hP, hK, hD0⟩ := hv
  have hx := B.exec
  have hb := B.bytes
  have hr := B.returns
  have hts := atoms_spec (ws := (.code yX12_movesRow cX12_movesRow 3 none :: wsGB)) B.pre
  have hown : s.vm.findClass RX12 = some m.cls := findClass_of_methodNamed B.named
  have hlocks := B.notSynchronized
  subst hsz
  have hD := hD0.self (sz := s.heap.size)
  generalize hAe : va_A [(h0, .inr (12, fsMM mi mr)), ((mr 12), .inl (km_kept, 300, .inl fm_kept)), (rw, .inl (krw, 6, .inl frw))] s.heap.size = A at hD ⊢
  have hA : ∀ q : Nat, s.heap.size ≤ q → A q := fun q h => by rw [← hAe]; exact Or.inr h
  have hS : va_S A s.heap s.heap [] := va_S.rf
  have hl := lv_entry ([.ref h0, .ref rw]) (n := 3) (Nat.le_of_ble_eq_true rfl)
  rw [lg_entry_eq]
  generalize (lg_sl ([.ref h0, .ref rw]) ++ List.replicate (3 - (lg_sl ([.ref h0, .ref rw])).length) Slot.unset).toArray = ls at hl ⊢
  have hl : lv_has ls 3 [(0, .ref h0), (1, .ref rw)] := hl
  have g_87 : gi (mi 23) 0 294 := ⟨gmi_23.1, by omega⟩
  refine lv_iconst (v := 0) hx hb dX12_movesRow_0 (by decide) ?_
  refine lv_istore_n (lv' := [(2, .int 0), (0, .ref h0), (1, .ref rw)]) hx hb dX12_movesRow_1 rfl hl (by decide) rfl (fun ls hl => ?_)
  refine (lp_sX12_movesRowK6 h0 rw mi mr km_kept fm_kept krw frw gmi_0 gmi_1 gmi_2 gmi_4 gmi_7 gmi_10 gmi_17 gmi_23 gmi_24 gmi_26 gmi_29 gmi_30 gmi_32 gmi_33 gmi_37 gmi_41 gmi_50 gmi_51 gmi_56 hpq0 hpq1 hx hb hml hown hts hK hA (Nat.le_of_ble_eq_true rfl) (Nat.le_of_ble_eq_true rfl) (Nat.zero_le _) (Nat.zero_le _) (fun w0_23 z1 z2 H locs ls gw0_23 hpr0 hpr1 hpr2 hpr3 hP hD hS hl => ?_) 26) 0 (mi 23) fm_kept frw _ _ _ (gi_w (gi_c 0 0 (by decide)) (by decide)) (gi_w g_87 (by decide)) (show (mi 23).toInt = (mi 23).toInt + (0 : Int32).toInt from by have k0 : (0 : Int32).toInt = 0 := (by decide); have qgmi_24 := gmi_24.1; have rgmi_24 := gmi_24.2; have qgmi_23 := g_87.1; have rgmi_23 := g_87.2; omega) (show frw = frw from by rfl) (show ∀ j : Nat, (j : Int) < (0 : Int) → fm_kept ((mi 23).toNatClampNeg + j) = frw j from by exact fun j hj => absurd hj (by have h0 : (0 : Int32).toInt = 0 := (by decide); omega)) (show ∀ j : Nat, j < (mi 23).toNatClampNeg → fm_kept j = fm_kept j from by exact fun j hj => rfl) (by have k0 : (0 : Int32).toInt = 0 := (by decide); omega) hP hD hS (lv_sub hl [1, 2, 0] rfl)
  · skip
    exact W.vret hx hb hr (fun t ht hW => ⟨⟨(), rfl, trivial, w0_23, z1, z2, gw0_23, hpr0, hpr1, hpr2, hpr3, by rw [ht]; exact hP, hD⟩, hS.F ht⟩) hS.2.2 dX12_movesRow_24
set_option maxHeartbeats 4000000 in
set_option maxRecDepth 100000 in
theorem lp_sX12_movesRowR6 {p : Program} {l : Launch} {e : Env} {R : Room} {s : State} {m : MethodId} {args : Array Value} {below : List Frame} {meth : Method} {c : Code} {Q : State → Prop} {A : Nat → Prop} {cells slots : Nat} {dC : Nat → ClassId} {dI : Nat → Nat → Nat} (h0 : Nat) (rw : Nat) (mi : Nat → Int32) (mr : Nat → Nat) (km_kept : ClassId) (fm_kept : Nat → Int32) (krw : ClassId) (frw : Nat → Int32) (gmi_0 : gi (mi 0) 0 100000) (gmi_1 : gi (mi 1) 0 100000) (gmi_2 : gi (mi 2) 0 100000) (gmi_4 : gi (mi 4) 0 1) (gmi_7 : gi (mi 7) 0 6) (gmi_10 : gi (mi 10) 0 24) (gmi_17 : gi (mi 17) 0 8) (gmi_23 : gi (mi 23) 0 300) (gmi_24 : gi (mi 24) 0 1) (gmi_26 : gi (mi 26) 0 1600) (gmi_29 : gi (mi 29) 0 1600) (gmi_30 : gi (mi 30) 0 1600) (gmi_32 : gi (mi 32) 0 100000) (gmi_33 : gi (mi 33) 0 1) (gmi_37 : gi (mi 37) 0 1) (gmi_41 : gi (mi 41) 0 24) (gmi_50 : gi (mi 50) 0 1) (gmi_51 : gi (mi 51) 0 1) (gmi_56 : gi (mi 56) 0 80) (hpq0 : (mi 24).toInt = 0) (hpq1 : (mi 23).toInt ≤ 294) (hx : p.tables.exec = Jvm.exec) (hb : c.code = cX12_movesRow) (hml : c.maxLocals = 3) (hown : s.vm.findClass RX12 = some m.cls) (hts : ∀ w ∈ ((.code yX12_movesRow cX12_movesRow 3 none :: wsGB) : List Cond), w.before args s = true) (hK : va_K (dC, dI) vwCl [(km_kept, .int), (krw, .int)] s) (hA : ∀ q : Nat, s.heap.size ≤ q → A q) (hRf : 1 ≤ R.frames) (hRl : 22 ≤ R.locals) (hRc : cells ≤ R.cells) (hRs : slots ≤ R.slots) (kr24 : ∀ (w0_23 : Int32) (z1 : Nat → Int32) (z2 : Nat → Int32) (H : Heap) (locs : List Loc) (ls : Array Slot), gi w0_23 0 300 → w0_23.toInt = (mi 23).toInt + 6 → z1 = fm_kept → (∀ j : Nat, (j : Int) < 6 → z2 j = fm_kept ((mi 23).toNatClampNeg + j)) → va_P (dC, dI) vwCl [(h0, .inr (12, fsMM (upd mi 23 w0_23) mr)), ((mr 12), .inl (km_kept, 300, .inl z1)), (rw, .inl (krw, 6, .inl z2))] H → va_D A [(h0, .inr (12, fsMM (upd mi 23 w0_23) mr)), ((mr 12), .inl (km_kept, 300, .inl z1)), (rw, .inl (krw, 6, .inl z2))] → va_S A s.heap H locs → lv_has ls 3 [] → W p l e R s m args below meth c H locs cells slots Q (F0 m 24 ls [])) : ∀ z : Nat, (∀ (v2 : Int32) (w0_23 : Int32) (z2 : Nat → Int32) (H : Heap) (locs : List Loc) (ls : Array Slot), gi v2 0 6 → gi w0_23 0 300 → w0_23.toInt = (mi 23).toInt + v2.toInt → fm_kept = fm_kept → (∀ j : Nat, (j : Int) < v2.toInt → z2 j = fm_kept ((mi 23).toNatClampNeg + j)) → 13 + (-2) * v2.toInt < (z : Int) → va_P (dC, dI) vwCl [(h0, .inr (12, fsMM (upd mi 23 w0_23) mr)), ((mr 12), .inl (km_kept, 300, .inl fm_kept)), (rw, .inl (krw, 6, .inl z2))] H → va_D A [(h0, .inr (12, fsMM (upd mi 23 w0_23) mr)), ((mr 12), .inl (km_kept, 300, .inl fm_kept)), (rw, .inl (krw, 6, .inl z2))] → va_S A s.heap H locs → lv_has ls 3 [(0, .ref h0), (1, .ref rw), (2, .int v2)] → W p l e R s m args below meth c H locs cells slots Q (F0 m 2 ls [])) := by
  intro z
  induction z with
  | zero =>
    intro v2 w0_23 z2 H locs ls gv2 gw0_23 hinv0 hinv1 hinv2 hmu hP hD hS hl
    exact absurd hmu (by have hv21 := gv2.1; have hv22 := gv2.2; omega)
  | succ z ih =>
      intro v2 w0_23 z2 H locs ls gv2 gw0_23 hinv0 hinv1 hinv2 hmu hP hD hS hl
      have g_74 : gi (mi 23) 0 294 := ⟨gmi_23.1, by omega⟩
      refine lv_iload_n hx hb dX12_movesRow_2 rfl (lv_at hl 2 rfl) ?_
      refine lv_aload_n hx hb dX12_movesRow_3 rfl (lv_at hl 1 rfl) ?_
      refine va_alen (v := 6) hx hb hK hP 2 1 rfl rfl rfl dX12_movesRow_4 ?_
      refine lv_icmp_ge (tgt := 24) hx hb dX12_movesRow_5 (by decide) (fun c_75 => ?_) (fun c_75 => ?_)
      · have hc_76 : 6 ≤ v2.toInt := by have h9 := Int32.le_iff_toInt_le.mp c_75; rw [show (6 : Int32).toInt = 6 from by decide] at h9; exact h9
        have g_77 : gi v2 6 6 := gi_le_r c_75 (gi_c 6 6 (by decide)) gv2
        exact kr24 w0_23 fm_kept z2 _ _ _ gw0_23 (show w0_23.toInt = (mi 23).toInt + 6 from by have qgw0_23 := gw0_23.1; have rgw0_23 := gw0_23.2; have qgv2 := g_77.1; have rgv2 := g_77.2; have qgmi_24 := gmi_24.1; have rgmi_24 := gmi_24.2; have qgmi_23 := g_74.1; have rgmi_23 := g_74.2; omega) (show fm_kept = fm_kept from by exact hinv1) (show ∀ j : Nat, (j : Int) < 6 → z2 j = fm_kept ((mi 23).toNatClampNeg + j) from by exact fun j hj => hinv2 j (by have qgw0_23 := gw0_23.1; have rgw0_23 := gw0_23.2; have qgv2 := g_77.1; have rgv2 := g_77.2; have qgmi_24 := gmi_24.1; have rgmi_24 := gmi_24.2; have qgmi_23 := g_74.1; have rgmi_23 := g_74.2; omega)) hP hD hS (lv_sub hl [] rfl)
      · have hc_78 : v2.toInt < 6 := by have h9 := Int32.lt_iff_toInt_lt.mp (Int32.not_le.mp c_75); rw [show (6 : Int32).toInt = 6 from by decide] at h9; exact h9
        have g_79 : gi v2 0 5 := gi_lt_l (Int32.not_le.mp c_75) gv2 (gi_c 6 6 (by decide)) (by decide)
        refine lv_aload_n hx hb dX12_movesRow_8 rfl (lv_at hl 1 rfl) ?_
        refine lv_iload_n hx hb dX12_movesRow_9 rfl (lv_at hl 2 rfl) ?_
        refine lv_aload_n hx hb dX12_movesRow_10 rfl (lv_at hl 0 rfl) ?_
        refine lv_aload_n hx hb dX12_movesRow_11 rfl (lv_at hl 1 rfl) ?_
        refine lv_iload_n hx hb dX12_movesRow_12 rfl (lv_at hl 2 rfl) ?_
        refine va_iald hx hb hK hP 2 1 rfl rfl (gi_in g_79 (by decide)) dX12_movesRow_13 ?_
        refine lv_topi (fun x_80 ex_80 => ?_)
        have hlx_80 : x_80.toInt = (z2 v2.toNatClampNeg).toInt := congrArg Int32.toInt ex_80
        have hPc := hP.sub (ws' := [(h0, .inr (12, fsMM (upd mi 23 w0_23) mr)), ((mr 12), .inl (km_kept, 300, .inl fm_kept))]) [0, 1] rfl
        have hKc := hK.sub (tys' := [(km_kept, .int)]) [0] rfl
        have hDc := hD.sub (ws' := [(h0, .inr (12, fsMM (upd mi 23 w0_23) mr)), ((mr 12), .inl (km_kept, 300, .inl fm_kept))]) [0, 1] (by decide) rfl
        have hFc := va_free (wc := [(h0, .inr (12, fsMM (upd mi 23 w0_23) mr)), ((mr 12), .inl (km_kept, 300, .inl fm_kept))]) hD hS hA [0, 1] rfl
        refine va_calli (va_runV (As := [.int x_80]) (rest := [.int v2, .ref rw]) ⟨hx, hb, hml, hown, hts⟩ (sX12_movesR l dC dI H.size h0 (upd mi 23 w0_23) mr km_kept fm_kept x_80 gmi_0 gmi_1 gmi_2 gmi_4 gmi_7 gmi_10 gmi_17 gw0_23 gmi_24 gmi_26 gmi_29 gmi_30 gmi_32 gmi_33 gmi_37 gmi_41 gmi_50 gmi_51 gmi_56 (show (mi 24).toInt ≤ 0 from by have qgw0_23 := gw0_23.1; have rgw0_23 := gw0_23.2; have qgv2 := g_79.1; have rgv2 := g_79.2; have qgmi_24 := gmi_24.1; have rgmi_24 := gmi_24.2; have qgmi_23 := g_74.1; have rgmi_23 := g_74.2; omega) (show w0_23.toInt ≤ 299 from by have qgw0_23 := gw0_23.1; have rgw0_23 := gw0_23.2; have qgv2 := g_79.1; have rgv2 := g_79.2; have qgmi_24 := gmi_24.1; have rgmi_24 := gmi_24.2; have qgmi_23 := g_74.1; have rgmi_23 := g_74.2; omega)) (cwV 1 hts (gz_gV mGB_123 mGB_124 mGB_125 mGB_1 mGB_126 goodGB) rfl rfl rfl (by decide +kernel) ⟨Nat.le_trans (Nat.le_of_ble_eq_true rfl) hRf, Nat.le_trans (Nat.le_of_ble_eq_true rfl) hRl⟩) ⟨fun a U g mk q => by obtain ⟨q0, q1, qP, qK, qD⟩ := q; exact ⟨q0, q1, qP, va_K.moved (u := U) (U := U.calling g mk a) (Vm.Alike.refl U.vm) qK, qD⟩, va_recv hKc hPc (ci := 12) (q0 := 0) rfl rfl, fun U hU hW => ⟨rfl, by rw [hU], by rw [hU]; exact hPc, va_K.moved hW.alike hKc, hDc.weaken (fun _ _ _ _ => trivial)⟩⟩ rfl rfl hl.1 rfl (lv_room (Nat.le_of_ble_eq_true rfl)) dX12_movesRow_14 ⟨hRc, hRs⟩) hS (fun q _ h => hFc q h) hFc (fun r_81 u t H1 locs ht hvm hw hB hz1 hk1 hS => ?_)
        obtain ⟨hu_, hw⟩ := hw
        subst hu_
        obtain ⟨y_82, f_83, gy_82, hpr0_r_81, hpr1_r_81, hpr2_r_81, hP1, hD1⟩ := hB
        rw [ht] at hP1
        obtain ⟨hP, hD⟩ := va_join (wr := [(rw, .inl (krw, 6, .inl z2))]) (w1 := [(h0, .inr (12, fsMM (upd mi 23 y_82) mr)), ((mr 12), .inl (km_kept, 300, .inl f_83))]) hP hD [0, 1] [2] rfl rfl (by decide) (by decide) hk1 hFc hP1 hD1
        have hP := hP.sub (ws' := [(h0, .inr (12, fsMM (upd mi 23 y_82) mr)), ((mr 12), .inl (km_kept, 300, .inl f_83)), (rw, .inl (krw, 6, .inl z2))]) [1, 2, 0] rfl
        have hD := hD.sub (ws' := [(h0, .inr (12, fsMM (upd mi 23 y_82) mr)), ((mr 12), .inl (km_kept, 300, .inl f_83)), (rw, .inl (krw, 6, .inl z2))]) [1, 2, 0] (by decide) rfl
        have hpr0_r_81 : y_82.toInt = w0_23.toInt + 1 := hpr0_r_81
        have g_84 : gi y_82 1 301 := ⟨by have u1 := gw0_23.1; omega, by have u2 := gw0_23.2; omega⟩
        have hpr1_r_81 : f_83 = fm_kept := hpr1_r_81
        have hpr1_r_81 := hpr1_r_81.symm
        subst hpr1_r_81
        have hpr2_r_81 : r_81 = fm_kept w0_23.toNatClampNeg := hpr2_r_81
        generalize H1 = H at hP hS ⊢
        refine va_iast hx hb hK hP hD hS 2 1 rfl rfl (gi_in g_79 (by decide)) dX12_movesRow_17 (fun H locs hP hD hS => ?_)
        have hP : va_P (dC, dI) vwCl [(h0, .inr (12, fsMM (upd mi 23 y_82) mr)), ((mr 12), .inl (km_kept, 300, .inl fm_kept)), (rw, .inl (krw, 6, .inl (upd z2 (v2 : Int32).toNatClampNeg r_81)))] H := hP
        have hD : va_D A [(h0, .inr (12, fsMM (upd mi 23 y_82) mr)), ((mr 12), .inl (km_kept, 300, .inl fm_kept)), (rw, .inl (krw, 6, .inl (upd z2 (v2 : Int32).toNatClampNeg r_81)))] := hD
        generalize ef_85 : upd z2 (v2 : Int32).toNatClampNeg r_81 = f_85 at hP hD
        obtain ⟨x_86, ex_86⟩ : ∃ y : Int32, y = v2 + 1 := ⟨_, rfl⟩
        have gx_86 : gi x_86 1 6 := gi_add ex_86 g_79 (gi_c 1 1 (by decide)) (by decide)
        refine lv_iinc (v := x_86) (lv' := [(2, .int x_86), (0, .ref h0), (1, .ref rw)]) hx hb dX12_movesRow_18 hl (k := 2) rfl (by rw [ex_86]; rfl) (by decide) rfl (fun ls hl => ?_)
        refine lv_goto (tgt := 2) hx hb dX12_movesRow_21 (by decide) ?_
        exact ih x_86 y_82 f_85 _ _ _ (gi_w gx_86 (by decide)) (show gi y_82 0 300 from ⟨by have qgy_82 := g_84.1; have rgy_82 := g_84.2; have qgw0_23 := gw0_23.1; have rgw0_23 := gw0_23.2; have qgv2 := g_79.1; have rgv2 := g_79.2; have qgmi_24 := gmi_24.1; have rgmi_24 := gmi_24.2; have qgmi_23 := g_74.1; have rgmi_23 := g_74.2; omega, by have qgy_82 := g_84.1; have rgy_82 := g_84.2; have qgw0_23 := gw0_23.1; have rgw0_23 := gw0_23.2; have qgv2 := g_79.1; have rgv2 := g_79.2; have qgmi_24 := gmi_24.1; have rgmi_24 := gmi_24.2; have qgmi_23 := g_74.1; have rgmi_23 := g_74.2; omega⟩) (show y_82.toInt = (mi 23).toInt + x_86.toInt from by have qgy_82 := g_84.1; have rgy_82 := g_84.2; have qgx_86 := gx_86.1; have rgx_86 := gx_86.2; have igx_86 : x_86.toInt = v2.toInt + 1 := (by have hc1 : (1 : Int32).toInt = 1 := (by decide); have h9 := gi_addI ex_86 (by have h1 := g_79.1; have h2 := (gi_c 1 1 (by decide)).1; have h3 := g_79.2; have h4 := (gi_c 1 1 (by decide)).2; omega) (by have h1 := g_79.1; have h2 := (gi_c 1 1 (by decide)).1; have h3 := g_79.2; have h4 := (gi_c 1 1 (by decide)).2; omega); rw [hc1] at h9; exact h9); have qgv2 := g_79.1; have rgv2 := g_79.2; have qgw0_23 := gw0_23.1; have rgw0_23 := gw0_23.2; have qgmi_24 := gmi_24.1; have rgmi_24 := gmi_24.2; have qgmi_23 := g_74.1; have rgmi_23 := g_74.2; omega) (show fm_kept = fm_kept from by exact hinv1) (show ∀ j : Nat, (j : Int) < x_86.toInt → f_85 j = fm_kept ((mi 23).toNatClampNeg + j) from by exact mv_r hinv2 (by have qgy_82 := g_84.1; have rgy_82 := g_84.2; have qgw0_23 := gw0_23.1; have rgw0_23 := gw0_23.2; have qgv2 := g_79.1; have rgv2 := g_79.2; have qgmi_24 := gmi_24.1; have rgmi_24 := gmi_24.2; have qgmi_23 := g_74.1; have rgmi_23 := g_74.2; omega) (by have qgy_82 := g_84.1; have rgy_82 := g_84.2; have qgw0_23 := gw0_23.1; have rgw0_23 := gw0_23.2; have qgv2 := g_79.1; have rgv2 := g_79.2; have qgmi_24 := gmi_24.1; have rgmi_24 := gmi_24.2; have qgmi_23 := g_74.1; have rgmi_23 := g_74.2; omega) (by have qgy_82 := g_84.1; have rgy_82 := g_84.2; have qgw0_23 := gw0_23.1; have rgw0_23 := gw0_23.2; have qgv2 := g_79.1; have rgv2 := g_79.2; have qgmi_24 := gmi_24.1; have rgmi_24 := gmi_24.2; have qgmi_23 := g_74.1; have rgmi_23 := g_74.2; omega) (hpr2_r_81.trans (congrFun hinv1 _)) ef_85 (by have qgy_82 := g_84.1; have rgy_82 := g_84.2; have qgx_86 := gx_86.1; have rgx_86 := gx_86.2; have igx_86 : x_86.toInt = v2.toInt + 1 := (by have hc1 : (1 : Int32).toInt = 1 := (by decide); have h9 := gi_addI ex_86 (by have h1 := g_79.1; have h2 := (gi_c 1 1 (by decide)).1; have h3 := g_79.2; have h4 := (gi_c 1 1 (by decide)).2; omega) (by have h1 := g_79.1; have h2 := (gi_c 1 1 (by decide)).1; have h3 := g_79.2; have h4 := (gi_c 1 1 (by decide)).2; omega); rw [hc1] at h9; exact h9); have qgv2 := g_79.1; have rgv2 := g_79.2; have qgw0_23 := gw0_23.1; have rgw0_23 := gw0_23.2; have qgmi_24 := gmi_24.1; have rgmi_24 := gmi_24.2; have qgmi_23 := g_74.1; have rgmi_23 := g_74.2; omega)) (by have av2 := gv2.1; have bv2 := gv2.2; have qgx_86 := gx_86.1; have rgx_86 := gx_86.2; have igx_86 : x_86.toInt = v2.toInt + 1 := (by have hc1 : (1 : Int32).toInt = 1 := (by decide); have h9 := gi_addI ex_86 (by have h1 := g_79.1; have h2 := (gi_c 1 1 (by decide)).1; have h3 := g_79.2; have h4 := (gi_c 1 1 (by decide)).2; omega) (by have h1 := g_79.1; have h2 := (gi_c 1 1 (by decide)).1; have h3 := g_79.2; have h4 := (gi_c 1 1 (by decide)).2; omega); rw [hc1] at h9; exact h9); have qgv2 := g_79.1; have rgv2 := g_79.2; omega) hP hD hS (lv_sub hl [1, 2, 0] rfl)
set_option maxHeartbeats 4000000 in
set_option maxRecDepth 100000 in
theorem sX12_movesRowR6 (l : Launch) (dC : Nat → ClassId) (dI : Nat → Nat → Nat) (sz : Nat) (h0 : Nat) (rw : Nat) (mi : Nat → Int32) (mr : Nat → Nat) (km_kept : ClassId) (fm_kept : Nat → Int32) (krw : ClassId) (frw : Nat → Int32) (gmi_0 : gi (mi 0) 0 100000) (gmi_1 : gi (mi 1) 0 100000) (gmi_2 : gi (mi 2) 0 100000) (gmi_4 : gi (mi 4) 0 1) (gmi_7 : gi (mi 7) 0 6) (gmi_10 : gi (mi 10) 0 24) (gmi_17 : gi (mi 17) 0 8) (gmi_23 : gi (mi 23) 0 300) (gmi_24 : gi (mi 24) 0 1) (gmi_26 : gi (mi 26) 0 1600) (gmi_29 : gi (mi 29) 0 1600) (gmi_30 : gi (mi 30) 0 1600) (gmi_32 : gi (mi 32) 0 100000) (gmi_33 : gi (mi 33) 0 1) (gmi_37 : gi (mi 37) 0 1) (gmi_41 : gi (mi 41) 0 24) (gmi_50 : gi (mi 50) 0 1) (gmi_51 : gi (mi 51) 0 1) (gmi_56 : gi (mi 56) 0 80) (hpq0 : (mi 24).toInt = 0) (hpq1 : (mi 23).toInt ≤ 294) : Met l yX12_movesRow (.code yX12_movesRow cX12_movesRow 3 none :: wsGB) ({ frames := 1, cells := 0, slots := 0, locals := 22 }) (va_Pc [.ref h0, .ref rw] (fun U => U.heap.size = sz ∧ va_P (dC, dI) vwCl [(h0, .inr (12, fsMM mi mr)), ((mr 12), .inl (km_kept, 300, .inl fm_kept)), (rw, .inl (krw, 6, .inl frw))] U.heap ∧ va_K (dC, dI) vwCl [(km_kept, .int), (krw, .int)] U ∧ va_D (fun _ => True) [(h0, .inr (12, fsMM mi mr)), ((mr 12), .inl (km_kept, 300, .inl fm_kept)), (rw, .inl (krw, 6, .inl frw))])) (va_Qv (fun (u : Unit) => True) (fun _ t => ∃ (w0_23 : Int32) (z1 : Nat → Int32) (z2 : Nat → Int32), gi w0_23 0 300 ∧ w0_23.toInt = (mi 23).toInt + 6 ∧ z1 = fm_kept ∧ (∀ j : Nat, (j : Int) < 6 → z2 j = fm_kept ((mi 23).toNatClampNeg + j)) ∧ va_P (dC, dI) vwCl [(h0, .inr (12, fsMM (upd mi 23 w0_23) mr)), ((mr 12), .inl (km_kept, 300, .inl z1)), (rw, .inl (krw, 6, .inl z2))] t.heap ∧ va_D (va_A [(h0, .inr (12, fsMM mi mr)), ((mr 12), .inl (km_kept, 300, .inl fm_kept)), (rw, .inl (krw, 6, .inl frw))] sz) [(h0, .inr (12, fsMM (upd mi 23 w0_23) mr)), ((mr 12), .inl (km_kept, 300, .inl z1)), (rw, .inl (krw, 6, .inl z2))]) (va_A [(h0, .inr (12, fsMM mi mr)), ((mr 12), .inl (km_kept, 300, .inl fm_kept)), (rw, .inl (krw, 6, .inl frw))] sz)) 0 0 (va_A [(h0, .inr (12, fsMM mi mr)), ((mr 12), .inl (km_kept, 300, .inl fm_kept)), (rw, .inl (krw, 6, .inl frw))] sz) := by
  refine Met.ofW (cc := cX12_movesRow) (maxL := 3) (ret := none) (by decide) rfl ?_
  intro p e s m args below meth c s₁ B hml hv
  obtain ⟨rfl, hsz, hP, hK, hD0⟩ := hv
  have hx := B.exec
  have hb := B.bytes
  have hr := B.returns
  have hts := atoms_spec (ws := (.code yX12_movesRow cX12_movesRow 3 none :: wsGB)) B.pre
  have hown : s.vm.findClass RX12 = some m.cls := findClass_of_methodNamed B.named
  have hlocks := B.notSynchronized
  subst hsz
  have hD := hD0.self (sz := s.heap.size)
  generalize hAe : va_A [(h0, .inr (12, fsMM mi mr)), ((mr 12), .inl (km_kept, 300, .inl fm_kept)), (rw, .inl (krw, 6, .inl frw))] s.heap.size = A at hD ⊢
  have hA : ∀ q : Nat, s.heap.size ≤ q → A q := fun q h => by rw [← hAe]; exact Or.inr h
  have hS : va_S A s.heap s.heap [] := va_S.rf
  have hl := lv_entry ([.ref h0, .ref rw]) (n := 3) (Nat.le_of_ble_eq_true rfl)
  rw [lg_entry_eq]
  generalize (lg_sl ([.ref h0, .ref rw]) ++ List.replicate (3 - (lg_sl ([.ref h0, .ref rw])).length) Slot.unset).toArray = ls at hl ⊢
  have hl : lv_has ls 3 [(0, .ref h0), (1, .ref rw)] := hl
  have g_87 : gi (mi 23) 0 294 := ⟨gmi_23.1, by omega⟩
  refine lv_iconst (v := 0) hx hb dX12_movesRow_0 (by decide) ?_
  refine lv_istore_n (lv' := [(2, .int 0), (0, .ref h0), (1, .ref rw)]) hx hb dX12_movesRow_1 rfl hl (by decide) rfl (fun ls hl => ?_)
  refine (lp_sX12_movesRowR6 h0 rw mi mr km_kept fm_kept krw frw gmi_0 gmi_1 gmi_2 gmi_4 gmi_7 gmi_10 gmi_17 gmi_23 gmi_24 gmi_26 gmi_29 gmi_30 gmi_32 gmi_33 gmi_37 gmi_41 gmi_50 gmi_51 gmi_56 hpq0 hpq1 hx hb hml hown hts hK hA (Nat.le_of_ble_eq_true rfl) (Nat.le_of_ble_eq_true rfl) (Nat.zero_le _) (Nat.zero_le _) (fun w0_23 z1 z2 H locs ls gw0_23 hpr0 hpr1 hpr2 hP hD hS hl => ?_) 26) 0 (mi 23) frw _ _ _ (gi_w (gi_c 0 0 (by decide)) (by decide)) (gi_w g_87 (by decide)) (show (mi 23).toInt = (mi 23).toInt + (0 : Int32).toInt from by have k0 : (0 : Int32).toInt = 0 := (by decide); have qgmi_24 := gmi_24.1; have rgmi_24 := gmi_24.2; have qgmi_23 := g_87.1; have rgmi_23 := g_87.2; omega) (show fm_kept = fm_kept from by rfl) (show ∀ j : Nat, (j : Int) < (0 : Int) → frw j = fm_kept ((mi 23).toNatClampNeg + j) from by exact fun j hj => absurd hj (by have h0 : (0 : Int32).toInt = 0 := (by decide); omega)) (by have k0 : (0 : Int32).toInt = 0 := (by decide); omega) hP hD hS (lv_sub hl [1, 2, 0] rfl)
  · skip
    exact W.vret hx hb hr (fun t ht hW => ⟨⟨(), rfl, trivial, w0_23, z1, z2, gw0_23, hpr0, hpr1, hpr2, by rw [ht]; exact hP, hD⟩, hS.F ht⟩) hS.2.2 dX12_movesRow_24
set_option maxHeartbeats 4000000 in
set_option maxRecDepth 100000 in
theorem lp_sX12_movesRowK36 {p : Program} {l : Launch} {e : Env} {R : Room} {s : State} {m : MethodId} {args : Array Value} {below : List Frame} {meth : Method} {c : Code} {Q : State → Prop} {A : Nat → Prop} {cells slots : Nat} {dC : Nat → ClassId} {dI : Nat → Nat → Nat} (h0 : Nat) (rw : Nat) (mi : Nat → Int32) (mr : Nat → Nat) (km_kept : ClassId) (fm_kept : Nat → Int32) (krw : ClassId) (frw : Nat → Int32) (gmi_0 : gi (mi 0) 0 100000) (gmi_1 : gi (mi 1) 0 100000) (gmi_2 : gi (mi 2) 0 100000) (gmi_4 : gi (mi 4) 0 1) (gmi_7 : gi (mi 7) 0 6) (gmi_10 : gi (mi 10) 0 24) (gmi_17 : gi (mi 17) 0 8) (gmi_23 : gi (mi 23) 0 300) (gmi_24 : gi (mi 24) 0 1) (gmi_26 : gi (mi 26) 0 1600) (gmi_29 : gi (mi 29) 0 1600) (gmi_30 : gi (mi 30) 0 1600) (gmi_32 : gi (mi 32) 0 100000) (gmi_33 : gi (mi 33) 0 1) (gmi_37 : gi (mi 37) 0 1) (gmi_41 : gi (mi 41) 0 24) (gmi_50 : gi (mi 50) 0 1) (gmi_51 : gi (mi 51) 0 1) (gmi_56 : gi (mi 56) 0 80) (hpq0 : (mi 24).toInt = 1) (hpq1 : (mi 23).toInt ≤ 264) (hx : p.tables.exec = Jvm.exec) (hb : c.code = cX12_movesRow) (hml : c.maxLocals = 3) (hown : s.vm.findClass RX12 = some m.cls) (hts : ∀ w ∈ ((.code yX12_movesRow cX12_movesRow 3 none :: wsGB) : List Cond), w.before args s = true) (hK : va_K (dC, dI) vwCl [(km_kept, .int), (krw, .int)] s) (hA : ∀ q : Nat, s.heap.size ≤ q → A q) (hRf : 1 ≤ R.frames) (hRl : 22 ≤ R.locals) (hRc : cells ≤ R.cells) (hRs : slots ≤ R.slots) (kr24 : ∀ (w0_23 : Int32) (z1 : Nat → Int32) (z2 : Nat → Int32) (H : Heap) (locs : List Loc) (ls : Array Slot), gi w0_23 0 300 → w0_23.toInt = (mi 23).toInt + 36 → z2 = frw → (∀ j : Nat, (j : Int) < 36 → z1 ((mi 23).toNatClampNeg + j) = frw j) → (∀ j : Nat, j < (mi 23).toNatClampNeg → z1 j = fm_kept j) → va_P (dC, dI) vwCl [(h0, .inr (12, fsMM (upd mi 23 w0_23) mr)), ((mr 12), .inl (km_kept, 300, .inl z1)), (rw, .inl (krw, 36, .inl z2))] H → va_D A [(h0, .inr (12, fsMM (upd mi 23 w0_23) mr)), ((mr 12), .inl (km_kept, 300, .inl z1)), (rw, .inl (krw, 36, .inl z2))] → va_S A s.heap H locs → lv_has ls 3 [] → W p l e R s m args below meth c H locs cells slots Q (F0 m 24 ls [])) : ∀ z : Nat, (∀ (v2 : Int32) (w0_23 : Int32) (z1 : Nat → Int32) (z2 : Nat → Int32) (H : Heap) (locs : List Loc) (ls : Array Slot), gi v2 0 72 → gi w0_23 0 300 → w0_23.toInt = (mi 23).toInt + v2.toInt → z2 = frw → (∀ j : Nat, (j : Int) < v2.toInt → z1 ((mi 23).toNatClampNeg + j) = frw j) → (∀ j : Nat, j < (mi 23).toNatClampNeg → z1 j = fm_kept j) → v2.toInt ≤ 36 → 145 + (-2) * v2.toInt < (z : Int) → va_P (dC, dI) vwCl [(h0, .inr (12, fsMM (upd mi 23 w0_23) mr)), ((mr 12), .inl (km_kept, 300, .inl z1)), (rw, .inl (krw, 36, .inl z2))] H → va_D A [(h0, .inr (12, fsMM (upd mi 23 w0_23) mr)), ((mr 12), .inl (km_kept, 300, .inl z1)), (rw, .inl (krw, 36, .inl z2))] → va_S A s.heap H locs → lv_has ls 3 [(0, .ref h0), (1, .ref rw), (2, .int v2)] → W p l e R s m args below meth c H locs cells slots Q (F0 m 2 ls [])) := by
  intro z
  induction z with
  | zero =>
    intro v2 w0_23 z1 z2 H locs ls gv2 gw0_23 hinv0 hinv1 hinv2 hinv3 hinv4 hmu hP hD hS hl
    exact absurd hmu (by have hv21 := gv2.1; have hv22 := gv2.2; omega)
  | succ z ih =>
      intro v2 w0_23 z1 z2 H locs ls gv2 gw0_23 hinv0 hinv1 hinv2 hinv3 hinv4 hmu hP hD hS hl
      have g_215 : gi (mi 23) 0 264 := ⟨gmi_23.1, by omega⟩
      have g_216 : gi v2 0 36 := ⟨gv2.1, by omega⟩
      refine lv_iload_n hx hb dX12_movesRow_2 rfl (lv_at hl 2 rfl) ?_
      refine lv_aload_n hx hb dX12_movesRow_3 rfl (lv_at hl 1 rfl) ?_
      refine va_alen (v := 36) hx hb hK hP 2 1 rfl rfl rfl dX12_movesRow_4 ?_
      refine lv_icmp_ge (tgt := 24) hx hb dX12_movesRow_5 (by decide) (fun c_217 => ?_) (fun c_217 => ?_)
      · have hc_218 : 36 ≤ v2.toInt := by have h9 := Int32.le_iff_toInt_le.mp c_217; rw [show (36 : Int32).toInt = 36 from by decide] at h9; exact h9
        have g_219 : gi v2 36 36 := gi_le_r c_217 (gi_c 36 36 (by decide)) g_216
        exact kr24 w0_23 z1 z2 _ _ _ gw0_23 (show w0_23.toInt = (mi 23).toInt + 36 from by have qgw0_23 := gw0_23.1; have rgw0_23 := gw0_23.2; have qgv2 := g_219.1; have rgv2 := g_219.2; have qgmi_24 := gmi_24.1; have rgmi_24 := gmi_24.2; have qgmi_23 := g_215.1; have rgmi_23 := g_215.2; omega) (show z2 = frw from by exact hinv1) (show ∀ j : Nat, (j : Int) < 36 → z1 ((mi 23).toNatClampNeg + j) = frw j from by exact fun j hj => hinv2 j (by have qgw0_23 := gw0_23.1; have rgw0_23 := gw0_23.2; have qgv2 := g_219.1; have rgv2 := g_219.2; have qgmi_24 := gmi_24.1; have rgmi_24 := gmi_24.2; have qgmi_23 := g_215.1; have rgmi_23 := g_215.2; omega)) (show ∀ j : Nat, j < (mi 23).toNatClampNeg → z1 j = fm_kept j from by exact hinv3) hP hD hS (lv_sub hl [] rfl)
      · have hc_220 : v2.toInt < 36 := by have h9 := Int32.lt_iff_toInt_lt.mp (Int32.not_le.mp c_217); rw [show (36 : Int32).toInt = 36 from by decide] at h9; exact h9
        have g_221 : gi v2 0 35 := gi_lt_l (Int32.not_le.mp c_217) g_216 (gi_c 36 36 (by decide)) (by decide)
        refine lv_aload_n hx hb dX12_movesRow_8 rfl (lv_at hl 1 rfl) ?_
        refine lv_iload_n hx hb dX12_movesRow_9 rfl (lv_at hl 2 rfl) ?_
        refine lv_aload_n hx hb dX12_movesRow_10 rfl (lv_at hl 0 rfl) ?_
        refine lv_aload_n hx hb dX12_movesRow_11 rfl (lv_at hl 1 rfl) ?_
        refine lv_iload_n hx hb dX12_movesRow_12 rfl (lv_at hl 2 rfl) ?_
        refine va_iald hx hb hK hP 2 1 rfl rfl (gi_in g_221 (by decide)) dX12_movesRow_13 ?_
        refine lv_topi (fun x_222 ex_222 => ?_)
        have hlx_222 : x_222.toInt = (z2 v2.toNatClampNeg).toInt := congrArg Int32.toInt ex_222
        have hPc := hP.sub (ws' := [(h0, .inr (12, fsMM (upd mi 23 w0_23) mr)), ((mr 12), .inl (km_kept, 300, .inl z1))]) [0, 1] rfl
        have hKc := hK.sub (tys' := [(km_kept, .int)]) [0] rfl
        have hDc := hD.sub (ws' := [(h0, .inr (12, fsMM (upd mi 23 w0_23) mr)), ((mr 12), .inl (km_kept, 300, .inl z1))]) [0, 1] (by decide) rfl
        have hFc := va_free (wc := [(h0, .inr (12, fsMM (upd mi 23 w0_23) mr)), ((mr 12), .inl (km_kept, 300, .inl z1))]) hD hS hA [0, 1] rfl
        refine va_calli (va_runV (As := [.int x_222]) (rest := [.int v2, .ref rw]) ⟨hx, hb, hml, hown, hts⟩ (sX12_movesK l dC dI H.size h0 (upd mi 23 w0_23) mr km_kept z1 x_222 gmi_0 gmi_1 gmi_2 gmi_4 gmi_7 gmi_10 gmi_17 gw0_23 gmi_24 gmi_26 gmi_29 gmi_30 gmi_32 gmi_33 gmi_37 gmi_41 gmi_50 gmi_51 gmi_56 (show 1 ≤ (mi 24).toInt from by have qgw0_23 := gw0_23.1; have rgw0_23 := gw0_23.2; have qgv2 := g_221.1; have rgv2 := g_221.2; have qgmi_24 := gmi_24.1; have rgmi_24 := gmi_24.2; have qgmi_23 := g_215.1; have rgmi_23 := g_215.2; omega) (show w0_23.toInt ≤ 299 from by have qgw0_23 := gw0_23.1; have rgw0_23 := gw0_23.2; have qgv2 := g_221.1; have rgv2 := g_221.2; have qgmi_24 := gmi_24.1; have rgmi_24 := gmi_24.2; have qgmi_23 := g_215.1; have rgmi_23 := g_215.2; omega)) (cwV 1 hts (gz_gV mGB_123 mGB_124 mGB_125 mGB_1 mGB_126 goodGB) rfl rfl rfl (by decide +kernel) ⟨Nat.le_trans (Nat.le_of_ble_eq_true rfl) hRf, Nat.le_trans (Nat.le_of_ble_eq_true rfl) hRl⟩) ⟨fun a U g mk q => by obtain ⟨q0, q1, qP, qK, qD⟩ := q; exact ⟨q0, q1, qP, va_K.moved (u := U) (U := U.calling g mk a) (Vm.Alike.refl U.vm) qK, qD⟩, va_recv hKc hPc (ci := 12) (q0 := 0) rfl rfl, fun U hU hW => ⟨rfl, by rw [hU], by rw [hU]; exact hPc, va_K.moved hW.alike hKc, hDc.weaken (fun _ _ _ _ => trivial)⟩⟩ rfl rfl hl.1 rfl (lv_room (Nat.le_of_ble_eq_true rfl)) dX12_movesRow_14 ⟨hRc, hRs⟩) hS (fun q _ h => hFc q h) hFc (fun r_223 u t H1 locs ht hvm hw hB hz1 hk1 hS => ?_)
        obtain ⟨hu_, hw⟩ := hw
        subst hu_
        obtain ⟨y_224, f_225, gy_224, hpr0_r_223, hpr1_r_223, hpr2_r_223, hP1, hD1⟩ := hB
        rw [ht] at hP1
        obtain ⟨hP, hD⟩ := va_join (wr := [(rw, .inl (krw, 36, .inl z2))]) (w1 := [(h0, .inr (12, fsMM (upd mi 23 y_224) mr)), ((mr 12), .inl (km_kept, 300, .inl f_225))]) hP hD [0, 1] [2] rfl rfl (by decide) (by decide) hk1 hFc hP1 hD1
        have hP := hP.sub (ws' := [(h0, .inr (12, fsMM (upd mi 23 y_224) mr)), ((mr 12), .inl (km_kept, 300, .inl f_225)), (rw, .inl (krw, 36, .inl z2))]) [1, 2, 0] rfl
        have hD := hD.sub (ws' := [(h0, .inr (12, fsMM (upd mi 23 y_224) mr)), ((mr 12), .inl (km_kept, 300, .inl f_225)), (rw, .inl (krw, 36, .inl z2))]) [1, 2, 0] (by decide) rfl
        have hpr0_r_223 : y_224.toInt = w0_23.toInt + 1 := hpr0_r_223
        have g_226 : gi y_224 1 301 := ⟨by have u1 := gw0_23.1; omega, by have u2 := gw0_23.2; omega⟩
        have hpr1_r_223 : f_225 = upd z1 w0_23.toNatClampNeg x_222 := hpr1_r_223
        have hpr2_r_223 : r_223 = x_222 := hpr2_r_223
        generalize H1 = H at hP hS ⊢
        refine va_iast hx hb hK hP hD hS 2 1 rfl rfl (gi_in g_221 (by decide)) dX12_movesRow_17 (fun H locs hP hD hS => ?_)
        have hP : va_P (dC, dI) vwCl [(h0, .inr (12, fsMM (upd mi 23 y_224) mr)), ((mr 12), .inl (km_kept, 300, .inl f_225)), (rw, .inl (krw, 36, .inl (upd z2 (v2 : Int32).toNatClampNeg r_223)))] H := hP
        have hD : va_D A [(h0, .inr (12, fsMM (upd mi 23 y_224) mr)), ((mr 12), .inl (km_kept, 300, .inl f_225)), (rw, .inl (krw, 36, .inl (upd z2 (v2 : Int32).toNatClampNeg r_223)))] := hD
        generalize ef_227 : upd z2 (v2 : Int32).toNatClampNeg r_223 = f_227 at hP hD
        obtain ⟨x_228, ex_228⟩ : ∃ y : Int32, y = v2 + 1 := ⟨_, rfl⟩
        have gx_228 : gi x_228 1 36 := gi_add ex_228 g_221 (gi_c 1 1 (by decide)) (by decide)
        refine lv_iinc (v := x_228) (lv' := [(2, .int x_228), (0, .ref h0), (1, .ref rw)]) hx hb dX12_movesRow_18 hl (k := 2) rfl (by rw [ex_228]; rfl) (by decide) rfl (fun ls hl => ?_)
        refine lv_goto (tgt := 2) hx hb dX12_movesRow_21 (by decide) ?_
        exact ih x_228 y_224 f_225 f_227 _ _ _ (gi_w gx_228 (by decide)) (show gi y_224 0 300 from ⟨by have qgy_224 := g_226.1; have rgy_224 := g_226.2; have qgw0_23 := gw0_23.1; have rgw0_23 := gw0_23.2; have qgv2 := g_221.1; have rgv2 := g_221.2; have qgmi_24 := gmi_24.1; have rgmi_24 := gmi_24.2; have qgmi_23 := g_215.1; have rgmi_23 := g_215.2; omega, by have qgy_224 := g_226.1; have rgy_224 := g_226.2; have qgw0_23 := gw0_23.1; have rgw0_23 := gw0_23.2; have qgv2 := g_221.1; have rgv2 := g_221.2; have qgmi_24 := gmi_24.1; have rgmi_24 := gmi_24.2; have qgmi_23 := g_215.1; have rgmi_23 := g_215.2; omega⟩) (show y_224.toInt = (mi 23).toInt + x_228.toInt from by have qgy_224 := g_226.1; have rgy_224 := g_226.2; have qgx_228 := gx_228.1; have rgx_228 := gx_228.2; have igx_228 : x_228.toInt = v2.toInt + 1 := (by have hc1 : (1 : Int32).toInt = 1 := (by decide); have h9 := gi_addI ex_228 (by have h1 := g_221.1; have h2 := (gi_c 1 1 (by decide)).1; have h3 := g_221.2; have h4 := (gi_c 1 1 (by decide)).2; omega) (by have h1 := g_221.1; have h2 := (gi_c 1 1 (by decide)).1; have h3 := g_221.2; have h4 := (gi_c 1 1 (by decide)).2; omega); rw [hc1] at h9; exact h9); have qgv2 := g_221.1; have rgv2 := g_221.2; have qgw0_23 := gw0_23.1; have rgw0_23 := gw0_23.2; have qgmi_24 := gmi_24.1; have rgmi_24 := gmi_24.2; have qgmi_23 := g_215.1; have rgmi_23 := g_215.2; omega) (show f_227 = frw from by rw [← ef_227, hpr2_r_223, ex_222, upd_self]; exact hinv1) (show ∀ j : Nat, (j : Int) < x_228.toInt → f_225 ((mi 23).toNatClampNeg + j) = frw j from by exact mv_k hinv2 (by have qgy_224 := g_226.1; have rgy_224 := g_226.2; have qgw0_23 := gw0_23.1; have rgw0_23 := gw0_23.2; have qgv2 := g_221.1; have rgv2 := g_221.2; have qgmi_24 := gmi_24.1; have rgmi_24 := gmi_24.2; have qgmi_23 := g_215.1; have rgmi_23 := g_215.2; omega) (by have qgy_224 := g_226.1; have rgy_224 := g_226.2; have qgw0_23 := gw0_23.1; have rgw0_23 := gw0_23.2; have qgv2 := g_221.1; have rgv2 := g_221.2; have qgmi_24 := gmi_24.1; have rgmi_24 := gmi_24.2; have qgmi_23 := g_215.1; have rgmi_23 := g_215.2; omega) (by have qgy_224 := g_226.1; have rgy_224 := g_226.2; have qgw0_23 := gw0_23.1; have rgw0_23 := gw0_23.2; have qgv2 := g_221.1; have rgv2 := g_221.2; have qgmi_24 := gmi_24.1; have rgmi_24 := gmi_24.2; have qgmi_23 := g_215.1; have rgmi_23 := g_215.2; omega) (ex_222.trans (congrFun hinv1 _)) hpr1_r_223 (by have qgy_224 := g_226.1; have rgy_224 := g_226.2; have qgx_228 := gx_228.1; have rgx_228 := gx_228.2; have igx_228 : x_228.toInt = v2.toInt + 1 := (by have hc1 : (1 : Int32).toInt = 1 := (by decide); have h9 := gi_addI ex_228 (by have h1 := g_221.1; have h2 := (gi_c 1 1 (by decide)).1; have h3 := g_221.2; have h4 := (gi_c 1 1 (by decide)).2; omega) (by have h1 := g_221.1; have h2 := (gi_c 1 1 (by decide)).1; have h3 := g_221.2; have h4 := (gi_c 1 1 (by decide)).2; omega); rw [hc1] at h9; exact h9); have qgv2 := g_221.1; have rgv2 := g_221.2; have qgw0_23 := gw0_23.1; have rgw0_23 := gw0_23.2; have qgmi_24 := gmi_24.1; have rgmi_24 := gmi_24.2; have qgmi_23 := g_215.1; have rgmi_23 := g_215.2; omega)) (show ∀ j : Nat, j < (mi 23).toNatClampNeg → f_225 j = fm_kept j from by exact mv_f (k := v2) (a := w0_23) hinv3 (by have qgy_224 := g_226.1; have rgy_224 := g_226.2; have qgw0_23 := gw0_23.1; have rgw0_23 := gw0_23.2; have qgv2 := g_221.1; have rgv2 := g_221.2; have qgmi_24 := gmi_24.1; have rgmi_24 := gmi_24.2; have qgmi_23 := g_215.1; have rgmi_23 := g_215.2; omega) (by have qgy_224 := g_226.1; have rgy_224 := g_226.2; have qgw0_23 := gw0_23.1; have rgw0_23 := gw0_23.2; have qgv2 := g_221.1; have rgv2 := g_221.2; have qgmi_24 := gmi_24.1; have rgmi_24 := gmi_24.2; have qgmi_23 := g_215.1; have rgmi_23 := g_215.2; omega) (by have qgy_224 := g_226.1; have rgy_224 := g_226.2; have qgw0_23 := gw0_23.1; have rgw0_23 := gw0_23.2; have qgv2 := g_221.1; have rgv2 := g_221.2; have qgmi_24 := gmi_24.1; have rgmi_24 := gmi_24.2; have qgmi_23 := g_215.1; have rgmi_23 := g_215.2; omega) hpr1_r_223) (show x_228.toInt ≤ 36 from by have qgy_224 := g_226.1; have rgy_224 := g_226.2; have qgx_228 := gx_228.1; have rgx_228 := gx_228.2; have igx_228 : x_228.toInt = v2.toInt + 1 := (by have hc1 : (1 : Int32).toInt = 1 := (by decide); have h9 := gi_addI ex_228 (by have h1 := g_221.1; have h2 := (gi_c 1 1 (by decide)).1; have h3 := g_221.2; have h4 := (gi_c 1 1 (by decide)).2; omega) (by have h1 := g_221.1; have h2 := (gi_c 1 1 (by decide)).1; have h3 := g_221.2; have h4 := (gi_c 1 1 (by decide)).2; omega); rw [hc1] at h9; exact h9); have qgv2 := g_221.1; have rgv2 := g_221.2; have qgw0_23 := gw0_23.1; have rgw0_23 := gw0_23.2; have qgmi_24 := gmi_24.1; have rgmi_24 := gmi_24.2; have qgmi_23 := g_215.1; have rgmi_23 := g_215.2; omega) (by have av2 := gv2.1; have bv2 := gv2.2; have qgx_228 := gx_228.1; have rgx_228 := gx_228.2; have igx_228 : x_228.toInt = v2.toInt + 1 := (by have hc1 : (1 : Int32).toInt = 1 := (by decide); have h9 := gi_addI ex_228 (by have h1 := g_221.1; have h2 := (gi_c 1 1 (by decide)).1; have h3 := g_221.2; have h4 := (gi_c 1 1 (by decide)).2; omega) (by have h1 := g_221.1; have h2 := (gi_c 1 1 (by decide)).1; have h3 := g_221.2; have h4 := (gi_c 1 1 (by decide)).2; omega); rw [hc1] at h9; exact h9); have qgv2 := g_221.1; have rgv2 := g_221.2; omega) hP hD hS (lv_sub hl [1, 2, 0] rfl)
set_option maxHeartbeats 4000000 in
set_option maxRecDepth 100000 in
theorem sX12_movesRowK36 (l : Launch) (dC : Nat → ClassId) (dI : Nat → Nat → Nat) (sz : Nat) (h0 : Nat) (rw : Nat) (mi : Nat → Int32) (mr : Nat → Nat) (km_kept : ClassId) (fm_kept : Nat → Int32) (krw : ClassId) (frw : Nat → Int32) (gmi_0 : gi (mi 0) 0 100000) (gmi_1 : gi (mi 1) 0 100000) (gmi_2 : gi (mi 2) 0 100000) (gmi_4 : gi (mi 4) 0 1) (gmi_7 : gi (mi 7) 0 6) (gmi_10 : gi (mi 10) 0 24) (gmi_17 : gi (mi 17) 0 8) (gmi_23 : gi (mi 23) 0 300) (gmi_24 : gi (mi 24) 0 1) (gmi_26 : gi (mi 26) 0 1600) (gmi_29 : gi (mi 29) 0 1600) (gmi_30 : gi (mi 30) 0 1600) (gmi_32 : gi (mi 32) 0 100000) (gmi_33 : gi (mi 33) 0 1) (gmi_37 : gi (mi 37) 0 1) (gmi_41 : gi (mi 41) 0 24) (gmi_50 : gi (mi 50) 0 1) (gmi_51 : gi (mi 51) 0 1) (gmi_56 : gi (mi 56) 0 80) (hpq0 : (mi 24).toInt = 1) (hpq1 : (mi 23).toInt ≤ 264) : Met l yX12_movesRow (.code yX12_movesRow cX12_movesRow 3 none :: wsGB) ({ frames := 1, cells := 0, slots := 0, locals := 22 }) (va_Pc [.ref h0, .ref rw] (fun U => U.heap.size = sz ∧ va_P (dC, dI) vwCl [(h0, .inr (12, fsMM mi mr)), ((mr 12), .inl (km_kept, 300, .inl fm_kept)), (rw, .inl (krw, 36, .inl frw))] U.heap ∧ va_K (dC, dI) vwCl [(km_kept, .int), (krw, .int)] U ∧ va_D (fun _ => True) [(h0, .inr (12, fsMM mi mr)), ((mr 12), .inl (km_kept, 300, .inl fm_kept)), (rw, .inl (krw, 36, .inl frw))])) (va_Qv (fun (u : Unit) => True) (fun _ t => ∃ (w0_23 : Int32) (z1 : Nat → Int32) (z2 : Nat → Int32), gi w0_23 0 300 ∧ w0_23.toInt = (mi 23).toInt + 36 ∧ z2 = frw ∧ (∀ j : Nat, (j : Int) < 36 → z1 ((mi 23).toNatClampNeg + j) = frw j) ∧ (∀ j : Nat, j < (mi 23).toNatClampNeg → z1 j = fm_kept j) ∧ va_P (dC, dI) vwCl [(h0, .inr (12, fsMM (upd mi 23 w0_23) mr)), ((mr 12), .inl (km_kept, 300, .inl z1)), (rw, .inl (krw, 36, .inl z2))] t.heap ∧ va_D (va_A [(h0, .inr (12, fsMM mi mr)), ((mr 12), .inl (km_kept, 300, .inl fm_kept)), (rw, .inl (krw, 36, .inl frw))] sz) [(h0, .inr (12, fsMM (upd mi 23 w0_23) mr)), ((mr 12), .inl (km_kept, 300, .inl z1)), (rw, .inl (krw, 36, .inl z2))]) (va_A [(h0, .inr (12, fsMM mi mr)), ((mr 12), .inl (km_kept, 300, .inl fm_kept)), (rw, .inl (krw, 36, .inl frw))] sz)) 0 0 (va_A [(h0, .inr (12, fsMM mi mr)), ((mr 12), .inl (km_kept, 300, .inl fm_kept)), (rw, .inl (krw, 36, .inl frw))] sz) := by
  refine Met.ofW (cc := cX12_movesRow) (maxL := 3) (ret := none) (by decide) rfl ?_
  intro p e s m args below meth c s₁ B hml hv
  obtain ⟨rfl, hsz, hP, hK, hD0⟩ := hv
  have hx := B.exec
  have hb := B.bytes
  have hr := B.returns
  have hts := atoms_spec (ws := (.code yX12_movesRow cX12_movesRow 3 none :: wsGB)) B.pre
  have hown : s.vm.findClass RX12 = some m.cls := findClass_of_methodNamed B.named
  have hlocks := B.notSynchronized
  subst hsz
  have hD := hD0.self (sz := s.heap.size)
  generalize hAe : va_A [(h0, .inr (12, fsMM mi mr)), ((mr 12), .inl (km_kept, 300, .inl fm_kept)), (rw, .inl (krw, 36, .inl frw))] s.heap.size = A at hD ⊢
  have hA : ∀ q : Nat, s.heap.size ≤ q → A q := fun q h => by rw [← hAe]; exact Or.inr h
  have hS : va_S A s.heap s.heap [] := va_S.rf
  have hl := lv_entry ([.ref h0, .ref rw]) (n := 3) (Nat.le_of_ble_eq_true rfl)
  rw [lg_entry_eq]
  generalize (lg_sl ([.ref h0, .ref rw]) ++ List.replicate (3 - (lg_sl ([.ref h0, .ref rw])).length) Slot.unset).toArray = ls at hl ⊢
  have hl : lv_has ls 3 [(0, .ref h0), (1, .ref rw)] := hl
  have g_229 : gi (mi 23) 0 264 := ⟨gmi_23.1, by omega⟩
  refine lv_iconst (v := 0) hx hb dX12_movesRow_0 (by decide) ?_
  refine lv_istore_n (lv' := [(2, .int 0), (0, .ref h0), (1, .ref rw)]) hx hb dX12_movesRow_1 rfl hl (by decide) rfl (fun ls hl => ?_)
  refine (lp_sX12_movesRowK36 h0 rw mi mr km_kept fm_kept krw frw gmi_0 gmi_1 gmi_2 gmi_4 gmi_7 gmi_10 gmi_17 gmi_23 gmi_24 gmi_26 gmi_29 gmi_30 gmi_32 gmi_33 gmi_37 gmi_41 gmi_50 gmi_51 gmi_56 hpq0 hpq1 hx hb hml hown hts hK hA (Nat.le_of_ble_eq_true rfl) (Nat.le_of_ble_eq_true rfl) (Nat.zero_le _) (Nat.zero_le _) (fun w0_23 z1 z2 H locs ls gw0_23 hpr0 hpr1 hpr2 hpr3 hP hD hS hl => ?_) 158) 0 (mi 23) fm_kept frw _ _ _ (gi_w (gi_c 0 0 (by decide)) (by decide)) (gi_w g_229 (by decide)) (show (mi 23).toInt = (mi 23).toInt + (0 : Int32).toInt from by have k0 : (0 : Int32).toInt = 0 := (by decide); have qgmi_24 := gmi_24.1; have rgmi_24 := gmi_24.2; have qgmi_23 := g_229.1; have rgmi_23 := g_229.2; omega) (show frw = frw from by rfl) (show ∀ j : Nat, (j : Int) < (0 : Int) → fm_kept ((mi 23).toNatClampNeg + j) = frw j from by exact fun j hj => absurd hj (by have h0 : (0 : Int32).toInt = 0 := (by decide); omega)) (show ∀ j : Nat, j < (mi 23).toNatClampNeg → fm_kept j = fm_kept j from by exact fun j hj => rfl) (show (0 : Int32).toInt ≤ 36 from by have k0 : (0 : Int32).toInt = 0 := (by decide); have qgmi_24 := gmi_24.1; have rgmi_24 := gmi_24.2; have qgmi_23 := g_229.1; have rgmi_23 := g_229.2; omega) (by have k0 : (0 : Int32).toInt = 0 := (by decide); omega) hP hD hS (lv_sub hl [1, 2, 0] rfl)
  · skip
    exact W.vret hx hb hr (fun t ht hW => ⟨⟨(), rfl, trivial, w0_23, z1, z2, gw0_23, hpr0, hpr1, hpr2, hpr3, by rw [ht]; exact hP, hD⟩, hS.F ht⟩) hS.2.2 dX12_movesRow_24
set_option maxHeartbeats 4000000 in
set_option maxRecDepth 100000 in
theorem lp_sX12_movesRowR36 {p : Program} {l : Launch} {e : Env} {R : Room} {s : State} {m : MethodId} {args : Array Value} {below : List Frame} {meth : Method} {c : Code} {Q : State → Prop} {A : Nat → Prop} {cells slots : Nat} {dC : Nat → ClassId} {dI : Nat → Nat → Nat} (h0 : Nat) (rw : Nat) (mi : Nat → Int32) (mr : Nat → Nat) (km_kept : ClassId) (fm_kept : Nat → Int32) (krw : ClassId) (frw : Nat → Int32) (gmi_0 : gi (mi 0) 0 100000) (gmi_1 : gi (mi 1) 0 100000) (gmi_2 : gi (mi 2) 0 100000) (gmi_4 : gi (mi 4) 0 1) (gmi_7 : gi (mi 7) 0 6) (gmi_10 : gi (mi 10) 0 24) (gmi_17 : gi (mi 17) 0 8) (gmi_23 : gi (mi 23) 0 300) (gmi_24 : gi (mi 24) 0 1) (gmi_26 : gi (mi 26) 0 1600) (gmi_29 : gi (mi 29) 0 1600) (gmi_30 : gi (mi 30) 0 1600) (gmi_32 : gi (mi 32) 0 100000) (gmi_33 : gi (mi 33) 0 1) (gmi_37 : gi (mi 37) 0 1) (gmi_41 : gi (mi 41) 0 24) (gmi_50 : gi (mi 50) 0 1) (gmi_51 : gi (mi 51) 0 1) (gmi_56 : gi (mi 56) 0 80) (hpq0 : (mi 24).toInt = 0) (hpq1 : (mi 23).toInt ≤ 264) (hx : p.tables.exec = Jvm.exec) (hb : c.code = cX12_movesRow) (hml : c.maxLocals = 3) (hown : s.vm.findClass RX12 = some m.cls) (hts : ∀ w ∈ ((.code yX12_movesRow cX12_movesRow 3 none :: wsGB) : List Cond), w.before args s = true) (hK : va_K (dC, dI) vwCl [(km_kept, .int), (krw, .int)] s) (hA : ∀ q : Nat, s.heap.size ≤ q → A q) (hRf : 1 ≤ R.frames) (hRl : 22 ≤ R.locals) (hRc : cells ≤ R.cells) (hRs : slots ≤ R.slots) (kr24 : ∀ (w0_23 : Int32) (z1 : Nat → Int32) (z2 : Nat → Int32) (H : Heap) (locs : List Loc) (ls : Array Slot), gi w0_23 0 300 → w0_23.toInt = (mi 23).toInt + 36 → z1 = fm_kept → (∀ j : Nat, (j : Int) < 36 → z2 j = fm_kept ((mi 23).toNatClampNeg + j)) → va_P (dC, dI) vwCl [(h0, .inr (12, fsMM (upd mi 23 w0_23) mr)), ((mr 12), .inl (km_kept, 300, .inl z1)), (rw, .inl (krw, 36, .inl z2))] H → va_D A [(h0, .inr (12, fsMM (upd mi 23 w0_23) mr)), ((mr 12), .inl (km_kept, 300, .inl z1)), (rw, .inl (krw, 36, .inl z2))] → va_S A s.heap H locs → lv_has ls 3 [] → W p l e R s m args below meth c H locs cells slots Q (F0 m 24 ls [])) : ∀ z : Nat, (∀ (v2 : Int32) (w0_23 : Int32) (z2 : Nat → Int32) (H : Heap) (locs : List Loc) (ls : Array Slot), gi v2 0 72 → gi w0_23 0 300 → w0_23.toInt = (mi 23).toInt + v2.toInt → fm_kept = fm_kept → (∀ j : Nat, (j : Int) < v2.toInt → z2 j = fm_kept ((mi 23).toNatClampNeg + j)) → v2.toInt ≤ 36 → 145 + (-2) * v2.toInt < (z : Int) → va_P (dC, dI) vwCl [(h0, .inr (12, fsMM (upd mi 23 w0_23) mr)), ((mr 12), .inl (km_kept, 300, .inl fm_kept)), (rw, .inl (krw, 36, .inl z2))] H → va_D A [(h0, .inr (12, fsMM (upd mi 23 w0_23) mr)), ((mr 12), .inl (km_kept, 300, .inl fm_kept)), (rw, .inl (krw, 36, .inl z2))] → va_S A s.heap H locs → lv_has ls 3 [(0, .ref h0), (1, .ref rw), (2, .int v2)] → W p l e R s m args below meth c H locs cells slots Q (F0 m 2 ls [])) := by
  intro z
  induction z with
  | zero =>
    intro v2 w0_23 z2 H locs ls gv2 gw0_23 hinv0 hinv1 hinv2 hinv3 hmu hP hD hS hl
    exact absurd hmu (by have hv21 := gv2.1; have hv22 := gv2.2; omega)
  | succ z ih =>
      intro v2 w0_23 z2 H locs ls gv2 gw0_23 hinv0 hinv1 hinv2 hinv3 hmu hP hD hS hl
      have g_215 : gi (mi 23) 0 264 := ⟨gmi_23.1, by omega⟩
      have g_216 : gi v2 0 36 := ⟨gv2.1, by omega⟩
      refine lv_iload_n hx hb dX12_movesRow_2 rfl (lv_at hl 2 rfl) ?_
      refine lv_aload_n hx hb dX12_movesRow_3 rfl (lv_at hl 1 rfl) ?_
      refine va_alen (v := 36) hx hb hK hP 2 1 rfl rfl rfl dX12_movesRow_4 ?_
      refine lv_icmp_ge (tgt := 24) hx hb dX12_movesRow_5 (by decide) (fun c_217 => ?_) (fun c_217 => ?_)
      · have hc_218 : 36 ≤ v2.toInt := by have h9 := Int32.le_iff_toInt_le.mp c_217; rw [show (36 : Int32).toInt = 36 from by decide] at h9; exact h9
        have g_219 : gi v2 36 36 := gi_le_r c_217 (gi_c 36 36 (by decide)) g_216
        exact kr24 w0_23 fm_kept z2 _ _ _ gw0_23 (show w0_23.toInt = (mi 23).toInt + 36 from by have qgw0_23 := gw0_23.1; have rgw0_23 := gw0_23.2; have qgv2 := g_219.1; have rgv2 := g_219.2; have qgmi_24 := gmi_24.1; have rgmi_24 := gmi_24.2; have qgmi_23 := g_215.1; have rgmi_23 := g_215.2; omega) (show fm_kept = fm_kept from by exact hinv1) (show ∀ j : Nat, (j : Int) < 36 → z2 j = fm_kept ((mi 23).toNatClampNeg + j) from by exact fun j hj => hinv2 j (by have qgw0_23 := gw0_23.1; have rgw0_23 := gw0_23.2; have qgv2 := g_219.1; have rgv2 := g_219.2; have qgmi_24 := gmi_24.1; have rgmi_24 := gmi_24.2; have qgmi_23 := g_215.1; have rgmi_23 := g_215.2; omega)) hP hD hS (lv_sub hl [] rfl)
      · have hc_220 : v2.toInt < 36 := by have h9 := Int32.lt_iff_toInt_lt.mp (Int32.not_le.mp c_217); rw [show (36 : Int32).toInt = 36 from by decide] at h9; exact h9
        have g_221 : gi v2 0 35 := gi_lt_l (Int32.not_le.mp c_217) g_216 (gi_c 36 36 (by decide)) (by decide)
        refine lv_aload_n hx hb dX12_movesRow_8 rfl (lv_at hl 1 rfl) ?_
        refine lv_iload_n hx hb dX12_movesRow_9 rfl (lv_at hl 2 rfl) ?_
        refine lv_aload_n hx hb dX12_movesRow_10 rfl (lv_at hl 0 rfl) ?_
        refine lv_aload_n hx hb dX12_movesRow_11 rfl (lv_at hl 1 rfl) ?_
        refine lv_iload_n hx hb dX12_movesRow_12 rfl (lv_at hl 2 rfl) ?_
        refine va_iald hx hb hK hP 2 1 rfl rfl (gi_in g_221 (by decide)) dX12_movesRow_13 ?_
        refine lv_topi (fun x_222 ex_222 => ?_)
        have hlx_222 : x_222.toInt = (z2 v2.toNatClampNeg).toInt := congrArg Int32.toInt ex_222
        have hPc := hP.sub (ws' := [(h0, .inr (12, fsMM (upd mi 23 w0_23) mr)), ((mr 12), .inl (km_kept, 300, .inl fm_kept))]) [0, 1] rfl
        have hKc := hK.sub (tys' := [(km_kept, .int)]) [0] rfl
        have hDc := hD.sub (ws' := [(h0, .inr (12, fsMM (upd mi 23 w0_23) mr)), ((mr 12), .inl (km_kept, 300, .inl fm_kept))]) [0, 1] (by decide) rfl
        have hFc := va_free (wc := [(h0, .inr (12, fsMM (upd mi 23 w0_23) mr)), ((mr 12), .inl (km_kept, 300, .inl fm_kept))]) hD hS hA [0, 1] rfl
        refine va_calli (va_runV (As := [.int x_222]) (rest := [.int v2, .ref rw]) ⟨hx, hb, hml, hown, hts⟩ (sX12_movesR l dC dI H.size h0 (upd mi 23 w0_23) mr km_kept fm_kept x_222 gmi_0 gmi_1 gmi_2 gmi_4 gmi_7 gmi_10 gmi_17 gw0_23 gmi_24 gmi_26 gmi_29 gmi_30 gmi_32 gmi_33 gmi_37 gmi_41 gmi_50 gmi_51 gmi_56 (show (mi 24).toInt ≤ 0 from by have qgw0_23 := gw0_23.1; have rgw0_23 := gw0_23.2; have qgv2 := g_221.1; have rgv2 := g_221.2; have qgmi_24 := gmi_24.1; have rgmi_24 := gmi_24.2; have qgmi_23 := g_215.1; have rgmi_23 := g_215.2; omega) (show w0_23.toInt ≤ 299 from by have qgw0_23 := gw0_23.1; have rgw0_23 := gw0_23.2; have qgv2 := g_221.1; have rgv2 := g_221.2; have qgmi_24 := gmi_24.1; have rgmi_24 := gmi_24.2; have qgmi_23 := g_215.1; have rgmi_23 := g_215.2; omega)) (cwV 1 hts (gz_gV mGB_123 mGB_124 mGB_125 mGB_1 mGB_126 goodGB) rfl rfl rfl (by decide +kernel) ⟨Nat.le_trans (Nat.le_of_ble_eq_true rfl) hRf, Nat.le_trans (Nat.le_of_ble_eq_true rfl) hRl⟩) ⟨fun a U g mk q => by obtain ⟨q0, q1, qP, qK, qD⟩ := q; exact ⟨q0, q1, qP, va_K.moved (u := U) (U := U.calling g mk a) (Vm.Alike.refl U.vm) qK, qD⟩, va_recv hKc hPc (ci := 12) (q0 := 0) rfl rfl, fun U hU hW => ⟨rfl, by rw [hU], by rw [hU]; exact hPc, va_K.moved hW.alike hKc, hDc.weaken (fun _ _ _ _ => trivial)⟩⟩ rfl rfl hl.1 rfl (lv_room (Nat.le_of_ble_eq_true rfl)) dX12_movesRow_14 ⟨hRc, hRs⟩) hS (fun q _ h => hFc q h) hFc (fun r_223 u t H1 locs ht hvm hw hB hz1 hk1 hS => ?_)
        obtain ⟨hu_, hw⟩ := hw
        subst hu_
        obtain ⟨y_224, f_225, gy_224, hpr0_r_223, hpr1_r_223, hpr2_r_223, hP1, hD1⟩ := hB
        rw [ht] at hP1
        obtain ⟨hP, hD⟩ := va_join (wr := [(rw, .inl (krw, 36, .inl z2))]) (w1 := [(h0, .inr (12, fsMM (upd mi 23 y_224) mr)), ((mr 12), .inl (km_kept, 300, .inl f_225))]) hP hD [0, 1] [2] rfl rfl (by decide) (by decide) hk1 hFc hP1 hD1
        have hP := hP.sub (ws' := [(h0, .inr (12, fsMM (upd mi 23 y_224) mr)), ((mr 12), .inl (km_kept, 300, .inl f_225)), (rw, .inl (krw, 36, .inl z2))]) [1, 2, 0] rfl
        have hD := hD.sub (ws' := [(h0, .inr (12, fsMM (upd mi 23 y_224) mr)), ((mr 12), .inl (km_kept, 300, .inl f_225)), (rw, .inl (krw, 36, .inl z2))]) [1, 2, 0] (by decide) rfl
        have hpr0_r_223 : y_224.toInt = w0_23.toInt + 1 := hpr0_r_223
        have g_226 : gi y_224 1 301 := ⟨by have u1 := gw0_23.1; omega, by have u2 := gw0_23.2; omega⟩
        have hpr1_r_223 : f_225 = fm_kept := hpr1_r_223
        have hpr1_r_223 := hpr1_r_223.symm
        subst hpr1_r_223
        have hpr2_r_223 : r_223 = fm_kept w0_23.toNatClampNeg := hpr2_r_223
        generalize H1 = H at hP hS ⊢
        refine va_iast hx hb hK hP hD hS 2 1 rfl rfl (gi_in g_221 (by decide)) dX12_movesRow_17 (fun H locs hP hD hS => ?_)
        have hP : va_P (dC, dI) vwCl [(h0, .inr (12, fsMM (upd mi 23 y_224) mr)), ((mr 12), .inl (km_kept, 300, .inl fm_kept)), (rw, .inl (krw, 36, .inl (upd z2 (v2 : Int32).toNatClampNeg r_223)))] H := hP
        have hD : va_D A [(h0, .inr (12, fsMM (upd mi 23 y_224) mr)), ((mr 12), .inl (km_kept, 300, .inl fm_kept)), (rw, .inl (krw, 36, .inl (upd z2 (v2 : Int32).toNatClampNeg r_223)))] := hD
        generalize ef_227 : upd z2 (v2 : Int32).toNatClampNeg r_223 = f_227 at hP hD
        obtain ⟨x_228, ex_228⟩ : ∃ y : Int32, y = v2 + 1 := ⟨_, rfl⟩
        have gx_228 : gi x_228 1 36 := gi_add ex_228 g_221 (gi_c 1 1 (by decide)) (by decide)
        refine lv_iinc (v := x_228) (lv' := [(2, .int x_228), (0, .ref h0), (1, .ref rw)]) hx hb dX12_movesRow_18 hl (k := 2) rfl (by rw [ex_228]; rfl) (by decide) rfl (fun ls hl => ?_)
        refine lv_goto (tgt := 2) hx hb dX12_movesRow_21 (by decide) ?_
        exact ih x_228 y_224 f_227 _ _ _ (gi_w gx_228 (by decide)) (show gi y_224 0 300 from ⟨by have qgy_224 := g_226.1; have rgy_224 := g_226.2; have qgw0_23 := gw0_23.1; have rgw0_23 := gw0_23.2; have qgv2 := g_221.1; have rgv2 := g_221.2; have qgmi_24 := gmi_24.1; have rgmi_24 := gmi_24.2; have qgmi_23 := g_215.1; have rgmi_23 := g_215.2; omega, by have qgy_224 := g_226.1; have rgy_224 := g_226.2; have qgw0_23 := gw0_23.1; have rgw0_23 := gw0_23.2; have qgv2 := g_221.1; have rgv2 := g_221.2; have qgmi_24 := gmi_24.1; have rgmi_24 := gmi_24.2; have qgmi_23 := g_215.1; have rgmi_23 := g_215.2; omega⟩) (show y_224.toInt = (mi 23).toInt + x_228.toInt from by have qgy_224 := g_226.1; have rgy_224 := g_226.2; have qgx_228 := gx_228.1; have rgx_228 := gx_228.2; have igx_228 : x_228.toInt = v2.toInt + 1 := (by have hc1 : (1 : Int32).toInt = 1 := (by decide); have h9 := gi_addI ex_228 (by have h1 := g_221.1; have h2 := (gi_c 1 1 (by decide)).1; have h3 := g_221.2; have h4 := (gi_c 1 1 (by decide)).2; omega) (by have h1 := g_221.1; have h2 := (gi_c 1 1 (by decide)).1; have h3 := g_221.2; have h4 := (gi_c 1 1 (by decide)).2; omega); rw [hc1] at h9; exact h9); have qgv2 := g_221.1; have rgv2 := g_221.2; have qgw0_23 := gw0_23.1; have rgw0_23 := gw0_23.2; have qgmi_24 := gmi_24.1; have rgmi_24 := gmi_24.2; have qgmi_23 := g_215.1; have rgmi_23 := g_215.2; omega) (show fm_kept = fm_kept from by exact hinv1) (show ∀ j : Nat, (j : Int) < x_228.toInt → f_227 j = fm_kept ((mi 23).toNatClampNeg + j) from by exact mv_r hinv2 (by have qgy_224 := g_226.1; have rgy_224 := g_226.2; have qgw0_23 := gw0_23.1; have rgw0_23 := gw0_23.2; have qgv2 := g_221.1; have rgv2 := g_221.2; have qgmi_24 := gmi_24.1; have rgmi_24 := gmi_24.2; have qgmi_23 := g_215.1; have rgmi_23 := g_215.2; omega) (by have qgy_224 := g_226.1; have rgy_224 := g_226.2; have qgw0_23 := gw0_23.1; have rgw0_23 := gw0_23.2; have qgv2 := g_221.1; have rgv2 := g_221.2; have qgmi_24 := gmi_24.1; have rgmi_24 := gmi_24.2; have qgmi_23 := g_215.1; have rgmi_23 := g_215.2; omega) (by have qgy_224 := g_226.1; have rgy_224 := g_226.2; have qgw0_23 := gw0_23.1; have rgw0_23 := gw0_23.2; have qgv2 := g_221.1; have rgv2 := g_221.2; have qgmi_24 := gmi_24.1; have rgmi_24 := gmi_24.2; have qgmi_23 := g_215.1; have rgmi_23 := g_215.2; omega) (hpr2_r_223.trans (congrFun hinv1 _)) ef_227 (by have qgy_224 := g_226.1; have rgy_224 := g_226.2; have qgx_228 := gx_228.1; have rgx_228 := gx_228.2; have igx_228 : x_228.toInt = v2.toInt + 1 := (by have hc1 : (1 : Int32).toInt = 1 := (by decide); have h9 := gi_addI ex_228 (by have h1 := g_221.1; have h2 := (gi_c 1 1 (by decide)).1; have h3 := g_221.2; have h4 := (gi_c 1 1 (by decide)).2; omega) (by have h1 := g_221.1; have h2 := (gi_c 1 1 (by decide)).1; have h3 := g_221.2; have h4 := (gi_c 1 1 (by decide)).2; omega); rw [hc1] at h9; exact h9); have qgv2 := g_221.1; have rgv2 := g_221.2; have qgw0_23 := gw0_23.1; have rgw0_23 := gw0_23.2; have qgmi_24 := gmi_24.1; have rgmi_24 := gmi_24.2; have qgmi_23 := g_215.1; have rgmi_23 := g_215.2; omega)) (show x_228.toInt ≤ 36 from by have qgy_224 := g_226.1; have rgy_224 := g_226.2; have qgx_228 := gx_228.1; have rgx_228 := gx_228.2; have igx_228 : x_228.toInt = v2.toInt + 1 := (by have hc1 : (1 : Int32).toInt = 1 := (by decide); have h9 := gi_addI ex_228 (by have h1 := g_221.1; have h2 := (gi_c 1 1 (by decide)).1; have h3 := g_221.2; have h4 := (gi_c 1 1 (by decide)).2; omega) (by have h1 := g_221.1; have h2 := (gi_c 1 1 (by decide)).1; have h3 := g_221.2; have h4 := (gi_c 1 1 (by decide)).2; omega); rw [hc1] at h9; exact h9); have qgv2 := g_221.1; have rgv2 := g_221.2; have qgw0_23 := gw0_23.1; have rgw0_23 := gw0_23.2; have qgmi_24 := gmi_24.1; have rgmi_24 := gmi_24.2; have qgmi_23 := g_215.1; have rgmi_23 := g_215.2; omega) (by have av2 := gv2.1; have bv2 := gv2.2; have qgx_228 := gx_228.1; have rgx_228 := gx_228.2; have igx_228 : x_228.toInt = v2.toInt + 1 := (by have hc1 : (1 : Int32).toInt = 1 := (by decide); have h9 := gi_addI ex_228 (by have h1 := g_221.1; have h2 := (gi_c 1 1 (by decide)).1; have h3 := g_221.2; have h4 := (gi_c 1 1 (by decide)).2; omega) (by have h1 := g_221.1; have h2 := (gi_c 1 1 (by decide)).1; have h3 := g_221.2; have h4 := (gi_c 1 1 (by decide)).2; omega); rw [hc1] at h9; exact h9); have qgv2 := g_221.1; have rgv2 := g_221.2; omega) hP hD hS (lv_sub hl [1, 2, 0] rfl)
set_option maxHeartbeats 4000000 in
set_option maxRecDepth 100000 in
theorem sX12_movesRowR36 (l : Launch) (dC : Nat → ClassId) (dI : Nat → Nat → Nat) (sz : Nat) (h0 : Nat) (rw : Nat) (mi : Nat → Int32) (mr : Nat → Nat) (km_kept : ClassId) (fm_kept : Nat → Int32) (krw : ClassId) (frw : Nat → Int32) (gmi_0 : gi (mi 0) 0 100000) (gmi_1 : gi (mi 1) 0 100000) (gmi_2 : gi (mi 2) 0 100000) (gmi_4 : gi (mi 4) 0 1) (gmi_7 : gi (mi 7) 0 6) (gmi_10 : gi (mi 10) 0 24) (gmi_17 : gi (mi 17) 0 8) (gmi_23 : gi (mi 23) 0 300) (gmi_24 : gi (mi 24) 0 1) (gmi_26 : gi (mi 26) 0 1600) (gmi_29 : gi (mi 29) 0 1600) (gmi_30 : gi (mi 30) 0 1600) (gmi_32 : gi (mi 32) 0 100000) (gmi_33 : gi (mi 33) 0 1) (gmi_37 : gi (mi 37) 0 1) (gmi_41 : gi (mi 41) 0 24) (gmi_50 : gi (mi 50) 0 1) (gmi_51 : gi (mi 51) 0 1) (gmi_56 : gi (mi 56) 0 80) (hpq0 : (mi 24).toInt = 0) (hpq1 : (mi 23).toInt ≤ 264) : Met l yX12_movesRow (.code yX12_movesRow cX12_movesRow 3 none :: wsGB) ({ frames := 1, cells := 0, slots := 0, locals := 22 }) (va_Pc [.ref h0, .ref rw] (fun U => U.heap.size = sz ∧ va_P (dC, dI) vwCl [(h0, .inr (12, fsMM mi mr)), ((mr 12), .inl (km_kept, 300, .inl fm_kept)), (rw, .inl (krw, 36, .inl frw))] U.heap ∧ va_K (dC, dI) vwCl [(km_kept, .int), (krw, .int)] U ∧ va_D (fun _ => True) [(h0, .inr (12, fsMM mi mr)), ((mr 12), .inl (km_kept, 300, .inl fm_kept)), (rw, .inl (krw, 36, .inl frw))])) (va_Qv (fun (u : Unit) => True) (fun _ t => ∃ (w0_23 : Int32) (z1 : Nat → Int32) (z2 : Nat → Int32), gi w0_23 0 300 ∧ w0_23.toInt = (mi 23).toInt + 36 ∧ z1 = fm_kept ∧ (∀ j : Nat, (j : Int) < 36 → z2 j = fm_kept ((mi 23).toNatClampNeg + j)) ∧ va_P (dC, dI) vwCl [(h0, .inr (12, fsMM (upd mi 23 w0_23) mr)), ((mr 12), .inl (km_kept, 300, .inl z1)), (rw, .inl (krw, 36, .inl z2))] t.heap ∧ va_D (va_A [(h0, .inr (12, fsMM mi mr)), ((mr 12), .inl (km_kept, 300, .inl fm_kept)), (rw, .inl (krw, 36, .inl frw))] sz) [(h0, .inr (12, fsMM (upd mi 23 w0_23) mr)), ((mr 12), .inl (km_kept, 300, .inl z1)), (rw, .inl (krw, 36, .inl z2))]) (va_A [(h0, .inr (12, fsMM mi mr)), ((mr 12), .inl (km_kept, 300, .inl fm_kept)), (rw, .inl (krw, 36, .inl frw))] sz)) 0 0 (va_A [(h0, .inr (12, fsMM mi mr)), ((mr 12), .inl (km_kept, 300, .inl fm_kept)), (rw, .inl (krw, 36, .inl frw))] sz) := by
  refine Met.ofW (cc := cX12_movesRow) (maxL := 3) (ret := none) (by decide) rfl ?_
  intro p e s m args below meth c s₁ B hml hv
  obtain ⟨rfl, hsz, hP, hK, hD0⟩ := hv
  have hx := B.exec
  have hb := B.bytes
  have hr := B.returns
  have hts := atoms_spec (ws := (.code yX12_movesRow cX12_movesRow 3 none :: wsGB)) B.pre
  have hown : s.vm.findClass RX12 = some m.cls := findClass_of_methodNamed B.named
  have hlocks := B.notSynchronized
  subst hsz
  have hD := hD0.self (sz := s.heap.size)
  generalize hAe : va_A [(h0, .inr (12, fsMM mi mr)), ((mr 12), .inl (km_kept, 300, .inl fm_kept)), (rw, .inl (krw, 36, .inl frw))] s.heap.size = A at hD ⊢
  have hA : ∀ q : Nat, s.heap.size ≤ q → A q := fun q h => by rw [← hAe]; exact Or.inr h
  have hS : va_S A s.heap s.heap [] := va_S.rf
  have hl := lv_entry ([.ref h0, .ref rw]) (n := 3) (Nat.le_of_ble_eq_true rfl)
  rw [lg_entry_eq]
  generalize (lg_sl ([.ref h0, .ref rw]) ++ List.replicate (3 - (lg_sl ([.ref h0, .ref rw])).length) Slot.unset).toArray = ls at hl ⊢
  have hl : lv_has ls 3 [(0, .ref h0), (1, .ref rw)] := hl
  have g_229 : gi (mi 23) 0 264 := ⟨gmi_23.1, by omega⟩
  refine lv_iconst (v := 0) hx hb dX12_movesRow_0 (by decide) ?_
  refine lv_istore_n (lv' := [(2, .int 0), (0, .ref h0), (1, .ref rw)]) hx hb dX12_movesRow_1 rfl hl (by decide) rfl (fun ls hl => ?_)
  refine (lp_sX12_movesRowR36 h0 rw mi mr km_kept fm_kept krw frw gmi_0 gmi_1 gmi_2 gmi_4 gmi_7 gmi_10 gmi_17 gmi_23 gmi_24 gmi_26 gmi_29 gmi_30 gmi_32 gmi_33 gmi_37 gmi_41 gmi_50 gmi_51 gmi_56 hpq0 hpq1 hx hb hml hown hts hK hA (Nat.le_of_ble_eq_true rfl) (Nat.le_of_ble_eq_true rfl) (Nat.zero_le _) (Nat.zero_le _) (fun w0_23 z1 z2 H locs ls gw0_23 hpr0 hpr1 hpr2 hP hD hS hl => ?_) 158) 0 (mi 23) frw _ _ _ (gi_w (gi_c 0 0 (by decide)) (by decide)) (gi_w g_229 (by decide)) (show (mi 23).toInt = (mi 23).toInt + (0 : Int32).toInt from by have k0 : (0 : Int32).toInt = 0 := (by decide); have qgmi_24 := gmi_24.1; have rgmi_24 := gmi_24.2; have qgmi_23 := g_229.1; have rgmi_23 := g_229.2; omega) (show fm_kept = fm_kept from by rfl) (show ∀ j : Nat, (j : Int) < (0 : Int) → frw j = fm_kept ((mi 23).toNatClampNeg + j) from by exact fun j hj => absurd hj (by have h0 : (0 : Int32).toInt = 0 := (by decide); omega)) (show (0 : Int32).toInt ≤ 36 from by have k0 : (0 : Int32).toInt = 0 := (by decide); have qgmi_24 := gmi_24.1; have rgmi_24 := gmi_24.2; have qgmi_23 := g_229.1; have rgmi_23 := g_229.2; omega) (by have k0 : (0 : Int32).toInt = 0 := (by decide); omega) hP hD hS (lv_sub hl [1, 2, 0] rfl)
  · skip
    exact W.vret hx hb hr (fun t ht hW => ⟨⟨(), rfl, trivial, w0_23, z1, z2, gw0_23, hpr0, hpr1, hpr2, by rw [ht]; exact hP, hD⟩, hS.F ht⟩) hS.2.2 dX12_movesRow_24
set_option maxHeartbeats 4000000 in
set_option maxRecDepth 100000 in
theorem lp_sX12_movesRowK24 {p : Program} {l : Launch} {e : Env} {R : Room} {s : State} {m : MethodId} {args : Array Value} {below : List Frame} {meth : Method} {c : Code} {Q : State → Prop} {A : Nat → Prop} {cells slots : Nat} {dC : Nat → ClassId} {dI : Nat → Nat → Nat} (h0 : Nat) (rw : Nat) (mi : Nat → Int32) (mr : Nat → Nat) (km_kept : ClassId) (fm_kept : Nat → Int32) (krw : ClassId) (frw : Nat → Int32) (gmi_0 : gi (mi 0) 0 100000) (gmi_1 : gi (mi 1) 0 100000) (gmi_2 : gi (mi 2) 0 100000) (gmi_4 : gi (mi 4) 0 1) (gmi_7 : gi (mi 7) 0 6) (gmi_10 : gi (mi 10) 0 24) (gmi_17 : gi (mi 17) 0 8) (gmi_23 : gi (mi 23) 0 300) (gmi_24 : gi (mi 24) 0 1) (gmi_26 : gi (mi 26) 0 1600) (gmi_29 : gi (mi 29) 0 1600) (gmi_30 : gi (mi 30) 0 1600) (gmi_32 : gi (mi 32) 0 100000) (gmi_33 : gi (mi 33) 0 1) (gmi_37 : gi (mi 37) 0 1) (gmi_41 : gi (mi 41) 0 24) (gmi_50 : gi (mi 50) 0 1) (gmi_51 : gi (mi 51) 0 1) (gmi_56 : gi (mi 56) 0 80) (hpq0 : (mi 24).toInt = 1) (hpq1 : (mi 23).toInt ≤ 276) (hx : p.tables.exec = Jvm.exec) (hb : c.code = cX12_movesRow) (hml : c.maxLocals = 3) (hown : s.vm.findClass RX12 = some m.cls) (hts : ∀ w ∈ ((.code yX12_movesRow cX12_movesRow 3 none :: wsGB) : List Cond), w.before args s = true) (hK : va_K (dC, dI) vwCl [(km_kept, .int), (krw, .int)] s) (hA : ∀ q : Nat, s.heap.size ≤ q → A q) (hRf : 1 ≤ R.frames) (hRl : 22 ≤ R.locals) (hRc : cells ≤ R.cells) (hRs : slots ≤ R.slots) (kr24 : ∀ (w0_23 : Int32) (z1 : Nat → Int32) (z2 : Nat → Int32) (H : Heap) (locs : List Loc) (ls : Array Slot), gi w0_23 0 300 → w0_23.toInt = (mi 23).toInt + 24 → z2 = frw → (∀ j : Nat, (j : Int) < 24 → z1 ((mi 23).toNatClampNeg + j) = frw j) → (∀ j : Nat, j < (mi 23).toNatClampNeg → z1 j = fm_kept j) → va_P (dC, dI) vwCl [(h0, .inr (12, fsMM (upd mi 23 w0_23) mr)), ((mr 12), .inl (km_kept, 300, .inl z1)), (rw, .inl (krw, 24, .inl z2))] H → va_D A [(h0, .inr (12, fsMM (upd mi 23 w0_23) mr)), ((mr 12), .inl (km_kept, 300, .inl z1)), (rw, .inl (krw, 24, .inl z2))] → va_S A s.heap H locs → lv_has ls 3 [] → W p l e R s m args below meth c H locs cells slots Q (F0 m 24 ls [])) : ∀ z : Nat, (∀ (v2 : Int32) (w0_23 : Int32) (z1 : Nat → Int32) (z2 : Nat → Int32) (H : Heap) (locs : List Loc) (ls : Array Slot), gi v2 0 24 → gi w0_23 0 300 → w0_23.toInt = (mi 23).toInt + v2.toInt → z2 = frw → (∀ j : Nat, (j : Int) < v2.toInt → z1 ((mi 23).toNatClampNeg + j) = frw j) → (∀ j : Nat, j < (mi 23).toNatClampNeg → z1 j = fm_kept j) → 49 + (-2) * v2.toInt < (z : Int) → va_P (dC, dI) vwCl [(h0, .inr (12, fsMM (upd mi 23 w0_23) mr)), ((mr 12), .inl (km_kept, 300, .inl z1)), (rw, .inl (krw, 24, .inl z2))] H → va_D A [(h0, .inr (12, fsMM (upd mi 23 w0_23) mr)), ((mr 12), .inl (km_kept, 300, .inl z1)), (rw, .inl (krw, 24, .inl z2))] → va_S A s.heap H locs → lv_has ls 3 [(0, .ref h0), (1, .ref rw), (2, .int v2)] → W p l e R s m args below meth c H locs cells slots Q (F0 m 2 ls [])) := by
  intro z
  induction z with
  | zero =>
    intro v2 w0_23 z1 z2 H locs ls gv2 gw0_23 hinv0 hinv1 hinv2 hinv3 hmu hP hD hS hl
    exact absurd hmu (by have hv21 := gv2.1; have hv22 := gv2.2; omega)
  | succ z ih =>
      intro v2 w0_23 z1 z2 H locs ls gv2 gw0_23 hinv0 hinv1 hinv2 hinv3 hmu hP hD hS hl
      have g_154 : gi (mi 23) 0 276 := ⟨gmi_23.1, by omega⟩
      refine lv_iload_n hx hb dX12_movesRow_2 rfl (lv_at hl 2 rfl) ?_
      refine lv_aload_n hx hb dX12_movesRow_3 rfl (lv_at hl 1 rfl) ?_
      refine va_alen (v := 24) hx hb hK hP 2 1 rfl rfl rfl dX12_movesRow_4 ?_
      refine lv_icmp_ge (tgt := 24) hx hb dX12_movesRow_5 (by decide) (fun c_155 => ?_) (fun c_155 => ?_)
      · have hc_156 : 24 ≤ v2.toInt := by have h9 := Int32.le_iff_toInt_le.mp c_155; rw [show (24 : Int32).toInt = 24 from by decide] at h9; exact h9
        have g_157 : gi v2 24 24 := gi_le_r c_155 (gi_c 24 24 (by decide)) gv2
        exact kr24 w0_23 z1 z2 _ _ _ gw0_23 (show w0_23.toInt = (mi 23).toInt + 24 from by have qgw0_23 := gw0_23.1; have rgw0_23 := gw0_23.2; have qgv2 := g_157.1; have rgv2 := g_157.2; have qgmi_24 := gmi_24.1; have rgmi_24 := gmi_24.2; have qgmi_23 := g_154.1; have rgmi_23 := g_154.2; omega) (show z2 = frw from by exact hinv1) (show ∀ j : Nat, (j : Int) < 24 → z1 ((mi 23).toNatClampNeg + j) = frw j from by exact fun j hj => hinv2 j (by have qgw0_23 := gw0_23.1; have rgw0_23 := gw0_23.2; have qgv2 := g_157.1; have rgv2 := g_157.2; have qgmi_24 := gmi_24.1; have rgmi_24 := gmi_24.2; have qgmi_23 := g_154.1; have rgmi_23 := g_154.2; omega)) (show ∀ j : Nat, j < (mi 23).toNatClampNeg → z1 j = fm_kept j from by exact hinv3) hP hD hS (lv_sub hl [] rfl)
      · have hc_158 : v2.toInt < 24 := by have h9 := Int32.lt_iff_toInt_lt.mp (Int32.not_le.mp c_155); rw [show (24 : Int32).toInt = 24 from by decide] at h9; exact h9
        have g_159 : gi v2 0 23 := gi_lt_l (Int32.not_le.mp c_155) gv2 (gi_c 24 24 (by decide)) (by decide)
        refine lv_aload_n hx hb dX12_movesRow_8 rfl (lv_at hl 1 rfl) ?_
        refine lv_iload_n hx hb dX12_movesRow_9 rfl (lv_at hl 2 rfl) ?_
        refine lv_aload_n hx hb dX12_movesRow_10 rfl (lv_at hl 0 rfl) ?_
        refine lv_aload_n hx hb dX12_movesRow_11 rfl (lv_at hl 1 rfl) ?_
        refine lv_iload_n hx hb dX12_movesRow_12 rfl (lv_at hl 2 rfl) ?_
        refine va_iald hx hb hK hP 2 1 rfl rfl (gi_in g_159 (by decide)) dX12_movesRow_13 ?_
        refine lv_topi (fun x_160 ex_160 => ?_)
        have hlx_160 : x_160.toInt = (z2 v2.toNatClampNeg).toInt := congrArg Int32.toInt ex_160
        have hPc := hP.sub (ws' := [(h0, .inr (12, fsMM (upd mi 23 w0_23) mr)), ((mr 12), .inl (km_kept, 300, .inl z1))]) [0, 1] rfl
        have hKc := hK.sub (tys' := [(km_kept, .int)]) [0] rfl
        have hDc := hD.sub (ws' := [(h0, .inr (12, fsMM (upd mi 23 w0_23) mr)), ((mr 12), .inl (km_kept, 300, .inl z1))]) [0, 1] (by decide) rfl
        have hFc := va_free (wc := [(h0, .inr (12, fsMM (upd mi 23 w0_23) mr)), ((mr 12), .inl (km_kept, 300, .inl z1))]) hD hS hA [0, 1] rfl
        refine va_calli (va_runV (As := [.int x_160]) (rest := [.int v2, .ref rw]) ⟨hx, hb, hml, hown, hts⟩ (sX12_movesK l dC dI H.size h0 (upd mi 23 w0_23) mr km_kept z1 x_160 gmi_0 gmi_1 gmi_2 gmi_4 gmi_7 gmi_10 gmi_17 gw0_23 gmi_24 gmi_26 gmi_29 gmi_30 gmi_32 gmi_33 gmi_37 gmi_41 gmi_50 gmi_51 gmi_56 (show 1 ≤ (mi 24).toInt from by have qgw0_23 := gw0_23.1; have rgw0_23 := gw0_23.2; have qgv2 := g_159.1; have rgv2 := g_159.2; have qgmi_24 := gmi_24.1; have rgmi_24 := gmi_24.2; have qgmi_23 := g_154.1; have rgmi_23 := g_154.2; omega) (show w0_23.toInt ≤ 299 from by have qgw0_23 := gw0_23.1; have rgw0_23 := gw0_23.2; have qgv2 := g_159.1; have rgv2 := g_159.2; have qgmi_24 := gmi_24.1; have rgmi_24 := gmi_24.2; have qgmi_23 := g_154.1; have rgmi_23 := g_154.2; omega)) (cwV 1 hts (gz_gV mGB_123 mGB_124 mGB_125 mGB_1 mGB_126 goodGB) rfl rfl rfl (by decide +kernel) ⟨Nat.le_trans (Nat.le_of_ble_eq_true rfl) hRf, Nat.le_trans (Nat.le_of_ble_eq_true rfl) hRl⟩) ⟨fun a U g mk q => by obtain ⟨q0, q1, qP, qK, qD⟩ := q; exact ⟨q0, q1, qP, va_K.moved (u := U) (U := U.calling g mk a) (Vm.Alike.refl U.vm) qK, qD⟩, va_recv hKc hPc (ci := 12) (q0 := 0) rfl rfl, fun U hU hW => ⟨rfl, by rw [hU], by rw [hU]; exact hPc, va_K.moved hW.alike hKc, hDc.weaken (fun _ _ _ _ => trivial)⟩⟩ rfl rfl hl.1 rfl (lv_room (Nat.le_of_ble_eq_true rfl)) dX12_movesRow_14 ⟨hRc, hRs⟩) hS (fun q _ h => hFc q h) hFc (fun r_161 u t H1 locs ht hvm hw hB hz1 hk1 hS => ?_)
        obtain ⟨hu_, hw⟩ := hw
        subst hu_
        obtain ⟨y_162, f_163, gy_162, hpr0_r_161, hpr1_r_161, hpr2_r_161, hP1, hD1⟩ := hB
        rw [ht] at hP1
        obtain ⟨hP, hD⟩ := va_join (wr := [(rw, .inl (krw, 24, .inl z2))]) (w1 := [(h0, .inr (12, fsMM (upd mi 23 y_162) mr)), ((mr 12), .inl (km_kept, 300, .inl f_163))]) hP hD [0, 1] [2] rfl rfl (by decide) (by decide) hk1 hFc hP1 hD1
        have hP := hP.sub (ws' := [(h0, .inr (12, fsMM (upd mi 23 y_162) mr)), ((mr 12), .inl (km_kept, 300, .inl f_163)), (rw, .inl (krw, 24, .inl z2))]) [1, 2, 0] rfl
        have hD := hD.sub (ws' := [(h0, .inr (12, fsMM (upd mi 23 y_162) mr)), ((mr 12), .inl (km_kept, 300, .inl f_163)), (rw, .inl (krw, 24, .inl z2))]) [1, 2, 0] (by decide) rfl
        have hpr0_r_161 : y_162.toInt = w0_23.toInt + 1 := hpr0_r_161
        have g_164 : gi y_162 1 301 := ⟨by have u1 := gw0_23.1; omega, by have u2 := gw0_23.2; omega⟩
        have hpr1_r_161 : f_163 = upd z1 w0_23.toNatClampNeg x_160 := hpr1_r_161
        have hpr2_r_161 : r_161 = x_160 := hpr2_r_161
        generalize H1 = H at hP hS ⊢
        refine va_iast hx hb hK hP hD hS 2 1 rfl rfl (gi_in g_159 (by decide)) dX12_movesRow_17 (fun H locs hP hD hS => ?_)
        have hP : va_P (dC, dI) vwCl [(h0, .inr (12, fsMM (upd mi 23 y_162) mr)), ((mr 12), .inl (km_kept, 300, .inl f_163)), (rw, .inl (krw, 24, .inl (upd z2 (v2 : Int32).toNatClampNeg r_161)))] H := hP
        have hD : va_D A [(h0, .inr (12, fsMM (upd mi 23 y_162) mr)), ((mr 12), .inl (km_kept, 300, .inl f_163)), (rw, .inl (krw, 24, .inl (upd z2 (v2 : Int32).toNatClampNeg r_161)))] := hD
        generalize ef_165 : upd z2 (v2 : Int32).toNatClampNeg r_161 = f_165 at hP hD
        obtain ⟨x_166, ex_166⟩ : ∃ y : Int32, y = v2 + 1 := ⟨_, rfl⟩
        have gx_166 : gi x_166 1 24 := gi_add ex_166 g_159 (gi_c 1 1 (by decide)) (by decide)
        refine lv_iinc (v := x_166) (lv' := [(2, .int x_166), (0, .ref h0), (1, .ref rw)]) hx hb dX12_movesRow_18 hl (k := 2) rfl (by rw [ex_166]; rfl) (by decide) rfl (fun ls hl => ?_)
        refine lv_goto (tgt := 2) hx hb dX12_movesRow_21 (by decide) ?_
        exact ih x_166 y_162 f_163 f_165 _ _ _ (gi_w gx_166 (by decide)) (show gi y_162 0 300 from ⟨by have qgy_162 := g_164.1; have rgy_162 := g_164.2; have qgw0_23 := gw0_23.1; have rgw0_23 := gw0_23.2; have qgv2 := g_159.1; have rgv2 := g_159.2; have qgmi_24 := gmi_24.1; have rgmi_24 := gmi_24.2; have qgmi_23 := g_154.1; have rgmi_23 := g_154.2; omega, by have qgy_162 := g_164.1; have rgy_162 := g_164.2; have qgw0_23 := gw0_23.1; have rgw0_23 := gw0_23.2; have qgv2 := g_159.1; have rgv2 := g_159.2; have qgmi_24 := gmi_24.1; have rgmi_24 := gmi_24.2; have qgmi_23 := g_154.1; have rgmi_23 := g_154.2; omega⟩) (show y_162.toInt = (mi 23).toInt + x_166.toInt from by have qgy_162 := g_164.1; have rgy_162 := g_164.2; have qgx_166 := gx_166.1; have rgx_166 := gx_166.2; have igx_166 : x_166.toInt = v2.toInt + 1 := (by have hc1 : (1 : Int32).toInt = 1 := (by decide); have h9 := gi_addI ex_166 (by have h1 := g_159.1; have h2 := (gi_c 1 1 (by decide)).1; have h3 := g_159.2; have h4 := (gi_c 1 1 (by decide)).2; omega) (by have h1 := g_159.1; have h2 := (gi_c 1 1 (by decide)).1; have h3 := g_159.2; have h4 := (gi_c 1 1 (by decide)).2; omega); rw [hc1] at h9; exact h9); have qgv2 := g_159.1; have rgv2 := g_159.2; have qgw0_23 := gw0_23.1; have rgw0_23 := gw0_23.2; have qgmi_24 := gmi_24.1; have rgmi_24 := gmi_24.2; have qgmi_23 := g_154.1; have rgmi_23 := g_154.2; omega) (show f_165 = frw from by rw [← ef_165, hpr2_r_161, ex_160, upd_self]; exact hinv1) (show ∀ j : Nat, (j : Int) < x_166.toInt → f_163 ((mi 23).toNatClampNeg + j) = frw j from by exact mv_k hinv2 (by have qgy_162 := g_164.1; have rgy_162 := g_164.2; have qgw0_23 := gw0_23.1; have rgw0_23 := gw0_23.2; have qgv2 := g_159.1; have rgv2 := g_159.2; have qgmi_24 := gmi_24.1; have rgmi_24 := gmi_24.2; have qgmi_23 := g_154.1; have rgmi_23 := g_154.2; omega) (by have qgy_162 := g_164.1; have rgy_162 := g_164.2; have qgw0_23 := gw0_23.1; have rgw0_23 := gw0_23.2; have qgv2 := g_159.1; have rgv2 := g_159.2; have qgmi_24 := gmi_24.1; have rgmi_24 := gmi_24.2; have qgmi_23 := g_154.1; have rgmi_23 := g_154.2; omega) (by have qgy_162 := g_164.1; have rgy_162 := g_164.2; have qgw0_23 := gw0_23.1; have rgw0_23 := gw0_23.2; have qgv2 := g_159.1; have rgv2 := g_159.2; have qgmi_24 := gmi_24.1; have rgmi_24 := gmi_24.2; have qgmi_23 := g_154.1; have rgmi_23 := g_154.2; omega) (ex_160.trans (congrFun hinv1 _)) hpr1_r_161 (by have qgy_162 := g_164.1; have rgy_162 := g_164.2; have qgx_166 := gx_166.1; have rgx_166 := gx_166.2; have igx_166 : x_166.toInt = v2.toInt + 1 := (by have hc1 : (1 : Int32).toInt = 1 := (by decide); have h9 := gi_addI ex_166 (by have h1 := g_159.1; have h2 := (gi_c 1 1 (by decide)).1; have h3 := g_159.2; have h4 := (gi_c 1 1 (by decide)).2; omega) (by have h1 := g_159.1; have h2 := (gi_c 1 1 (by decide)).1; have h3 := g_159.2; have h4 := (gi_c 1 1 (by decide)).2; omega); rw [hc1] at h9; exact h9); have qgv2 := g_159.1; have rgv2 := g_159.2; have qgw0_23 := gw0_23.1; have rgw0_23 := gw0_23.2; have qgmi_24 := gmi_24.1; have rgmi_24 := gmi_24.2; have qgmi_23 := g_154.1; have rgmi_23 := g_154.2; omega)) (show ∀ j : Nat, j < (mi 23).toNatClampNeg → f_163 j = fm_kept j from by exact mv_f (k := v2) (a := w0_23) hinv3 (by have qgy_162 := g_164.1; have rgy_162 := g_164.2; have qgw0_23 := gw0_23.1; have rgw0_23 := gw0_23.2; have qgv2 := g_159.1; have rgv2 := g_159.2; have qgmi_24 := gmi_24.1; have rgmi_24 := gmi_24.2; have qgmi_23 := g_154.1; have rgmi_23 := g_154.2; omega) (by have qgy_162 := g_164.1; have rgy_162 := g_164.2; have qgw0_23 := gw0_23.1; have rgw0_23 := gw0_23.2; have qgv2 := g_159.1; have rgv2 := g_159.2; have qgmi_24 := gmi_24.1; have rgmi_24 := gmi_24.2; have qgmi_23 := g_154.1; have rgmi_23 := g_154.2; omega) (by have qgy_162 := g_164.1; have rgy_162 := g_164.2; have qgw0_23 := gw0_23.1; have rgw0_23 := gw0_23.2; have qgv2 := g_159.1; have rgv2 := g_159.2; have qgmi_24 := gmi_24.1; have rgmi_24 := gmi_24.2; have qgmi_23 := g_154.1; have rgmi_23 := g_154.2; omega) hpr1_r_161) (by have av2 := gv2.1; have bv2 := gv2.2; have qgx_166 := gx_166.1; have rgx_166 := gx_166.2; have igx_166 : x_166.toInt = v2.toInt + 1 := (by have hc1 : (1 : Int32).toInt = 1 := (by decide); have h9 := gi_addI ex_166 (by have h1 := g_159.1; have h2 := (gi_c 1 1 (by decide)).1; have h3 := g_159.2; have h4 := (gi_c 1 1 (by decide)).2; omega) (by have h1 := g_159.1; have h2 := (gi_c 1 1 (by decide)).1; have h3 := g_159.2; have h4 := (gi_c 1 1 (by decide)).2; omega); rw [hc1] at h9; exact h9); have qgv2 := g_159.1; have rgv2 := g_159.2; omega) hP hD hS (lv_sub hl [1, 2, 0] rfl)
set_option maxHeartbeats 4000000 in
set_option maxRecDepth 100000 in
theorem sX12_movesRowK24 (l : Launch) (dC : Nat → ClassId) (dI : Nat → Nat → Nat) (sz : Nat) (h0 : Nat) (rw : Nat) (mi : Nat → Int32) (mr : Nat → Nat) (km_kept : ClassId) (fm_kept : Nat → Int32) (krw : ClassId) (frw : Nat → Int32) (gmi_0 : gi (mi 0) 0 100000) (gmi_1 : gi (mi 1) 0 100000) (gmi_2 : gi (mi 2) 0 100000) (gmi_4 : gi (mi 4) 0 1) (gmi_7 : gi (mi 7) 0 6) (gmi_10 : gi (mi 10) 0 24) (gmi_17 : gi (mi 17) 0 8) (gmi_23 : gi (mi 23) 0 300) (gmi_24 : gi (mi 24) 0 1) (gmi_26 : gi (mi 26) 0 1600) (gmi_29 : gi (mi 29) 0 1600) (gmi_30 : gi (mi 30) 0 1600) (gmi_32 : gi (mi 32) 0 100000) (gmi_33 : gi (mi 33) 0 1) (gmi_37 : gi (mi 37) 0 1) (gmi_41 : gi (mi 41) 0 24) (gmi_50 : gi (mi 50) 0 1) (gmi_51 : gi (mi 51) 0 1) (gmi_56 : gi (mi 56) 0 80) (hpq0 : (mi 24).toInt = 1) (hpq1 : (mi 23).toInt ≤ 276) : Met l yX12_movesRow (.code yX12_movesRow cX12_movesRow 3 none :: wsGB) ({ frames := 1, cells := 0, slots := 0, locals := 22 }) (va_Pc [.ref h0, .ref rw] (fun U => U.heap.size = sz ∧ va_P (dC, dI) vwCl [(h0, .inr (12, fsMM mi mr)), ((mr 12), .inl (km_kept, 300, .inl fm_kept)), (rw, .inl (krw, 24, .inl frw))] U.heap ∧ va_K (dC, dI) vwCl [(km_kept, .int), (krw, .int)] U ∧ va_D (fun _ => True) [(h0, .inr (12, fsMM mi mr)), ((mr 12), .inl (km_kept, 300, .inl fm_kept)), (rw, .inl (krw, 24, .inl frw))])) (va_Qv (fun (u : Unit) => True) (fun _ t => ∃ (w0_23 : Int32) (z1 : Nat → Int32) (z2 : Nat → Int32), gi w0_23 0 300 ∧ w0_23.toInt = (mi 23).toInt + 24 ∧ z2 = frw ∧ (∀ j : Nat, (j : Int) < 24 → z1 ((mi 23).toNatClampNeg + j) = frw j) ∧ (∀ j : Nat, j < (mi 23).toNatClampNeg → z1 j = fm_kept j) ∧ va_P (dC, dI) vwCl [(h0, .inr (12, fsMM (upd mi 23 w0_23) mr)), ((mr 12), .inl (km_kept, 300, .inl z1)), (rw, .inl (krw, 24, .inl z2))] t.heap ∧ va_D (va_A [(h0, .inr (12, fsMM mi mr)), ((mr 12), .inl (km_kept, 300, .inl fm_kept)), (rw, .inl (krw, 24, .inl frw))] sz) [(h0, .inr (12, fsMM (upd mi 23 w0_23) mr)), ((mr 12), .inl (km_kept, 300, .inl z1)), (rw, .inl (krw, 24, .inl z2))]) (va_A [(h0, .inr (12, fsMM mi mr)), ((mr 12), .inl (km_kept, 300, .inl fm_kept)), (rw, .inl (krw, 24, .inl frw))] sz)) 0 0 (va_A [(h0, .inr (12, fsMM mi mr)), ((mr 12), .inl (km_kept, 300, .inl fm_kept)), (rw, .inl (krw, 24, .inl frw))] sz) := by
  refine Met.ofW (cc := cX12_movesRow) (maxL := 3) (ret := none) (by decide) rfl ?_
  intro p e s m args below meth c s₁ B hml hv
  obtain ⟨rfl, hsz, hP, hK, hD0⟩ := hv
  have hx := B.exec
  have hb := B.bytes
  have hr := B.returns
  have hts := atoms_spec (ws := (.code yX12_movesRow cX12_movesRow 3 none :: wsGB)) B.pre
  have hown : s.vm.findClass RX12 = some m.cls := findClass_of_methodNamed B.named
  have hlocks := B.notSynchronized
  subst hsz
  have hD := hD0.self (sz := s.heap.size)
  generalize hAe : va_A [(h0, .inr (12, fsMM mi mr)), ((mr 12), .inl (km_kept, 300, .inl fm_kept)), (rw, .inl (krw, 24, .inl frw))] s.heap.size = A at hD ⊢
  have hA : ∀ q : Nat, s.heap.size ≤ q → A q := fun q h => by rw [← hAe]; exact Or.inr h
  have hS : va_S A s.heap s.heap [] := va_S.rf
  have hl := lv_entry ([.ref h0, .ref rw]) (n := 3) (Nat.le_of_ble_eq_true rfl)
  rw [lg_entry_eq]
  generalize (lg_sl ([.ref h0, .ref rw]) ++ List.replicate (3 - (lg_sl ([.ref h0, .ref rw])).length) Slot.unset).toArray = ls at hl ⊢
  have hl : lv_has ls 3 [(0, .ref h0), (1, .ref rw)] := hl
  have g_167 : gi (mi 23) 0 276 := ⟨gmi_23.1, by omega⟩
  refine lv_iconst (v := 0) hx hb dX12_movesRow_0 (by decide) ?_
  refine lv_istore_n (lv' := [(2, .int 0), (0, .ref h0), (1, .ref rw)]) hx hb dX12_movesRow_1 rfl hl (by decide) rfl (fun ls hl => ?_)
  refine (lp_sX12_movesRowK24 h0 rw mi mr km_kept fm_kept krw frw gmi_0 gmi_1 gmi_2 gmi_4 gmi_7 gmi_10 gmi_17 gmi_23 gmi_24 gmi_26 gmi_29 gmi_30 gmi_32 gmi_33 gmi_37 gmi_41 gmi_50 gmi_51 gmi_56 hpq0 hpq1 hx hb hml hown hts hK hA (Nat.le_of_ble_eq_true rfl) (Nat.le_of_ble_eq_true rfl) (Nat.zero_le _) (Nat.zero_le _) (fun w0_23 z1 z2 H locs ls gw0_23 hpr0 hpr1 hpr2 hpr3 hP hD hS hl => ?_) 62) 0 (mi 23) fm_kept frw _ _ _ (gi_w (gi_c 0 0 (by decide)) (by decide)) (gi_w g_167 (by decide)) (show (mi 23).toInt = (mi 23).toInt + (0 : Int32).toInt from by have k0 : (0 : Int32).toInt = 0 := (by decide); have qgmi_24 := gmi_24.1; have rgmi_24 := gmi_24.2; have qgmi_23 := g_167.1; have rgmi_23 := g_167.2; omega) (show frw = frw from by rfl) (show ∀ j : Nat, (j : Int) < (0 : Int) → fm_kept ((mi 23).toNatClampNeg + j) = frw j from by exact fun j hj => absurd hj (by have h0 : (0 : Int32).toInt = 0 := (by decide); omega)) (show ∀ j : Nat, j < (mi 23).toNatClampNeg → fm_kept j = fm_kept j from by exact fun j hj => rfl) (by have k0 : (0 : Int32).toInt = 0 := (by decide); omega) hP hD hS (lv_sub hl [1, 2, 0] rfl)
  · skip
    exact W.vret hx hb hr (fun t ht hW => ⟨⟨(), rfl, trivial, w0_23, z1, z2, gw0_23, hpr0, hpr1, hpr2, hpr3, by rw [ht]; exact hP, hD⟩, hS.F ht⟩) hS.2.2 dX12_movesRow_24
set_option maxHeartbeats 4000000 in
set_option maxRecDepth 100000 in
theorem lp_sX12_movesRowR24 {p : Program} {l : Launch} {e : Env} {R : Room} {s : State} {m : MethodId} {args : Array Value} {below : List Frame} {meth : Method} {c : Code} {Q : State → Prop} {A : Nat → Prop} {cells slots : Nat} {dC : Nat → ClassId} {dI : Nat → Nat → Nat} (h0 : Nat) (rw : Nat) (mi : Nat → Int32) (mr : Nat → Nat) (km_kept : ClassId) (fm_kept : Nat → Int32) (krw : ClassId) (frw : Nat → Int32) (gmi_0 : gi (mi 0) 0 100000) (gmi_1 : gi (mi 1) 0 100000) (gmi_2 : gi (mi 2) 0 100000) (gmi_4 : gi (mi 4) 0 1) (gmi_7 : gi (mi 7) 0 6) (gmi_10 : gi (mi 10) 0 24) (gmi_17 : gi (mi 17) 0 8) (gmi_23 : gi (mi 23) 0 300) (gmi_24 : gi (mi 24) 0 1) (gmi_26 : gi (mi 26) 0 1600) (gmi_29 : gi (mi 29) 0 1600) (gmi_30 : gi (mi 30) 0 1600) (gmi_32 : gi (mi 32) 0 100000) (gmi_33 : gi (mi 33) 0 1) (gmi_37 : gi (mi 37) 0 1) (gmi_41 : gi (mi 41) 0 24) (gmi_50 : gi (mi 50) 0 1) (gmi_51 : gi (mi 51) 0 1) (gmi_56 : gi (mi 56) 0 80) (hpq0 : (mi 24).toInt = 0) (hpq1 : (mi 23).toInt ≤ 276) (hx : p.tables.exec = Jvm.exec) (hb : c.code = cX12_movesRow) (hml : c.maxLocals = 3) (hown : s.vm.findClass RX12 = some m.cls) (hts : ∀ w ∈ ((.code yX12_movesRow cX12_movesRow 3 none :: wsGB) : List Cond), w.before args s = true) (hK : va_K (dC, dI) vwCl [(km_kept, .int), (krw, .int)] s) (hA : ∀ q : Nat, s.heap.size ≤ q → A q) (hRf : 1 ≤ R.frames) (hRl : 22 ≤ R.locals) (hRc : cells ≤ R.cells) (hRs : slots ≤ R.slots) (kr24 : ∀ (w0_23 : Int32) (z1 : Nat → Int32) (z2 : Nat → Int32) (H : Heap) (locs : List Loc) (ls : Array Slot), gi w0_23 0 300 → w0_23.toInt = (mi 23).toInt + 24 → z1 = fm_kept → (∀ j : Nat, (j : Int) < 24 → z2 j = fm_kept ((mi 23).toNatClampNeg + j)) → va_P (dC, dI) vwCl [(h0, .inr (12, fsMM (upd mi 23 w0_23) mr)), ((mr 12), .inl (km_kept, 300, .inl z1)), (rw, .inl (krw, 24, .inl z2))] H → va_D A [(h0, .inr (12, fsMM (upd mi 23 w0_23) mr)), ((mr 12), .inl (km_kept, 300, .inl z1)), (rw, .inl (krw, 24, .inl z2))] → va_S A s.heap H locs → lv_has ls 3 [] → W p l e R s m args below meth c H locs cells slots Q (F0 m 24 ls [])) : ∀ z : Nat, (∀ (v2 : Int32) (w0_23 : Int32) (z2 : Nat → Int32) (H : Heap) (locs : List Loc) (ls : Array Slot), gi v2 0 24 → gi w0_23 0 300 → w0_23.toInt = (mi 23).toInt + v2.toInt → fm_kept = fm_kept → (∀ j : Nat, (j : Int) < v2.toInt → z2 j = fm_kept ((mi 23).toNatClampNeg + j)) → 49 + (-2) * v2.toInt < (z : Int) → va_P (dC, dI) vwCl [(h0, .inr (12, fsMM (upd mi 23 w0_23) mr)), ((mr 12), .inl (km_kept, 300, .inl fm_kept)), (rw, .inl (krw, 24, .inl z2))] H → va_D A [(h0, .inr (12, fsMM (upd mi 23 w0_23) mr)), ((mr 12), .inl (km_kept, 300, .inl fm_kept)), (rw, .inl (krw, 24, .inl z2))] → va_S A s.heap H locs → lv_has ls 3 [(0, .ref h0), (1, .ref rw), (2, .int v2)] → W p l e R s m args below meth c H locs cells slots Q (F0 m 2 ls [])) := by
  intro z
  induction z with
  | zero =>
    intro v2 w0_23 z2 H locs ls gv2 gw0_23 hinv0 hinv1 hinv2 hmu hP hD hS hl
    exact absurd hmu (by have hv21 := gv2.1; have hv22 := gv2.2; omega)
  | succ z ih =>
      intro v2 w0_23 z2 H locs ls gv2 gw0_23 hinv0 hinv1 hinv2 hmu hP hD hS hl
      have g_154 : gi (mi 23) 0 276 := ⟨gmi_23.1, by omega⟩
      refine lv_iload_n hx hb dX12_movesRow_2 rfl (lv_at hl 2 rfl) ?_
      refine lv_aload_n hx hb dX12_movesRow_3 rfl (lv_at hl 1 rfl) ?_
      refine va_alen (v := 24) hx hb hK hP 2 1 rfl rfl rfl dX12_movesRow_4 ?_
      refine lv_icmp_ge (tgt := 24) hx hb dX12_movesRow_5 (by decide) (fun c_155 => ?_) (fun c_155 => ?_)
      · have hc_156 : 24 ≤ v2.toInt := by have h9 := Int32.le_iff_toInt_le.mp c_155; rw [show (24 : Int32).toInt = 24 from by decide] at h9; exact h9
        have g_157 : gi v2 24 24 := gi_le_r c_155 (gi_c 24 24 (by decide)) gv2
        exact kr24 w0_23 fm_kept z2 _ _ _ gw0_23 (show w0_23.toInt = (mi 23).toInt + 24 from by have qgw0_23 := gw0_23.1; have rgw0_23 := gw0_23.2; have qgv2 := g_157.1; have rgv2 := g_157.2; have qgmi_24 := gmi_24.1; have rgmi_24 := gmi_24.2; have qgmi_23 := g_154.1; have rgmi_23 := g_154.2; omega) (show fm_kept = fm_kept from by exact hinv1) (show ∀ j : Nat, (j : Int) < 24 → z2 j = fm_kept ((mi 23).toNatClampNeg + j) from by exact fun j hj => hinv2 j (by have qgw0_23 := gw0_23.1; have rgw0_23 := gw0_23.2; have qgv2 := g_157.1; have rgv2 := g_157.2; have qgmi_24 := gmi_24.1; have rgmi_24 := gmi_24.2; have qgmi_23 := g_154.1; have rgmi_23 := g_154.2; omega)) hP hD hS (lv_sub hl [] rfl)
      · have hc_158 : v2.toInt < 24 := by have h9 := Int32.lt_iff_toInt_lt.mp (Int32.not_le.mp c_155); rw [show (24 : Int32).toInt = 24 from by decide] at h9; exact h9
        have g_159 : gi v2 0 23 := gi_lt_l (Int32.not_le.mp c_155) gv2 (gi_c 24 24 (by decide)) (by decide)
        refine lv_aload_n hx hb dX12_movesRow_8 rfl (lv_at hl 1 rfl) ?_
        refine lv_iload_n hx hb dX12_movesRow_9 rfl (lv_at hl 2 rfl) ?_
        refine lv_aload_n hx hb dX12_movesRow_10 rfl (lv_at hl 0 rfl) ?_
        refine lv_aload_n hx hb dX12_movesRow_11 rfl (lv_at hl 1 rfl) ?_
        refine lv_iload_n hx hb dX12_movesRow_12 rfl (lv_at hl 2 rfl) ?_
        refine va_iald hx hb hK hP 2 1 rfl rfl (gi_in g_159 (by decide)) dX12_movesRow_13 ?_
        refine lv_topi (fun x_160 ex_160 => ?_)
        have hlx_160 : x_160.toInt = (z2 v2.toNatClampNeg).toInt := congrArg Int32.toInt ex_160
        have hPc := hP.sub (ws' := [(h0, .inr (12, fsMM (upd mi 23 w0_23) mr)), ((mr 12), .inl (km_kept, 300, .inl fm_kept))]) [0, 1] rfl
        have hKc := hK.sub (tys' := [(km_kept, .int)]) [0] rfl
        have hDc := hD.sub (ws' := [(h0, .inr (12, fsMM (upd mi 23 w0_23) mr)), ((mr 12), .inl (km_kept, 300, .inl fm_kept))]) [0, 1] (by decide) rfl
        have hFc := va_free (wc := [(h0, .inr (12, fsMM (upd mi 23 w0_23) mr)), ((mr 12), .inl (km_kept, 300, .inl fm_kept))]) hD hS hA [0, 1] rfl
        refine va_calli (va_runV (As := [.int x_160]) (rest := [.int v2, .ref rw]) ⟨hx, hb, hml, hown, hts⟩ (sX12_movesR l dC dI H.size h0 (upd mi 23 w0_23) mr km_kept fm_kept x_160 gmi_0 gmi_1 gmi_2 gmi_4 gmi_7 gmi_10 gmi_17 gw0_23 gmi_24 gmi_26 gmi_29 gmi_30 gmi_32 gmi_33 gmi_37 gmi_41 gmi_50 gmi_51 gmi_56 (show (mi 24).toInt ≤ 0 from by have qgw0_23 := gw0_23.1; have rgw0_23 := gw0_23.2; have qgv2 := g_159.1; have rgv2 := g_159.2; have qgmi_24 := gmi_24.1; have rgmi_24 := gmi_24.2; have qgmi_23 := g_154.1; have rgmi_23 := g_154.2; omega) (show w0_23.toInt ≤ 299 from by have qgw0_23 := gw0_23.1; have rgw0_23 := gw0_23.2; have qgv2 := g_159.1; have rgv2 := g_159.2; have qgmi_24 := gmi_24.1; have rgmi_24 := gmi_24.2; have qgmi_23 := g_154.1; have rgmi_23 := g_154.2; omega)) (cwV 1 hts (gz_gV mGB_123 mGB_124 mGB_125 mGB_1 mGB_126 goodGB) rfl rfl rfl (by decide +kernel) ⟨Nat.le_trans (Nat.le_of_ble_eq_true rfl) hRf, Nat.le_trans (Nat.le_of_ble_eq_true rfl) hRl⟩) ⟨fun a U g mk q => by obtain ⟨q0, q1, qP, qK, qD⟩ := q; exact ⟨q0, q1, qP, va_K.moved (u := U) (U := U.calling g mk a) (Vm.Alike.refl U.vm) qK, qD⟩, va_recv hKc hPc (ci := 12) (q0 := 0) rfl rfl, fun U hU hW => ⟨rfl, by rw [hU], by rw [hU]; exact hPc, va_K.moved hW.alike hKc, hDc.weaken (fun _ _ _ _ => trivial)⟩⟩ rfl rfl hl.1 rfl (lv_room (Nat.le_of_ble_eq_true rfl)) dX12_movesRow_14 ⟨hRc, hRs⟩) hS (fun q _ h => hFc q h) hFc (fun r_161 u t H1 locs ht hvm hw hB hz1 hk1 hS => ?_)
        obtain ⟨hu_, hw⟩ := hw
        subst hu_
        obtain ⟨y_162, f_163, gy_162, hpr0_r_161, hpr1_r_161, hpr2_r_161, hP1, hD1⟩ := hB
        rw [ht] at hP1
        obtain ⟨hP, hD⟩ := va_join (wr := [(rw, .inl (krw, 24, .inl z2))]) (w1 := [(h0, .inr (12, fsMM (upd mi 23 y_162) mr)), ((mr 12), .inl (km_kept, 300, .inl f_163))]) hP hD [0, 1] [2] rfl rfl (by decide) (by decide) hk1 hFc hP1 hD1
        have hP := hP.sub (ws' := [(h0, .inr (12, fsMM (upd mi 23 y_162) mr)), ((mr 12), .inl (km_kept, 300, .inl f_163)), (rw, .inl (krw, 24, .inl z2))]) [1, 2, 0] rfl
        have hD := hD.sub (ws' := [(h0, .inr (12, fsMM (upd mi 23 y_162) mr)), ((mr 12), .inl (km_kept, 300, .inl f_163)), (rw, .inl (krw, 24, .inl z2))]) [1, 2, 0] (by decide) rfl
        have hpr0_r_161 : y_162.toInt = w0_23.toInt + 1 := hpr0_r_161
        have g_164 : gi y_162 1 301 := ⟨by have u1 := gw0_23.1; omega, by have u2 := gw0_23.2; omega⟩
        have hpr1_r_161 : f_163 = fm_kept := hpr1_r_161
        have hpr1_r_161 := hpr1_r_161.symm
        subst hpr1_r_161
        have hpr2_r_161 : r_161 = fm_kept w0_23.toNatClampNeg := hpr2_r_161
        generalize H1 = H at hP hS ⊢
        refine va_iast hx hb hK hP hD hS 2 1 rfl rfl (gi_in g_159 (by decide)) dX12_movesRow_17 (fun H locs hP hD hS => ?_)
        have hP : va_P (dC, dI) vwCl [(h0, .inr (12, fsMM (upd mi 23 y_162) mr)), ((mr 12), .inl (km_kept, 300, .inl fm_kept)), (rw, .inl (krw, 24, .inl (upd z2 (v2 : Int32).toNatClampNeg r_161)))] H := hP
        have hD : va_D A [(h0, .inr (12, fsMM (upd mi 23 y_162) mr)), ((mr 12), .inl (km_kept, 300, .inl fm_kept)), (rw, .inl (krw, 24, .inl (upd z2 (v2 : Int32).toNatClampNeg r_161)))] := hD
        generalize ef_165 : upd z2 (v2 : Int32).toNatClampNeg r_161 = f_165 at hP hD
        obtain ⟨x_166, ex_166⟩ : ∃ y : Int32, y = v2 + 1 := ⟨_, rfl⟩
        have gx_166 : gi x_166 1 24 := gi_add ex_166 g_159 (gi_c 1 1 (by decide)) (by decide)
        refine lv_iinc (v := x_166) (lv' := [(2, .int x_166), (0, .ref h0), (1, .ref rw)]) hx hb dX12_movesRow_18 hl (k := 2) rfl (by rw [ex_166]; rfl) (by decide) rfl (fun ls hl => ?_)
        refine lv_goto (tgt := 2) hx hb dX12_movesRow_21 (by decide) ?_
        exact ih x_166 y_162 f_165 _ _ _ (gi_w gx_166 (by decide)) (show gi y_162 0 300 from ⟨by have qgy_162 := g_164.1; have rgy_162 := g_164.2; have qgw0_23 := gw0_23.1; have rgw0_23 := gw0_23.2; have qgv2 := g_159.1; have rgv2 := g_159.2; have qgmi_24 := gmi_24.1; have rgmi_24 := gmi_24.2; have qgmi_23 := g_154.1; have rgmi_23 := g_154.2; omega, by have qgy_162 := g_164.1; have rgy_162 := g_164.2; have qgw0_23 := gw0_23.1; have rgw0_23 := gw0_23.2; have qgv2 := g_159.1; have rgv2 := g_159.2; have qgmi_24 := gmi_24.1; have rgmi_24 := gmi_24.2; have qgmi_23 := g_154.1; have rgmi_23 := g_154.2; omega⟩) (show y_162.toInt = (mi 23).toInt + x_166.toInt from by have qgy_162 := g_164.1; have rgy_162 := g_164.2; have qgx_166 := gx_166.1; have rgx_166 := gx_166.2; have igx_166 : x_166.toInt = v2.toInt + 1 := (by have hc1 : (1 : Int32).toInt = 1 := (by decide); have h9 := gi_addI ex_166 (by have h1 := g_159.1; have h2 := (gi_c 1 1 (by decide)).1; have h3 := g_159.2; have h4 := (gi_c 1 1 (by decide)).2; omega) (by have h1 := g_159.1; have h2 := (gi_c 1 1 (by decide)).1; have h3 := g_159.2; have h4 := (gi_c 1 1 (by decide)).2; omega); rw [hc1] at h9; exact h9); have qgv2 := g_159.1; have rgv2 := g_159.2; have qgw0_23 := gw0_23.1; have rgw0_23 := gw0_23.2; have qgmi_24 := gmi_24.1; have rgmi_24 := gmi_24.2; have qgmi_23 := g_154.1; have rgmi_23 := g_154.2; omega) (show fm_kept = fm_kept from by exact hinv1) (show ∀ j : Nat, (j : Int) < x_166.toInt → f_165 j = fm_kept ((mi 23).toNatClampNeg + j) from by exact mv_r hinv2 (by have qgy_162 := g_164.1; have rgy_162 := g_164.2; have qgw0_23 := gw0_23.1; have rgw0_23 := gw0_23.2; have qgv2 := g_159.1; have rgv2 := g_159.2; have qgmi_24 := gmi_24.1; have rgmi_24 := gmi_24.2; have qgmi_23 := g_154.1; have rgmi_23 := g_154.2; omega) (by have qgy_162 := g_164.1; have rgy_162 := g_164.2; have qgw0_23 := gw0_23.1; have rgw0_23 := gw0_23.2; have qgv2 := g_159.1; have rgv2 := g_159.2; have qgmi_24 := gmi_24.1; have rgmi_24 := gmi_24.2; have qgmi_23 := g_154.1; have rgmi_23 := g_154.2; omega) (by have qgy_162 := g_164.1; have rgy_162 := g_164.2; have qgw0_23 := gw0_23.1; have rgw0_23 := gw0_23.2; have qgv2 := g_159.1; have rgv2 := g_159.2; have qgmi_24 := gmi_24.1; have rgmi_24 := gmi_24.2; have qgmi_23 := g_154.1; have rgmi_23 := g_154.2; omega) (hpr2_r_161.trans (congrFun hinv1 _)) ef_165 (by have qgy_162 := g_164.1; have rgy_162 := g_164.2; have qgx_166 := gx_166.1; have rgx_166 := gx_166.2; have igx_166 : x_166.toInt = v2.toInt + 1 := (by have hc1 : (1 : Int32).toInt = 1 := (by decide); have h9 := gi_addI ex_166 (by have h1 := g_159.1; have h2 := (gi_c 1 1 (by decide)).1; have h3 := g_159.2; have h4 := (gi_c 1 1 (by decide)).2; omega) (by have h1 := g_159.1; have h2 := (gi_c 1 1 (by decide)).1; have h3 := g_159.2; have h4 := (gi_c 1 1 (by decide)).2; omega); rw [hc1] at h9; exact h9); have qgv2 := g_159.1; have rgv2 := g_159.2; have qgw0_23 := gw0_23.1; have rgw0_23 := gw0_23.2; have qgmi_24 := gmi_24.1; have rgmi_24 := gmi_24.2; have qgmi_23 := g_154.1; have rgmi_23 := g_154.2; omega)) (by have av2 := gv2.1; have bv2 := gv2.2; have qgx_166 := gx_166.1; have rgx_166 := gx_166.2; have igx_166 : x_166.toInt = v2.toInt + 1 := (by have hc1 : (1 : Int32).toInt = 1 := (by decide); have h9 := gi_addI ex_166 (by have h1 := g_159.1; have h2 := (gi_c 1 1 (by decide)).1; have h3 := g_159.2; have h4 := (gi_c 1 1 (by decide)).2; omega) (by have h1 := g_159.1; have h2 := (gi_c 1 1 (by decide)).1; have h3 := g_159.2; have h4 := (gi_c 1 1 (by decide)).2; omega); rw [hc1] at h9; exact h9); have qgv2 := g_159.1; have rgv2 := g_159.2; omega) hP hD hS (lv_sub hl [1, 2, 0] rfl)
set_option maxHeartbeats 4000000 in
set_option maxRecDepth 100000 in
theorem sX12_movesRowR24 (l : Launch) (dC : Nat → ClassId) (dI : Nat → Nat → Nat) (sz : Nat) (h0 : Nat) (rw : Nat) (mi : Nat → Int32) (mr : Nat → Nat) (km_kept : ClassId) (fm_kept : Nat → Int32) (krw : ClassId) (frw : Nat → Int32) (gmi_0 : gi (mi 0) 0 100000) (gmi_1 : gi (mi 1) 0 100000) (gmi_2 : gi (mi 2) 0 100000) (gmi_4 : gi (mi 4) 0 1) (gmi_7 : gi (mi 7) 0 6) (gmi_10 : gi (mi 10) 0 24) (gmi_17 : gi (mi 17) 0 8) (gmi_23 : gi (mi 23) 0 300) (gmi_24 : gi (mi 24) 0 1) (gmi_26 : gi (mi 26) 0 1600) (gmi_29 : gi (mi 29) 0 1600) (gmi_30 : gi (mi 30) 0 1600) (gmi_32 : gi (mi 32) 0 100000) (gmi_33 : gi (mi 33) 0 1) (gmi_37 : gi (mi 37) 0 1) (gmi_41 : gi (mi 41) 0 24) (gmi_50 : gi (mi 50) 0 1) (gmi_51 : gi (mi 51) 0 1) (gmi_56 : gi (mi 56) 0 80) (hpq0 : (mi 24).toInt = 0) (hpq1 : (mi 23).toInt ≤ 276) : Met l yX12_movesRow (.code yX12_movesRow cX12_movesRow 3 none :: wsGB) ({ frames := 1, cells := 0, slots := 0, locals := 22 }) (va_Pc [.ref h0, .ref rw] (fun U => U.heap.size = sz ∧ va_P (dC, dI) vwCl [(h0, .inr (12, fsMM mi mr)), ((mr 12), .inl (km_kept, 300, .inl fm_kept)), (rw, .inl (krw, 24, .inl frw))] U.heap ∧ va_K (dC, dI) vwCl [(km_kept, .int), (krw, .int)] U ∧ va_D (fun _ => True) [(h0, .inr (12, fsMM mi mr)), ((mr 12), .inl (km_kept, 300, .inl fm_kept)), (rw, .inl (krw, 24, .inl frw))])) (va_Qv (fun (u : Unit) => True) (fun _ t => ∃ (w0_23 : Int32) (z1 : Nat → Int32) (z2 : Nat → Int32), gi w0_23 0 300 ∧ w0_23.toInt = (mi 23).toInt + 24 ∧ z1 = fm_kept ∧ (∀ j : Nat, (j : Int) < 24 → z2 j = fm_kept ((mi 23).toNatClampNeg + j)) ∧ va_P (dC, dI) vwCl [(h0, .inr (12, fsMM (upd mi 23 w0_23) mr)), ((mr 12), .inl (km_kept, 300, .inl z1)), (rw, .inl (krw, 24, .inl z2))] t.heap ∧ va_D (va_A [(h0, .inr (12, fsMM mi mr)), ((mr 12), .inl (km_kept, 300, .inl fm_kept)), (rw, .inl (krw, 24, .inl frw))] sz) [(h0, .inr (12, fsMM (upd mi 23 w0_23) mr)), ((mr 12), .inl (km_kept, 300, .inl z1)), (rw, .inl (krw, 24, .inl z2))]) (va_A [(h0, .inr (12, fsMM mi mr)), ((mr 12), .inl (km_kept, 300, .inl fm_kept)), (rw, .inl (krw, 24, .inl frw))] sz)) 0 0 (va_A [(h0, .inr (12, fsMM mi mr)), ((mr 12), .inl (km_kept, 300, .inl fm_kept)), (rw, .inl (krw, 24, .inl frw))] sz) := by
  refine Met.ofW (cc := cX12_movesRow) (maxL := 3) (ret := none) (by decide) rfl ?_
  intro p e s m args below meth c s₁ B hml hv
  obtain ⟨rfl, hsz, hP, hK, hD0⟩ := hv
  have hx := B.exec
  have hb := B.bytes
  have hr := B.returns
  have hts := atoms_spec (ws := (.code yX12_movesRow cX12_movesRow 3 none :: wsGB)) B.pre
  have hown : s.vm.findClass RX12 = some m.cls := findClass_of_methodNamed B.named
  have hlocks := B.notSynchronized
  subst hsz
  have hD := hD0.self (sz := s.heap.size)
  generalize hAe : va_A [(h0, .inr (12, fsMM mi mr)), ((mr 12), .inl (km_kept, 300, .inl fm_kept)), (rw, .inl (krw, 24, .inl frw))] s.heap.size = A at hD ⊢
  have hA : ∀ q : Nat, s.heap.size ≤ q → A q := fun q h => by rw [← hAe]; exact Or.inr h
  have hS : va_S A s.heap s.heap [] := va_S.rf
  have hl := lv_entry ([.ref h0, .ref rw]) (n := 3) (Nat.le_of_ble_eq_true rfl)
  rw [lg_entry_eq]
  generalize (lg_sl ([.ref h0, .ref rw]) ++ List.replicate (3 - (lg_sl ([.ref h0, .ref rw])).length) Slot.unset).toArray = ls at hl ⊢
  have hl : lv_has ls 3 [(0, .ref h0), (1, .ref rw)] := hl
  have g_167 : gi (mi 23) 0 276 := ⟨gmi_23.1, by omega⟩
  refine lv_iconst (v := 0) hx hb dX12_movesRow_0 (by decide) ?_
  refine lv_istore_n (lv' := [(2, .int 0), (0, .ref h0), (1, .ref rw)]) hx hb dX12_movesRow_1 rfl hl (by decide) rfl (fun ls hl => ?_)
  refine (lp_sX12_movesRowR24 h0 rw mi mr km_kept fm_kept krw frw gmi_0 gmi_1 gmi_2 gmi_4 gmi_7 gmi_10 gmi_17 gmi_23 gmi_24 gmi_26 gmi_29 gmi_30 gmi_32 gmi_33 gmi_37 gmi_41 gmi_50 gmi_51 gmi_56 hpq0 hpq1 hx hb hml hown hts hK hA (Nat.le_of_ble_eq_true rfl) (Nat.le_of_ble_eq_true rfl) (Nat.zero_le _) (Nat.zero_le _) (fun w0_23 z1 z2 H locs ls gw0_23 hpr0 hpr1 hpr2 hP hD hS hl => ?_) 62) 0 (mi 23) frw _ _ _ (gi_w (gi_c 0 0 (by decide)) (by decide)) (gi_w g_167 (by decide)) (show (mi 23).toInt = (mi 23).toInt + (0 : Int32).toInt from by have k0 : (0 : Int32).toInt = 0 := (by decide); have qgmi_24 := gmi_24.1; have rgmi_24 := gmi_24.2; have qgmi_23 := g_167.1; have rgmi_23 := g_167.2; omega) (show fm_kept = fm_kept from by rfl) (show ∀ j : Nat, (j : Int) < (0 : Int) → frw j = fm_kept ((mi 23).toNatClampNeg + j) from by exact fun j hj => absurd hj (by have h0 : (0 : Int32).toInt = 0 := (by decide); omega)) (by have k0 : (0 : Int32).toInt = 0 := (by decide); omega) hP hD hS (lv_sub hl [1, 2, 0] rfl)
  · skip
    exact W.vret hx hb hr (fun t ht hW => ⟨⟨(), rfl, trivial, w0_23, z1, z2, gw0_23, hpr0, hpr1, hpr2, by rw [ht]; exact hP, hD⟩, hS.F ht⟩) hS.2.2 dX12_movesRow_24
