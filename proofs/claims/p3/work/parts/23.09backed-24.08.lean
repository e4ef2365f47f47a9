theorem dX12_backed_0 : decode cX12_backed 0 = .ok (.aload_n 0, 1) := by decide +kernel
theorem dX12_backed_1 : decode cX12_backed 1 = .ok (.iload_n 1, 1) := by decide +kernel
theorem dX12_backed_2 : decode cX12_backed 2 = .ok (.invokevirtual 359, 3) := by decide +kernel
theorem dX12_backed_5 : decode cX12_backed 5 = .ok (.ifCond .eq 13, 3) := by decide +kernel
theorem dX12_backed_8 : decode cX12_backed 8 = .ok (.iload_n 2, 1) := by decide +kernel
theorem dX12_backed_9 : decode cX12_backed 9 = .ok (.i2l, 1) := by decide +kernel
theorem dX12_backed_10 : decode cX12_backed 10 = .ok (.lconst 0, 1) := by decide +kernel
theorem dX12_backed_11 : decode cX12_backed 11 = .ok (.lconst 1, 1) := by decide +kernel
theorem dX12_backed_12 : decode cX12_backed 12 = .ok (.invokestatic 102, 3) := by decide +kernel
theorem dX12_backed_15 : decode cX12_backed 15 = .ok (.ifCond .ne 6, 3) := by decide +kernel
theorem dX12_backed_18 : decode cX12_backed 18 = .ok (.bipush (-2), 2) := by decide +kernel
theorem dX12_backed_20 : decode cX12_backed 20 = .ok (.ireturn, 1) := by decide +kernel
theorem dX12_backed_21 : decode cX12_backed 21 = .ok (.iconst 0, 1) := by decide +kernel
theorem dX12_backed_22 : decode cX12_backed 22 = .ok (.istore_n 3, 1) := by decide +kernel
theorem dX12_backed_23 : decode cX12_backed 23 = .ok (.iconst 0, 1) := by decide +kernel
theorem dX12_backed_24 : decode cX12_backed 24 = .ok (.istore 4, 2) := by decide +kernel
theorem dX12_backed_26 : decode cX12_backed 26 = .ok (.iload 4, 2) := by decide +kernel
theorem dX12_backed_28 : decode cX12_backed 28 = .ok (.aload_n 0, 1) := by decide +kernel
theorem dX12_backed_29 : decode cX12_backed 29 = .ok (.getfield 141, 3) := by decide +kernel
theorem dX12_backed_32 : decode cX12_backed 32 = .ok (.if_icmp .ge 49, 3) := by decide +kernel
theorem dX12_backed_35 : decode cX12_backed 35 = .ok (.iload_n 3, 1) := by decide +kernel
theorem dX12_backed_36 : decode cX12_backed 36 = .ok (.aload_n 0, 1) := by decide +kernel
theorem dX12_backed_37 : decode cX12_backed 37 = .ok (.iload 4, 2) := by decide +kernel
theorem dX12_backed_39 : decode cX12_backed 39 = .ok (.iload_n 1, 1) := by decide +kernel
theorem dX12_backed_40 : decode cX12_backed 40 = .ok (.invokevirtual 341, 3) := by decide +kernel
theorem dX12_backed_43 : decode cX12_backed 43 = .ok (.ifCond .eq 29, 3) := by decide +kernel
theorem dX12_backed_46 : decode cX12_backed 46 = .ok (.aload_n 0, 1) := by decide +kernel
theorem dX12_backed_47 : decode cX12_backed 47 = .ok (.getfield 19, 3) := by decide +kernel
theorem dX12_backed_50 : decode cX12_backed 50 = .ok (.iload 4, 2) := by decide +kernel
theorem dX12_backed_52 : decode cX12_backed 52 = .ok (.iaload, 1) := by decide +kernel
theorem dX12_backed_53 : decode cX12_backed 53 = .ok (.iconst 2, 1) := by decide +kernel
theorem dX12_backed_54 : decode cX12_backed 54 = .ok (.if_icmp .eq 18, 3) := by decide +kernel
theorem dX12_backed_57 : decode cX12_backed 57 = .ok (.aload_n 0, 1) := by decide +kernel
theorem dX12_backed_58 : decode cX12_backed 58 = .ok (.getfield 7, 3) := by decide +kernel
theorem dX12_backed_61 : decode cX12_backed 61 = .ok (.aload_n 0, 1) := by decide +kernel
theorem dX12_backed_62 : decode cX12_backed 62 = .ok (.getfield 16, 3) := by decide +kernel
theorem dX12_backed_65 : decode cX12_backed 65 = .ok (.iload 4, 2) := by decide +kernel
theorem dX12_backed_67 : decode cX12_backed 67 = .ok (.iaload, 1) := by decide +kernel
theorem dX12_backed_68 : decode cX12_backed 68 = .ok (.iaload, 1) := by decide +kernel
theorem dX12_backed_69 : decode cX12_backed 69 = .ok (.goto 4, 3) := by decide +kernel
theorem dX12_backed_72 : decode cX12_backed 72 = .ok (.iconst 0, 1) := by decide +kernel
theorem dX12_backed_73 : decode cX12_backed 73 = .ok (.iadd, 1) := by decide +kernel
theorem dX12_backed_74 : decode cX12_backed 74 = .ok (.istore_n 3, 1) := by decide +kernel
theorem dX12_backed_75 : decode cX12_backed 75 = .ok (.iinc 4 1, 3) := by decide +kernel
theorem dX12_backed_78 : decode cX12_backed 78 = .ok (.goto (-52), 3) := by decide +kernel
theorem dX12_backed_81 : decode cX12_backed 81 = .ok (.aload_n 0, 1) := by decide +kernel
theorem dX12_backed_82 : decode cX12_backed 82 = .ok (.iload_n 1, 1) := by decide +kernel
theorem dX12_backed_83 : decode cX12_backed 83 = .ok (.iconst 0, 1) := by decide +kernel
theorem dX12_backed_84 : decode cX12_backed 84 = .ok (.invokevirtual 482, 3) := by decide +kernel
theorem dX12_backed_87 : decode cX12_backed 87 = .ok (.istore 4, 2) := by decide +kernel
theorem dX12_backed_89 : decode cX12_backed 89 = .ok (.iload_n 2, 1) := by decide +kernel
theorem dX12_backed_90 : decode cX12_backed 90 = .ok (.ifCond .ne 10, 3) := by decide +kernel
theorem dX12_backed_93 : decode cX12_backed 93 = .ok (.iload_n 3, 1) := by decide +kernel
theorem dX12_backed_94 : decode cX12_backed 94 = .ok (.iload 4, 2) := by decide +kernel
theorem dX12_backed_96 : decode cX12_backed 96 = .ok (.isub, 1) := by decide +kernel
theorem dX12_backed_97 : decode cX12_backed 97 = .ok (.goto 7, 3) := by decide +kernel
theorem dX12_backed_100 : decode cX12_backed 100 = .ok (.aload_n 0, 1) := by decide +kernel
theorem dX12_backed_101 : decode cX12_backed 101 = .ok (.getfield 479, 3) := by decide +kernel
theorem dX12_backed_104 : decode cX12_backed 104 = .ok (.ireturn, 1) := by decide +kernel
set_option maxHeartbeats 4000000 in
set_option maxRecDepth 100000 in
theorem lp_sX12_backed {p : Program} {l : Launch} {e : Env} {R : Room} {s : State} {m : MethodId} {args : Array Value} {below : List Frame} {meth : Method} {c : Code} {Q : State → Prop} {A : Nat → Prop} {cells slots : Nat} {dC : Nat → ClassId} {dI : Nat → Nat → Nat} (h0 : Nat) (mi : Nat → Int32) (mr : Nat → Nat) (km_must : ClassId) (fm_must : Nat → Int32) (km_least : ClassId) (fm_least : Nat → Int32) (km_pin : ClassId) (fm_pin : Nat → Int32) (km_ways : ClassId) (fm_ways : Nat → Int32) (km_verdict : ClassId) (fm_verdict : Nat → Int32) (km_row : ClassId) (fm_row : Nat → Int32) (km_struck : ClassId) (fm_struck : Nat → Int32) (km_reportKnown : ClassId) (fm_reportKnown : Nat → Int32) (km_reportPlace : ClassId) (fm_reportPlace : Nat → Int32) (km_reportMonth : ClassId) (fm_reportMonth : Nat → Int32) (km_reportDay : ClassId) (fm_reportDay : Nat → Int32) (km_reportKind : ClassId) (fm_reportKind : Nat → Int32) (km_trust : ClassId) (fm_trust : Nat → Int32) (km_letter : ClassId) (fm_letter : Nat → Int32) (km_worth : ClassId) (fm_worth : Nat → Int32) (p1 : Int32) (p2 : Int32) (gmi_0 : gi (mi 0) 0 24) (gmi_1 : gi (mi 1) 0 5) (gmi_2 : gi (mi 2) 0 5) (gmi_4 : gi (mi 4) 0 1) (gmi_7 : gi (mi 7) 0 6) (gmi_10 : gi (mi 10) 0 24) (gmi_17 : gi (mi 17) 0 8) (gmi_23 : gi (mi 23) 0 300) (gmi_24 : gi (mi 24) 0 1) (gmi_26 : gi (mi 26) 0 1600) (gmi_29 : gi (mi 29) 0 1600) (gmi_30 : gi (mi 30) 0 1600) (gmi_33 : gi (mi 33) 0 1) (gmi_37 : gi (mi 37) 0 1) (gmi_41 : gi (mi 41) 0 24) (gmi_50 : gi (mi 50) 0 1) (gmi_51 : gi (mi 51) 0 1) (gmi_56 : gi (mi 56) 0 80) (gfm_row : ga fm_row 24 0 23) (gfm_struck : ga fm_struck 24 0 1) (gfm_reportKnown : ga fm_reportKnown 24 0 999) (gfm_reportPlace : ga fm_reportPlace 24 0 5) (gfm_reportMonth : ga fm_reportMonth 24 0 23) (gfm_reportDay : ga fm_reportDay 24 0 999) (hx : p.tables.exec = Jvm.exec) (hb : c.code = cX12_backed) (hml : c.maxLocals = 5) (hown : s.vm.findClass RX12 = some m.cls) (hts : ∀ w ∈ ((.code yX12_backed cX12_backed 5 (some .int) :: wsGB) : List Cond), w.before args s = true) (hK : va_K (dC, dI) vwCl [(km_must, .int), (km_least, .int), (km_pin, .int), (km_ways, .int), (km_verdict, .int), (km_row, .int), (km_struck, .boolean), (km_reportKnown, .int), (km_reportPlace, .int), (km_reportMonth, .int), (km_reportDay, .int), (km_reportKind, .int), (km_trust, .int), (km_letter, .int), (km_worth, .int)] s) (hA : ∀ q : Nat, s.heap.size ≤ q → A q) (hRf : 3 ≤ R.frames) (hRl : 76 ≤ R.locals) (hRc : cells ≤ R.cells) (hRs : slots ≤ R.slots) (kr20 : ∀ (v : Int32) (w0_54 : Int32) (z15 : Nat → Int32) (H : Heap) (locs : List Loc) (ls : Array Slot), gi v (-2) (-2) → va_P (dC, dI) vwCl [(h0, .inr (12, fsMM (upd mi 54 w0_54) mr)), ((mr 14), .inl (km_must, 25, .inl fm_must)), ((mr 15), .inl (km_least, 25, .inl fm_least)), ((mr 16), .inl (km_pin, 25, .inl fm_pin)), ((mr 17), .inl (km_ways, 6875, .inl fm_ways)), ((mr 18), .inl (km_verdict, 24, .inl fm_verdict)), ((mr 19), .inl (km_row, 24, .inl fm_row)), ((mr 4), .inl (km_struck, 24, .inl fm_struck)), ((mr 7), .inl (km_reportKnown, 24, .inl fm_reportKnown)), ((mr 2), .inl (km_reportPlace, 24, .inl fm_reportPlace)), ((mr 5), .inl (km_reportMonth, 24, .inl fm_reportMonth)), ((mr 6), .inl (km_reportDay, 24, .inl fm_reportDay)), ((mr 3), .inl (km_reportKind, 24, .inl fm_reportKind)), ((mr 0), .inl (km_trust, 6, .inl fm_trust)), ((mr 1), .inl (km_letter, 36, .inl fm_letter)), ((mr 22), .inl (km_worth, 6875, .inl z15))] H → va_D A [(h0, .inr (12, fsMM (upd mi 54 w0_54) mr)), ((mr 14), .inl (km_must, 25, .inl fm_must)), ((mr 15), .inl (km_least, 25, .inl fm_least)), ((mr 16), .inl (km_pin, 25, .inl fm_pin)), ((mr 17), .inl (km_ways, 6875, .inl fm_ways)), ((mr 18), .inl (km_verdict, 24, .inl fm_verdict)), ((mr 19), .inl (km_row, 24, .inl fm_row)), ((mr 4), .inl (km_struck, 24, .inl fm_struck)), ((mr 7), .inl (km_reportKnown, 24, .inl fm_reportKnown)), ((mr 2), .inl (km_reportPlace, 24, .inl fm_reportPlace)), ((mr 5), .inl (km_reportMonth, 24, .inl fm_reportMonth)), ((mr 6), .inl (km_reportDay, 24, .inl fm_reportDay)), ((mr 3), .inl (km_reportKind, 24, .inl fm_reportKind)), ((mr 0), .inl (km_trust, 6, .inl fm_trust)), ((mr 1), .inl (km_letter, 36, .inl fm_letter)), ((mr 22), .inl (km_worth, 6875, .inl z15))] → va_S A s.heap H locs → lv_has ls 5 [] → W p l e R s m args below meth c H locs cells slots Q (F0 m 20 ls [.int v])) (kr104 : ∀ (v : Int32) (w0_54 : Int32) (z15 : Nat → Int32) (H : Heap) (locs : List Loc) (ls : Array Slot), va_P (dC, dI) vwCl [(h0, .inr (12, fsMM (upd mi 54 w0_54) mr)), ((mr 14), .inl (km_must, 25, .inl fm_must)), ((mr 15), .inl (km_least, 25, .inl fm_least)), ((mr 16), .inl (km_pin, 25, .inl fm_pin)), ((mr 17), .inl (km_ways, 6875, .inl fm_ways)), ((mr 18), .inl (km_verdict, 24, .inl fm_verdict)), ((mr 19), .inl (km_row, 24, .inl fm_row)), ((mr 4), .inl (km_struck, 24, .inl fm_struck)), ((mr 7), .inl (km_reportKnown, 24, .inl fm_reportKnown)), ((mr 2), .inl (km_reportPlace, 24, .inl fm_reportPlace)), ((mr 5), .inl (km_reportMonth, 24, .inl fm_reportMonth)), ((mr 6), .inl (km_reportDay, 24, .inl fm_reportDay)), ((mr 3), .inl (km_reportKind, 24, .inl fm_reportKind)), ((mr 0), .inl (km_trust, 6, .inl fm_trust)), ((mr 1), .inl (km_letter, 36, .inl fm_letter)), ((mr 22), .inl (km_worth, 6875, .inl z15))] H → va_D A [(h0, .inr (12, fsMM (upd mi 54 w0_54) mr)), ((mr 14), .inl (km_must, 25, .inl fm_must)), ((mr 15), .inl (km_least, 25, .inl fm_least)), ((mr 16), .inl (km_pin, 25, .inl fm_pin)), ((mr 17), .inl (km_ways, 6875, .inl fm_ways)), ((mr 18), .inl (km_verdict, 24, .inl fm_verdict)), ((mr 19), .inl (km_row, 24, .inl fm_row)), ((mr 4), .inl (km_struck, 24, .inl fm_struck)), ((mr 7), .inl (km_reportKnown, 24, .inl fm_reportKnown)), ((mr 2), .inl (km_reportPlace, 24, .inl fm_reportPlace)), ((mr 5), .inl (km_reportMonth, 24, .inl fm_reportMonth)), ((mr 6), .inl (km_reportDay, 24, .inl fm_reportDay)), ((mr 3), .inl (km_reportKind, 24, .inl fm_reportKind)), ((mr 0), .inl (km_trust, 6, .inl fm_trust)), ((mr 1), .inl (km_letter, 36, .inl fm_letter)), ((mr 22), .inl (km_worth, 6875, .inl z15))] → va_S A s.heap H locs → lv_has ls 5 [] → W p l e R s m args below meth c H locs cells slots Q (F0 m 104 ls [.int v])) : ∀ z : Nat, (∀ (v3 : Int32) (v4 : Int32) (H : Heap) (locs : List Loc) (ls : Array Slot), gi p1 0 999 → gi p2 0 1 → gi v4 0 24 → 49 + (-2) * v4.toInt < (z : Int) → va_P (dC, dI) vwCl [(h0, .inr (12, fsMM mi mr)), ((mr 14), .inl (km_must, 25, .inl fm_must)), ((mr 15), .inl (km_least, 25, .inl fm_least)), ((mr 16), .inl (km_pin, 25, .inl fm_pin)), ((mr 17), .inl (km_ways, 6875, .inl fm_ways)), ((mr 18), .inl (km_verdict, 24, .inl fm_verdict)), ((mr 19), .inl (km_row, 24, .inl fm_row)), ((mr 4), .inl (km_struck, 24, .inl fm_struck)), ((mr 7), .inl (km_reportKnown, 24, .inl fm_reportKnown)), ((mr 2), .inl (km_reportPlace, 24, .inl fm_reportPlace)), ((mr 5), .inl (km_reportMonth, 24, .inl fm_reportMonth)), ((mr 6), .inl (km_reportDay, 24, .inl fm_reportDay)), ((mr 3), .inl (km_reportKind, 24, .inl fm_reportKind)), ((mr 0), .inl (km_trust, 6, .inl fm_trust)), ((mr 1), .inl (km_letter, 36, .inl fm_letter)), ((mr 22), .inl (km_worth, 6875, .inl fm_worth))] H → va_D A [(h0, .inr (12, fsMM mi mr)), ((mr 14), .inl (km_must, 25, .inl fm_must)), ((mr 15), .inl (km_least, 25, .inl fm_least)), ((mr 16), .inl (km_pin, 25, .inl fm_pin)), ((mr 17), .inl (km_ways, 6875, .inl fm_ways)), ((mr 18), .inl (km_verdict, 24, .inl fm_verdict)), ((mr 19), .inl (km_row, 24, .inl fm_row)), ((mr 4), .inl (km_struck, 24, .inl fm_struck)), ((mr 7), .inl (km_reportKnown, 24, .inl fm_reportKnown)), ((mr 2), .inl (km_reportPlace, 24, .inl fm_reportPlace)), ((mr 5), .inl (km_reportMonth, 24, .inl fm_reportMonth)), ((mr 6), .inl (km_reportDay, 24, .inl fm_reportDay)), ((mr 3), .inl (km_reportKind, 24, .inl fm_reportKind)), ((mr 0), .inl (km_trust, 6, .inl fm_trust)), ((mr 1), .inl (km_letter, 36, .inl fm_letter)), ((mr 22), .inl (km_worth, 6875, .inl fm_worth))] → va_S A s.heap H locs → lv_has ls 5 [(0, .ref h0), (1, .int p1), (2, .int p2), (3, .int v3), (4, .int v4)] → W p l e R s m args below meth c H locs cells slots Q (F0 m 26 ls [])) := by
  intro z
  induction z with
  | zero =>
    intro v3 v4 H locs ls gf_p1 gf_p2 gv4 hmu hP hD hS hl
    exact absurd hmu (by have hv41 := gv4.1; have hv42 := gv4.2; omega)
  | succ z ih =>
      intro v3 v4 H locs ls gf_p1 gf_p2 gv4 hmu hP hD hS hl
      refine lv_iload hx hb dX12_backed_26 (lv_at hl 4 rfl) ?_
      refine lv_aload_n hx hb dX12_backed_28 rfl (lv_at hl 0 rfl) ?_
      refine va_get (D := (dC, dI)) (ci := 12) (v := .int (mi 10)) (C := RX12) (T := TX12) (N := 57) hx hb hts (fun w h => List.mem_cons_of_mem _ (jnGB_X12 w h)) hown hK hP 0 rfl rfl 10 (by decide) (hts _ (List.mem_cons_of_mem _ mGB_111)) (fun _ h9 => h9) rfl dX12_backed_29 ?_
      refine lv_icmp_ge (tgt := 81) hx hb dX12_backed_32 (by decide) (fun c_541 => ?_) (fun c_541 => ?_)
      · refine lv_aload_n hx hb dX12_backed_81 rfl (lv_at hl 0 rfl) ?_
        refine lv_iload_n hx hb dX12_backed_82 rfl (lv_at hl 1 rfl) ?_
        refine lv_iconst (v := 0) hx hb dX12_backed_83 (by decide) ?_
        have hPc := hP.sub (ws' := [(h0, .inr (12, fsMM mi mr)), ((mr 22), .inl (km_worth, 6875, .inl fm_worth)), ((mr 14), .inl (km_must, 25, .inl fm_must)), ((mr 15), .inl (km_least, 25, .inl fm_least)), ((mr 16), .inl (km_pin, 25, .inl fm_pin)), ((mr 4), .inl (km_struck, 24, .inl fm_struck)), ((mr 7), .inl (km_reportKnown, 24, .inl fm_reportKnown)), ((mr 5), .inl (km_reportMonth, 24, .inl fm_reportMonth)), ((mr 3), .inl (km_reportKind, 24, .inl fm_reportKind)), ((mr 6), .inl (km_reportDay, 24, .inl fm_reportDay)), ((mr 2), .inl (km_reportPlace, 24, .inl fm_reportPlace)), ((mr 0), .inl (km_trust, 6, .inl fm_trust))]) [0, 15, 1, 2, 3, 7, 8, 10, 12, 11, 9, 13] rfl
        have hKc := hK.sub (tys' := [(km_worth, .int), (km_must, .int), (km_least, .int), (km_pin, .int), (km_struck, .boolean), (km_reportKnown, .int), (km_reportMonth, .int), (km_reportKind, .int), (km_reportDay, .int), (km_reportPlace, .int), (km_trust, .int)]) [14, 0, 1, 2, 6, 7, 9, 11, 10, 8, 12] rfl
        have hDc := hD.sub (ws' := [(h0, .inr (12, fsMM mi mr)), ((mr 22), .inl (km_worth, 6875, .inl fm_worth)), ((mr 14), .inl (km_must, 25, .inl fm_must)), ((mr 15), .inl (km_least, 25, .inl fm_least)), ((mr 16), .inl (km_pin, 25, .inl fm_pin)), ((mr 4), .inl (km_struck, 24, .inl fm_struck)), ((mr 7), .inl (km_reportKnown, 24, .inl fm_reportKnown)), ((mr 5), .inl (km_reportMonth, 24, .inl fm_reportMonth)), ((mr 3), .inl (km_reportKind, 24, .inl fm_reportKind)), ((mr 6), .inl (km_reportDay, 24, .inl fm_reportDay)), ((mr 2), .inl (km_reportPlace, 24, .inl fm_reportPlace)), ((mr 0), .inl (km_trust, 6, .inl fm_trust))]) [0, 15, 1, 2, 3, 7, 8, 10, 12, 11, 9, 13] (by decide) rfl
        have hFc := va_free (wc := [(h0, .inr (12, fsMM mi mr)), ((mr 22), .inl (km_worth, 6875, .inl fm_worth)), ((mr 14), .inl (km_must, 25, .inl fm_must)), ((mr 15), .inl (km_least, 25, .inl fm_least)), ((mr 16), .inl (km_pin, 25, .inl fm_pin)), ((mr 4), .inl (km_struck, 24, .inl fm_struck)), ((mr 7), .inl (km_reportKnown, 24, .inl fm_reportKnown)), ((mr 5), .inl (km_reportMonth, 24, .inl fm_reportMonth)), ((mr 3), .inl (km_reportKind, 24, .inl fm_reportKind)), ((mr 6), .inl (km_reportDay, 24, .inl fm_reportDay)), ((mr 2), .inl (km_reportPlace, 24, .inl fm_reportPlace)), ((mr 0), .inl (km_trust, 6, .inl fm_trust))]) hD hS hA [0, 15, 1, 2, 3, 7, 8, 10, 12, 11, 9, 13] rfl
        refine va_calli (va_runV (As := [.int p1, .int 0]) (rest := []) ⟨hx, hb, hml, hown, hts⟩ (sX12_laysWorth l dC dI H.size h0 mi mr km_worth fm_worth km_must fm_must km_least fm_least km_pin fm_pin km_struck fm_struck km_reportKnown fm_reportKnown km_reportMonth fm_reportMonth km_reportKind fm_reportKind km_reportDay fm_reportDay km_reportPlace fm_reportPlace km_trust fm_trust p1 0 gmi_0 gmi_1 gmi_2 gmi_4 gmi_7 gmi_10 gmi_17 gmi_23 gmi_24 gmi_26 gmi_29 gmi_30 gmi_33 gmi_37 gmi_41 gmi_50 gmi_51 gmi_56 gfm_struck gfm_reportKnown gfm_reportMonth gfm_reportDay gfm_reportPlace (gi_w (gi_c 0 0 (by decide)) (by decide))) (cwV 2 hts (gz_gV mGB_553 mGB_554 mGB_555 mGB_1 mGB_556 goodGB) rfl rfl rfl (by decide +kernel) ⟨Nat.le_trans (Nat.le_of_ble_eq_true rfl) hRf, Nat.le_trans (Nat.le_of_ble_eq_true rfl) hRl⟩) ⟨fun a U g mk q => by obtain ⟨q0, q1, qP, qK, qD⟩ := q; exact ⟨q0, q1, qP, va_K.moved (u := U) (U := U.calling g mk a) (Vm.Alike.refl U.vm) qK, qD⟩, va_recv hKc hPc (ci := 12) (q0 := 0) rfl rfl, fun U hU hW => ⟨rfl, by rw [hU], by rw [hU]; exact hPc, va_K.moved hW.alike hKc, hDc.weaken (fun _ _ _ _ => trivial)⟩⟩ rfl rfl hl.1 rfl (lv_room (Nat.le_of_ble_eq_true rfl)) dX12_backed_84 ⟨hRc, hRs⟩) hS (fun q _ h => hFc q h) hFc (fun r_542 u t H1 locs ht hvm hw hB hz1 hk1 hS => ?_)
        obtain ⟨y_543, f_544, hP1, hD1⟩ := hB
        rw [ht] at hP1
        obtain ⟨hP, hD⟩ := va_join (wr := [((mr 17), .inl (km_ways, 6875, .inl fm_ways)), ((mr 18), .inl (km_verdict, 24, .inl fm_verdict)), ((mr 19), .inl (km_row, 24, .inl fm_row)), ((mr 1), .inl (km_letter, 36, .inl fm_letter))]) (w1 := [(h0, .inr (12, fsMM (upd mi 54 y_543) mr)), ((mr 22), .inl (km_worth, 6875, .inl f_544)), ((mr 14), .inl (km_must, 25, .inl fm_must)), ((mr 15), .inl (km_least, 25, .inl fm_least)), ((mr 16), .inl (km_pin, 25, .inl fm_pin)), ((mr 4), .inl (km_struck, 24, .inl fm_struck)), ((mr 7), .inl (km_reportKnown, 24, .inl fm_reportKnown)), ((mr 5), .inl (km_reportMonth, 24, .inl fm_reportMonth)), ((mr 3), .inl (km_reportKind, 24, .inl fm_reportKind)), ((mr 6), .inl (km_reportDay, 24, .inl fm_reportDay)), ((mr 2), .inl (km_reportPlace, 24, .inl fm_reportPlace)), ((mr 0), .inl (km_trust, 6, .inl fm_trust))]) hP hD [0, 15, 1, 2, 3, 7, 8, 10, 12, 11, 9, 13] [4, 5, 6, 14] rfl rfl (by decide) (by decide) hk1 hFc hP1 hD1
        have hP := hP.sub (ws' := [(h0, .inr (12, fsMM (upd mi 54 y_543) mr)), ((mr 14), .inl (km_must, 25, .inl fm_must)), ((mr 15), .inl (km_least, 25, .inl fm_least)), ((mr 16), .inl (km_pin, 25, .inl fm_pin)), ((mr 17), .inl (km_ways, 6875, .inl fm_ways)), ((mr 18), .inl (km_verdict, 24, .inl fm_verdict)), ((mr 19), .inl (km_row, 24, .inl fm_row)), ((mr 4), .inl (km_struck, 24, .inl fm_struck)), ((mr 7), .inl (km_reportKnown, 24, .inl fm_reportKnown)), ((mr 2), .inl (km_reportPlace, 24, .inl fm_reportPlace)), ((mr 5), .inl (km_reportMonth, 24, .inl fm_reportMonth)), ((mr 6), .inl (km_reportDay, 24, .inl fm_reportDay)), ((mr 3), .inl (km_reportKind, 24, .inl fm_reportKind)), ((mr 0), .inl (km_trust, 6, .inl fm_trust)), ((mr 1), .inl (km_letter, 36, .inl fm_letter)), ((mr 22), .inl (km_worth, 6875, .inl f_544))]) [4, 6, 7, 8, 0, 1, 2, 9, 10, 14, 11, 13, 12, 15, 3, 5] rfl
        have hD := hD.sub (ws' := [(h0, .inr (12, fsMM (upd mi 54 y_543) mr)), ((mr 14), .inl (km_must, 25, .inl fm_must)), ((mr 15), .inl (km_least, 25, .inl fm_least)), ((mr 16), .inl (km_pin, 25, .inl fm_pin)), ((mr 17), .inl (km_ways, 6875, .inl fm_ways)), ((mr 18), .inl (km_verdict, 24, .inl fm_verdict)), ((mr 19), .inl (km_row, 24, .inl fm_row)), ((mr 4), .inl (km_struck, 24, .inl fm_struck)), ((mr 7), .inl (km_reportKnown, 24, .inl fm_reportKnown)), ((mr 2), .inl (km_reportPlace, 24, .inl fm_reportPlace)), ((mr 5), .inl (km_reportMonth, 24, .inl fm_reportMonth)), ((mr 6), .inl (km_reportDay, 24, .inl fm_reportDay)), ((mr 3), .inl (km_reportKind, 24, .inl fm_reportKind)), ((mr 0), .inl (km_trust, 6, .inl fm_trust)), ((mr 1), .inl (km_letter, 36, .inl fm_letter)), ((mr 22), .inl (km_worth, 6875, .inl f_544))]) [4, 6, 7, 8, 0, 1, 2, 9, 10, 14, 11, 13, 12, 15, 3, 5] (by decide) rfl
        generalize H1 = H at hP hS ⊢
        refine lv_istore (lv' := [(4, .int r_542), (0, .ref h0), (1, .int p1), (2, .int p2), (3, .int v3)]) hx hb dX12_backed_87 hl (by decide) rfl (fun ls hl => ?_)
        refine lv_iload_n hx hb dX12_backed_89 rfl (lv_at hl 3 rfl) ?_
        refine lv_if_ne (tgt := 100) hx hb dX12_backed_90 (by decide) (fun c_545 => ?_) (fun c_545 => ?_)
        · have g_546 : gi p2 1 1 := gi_ne_lo c_545 gf_p2 (gi_c 0 0 (by decide)) (by decide)
          refine lv_aload_n hx hb dX12_backed_100 rfl (lv_at hl 1 rfl) ?_
          refine va_get (D := (dC, dI)) (ci := 12) (v := .int y_543) (C := RX12) (T := TX12) (N := 57) hx hb hts (fun w h => List.mem_cons_of_mem _ (jnGB_X12 w h)) hown hK hP 0 rfl rfl 54 (by decide) (hts _ (List.mem_cons_of_mem _ mGB_552)) (fun _ h9 => h9) rfl dX12_backed_101 ?_
          exact kr104 y_543 y_543 f_544 _ _ _ hP hD hS (lv_sub hl [] rfl)
        · have g_547 : gi p2 0 0 := gi_eq c_545 (gi_c 0 0 (by decide))
          refine lv_iload_n hx hb dX12_backed_93 rfl (lv_at hl 4 rfl) ?_
          refine lv_iload hx hb dX12_backed_94 (lv_at hl 0 rfl) ?_
          refine lv_isub hx hb dX12_backed_96 ?_
          refine lv_topi (fun x_548 ex_548 => ?_)
          refine lv_goto (tgt := 104) hx hb dX12_backed_97 (by decide) ?_
          exact kr104 x_548 y_543 f_544 _ _ _ hP hD hS (lv_sub hl [] rfl)
      · have g_549 : gi v4 0 23 := gi_lt_l (Int32.not_le.mp c_541) gv4 gmi_10 (by decide)
        have g_550 : gi (mi 10) 1 24 := gi_lt_r (Int32.not_le.mp c_541) gv4 gmi_10 (by decide)
        refine lv_iload_n hx hb dX12_backed_35 rfl (lv_at hl 3 rfl) ?_
        refine lv_aload_n hx hb dX12_backed_36 rfl (lv_at hl 0 rfl) ?_
        refine lv_iload hx hb dX12_backed_37 (lv_at hl 4 rfl) ?_
        refine lv_iload_n hx hb dX12_backed_39 rfl (lv_at hl 1 rfl) ?_
        have hPc := hP.sub (ws' := [(h0, .inr (12, fsMM mi mr)), ((mr 4), .inl (km_struck, 24, .inl fm_struck)), ((mr 7), .inl (km_reportKnown, 24, .inl fm_reportKnown))]) [0, 7, 8] rfl
        have hKc := hK.sub (tys' := [(km_struck, .boolean), (km_reportKnown, .int)]) [6, 7] rfl
        refine va_calli (va_runV (As := [.int v4, .int p1]) (rest := [.int v3]) ⟨hx, hb, hml, hown, hts⟩ (sX12_isKnown l dC dI h0 mi mr km_struck fm_struck km_reportKnown fm_reportKnown v4 p1 gmi_0 gmi_1 gmi_2 gmi_4 gmi_7 (gi_w g_550 (by decide)) gmi_17 gmi_23 gmi_24 gmi_26 gmi_29 gmi_30 gmi_33 gmi_37 gmi_41 gmi_50 gmi_51 gmi_56 gfm_struck gfm_reportKnown g_549) (cwV 2 hts (gz_gV mGB_279 mGB_280 mGB_281 mGB_1 mGB_282 goodGB) rfl rfl rfl (by decide +kernel) ⟨Nat.le_trans (Nat.le_of_ble_eq_true rfl) hRf, Nat.le_trans (Nat.le_of_ble_eq_true rfl) hRl⟩) ⟨fun a U g mk q => by obtain ⟨q0, qP, qK⟩ := q; exact ⟨q0, qP, va_K.moved (u := U) (U := U.calling g mk a) (Vm.Alike.refl U.vm) qK⟩, va_recv hKc hPc (ci := 12) (q0 := 0) rfl rfl, fun U hU hW => ⟨rfl, by rw [hU]; exact hPc, va_K.moved hW.alike hKc⟩⟩ rfl rfl hl.1 rfl (lv_room (Nat.le_of_ble_eq_true rfl)) dX12_backed_40 ⟨hRc, hRs⟩) hS (fun q _ h => h.elim) (fun q h => h.elim) (fun r_551 u t H1 locs ht hvm hw hB hz1 hk1 hS => ?_)
        have hP := gz_keep hP hk1
        generalize H1 = H at hP hS ⊢
        have gr_551 : gi r_551 0 1 := hw
        refine lv_if_eq (tgt := 72) hx hb dX12_backed_43 (by decide) (fun c_552 => ?_) (fun c_552 => ?_)
        · have g_553 : gi r_551 0 0 := gi_eq c_552 (gi_c 0 0 (by decide))
          refine lv_iconst (v := 0) hx hb dX12_backed_72 (by decide) ?_
          refine lv_iadd hx hb dX12_backed_73 ?_
          refine lv_topi (fun x_554 ex_554 => ?_)
          refine lv_istore_n (lv' := [(3, .int x_554), (0, .ref h0), (1, .int p1), (2, .int p2), (4, .int v4)]) hx hb dX12_backed_74 rfl hl (by decide) rfl (fun ls hl => ?_)
          obtain ⟨x_555, ex_555⟩ : ∃ y : Int32, y = v4 + 1 := ⟨_, rfl⟩
          have gx_555 : gi x_555 1 24 := gi_add ex_555 g_549 (gi_c 1 1 (by decide)) (by decide)
          refine lv_iinc (v := x_555) (lv' := [(4, .int x_555), (3, .int x_554), (0, .ref h0), (1, .int p1), (2, .int p2)]) hx hb dX12_backed_75 hl (k := 4) rfl (by rw [ex_555]; rfl) (by decide) rfl (fun ls hl => ?_)
          refine lv_goto (tgt := 26) hx hb dX12_backed_78 (by decide) ?_
          exact ih x_554 x_555 _ _ _ gf_p1 gf_p2 (gi_w gx_555 (by decide)) (by have av4 := gv4.1; have bv4 := gv4.2; have qgx_555 := gx_555.1; have rgx_555 := gx_555.2; have igx_555 : x_555.toInt = v4.toInt + 1 := (by have hc1 : (1 : Int32).toInt = 1 := (by decide); have h9 := gi_addI ex_555 (by have h1 := g_549.1; have h2 := (gi_c 1 1 (by decide)).1; have h3 := g_549.2; have h4 := (gi_c 1 1 (by decide)).2; omega) (by have h1 := g_549.1; have h2 := (gi_c 1 1 (by decide)).1; have h3 := g_549.2; have h4 := (gi_c 1 1 (by decide)).2; omega); rw [hc1] at h9; exact h9); have qgv4 := g_549.1; have rgv4 := g_549.2; omega) hP hD hS (lv_sub hl [2, 3, 4, 1, 0] rfl)
        · have g_556 : gi r_551 1 1 := gi_ne_lo c_552 gr_551 (gi_c 0 0 (by decide)) (by decide)
          refine lv_aload_n hx hb dX12_backed_46 rfl (lv_at hl 0 rfl) ?_
          refine va_get (D := (dC, dI)) (ci := 12) (v := .ref (mr 3)) (C := RX12) (T := TX12) (N := 57) hx hb hts (fun w h => List.mem_cons_of_mem _ (jnGB_X12 w h)) hown hK hP 0 rfl rfl 12 (by decide) (hts _ (List.mem_cons_of_mem _ mGB_13)) (fun _ h9 => h9) rfl dX12_backed_47 ?_
          refine lv_iload hx hb dX12_backed_50 (lv_at hl 4 rfl) ?_
          refine va_iald hx hb hK hP 12 11 rfl rfl (gi_in g_549 (by decide)) dX12_backed_52 ?_
          refine lv_topi (fun x_557 ex_557 => ?_)
          refine lv_iconst (v := 2) hx hb dX12_backed_53 (by decide) ?_
          refine lv_icmp_eq (tgt := 72) hx hb dX12_backed_54 (by decide) (fun c_558 => ?_) (fun c_558 => ?_)
          · have g_559 : gi x_557 2 2 := gi_eq c_558 (gi_c 2 2 (by decide))
            refine lv_iconst (v := 0) hx hb dX12_backed_72 (by decide) ?_
            refine lv_iadd hx hb dX12_backed_73 ?_
            refine lv_topi (fun x_560 ex_560 => ?_)
            refine lv_istore_n (lv' := [(3, .int x_560), (0, .ref h0), (1, .int p1), (2, .int p2), (4, .int v4)]) hx hb dX12_backed_74 rfl hl (by decide) rfl (fun ls hl => ?_)
            obtain ⟨x_561, ex_561⟩ : ∃ y : Int32, y = v4 + 1 := ⟨_, rfl⟩
            have gx_561 : gi x_561 1 24 := gi_add ex_561 g_549 (gi_c 1 1 (by decide)) (by decide)
            refine lv_iinc (v := x_561) (lv' := [(4, .int x_561), (3, .int x_560), (0, .ref h0), (1, .int p1), (2, .int p2)]) hx hb dX12_backed_75 hl (k := 4) rfl (by rw [ex_561]; rfl) (by decide) rfl (fun ls hl => ?_)
            refine lv_goto (tgt := 26) hx hb dX12_backed_78 (by decide) ?_
            exact ih x_560 x_561 _ _ _ gf_p1 gf_p2 (gi_w gx_561 (by decide)) (by have av4 := gv4.1; have bv4 := gv4.2; have qgx_561 := gx_561.1; have rgx_561 := gx_561.2; have igx_561 : x_561.toInt = v4.toInt + 1 := (by have hc1 : (1 : Int32).toInt = 1 := (by decide); have h9 := gi_addI ex_561 (by have h1 := g_549.1; have h2 := (gi_c 1 1 (by decide)).1; have h3 := g_549.2; have h4 := (gi_c 1 1 (by decide)).2; omega) (by have h1 := g_549.1; have h2 := (gi_c 1 1 (by decide)).1; have h3 := g_549.2; have h4 := (gi_c 1 1 (by decide)).2; omega); rw [hc1] at h9; exact h9); have qgv4 := g_549.1; have rgv4 := g_549.2; omega) hP hD hS (lv_sub hl [2, 3, 4, 1, 0] rfl)
          · refine lv_aload_n hx hb dX12_backed_57 rfl (lv_at hl 0 rfl) ?_
            refine va_get (D := (dC, dI)) (ci := 12) (v := .ref (mr 0)) (C := RX12) (T := TX12) (N := 57) hx hb hts (fun w h => List.mem_cons_of_mem _ (jnGB_X12 w h)) hown hK hP 0 rfl rfl 8 (by decide) (hts _ (List.mem_cons_of_mem _ mGB_10)) (fun _ h9 => h9) rfl dX12_backed_58 ?_
            refine lv_aload_n hx hb dX12_backed_61 rfl (lv_at hl 0 rfl) ?_
            refine va_get (D := (dC, dI)) (ci := 12) (v := .ref (mr 2)) (C := RX12) (T := TX12) (N := 57) hx hb hts (fun w h => List.mem_cons_of_mem _ (jnGB_X12 w h)) hown hK hP 0 rfl rfl 11 (by decide) (hts _ (List.mem_cons_of_mem _ mGB_12)) (fun _ h9 => h9) rfl dX12_backed_62 ?_
            refine lv_iload hx hb dX12_backed_65 (lv_at hl 4 rfl) ?_
            refine va_iald hx hb hK hP 9 8 rfl rfl (gi_in g_549 (by decide)) dX12_backed_67 ?_
            refine lv_topi (fun x_562 ex_562 => ?_)
            have gx_562 : gi x_562 0 5 := ga_at gfm_reportPlace (gi_in g_549 (by decide)) ex_562
            refine va_iald hx hb hK hP 13 12 rfl rfl (gi_in gx_562 (by decide)) dX12_backed_68 ?_
            refine lv_topi (fun x_563 ex_563 => ?_)
            refine lv_goto (tgt := 73) hx hb dX12_backed_69 (by decide) ?_
            refine lv_iadd hx hb dX12_backed_73 ?_
            refine lv_topi (fun x_564 ex_564 => ?_)
            refine lv_istore_n (lv' := [(3, .int x_564), (0, .ref h0), (1, .int p1), (2, .int p2), (4, .int v4)]) hx hb dX12_backed_74 rfl hl (by decide) rfl (fun ls hl => ?_)
            obtain ⟨x_565, ex_565⟩ : ∃ y : Int32, y = v4 + 1 := ⟨_, rfl⟩
            have gx_565 : gi x_565 1 24 := gi_add ex_565 g_549 (gi_c 1 1 (by decide)) (by decide)
            refine lv_iinc (v := x_565) (lv' := [(4, .int x_565), (3, .int x_564), (0, .ref h0), (1, .int p1), (2, .int p2)]) hx hb dX12_backed_75 hl (k := 4) rfl (by rw [ex_565]; rfl) (by decide) rfl (fun ls hl => ?_)
            refine lv_goto (tgt := 26) hx hb dX12_backed_78 (by decide) ?_
            exact ih x_564 x_565 _ _ _ gf_p1 gf_p2 (gi_w gx_565 (by decide)) (by have av4 := gv4.1; have bv4 := gv4.2; have qgx_565 := gx_565.1; have rgx_565 := gx_565.2; have igx_565 : x_565.toInt = v4.toInt + 1 := (by have hc1 : (1 : Int32).toInt = 1 := (by decide); have h9 := gi_addI ex_565 (by have h1 := g_549.1; have h2 := (gi_c 1 1 (by decide)).1; have h3 := g_549.2; have h4 := (gi_c 1 1 (by decide)).2; omega) (by have h1 := g_549.1; have h2 := (gi_c 1 1 (by decide)).1; have h3 := g_549.2; have h4 := (gi_c 1 1 (by decide)).2; omega); rw [hc1] at h9; exact h9); have qgv4 := g_549.1; have rgv4 := g_549.2; omega) hP hD hS (lv_sub hl [2, 3, 4, 1, 0] rfl)
set_option maxHeartbeats 4000000 in
set_option maxRecDepth 100000 in
theorem sX12_backed (l : Launch) (dC : Nat → ClassId) (dI : Nat → Nat → Nat) (sz : Nat) (h0 : Nat) (mi : Nat → Int32) (mr : Nat → Nat) (km_must : ClassId) (fm_must : Nat → Int32) (km_least : ClassId) (fm_least : Nat → Int32) (km_pin : ClassId) (fm_pin : Nat → Int32) (km_ways : ClassId) (fm_ways : Nat → Int32) (km_verdict : ClassId) (fm_verdict : Nat → Int32) (km_row : ClassId) (fm_row : Nat → Int32) (km_struck : ClassId) (fm_struck : Nat → Int32) (km_reportKnown : ClassId) (fm_reportKnown : Nat → Int32) (km_reportPlace : ClassId) (fm_reportPlace : Nat → Int32) (km_reportMonth : ClassId) (fm_reportMonth : Nat → Int32) (km_reportDay : ClassId) (fm_reportDay : Nat → Int32) (km_reportKind : ClassId) (fm_reportKind : Nat → Int32) (km_trust : ClassId) (fm_trust : Nat → Int32) (km_letter : ClassId) (fm_letter : Nat → Int32) (km_worth : ClassId) (fm_worth : Nat → Int32) (p1 : Int32) (p2 : Int32) (gmi_0 : gi (mi 0) 0 24) (gmi_1 : gi (mi 1) 0 5) (gmi_2 : gi (mi 2) 0 5) (gmi_4 : gi (mi 4) 0 1) (gmi_7 : gi (mi 7) 0 6) (gmi_10 : gi (mi 10) 0 24) (gmi_17 : gi (mi 17) 0 8) (gmi_23 : gi (mi 23) 0 300) (gmi_24 : gi (mi 24) 0 1) (gmi_26 : gi (mi 26) 0 1600) (gmi_29 : gi (mi 29) 0 1600) (gmi_30 : gi (mi 30) 0 1600) (gmi_33 : gi (mi 33) 0 1) (gmi_37 : gi (mi 37) 0 1) (gmi_41 : gi (mi 41) 0 24) (gmi_50 : gi (mi 50) 0 1) (gmi_51 : gi (mi 51) 0 1) (gmi_56 : gi (mi 56) 0 80) (gfm_row : ga fm_row 24 0 23) (gfm_struck : ga fm_struck 24 0 1) (gfm_reportKnown : ga fm_reportKnown 24 0 999) (gfm_reportPlace : ga fm_reportPlace 24 0 5) (gfm_reportMonth : ga fm_reportMonth 24 0 23) (gfm_reportDay : ga fm_reportDay 24 0 999) : Met l yX12_backed (.code yX12_backed cX12_backed 5 (some .int) :: wsGB) ({ frames := 3, cells := 0, slots := 0, locals := 76 }) (va_Pc [.ref h0, .int p1, .int p2] (fun U => U.heap.size = sz ∧ va_P (dC, dI) vwCl [(h0, .inr (12, fsMM mi mr)), ((mr 14), .inl (km_must, 25, .inl fm_must)), ((mr 15), .inl (km_least, 25, .inl fm_least)), ((mr 16), .inl (km_pin, 25, .inl fm_pin)), ((mr 17), .inl (km_ways, 6875, .inl fm_ways)), ((mr 18), .inl (km_verdict, 24, .inl fm_verdict)), ((mr 19), .inl (km_row, 24, .inl fm_row)), ((mr 4), .inl (km_struck, 24, .inl fm_struck)), ((mr 7), .inl (km_reportKnown, 24, .inl fm_reportKnown)), ((mr 2), .inl (km_reportPlace, 24, .inl fm_reportPlace)), ((mr 5), .inl (km_reportMonth, 24, .inl fm_reportMonth)), ((mr 6), .inl (km_reportDay, 24, .inl fm_reportDay)), ((mr 3), .inl (km_reportKind, 24, .inl fm_reportKind)), ((mr 0), .inl (km_trust, 6, .inl fm_trust)), ((mr 1), .inl (km_letter, 36, .inl fm_letter)), ((mr 22), .inl (km_worth, 6875, .inl fm_worth))] U.heap ∧ va_K (dC, dI) vwCl [(km_must, .int), (km_least, .int), (km_pin, .int), (km_ways, .int), (km_verdict, .int), (km_row, .int), (km_struck, .boolean), (km_reportKnown, .int), (km_reportPlace, .int), (km_reportMonth, .int), (km_reportDay, .int), (km_reportKind, .int), (km_trust, .int), (km_letter, .int), (km_worth, .int)] U ∧ va_D (fun _ => True) [(h0, .inr (12, fsMM mi mr)), ((mr 14), .inl (km_must, 25, .inl fm_must)), ((mr 15), .inl (km_least, 25, .inl fm_least)), ((mr 16), .inl (km_pin, 25, .inl fm_pin)), ((mr 17), .inl (km_ways, 6875, .inl fm_ways)), ((mr 18), .inl (km_verdict, 24, .inl fm_verdict)), ((mr 19), .inl (km_row, 24, .inl fm_row)), ((mr 4), .inl (km_struck, 24, .inl fm_struck)), ((mr 7), .inl (km_reportKnown, 24, .inl fm_reportKnown)), ((mr 2), .inl (km_reportPlace, 24, .inl fm_reportPlace)), ((mr 5), .inl (km_reportMonth, 24, .inl fm_reportMonth)), ((mr 6), .inl (km_reportDay, 24, .inl fm_reportDay)), ((mr 3), .inl (km_reportKind, 24, .inl fm_reportKind)), ((mr 0), .inl (km_trust, 6, .inl fm_trust)), ((mr 1), .inl (km_letter, 36, .inl fm_letter)), ((mr 22), .inl (km_worth, 6875, .inl fm_worth))])) (va_Qi (fun (r : Int32) (u : Unit) => gi r (-2147483648) 2147483647) (fun _ t => ∃ (w0_54 : Int32) (z15 : Nat → Int32), va_P (dC, dI) vwCl [(h0, .inr (12, fsMM (upd mi 54 w0_54) mr)), ((mr 14), .inl (km_must, 25, .inl fm_must)), ((mr 15), .inl (km_least, 25, .inl fm_least)), ((mr 16), .inl (km_pin, 25, .inl fm_pin)), ((mr 17), .inl (km_ways, 6875, .inl fm_ways)), ((mr 18), .inl (km_verdict, 24, .inl fm_verdict)), ((mr 19), .inl (km_row, 24, .inl fm_row)), ((mr 4), .inl (km_struck, 24, .inl fm_struck)), ((mr 7), .inl (km_reportKnown, 24, .inl fm_reportKnown)), ((mr 2), .inl (km_reportPlace, 24, .inl fm_reportPlace)), ((mr 5), .inl (km_reportMonth, 24, .inl fm_reportMonth)), ((mr 6), .inl (km_reportDay, 24, .inl fm_reportDay)), ((mr 3), .inl (km_reportKind, 24, .inl fm_reportKind)), ((mr 0), .inl (km_trust, 6, .inl fm_trust)), ((mr 1), .inl (km_letter, 36, .inl fm_letter)), ((mr 22), .inl (km_worth, 6875, .inl z15))] t.heap ∧ va_D (va_A [(h0, .inr (12, fsMM mi mr)), ((mr 14), .inl (km_must, 25, .inl fm_must)), ((mr 15), .inl (km_least, 25, .inl fm_least)), ((mr 16), .inl (km_pin, 25, .inl fm_pin)), ((mr 17), .inl (km_ways, 6875, .inl fm_ways)), ((mr 18), .inl (km_verdict, 24, .inl fm_verdict)), ((mr 19), .inl (km_row, 24, .inl fm_row)), ((mr 4), .inl (km_struck, 24, .inl fm_struck)), ((mr 7), .inl (km_reportKnown, 24, .inl fm_reportKnown)), ((mr 2), .inl (km_reportPlace, 24, .inl fm_reportPlace)), ((mr 5), .inl (km_reportMonth, 24, .inl fm_reportMonth)), ((mr 6), .inl (km_reportDay, 24, .inl fm_reportDay)), ((mr 3), .inl (km_reportKind, 24, .inl fm_reportKind)), ((mr 0), .inl (km_trust, 6, .inl fm_trust)), ((mr 1), .inl (km_letter, 36, .inl fm_letter)), ((mr 22), .inl (km_worth, 6875, .inl fm_worth))] sz) [(h0, .inr (12, fsMM (upd mi 54 w0_54) mr)), ((mr 14), .inl (km_must, 25, .inl fm_must)), ((mr 15), .inl (km_least, 25, .inl fm_least)), ((mr 16), .inl (km_pin, 25, .inl fm_pin)), ((mr 17), .inl (km_ways, 6875, .inl fm_ways)), ((mr 18), .inl (km_verdict, 24, .inl fm_verdict)), ((mr 19), .inl (km_row, 24, .inl fm_row)), ((mr 4), .inl (km_struck, 24, .inl fm_struck)), ((mr 7), .inl (km_reportKnown, 24, .inl fm_reportKnown)), ((mr 2), .inl (km_reportPlace, 24, .inl fm_reportPlace)), ((mr 5), .inl (km_reportMonth, 24, .inl fm_reportMonth)), ((mr 6), .inl (km_reportDay, 24, .inl fm_reportDay)), ((mr 3), .inl (km_reportKind, 24, .inl fm_reportKind)), ((mr 0), .inl (km_trust, 6, .inl fm_trust)), ((mr 1), .inl (km_letter, 36, .inl fm_letter)), ((mr 22), .inl (km_worth, 6875, .inl z15))]) (va_A [(h0, .inr (12, fsMM mi mr)), ((mr 14), .inl (km_must, 25, .inl fm_must)), ((mr 15), .inl (km_least, 25, .inl fm_least)), ((mr 16), .inl (km_pin, 25, .inl fm_pin)), ((mr 17), .inl (km_ways, 6875, .inl fm_ways)), ((mr 18), .inl (km_verdict, 24, .inl fm_verdict)), ((mr 19), .inl (km_row, 24, .inl fm_row)), ((mr 4), .inl (km_struck, 24, .inl fm_struck)), ((mr 7), .inl (km_reportKnown, 24, .inl fm_reportKnown)), ((mr 2), .inl (km_reportPlace, 24, .inl fm_reportPlace)), ((mr 5), .inl (km_reportMonth, 24, .inl fm_reportMonth)), ((mr 6), .inl (km_reportDay, 24, .inl fm_reportDay)), ((mr 3), .inl (km_reportKind, 24, .inl fm_reportKind)), ((mr 0), .inl (km_trust, 6, .inl fm_trust)), ((mr 1), .inl (km_letter, 36, .inl fm_letter)), ((mr 22), .inl (km_worth, 6875, .inl fm_worth))] sz)) 0 0 (va_A [(h0, .inr (12, fsMM mi mr)), ((mr 14), .inl (km_must, 25, .inl fm_must)), ((mr 15), .inl (km_least, 25, .inl fm_least)), ((mr 16), .inl (km_pin, 25, .inl fm_pin)), ((mr 17), .inl (km_ways, 6875, .inl fm_ways)), ((mr 18), .inl (km_verdict, 24, .inl fm_verdict)), ((mr 19), .inl (km_row, 24, .inl fm_row)), ((mr 4), .inl (km_struck, 24, .inl fm_struck)), ((mr 7), .inl (km_reportKnown, 24, .inl fm_reportKnown)), ((mr 2), .inl (km_reportPlace, 24, .inl fm_reportPlace)), ((mr 5), .inl (km_reportMonth, 24, .inl fm_reportMonth)), ((mr 6), .inl (km_reportDay, 24, .inl fm_reportDay)), ((mr 3), .inl (km_reportKind, 24, .inl fm_reportKind)), ((mr 0), .inl (km_trust, 6, .inl fm_trust)), ((mr 1), .inl (km_letter, 36, .inl fm_letter)), ((mr 22), .inl (km_worth, 6875, .inl fm_worth))] sz) := by
  refine Met.ofW (cc := cX12_backed) (maxL := 5) (ret := (some .int)) (by decide) rfl ?_
  intro p e s m args below meth c s₁ B hml hv
  obtain ⟨rfl, hsz, hP, hK, hD0⟩ := hv
  have hx := B.exec
  have hb := B.bytes
  have hr := B.returns
  have hts := atoms_spec (ws := (.code yX12_backed cX12_backed 5 (some .int) :: wsGB)) B.pre
  have hown : s.vm.findClass RX12 = some m.cls := findClass_of_methodNamed B.named
  have hlocks := B.notSynchronized
  subst hsz
  have hD := hD0.self (sz := s.heap.size)
  generalize hAe : va_A [(h0, .inr (12, fsMM mi mr)), ((mr 14), .inl (km_must, 25, .inl fm_must)), ((mr 15), .inl (km_least, 25, .inl fm_least)), ((mr 16), .inl (km_pin, 25, .inl fm_pin)), ((mr 17), .inl (km_ways, 6875, .inl fm_ways)), ((mr 18), .inl (km_verdict, 24, .inl fm_verdict)), ((mr 19), .inl (km_row, 24, .inl fm_row)), ((mr 4), .inl (km_struck, 24, .inl fm_struck)), ((mr 7), .inl (km_reportKnown, 24, .inl fm_reportKnown)), ((mr 2), .inl (km_reportPlace, 24, .inl fm_reportPlace)), ((mr 5), .inl (km_reportMonth, 24, .inl fm_reportMonth)), ((mr 6), .inl (km_reportDay, 24, .inl fm_reportDay)), ((mr 3), .inl (km_reportKind, 24, .inl fm_reportKind)), ((mr 0), .inl (km_trust, 6, .inl fm_trust)), ((mr 1), .inl (km_letter, 36, .inl fm_letter)), ((mr 22), .inl (km_worth, 6875, .inl fm_worth))] s.heap.size = A at hD ⊢
  have hA : ∀ q : Nat, s.heap.size ≤ q → A q := fun q h => by rw [← hAe]; exact Or.inr h
  have hS : va_S A s.heap s.heap [] := va_S.rf
  have hl := lv_entry ([.ref h0, .int p1, .int p2]) (n := 5) (Nat.le_of_ble_eq_true rfl)
  rw [lg_entry_eq]
  generalize (lg_sl ([.ref h0, .int p1, .int p2]) ++ List.replicate (5 - (lg_sl ([.ref h0, .int p1, .int p2])).length) Slot.unset).toArray = ls at hl ⊢
  have hl : lv_has ls 5 [(0, .ref h0), (1, .int p1), (2, .int p2)] := hl
  refine lv_aload_n hx hb dX12_backed_0 rfl (lv_at hl 0 rfl) ?_
  refine lv_iload_n hx hb dX12_backed_1 rfl (lv_at hl 1 rfl) ?_
  have hPc := hP.sub (ws' := [(h0, .inr (12, fsMM mi mr))]) [0] rfl
  have hKc := hK.sub (tys' := []) [] rfl
  refine va_calli (va_runV (As := [.int p1]) (rest := []) ⟨hx, hb, hml, hown, hts⟩ (sX12_isTime l dC dI h0 mi mr p1 gmi_0 gmi_1 gmi_2 gmi_4 gmi_7 gmi_10 gmi_17 gmi_23 gmi_24 gmi_26 gmi_29 gmi_30 gmi_33 gmi_37 gmi_41 gmi_50 gmi_51 gmi_56) (cwV 1 hts (gz_gV mGB_256 mGB_257 mGB_258 mGB_1 mGB_259 goodGB) rfl rfl rfl (by decide +kernel) ⟨Nat.le_of_ble_eq_true rfl, Nat.le_of_ble_eq_true rfl⟩) ⟨fun a U g mk q => by obtain ⟨q0, qP, qK⟩ := q; exact ⟨q0, qP, va_K.moved (u := U) (U := U.calling g mk a) (Vm.Alike.refl U.vm) qK⟩, va_recv hKc hPc (ci := 12) (q0 := 0) rfl rfl, fun U hU hW => ⟨rfl, by rw [hU]; exact hPc, va_K.moved hW.alike hKc⟩⟩ rfl rfl hl.1 rfl (lv_room (Nat.le_of_ble_eq_true rfl)) dX12_backed_2 ⟨Nat.zero_le _, Nat.zero_le _⟩) hS (fun q _ h => h.elim) (fun q h => h.elim) (fun r_566 u t H1 locs ht hvm hw hB hz1 hk1 hS => ?_)
  have hP := gz_keep hP hk1
  generalize H1 = H at hP hS ⊢
  have gr_566 : gi r_566 0 1 := hw.1
  have hqr_566 := hw.2
  refine lv_if_eq (tgt := 18) hx hb dX12_backed_5 (by decide) (fun c_567 => ?_) (fun c_567 => ?_)
  · have g_568 : gi r_566 0 0 := gi_eq c_567 (gi_c 0 0 (by decide))
    refine lv_bipush (v := (-2)) hx hb dX12_backed_18 (by decide) ?_
    exact W.iret (v := (-2)) hx hb hr (fun t ht hW => ⟨⟨(-2), (), rfl, (gi_any (-2)), (mi 54), fm_worth, by rw [ht]; exact hP, hD⟩, hS.F ht⟩) hS.2.2 dX12_backed_20
  · have g_569 : gi r_566 1 1 := gi_ne_lo c_567 gr_566 (gi_c 0 0 (by decide)) (by decide)
    have g_570 : gi p1 0 999 := gi_cap (gi_any p1) (hqr_566 (gz_one g_569)) (by decide)
    refine lv_iload_n hx hb dX12_backed_8 rfl (lv_at hl 2 rfl) ?_
    refine lv_i2l (v := (p2).toInt64) hx hb dX12_backed_9 rfl ?_
    refine lv_topl (fun l_571 el_571 => ?_)
    refine lv_lconst (v := 0) hx hb dX12_backed_10 (by decide) ?_
    refine lv_lconst (v := 1) hx hb dX12_backed_11 (by decide) ?_
    have hPc := hP.sub (ws' := []) [] rfl
    have hKc := hK.sub (tys' := []) [] rfl
    refine va_calli (va_runS (As := [.long l_571, .long 0, .long 1]) (rest := []) ⟨hx, hb, hml, hown, hts⟩ (sX12_in l dC dI l_571 0 1) (cwS 3 hts (gz_gS mGB_47 mGB_48 mGB_1 mGB_49 goodGB) rfl rfl rfl (by decide +kernel) ⟨Nat.le_of_ble_eq_true rfl, Nat.le_of_ble_eq_true rfl⟩) ⟨fun a U g mk q => by obtain ⟨q0, qP, qK⟩ := q; exact ⟨q0, qP, va_K.moved (u := U) (U := U.calling g mk a) (Vm.Alike.refl U.vm) qK⟩, fun U hU hW => ⟨rfl, by rw [hU]; exact hPc, va_K.moved hW.alike hKc⟩⟩ rfl rfl hl.1 rfl (lv_room (Nat.le_of_ble_eq_true rfl)) dX12_backed_12 ⟨Nat.zero_le _, Nat.zero_le _⟩) hS (fun q _ h => h.elim) (fun q h => h.elim) (fun r_572 u t H1 locs ht hvm hw hB hz1 hk1 hS => ?_)
    have hP := gz_keep hP hk1
    generalize H1 = H at hP hS ⊢
    have gr_572 : gi r_572 0 1 := hw.1
    have hqr_572 := hw.2
    refine lv_if_ne (tgt := 21) hx hb dX12_backed_15 (by decide) (fun c_573 => ?_) (fun c_573 => ?_)
    · have g_574 : gi r_572 1 1 := gi_ne_lo c_573 gr_572 (gi_c 0 0 (by decide)) (by decide)
      have g_575 : gi p2 0 1 := gi_cap (gi_any p2) (gz_inr (hqr_572.1 (gz_one g_574)) el_571 (A := 0) (B := 1) (by decide) (by decide)) (by decide)
      refine lv_iconst (v := 0) hx hb dX12_backed_21 (by decide) ?_
      refine lv_istore_n (lv' := [(3, .int 0), (0, .ref h0), (1, .int p1), (2, .int p2)]) hx hb dX12_backed_22 rfl hl (by decide) rfl (fun ls hl => ?_)
      refine lv_iconst (v := 0) hx hb dX12_backed_23 (by decide) ?_
      refine lv_istore (lv' := [(4, .int 0), (3, .int 0), (0, .ref h0), (1, .int p1), (2, .int p2)]) hx hb dX12_backed_24 hl (by decide) rfl (fun ls hl => ?_)
      refine (lp_sX12_backed h0 mi mr km_must fm_must km_least fm_least km_pin fm_pin km_ways fm_ways km_verdict fm_verdict km_row fm_row km_struck fm_struck km_reportKnown fm_reportKnown km_reportPlace fm_reportPlace km_reportMonth fm_reportMonth km_reportDay fm_reportDay km_reportKind fm_reportKind km_trust fm_trust km_letter fm_letter km_worth fm_worth p1 p2 gmi_0 gmi_1 gmi_2 gmi_4 gmi_7 gmi_10 gmi_17 gmi_23 gmi_24 gmi_26 gmi_29 gmi_30 gmi_33 gmi_37 gmi_41 gmi_50 gmi_51 gmi_56 gfm_row gfm_struck gfm_reportKnown gfm_reportPlace gfm_reportMonth gfm_reportDay hx hb hml hown hts hK hA (Nat.le_of_ble_eq_true rfl) (Nat.le_of_ble_eq_true rfl) (Nat.zero_le _) (Nat.zero_le _) (fun v w0_54 z15 H locs ls gv hP hD hS hl => ?_) (fun v w0_54 z15 H locs ls hP hD hS hl => ?_) 62) 0 0 _ _ _ g_570 g_575 (gi_w (gi_c 0 0 (by decide)) (by decide)) (by have k0 : (0 : Int32).toInt = 0 := (by decide); omega) hP hD hS (lv_sub hl [2, 3, 4, 1, 0] rfl)
      · skip
        exact W.iret (v := v) hx hb hr (fun t ht hW => ⟨⟨v, (), rfl, (gi_any v), w0_54, z15, by rw [ht]; exact hP, hD⟩, hS.F ht⟩) hS.2.2 dX12_backed_20
      · skip
        exact W.iret (v := v) hx hb hr (fun t ht hW => ⟨⟨v, (), rfl, (gi_any v), w0_54, z15, by rw [ht]; exact hP, hD⟩, hS.F ht⟩) hS.2.2 dX12_backed_104
    · have g_576 : gi r_572 0 0 := gi_eq c_573 (gi_c 0 0 (by decide))
      refine lv_bipush (v := (-2)) hx hb dX12_backed_18 (by decide) ?_
      exact W.iret (v := (-2)) hx hb hr (fun t ht hW => ⟨⟨(-2), (), rfl, (gi_any (-2)), (mi 54), fm_worth, by rw [ht]; exact hP, hD⟩, hS.F ht⟩) hS.2.2 dX12_backed_20
theorem dX12_place_0 : decode cX12_place 0 = .ok (.aload_n 0, 1) := by decide +kernel
theorem dX12_place_1 : decode cX12_place 1 = .ok (.iload_n 1, 1) := by decide +kernel
theorem dX12_place_2 : decode cX12_place 2 = .ok (.invokevirtual 294, 3) := by decide +kernel
theorem dX12_place_5 : decode cX12_place 5 = .ok (.ifCond .eq 15, 3) := by decide +kernel
theorem dX12_place_8 : decode cX12_place 8 = .ok (.iload_n 2, 1) := by decide +kernel
theorem dX12_place_9 : decode cX12_place 9 = .ok (.i2l, 1) := by decide +kernel
theorem dX12_place_10 : decode cX12_place 10 = .ok (.lconst 0, 1) := by decide +kernel
theorem dX12_place_11 : decode cX12_place 11 = .ok (.ldc2_w 298, 3) := by decide +kernel
theorem dX12_place_14 : decode cX12_place 14 = .ok (.invokestatic 102, 3) := by decide +kernel
theorem dX12_place_17 : decode cX12_place 17 = .ok (.ifCond .ne 6, 3) := by decide +kernel
theorem dX12_place_20 : decode cX12_place 20 = .ok (.bipush (-2), 2) := by decide +kernel
theorem dX12_place_22 : decode cX12_place 22 = .ok (.ireturn, 1) := by decide +kernel
theorem dX12_place_23 : decode cX12_place 23 = .ok (.iconst 0, 1) := by decide +kernel
theorem dX12_place_24 : decode cX12_place 24 = .ok (.istore_n 3, 1) := by decide +kernel
theorem dX12_place_25 : decode cX12_place 25 = .ok (.iconst 0, 1) := by decide +kernel
theorem dX12_place_26 : decode cX12_place 26 = .ok (.istore 4, 2) := by decide +kernel
theorem dX12_place_28 : decode cX12_place 28 = .ok (.iload 4, 2) := by decide +kernel
theorem dX12_place_30 : decode cX12_place 30 = .ok (.aload_n 0, 1) := by decide +kernel
theorem dX12_place_31 : decode cX12_place 31 = .ok (.getfield 138, 3) := by decide +kernel
theorem dX12_place_34 : decode cX12_place 34 = .ok (.if_icmp .ge 27, 3) := by decide +kernel
theorem dX12_place_37 : decode cX12_place 37 = .ok (.iload_n 3, 1) := by decide +kernel
theorem dX12_place_38 : decode cX12_place 38 = .ok (.aload_n 0, 1) := by decide +kernel
theorem dX12_place_39 : decode cX12_place 39 = .ok (.iload 4, 2) := by decide +kernel
theorem dX12_place_41 : decode cX12_place 41 = .ok (.iload_n 1, 1) := by decide +kernel
theorem dX12_place_42 : decode cX12_place 42 = .ok (.invokevirtual 300, 3) := by decide +kernel
theorem dX12_place_45 : decode cX12_place 45 = .ok (.ifCond .eq 7, 3) := by decide +kernel
theorem dX12_place_48 : decode cX12_place 48 = .ok (.iconst 1, 1) := by decide +kernel
theorem dX12_place_49 : decode cX12_place 49 = .ok (.goto 4, 3) := by decide +kernel
theorem dX12_place_52 : decode cX12_place 52 = .ok (.iconst 0, 1) := by decide +kernel
theorem dX12_place_53 : decode cX12_place 53 = .ok (.iadd, 1) := by decide +kernel
theorem dX12_place_54 : decode cX12_place 54 = .ok (.istore_n 3, 1) := by decide +kernel
theorem dX12_place_55 : decode cX12_place 55 = .ok (.iinc 4 1, 3) := by decide +kernel
theorem dX12_place_58 : decode cX12_place 58 = .ok (.goto (-30), 3) := by decide +kernel
theorem dX12_place_61 : decode cX12_place 61 = .ok (.iconst 0, 1) := by decide +kernel
theorem dX12_place_62 : decode cX12_place 62 = .ok (.istore 4, 2) := by decide +kernel
theorem dX12_place_64 : decode cX12_place 64 = .ok (.iconst 0, 1) := by decide +kernel
theorem dX12_place_65 : decode cX12_place 65 = .ok (.istore 5, 2) := by decide +kernel
theorem dX12_place_67 : decode cX12_place 67 = .ok (.iload 5, 2) := by decide +kernel
theorem dX12_place_69 : decode cX12_place 69 = .ok (.aload_n 0, 1) := by decide +kernel
theorem dX12_place_70 : decode cX12_place 70 = .ok (.getfield 141, 3) := by decide +kernel
theorem dX12_place_73 : decode cX12_place 73 = .ok (.if_icmp .ge 40, 3) := by decide +kernel
theorem dX12_place_76 : decode cX12_place 76 = .ok (.iload 4, 2) := by decide +kernel
theorem dX12_place_78 : decode cX12_place 78 = .ok (.aload_n 0, 1) := by decide +kernel
theorem dX12_place_79 : decode cX12_place 79 = .ok (.getfield 16, 3) := by decide +kernel
theorem dX12_place_82 : decode cX12_place 82 = .ok (.iload 5, 2) := by decide +kernel
theorem dX12_place_84 : decode cX12_place 84 = .ok (.iaload, 1) := by decide +kernel
theorem dX12_place_85 : decode cX12_place 85 = .ok (.iload_n 1, 1) := by decide +kernel
theorem dX12_place_86 : decode cX12_place 86 = .ok (.if_icmp .ne 17, 3) := by decide +kernel
theorem dX12_place_89 : decode cX12_place 89 = .ok (.aload_n 0, 1) := by decide +kernel
theorem dX12_place_90 : decode cX12_place 90 = .ok (.getfield 22, 3) := by decide +kernel
theorem dX12_place_93 : decode cX12_place 93 = .ok (.iload 5, 2) := by decide +kernel
theorem dX12_place_95 : decode cX12_place 95 = .ok (.baload, 1) := by decide +kernel
theorem dX12_place_96 : decode cX12_place 96 = .ok (.ifCond .ne 7, 3) := by decide +kernel
theorem dX12_place_99 : decode cX12_place 99 = .ok (.iconst 1, 1) := by decide +kernel
theorem dX12_place_100 : decode cX12_place 100 = .ok (.goto 4, 3) := by decide +kernel
theorem dX12_place_103 : decode cX12_place 103 = .ok (.iconst 0, 1) := by decide +kernel
theorem dX12_place_104 : decode cX12_place 104 = .ok (.iadd, 1) := by decide +kernel
theorem dX12_place_105 : decode cX12_place 105 = .ok (.istore 4, 2) := by decide +kernel
theorem dX12_place_107 : decode cX12_place 107 = .ok (.iinc 5 1, 3) := by decide +kernel
theorem dX12_place_110 : decode cX12_place 110 = .ok (.goto (-43), 3) := by decide +kernel
theorem dX12_place_113 : decode cX12_place 113 = .ok (.iload_n 2, 1) := by decide +kernel
theorem dX12_place_114 : decode cX12_place 114 = .ok (.ifCond .ne 12, 3) := by decide +kernel
theorem dX12_place_117 : decode cX12_place 117 = .ok (.aload_n 0, 1) := by decide +kernel
theorem dX12_place_118 : decode cX12_place 118 = .ok (.getfield 7, 3) := by decide +kernel
theorem dX12_place_121 : decode cX12_place 121 = .ok (.iload_n 1, 1) := by decide +kernel
theorem dX12_place_122 : decode cX12_place 122 = .ok (.iaload, 1) := by decide +kernel
theorem dX12_place_123 : decode cX12_place 123 = .ok (.goto 14, 3) := by decide +kernel
theorem dX12_place_126 : decode cX12_place 126 = .ok (.iload_n 2, 1) := by decide +kernel
theorem dX12_place_127 : decode cX12_place 127 = .ok (.iconst 1, 1) := by decide +kernel
theorem dX12_place_128 : decode cX12_place 128 = .ok (.if_icmp .ne 7, 3) := by decide +kernel
theorem dX12_place_131 : decode cX12_place 131 = .ok (.iload_n 3, 1) := by decide +kernel
theorem dX12_place_132 : decode cX12_place 132 = .ok (.goto 5, 3) := by decide +kernel
theorem dX12_place_135 : decode cX12_place 135 = .ok (.iload 4, 2) := by decide +kernel
theorem dX12_place_137 : decode cX12_place 137 = .ok (.ireturn, 1) := by decide +kernel
set_option maxHeartbeats 4000000 in
set_option maxRecDepth 100000 in
theorem lp_sX12_place {p : Program} {l : Launch} {e : Env} {R : Room} {s : State} {m : MethodId} {args : Array Value} {below : List Frame} {meth : Method} {c : Code} {Q : State → Prop} {A : Nat → Prop} {cells slots : Nat} {dC : Nat → ClassId} {dI : Nat → Nat → Nat} (h0 : Nat) (mi : Nat → Int32) (mr : Nat → Nat) (km_trust : ClassId) (fm_trust : Nat → Int32) (km_letter : ClassId) (fm_letter : Nat → Int32) (km_reportPlace : ClassId) (fm_reportPlace : Nat → Int32) (km_struck : ClassId) (fm_struck : Nat → Int32) (p1 : Int32) (p2 : Int32) (gmi_0 : gi (mi 0) 0 24) (gmi_1 : gi (mi 1) 0 5) (gmi_2 : gi (mi 2) 0 5) (gmi_4 : gi (mi 4) 0 1) (gmi_7 : gi (mi 7) 0 6) (gmi_10 : gi (mi 10) 0 24) (gmi_17 : gi (mi 17) 0 8) (gmi_23 : gi (mi 23) 0 300) (gmi_24 : gi (mi 24) 0 1) (gmi_26 : gi (mi 26) 0 1600) (gmi_29 : gi (mi 29) 0 1600) (gmi_30 : gi (mi 30) 0 1600) (gmi_33 : gi (mi 33) 0 1) (gmi_37 : gi (mi 37) 0 1) (gmi_41 : gi (mi 41) 0 24) (gmi_50 : gi (mi 50) 0 1) (gmi_51 : gi (mi 51) 0 1) (gmi_56 : gi (mi 56) 0 80) (gfm_reportPlace : ga fm_reportPlace 24 0 5) (gfm_struck : ga fm_struck 24 0 1) (hx : p.tables.exec = Jvm.exec) (hb : c.code = cX12_place) (hml : c.maxLocals = 6) (hown : s.vm.findClass RX12 = some m.cls) (hts : ∀ w ∈ ((.code yX12_place cX12_place 6 (some .int) :: wsGB) : List Cond), w.before args s = true) (hK : va_K (dC, dI) vwCl [(km_trust, .int), (km_letter, .int), (km_reportPlace, .int), (km_struck, .boolean)] s) (hRf : 2 ≤ R.frames) (hRl : 46 ≤ R.locals) (hRc : cells ≤ R.cells) (hRs : slots ≤ R.slots) (kr22 : ∀ (v : Int32) (H : Heap) (locs : List Loc) (ls : Array Slot), gi v (-2) (-2) → va_P (dC, dI) vwCl [(h0, .inr (12, fsMM mi mr)), ((mr 0), .inl (km_trust, 6, .inl fm_trust)), ((mr 1), .inl (km_letter, 36, .inl fm_letter)), ((mr 2), .inl (km_reportPlace, 24, .inl fm_reportPlace)), ((mr 4), .inl (km_struck, 24, .inl fm_struck))] H → va_S A s.heap H locs → lv_has ls 6 [] → W p l e R s m args below meth c H locs cells slots Q (F0 m 22 ls [.int v])) (kr137 : ∀ (v : Int32) (H : Heap) (locs : List Loc) (ls : Array Slot), va_P (dC, dI) vwCl [(h0, .inr (12, fsMM mi mr)), ((mr 0), .inl (km_trust, 6, .inl fm_trust)), ((mr 1), .inl (km_letter, 36, .inl fm_letter)), ((mr 2), .inl (km_reportPlace, 24, .inl fm_reportPlace)), ((mr 4), .inl (km_struck, 24, .inl fm_struck))] H → va_S A s.heap H locs → lv_has ls 6 [] → W p l e R s m args below meth c H locs cells slots Q (F0 m 137 ls [.int v])) : ∀ z : Nat, (∀ (v3 : Int32) (v4 : Int32) (H : Heap) (locs : List Loc) (ls : Array Slot), gi p1 0 5 → gi p2 0 2 → gi v4 0 6 → 65 + (-2) * v4.toInt < (z : Int) → va_P (dC, dI) vwCl [(h0, .inr (12, fsMM mi mr)), ((mr 0), .inl (km_trust, 6, .inl fm_trust)), ((mr 1), .inl (km_letter, 36, .inl fm_letter)), ((mr 2), .inl (km_reportPlace, 24, .inl fm_reportPlace)), ((mr 4), .inl (km_struck, 24, .inl fm_struck))] H → va_S A s.heap H locs → lv_has ls 6 [(0, .ref h0), (1, .int p1), (2, .int p2), (3, .int v3), (4, .int v4)] → W p l e R s m args below meth c H locs cells slots Q (F0 m 28 ls [])) ∧ (∀ (v3 : Int32) (v4 : Int32) (v5 : Int32) (H : Heap) (locs : List Loc) (ls : Array Slot), gi p1 0 5 → gi p2 0 2 → gi v5 0 24 → 49 + (-2) * v5.toInt < (z : Int) → va_P (dC, dI) vwCl [(h0, .inr (12, fsMM mi mr)), ((mr 0), .inl (km_trust, 6, .inl fm_trust)), ((mr 1), .inl (km_letter, 36, .inl fm_letter)), ((mr 2), .inl (km_reportPlace, 24, .inl fm_reportPlace)), ((mr 4), .inl (km_struck, 24, .inl fm_struck))] H → va_S A s.heap H locs → lv_has ls 6 [(0, .ref h0), (1, .int p1), (2, .int p2), (3, .int v3), (4, .int v4), (5, .int v5)] → W p l e R s m args below meth c H locs cells slots Q (F0 m 67 ls [])) := by
  intro z
  induction z with
  | zero =>
    refine ⟨?_, ?_⟩
    · intro v3 v4 H locs ls gf_p1 gf_p2 gv4 hmu hP hS hl
      exact absurd hmu (by have hv41 := gv4.1; have hv42 := gv4.2; omega)
    · intro v3 v4 v5 H locs ls gf_p1 gf_p2 gv5 hmu hP hS hl
      exact absurd hmu (by have hv51 := gv5.1; have hv52 := gv5.2; omega)
  | succ z ih =>
    refine ⟨?_, ?_⟩
    · intro v3 v4 H locs ls gf_p1 gf_p2 gv4 hmu hP hS hl
      refine lv_iload hx hb dX12_place_28 (lv_at hl 4 rfl) ?_
      refine lv_aload_n hx hb dX12_place_30 rfl (lv_at hl 0 rfl) ?_
      refine va_get (D := (dC, dI)) (ci := 12) (v := .int (mi 7)) (C := RX12) (T := TX12) (N := 57) hx hb hts (fun w h => List.mem_cons_of_mem _ (jnGB_X12 w h)) hown hK hP 0 rfl rfl 7 (by decide) (hts _ (List.mem_cons_of_mem _ mGB_110)) (fun _ h9 => h9) rfl dX12_place_31 ?_
      refine lv_icmp_ge (tgt := 61) hx hb dX12_place_34 (by decide) (fun c_1761 => ?_) (fun c_1761 => ?_)
      · refine lv_iconst (v := 0) hx hb dX12_place_61 (by decide) ?_
        refine lv_istore (lv' := [(4, .int 0), (0, .ref h0), (1, .int p1), (2, .int p2), (3, .int v3)]) hx hb dX12_place_62 hl (by decide) rfl (fun ls hl => ?_)
        refine lv_iconst (v := 0) hx hb dX12_place_64 (by decide) ?_
        refine lv_istore (lv' := [(5, .int 0), (4, .int 0), (0, .ref h0), (1, .int p1), (2, .int p2), (3, .int v3)]) hx hb dX12_place_65 hl (by decide) rfl (fun ls hl => ?_)
        exact ih.2 v3 0 0 _ _ _ gf_p1 gf_p2 (gi_w (gi_c 0 0 (by decide)) (by decide)) (by have k0 : (0 : Int32).toInt = 0 := (by decide); have av4 := gv4.1; have bv4 := gv4.2; omega) hP hS (lv_sub hl [2, 3, 4, 5, 1, 0] rfl)
      · have g_1762 : gi v4 0 5 := gi_lt_l (Int32.not_le.mp c_1761) gv4 gmi_7 (by decide)
        have g_1763 : gi (mi 7) 1 6 := gi_lt_r (Int32.not_le.mp c_1761) gv4 gmi_7 (by decide)
        refine lv_iload_n hx hb dX12_place_37 rfl (lv_at hl 3 rfl) ?_
        refine lv_aload_n hx hb dX12_place_38 rfl (lv_at hl 0 rfl) ?_
        refine lv_iload hx hb dX12_place_39 (lv_at hl 4 rfl) ?_
        refine lv_iload_n hx hb dX12_place_41 rfl (lv_at hl 1 rfl) ?_
        have hPc := hP.sub (ws' := [(h0, .inr (12, fsMM mi mr)), ((mr 1), .inl (km_letter, 36, .inl fm_letter))]) [0, 2] rfl
        have hKc := hK.sub (tys' := [(km_letter, .int)]) [1] rfl
        refine va_calli (va_runV (As := [.int v4, .int p1]) (rest := [.int v3]) ⟨hx, hb, hml, hown, hts⟩ (sX12_isNameAhead l dC dI h0 mi mr km_letter fm_letter v4 p1 gmi_0 gmi_1 gmi_2 gmi_4 (gi_w g_1763 (by decide)) gmi_10 gmi_17 gmi_23 gmi_24 gmi_26 gmi_29 gmi_30 gmi_33 gmi_37 gmi_41 gmi_50 gmi_51 gmi_56 g_1762 gf_p1) (cwV 2 hts (gz_gV mGB_228 mGB_229 mGB_230 mGB_1 mGB_231 goodGB) rfl rfl rfl (by decide +kernel) ⟨Nat.le_trans (Nat.le_of_ble_eq_true rfl) hRf, Nat.le_trans (Nat.le_of_ble_eq_true rfl) hRl⟩) ⟨fun a U g mk q => by obtain ⟨q0, qP, qK⟩ := q; exact ⟨q0, qP, va_K.moved (u := U) (U := U.calling g mk a) (Vm.Alike.refl U.vm) qK⟩, va_recv hKc hPc (ci := 12) (q0 := 0) rfl rfl, fun U hU hW => ⟨rfl, by rw [hU]; exact hPc, va_K.moved hW.alike hKc⟩⟩ rfl rfl hl.1 rfl (lv_room (Nat.le_of_ble_eq_true rfl)) dX12_place_42 ⟨hRc, hRs⟩) hS (fun q _ h => h.elim) (fun q h => h.elim) (fun r_1764 u t H1 locs ht hvm hw hB hz1 hk1 hS => ?_)
        have hP := gz_keep hP hk1
        generalize H1 = H at hP hS ⊢
        have gr_1764 : gi r_1764 0 1 := hw
        refine lv_if_eq (tgt := 52) hx hb dX12_place_45 (by decide) (fun c_1765 => ?_) (fun c_1765 => ?_)
        · have g_1766 : gi r_1764 0 0 := gi_eq c_1765 (gi_c 0 0 (by decide))
          refine lv_iconst (v := 0) hx hb dX12_place_52 (by decide) ?_
          refine lv_iadd hx hb dX12_place_53 ?_
          refine lv_topi (fun x_1767 ex_1767 => ?_)
          refine lv_istore_n (lv' := [(3, .int x_1767), (0, .ref h0), (1, .int p1), (2, .int p2), (4, .int v4)]) hx hb dX12_place_54 rfl hl (by decide) rfl (fun ls hl => ?_)
          obtain ⟨x_1768, ex_1768⟩ : ∃ y : Int32, y = v4 + 1 := ⟨_, rfl⟩
          have gx_1768 : gi x_1768 1 6 := gi_add ex_1768 g_1762 (gi_c 1 1 (by decide)) (by decide)
          refine lv_iinc (v := x_1768) (lv' := [(4, .int x_1768), (3, .int x_1767), (0, .ref h0), (1, .int p1), (2, .int p2)]) hx hb dX12_place_55 hl (k := 4) rfl (by rw [ex_1768]; rfl) (by decide) rfl (fun ls hl => ?_)
          refine lv_goto (tgt := 28) hx hb dX12_place_58 (by decide) ?_
          exact ih.1 x_1767 x_1768 _ _ _ gf_p1 gf_p2 (gi_w gx_1768 (by decide)) (by have av4 := gv4.1; have bv4 := gv4.2; have qgx_1768 := gx_1768.1; have rgx_1768 := gx_1768.2; have igx_1768 : x_1768.toInt = v4.toInt + 1 := (by have hc1 : (1 : Int32).toInt = 1 := (by decide); have h9 := gi_addI ex_1768 (by have h1 := g_1762.1; have h2 := (gi_c 1 1 (by decide)).1; have h3 := g_1762.2; have h4 := (gi_c 1 1 (by decide)).2; omega) (by have h1 := g_1762.1; have h2 := (gi_c 1 1 (by decide)).1; have h3 := g_1762.2; have h4 := (gi_c 1 1 (by decide)).2; omega); rw [hc1] at h9; exact h9); have qgv4 := g_1762.1; have rgv4 := g_1762.2; omega) hP hS (lv_sub hl [2, 3, 4, 1, 0] rfl)
        · have g_1769 : gi r_1764 1 1 := gi_ne_lo c_1765 gr_1764 (gi_c 0 0 (by decide)) (by decide)
          refine lv_iconst (v := 1) hx hb dX12_place_48 (by decide) ?_
          refine lv_goto (tgt := 53) hx hb dX12_place_49 (by decide) ?_
          refine lv_iadd hx hb dX12_place_53 ?_
          refine lv_topi (fun x_1770 ex_1770 => ?_)
          refine lv_istore_n (lv' := [(3, .int x_1770), (0, .ref h0), (1, .int p1), (2, .int p2), (4, .int v4)]) hx hb dX12_place_54 rfl hl (by decide) rfl (fun ls hl => ?_)
          obtain ⟨x_1771, ex_1771⟩ : ∃ y : Int32, y = v4 + 1 := ⟨_, rfl⟩
          have gx_1771 : gi x_1771 1 6 := gi_add ex_1771 g_1762 (gi_c 1 1 (by decide)) (by decide)
          refine lv_iinc (v := x_1771) (lv' := [(4, .int x_1771), (3, .int x_1770), (0, .ref h0), (1, .int p1), (2, .int p2)]) hx hb dX12_place_55 hl (k := 4) rfl (by rw [ex_1771]; rfl) (by decide) rfl (fun ls hl => ?_)
          refine lv_goto (tgt := 28) hx hb dX12_place_58 (by decide) ?_
          exact ih.1 x_1770 x_1771 _ _ _ gf_p1 gf_p2 (gi_w gx_1771 (by decide)) (by have av4 := gv4.1; have bv4 := gv4.2; have qgx_1771 := gx_1771.1; have rgx_1771 := gx_1771.2; have igx_1771 : x_1771.toInt = v4.toInt + 1 := (by have hc1 : (1 : Int32).toInt = 1 := (by decide); have h9 := gi_addI ex_1771 (by have h1 := g_1762.1; have h2 := (gi_c 1 1 (by decide)).1; have h3 := g_1762.2; have h4 := (gi_c 1 1 (by decide)).2; omega) (by have h1 := g_1762.1; have h2 := (gi_c 1 1 (by decide)).1; have h3 := g_1762.2; have h4 := (gi_c 1 1 (by decide)).2; omega); rw [hc1] at h9; exact h9); have qgv4 := g_1762.1; have rgv4 := g_1762.2; omega) hP hS (lv_sub hl [2, 3, 4, 1, 0] rfl)
    · intro v3 v4 v5 H locs ls gf_p1 gf_p2 gv5 hmu hP hS hl
      refine lv_iload hx hb dX12_place_67 (lv_at hl 5 rfl) ?_
      refine lv_aload_n hx hb dX12_place_69 rfl (lv_at hl 0 rfl) ?_
      refine va_get (D := (dC, dI)) (ci := 12) (v := .int (mi 10)) (C := RX12) (T := TX12) (N := 57) hx hb hts (fun w h => List.mem_cons_of_mem _ (jnGB_X12 w h)) hown hK hP 0 rfl rfl 10 (by decide) (hts _ (List.mem_cons_of_mem _ mGB_111)) (fun _ h9 => h9) rfl dX12_place_70 ?_
      refine lv_icmp_ge (tgt := 113) hx hb dX12_place_73 (by decide) (fun c_1772 => ?_) (fun c_1772 => ?_)
      · refine lv_iload_n hx hb dX12_place_113 rfl (lv_at hl 2 rfl) ?_
        refine lv_if_ne (tgt := 126) hx hb dX12_place_114 (by decide) (fun c_1773 => ?_) (fun c_1773 => ?_)
        · have g_1774 : gi p2 1 2 := gi_ne_lo c_1773 gf_p2 (gi_c 0 0 (by decide)) (by decide)
          refine lv_iload_n hx hb dX12_place_126 rfl (lv_at hl 2 rfl) ?_
          refine lv_iconst (v := 1) hx hb dX12_place_127 (by decide) ?_
          refine lv_icmp_ne (tgt := 135) hx hb dX12_place_128 (by decide) (fun c_1775 => ?_) (fun c_1775 => ?_)
          · have g_1776 : gi p2 2 2 := gi_ne_lo c_1775 g_1774 (gi_c 1 1 (by decide)) (by decide)
            refine lv_iload hx hb dX12_place_135 (lv_at hl 4 rfl) ?_
            exact kr137 v4 _ _ _ hP hS (lv_sub hl [] rfl)
          · have g_1777 : gi p2 1 1 := gi_eq c_1775 (gi_c 1 1 (by decide))
            refine lv_iload_n hx hb dX12_place_131 rfl (lv_at hl 3 rfl) ?_
            refine lv_goto (tgt := 137) hx hb dX12_place_132 (by decide) ?_
            exact kr137 v3 _ _ _ hP hS (lv_sub hl [] rfl)
        · have g_1778 : gi p2 0 0 := gi_eq c_1773 (gi_c 0 0 (by decide))
          refine lv_aload_n hx hb dX12_place_117 rfl (lv_at hl 0 rfl) ?_
          refine va_get (D := (dC, dI)) (ci := 12) (v := .ref (mr 0)) (C := RX12) (T := TX12) (N := 57) hx hb hts (fun w h => List.mem_cons_of_mem _ (jnGB_X12 w h)) hown hK hP 0 rfl rfl 8 (by decide) (hts _ (List.mem_cons_of_mem _ mGB_10)) (fun _ h9 => h9) rfl dX12_place_118 ?_
          refine lv_iload_n hx hb dX12_place_121 rfl (lv_at hl 1 rfl) ?_
          refine va_iald hx hb hK hP 1 0 rfl rfl (gi_in gf_p1 (by decide)) dX12_place_122 ?_
          refine lv_topi (fun x_1779 ex_1779 => ?_)
          refine lv_goto (tgt := 137) hx hb dX12_place_123 (by decide) ?_
          exact kr137 x_1779 _ _ _ hP hS (lv_sub hl [] rfl)
      · have g_1780 : gi v5 0 23 := gi_lt_l (Int32.not_le.mp c_1772) gv5 gmi_10 (by decide)
        have g_1781 : gi (mi 10) 1 24 := gi_lt_r (Int32.not_le.mp c_1772) gv5 gmi_10 (by decide)
        refine lv_iload hx hb dX12_place_76 (lv_at hl 4 rfl) ?_
        refine lv_aload_n hx hb dX12_place_78 rfl (lv_at hl 0 rfl) ?_
        refine va_get (D := (dC, dI)) (ci := 12) (v := .ref (mr 2)) (C := RX12) (T := TX12) (N := 57) hx hb hts (fun w h => List.mem_cons_of_mem _ (jnGB_X12 w h)) hown hK hP 0 rfl rfl 11 (by decide) (hts _ (List.mem_cons_of_mem _ mGB_12)) (fun _ h9 => h9) rfl dX12_place_79 ?_
        refine lv_iload hx hb dX12_place_82 (lv_at hl 5 rfl) ?_
        refine va_iald hx hb hK hP 3 2 rfl rfl (gi_in g_1780 (by decide)) dX12_place_84 ?_
        refine lv_topi (fun x_1782 ex_1782 => ?_)
        have gx_1782 : gi x_1782 0 5 := ga_at gfm_reportPlace (gi_in g_1780 (by decide)) ex_1782
        refine lv_iload_n hx hb dX12_place_85 rfl (lv_at hl 1 rfl) ?_
        refine lv_icmp_ne (tgt := 103) hx hb dX12_place_86 (by decide) (fun c_1783 => ?_) (fun c_1783 => ?_)
        · refine lv_iconst (v := 0) hx hb dX12_place_103 (by decide) ?_
          refine lv_iadd hx hb dX12_place_104 ?_
          refine lv_topi (fun x_1784 ex_1784 => ?_)
          refine lv_istore (lv' := [(4, .int x_1784), (0, .ref h0), (1, .int p1), (2, .int p2), (3, .int v3), (5, .int v5)]) hx hb dX12_place_105 hl (by decide) rfl (fun ls hl => ?_)
          obtain ⟨x_1785, ex_1785⟩ : ∃ y : Int32, y = v5 + 1 := ⟨_, rfl⟩
          have gx_1785 : gi x_1785 1 24 := gi_add ex_1785 g_1780 (gi_c 1 1 (by decide)) (by decide)
          refine lv_iinc (v := x_1785) (lv' := [(5, .int x_1785), (4, .int x_1784), (0, .ref h0), (1, .int p1), (2, .int p2), (3, .int v3)]) hx hb dX12_place_107 hl (k := 5) rfl (by rw [ex_1785]; rfl) (by decide) rfl (fun ls hl => ?_)
          refine lv_goto (tgt := 67) hx hb dX12_place_110 (by decide) ?_
          exact ih.2 v3 x_1784 x_1785 _ _ _ gf_p1 gf_p2 (gi_w gx_1785 (by decide)) (by have av5 := gv5.1; have bv5 := gv5.2; have qgx_1785 := gx_1785.1; have rgx_1785 := gx_1785.2; have igx_1785 : x_1785.toInt = v5.toInt + 1 := (by have hc1 : (1 : Int32).toInt = 1 := (by decide); have h9 := gi_addI ex_1785 (by have h1 := g_1780.1; have h2 := (gi_c 1 1 (by decide)).1; have h3 := g_1780.2; have h4 := (gi_c 1 1 (by decide)).2; omega) (by have h1 := g_1780.1; have h2 := (gi_c 1 1 (by decide)).1; have h3 := g_1780.2; have h4 := (gi_c 1 1 (by decide)).2; omega); rw [hc1] at h9; exact h9); have qgv5 := g_1780.1; have rgv5 := g_1780.2; omega) hP hS (lv_sub hl [2, 3, 4, 5, 1, 0] rfl)
        · refine lv_aload_n hx hb dX12_place_89 rfl (lv_at hl 0 rfl) ?_
          refine va_get (D := (dC, dI)) (ci := 12) (v := .ref (mr 4)) (C := RX12) (T := TX12) (N := 57) hx hb hts (fun w h => List.mem_cons_of_mem _ (jnGB_X12 w h)) hown hK hP 0 rfl rfl 13 (by decide) (hts _ (List.mem_cons_of_mem _ mGB_15)) (fun _ h9 => h9) rfl dX12_place_90 ?_
          refine lv_iload hx hb dX12_place_93 (lv_at hl 5 rfl) ?_
          refine va_zald hx hb hK hP 4 3 rfl rfl (gi_in g_1780 (by decide)) dX12_place_95 ?_
          refine lv_topi (fun x_1786 ex_1786 => ?_)
          have gx_1786 : gi x_1786 0 1 := ga_at gfm_struck (gi_in g_1780 (by decide)) ex_1786
          refine lv_if_ne (tgt := 103) hx hb dX12_place_96 (by decide) (fun c_1787 => ?_) (fun c_1787 => ?_)
          · have g_1788 : gi x_1786 1 1 := gi_ne_lo c_1787 gx_1786 (gi_c 0 0 (by decide)) (by decide)
            refine lv_iconst (v := 0) hx hb dX12_place_103 (by decide) ?_
            refine lv_iadd hx hb dX12_place_104 ?_
            refine lv_topi (fun x_1789 ex_1789 => ?_)
            refine lv_istore (lv' := [(4, .int x_1789), (0, .ref h0), (1, .int p1), (2, .int p2), (3, .int v3), (5, .int v5)]) hx hb dX12_place_105 hl (by decide) rfl (fun ls hl => ?_)
            obtain ⟨x_1790, ex_1790⟩ : ∃ y : Int32, y = v5 + 1 := ⟨_, rfl⟩
            have gx_1790 : gi x_1790 1 24 := gi_add ex_1790 g_1780 (gi_c 1 1 (by decide)) (by decide)
            refine lv_iinc (v := x_1790) (lv' := [(5, .int x_1790), (4, .int x_1789), (0, .ref h0), (1, .int p1), (2, .int p2), (3, .int v3)]) hx hb dX12_place_107 hl (k := 5) rfl (by rw [ex_1790]; rfl) (by decide) rfl (fun ls hl => ?_)
            refine lv_goto (tgt := 67) hx hb dX12_place_110 (by decide) ?_
            exact ih.2 v3 x_1789 x_1790 _ _ _ gf_p1 gf_p2 (gi_w gx_1790 (by decide)) (by have av5 := gv5.1; have bv5 := gv5.2; have qgx_1790 := gx_1790.1; have rgx_1790 := gx_1790.2; have igx_1790 : x_1790.toInt = v5.toInt + 1 := (by have hc1 : (1 : Int32).toInt = 1 := (by decide); have h9 := gi_addI ex_1790 (by have h1 := g_1780.1; have h2 := (gi_c 1 1 (by decide)).1; have h3 := g_1780.2; have h4 := (gi_c 1 1 (by decide)).2; omega) (by have h1 := g_1780.1; have h2 := (gi_c 1 1 (by decide)).1; have h3 := g_1780.2; have h4 := (gi_c 1 1 (by decide)).2; omega); rw [hc1] at h9; exact h9); have qgv5 := g_1780.1; have rgv5 := g_1780.2; omega) hP hS (lv_sub hl [2, 3, 4, 5, 1, 0] rfl)
          · have g_1791 : gi x_1786 0 0 := gi_eq c_1787 (gi_c 0 0 (by decide))
            refine lv_iconst (v := 1) hx hb dX12_place_99 (by decide) ?_
            refine lv_goto (tgt := 104) hx hb dX12_place_100 (by decide) ?_
            refine lv_iadd hx hb dX12_place_104 ?_
            refine lv_topi (fun x_1792 ex_1792 => ?_)
            refine lv_istore (lv' := [(4, .int x_1792), (0, .ref h0), (1, .int p1), (2, .int p2), (3, .int v3), (5, .int v5)]) hx hb dX12_place_105 hl (by decide) rfl (fun ls hl => ?_)
            obtain ⟨x_1793, ex_1793⟩ : ∃ y : Int32, y = v5 + 1 := ⟨_, rfl⟩
            have gx_1793 : gi x_1793 1 24 := gi_add ex_1793 g_1780 (gi_c 1 1 (by decide)) (by decide)
            refine lv_iinc (v := x_1793) (lv' := [(5, .int x_1793), (4, .int x_1792), (0, .ref h0), (1, .int p1), (2, .int p2), (3, .int v3)]) hx hb dX12_place_107 hl (k := 5) rfl (by rw [ex_1793]; rfl) (by decide) rfl (fun ls hl => ?_)
            refine lv_goto (tgt := 67) hx hb dX12_place_110 (by decide) ?_
            exact ih.2 v3 x_1792 x_1793 _ _ _ gf_p1 gf_p2 (gi_w gx_1793 (by decide)) (by have av5 := gv5.1; have bv5 := gv5.2; have qgx_1793 := gx_1793.1; have rgx_1793 := gx_1793.2; have igx_1793 : x_1793.toInt = v5.toInt + 1 := (by have hc1 : (1 : Int32).toInt = 1 := (by decide); have h9 := gi_addI ex_1793 (by have h1 := g_1780.1; have h2 := (gi_c 1 1 (by decide)).1; have h3 := g_1780.2; have h4 := (gi_c 1 1 (by decide)).2; omega) (by have h1 := g_1780.1; have h2 := (gi_c 1 1 (by decide)).1; have h3 := g_1780.2; have h4 := (gi_c 1 1 (by decide)).2; omega); rw [hc1] at h9; exact h9); have qgv5 := g_1780.1; have rgv5 := g_1780.2; omega) hP hS (lv_sub hl [2, 3, 4, 5, 1, 0] rfl)
set_option maxHeartbeats 4000000 in
set_option maxRecDepth 100000 in
theorem sX12_place (l : Launch) (dC : Nat → ClassId) (dI : Nat → Nat → Nat) (h0 : Nat) (mi : Nat → Int32) (mr : Nat → Nat) (km_trust : ClassId) (fm_trust : Nat → Int32) (km_letter : ClassId) (fm_letter : Nat → Int32) (km_reportPlace : ClassId) (fm_reportPlace : Nat → Int32) (km_struck : ClassId) (fm_struck : Nat → Int32) (p1 : Int32) (p2 : Int32) (gmi_0 : gi (mi 0) 0 24) (gmi_1 : gi (mi 1) 0 5) (gmi_2 : gi (mi 2) 0 5) (gmi_4 : gi (mi 4) 0 1) (gmi_7 : gi (mi 7) 0 6) (gmi_10 : gi (mi 10) 0 24) (gmi_17 : gi (mi 17) 0 8) (gmi_23 : gi (mi 23) 0 300) (gmi_24 : gi (mi 24) 0 1) (gmi_26 : gi (mi 26) 0 1600) (gmi_29 : gi (mi 29) 0 1600) (gmi_30 : gi (mi 30) 0 1600) (gmi_33 : gi (mi 33) 0 1) (gmi_37 : gi (mi 37) 0 1) (gmi_41 : gi (mi 41) 0 24) (gmi_50 : gi (mi 50) 0 1) (gmi_51 : gi (mi 51) 0 1) (gmi_56 : gi (mi 56) 0 80) (gfm_reportPlace : ga fm_reportPlace 24 0 5) (gfm_struck : ga fm_struck 24 0 1) : Met l yX12_place (.code yX12_place cX12_place 6 (some .int) :: wsGB) ({ frames := 2, cells := 0, slots := 0, locals := 46 }) (va_Pc [.ref h0, .int p1, .int p2] (fun U => va_P (dC, dI) vwCl [(h0, .inr (12, fsMM mi mr)), ((mr 0), .inl (km_trust, 6, .inl fm_trust)), ((mr 1), .inl (km_letter, 36, .inl fm_letter)), ((mr 2), .inl (km_reportPlace, 24, .inl fm_reportPlace)), ((mr 4), .inl (km_struck, 24, .inl fm_struck))] U.heap ∧ va_K (dC, dI) vwCl [(km_trust, .int), (km_letter, .int), (km_reportPlace, .int), (km_struck, .boolean)] U)) (va_Qi (fun (r : Int32) (u : Unit) => gi r (-2147483648) 2147483647) (fun _ _ => True) (fun _ => False)) 0 0 (fun _ => False) := by
  refine Met.ofW (cc := cX12_place) (maxL := 6) (ret := (some .int)) (by decide) rfl ?_
  intro p e s m args below meth c s₁ B hml hv
  obtain ⟨rfl, hP, hK⟩ := hv
  have hx := B.exec
  have hb := B.bytes
  have hr := B.returns
  have hts := atoms_spec (ws := (.code yX12_place cX12_place 6 (some .int) :: wsGB)) B.pre
  have hown : s.vm.findClass RX12 = some m.cls := findClass_of_methodNamed B.named
  have hlocks := B.notSynchronized
  have hS : va_S (fun _ => False) s.heap s.heap [] := va_S.rf
  have hl := lv_entry ([.ref h0, .int p1, .int p2]) (n := 6) (Nat.le_of_ble_eq_true rfl)
  rw [lg_entry_eq]
  generalize (lg_sl ([.ref h0, .int p1, .int p2]) ++ List.replicate (6 - (lg_sl ([.ref h0, .int p1, .int p2])).length) Slot.unset).toArray = ls at hl ⊢
  have hl : lv_has ls 6 [(0, .ref h0), (1, .int p1), (2, .int p2)] := hl
  refine lv_aload_n hx hb dX12_place_0 rfl (lv_at hl 0 rfl) ?_
  refine lv_iload_n hx hb dX12_place_1 rfl (lv_at hl 1 rfl) ?_
  have hPc := hP.sub (ws' := [(h0, .inr (12, fsMM mi mr))]) [0] rfl
  have hKc := hK.sub (tys' := []) [] rfl
  refine va_calli (va_runV (As := [.int p1]) (rest := []) ⟨hx, hb, hml, hown, hts⟩ (sX12_isPlace l dC dI h0 mi mr p1 gmi_0 gmi_1 gmi_2 gmi_4 gmi_7 gmi_10 gmi_17 gmi_23 gmi_24 gmi_26 gmi_29 gmi_30 gmi_33 gmi_37 gmi_41 gmi_50 gmi_51 gmi_56) (cwV 1 hts (gz_gV mGB_224 mGB_225 mGB_226 mGB_1 mGB_227 goodGB) rfl rfl rfl (by decide +kernel) ⟨Nat.le_of_ble_eq_true rfl, Nat.le_of_ble_eq_true rfl⟩) ⟨fun a U g mk q => by obtain ⟨q0, qP, qK⟩ := q; exact ⟨q0, qP, va_K.moved (u := U) (U := U.calling g mk a) (Vm.Alike.refl U.vm) qK⟩, va_recv hKc hPc (ci := 12) (q0 := 0) rfl rfl, fun U hU hW => ⟨rfl, by rw [hU]; exact hPc, va_K.moved hW.alike hKc⟩⟩ rfl rfl hl.1 rfl (lv_room (Nat.le_of_ble_eq_true rfl)) dX12_place_2 ⟨Nat.zero_le _, Nat.zero_le _⟩) hS (fun q _ h => h.elim) (fun q h => h.elim) (fun r_1794 u t H1 locs ht hvm hw hB hz1 hk1 hS => ?_)
  have hP := gz_keep hP hk1
  generalize H1 = H at hP hS ⊢
  have gr_1794 : gi r_1794 0 1 := hw.1
  have hqr_1794 := hw.2
  refine lv_if_eq (tgt := 20) hx hb dX12_place_5 (by decide) (fun c_1795 => ?_) (fun c_1795 => ?_)
  · have g_1796 : gi r_1794 0 0 := gi_eq c_1795 (gi_c 0 0 (by decide))
    refine lv_bipush (v := (-2)) hx hb dX12_place_20 (by decide) ?_
    exact W.iret (v := (-2)) hx hb hr (fun t ht hW => ⟨⟨(-2), (), rfl, (gi_any (-2)), trivial⟩, hS.F ht⟩) hS.2.2 dX12_place_22
  · have g_1797 : gi r_1794 1 1 := gi_ne_lo c_1795 gr_1794 (gi_c 0 0 (by decide)) (by decide)
    have g_1798 : gi p1 0 5 := gi_cap (gi_any p1) (hqr_1794 (gz_one g_1797)) (by decide)
    refine lv_iload_n hx hb dX12_place_8 rfl (lv_at hl 2 rfl) ?_
    refine lv_i2l (v := (p2).toInt64) hx hb dX12_place_9 rfl ?_
    refine lv_topl (fun l_1799 el_1799 => ?_)
    refine lv_lconst (v := 0) hx hb dX12_place_10 (by decide) ?_
    refine lv_ldc2 (own := RX12) (v := 2) hx hb hown (hts _ (List.mem_cons_of_mem _ mGB_223)) dX12_place_11 ?_
    have hPc := hP.sub (ws' := []) [] rfl
    have hKc := hK.sub (tys' := []) [] rfl
    refine va_calli (va_runS (As := [.long l_1799, .long 0, .long 2]) (rest := []) ⟨hx, hb, hml, hown, hts⟩ (sX12_in l dC dI l_1799 0 2) (cwS 3 hts (gz_gS mGB_47 mGB_48 mGB_1 mGB_49 goodGB) rfl rfl rfl (by decide +kernel) ⟨Nat.le_of_ble_eq_true rfl, Nat.le_of_ble_eq_true rfl⟩) ⟨fun a U g mk q => by obtain ⟨q0, qP, qK⟩ := q; exact ⟨q0, qP, va_K.moved (u := U) (U := U.calling g mk a) (Vm.Alike.refl U.vm) qK⟩, fun U hU hW => ⟨rfl, by rw [hU]; exact hPc, va_K.moved hW.alike hKc⟩⟩ rfl rfl hl.1 rfl (lv_room (Nat.le_of_ble_eq_true rfl)) dX12_place_14 ⟨Nat.zero_le _, Nat.zero_le _⟩) hS (fun q _ h => h.elim) (fun q h => h.elim) (fun r_1800 u t H1 locs ht hvm hw hB hz1 hk1 hS => ?_)
    have hP := gz_keep hP hk1
    generalize H1 = H at hP hS ⊢
    have gr_1800 : gi r_1800 0 1 := hw.1
    have hqr_1800 := hw.2
    refine lv_if_ne (tgt := 23) hx hb dX12_place_17 (by decide) (fun c_1801 => ?_) (fun c_1801 => ?_)
    · have g_1802 : gi r_1800 1 1 := gi_ne_lo c_1801 gr_1800 (gi_c 0 0 (by decide)) (by decide)
      have g_1803 : gi p2 0 2 := gi_cap (gi_any p2) (gz_inr (hqr_1800.1 (gz_one g_1802)) el_1799 (A := 0) (B := 2) (by decide) (by decide)) (by decide)
      refine lv_iconst (v := 0) hx hb dX12_place_23 (by decide) ?_
      refine lv_istore_n (lv' := [(3, .int 0), (0, .ref h0), (1, .int p1), (2, .int p2)]) hx hb dX12_place_24 rfl hl (by decide) rfl (fun ls hl => ?_)
      refine lv_iconst (v := 0) hx hb dX12_place_25 (by decide) ?_
      refine lv_istore (lv' := [(4, .int 0), (3, .int 0), (0, .ref h0), (1, .int p1), (2, .int p2)]) hx hb dX12_place_26 hl (by decide) rfl (fun ls hl => ?_)
      refine (lp_sX12_place h0 mi mr km_trust fm_trust km_letter fm_letter km_reportPlace fm_reportPlace km_struck fm_struck p1 p2 gmi_0 gmi_1 gmi_2 gmi_4 gmi_7 gmi_10 gmi_17 gmi_23 gmi_24 gmi_26 gmi_29 gmi_30 gmi_33 gmi_37 gmi_41 gmi_50 gmi_51 gmi_56 gfm_reportPlace gfm_struck hx hb hml hown hts hK (Nat.le_of_ble_eq_true rfl) (Nat.le_of_ble_eq_true rfl) (Nat.zero_le _) (Nat.zero_le _) (fun v H locs ls gv hP hS hl => ?_) (fun v H locs ls hP hS hl => ?_) 78).1 0 0 _ _ _ g_1798 g_1803 (gi_w (gi_c 0 0 (by decide)) (by decide)) (by have k0 : (0 : Int32).toInt = 0 := (by decide); omega) hP hS (lv_sub hl [2, 3, 4, 1, 0] rfl)
      · skip
        exact W.iret (v := v) hx hb hr (fun t ht hW => ⟨⟨v, (), rfl, (gi_any v), trivial⟩, hS.F ht⟩) hS.2.2 dX12_place_22
      · skip
        exact W.iret (v := v) hx hb hr (fun t ht hW => ⟨⟨v, (), rfl, (gi_any v), trivial⟩, hS.F ht⟩) hS.2.2 dX12_place_137
    · have g_1804 : gi r_1800 0 0 := gi_eq c_1801 (gi_c 0 0 (by decide))
      refine lv_bipush (v := (-2)) hx hb dX12_place_20 (by decide) ?_
      exact W.iret (v := (-2)) hx hb hr (fun t ht hW => ⟨⟨(-2), (), rfl, (gi_any (-2)), trivial⟩, hS.F ht⟩) hS.2.2 dX12_place_22
theorem dX12_lays_0 : decode cX12_lays 0 = .ok (.aload_n 0, 1) := by decide +kernel
theorem dX12_lays_1 : decode cX12_lays 1 = .ok (.getfield 16, 3) := by decide +kernel
theorem dX12_lays_4 : decode cX12_lays 4 = .ok (.aload_n 0, 1) := by decide +kernel
theorem dX12_lays_5 : decode cX12_lays 5 = .ok (.getfield 141, 3) := by decide +kernel
theorem dX12_lays_8 : decode cX12_lays 8 = .ok (.iload_n 1, 1) := by decide +kernel
theorem dX12_lays_9 : decode cX12_lays 9 = .ok (.iastore, 1) := by decide +kernel
theorem dX12_lays_10 : decode cX12_lays 10 = .ok (.aload_n 0, 1) := by decide +kernel
theorem dX12_lays_11 : decode cX12_lays 11 = .ok (.getfield 19, 3) := by decide +kernel
theorem dX12_lays_14 : decode cX12_lays 14 = .ok (.aload_n 0, 1) := by decide +kernel
theorem dX12_lays_15 : decode cX12_lays 15 = .ok (.getfield 141, 3) := by decide +kernel
theorem dX12_lays_18 : decode cX12_lays 18 = .ok (.iload_n 2, 1) := by decide +kernel
theorem dX12_lays_19 : decode cX12_lays 19 = .ok (.iastore, 1) := by decide +kernel
theorem dX12_lays_20 : decode cX12_lays 20 = .ok (.aload_n 0, 1) := by decide +kernel
theorem dX12_lays_21 : decode cX12_lays 21 = .ok (.getfield 26, 3) := by decide +kernel
theorem dX12_lays_24 : decode cX12_lays 24 = .ok (.aload_n 0, 1) := by decide +kernel
theorem dX12_lays_25 : decode cX12_lays 25 = .ok (.getfield 141, 3) := by decide +kernel
theorem dX12_lays_28 : decode cX12_lays 28 = .ok (.iload_n 3, 1) := by decide +kernel
theorem dX12_lays_29 : decode cX12_lays 29 = .ok (.iastore, 1) := by decide +kernel
theorem dX12_lays_30 : decode cX12_lays 30 = .ok (.aload_n 0, 1) := by decide +kernel
theorem dX12_lays_31 : decode cX12_lays 31 = .ok (.getfield 29, 3) := by decide +kernel
theorem dX12_lays_34 : decode cX12_lays 34 = .ok (.aload_n 0, 1) := by decide +kernel
theorem dX12_lays_35 : decode cX12_lays 35 = .ok (.getfield 141, 3) := by decide +kernel
theorem dX12_lays_38 : decode cX12_lays 38 = .ok (.iload 4, 2) := by decide +kernel
theorem dX12_lays_40 : decode cX12_lays 40 = .ok (.iastore, 1) := by decide +kernel
theorem dX12_lays_41 : decode cX12_lays 41 = .ok (.aload_n 0, 1) := by decide +kernel
theorem dX12_lays_42 : decode cX12_lays 42 = .ok (.getfield 32, 3) := by decide +kernel
theorem dX12_lays_45 : decode cX12_lays 45 = .ok (.aload_n 0, 1) := by decide +kernel
theorem dX12_lays_46 : decode cX12_lays 46 = .ok (.getfield 141, 3) := by decide +kernel
theorem dX12_lays_49 : decode cX12_lays 49 = .ok (.iload 5, 2) := by decide +kernel
theorem dX12_lays_51 : decode cX12_lays 51 = .ok (.iastore, 1) := by decide +kernel
theorem dX12_lays_52 : decode cX12_lays 52 = .ok (.aload_n 0, 1) := by decide +kernel
theorem dX12_lays_53 : decode cX12_lays 53 = .ok (.getfield 22, 3) := by decide +kernel
theorem dX12_lays_56 : decode cX12_lays 56 = .ok (.aload_n 0, 1) := by decide +kernel
theorem dX12_lays_57 : decode cX12_lays 57 = .ok (.getfield 141, 3) := by decide +kernel
theorem dX12_lays_60 : decode cX12_lays 60 = .ok (.iconst 0, 1) := by decide +kernel
theorem dX12_lays_61 : decode cX12_lays 61 = .ok (.bastore, 1) := by decide +kernel
theorem dX12_lays_62 : decode cX12_lays 62 = .ok (.aload_n 0, 1) := by decide +kernel
theorem dX12_lays_63 : decode cX12_lays 63 = .ok (.dup, 1) := by decide +kernel
theorem dX12_lays_64 : decode cX12_lays 64 = .ok (.getfield 141, 3) := by decide +kernel
theorem dX12_lays_67 : decode cX12_lays 67 = .ok (.iconst 1, 1) := by decide +kernel
theorem dX12_lays_68 : decode cX12_lays 68 = .ok (.iadd, 1) := by decide +kernel
theorem dX12_lays_69 : decode cX12_lays 69 = .ok (.putfield 141, 3) := by decide +kernel
theorem dX12_lays_72 : decode cX12_lays 72 = .ok (.return_, 1) := by decide +kernel
set_option maxHeartbeats 4000000 in
set_option maxRecDepth 100000 in
theorem sX12_lays (l : Launch) (dC : Nat → ClassId) (dI : Nat → Nat → Nat) (sz : Nat) (h0 : Nat) (mi : Nat → Int32) (mr : Nat → Nat) (km_reportPlace : ClassId) (fm_reportPlace : Nat → Int32) (km_reportKind : ClassId) (fm_reportKind : Nat → Int32) (km_reportMonth : ClassId) (fm_reportMonth : Nat → Int32) (km_reportDay : ClassId) (fm_reportDay : Nat → Int32) (km_reportKnown : ClassId) (fm_reportKnown : Nat → Int32) (km_struck : ClassId) (fm_struck : Nat → Int32) (p1 : Int32) (p2 : Int32) (p3 : Int32) (p4 : Int32) (p5 : Int32) (gmi_0 : gi (mi 0) 0 24) (gmi_1 : gi (mi 1) 0 5) (gmi_2 : gi (mi 2) 0 5) (gmi_4 : gi (mi 4) 0 1) (gmi_7 : gi (mi 7) 0 6) (gmi_10 : gi (mi 10) 0 23) (gmi_17 : gi (mi 17) 0 8) (gmi_23 : gi (mi 23) 0 300) (gmi_24 : gi (mi 24) 0 1) (gmi_26 : gi (mi 26) 0 1600) (gmi_29 : gi (mi 29) 0 1600) (gmi_30 : gi (mi 30) 0 1600) (gmi_33 : gi (mi 33) 0 1) (gmi_37 : gi (mi 37) 0 1) (gmi_41 : gi (mi 41) 0 24) (gmi_50 : gi (mi 50) 0 1) (gmi_51 : gi (mi 51) 0 1) (gmi_56 : gi (mi 56) 0 80) (gfm_reportPlace : ga fm_reportPlace 24 0 5) (gfm_reportMonth : ga fm_reportMonth 24 0 23) (gfm_reportDay : ga fm_reportDay 24 0 999) (gfm_reportKnown : ga fm_reportKnown 24 0 999) (gfm_struck : ga fm_struck 24 0 1) (gp1 : gi p1 0 5) (gp3 : gi p3 0 23) (gp4 : gi p4 0 999) (gp5 : gi p5 0 999) : Met l yX12_lays (.code yX12_lays cX12_lays 6 none :: wsGB) ({ frames := 0, cells := 0, slots := 0, locals := 0 }) (va_Pc [.ref h0, .int p1, .int p2, .int p3, .int p4, .int p5] (fun U => U.heap.size = sz ∧ va_P (dC, dI) vwCl [(h0, .inr (12, fsMM mi mr)), ((mr 2), .inl (km_reportPlace, 24, .inl fm_reportPlace)), ((mr 3), .inl (km_reportKind, 24, .inl fm_reportKind)), ((mr 5), .inl (km_reportMonth, 24, .inl fm_reportMonth)), ((mr 6), .inl (km_reportDay, 24, .inl fm_reportDay)), ((mr 7), .inl (km_reportKnown, 24, .inl fm_reportKnown)), ((mr 4), .inl (km_struck, 24, .inl fm_struck))] U.heap ∧ va_K (dC, dI) vwCl [(km_reportPlace, .int), (km_reportKind, .int), (km_reportMonth, .int), (km_reportDay, .int), (km_reportKnown, .int), (km_struck, .boolean)] U ∧ va_D (fun _ => True) [(h0, .inr (12, fsMM mi mr)), ((mr 2), .inl (km_reportPlace, 24, .inl fm_reportPlace)), ((mr 3), .inl (km_reportKind, 24, .inl fm_reportKind)), ((mr 5), .inl (km_reportMonth, 24, .inl fm_reportMonth)), ((mr 6), .inl (km_reportDay, 24, .inl fm_reportDay)), ((mr 7), .inl (km_reportKnown, 24, .inl fm_reportKnown)), ((mr 4), .inl (km_struck, 24, .inl fm_struck))])) (va_Qv (fun (u : Unit) => True) (fun _ t => ∃ (w0_10 : Int32) (z1 : Nat → Int32) (z2 : Nat → Int32) (z3 : Nat → Int32) (z4 : Nat → Int32) (z5 : Nat → Int32) (z6 : Nat → Int32), gi w0_10 0 24 ∧ ga z1 24 0 5 ∧ ga z3 24 0 23 ∧ ga z4 24 0 999 ∧ ga z5 24 0 999 ∧ ga z6 24 0 1 ∧ va_P (dC, dI) vwCl [(h0, .inr (12, fsMM (upd mi 10 w0_10) mr)), ((mr 2), .inl (km_reportPlace, 24, .inl z1)), ((mr 3), .inl (km_reportKind, 24, .inl z2)), ((mr 5), .inl (km_reportMonth, 24, .inl z3)), ((mr 6), .inl (km_reportDay, 24, .inl z4)), ((mr 7), .inl (km_reportKnown, 24, .inl z5)), ((mr 4), .inl (km_struck, 24, .inl z6))] t.heap ∧ va_D (va_A [(h0, .inr (12, fsMM mi mr)), ((mr 2), .inl (km_reportPlace, 24, .inl fm_reportPlace)), ((mr 3), .inl (km_reportKind, 24, .inl fm_reportKind)), ((mr 5), .inl (km_reportMonth, 24, .inl fm_reportMonth)), ((mr 6), .inl (km_reportDay, 24, .inl fm_reportDay)), ((mr 7), .inl (km_reportKnown, 24, .inl fm_reportKnown)), ((mr 4), .inl (km_struck, 24, .inl fm_struck))] sz) [(h0, .inr (12, fsMM (upd mi 10 w0_10) mr)), ((mr 2), .inl (km_reportPlace, 24, .inl z1)), ((mr 3), .inl (km_reportKind, 24, .inl z2)), ((mr 5), .inl (km_reportMonth, 24, .inl z3)), ((mr 6), .inl (km_reportDay, 24, .inl z4)), ((mr 7), .inl (km_reportKnown, 24, .inl z5)), ((mr 4), .inl (km_struck, 24, .inl z6))]) (va_A [(h0, .inr (12, fsMM mi mr)), ((mr 2), .inl (km_reportPlace, 24, .inl fm_reportPlace)), ((mr 3), .inl (km_reportKind, 24, .inl fm_reportKind)), ((mr 5), .inl (km_reportMonth, 24, .inl fm_reportMonth)), ((mr 6), .inl (km_reportDay, 24, .inl fm_reportDay)), ((mr 7), .inl (km_reportKnown, 24, .inl fm_reportKnown)), ((mr 4), .inl (km_struck, 24, .inl fm_struck))] sz)) 0 0 (va_A [(h0, .inr (12, fsMM mi mr)), ((mr 2), .inl (km_reportPlace, 24, .inl fm_reportPlace)), ((mr 3), .inl (km_reportKind, 24, .inl fm_reportKind)), ((mr 5), .inl (km_reportMonth, 24, .inl fm_reportMonth)), ((mr 6), .inl (km_reportDay, 24, .inl fm_reportDay)), ((mr 7), .inl (km_reportKnown, 24, .inl fm_reportKnown)), ((mr 4), .inl (km_struck, 24, .inl fm_struck))] sz) := by
  refine Met.ofW (cc := cX12_lays) (maxL := 6) (ret := none) (by decide) rfl ?_
  intro p e s m args below meth c s₁ B hml hv
  obtain ⟨rfl, hsz, hP, hK, hD0⟩ := hv
  have hx := B.exec
  have hb := B.bytes
  have hr := B.returns
  have hts := atoms_spec (ws := (.code yX12_lays cX12_lays 6 none :: wsGB)) B.pre
  have hown : s.vm.findClass RX12 = some m.cls := findClass_of_methodNamed B.named
  have hlocks := B.notSynchronized
  subst hsz
  have hD := hD0.self (sz := s.heap.size)
  generalize hAe : va_A [(h0, .inr (12, fsMM mi mr)), ((mr 2), .inl (km_reportPlace, 24, .inl fm_reportPlace)), ((mr 3), .inl (km_reportKind, 24, .inl fm_reportKind)), ((mr 5), .inl (km_reportMonth, 24, .inl fm_reportMonth)), ((mr 6), .inl (km_reportDay, 24, .inl fm_reportDay)), ((mr 7), .inl (km_reportKnown, 24, .inl fm_reportKnown)), ((mr 4), .inl (km_struck, 24, .inl fm_struck))] s.heap.size = A at hD ⊢
  have hA : ∀ q : Nat, s.heap.size ≤ q → A q := fun q h => by rw [← hAe]; exact Or.inr h
  have hS : va_S A s.heap s.heap [] := va_S.rf
  have hl := lv_entry ([.ref h0, .int p1, .int p2, .int p3, .int p4, .int p5]) (n := 6) (Nat.le_of_ble_eq_true rfl)
  rw [lg_entry_eq]
  generalize (lg_sl ([.ref h0, .int p1, .int p2, .int p3, .int p4, .int p5]) ++ List.replicate (6 - (lg_sl ([.ref h0, .int p1, .int p2, .int p3, .int p4, .int p5])).length) Slot.unset).toArray = ls at hl ⊢
  have hl : lv_has ls 6 [(0, .ref h0), (1, .int p1), (2, .int p2), (3, .int p3), (4, .int p4), (5, .int p5)] := hl
  refine lv_aload_n hx hb dX12_lays_0 rfl (lv_at hl 0 rfl) ?_
  refine va_get (D := (dC, dI)) (ci := 12) (v := .ref (mr 2)) (C := RX12) (T := TX12) (N := 57) hx hb hts (fun w h => List.mem_cons_of_mem _ (jnGB_X12 w h)) hown hK hP 0 rfl rfl 11 (by decide) (hts _ (List.mem_cons_of_mem _ mGB_12)) (fun _ h9 => h9) rfl dX12_lays_1 ?_
  refine lv_aload_n hx hb dX12_lays_4 rfl (lv_at hl 0 rfl) ?_
  refine va_get (D := (dC, dI)) (ci := 12) (v := .int (mi 10)) (C := RX12) (T := TX12) (N := 57) hx hb hts (fun w h => List.mem_cons_of_mem _ (jnGB_X12 w h)) hown hK hP 0 rfl rfl 10 (by decide) (hts _ (List.mem_cons_of_mem _ mGB_111)) (fun _ h9 => h9) rfl dX12_lays_5 ?_
  refine lv_iload_n hx hb dX12_lays_8 rfl (lv_at hl 1 rfl) ?_
  refine va_iast hx hb hK hP hD hS 1 0 rfl rfl (gi_in gmi_10 (by decide)) dX12_lays_9 (fun H locs hP hD hS => ?_)
  have hP : va_P (dC, dI) vwCl [(h0, .inr (12, fsMM mi mr)), ((mr 2), .inl (km_reportPlace, 24, .inl (upd fm_reportPlace ((mi 10) : Int32).toNatClampNeg p1))), ((mr 3), .inl (km_reportKind, 24, .inl fm_reportKind)), ((mr 5), .inl (km_reportMonth, 24, .inl fm_reportMonth)), ((mr 6), .inl (km_reportDay, 24, .inl fm_reportDay)), ((mr 7), .inl (km_reportKnown, 24, .inl fm_reportKnown)), ((mr 4), .inl (km_struck, 24, .inl fm_struck))] H := hP
  have hD : va_D A [(h0, .inr (12, fsMM mi mr)), ((mr 2), .inl (km_reportPlace, 24, .inl (upd fm_reportPlace ((mi 10) : Int32).toNatClampNeg p1))), ((mr 3), .inl (km_reportKind, 24, .inl fm_reportKind)), ((mr 5), .inl (km_reportMonth, 24, .inl fm_reportMonth)), ((mr 6), .inl (km_reportDay, 24, .inl fm_reportDay)), ((mr 7), .inl (km_reportKnown, 24, .inl fm_reportKnown)), ((mr 4), .inl (km_struck, 24, .inl fm_struck))] := hD
  have gf_15 : ga (upd fm_reportPlace ((mi 10) : Int32).toNatClampNeg p1) 24 0 5 := ga_upd gfm_reportPlace gp1
  generalize upd fm_reportPlace ((mi 10) : Int32).toNatClampNeg p1 = f_15 at hP hD gf_15
  refine lv_aload_n hx hb dX12_lays_10 rfl (lv_at hl 0 rfl) ?_
  refine va_get (D := (dC, dI)) (ci := 12) (v := .ref (mr 3)) (C := RX12) (T := TX12) (N := 57) hx hb hts (fun w h => List.mem_cons_of_mem _ (jnGB_X12 w h)) hown hK hP 0 rfl rfl 12 (by decide) (hts _ (List.mem_cons_of_mem _ mGB_13)) (fun _ h9 => h9) rfl dX12_lays_11 ?_
  refine lv_aload_n hx hb dX12_lays_14 rfl (lv_at hl 0 rfl) ?_
  refine va_get (D := (dC, dI)) (ci := 12) (v := .int (mi 10)) (C := RX12) (T := TX12) (N := 57) hx hb hts (fun w h => List.mem_cons_of_mem _ (jnGB_X12 w h)) hown hK hP 0 rfl rfl 10 (by decide) (hts _ (List.mem_cons_of_mem _ mGB_111)) (fun _ h9 => h9) rfl dX12_lays_15 ?_
  refine lv_iload_n hx hb dX12_lays_18 rfl (lv_at hl 2 rfl) ?_
  refine va_iast hx hb hK hP hD hS 2 1 rfl rfl (gi_in gmi_10 (by decide)) dX12_lays_19 (fun H locs hP hD hS => ?_)
  have hP : va_P (dC, dI) vwCl [(h0, .inr (12, fsMM mi mr)), ((mr 2), .inl (km_reportPlace, 24, .inl f_15)), ((mr 3), .inl (km_reportKind, 24, .inl (upd fm_reportKind ((mi 10) : Int32).toNatClampNeg p2))), ((mr 5), .inl (km_reportMonth, 24, .inl fm_reportMonth)), ((mr 6), .inl (km_reportDay, 24, .inl fm_reportDay)), ((mr 7), .inl (km_reportKnown, 24, .inl fm_reportKnown)), ((mr 4), .inl (km_struck, 24, .inl fm_struck))] H := hP
  have hD : va_D A [(h0, .inr (12, fsMM mi mr)), ((mr 2), .inl (km_reportPlace, 24, .inl f_15)), ((mr 3), .inl (km_reportKind, 24, .inl (upd fm_reportKind ((mi 10) : Int32).toNatClampNeg p2))), ((mr 5), .inl (km_reportMonth, 24, .inl fm_reportMonth)), ((mr 6), .inl (km_reportDay, 24, .inl fm_reportDay)), ((mr 7), .inl (km_reportKnown, 24, .inl fm_reportKnown)), ((mr 4), .inl (km_struck, 24, .inl fm_struck))] := hD
  generalize upd fm_reportKind ((mi 10) : Int32).toNatClampNeg p2 = f_16 at hP hD
  refine lv_aload_n hx hb dX12_lays_20 rfl (lv_at hl 0 rfl) ?_
  refine va_get (D := (dC, dI)) (ci := 12) (v := .ref (mr 5)) (C := RX12) (T := TX12) (N := 57) hx hb hts (fun w h => List.mem_cons_of_mem _ (jnGB_X12 w h)) hown hK hP 0 rfl rfl 14 (by decide) (hts _ (List.mem_cons_of_mem _ mGB_16)) (fun _ h9 => h9) rfl dX12_lays_21 ?_
  refine lv_aload_n hx hb dX12_lays_24 rfl (lv_at hl 0 rfl) ?_
  refine va_get (D := (dC, dI)) (ci := 12) (v := .int (mi 10)) (C := RX12) (T := TX12) (N := 57) hx hb hts (fun w h => List.mem_cons_of_mem _ (jnGB_X12 w h)) hown hK hP 0 rfl rfl 10 (by decide) (hts _ (List.mem_cons_of_mem _ mGB_111)) (fun _ h9 => h9) rfl dX12_lays_25 ?_
  refine lv_iload_n hx hb dX12_lays_28 rfl (lv_at hl 3 rfl) ?_
  refine va_iast hx hb hK hP hD hS 3 2 rfl rfl (gi_in gmi_10 (by decide)) dX12_lays_29 (fun H locs hP hD hS => ?_)
  have hP : va_P (dC, dI) vwCl [(h0, .inr (12, fsMM mi mr)), ((mr 2), .inl (km_reportPlace, 24, .inl f_15)), ((mr 3), .inl (km_reportKind, 24, .inl f_16)), ((mr 5), .inl (km_reportMonth, 24, .inl (upd fm_reportMonth ((mi 10) : Int32).toNatClampNeg p3))), ((mr 6), .inl (km_reportDay, 24, .inl fm_reportDay)), ((mr 7), .inl (km_reportKnown, 24, .inl fm_reportKnown)), ((mr 4), .inl (km_struck, 24, .inl fm_struck))] H := hP
  have hD : va_D A [(h0, .inr (12, fsMM mi mr)), ((mr 2), .inl (km_reportPlace, 24, .inl f_15)), ((mr 3), .inl (km_reportKind, 24, .inl f_16)), ((mr 5), .inl (km_reportMonth, 24, .inl (upd fm_reportMonth ((mi 10) : Int32).toNatClampNeg p3))), ((mr 6), .inl (km_reportDay, 24, .inl fm_reportDay)), ((mr 7), .inl (km_reportKnown, 24, .inl fm_reportKnown)), ((mr 4), .inl (km_struck, 24, .inl fm_struck))] := hD
  have gf_17 : ga (upd fm_reportMonth ((mi 10) : Int32).toNatClampNeg p3) 24 0 23 := ga_upd gfm_reportMonth gp3
  generalize upd fm_reportMonth ((mi 10) : Int32).toNatClampNeg p3 = f_17 at hP hD gf_17
  refine lv_aload_n hx hb dX12_lays_30 rfl (lv_at hl 0 rfl) ?_
  refine va_get (D := (dC, dI)) (ci := 12) (v := .ref (mr 6)) (C := RX12) (T := TX12) (N := 57) hx hb hts (fun w h => List.mem_cons_of_mem _ (jnGB_X12 w h)) hown hK hP 0 rfl rfl 15 (by decide) (hts _ (List.mem_cons_of_mem _ mGB_17)) (fun _ h9 => h9) rfl dX12_lays_31 ?_
  refine lv_aload_n hx hb dX12_lays_34 rfl (lv_at hl 0 rfl) ?_
  refine va_get (D := (dC, dI)) (ci := 12) (v := .int (mi 10)) (C := RX12) (T := TX12) (N := 57) hx hb hts (fun w h => List.mem_cons_of_mem _ (jnGB_X12 w h)) hown hK hP 0 rfl rfl 10 (by decide) (hts _ (List.mem_cons_of_mem _ mGB_111)) (fun _ h9 => h9) rfl dX12_lays_35 ?_
  refine lv_iload hx hb dX12_lays_38 (lv_at hl 4 rfl) ?_
  refine va_iast hx hb hK hP hD hS 4 3 rfl rfl (gi_in gmi_10 (by decide)) dX12_lays_40 (fun H locs hP hD hS => ?_)
  have hP : va_P (dC, dI) vwCl [(h0, .inr (12, fsMM mi mr)), ((mr 2), .inl (km_reportPlace, 24, .inl f_15)), ((mr 3), .inl (km_reportKind, 24, .inl f_16)), ((mr 5), .inl (km_reportMonth, 24, .inl f_17)), ((mr 6), .inl (km_reportDay, 24, .inl (upd fm_reportDay ((mi 10) : Int32).toNatClampNeg p4))), ((mr 7), .inl (km_reportKnown, 24, .inl fm_reportKnown)), ((mr 4), .inl (km_struck, 24, .inl fm_struck))] H := hP
  have hD : va_D A [(h0, .inr (12, fsMM mi mr)), ((mr 2), .inl (km_reportPlace, 24, .inl f_15)), ((mr 3), .inl (km_reportKind, 24, .inl f_16)), ((mr 5), .inl (km_reportMonth, 24, .inl f_17)), ((mr 6), .inl (km_reportDay, 24, .inl (upd fm_reportDay ((mi 10) : Int32).toNatClampNeg p4))), ((mr 7), .inl (km_reportKnown, 24, .inl fm_reportKnown)), ((mr 4), .inl (km_struck, 24, .inl fm_struck))] := hD
  have gf_18 : ga (upd fm_reportDay ((mi 10) : Int32).toNatClampNeg p4) 24 0 999 := ga_upd gfm_reportDay gp4
  generalize upd fm_reportDay ((mi 10) : Int32).toNatClampNeg p4 = f_18 at hP hD gf_18
  refine lv_aload_n hx hb dX12_lays_41 rfl (lv_at hl 0 rfl) ?_
  refine va_get (D := (dC, dI)) (ci := 12) (v := .ref (mr 7)) (C := RX12) (T := TX12) (N := 57) hx hb hts (fun w h => List.mem_cons_of_mem _ (jnGB_X12 w h)) hown hK hP 0 rfl rfl 16 (by decide) (hts _ (List.mem_cons_of_mem _ mGB_18)) (fun _ h9 => h9) rfl dX12_lays_42 ?_
  refine lv_aload_n hx hb dX12_lays_45 rfl (lv_at hl 0 rfl) ?_
  refine va_get (D := (dC, dI)) (ci := 12) (v := .int (mi 10)) (C := RX12) (T := TX12) (N := 57) hx hb hts (fun w h => List.mem_cons_of_mem _ (jnGB_X12 w h)) hown hK hP 0 rfl rfl 10 (by decide) (hts _ (List.mem_cons_of_mem _ mGB_111)) (fun _ h9 => h9) rfl dX12_lays_46 ?_
  refine lv_iload hx hb dX12_lays_49 (lv_at hl 5 rfl) ?_
  refine va_iast hx hb hK hP hD hS 5 4 rfl rfl (gi_in gmi_10 (by decide)) dX12_lays_51 (fun H locs hP hD hS => ?_)
  have hP : va_P (dC, dI) vwCl [(h0, .inr (12, fsMM mi mr)), ((mr 2), .inl (km_reportPlace, 24, .inl f_15)), ((mr 3), .inl (km_reportKind, 24, .inl f_16)), ((mr 5), .inl (km_reportMonth, 24, .inl f_17)), ((mr 6), .inl (km_reportDay, 24, .inl f_18)), ((mr 7), .inl (km_reportKnown, 24, .inl (upd fm_reportKnown ((mi 10) : Int32).toNatClampNeg p5))), ((mr 4), .inl (km_struck, 24, .inl fm_struck))] H := hP
  have hD : va_D A [(h0, .inr (12, fsMM mi mr)), ((mr 2), .inl (km_reportPlace, 24, .inl f_15)), ((mr 3), .inl (km_reportKind, 24, .inl f_16)), ((mr 5), .inl (km_reportMonth, 24, .inl f_17)), ((mr 6), .inl (km_reportDay, 24, .inl f_18)), ((mr 7), .inl (km_reportKnown, 24, .inl (upd fm_reportKnown ((mi 10) : Int32).toNatClampNeg p5))), ((mr 4), .inl (km_struck, 24, .inl fm_struck))] := hD
  have gf_19 : ga (upd fm_reportKnown ((mi 10) : Int32).toNatClampNeg p5) 24 0 999 := ga_upd gfm_reportKnown gp5
  generalize upd fm_reportKnown ((mi 10) : Int32).toNatClampNeg p5 = f_19 at hP hD gf_19
  refine lv_aload_n hx hb dX12_lays_52 rfl (lv_at hl 0 rfl) ?_
  refine va_get (D := (dC, dI)) (ci := 12) (v := .ref (mr 4)) (C := RX12) (T := TX12) (N := 57) hx hb hts (fun w h => List.mem_cons_of_mem _ (jnGB_X12 w h)) hown hK hP 0 rfl rfl 13 (by decide) (hts _ (List.mem_cons_of_mem _ mGB_15)) (fun _ h9 => h9) rfl dX12_lays_53 ?_
  refine lv_aload_n hx hb dX12_lays_56 rfl (lv_at hl 0 rfl) ?_
  refine va_get (D := (dC, dI)) (ci := 12) (v := .int (mi 10)) (C := RX12) (T := TX12) (N := 57) hx hb hts (fun w h => List.mem_cons_of_mem _ (jnGB_X12 w h)) hown hK hP 0 rfl rfl 10 (by decide) (hts _ (List.mem_cons_of_mem _ mGB_111)) (fun _ h9 => h9) rfl dX12_lays_57 ?_
  refine lv_iconst (v := 0) hx hb dX12_lays_60 (by decide) ?_
  refine va_zast hx hb hK hP hD hS 6 5 rfl rfl (gi_in gmi_10 (by decide)) dX12_lays_61 (fun H locs hP hD hS => ?_)
  have hP : va_P (dC, dI) vwCl [(h0, .inr (12, fsMM mi mr)), ((mr 2), .inl (km_reportPlace, 24, .inl f_15)), ((mr 3), .inl (km_reportKind, 24, .inl f_16)), ((mr 5), .inl (km_reportMonth, 24, .inl f_17)), ((mr 6), .inl (km_reportDay, 24, .inl f_18)), ((mr 7), .inl (km_reportKnown, 24, .inl f_19)), ((mr 4), .inl (km_struck, 24, .inl (upd fm_struck ((mi 10) : Int32).toNatClampNeg (vp_nar .boolean 0))))] H := hP
  have hD : va_D A [(h0, .inr (12, fsMM mi mr)), ((mr 2), .inl (km_reportPlace, 24, .inl f_15)), ((mr 3), .inl (km_reportKind, 24, .inl f_16)), ((mr 5), .inl (km_reportMonth, 24, .inl f_17)), ((mr 6), .inl (km_reportDay, 24, .inl f_18)), ((mr 7), .inl (km_reportKnown, 24, .inl f_19)), ((mr 4), .inl (km_struck, 24, .inl (upd fm_struck ((mi 10) : Int32).toNatClampNeg (vp_nar .boolean 0))))] := hD
  have gf_20 : ga (upd fm_struck ((mi 10) : Int32).toNatClampNeg (vp_nar .boolean 0)) 24 0 1 := ga_updz gfm_struck (gi_w (gi_c 0 0 (by decide)) (by decide))
  generalize upd fm_struck ((mi 10) : Int32).toNatClampNeg (vp_nar .boolean 0) = f_20 at hP hD gf_20
  refine lv_aload_n hx hb dX12_lays_62 rfl (lv_at hl 0 rfl) ?_
  refine lv_dup hx hb dX12_lays_63 rfl ?_
  refine va_get (D := (dC, dI)) (ci := 12) (v := .int (mi 10)) (C := RX12) (T := TX12) (N := 57) hx hb hts (fun w h => List.mem_cons_of_mem _ (jnGB_X12 w h)) hown hK hP 0 rfl rfl 10 (by decide) (hts _ (List.mem_cons_of_mem _ mGB_111)) (fun _ h9 => h9) rfl dX12_lays_64 ?_
  refine lv_iconst (v := 1) hx hb dX12_lays_67 (by decide) ?_
  refine lv_iadd hx hb dX12_lays_68 ?_
  refine lv_topi (fun x_21 ex_21 => ?_)
  have gx_21 : gi x_21 1 24 := gi_add ex_21 gmi_10 (gi_c 1 1 (by decide)) (by decide)
  refine va_put (D := (dC, dI)) (ci := 12) (v := .int x_21) (ty := .int) (C := RX12) (T := TX12) (N := 57) hx hb hts (fun w h => List.mem_cons_of_mem _ (jnGB_X12 w h)) tyX12 tyX12_ok nmX12 hown hK hP hD hS 0 rfl rfl 10 (by decide) (hts _ (List.mem_cons_of_mem _ mGB_111)) (fun _ h9 => h9) rfl (by decide +kernel) rfl rfl (Nat.le_of_ble_eq_true rfl) dX12_lays_69 (fun H locs hP hD hS => ?_)
  have hP : va_P (dC, dI) vwCl [(h0, .inr (12, fsMM (upd mi 10 x_21) mr)), ((mr 2), .inl (km_reportPlace, 24, .inl f_15)), ((mr 3), .inl (km_reportKind, 24, .inl f_16)), ((mr 5), .inl (km_reportMonth, 24, .inl f_17)), ((mr 6), .inl (km_reportDay, 24, .inl f_18)), ((mr 7), .inl (km_reportKnown, 24, .inl f_19)), ((mr 4), .inl (km_struck, 24, .inl f_20))] H := hP
  have hD : va_D A [(h0, .inr (12, fsMM (upd mi 10 x_21) mr)), ((mr 2), .inl (km_reportPlace, 24, .inl f_15)), ((mr 3), .inl (km_reportKind, 24, .inl f_16)), ((mr 5), .inl (km_reportMonth, 24, .inl f_17)), ((mr 6), .inl (km_reportDay, 24, .inl f_18)), ((mr 7), .inl (km_reportKnown, 24, .inl f_19)), ((mr 4), .inl (km_struck, 24, .inl f_20))] := hD
  exact W.vret hx hb hr (fun t ht hW => ⟨⟨(), rfl, trivial, x_21, f_15, f_16, f_17, f_18, f_19, f_20, (gi_w gx_21 (by decide)), gf_15, gf_17, gf_18, gf_19, gf_20, by rw [ht]; exact hP, hD⟩, hS.F ht⟩) hS.2.2 dX12_lays_72
theorem dX12_reports_0 : decode cX12_reports 0 = .ok (.aload_n 0, 1) := by decide +kernel
theorem dX12_reports_1 : decode cX12_reports 1 = .ok (.getfield 126, 3) := by decide +kernel
theorem dX12_reports_4 : decode cX12_reports 4 = .ok (.ifCond .eq 67, 3) := by decide +kernel
theorem dX12_reports_7 : decode cX12_reports 7 = .ok (.aload_n 0, 1) := by decide +kernel
theorem dX12_reports_8 : decode cX12_reports 8 = .ok (.iload_n 1, 1) := by decide +kernel
theorem dX12_reports_9 : decode cX12_reports 9 = .ok (.invokevirtual 294, 3) := by decide +kernel
theorem dX12_reports_12 : decode cX12_reports 12 = .ok (.ifCond .eq 59, 3) := by decide +kernel
theorem dX12_reports_15 : decode cX12_reports 15 = .ok (.iload_n 2, 1) := by decide +kernel
theorem dX12_reports_16 : decode cX12_reports 16 = .ok (.i2l, 1) := by decide +kernel
theorem dX12_reports_17 : decode cX12_reports 17 = .ok (.lconst 0, 1) := by decide +kernel
theorem dX12_reports_18 : decode cX12_reports 18 = .ok (.ldc2_w 298, 3) := by decide +kernel
theorem dX12_reports_21 : decode cX12_reports 21 = .ok (.invokestatic 102, 3) := by decide +kernel
theorem dX12_reports_24 : decode cX12_reports 24 = .ok (.ifCond .eq 47, 3) := by decide +kernel
theorem dX12_reports_27 : decode cX12_reports 27 = .ok (.iload_n 3, 1) := by decide +kernel
theorem dX12_reports_28 : decode cX12_reports 28 = .ok (.i2l, 1) := by decide +kernel
theorem dX12_reports_29 : decode cX12_reports 29 = .ok (.lconst 1, 1) := by decide +kernel
theorem dX12_reports_30 : decode cX12_reports 30 = .ok (.aload_n 0, 1) := by decide +kernel
theorem dX12_reports_31 : decode cX12_reports 31 = .ok (.getfield 117, 3) := by decide +kernel
theorem dX12_reports_34 : decode cX12_reports 34 = .ok (.iconst 1, 1) := by decide +kernel
theorem dX12_reports_35 : decode cX12_reports 35 = .ok (.isub, 1) := by decide +kernel
theorem dX12_reports_36 : decode cX12_reports 36 = .ok (.i2l, 1) := by decide +kernel
theorem dX12_reports_37 : decode cX12_reports 37 = .ok (.invokestatic 102, 3) := by decide +kernel
theorem dX12_reports_40 : decode cX12_reports 40 = .ok (.ifCond .eq 31, 3) := by decide +kernel
theorem dX12_reports_43 : decode cX12_reports 43 = .ok (.iload 4, 2) := by decide +kernel
theorem dX12_reports_45 : decode cX12_reports 45 = .ok (.i2l, 1) := by decide +kernel
theorem dX12_reports_46 : decode cX12_reports 46 = .ok (.lconst 0, 1) := by decide +kernel
theorem dX12_reports_47 : decode cX12_reports 47 = .ok (.ldc2_w 292, 3) := by decide +kernel
theorem dX12_reports_50 : decode cX12_reports 50 = .ok (.invokestatic 102, 3) := by decide +kernel
theorem dX12_reports_53 : decode cX12_reports 53 = .ok (.ifCond .eq 18, 3) := by decide +kernel
theorem dX12_reports_56 : decode cX12_reports 56 = .ok (.iload 5, 2) := by decide +kernel
theorem dX12_reports_58 : decode cX12_reports 58 = .ok (.i2l, 1) := by decide +kernel
theorem dX12_reports_59 : decode cX12_reports 59 = .ok (.iload 4, 2) := by decide +kernel
theorem dX12_reports_61 : decode cX12_reports 61 = .ok (.i2l, 1) := by decide +kernel
theorem dX12_reports_62 : decode cX12_reports 62 = .ok (.ldc2_w 292, 3) := by decide +kernel
theorem dX12_reports_65 : decode cX12_reports 65 = .ok (.invokestatic 102, 3) := by decide +kernel
theorem dX12_reports_68 : decode cX12_reports 68 = .ok (.ifCond .ne 6, 3) := by decide +kernel
theorem dX12_reports_71 : decode cX12_reports 71 = .ok (.bipush (-2), 2) := by decide +kernel
theorem dX12_reports_73 : decode cX12_reports 73 = .ok (.ireturn, 1) := by decide +kernel
theorem dX12_reports_74 : decode cX12_reports 74 = .ok (.aload_n 0, 1) := by decide +kernel
theorem dX12_reports_75 : decode cX12_reports 75 = .ok (.getfield 141, 3) := by decide +kernel
theorem dX12_reports_78 : decode cX12_reports 78 = .ok (.bipush 24, 2) := by decide +kernel
theorem dX12_reports_80 : decode cX12_reports 80 = .ok (.if_icmp .ne 6, 3) := by decide +kernel
theorem dX12_reports_83 : decode cX12_reports 83 = .ok (.bipush (-5), 2) := by decide +kernel
theorem dX12_reports_85 : decode cX12_reports 85 = .ok (.ireturn, 1) := by decide +kernel
theorem dX12_reports_86 : decode cX12_reports 86 = .ok (.aload_n 0, 1) := by decide +kernel
theorem dX12_reports_87 : decode cX12_reports 87 = .ok (.iload_n 1, 1) := by decide +kernel
theorem dX12_reports_88 : decode cX12_reports 88 = .ok (.iload_n 2, 1) := by decide +kernel
theorem dX12_reports_89 : decode cX12_reports 89 = .ok (.iload_n 3, 1) := by decide +kernel
theorem dX12_reports_90 : decode cX12_reports 90 = .ok (.iload 4, 2) := by decide +kernel
theorem dX12_reports_92 : decode cX12_reports 92 = .ok (.iload 5, 2) := by decide +kernel
theorem dX12_reports_94 : decode cX12_reports 94 = .ok (.invokevirtual 236, 3) := by decide +kernel
theorem dX12_reports_97 : decode cX12_reports 97 = .ok (.aload_n 0, 1) := by decide +kernel
theorem dX12_reports_98 : decode cX12_reports 98 = .ok (.getfield 141, 3) := by decide +kernel
theorem dX12_reports_101 : decode cX12_reports 101 = .ok (.iconst 1, 1) := by decide +kernel
theorem dX12_reports_102 : decode cX12_reports 102 = .ok (.isub, 1) := by decide +kernel
theorem dX12_reports_103 : decode cX12_reports 103 = .ok (.ireturn, 1) := by decide +kernel
set_option maxHeartbeats 4000000 in
set_option maxRecDepth 100000 in
theorem sX12_reports (l : Launch) (dC : Nat → ClassId) (dI : Nat → Nat → Nat) (sz : Nat) (h0 : Nat) (mi : Nat → Int32) (mr : Nat → Nat) (km_reportPlace : ClassId) (fm_reportPlace : Nat → Int32) (km_reportKind : ClassId) (fm_reportKind : Nat → Int32) (km_reportMonth : ClassId) (fm_reportMonth : Nat → Int32) (km_reportDay : ClassId) (fm_reportDay : Nat → Int32) (km_reportKnown : ClassId) (fm_reportKnown : Nat → Int32) (km_struck : ClassId) (fm_struck : Nat → Int32) (p1 : Int32) (p2 : Int32) (p3 : Int32) (p4 : Int32) (p5 : Int32) (gmi_0 : gi (mi 0) 0 24) (gmi_1 : gi (mi 1) 0 5) (gmi_2 : gi (mi 2) 0 5) (gmi_4 : gi (mi 4) 0 1) (gmi_7 : gi (mi 7) 0 6) (gmi_10 : gi (mi 10) 0 24) (gmi_17 : gi (mi 17) 0 8) (gmi_23 : gi (mi 23) 0 300) (gmi_24 : gi (mi 24) 0 1) (gmi_26 : gi (mi 26) 0 1600) (gmi_29 : gi (mi 29) 0 1600) (gmi_30 : gi (mi 30) 0 1600) (gmi_33 : gi (mi 33) 0 1) (gmi_37 : gi (mi 37) 0 1) (gmi_41 : gi (mi 41) 0 24) (gmi_50 : gi (mi 50) 0 1) (gmi_51 : gi (mi 51) 0 1) (gmi_56 : gi (mi 56) 0 80) (gfm_reportPlace : ga fm_reportPlace 24 0 5) (gfm_reportMonth : ga fm_reportMonth 24 0 23) (gfm_reportDay : ga fm_reportDay 24 0 999) (gfm_reportKnown : ga fm_reportKnown 24 0 999) (gfm_struck : ga fm_struck 24 0 1) : Met l yX12_reports (.code yX12_reports cX12_reports 6 (some .int) :: wsGB) ({ frames := 2, cells := 0, slots := 0, locals := 46 }) (va_Pc [.ref h0, .int p1, .int p2, .int p3, .int p4, .int p5] (fun U => U.heap.size = sz ∧ va_P (dC, dI) vwCl [(h0, .inr (12, fsMM mi mr)), ((mr 2), .inl (km_reportPlace, 24, .inl fm_reportPlace)), ((mr 3), .inl (km_reportKind, 24, .inl fm_reportKind)), ((mr 5), .inl (km_reportMonth, 24, .inl fm_reportMonth)), ((mr 6), .inl (km_reportDay, 24, .inl fm_reportDay)), ((mr 7), .inl (km_reportKnown, 24, .inl fm_reportKnown)), ((mr 4), .inl (km_struck, 24, .inl fm_struck))] U.heap ∧ va_K (dC, dI) vwCl [(km_reportPlace, .int), (km_reportKind, .int), (km_reportMonth, .int), (km_reportDay, .int), (km_reportKnown, .int), (km_struck, .boolean)] U ∧ va_D (fun _ => True) [(h0, .inr (12, fsMM mi mr)), ((mr 2), .inl (km_reportPlace, 24, .inl fm_reportPlace)), ((mr 3), .inl (km_reportKind, 24, .inl fm_reportKind)), ((mr 5), .inl (km_reportMonth, 24, .inl fm_reportMonth)), ((mr 6), .inl (km_reportDay, 24, .inl fm_reportDay)), ((mr 7), .inl (km_reportKnown, 24, .inl fm_reportKnown)), ((mr 4), .inl (km_struck, 24, .inl fm_struck))])) (va_Qi (fun (r : Int32) (u : Unit) => gi r (-5) 23) (fun _ t => ∃ (w0_10 : Int32) (z1 : Nat → Int32) (z2 : Nat → Int32) (z3 : Nat → Int32) (z4 : Nat → Int32) (z5 : Nat → Int32) (z6 : Nat → Int32), gi w0_10 0 24 ∧ ga z1 24 0 5 ∧ ga z3 24 0 23 ∧ ga z4 24 0 999 ∧ ga z5 24 0 999 ∧ ga z6 24 0 1 ∧ va_P (dC, dI) vwCl [(h0, .inr (12, fsMM (upd mi 10 w0_10) mr)), ((mr 2), .inl (km_reportPlace, 24, .inl z1)), ((mr 3), .inl (km_reportKind, 24, .inl z2)), ((mr 5), .inl (km_reportMonth, 24, .inl z3)), ((mr 6), .inl (km_reportDay, 24, .inl z4)), ((mr 7), .inl (km_reportKnown, 24, .inl z5)), ((mr 4), .inl (km_struck, 24, .inl z6))] t.heap ∧ va_D (va_A [(h0, .inr (12, fsMM mi mr)), ((mr 2), .inl (km_reportPlace, 24, .inl fm_reportPlace)), ((mr 3), .inl (km_reportKind, 24, .inl fm_reportKind)), ((mr 5), .inl (km_reportMonth, 24, .inl fm_reportMonth)), ((mr 6), .inl (km_reportDay, 24, .inl fm_reportDay)), ((mr 7), .inl (km_reportKnown, 24, .inl fm_reportKnown)), ((mr 4), .inl (km_struck, 24, .inl fm_struck))] sz) [(h0, .inr (12, fsMM (upd mi 10 w0_10) mr)), ((mr 2), .inl (km_reportPlace, 24, .inl z1)), ((mr 3), .inl (km_reportKind, 24, .inl z2)), ((mr 5), .inl (km_reportMonth, 24, .inl z3)), ((mr 6), .inl (km_reportDay, 24, .inl z4)), ((mr 7), .inl (km_reportKnown, 24, .inl z5)), ((mr 4), .inl (km_struck, 24, .inl z6))]) (va_A [(h0, .inr (12, fsMM mi mr)), ((mr 2), .inl (km_reportPlace, 24, .inl fm_reportPlace)), ((mr 3), .inl (km_reportKind, 24, .inl fm_reportKind)), ((mr 5), .inl (km_reportMonth, 24, .inl fm_reportMonth)), ((mr 6), .inl (km_reportDay, 24, .inl fm_reportDay)), ((mr 7), .inl (km_reportKnown, 24, .inl fm_reportKnown)), ((mr 4), .inl (km_struck, 24, .inl fm_struck))] sz)) 0 0 (va_A [(h0, .inr (12, fsMM mi mr)), ((mr 2), .inl (km_reportPlace, 24, .inl fm_reportPlace)), ((mr 3), .inl (km_reportKind, 24, .inl fm_reportKind)), ((mr 5), .inl (km_reportMonth, 24, .inl fm_reportMonth)), ((mr 6), .inl (km_reportDay, 24, .inl fm_reportDay)), ((mr 7), .inl (km_reportKnown, 24, .inl fm_reportKnown)), ((mr 4), .inl (km_struck, 24, .inl fm_struck))] sz) := by
  refine Met.ofW (cc := cX12_reports) (maxL := 6) (ret := (some .int)) (by decide) rfl ?_
  intro p e s m args below meth c s₁ B hml hv
  obtain ⟨rfl, hsz, hP, hK, hD0⟩ := hv
  have hx := B.exec
  have hb := B.bytes
  have hr := B.returns
  have hts := atoms_spec (ws := (.code yX12_reports cX12_reports 6 (some .int) :: wsGB)) B.pre
  have hown : s.vm.findClass RX12 = some m.cls := findClass_of_methodNamed B.named
  have hlocks := B.notSynchronized
  subst hsz
  have hD := hD0.self (sz := s.heap.size)
  generalize hAe : va_A [(h0, .inr (12, fsMM mi mr)), ((mr 2), .inl (km_reportPlace, 24, .inl fm_reportPlace)), ((mr 3), .inl (km_reportKind, 24, .inl fm_reportKind)), ((mr 5), .inl (km_reportMonth, 24, .inl fm_reportMonth)), ((mr 6), .inl (km_reportDay, 24, .inl fm_reportDay)), ((mr 7), .inl (km_reportKnown, 24, .inl fm_reportKnown)), ((mr 4), .inl (km_struck, 24, .inl fm_struck))] s.heap.size = A at hD ⊢
  have hA : ∀ q : Nat, s.heap.size ≤ q → A q := fun q h => by rw [← hAe]; exact Or.inr h
  have hS : va_S A s.heap s.heap [] := va_S.rf
  have hl := lv_entry ([.ref h0, .int p1, .int p2, .int p3, .int p4, .int p5]) (n := 6) (Nat.le_of_ble_eq_true rfl)
  rw [lg_entry_eq]
  generalize (lg_sl ([.ref h0, .int p1, .int p2, .int p3, .int p4, .int p5]) ++ List.replicate (6 - (lg_sl ([.ref h0, .int p1, .int p2, .int p3, .int p4, .int p5])).length) Slot.unset).toArray = ls at hl ⊢
  have hl : lv_has ls 6 [(0, .ref h0), (1, .int p1), (2, .int p2), (3, .int p3), (4, .int p4), (5, .int p5)] := hl
  refine lv_aload_n hx hb dX12_reports_0 rfl (lv_at hl 0 rfl) ?_
  refine va_get (D := (dC, dI)) (ci := 12) (v := .int (mi 3)) (C := RX12) (T := TX12) (N := 57) hx hb hts (fun w h => List.mem_cons_of_mem _ (jnGB_X12 w h)) hown hK hP 0 rfl rfl 3 (by decide) (hts _ (List.mem_cons_of_mem _ mGB_106)) (fun _ h9 => h9) rfl dX12_reports_1 ?_
  refine lv_if_eq (tgt := 71) hx hb dX12_reports_4 (by decide) (fun c_93 => ?_) (fun c_93 => ?_)
  · have g_94 : gi (mi 3) 0 0 := gi_eq c_93 (gi_c 0 0 (by decide))
    refine lv_bipush (v := (-2)) hx hb dX12_reports_71 (by decide) ?_
    exact W.iret (v := (-2)) hx hb hr (fun t ht hW => ⟨⟨(-2), (), rfl, (gi_w (gi_c (-2) (-2) (by decide)) (by decide)), (mi 10), fm_reportPlace, fm_reportKind, fm_reportMonth, fm_reportDay, fm_reportKnown, fm_struck, gmi_10, gfm_reportPlace, gfm_reportMonth, gfm_reportDay, gfm_reportKnown, gfm_struck, by rw [ht]; exact hP, hD⟩, hS.F ht⟩) hS.2.2 dX12_reports_73
  · refine lv_aload_n hx hb dX12_reports_7 rfl (lv_at hl 0 rfl) ?_
    refine lv_iload_n hx hb dX12_reports_8 rfl (lv_at hl 1 rfl) ?_
    have hPc := hP.sub (ws' := [(h0, .inr (12, fsMM mi mr))]) [0] rfl
    have hKc := hK.sub (tys' := []) [] rfl
    refine va_calli (va_runV (As := [.int p1]) (rest := []) ⟨hx, hb, hml, hown, hts⟩ (sX12_isPlace l dC dI h0 mi mr p1 gmi_0 gmi_1 gmi_2 gmi_4 gmi_7 gmi_10 gmi_17 gmi_23 gmi_24 gmi_26 gmi_29 gmi_30 gmi_33 gmi_37 gmi_41 gmi_50 gmi_51 gmi_56) (cwV 1 hts (gz_gV mGB_224 mGB_225 mGB_226 mGB_1 mGB_227 goodGB) rfl rfl rfl (by decide +kernel) ⟨Nat.le_of_ble_eq_true rfl, Nat.le_of_ble_eq_true rfl⟩) ⟨fun a U g mk q => by obtain ⟨q0, qP, qK⟩ := q; exact ⟨q0, qP, va_K.moved (u := U) (U := U.calling g mk a) (Vm.Alike.refl U.vm) qK⟩, va_recv hKc hPc (ci := 12) (q0 := 0) rfl rfl, fun U hU hW => ⟨rfl, by rw [hU]; exact hPc, va_K.moved hW.alike hKc⟩⟩ rfl rfl hl.1 rfl (lv_room (Nat.le_of_ble_eq_true rfl)) dX12_reports_9 ⟨Nat.zero_le _, Nat.zero_le _⟩) hS (fun q _ h => h.elim) (fun q h => h.elim) (fun r_95 u t H1 locs ht hvm hw hB hz1 hk1 hS => ?_)
    have hP := gz_keep hP hk1
    generalize H1 = H at hP hS ⊢
    have gr_95 : gi r_95 0 1 := hw.1
    have hqr_95 := hw.2
    refine lv_if_eq (tgt := 71) hx hb dX12_reports_12 (by decide) (fun c_96 => ?_) (fun c_96 => ?_)
    · have g_97 : gi r_95 0 0 := gi_eq c_96 (gi_c 0 0 (by decide))
      refine lv_bipush (v := (-2)) hx hb dX12_reports_71 (by decide) ?_
      exact W.iret (v := (-2)) hx hb hr (fun t ht hW => ⟨⟨(-2), (), rfl, (gi_w (gi_c (-2) (-2) (by decide)) (by decide)), (mi 10), fm_reportPlace, fm_reportKind, fm_reportMonth, fm_reportDay, fm_reportKnown, fm_struck, gmi_10, gfm_reportPlace, gfm_reportMonth, gfm_reportDay, gfm_reportKnown, gfm_struck, by rw [ht]; exact hP, hD⟩, hS.F ht⟩) hS.2.2 dX12_reports_73
    · have g_98 : gi r_95 1 1 := gi_ne_lo c_96 gr_95 (gi_c 0 0 (by decide)) (by decide)
      have g_99 : gi p1 0 5 := gi_cap (gi_any p1) (hqr_95 (gz_one g_98)) (by decide)
      refine lv_iload_n hx hb dX12_reports_15 rfl (lv_at hl 2 rfl) ?_
      refine lv_i2l (v := (p2).toInt64) hx hb dX12_reports_16 rfl ?_
      refine lv_topl (fun l_100 el_100 => ?_)
      refine lv_lconst (v := 0) hx hb dX12_reports_17 (by decide) ?_
      refine lv_ldc2 (own := RX12) (v := 2) hx hb hown (hts _ (List.mem_cons_of_mem _ mGB_223)) dX12_reports_18 ?_
      have hPc := hP.sub (ws' := []) [] rfl
      have hKc := hK.sub (tys' := []) [] rfl
      refine va_calli (va_runS (As := [.long l_100, .long 0, .long 2]) (rest := []) ⟨hx, hb, hml, hown, hts⟩ (sX12_in l dC dI l_100 0 2) (cwS 3 hts (gz_gS mGB_47 mGB_48 mGB_1 mGB_49 goodGB) rfl rfl rfl (by decide +kernel) ⟨Nat.le_of_ble_eq_true rfl, Nat.le_of_ble_eq_true rfl⟩) ⟨fun a U g mk q => by obtain ⟨q0, qP, qK⟩ := q; exact ⟨q0, qP, va_K.moved (u := U) (U := U.calling g mk a) (Vm.Alike.refl U.vm) qK⟩, fun U hU hW => ⟨rfl, by rw [hU]; exact hPc, va_K.moved hW.alike hKc⟩⟩ rfl rfl hl.1 rfl (lv_room (Nat.le_of_ble_eq_true rfl)) dX12_reports_21 ⟨Nat.zero_le _, Nat.zero_le _⟩) hS (fun q _ h => h.elim) (fun q h => h.elim) (fun r_101 u t H1 locs ht hvm hw hB hz1 hk1 hS => ?_)
      have hP := gz_keep hP hk1
      generalize H1 = H at hP hS ⊢
      have gr_101 : gi r_101 0 1 := hw.1
      have hqr_101 := hw.2
      refine lv_if_eq (tgt := 71) hx hb dX12_reports_24 (by decide) (fun c_102 => ?_) (fun c_102 => ?_)
      · have g_103 : gi r_101 0 0 := gi_eq c_102 (gi_c 0 0 (by decide))
        refine lv_bipush (v := (-2)) hx hb dX12_reports_71 (by decide) ?_
        exact W.iret (v := (-2)) hx hb hr (fun t ht hW => ⟨⟨(-2), (), rfl, (gi_w (gi_c (-2) (-2) (by decide)) (by decide)), (mi 10), fm_reportPlace, fm_reportKind, fm_reportMonth, fm_reportDay, fm_reportKnown, fm_struck, gmi_10, gfm_reportPlace, gfm_reportMonth, gfm_reportDay, gfm_reportKnown, gfm_struck, by rw [ht]; exact hP, hD⟩, hS.F ht⟩) hS.2.2 dX12_reports_73
      · have g_104 : gi r_101 1 1 := gi_ne_lo c_102 gr_101 (gi_c 0 0 (by decide)) (by decide)
        have g_105 : gi p2 0 2 := gi_cap (gi_any p2) (gz_inr (hqr_101.1 (gz_one g_104)) el_100 (A := 0) (B := 2) (by decide) (by decide)) (by decide)
        refine lv_iload_n hx hb dX12_reports_27 rfl (lv_at hl 3 rfl) ?_
        refine lv_i2l (v := (p3).toInt64) hx hb dX12_reports_28 rfl ?_
        refine lv_topl (fun l_106 el_106 => ?_)
        refine lv_lconst (v := 1) hx hb dX12_reports_29 (by decide) ?_
        refine lv_aload_n hx hb dX12_reports_30 rfl (lv_at hl 0 rfl) ?_
        refine va_get (D := (dC, dI)) (ci := 12) (v := .int (mi 0)) (C := RX12) (T := TX12) (N := 57) hx hb hts (fun w h => List.mem_cons_of_mem _ (jnGB_X12 w h)) hown hK hP 0 rfl rfl 0 (by decide) (hts _ (List.mem_cons_of_mem _ mGB_103)) (fun _ h9 => h9) rfl dX12_reports_31 ?_
        refine lv_iconst (v := 1) hx hb dX12_reports_34 (by decide) ?_
        refine lv_isub hx hb dX12_reports_35 ?_
        refine lv_topi (fun x_107 ex_107 => ?_)
        have gx_107 : gi x_107 (-1) 23 := gi_sub ex_107 gmi_0 (gi_c 1 1 (by decide)) (by decide)
        refine lv_i2l (v := (x_107).toInt64) hx hb dX12_reports_36 rfl ?_
        refine lv_topl (fun l_108 el_108 => ?_)
        have hPc := hP.sub (ws' := []) [] rfl
        have hKc := hK.sub (tys' := []) [] rfl
        refine va_calli (va_runS (As := [.long l_106, .long 1, .long l_108]) (rest := []) ⟨hx, hb, hml, hown, hts⟩ (sX12_in l dC dI l_106 1 l_108) (cwS 3 hts (gz_gS mGB_47 mGB_48 mGB_1 mGB_49 goodGB) rfl rfl rfl (by decide +kernel) ⟨Nat.le_of_ble_eq_true rfl, Nat.le_of_ble_eq_true rfl⟩) ⟨fun a U g mk q => by obtain ⟨q0, qP, qK⟩ := q; exact ⟨q0, qP, va_K.moved (u := U) (U := U.calling g mk a) (Vm.Alike.refl U.vm) qK⟩, fun U hU hW => ⟨rfl, by rw [hU]; exact hPc, va_K.moved hW.alike hKc⟩⟩ rfl rfl hl.1 rfl (lv_room (Nat.le_of_ble_eq_true rfl)) dX12_reports_37 ⟨Nat.zero_le _, Nat.zero_le _⟩) hS (fun q _ h => h.elim) (fun q h => h.elim) (fun r_109 u t H1 locs ht hvm hw hB hz1 hk1 hS => ?_)
        have hP := gz_keep hP hk1
        generalize H1 = H at hP hS ⊢
        have gr_109 : gi r_109 0 1 := hw.1
        have hqr_109 := hw.2
        refine lv_if_eq (tgt := 71) hx hb dX12_reports_40 (by decide) (fun c_110 => ?_) (fun c_110 => ?_)
        · have g_111 : gi r_109 0 0 := gi_eq c_110 (gi_c 0 0 (by decide))
          refine lv_bipush (v := (-2)) hx hb dX12_reports_71 (by decide) ?_
          exact W.iret (v := (-2)) hx hb hr (fun t ht hW => ⟨⟨(-2), (), rfl, (gi_w (gi_c (-2) (-2) (by decide)) (by decide)), (mi 10), fm_reportPlace, fm_reportKind, fm_reportMonth, fm_reportDay, fm_reportKnown, fm_struck, gmi_10, gfm_reportPlace, gfm_reportMonth, gfm_reportDay, gfm_reportKnown, gfm_struck, by rw [ht]; exact hP, hD⟩, hS.F ht⟩) hS.2.2 dX12_reports_73
        · have g_112 : gi r_109 1 1 := gi_ne_lo c_110 gr_109 (gi_c 0 0 (by decide)) (by decide)
          have g_113 : gi p3 1 23 := gi_cap (gi_any p3) (gz_inr (hqr_109.1 (gz_one g_112)) el_106 (A := 1) (B := 23) (by decide) (gz_l2u el_108 gx_107)) (by decide)
          refine lv_iload hx hb dX12_reports_43 (lv_at hl 4 rfl) ?_
          refine lv_i2l (v := (p4).toInt64) hx hb dX12_reports_45 rfl ?_
          refine lv_topl (fun l_114 el_114 => ?_)
          refine lv_lconst (v := 0) hx hb dX12_reports_46 (by decide) ?_
          refine lv_ldc2 (own := RX12) (v := 999) hx hb hown (hts _ (List.mem_cons_of_mem _ mGB_260)) dX12_reports_47 ?_
          have hPc := hP.sub (ws' := []) [] rfl
          have hKc := hK.sub (tys' := []) [] rfl
          refine va_calli (va_runS (As := [.long l_114, .long 0, .long 999]) (rest := []) ⟨hx, hb, hml, hown, hts⟩ (sX12_in l dC dI l_114 0 999) (cwS 3 hts (gz_gS mGB_47 mGB_48 mGB_1 mGB_49 goodGB) rfl rfl rfl (by decide +kernel) ⟨Nat.le_of_ble_eq_true rfl, Nat.le_of_ble_eq_true rfl⟩) ⟨fun a U g mk q => by obtain ⟨q0, qP, qK⟩ := q; exact ⟨q0, qP, va_K.moved (u := U) (U := U.calling g mk a) (Vm.Alike.refl U.vm) qK⟩, fun U hU hW => ⟨rfl, by rw [hU]; exact hPc, va_K.moved hW.alike hKc⟩⟩ rfl rfl hl.1 rfl (lv_room (Nat.le_of_ble_eq_true rfl)) dX12_reports_50 ⟨Nat.zero_le _, Nat.zero_le _⟩) hS (fun q _ h => h.elim) (fun q h => h.elim) (fun r_115 u t H1 locs ht hvm hw hB hz1 hk1 hS => ?_)
          have hP := gz_keep hP hk1
          generalize H1 = H at hP hS ⊢
          have gr_115 : gi r_115 0 1 := hw.1
          have hqr_115 := hw.2
          refine lv_if_eq (tgt := 71) hx hb dX12_reports_53 (by decide) (fun c_116 => ?_) (fun c_116 => ?_)
          · have g_117 : gi r_115 0 0 := gi_eq c_116 (gi_c 0 0 (by decide))
            refine lv_bipush (v := (-2)) hx hb dX12_reports_71 (by decide) ?_
            exact W.iret (v := (-2)) hx hb hr (fun t ht hW => ⟨⟨(-2), (), rfl, (gi_w (gi_c (-2) (-2) (by decide)) (by decide)), (mi 10), fm_reportPlace, fm_reportKind, fm_reportMonth, fm_reportDay, fm_reportKnown, fm_struck, gmi_10, gfm_reportPlace, gfm_reportMonth, gfm_reportDay, gfm_reportKnown, gfm_struck, by rw [ht]; exact hP, hD⟩, hS.F ht⟩) hS.2.2 dX12_reports_73
          · have g_118 : gi r_115 1 1 := gi_ne_lo c_116 gr_115 (gi_c 0 0 (by decide)) (by decide)
            have g_119 : gi p4 0 999 := gi_cap (gi_any p4) (gz_inr (hqr_115.1 (gz_one g_118)) el_114 (A := 0) (B := 999) (by decide) (by decide)) (by decide)
            refine lv_iload hx hb dX12_reports_56 (lv_at hl 5 rfl) ?_
            refine lv_i2l (v := (p5).toInt64) hx hb dX12_reports_58 rfl ?_
            refine lv_topl (fun l_120 el_120 => ?_)
            refine lv_iload hx hb dX12_reports_59 (lv_at hl 4 rfl) ?_
            refine lv_i2l (v := (p4).toInt64) hx hb dX12_reports_61 rfl ?_
            refine lv_topl (fun l_121 el_121 => ?_)
            refine lv_ldc2 (own := RX12) (v := 999) hx hb hown (hts _ (List.mem_cons_of_mem _ mGB_260)) dX12_reports_62 ?_
            have hPc := hP.sub (ws' := []) [] rfl
            have hKc := hK.sub (tys' := []) [] rfl
            refine va_calli (va_runS (As := [.long l_120, .long l_121, .long 999]) (rest := []) ⟨hx, hb, hml, hown, hts⟩ (sX12_in l dC dI l_120 l_121 999) (cwS 3 hts (gz_gS mGB_47 mGB_48 mGB_1 mGB_49 goodGB) rfl rfl rfl (by decide +kernel) ⟨Nat.le_of_ble_eq_true rfl, Nat.le_of_ble_eq_true rfl⟩) ⟨fun a U g mk q => by obtain ⟨q0, qP, qK⟩ := q; exact ⟨q0, qP, va_K.moved (u := U) (U := U.calling g mk a) (Vm.Alike.refl U.vm) qK⟩, fun U hU hW => ⟨rfl, by rw [hU]; exact hPc, va_K.moved hW.alike hKc⟩⟩ rfl rfl hl.1 rfl (lv_room (Nat.le_of_ble_eq_true rfl)) dX12_reports_65 ⟨Nat.zero_le _, Nat.zero_le _⟩) hS (fun q _ h => h.elim) (fun q h => h.elim) (fun r_122 u t H1 locs ht hvm hw hB hz1 hk1 hS => ?_)
            have hP := gz_keep hP hk1
            generalize H1 = H at hP hS ⊢
            have gr_122 : gi r_122 0 1 := hw.1
            have hqr_122 := hw.2
            refine lv_if_ne (tgt := 74) hx hb dX12_reports_68 (by decide) (fun c_123 => ?_) (fun c_123 => ?_)
            · have g_124 : gi r_122 1 1 := gi_ne_lo c_123 gr_122 (gi_c 0 0 (by decide)) (by decide)
              have g_125 : gi p5 0 999 := gi_cap (gi_any p5) (gz_inr (hqr_122.1 (gz_one g_124)) el_120 (A := 0) (B := 999) (gz_l2l el_121 g_119) (by decide)) (by decide)
              refine lv_aload_n hx hb dX12_reports_74 rfl (lv_at hl 0 rfl) ?_
              refine va_get (D := (dC, dI)) (ci := 12) (v := .int (mi 10)) (C := RX12) (T := TX12) (N := 57) hx hb hts (fun w h => List.mem_cons_of_mem _ (jnGB_X12 w h)) hown hK hP 0 rfl rfl 10 (by decide) (hts _ (List.mem_cons_of_mem _ mGB_111)) (fun _ h9 => h9) rfl dX12_reports_75 ?_
              refine lv_bipush (v := 24) hx hb dX12_reports_78 (by decide) ?_
              refine lv_icmp_ne (tgt := 86) hx hb dX12_reports_80 (by decide) (fun c_126 => ?_) (fun c_126 => ?_)
              · have g_127 : gi (mi 10) 0 23 := gi_ne_hi c_126 gmi_10 (gi_c 24 24 (by decide)) (by decide)
                refine lv_aload_n hx hb dX12_reports_86 rfl (lv_at hl 0 rfl) ?_
                refine lv_iload_n hx hb dX12_reports_87 rfl (lv_at hl 1 rfl) ?_
                refine lv_iload_n hx hb dX12_reports_88 rfl (lv_at hl 2 rfl) ?_
                refine lv_iload_n hx hb dX12_reports_89 rfl (lv_at hl 3 rfl) ?_
                refine lv_iload hx hb dX12_reports_90 (lv_at hl 4 rfl) ?_
                refine lv_iload hx hb dX12_reports_92 (lv_at hl 5 rfl) ?_
                have hPc := hP.sub (ws' := [(h0, .inr (12, fsMM mi mr)), ((mr 2), .inl (km_reportPlace, 24, .inl fm_reportPlace)), ((mr 3), .inl (km_reportKind, 24, .inl fm_reportKind)), ((mr 5), .inl (km_reportMonth, 24, .inl fm_reportMonth)), ((mr 6), .inl (km_reportDay, 24, .inl fm_reportDay)), ((mr 7), .inl (km_reportKnown, 24, .inl fm_reportKnown)), ((mr 4), .inl (km_struck, 24, .inl fm_struck))]) [0, 1, 2, 3, 4, 5, 6] rfl
                have hKc := hK.sub (tys' := [(km_reportPlace, .int), (km_reportKind, .int), (km_reportMonth, .int), (km_reportDay, .int), (km_reportKnown, .int), (km_struck, .boolean)]) [0, 1, 2, 3, 4, 5] rfl
                have hDc := hD.sub (ws' := [(h0, .inr (12, fsMM mi mr)), ((mr 2), .inl (km_reportPlace, 24, .inl fm_reportPlace)), ((mr 3), .inl (km_reportKind, 24, .inl fm_reportKind)), ((mr 5), .inl (km_reportMonth, 24, .inl fm_reportMonth)), ((mr 6), .inl (km_reportDay, 24, .inl fm_reportDay)), ((mr 7), .inl (km_reportKnown, 24, .inl fm_reportKnown)), ((mr 4), .inl (km_struck, 24, .inl fm_struck))]) [0, 1, 2, 3, 4, 5, 6] (by decide) rfl
                have hFc := va_free (wc := [(h0, .inr (12, fsMM mi mr)), ((mr 2), .inl (km_reportPlace, 24, .inl fm_reportPlace)), ((mr 3), .inl (km_reportKind, 24, .inl fm_reportKind)), ((mr 5), .inl (km_reportMonth, 24, .inl fm_reportMonth)), ((mr 6), .inl (km_reportDay, 24, .inl fm_reportDay)), ((mr 7), .inl (km_reportKnown, 24, .inl fm_reportKnown)), ((mr 4), .inl (km_struck, 24, .inl fm_struck))]) hD hS hA [0, 1, 2, 3, 4, 5, 6] rfl
                refine va_callv (va_runV (As := [.int p1, .int p2, .int p3, .int p4, .int p5]) (rest := []) ⟨hx, hb, hml, hown, hts⟩ (sX12_lays l dC dI H.size h0 mi mr km_reportPlace fm_reportPlace km_reportKind fm_reportKind km_reportMonth fm_reportMonth km_reportDay fm_reportDay km_reportKnown fm_reportKnown km_struck fm_struck p1 p2 p3 p4 p5 gmi_0 gmi_1 gmi_2 gmi_4 gmi_7 g_127 gmi_17 gmi_23 gmi_24 gmi_26 gmi_29 gmi_30 gmi_33 gmi_37 gmi_41 gmi_50 gmi_51 gmi_56 gfm_reportPlace gfm_reportMonth gfm_reportDay gfm_reportKnown gfm_struck g_99 (gi_w g_113 (by decide)) g_119 g_125) (cwV 5 hts (gz_gV mGB_205 mGB_206 mGB_207 mGB_1 mGB_208 goodGB) rfl rfl rfl (by decide +kernel) ⟨Nat.le_of_ble_eq_true rfl, Nat.le_of_ble_eq_true rfl⟩) ⟨fun a U g mk q => by obtain ⟨q0, q1, qP, qK, qD⟩ := q; exact ⟨q0, q1, qP, va_K.moved (u := U) (U := U.calling g mk a) (Vm.Alike.refl U.vm) qK, qD⟩, va_recv hKc hPc (ci := 12) (q0 := 0) rfl rfl, fun U hU hW => ⟨rfl, by rw [hU], by rw [hU]; exact hPc, va_K.moved hW.alike hKc, hDc.weaken (fun _ _ _ _ => trivial)⟩⟩ rfl rfl hl.1 rfl (lv_room (Nat.le_of_ble_eq_true rfl)) dX12_reports_94 ⟨Nat.zero_le _, Nat.zero_le _⟩) hS (fun q _ h => hFc q h) hFc (fun u t H1 locs ht hvm hw hB hz1 hk1 hS => ?_)
                obtain ⟨y_129, f_130, f_131, f_132, f_133, f_134, f_135, gy_129, gf_130, gf_132, gf_133, gf_134, gf_135, hP1, hD1⟩ := hB
                rw [ht] at hP1
                obtain ⟨hP, hD⟩ := va_join (wr := []) (w1 := [(h0, .inr (12, fsMM (upd mi 10 y_129) mr)), ((mr 2), .inl (km_reportPlace, 24, .inl f_130)), ((mr 3), .inl (km_reportKind, 24, .inl f_131)), ((mr 5), .inl (km_reportMonth, 24, .inl f_132)), ((mr 6), .inl (km_reportDay, 24, .inl f_133)), ((mr 7), .inl (km_reportKnown, 24, .inl f_134)), ((mr 4), .inl (km_struck, 24, .inl f_135))]) hP hD [0, 1, 2, 3, 4, 5, 6] [] rfl rfl (by decide) (by decide) hk1 hFc hP1 hD1
                have hP := hP.sub (ws' := [(h0, .inr (12, fsMM (upd mi 10 y_129) mr)), ((mr 2), .inl (km_reportPlace, 24, .inl f_130)), ((mr 3), .inl (km_reportKind, 24, .inl f_131)), ((mr 5), .inl (km_reportMonth, 24, .inl f_132)), ((mr 6), .inl (km_reportDay, 24, .inl f_133)), ((mr 7), .inl (km_reportKnown, 24, .inl f_134)), ((mr 4), .inl (km_struck, 24, .inl f_135))]) [0, 1, 2, 3, 4, 5, 6] rfl
                have hD := hD.sub (ws' := [(h0, .inr (12, fsMM (upd mi 10 y_129) mr)), ((mr 2), .inl (km_reportPlace, 24, .inl f_130)), ((mr 3), .inl (km_reportKind, 24, .inl f_131)), ((mr 5), .inl (km_reportMonth, 24, .inl f_132)), ((mr 6), .inl (km_reportDay, 24, .inl f_133)), ((mr 7), .inl (km_reportKnown, 24, .inl f_134)), ((mr 4), .inl (km_struck, 24, .inl f_135))]) [0, 1, 2, 3, 4, 5, 6] (by decide) rfl
                generalize H1 = H at hP hS ⊢
                refine lv_aload_n hx hb dX12_reports_97 rfl (lv_at hl 0 rfl) ?_
                refine va_get (D := (dC, dI)) (ci := 12) (v := .int y_129) (C := RX12) (T := TX12) (N := 57) hx hb hts (fun w h => List.mem_cons_of_mem _ (jnGB_X12 w h)) hown hK hP 0 rfl rfl 10 (by decide) (hts _ (List.mem_cons_of_mem _ mGB_111)) (fun _ h9 => h9) rfl dX12_reports_98 ?_
                refine lv_iconst (v := 1) hx hb dX12_reports_101 (by decide) ?_
                refine lv_isub hx hb dX12_reports_102 ?_
                refine lv_topi (fun x_136 ex_136 => ?_)
                have gx_136 : gi x_136 (-1) 23 := gi_sub ex_136 gy_129 (gi_c 1 1 (by decide)) (by decide)
                exact W.iret (v := x_136) hx hb hr (fun t ht hW => ⟨⟨x_136, (), rfl, (gi_w gx_136 (by decide)), y_129, f_130, f_131, f_132, f_133, f_134, f_135, gy_129, gf_130, gf_132, gf_133, gf_134, gf_135, by rw [ht]; exact hP, hD⟩, hS.F ht⟩) hS.2.2 dX12_reports_103
              · have g_137 : gi (mi 10) 24 24 := gi_eq c_126 (gi_c 24 24 (by decide))
                refine lv_bipush (v := (-5)) hx hb dX12_reports_83 (by decide) ?_
                exact W.iret (v := (-5)) hx hb hr (fun t ht hW => ⟨⟨(-5), (), rfl, (gi_w (gi_c (-5) (-5) (by decide)) (by decide)), (mi 10), fm_reportPlace, fm_reportKind, fm_reportMonth, fm_reportDay, fm_reportKnown, fm_struck, (gi_w g_137 (by decide)), gfm_reportPlace, gfm_reportMonth, gfm_reportDay, gfm_reportKnown, gfm_struck, by rw [ht]; exact hP, hD⟩, hS.F ht⟩) hS.2.2 dX12_reports_85
            · have g_138 : gi r_122 0 0 := gi_eq c_123 (gi_c 0 0 (by decide))
              refine lv_bipush (v := (-2)) hx hb dX12_reports_71 (by decide) ?_
              exact W.iret (v := (-2)) hx hb hr (fun t ht hW => ⟨⟨(-2), (), rfl, (gi_w (gi_c (-2) (-2) (by decide)) (by decide)), (mi 10), fm_reportPlace, fm_reportKind, fm_reportMonth, fm_reportDay, fm_reportKnown, fm_struck, gmi_10, gfm_reportPlace, gfm_reportMonth, gfm_reportDay, gfm_reportKnown, gfm_struck, by rw [ht]; exact hP, hD⟩, hS.F ht⟩) hS.2.2 dX12_reports_73
theorem dX12_runs_0 : decode cX12_runs 0 = .ok (.aload_n 0, 1) := by decide +kernel
theorem dX12_runs_1 : decode cX12_runs 1 = .ok (.getfield 126, 3) := by decide +kernel
theorem dX12_runs_4 : decode cX12_runs 4 = .ok (.ifCond .eq 27, 3) := by decide +kernel
theorem dX12_runs_7 : decode cX12_runs 7 = .ok (.iload_n 1, 1) := by decide +kernel
theorem dX12_runs_8 : decode cX12_runs 8 = .ok (.i2l, 1) := by decide +kernel
theorem dX12_runs_9 : decode cX12_runs 9 = .ok (.lconst 1, 1) := by decide +kernel
theorem dX12_runs_10 : decode cX12_runs 10 = .ok (.ldc2_w 494, 3) := by decide +kernel
theorem dX12_runs_13 : decode cX12_runs 13 = .ok (.invokestatic 102, 3) := by decide +kernel
theorem dX12_runs_16 : decode cX12_runs 16 = .ok (.ifCond .eq 15, 3) := by decide +kernel
theorem dX12_runs_19 : decode cX12_runs 19 = .ok (.iload_n 2, 1) := by decide +kernel
theorem dX12_runs_20 : decode cX12_runs 20 = .ok (.i2l, 1) := by decide +kernel
theorem dX12_runs_21 : decode cX12_runs 21 = .ok (.lconst 1, 1) := by decide +kernel
theorem dX12_runs_22 : decode cX12_runs 22 = .ok (.ldc2_w 494, 3) := by decide +kernel
theorem dX12_runs_25 : decode cX12_runs 25 = .ok (.invokestatic 102, 3) := by decide +kernel
theorem dX12_runs_28 : decode cX12_runs 28 = .ok (.ifCond .ne 6, 3) := by decide +kernel
theorem dX12_runs_31 : decode cX12_runs 31 = .ok (.bipush (-2), 2) := by decide +kernel
theorem dX12_runs_33 : decode cX12_runs 33 = .ok (.ireturn, 1) := by decide +kernel
theorem dX12_runs_34 : decode cX12_runs 34 = .ok (.aload_n 0, 1) := by decide +kernel
theorem dX12_runs_35 : decode cX12_runs 35 = .ok (.sipush 999, 3) := by decide +kernel
theorem dX12_runs_38 : decode cX12_runs 38 = .ok (.invokevirtual 362, 3) := by decide +kernel
theorem dX12_runs_41 : decode cX12_runs 41 = .ok (.aload_n 0, 1) := by decide +kernel
theorem dX12_runs_42 : decode cX12_runs 42 = .ok (.invokevirtual 365, 3) := by decide +kernel
theorem dX12_runs_45 : decode cX12_runs 45 = .ok (.istore_n 3, 1) := by decide +kernel
theorem dX12_runs_46 : decode cX12_runs 46 = .ok (.aload_n 0, 1) := by decide +kernel
theorem dX12_runs_47 : decode cX12_runs 47 = .ok (.getfield 120, 3) := by decide +kernel
theorem dX12_runs_50 : decode cX12_runs 50 = .ok (.istore 4, 2) := by decide +kernel
theorem dX12_runs_52 : decode cX12_runs 52 = .ok (.aload_n 0, 1) := by decide +kernel
theorem dX12_runs_53 : decode cX12_runs 53 = .ok (.getfield 123, 3) := by decide +kernel
theorem dX12_runs_56 : decode cX12_runs 56 = .ok (.istore 5, 2) := by decide +kernel
theorem dX12_runs_58 : decode cX12_runs 58 = .ok (.aload_n 0, 1) := by decide +kernel
theorem dX12_runs_59 : decode cX12_runs 59 = .ok (.iload_n 1, 1) := by decide +kernel
theorem dX12_runs_60 : decode cX12_runs 60 = .ok (.putfield 120, 3) := by decide +kernel
theorem dX12_runs_63 : decode cX12_runs 63 = .ok (.aload_n 0, 1) := by decide +kernel
theorem dX12_runs_64 : decode cX12_runs 64 = .ok (.iload_n 2, 1) := by decide +kernel
theorem dX12_runs_65 : decode cX12_runs 65 = .ok (.putfield 123, 3) := by decide +kernel
theorem dX12_runs_68 : decode cX12_runs 68 = .ok (.aload_n 0, 1) := by decide +kernel
theorem dX12_runs_69 : decode cX12_runs 69 = .ok (.sipush 999, 3) := by decide +kernel
theorem dX12_runs_72 : decode cX12_runs 72 = .ok (.invokevirtual 362, 3) := by decide +kernel
theorem dX12_runs_75 : decode cX12_runs 75 = .ok (.aload_n 0, 1) := by decide +kernel
theorem dX12_runs_76 : decode cX12_runs 76 = .ok (.invokevirtual 365, 3) := by decide +kernel
theorem dX12_runs_79 : decode cX12_runs 79 = .ok (.iload_n 3, 1) := by decide +kernel
theorem dX12_runs_80 : decode cX12_runs 80 = .ok (.if_icmp .ne 5, 3) := by decide +kernel
theorem dX12_runs_83 : decode cX12_runs 83 = .ok (.iconst 0, 1) := by decide +kernel
theorem dX12_runs_84 : decode cX12_runs 84 = .ok (.ireturn, 1) := by decide +kernel
theorem dX12_runs_85 : decode cX12_runs 85 = .ok (.aload_n 0, 1) := by decide +kernel
theorem dX12_runs_86 : decode cX12_runs 86 = .ok (.iload 4, 2) := by decide +kernel
theorem dX12_runs_88 : decode cX12_runs 88 = .ok (.putfield 120, 3) := by decide +kernel
theorem dX12_runs_91 : decode cX12_runs 91 = .ok (.aload_n 0, 1) := by decide +kernel
theorem dX12_runs_92 : decode cX12_runs 92 = .ok (.iload 5, 2) := by decide +kernel
theorem dX12_runs_94 : decode cX12_runs 94 = .ok (.putfield 123, 3) := by decide +kernel
theorem dX12_runs_97 : decode cX12_runs 97 = .ok (.bipush (-5), 2) := by decide +kernel
theorem dX12_runs_99 : decode cX12_runs 99 = .ok (.ireturn, 1) := by decide +kernel
set_option maxHeartbeats 4000000 in
set_option maxRecDepth 100000 in
theorem sX12_runs (l : Launch) (dC : Nat → ClassId) (dI : Nat → Nat → Nat) (sz : Nat) (h0 : Nat) (mi : Nat → Int32) (mr : Nat → Nat) (km_must : ClassId) (fm_must : Nat → Int32) (km_least : ClassId) (fm_least : Nat → Int32) (km_pin : ClassId) (fm_pin : Nat → Int32) (km_ways : ClassId) (fm_ways : Nat → Int32) (km_verdict : ClassId) (fm_verdict : Nat → Int32) (km_row : ClassId) (fm_row : Nat → Int32) (km_struck : ClassId) (fm_struck : Nat → Int32) (km_reportKnown : ClassId) (fm_reportKnown : Nat → Int32) (km_reportPlace : ClassId) (fm_reportPlace : Nat → Int32) (km_reportMonth : ClassId) (fm_reportMonth : Nat → Int32) (km_reportDay : ClassId) (fm_reportDay : Nat → Int32) (km_reportKind : ClassId) (fm_reportKind : Nat → Int32) (km_trust : ClassId) (fm_trust : Nat → Int32) (km_letter : ClassId) (fm_letter : Nat → Int32) (p1 : Int32) (p2 : Int32) (gmi_0 : gi (mi 0) 0 24) (gmi_1 : gi (mi 1) 0 5) (gmi_2 : gi (mi 2) 0 5) (gmi_4 : gi (mi 4) 0 1) (gmi_7 : gi (mi 7) 0 6) (gmi_10 : gi (mi 10) 0 24) (gmi_17 : gi (mi 17) 0 8) (gmi_23 : gi (mi 23) 0 300) (gmi_24 : gi (mi 24) 0 1) (gmi_26 : gi (mi 26) 0 1600) (gmi_29 : gi (mi 29) 0 1600) (gmi_30 : gi (mi 30) 0 1600) (gmi_33 : gi (mi 33) 0 1) (gmi_37 : gi (mi 37) 0 1) (gmi_41 : gi (mi 41) 0 24) (gmi_50 : gi (mi 50) 0 1) (gmi_51 : gi (mi 51) 0 1) (gmi_56 : gi (mi 56) 0 80) (gfm_row : ga fm_row 24 0 23) (gfm_struck : ga fm_struck 24 0 1) (gfm_reportKnown : ga fm_reportKnown 24 0 999) (gfm_reportPlace : ga fm_reportPlace 24 0 5) (gfm_reportMonth : ga fm_reportMonth 24 0 23) (gfm_reportDay : ga fm_reportDay 24 0 999) : Met l yX12_runs (.code yX12_runs cX12_runs 6 (some .int) :: wsGB) ({ frames := 5, cells := 0, slots := 0, locals := 119 }) (va_Pc [.ref h0, .int p1, .int p2] (fun U => U.heap.size = sz ∧ va_P (dC, dI) vwCl [(h0, .inr (12, fsMM mi mr)), ((mr 14), .inl (km_must, 25, .inl fm_must)), ((mr 15), .inl (km_least, 25, .inl fm_least)), ((mr 16), .inl (km_pin, 25, .inl fm_pin)), ((mr 17), .inl (km_ways, 6875, .inl fm_ways)), ((mr 18), .inl (km_verdict, 24, .inl fm_verdict)), ((mr 19), .inl (km_row, 24, .inl fm_row)), ((mr 4), .inl (km_struck, 24, .inl fm_struck)), ((mr 7), .inl (km_reportKnown, 24, .inl fm_reportKnown)), ((mr 2), .inl (km_reportPlace, 24, .inl fm_reportPlace)), ((mr 5), .inl (km_reportMonth, 24, .inl fm_reportMonth)), ((mr 6), .inl (km_reportDay, 24, .inl fm_reportDay)), ((mr 3), .inl (km_reportKind, 24, .inl fm_reportKind)), ((mr 0), .inl (km_trust, 6, .inl fm_trust)), ((mr 1), .inl (km_letter, 36, .inl fm_letter))] U.heap ∧ va_K (dC, dI) vwCl [(km_must, .int), (km_least, .int), (km_pin, .int), (km_ways, .int), (km_verdict, .int), (km_row, .int), (km_struck, .boolean), (km_reportKnown, .int), (km_reportPlace, .int), (km_reportMonth, .int), (km_reportDay, .int), (km_reportKind, .int), (km_trust, .int), (km_letter, .int)] U ∧ va_D (fun _ => True) [(h0, .inr (12, fsMM mi mr)), ((mr 14), .inl (km_must, 25, .inl fm_must)), ((mr 15), .inl (km_least, 25, .inl fm_least)), ((mr 16), .inl (km_pin, 25, .inl fm_pin)), ((mr 17), .inl (km_ways, 6875, .inl fm_ways)), ((mr 18), .inl (km_verdict, 24, .inl fm_verdict)), ((mr 19), .inl (km_row, 24, .inl fm_row)), ((mr 4), .inl (km_struck, 24, .inl fm_struck)), ((mr 7), .inl (km_reportKnown, 24, .inl fm_reportKnown)), ((mr 2), .inl (km_reportPlace, 24, .inl fm_reportPlace)), ((mr 5), .inl (km_reportMonth, 24, .inl fm_reportMonth)), ((mr 6), .inl (km_reportDay, 24, .inl fm_reportDay)), ((mr 3), .inl (km_reportKind, 24, .inl fm_reportKind)), ((mr 0), .inl (km_trust, 6, .inl fm_trust)), ((mr 1), .inl (km_letter, 36, .inl fm_letter))])) (va_Qi (fun (r : Int32) (u : Unit) => gi r (-5) 0) (fun _ t => ∃ (w0_1 : Int32) (w0_2 : Int32) (w0_37 : Int32) (w0_41 : Int32) (z1 : Nat → Int32) (z2 : Nat → Int32) (z3 : Nat → Int32) (z4 : Nat → Int32) (z5 : Nat → Int32) (z6 : Nat → Int32), gi w0_1 0 5 ∧ gi w0_2 0 5 ∧ gi w0_37 0 1 ∧ gi w0_41 0 24 ∧ ga z6 24 0 23 ∧ va_P (dC, dI) vwCl [(h0, .inr (12, fsMM (upd (upd (upd (upd mi 1 w0_1) 2 w0_2) 37 w0_37) 41 w0_41) mr)), ((mr 14), .inl (km_must, 25, .inl z1)), ((mr 15), .inl (km_least, 25, .inl z2)), ((mr 16), .inl (km_pin, 25, .inl z3)), ((mr 17), .inl (km_ways, 6875, .inl z4)), ((mr 18), .inl (km_verdict, 24, .inl z5)), ((mr 19), .inl (km_row, 24, .inl z6)), ((mr 4), .inl (km_struck, 24, .inl fm_struck)), ((mr 7), .inl (km_reportKnown, 24, .inl fm_reportKnown)), ((mr 2), .inl (km_reportPlace, 24, .inl fm_reportPlace)), ((mr 5), .inl (km_reportMonth, 24, .inl fm_reportMonth)), ((mr 6), .inl (km_reportDay, 24, .inl fm_reportDay)), ((mr 3), .inl (km_reportKind, 24, .inl fm_reportKind)), ((mr 0), .inl (km_trust, 6, .inl fm_trust)), ((mr 1), .inl (km_letter, 36, .inl fm_letter))] t.heap ∧ va_D (va_A [(h0, .inr (12, fsMM mi mr)), ((mr 14), .inl (km_must, 25, .inl fm_must)), ((mr 15), .inl (km_least, 25, .inl fm_least)), ((mr 16), .inl (km_pin, 25, .inl fm_pin)), ((mr 17), .inl (km_ways, 6875, .inl fm_ways)), ((mr 18), .inl (km_verdict, 24, .inl fm_verdict)), ((mr 19), .inl (km_row, 24, .inl fm_row)), ((mr 4), .inl (km_struck, 24, .inl fm_struck)), ((mr 7), .inl (km_reportKnown, 24, .inl fm_reportKnown)), ((mr 2), .inl (km_reportPlace, 24, .inl fm_reportPlace)), ((mr 5), .inl (km_reportMonth, 24, .inl fm_reportMonth)), ((mr 6), .inl (km_reportDay, 24, .inl fm_reportDay)), ((mr 3), .inl (km_reportKind, 24, .inl fm_reportKind)), ((mr 0), .inl (km_trust, 6, .inl fm_trust)), ((mr 1), .inl (km_letter, 36, .inl fm_letter))] sz) [(h0, .inr (12, fsMM (upd (upd (upd (upd mi 1 w0_1) 2 w0_2) 37 w0_37) 41 w0_41) mr)), ((mr 14), .inl (km_must, 25, .inl z1)), ((mr 15), .inl (km_least, 25, .inl z2)), ((mr 16), .inl (km_pin, 25, .inl z3)), ((mr 17), .inl (km_ways, 6875, .inl z4)), ((mr 18), .inl (km_verdict, 24, .inl z5)), ((mr 19), .inl (km_row, 24, .inl z6)), ((mr 4), .inl (km_struck, 24, .inl fm_struck)), ((mr 7), .inl (km_reportKnown, 24, .inl fm_reportKnown)), ((mr 2), .inl (km_reportPlace, 24, .inl fm_reportPlace)), ((mr 5), .inl (km_reportMonth, 24, .inl fm_reportMonth)), ((mr 6), .inl (km_reportDay, 24, .inl fm_reportDay)), ((mr 3), .inl (km_reportKind, 24, .inl fm_reportKind)), ((mr 0), .inl (km_trust, 6, .inl fm_trust)), ((mr 1), .inl (km_letter, 36, .inl fm_letter))]) (va_A [(h0, .inr (12, fsMM mi mr)), ((mr 14), .inl (km_must, 25, .inl fm_must)), ((mr 15), .inl (km_least, 25, .inl fm_least)), ((mr 16), .inl (km_pin, 25, .inl fm_pin)), ((mr 17), .inl (km_ways, 6875, .inl fm_ways)), ((mr 18), .inl (km_verdict, 24, .inl fm_verdict)), ((mr 19), .inl (km_row, 24, .inl fm_row)), ((mr 4), .inl (km_struck, 24, .inl fm_struck)), ((mr 7), .inl (km_reportKnown, 24, .inl fm_reportKnown)), ((mr 2), .inl (km_reportPlace, 24, .inl fm_reportPlace)), ((mr 5), .inl (km_reportMonth, 24, .inl fm_reportMonth)), ((mr 6), .inl (km_reportDay, 24, .inl fm_reportDay)), ((mr 3), .inl (km_reportKind, 24, .inl fm_reportKind)), ((mr 0), .inl (km_trust, 6, .inl fm_trust)), ((mr 1), .inl (km_letter, 36, .inl fm_letter))] sz)) 0 0 (va_A [(h0, .inr (12, fsMM mi mr)), ((mr 14), .inl (km_must, 25, .inl fm_must)), ((mr 15), .inl (km_least, 25, .inl fm_least)), ((mr 16), .inl (km_pin, 25, .inl fm_pin)), ((mr 17), .inl (km_ways, 6875, .inl fm_ways)), ((mr 18), .inl (km_verdict, 24, .inl fm_verdict)), ((mr 19), .inl (km_row, 24, .inl fm_row)), ((mr 4), .inl (km_struck, 24, .inl fm_struck)), ((mr 7), .inl (km_reportKnown, 24, .inl fm_reportKnown)), ((mr 2), .inl (km_reportPlace, 24, .inl fm_reportPlace)), ((mr 5), .inl (km_reportMonth, 24, .inl fm_reportMonth)), ((mr 6), .inl (km_reportDay, 24, .inl fm_reportDay)), ((mr 3), .inl (km_reportKind, 24, .inl fm_reportKind)), ((mr 0), .inl (km_trust, 6, .inl fm_trust)), ((mr 1), .inl (km_letter, 36, .inl fm_letter))] sz) := by
  refine Met.ofW (cc := cX12_runs) (maxL := 6) (ret := (some .int)) (by decide) rfl ?_
  intro p e s m args below meth c s₁ B hml hv
  obtain ⟨rfl, hsz, hP, hK, hD0⟩ := hv
  have hx := B.exec
  have hb := B.bytes
  have hr := B.returns
  have hts := atoms_spec (ws := (.code yX12_runs cX12_runs 6 (some .int) :: wsGB)) B.pre
  have hown : s.vm.findClass RX12 = some m.cls := findClass_of_methodNamed B.named
  have hlocks := B.notSynchronized
  subst hsz
  have hD := hD0.self (sz := s.heap.size)
  generalize hAe : va_A [(h0, .inr (12, fsMM mi mr)), ((mr 14), .inl (km_must, 25, .inl fm_must)), ((mr 15), .inl (km_least, 25, .inl fm_least)), ((mr 16), .inl (km_pin, 25, .inl fm_pin)), ((mr 17), .inl (km_ways, 6875, .inl fm_ways)), ((mr 18), .inl (km_verdict, 24, .inl fm_verdict)), ((mr 19), .inl (km_row, 24, .inl fm_row)), ((mr 4), .inl (km_struck, 24, .inl fm_struck)), ((mr 7), .inl (km_reportKnown, 24, .inl fm_reportKnown)), ((mr 2), .inl (km_reportPlace, 24, .inl fm_reportPlace)), ((mr 5), .inl (km_reportMonth, 24, .inl fm_reportMonth)), ((mr 6), .inl (km_reportDay, 24, .inl fm_reportDay)), ((mr 3), .inl (km_reportKind, 24, .inl fm_reportKind)), ((mr 0), .inl (km_trust, 6, .inl fm_trust)), ((mr 1), .inl (km_letter, 36, .inl fm_letter))] s.heap.size = A at hD ⊢
  have hA : ∀ q : Nat, s.heap.size ≤ q → A q := fun q h => by rw [← hAe]; exact Or.inr h
  have hS : va_S A s.heap s.heap [] := va_S.rf
  have hl := lv_entry ([.ref h0, .int p1, .int p2]) (n := 6) (Nat.le_of_ble_eq_true rfl)
  rw [lg_entry_eq]
  generalize (lg_sl ([.ref h0, .int p1, .int p2]) ++ List.replicate (6 - (lg_sl ([.ref h0, .int p1, .int p2])).length) Slot.unset).toArray = ls at hl ⊢
  have hl : lv_has ls 6 [(0, .ref h0), (1, .int p1), (2, .int p2)] := hl
  refine lv_aload_n hx hb dX12_runs_0 rfl (lv_at hl 0 rfl) ?_
  refine va_get (D := (dC, dI)) (ci := 12) (v := .int (mi 3)) (C := RX12) (T := TX12) (N := 57) hx hb hts (fun w h => List.mem_cons_of_mem _ (jnGB_X12 w h)) hown hK hP 0 rfl rfl 3 (by decide) (hts _ (List.mem_cons_of_mem _ mGB_106)) (fun _ h9 => h9) rfl dX12_runs_1 ?_
  refine lv_if_eq (tgt := 31) hx hb dX12_runs_4 (by decide) (fun c_71 => ?_) (fun c_71 => ?_)
  · have g_72 : gi (mi 3) 0 0 := gi_eq c_71 (gi_c 0 0 (by decide))
    refine lv_bipush (v := (-2)) hx hb dX12_runs_31 (by decide) ?_
    exact W.iret (v := (-2)) hx hb hr (fun t ht hW => ⟨⟨(-2), (), rfl, (gi_w (gi_c (-2) (-2) (by decide)) (by decide)), (mi 1), (mi 2), (mi 37), (mi 41), fm_must, fm_least, fm_pin, fm_ways, fm_verdict, fm_row, gmi_1, gmi_2, gmi_37, gmi_41, gfm_row, by rw [ht]; exact hP, hD⟩, hS.F ht⟩) hS.2.2 dX12_runs_33
  · refine lv_iload_n hx hb dX12_runs_7 rfl (lv_at hl 1 rfl) ?_
    refine lv_i2l (v := (p1).toInt64) hx hb dX12_runs_8 rfl ?_
    refine lv_topl (fun l_73 el_73 => ?_)
    refine lv_lconst (v := 1) hx hb dX12_runs_9 (by decide) ?_
    refine lv_ldc2 (own := RX12) (v := 5) hx hb hown (hts _ (List.mem_cons_of_mem _ mGB_595)) dX12_runs_10 ?_
    have hPc := hP.sub (ws' := []) [] rfl
    have hKc := hK.sub (tys' := []) [] rfl
    refine va_calli (va_runS (As := [.long l_73, .long 1, .long 5]) (rest := []) ⟨hx, hb, hml, hown, hts⟩ (sX12_in l dC dI l_73 1 5) (cwS 3 hts (gz_gS mGB_47 mGB_48 mGB_1 mGB_49 goodGB) rfl rfl rfl (by decide +kernel) ⟨Nat.le_of_ble_eq_true rfl, Nat.le_of_ble_eq_true rfl⟩) ⟨fun a U g mk q => by obtain ⟨q0, qP, qK⟩ := q; exact ⟨q0, qP, va_K.moved (u := U) (U := U.calling g mk a) (Vm.Alike.refl U.vm) qK⟩, fun U hU hW => ⟨rfl, by rw [hU]; exact hPc, va_K.moved hW.alike hKc⟩⟩ rfl rfl hl.1 rfl (lv_room (Nat.le_of_ble_eq_true rfl)) dX12_runs_13 ⟨Nat.zero_le _, Nat.zero_le _⟩) hS (fun q _ h => h.elim) (fun q h => h.elim) (fun r_74 u t H1 locs ht hvm hw hB hz1 hk1 hS => ?_)
    have hP := gz_keep hP hk1
    generalize H1 = H at hP hS ⊢
    have gr_74 : gi r_74 0 1 := hw.1
    have hqr_74 := hw.2
    refine lv_if_eq (tgt := 31) hx hb dX12_runs_16 (by decide) (fun c_75 => ?_) (fun c_75 => ?_)
    · have g_76 : gi r_74 0 0 := gi_eq c_75 (gi_c 0 0 (by decide))
      refine lv_bipush (v := (-2)) hx hb dX12_runs_31 (by decide) ?_
      exact W.iret (v := (-2)) hx hb hr (fun t ht hW => ⟨⟨(-2), (), rfl, (gi_w (gi_c (-2) (-2) (by decide)) (by decide)), (mi 1), (mi 2), (mi 37), (mi 41), fm_must, fm_least, fm_pin, fm_ways, fm_verdict, fm_row, gmi_1, gmi_2, gmi_37, gmi_41, gfm_row, by rw [ht]; exact hP, hD⟩, hS.F ht⟩) hS.2.2 dX12_runs_33
    · have g_77 : gi r_74 1 1 := gi_ne_lo c_75 gr_74 (gi_c 0 0 (by decide)) (by decide)
      have g_78 : gi p1 1 5 := gi_cap (gi_any p1) (gz_inr (hqr_74.1 (gz_one g_77)) el_73 (A := 1) (B := 5) (by decide) (by decide)) (by decide)
      refine lv_iload_n hx hb dX12_runs_19 rfl (lv_at hl 2 rfl) ?_
      refine lv_i2l (v := (p2).toInt64) hx hb dX12_runs_20 rfl ?_
      refine lv_topl (fun l_79 el_79 => ?_)
      refine lv_lconst (v := 1) hx hb dX12_runs_21 (by decide) ?_
      refine lv_ldc2 (own := RX12) (v := 5) hx hb hown (hts _ (List.mem_cons_of_mem _ mGB_595)) dX12_runs_22 ?_
      have hPc := hP.sub (ws' := []) [] rfl
      have hKc := hK.sub (tys' := []) [] rfl
      refine va_calli (va_runS (As := [.long l_79, .long 1, .long 5]) (rest := []) ⟨hx, hb, hml, hown, hts⟩ (sX12_in l dC dI l_79 1 5) (cwS 3 hts (gz_gS mGB_47 mGB_48 mGB_1 mGB_49 goodGB) rfl rfl rfl (by decide +kernel) ⟨Nat.le_of_ble_eq_true rfl, Nat.le_of_ble_eq_true rfl⟩) ⟨fun a U g mk q => by obtain ⟨q0, qP, qK⟩ := q; exact ⟨q0, qP, va_K.moved (u := U) (U := U.calling g mk a) (Vm.Alike.refl U.vm) qK⟩, fun U hU hW => ⟨rfl, by rw [hU]; exact hPc, va_K.moved hW.alike hKc⟩⟩ rfl rfl hl.1 rfl (lv_room (Nat.le_of_ble_eq_true rfl)) dX12_runs_25 ⟨Nat.zero_le _, Nat.zero_le _⟩) hS (fun q _ h => h.elim) (fun q h => h.elim) (fun r_80 u t H1 locs ht hvm hw hB hz1 hk1 hS => ?_)
      have hP := gz_keep hP hk1
      generalize H1 = H at hP hS ⊢
      have gr_80 : gi r_80 0 1 := hw.1
      have hqr_80 := hw.2
      refine lv_if_ne (tgt := 34) hx hb dX12_runs_28 (by decide) (fun c_81 => ?_) (fun c_81 => ?_)
      · have g_82 : gi r_80 1 1 := gi_ne_lo c_81 gr_80 (gi_c 0 0 (by decide)) (by decide)
        have g_83 : gi p2 1 5 := gi_cap (gi_any p2) (gz_inr (hqr_80.1 (gz_one g_82)) el_79 (A := 1) (B := 5) (by decide) (by decide)) (by decide)
        refine lv_aload_n hx hb dX12_runs_34 rfl (lv_at hl 0 rfl) ?_
        refine lv_sipush (v := 999) hx hb dX12_runs_35 (by decide) ?_
        have hPc := hP.sub (ws' := [(h0, .inr (12, fsMM mi mr)), ((mr 14), .inl (km_must, 25, .inl fm_must)), ((mr 15), .inl (km_least, 25, .inl fm_least)), ((mr 16), .inl (km_pin, 25, .inl fm_pin)), ((mr 17), .inl (km_ways, 6875, .inl fm_ways)), ((mr 18), .inl (km_verdict, 24, .inl fm_verdict)), ((mr 19), .inl (km_row, 24, .inl fm_row)), ((mr 4), .inl (km_struck, 24, .inl fm_struck)), ((mr 7), .inl (km_reportKnown, 24, .inl fm_reportKnown)), ((mr 2), .inl (km_reportPlace, 24, .inl fm_reportPlace)), ((mr 5), .inl (km_reportMonth, 24, .inl fm_reportMonth)), ((mr 6), .inl (km_reportDay, 24, .inl fm_reportDay)), ((mr 3), .inl (km_reportKind, 24, .inl fm_reportKind)), ((mr 0), .inl (km_trust, 6, .inl fm_trust)), ((mr 1), .inl (km_letter, 36, .inl fm_letter))]) [0, 1, 2, 3, 4, 5, 6, 7, 8, 9, 10, 11, 12, 13, 14] rfl
        have hKc := hK.sub (tys' := [(km_must, .int), (km_least, .int), (km_pin, .int), (km_ways, .int), (km_verdict, .int), (km_row, .int), (km_struck, .boolean), (km_reportKnown, .int), (km_reportPlace, .int), (km_reportMonth, .int), (km_reportDay, .int), (km_reportKind, .int), (km_trust, .int), (km_letter, .int)]) [0, 1, 2, 3, 4, 5, 6, 7, 8, 9, 10, 11, 12, 13] rfl
        have hDc := hD.sub (ws' := [(h0, .inr (12, fsMM mi mr)), ((mr 14), .inl (km_must, 25, .inl fm_must)), ((mr 15), .inl (km_least, 25, .inl fm_least)), ((mr 16), .inl (km_pin, 25, .inl fm_pin)), ((mr 17), .inl (km_ways, 6875, .inl fm_ways)), ((mr 18), .inl (km_verdict, 24, .inl fm_verdict)), ((mr 19), .inl (km_row, 24, .inl fm_row)), ((mr 4), .inl (km_struck, 24, .inl fm_struck)), ((mr 7), .inl (km_reportKnown, 24, .inl fm_reportKnown)), ((mr 2), .inl (km_reportPlace, 24, .inl fm_reportPlace)), ((mr 5), .inl (km_reportMonth, 24, .inl fm_reportMonth)), ((mr 6), .inl (km_reportDay, 24, .inl fm_reportDay)), ((mr 3), .inl (km_reportKind, 24, .inl fm_reportKind)), ((mr 0), .inl (km_trust, 6, .inl fm_trust)), ((mr 1), .inl (km_letter, 36, .inl fm_letter))]) [0, 1, 2, 3, 4, 5, 6, 7, 8, 9, 10, 11, 12, 13, 14] (by decide) rfl
        have hFc := va_free (wc := [(h0, .inr (12, fsMM mi mr)), ((mr 14), .inl (km_must, 25, .inl fm_must)), ((mr 15), .inl (km_least, 25, .inl fm_least)), ((mr 16), .inl (km_pin, 25, .inl fm_pin)), ((mr 17), .inl (km_ways, 6875, .inl fm_ways)), ((mr 18), .inl (km_verdict, 24, .inl fm_verdict)), ((mr 19), .inl (km_row, 24, .inl fm_row)), ((mr 4), .inl (km_struck, 24, .inl fm_struck)), ((mr 7), .inl (km_reportKnown, 24, .inl fm_reportKnown)), ((mr 2), .inl (km_reportPlace, 24, .inl fm_reportPlace)), ((mr 5), .inl (km_reportMonth, 24, .inl fm_reportMonth)), ((mr 6), .inl (km_reportDay, 24, .inl fm_reportDay)), ((mr 3), .inl (km_reportKind, 24, .inl fm_reportKind)), ((mr 0), .inl (km_trust, 6, .inl fm_trust)), ((mr 1), .inl (km_letter, 36, .inl fm_letter))]) hD hS hA [0, 1, 2, 3, 4, 5, 6, 7, 8, 9, 10, 11, 12, 13, 14] rfl
        refine va_callv (va_runV (As := [.int 999]) (rest := []) ⟨hx, hb, hml, hown, hts⟩ (sX12_judgesAll l dC dI H.size h0 mi mr km_must fm_must km_least fm_least km_pin fm_pin km_ways fm_ways km_verdict fm_verdict km_row fm_row km_struck fm_struck km_reportKnown fm_reportKnown km_reportPlace fm_reportPlace km_reportMonth fm_reportMonth km_reportDay fm_reportDay km_reportKind fm_reportKind km_trust fm_trust km_letter fm_letter 999 gmi_0 gmi_1 gmi_2 gmi_4 gmi_7 gmi_10 gmi_17 gmi_23 gmi_24 gmi_26 gmi_29 gmi_30 gmi_33 gmi_37 gmi_41 gmi_50 gmi_51 gmi_56 gfm_row gfm_struck gfm_reportKnown gfm_reportPlace gfm_reportMonth gfm_reportDay) (cwV 1 hts (gz_gV mGB_261 mGB_262 mGB_263 mGB_1 mGB_264 goodGB) rfl rfl rfl (by decide +kernel) ⟨Nat.le_of_ble_eq_true rfl, Nat.le_of_ble_eq_true rfl⟩) ⟨fun a U g mk q => by obtain ⟨q0, q1, qP, qK, qD⟩ := q; exact ⟨q0, q1, qP, va_K.moved (u := U) (U := U.calling g mk a) (Vm.Alike.refl U.vm) qK, qD⟩, va_recv hKc hPc (ci := 12) (q0 := 0) rfl rfl, fun U hU hW => ⟨rfl, by rw [hU], by rw [hU]; exact hPc, va_K.moved hW.alike hKc, hDc.weaken (fun _ _ _ _ => trivial)⟩⟩ rfl rfl hl.1 rfl (lv_room (Nat.le_of_ble_eq_true rfl)) dX12_runs_38 ⟨Nat.zero_le _, Nat.zero_le _⟩) hS (fun q _ h => hFc q h) hFc (fun u t H1 locs ht hvm hw hB hz1 hk1 hS => ?_)
        obtain ⟨y_85, y_86, f_87, f_88, f_89, f_90, f_91, f_92, gy_85, gy_86, gf_92, hP1, hD1⟩ := hB
        rw [ht] at hP1
        obtain ⟨hP, hD⟩ := va_join (wr := []) (w1 := [(h0, .inr (12, fsMM (upd (upd mi 37 y_85) 41 y_86) mr)), ((mr 14), .inl (km_must, 25, .inl f_87)), ((mr 15), .inl (km_least, 25, .inl f_88)), ((mr 16), .inl (km_pin, 25, .inl f_89)), ((mr 17), .inl (km_ways, 6875, .inl f_90)), ((mr 18), .inl (km_verdict, 24, .inl f_91)), ((mr 19), .inl (km_row, 24, .inl f_92)), ((mr 4), .inl (km_struck, 24, .inl fm_struck)), ((mr 7), .inl (km_reportKnown, 24, .inl fm_reportKnown)), ((mr 2), .inl (km_reportPlace, 24, .inl fm_reportPlace)), ((mr 5), .inl (km_reportMonth, 24, .inl fm_reportMonth)), ((mr 6), .inl (km_reportDay, 24, .inl fm_reportDay)), ((mr 3), .inl (km_reportKind, 24, .inl fm_reportKind)), ((mr 0), .inl (km_trust, 6, .inl fm_trust)), ((mr 1), .inl (km_letter, 36, .inl fm_letter))]) hP hD [0, 1, 2, 3, 4, 5, 6, 7, 8, 9, 10, 11, 12, 13, 14] [] rfl rfl (by decide) (by decide) hk1 hFc hP1 hD1
        have hP := hP.sub (ws' := [(h0, .inr (12, fsMM (upd (upd mi 37 y_85) 41 y_86) mr)), ((mr 14), .inl (km_must, 25, .inl f_87)), ((mr 15), .inl (km_least, 25, .inl f_88)), ((mr 16), .inl (km_pin, 25, .inl f_89)), ((mr 17), .inl (km_ways, 6875, .inl f_90)), ((mr 18), .inl (km_verdict, 24, .inl f_91)), ((mr 19), .inl (km_row, 24, .inl f_92)), ((mr 4), .inl (km_struck, 24, .inl fm_struck)), ((mr 7), .inl (km_reportKnown, 24, .inl fm_reportKnown)), ((mr 2), .inl (km_reportPlace, 24, .inl fm_reportPlace)), ((mr 5), .inl (km_reportMonth, 24, .inl fm_reportMonth)), ((mr 6), .inl (km_reportDay, 24, .inl fm_reportDay)), ((mr 3), .inl (km_reportKind, 24, .inl fm_reportKind)), ((mr 0), .inl (km_trust, 6, .inl fm_trust)), ((mr 1), .inl (km_letter, 36, .inl fm_letter))]) [0, 1, 2, 3, 4, 5, 6, 7, 8, 9, 10, 11, 12, 13, 14] rfl
        have hD := hD.sub (ws' := [(h0, .inr (12, fsMM (upd (upd mi 37 y_85) 41 y_86) mr)), ((mr 14), .inl (km_must, 25, .inl f_87)), ((mr 15), .inl (km_least, 25, .inl f_88)), ((mr 16), .inl (km_pin, 25, .inl f_89)), ((mr 17), .inl (km_ways, 6875, .inl f_90)), ((mr 18), .inl (km_verdict, 24, .inl f_91)), ((mr 19), .inl (km_row, 24, .inl f_92)), ((mr 4), .inl (km_struck, 24, .inl fm_struck)), ((mr 7), .inl (km_reportKnown, 24, .inl fm_reportKnown)), ((mr 2), .inl (km_reportPlace, 24, .inl fm_reportPlace)), ((mr 5), .inl (km_reportMonth, 24, .inl fm_reportMonth)), ((mr 6), .inl (km_reportDay, 24, .inl fm_reportDay)), ((mr 3), .inl (km_reportKind, 24, .inl fm_reportKind)), ((mr 0), .inl (km_trust, 6, .inl fm_trust)), ((mr 1), .inl (km_letter, 36, .inl fm_letter))]) [0, 1, 2, 3, 4, 5, 6, 7, 8, 9, 10, 11, 12, 13, 14] (by decide) rfl
        generalize H1 = H at hP hS ⊢
        refine lv_aload_n hx hb dX12_runs_41 rfl (lv_at hl 0 rfl) ?_
        have hPc := hP.sub (ws' := [(h0, .inr (12, fsMM (upd (upd mi 37 y_85) 41 y_86) mr)), ((mr 18), .inl (km_verdict, 24, .inl f_91))]) [0, 5] rfl
        have hKc := hK.sub (tys' := [(km_verdict, .int)]) [4] rfl
        refine va_calli (va_runV (As := []) (rest := []) ⟨hx, hb, hml, hown, hts⟩ (sX12_takenBits l dC dI h0 (upd (upd mi 37 y_85) 41 y_86) mr km_verdict f_91 gmi_0 gmi_1 gmi_2 gmi_4 gmi_7 gmi_10 gmi_17 gmi_23 gmi_24 gmi_26 gmi_29 gmi_30 gmi_33 gy_85 gy_86 gmi_50 gmi_51 gmi_56) (cwV 0 hts (gz_gV mGB_327 mGB_328 mGB_329 mGB_1 mGB_330 goodGB) rfl rfl rfl (by decide +kernel) ⟨Nat.le_of_ble_eq_true rfl, Nat.le_of_ble_eq_true rfl⟩) ⟨fun a U g mk q => by obtain ⟨q0, qP, qK⟩ := q; exact ⟨q0, qP, va_K.moved (u := U) (U := U.calling g mk a) (Vm.Alike.refl U.vm) qK⟩, va_recv hKc hPc (ci := 12) (q0 := 0) rfl rfl, fun U hU hW => ⟨rfl, by rw [hU]; exact hPc, va_K.moved hW.alike hKc⟩⟩ rfl rfl hl.1 rfl (lv_room (Nat.le_of_ble_eq_true rfl)) dX12_runs_42 ⟨Nat.zero_le _, Nat.zero_le _⟩) hS (fun q _ h => h.elim) (fun q h => h.elim) (fun r_93 u t H1 locs ht hvm hw hB hz1 hk1 hS => ?_)
        have hP := gz_keep hP hk1
        generalize H1 = H at hP hS ⊢
        refine lv_istore_n (lv' := [(3, .int r_93), (0, .ref h0), (1, .int p1), (2, .int p2)]) hx hb dX12_runs_45 rfl hl (by decide) rfl (fun ls hl => ?_)
        refine lv_aload_n hx hb dX12_runs_46 rfl (lv_at hl 1 rfl) ?_
        refine va_get (D := (dC, dI)) (ci := 12) (v := .int (mi 1)) (C := RX12) (T := TX12) (N := 57) hx hb hts (fun w h => List.mem_cons_of_mem _ (jnGB_X12 w h)) hown hK hP 0 rfl rfl 1 (by decide) (hts _ (List.mem_cons_of_mem _ mGB_104)) (fun _ h9 => h9) rfl dX12_runs_47 ?_
        refine lv_istore (lv' := [(4, .int (mi 1)), (3, .int r_93), (0, .ref h0), (1, .int p1), (2, .int p2)]) hx hb dX12_runs_50 hl (by decide) rfl (fun ls hl => ?_)
        refine lv_aload_n hx hb dX12_runs_52 rfl (lv_at hl 2 rfl) ?_
        refine va_get (D := (dC, dI)) (ci := 12) (v := .int (mi 2)) (C := RX12) (T := TX12) (N := 57) hx hb hts (fun w h => List.mem_cons_of_mem _ (jnGB_X12 w h)) hown hK hP 0 rfl rfl 2 (by decide) (hts _ (List.mem_cons_of_mem _ mGB_105)) (fun _ h9 => h9) rfl dX12_runs_53 ?_
        refine lv_istore (lv' := [(5, .int (mi 2)), (4, .int (mi 1)), (3, .int r_93), (0, .ref h0), (1, .int p1), (2, .int p2)]) hx hb dX12_runs_56 hl (by decide) rfl (fun ls hl => ?_)
        refine lv_aload_n hx hb dX12_runs_58 rfl (lv_at hl 3 rfl) ?_
        refine lv_iload_n hx hb dX12_runs_59 rfl (lv_at hl 4 rfl) ?_
        refine va_put (D := (dC, dI)) (ci := 12) (v := .int p1) (ty := .int) (C := RX12) (T := TX12) (N := 57) hx hb hts (fun w h => List.mem_cons_of_mem _ (jnGB_X12 w h)) tyX12 tyX12_ok nmX12 hown hK hP hD hS 0 rfl rfl 1 (by decide) (hts _ (List.mem_cons_of_mem _ mGB_104)) (fun _ h9 => h9) rfl (by decide +kernel) rfl rfl (Nat.le_of_ble_eq_true rfl) dX12_runs_60 (fun H locs hP hD hS => ?_)
        have hP : va_P (dC, dI) vwCl [(h0, .inr (12, fsMM (upd (upd (upd mi 1 p1) 37 y_85) 41 y_86) mr)), ((mr 14), .inl (km_must, 25, .inl f_87)), ((mr 15), .inl (km_least, 25, .inl f_88)), ((mr 16), .inl (km_pin, 25, .inl f_89)), ((mr 17), .inl (km_ways, 6875, .inl f_90)), ((mr 18), .inl (km_verdict, 24, .inl f_91)), ((mr 19), .inl (km_row, 24, .inl f_92)), ((mr 4), .inl (km_struck, 24, .inl fm_struck)), ((mr 7), .inl (km_reportKnown, 24, .inl fm_reportKnown)), ((mr 2), .inl (km_reportPlace, 24, .inl fm_reportPlace)), ((mr 5), .inl (km_reportMonth, 24, .inl fm_reportMonth)), ((mr 6), .inl (km_reportDay, 24, .inl fm_reportDay)), ((mr 3), .inl (km_reportKind, 24, .inl fm_reportKind)), ((mr 0), .inl (km_trust, 6, .inl fm_trust)), ((mr 1), .inl (km_letter, 36, .inl fm_letter))] H := hP
        have hD : va_D A [(h0, .inr (12, fsMM (upd (upd (upd mi 1 p1) 37 y_85) 41 y_86) mr)), ((mr 14), .inl (km_must, 25, .inl f_87)), ((mr 15), .inl (km_least, 25, .inl f_88)), ((mr 16), .inl (km_pin, 25, .inl f_89)), ((mr 17), .inl (km_ways, 6875, .inl f_90)), ((mr 18), .inl (km_verdict, 24, .inl f_91)), ((mr 19), .inl (km_row, 24, .inl f_92)), ((mr 4), .inl (km_struck, 24, .inl fm_struck)), ((mr 7), .inl (km_reportKnown, 24, .inl fm_reportKnown)), ((mr 2), .inl (km_reportPlace, 24, .inl fm_reportPlace)), ((mr 5), .inl (km_reportMonth, 24, .inl fm_reportMonth)), ((mr 6), .inl (km_reportDay, 24, .inl fm_reportDay)), ((mr 3), .inl (km_reportKind, 24, .inl fm_reportKind)), ((mr 0), .inl (km_trust, 6, .inl fm_trust)), ((mr 1), .inl (km_letter, 36, .inl fm_letter))] := hD
        refine lv_aload_n hx hb dX12_runs_63 rfl (lv_at hl 3 rfl) ?_
        refine lv_iload_n hx hb dX12_runs_64 rfl (lv_at hl 5 rfl) ?_
        refine va_put (D := (dC, dI)) (ci := 12) (v := .int p2) (ty := .int) (C := RX12) (T := TX12) (N := 57) hx hb hts (fun w h => List.mem_cons_of_mem _ (jnGB_X12 w h)) tyX12 tyX12_ok nmX12 hown hK hP hD hS 0 rfl rfl 2 (by decide) (hts _ (List.mem_cons_of_mem _ mGB_105)) (fun _ h9 => h9) rfl (by decide +kernel) rfl rfl (Nat.le_of_ble_eq_true rfl) dX12_runs_65 (fun H locs hP hD hS => ?_)
        have hP : va_P (dC, dI) vwCl [(h0, .inr (12, fsMM (upd (upd (upd (upd mi 1 p1) 2 p2) 37 y_85) 41 y_86) mr)), ((mr 14), .inl (km_must, 25, .inl f_87)), ((mr 15), .inl (km_least, 25, .inl f_88)), ((mr 16), .inl (km_pin, 25, .inl f_89)), ((mr 17), .inl (km_ways, 6875, .inl f_90)), ((mr 18), .inl (km_verdict, 24, .inl f_91)), ((mr 19), .inl (km_row, 24, .inl f_92)), ((mr 4), .inl (km_struck, 24, .inl fm_struck)), ((mr 7), .inl (km_reportKnown, 24, .inl fm_reportKnown)), ((mr 2), .inl (km_reportPlace, 24, .inl fm_reportPlace)), ((mr 5), .inl (km_reportMonth, 24, .inl fm_reportMonth)), ((mr 6), .inl (km_reportDay, 24, .inl fm_reportDay)), ((mr 3), .inl (km_reportKind, 24, .inl fm_reportKind)), ((mr 0), .inl (km_trust, 6, .inl fm_trust)), ((mr 1), .inl (km_letter, 36, .inl fm_letter))] H := hP
        have hD : va_D A [(h0, .inr (12, fsMM (upd (upd (upd (upd mi 1 p1) 2 p2) 37 y_85) 41 y_86) mr)), ((mr 14), .inl (km_must, 25, .inl f_87)), ((mr 15), .inl (km_least, 25, .inl f_88)), ((mr 16), .inl (km_pin, 25, .inl f_89)), ((mr 17), .inl (km_ways, 6875, .inl f_90)), ((mr 18), .inl (km_verdict, 24, .inl f_91)), ((mr 19), .inl (km_row, 24, .inl f_92)), ((mr 4), .inl (km_struck, 24, .inl fm_struck)), ((mr 7), .inl (km_reportKnown, 24, .inl fm_reportKnown)), ((mr 2), .inl (km_reportPlace, 24, .inl fm_reportPlace)), ((mr 5), .inl (km_reportMonth, 24, .inl fm_reportMonth)), ((mr 6), .inl (km_reportDay, 24, .inl fm_reportDay)), ((mr 3), .inl (km_reportKind, 24, .inl fm_reportKind)), ((mr 0), .inl (km_trust, 6, .inl fm_trust)), ((mr 1), .inl (km_letter, 36, .inl fm_letter))] := hD
        refine lv_aload_n hx hb dX12_runs_68 rfl (lv_at hl 3 rfl) ?_
        refine lv_sipush (v := 999) hx hb dX12_runs_69 (by decide) ?_
        have hPc := hP.sub (ws' := [(h0, .inr (12, fsMM (upd (upd (upd (upd mi 1 p1) 2 p2) 37 y_85) 41 y_86) mr)), ((mr 14), .inl (km_must, 25, .inl f_87)), ((mr 15), .inl (km_least, 25, .inl f_88)), ((mr 16), .inl (km_pin, 25, .inl f_89)), ((mr 17), .inl (km_ways, 6875, .inl f_90)), ((mr 18), .inl (km_verdict, 24, .inl f_91)), ((mr 19), .inl (km_row, 24, .inl f_92)), ((mr 4), .inl (km_struck, 24, .inl fm_struck)), ((mr 7), .inl (km_reportKnown, 24, .inl fm_reportKnown)), ((mr 2), .inl (km_reportPlace, 24, .inl fm_reportPlace)), ((mr 5), .inl (km_reportMonth, 24, .inl fm_reportMonth)), ((mr 6), .inl (km_reportDay, 24, .inl fm_reportDay)), ((mr 3), .inl (km_reportKind, 24, .inl fm_reportKind)), ((mr 0), .inl (km_trust, 6, .inl fm_trust)), ((mr 1), .inl (km_letter, 36, .inl fm_letter))]) [0, 1, 2, 3, 4, 5, 6, 7, 8, 9, 10, 11, 12, 13, 14] rfl
        have hKc := hK.sub (tys' := [(km_must, .int), (km_least, .int), (km_pin, .int), (km_ways, .int), (km_verdict, .int), (km_row, .int), (km_struck, .boolean), (km_reportKnown, .int), (km_reportPlace, .int), (km_reportMonth, .int), (km_reportDay, .int), (km_reportKind, .int), (km_trust, .int), (km_letter, .int)]) [0, 1, 2, 3, 4, 5, 6, 7, 8, 9, 10, 11, 12, 13] rfl
        have hDc := hD.sub (ws' := [(h0, .inr (12, fsMM (upd (upd (upd (upd mi 1 p1) 2 p2) 37 y_85) 41 y_86) mr)), ((mr 14), .inl (km_must, 25, .inl f_87)), ((mr 15), .inl (km_least, 25, .inl f_88)), ((mr 16), .inl (km_pin, 25, .inl f_89)), ((mr 17), .inl (km_ways, 6875, .inl f_90)), ((mr 18), .inl (km_verdict, 24, .inl f_91)), ((mr 19), .inl (km_row, 24, .inl f_92)), ((mr 4), .inl (km_struck, 24, .inl fm_struck)), ((mr 7), .inl (km_reportKnown, 24, .inl fm_reportKnown)), ((mr 2), .inl (km_reportPlace, 24, .inl fm_reportPlace)), ((mr 5), .inl (km_reportMonth, 24, .inl fm_reportMonth)), ((mr 6), .inl (km_reportDay, 24, .inl fm_reportDay)), ((mr 3), .inl (km_reportKind, 24, .inl fm_reportKind)), ((mr 0), .inl (km_trust, 6, .inl fm_trust)), ((mr 1), .inl (km_letter, 36, .inl fm_letter))]) [0, 1, 2, 3, 4, 5, 6, 7, 8, 9, 10, 11, 12, 13, 14] (by decide) rfl
        have hFc := va_free (wc := [(h0, .inr (12, fsMM (upd (upd (upd (upd mi 1 p1) 2 p2) 37 y_85) 41 y_86) mr)), ((mr 14), .inl (km_must, 25, .inl f_87)), ((mr 15), .inl (km_least, 25, .inl f_88)), ((mr 16), .inl (km_pin, 25, .inl f_89)), ((mr 17), .inl (km_ways, 6875, .inl f_90)), ((mr 18), .inl (km_verdict, 24, .inl f_91)), ((mr 19), .inl (km_row, 24, .inl f_92)), ((mr 4), .inl (km_struck, 24, .inl fm_struck)), ((mr 7), .inl (km_reportKnown, 24, .inl fm_reportKnown)), ((mr 2), .inl (km_reportPlace, 24, .inl fm_reportPlace)), ((mr 5), .inl (km_reportMonth, 24, .inl fm_reportMonth)), ((mr 6), .inl (km_reportDay, 24, .inl fm_reportDay)), ((mr 3), .inl (km_reportKind, 24, .inl fm_reportKind)), ((mr 0), .inl (km_trust, 6, .inl fm_trust)), ((mr 1), .inl (km_letter, 36, .inl fm_letter))]) hD hS hA [0, 1, 2, 3, 4, 5, 6, 7, 8, 9, 10, 11, 12, 13, 14] rfl
        refine va_callv (va_runV (As := [.int 999]) (rest := []) ⟨hx, hb, hml, hown, hts⟩ (sX12_judgesAll l dC dI H.size h0 (upd (upd (upd (upd mi 1 p1) 2 p2) 37 y_85) 41 y_86) mr km_must f_87 km_least f_88 km_pin f_89 km_ways f_90 km_verdict f_91 km_row f_92 km_struck fm_struck km_reportKnown fm_reportKnown km_reportPlace fm_reportPlace km_reportMonth fm_reportMonth km_reportDay fm_reportDay km_reportKind fm_reportKind km_trust fm_trust km_letter fm_letter 999 gmi_0 (gi_w g_78 (by decide)) (gi_w g_83 (by decide)) gmi_4 gmi_7 gmi_10 gmi_17 gmi_23 gmi_24 gmi_26 gmi_29 gmi_30 gmi_33 gy_85 gy_86 gmi_50 gmi_51 gmi_56 gf_92 gfm_struck gfm_reportKnown gfm_reportPlace gfm_reportMonth gfm_reportDay) (cwV 1 hts (gz_gV mGB_261 mGB_262 mGB_263 mGB_1 mGB_264 goodGB) rfl rfl rfl (by decide +kernel) ⟨Nat.le_of_ble_eq_true rfl, Nat.le_of_ble_eq_true rfl⟩) ⟨fun a U g mk q => by obtain ⟨q0, q1, qP, qK, qD⟩ := q; exact ⟨q0, q1, qP, va_K.moved (u := U) (U := U.calling g mk a) (Vm.Alike.refl U.vm) qK, qD⟩, va_recv hKc hPc (ci := 12) (q0 := 0) rfl rfl, fun U hU hW => ⟨rfl, by rw [hU], by rw [hU]; exact hPc, va_K.moved hW.alike hKc, hDc.weaken (fun _ _ _ _ => trivial)⟩⟩ rfl rfl hl.1 rfl (lv_room (Nat.le_of_ble_eq_true rfl)) dX12_runs_72 ⟨Nat.zero_le _, Nat.zero_le _⟩) hS (fun q _ h => hFc q h) hFc (fun u t H1 locs ht hvm hw hB hz1 hk1 hS => ?_)
        obtain ⟨y_95, y_96, f_97, f_98, f_99, f_100, f_101, f_102, gy_95, gy_96, gf_102, hP1, hD1⟩ := hB
        rw [ht] at hP1
        obtain ⟨hP, hD⟩ := va_join (wr := []) (w1 := [(h0, .inr (12, fsMM (upd (upd (upd (upd mi 1 p1) 2 p2) 37 y_95) 41 y_96) mr)), ((mr 14), .inl (km_must, 25, .inl f_97)), ((mr 15), .inl (km_least, 25, .inl f_98)), ((mr 16), .inl (km_pin, 25, .inl f_99)), ((mr 17), .inl (km_ways, 6875, .inl f_100)), ((mr 18), .inl (km_verdict, 24, .inl f_101)), ((mr 19), .inl (km_row, 24, .inl f_102)), ((mr 4), .inl (km_struck, 24, .inl fm_struck)), ((mr 7), .inl (km_reportKnown, 24, .inl fm_reportKnown)), ((mr 2), .inl (km_reportPlace, 24, .inl fm_reportPlace)), ((mr 5), .inl (km_reportMonth, 24, .inl fm_reportMonth)), ((mr 6), .inl (km_reportDay, 24, .inl fm_reportDay)), ((mr 3), .inl (km_reportKind, 24, .inl fm_reportKind)), ((mr 0), .inl (km_trust, 6, .inl fm_trust)), ((mr 1), .inl (km_letter, 36, .inl fm_letter))]) hP hD [0, 1, 2, 3, 4, 5, 6, 7, 8, 9, 10, 11, 12, 13, 14] [] rfl rfl (by decide) (by decide) hk1 hFc hP1 hD1
        have hP := hP.sub (ws' := [(h0, .inr (12, fsMM (upd (upd (upd (upd mi 1 p1) 2 p2) 37 y_95) 41 y_96) mr)), ((mr 14), .inl (km_must, 25, .inl f_97)), ((mr 15), .inl (km_least, 25, .inl f_98)), ((mr 16), .inl (km_pin, 25, .inl f_99)), ((mr 17), .inl (km_ways, 6875, .inl f_100)), ((mr 18), .inl (km_verdict, 24, .inl f_101)), ((mr 19), .inl (km_row, 24, .inl f_102)), ((mr 4), .inl (km_struck, 24, .inl fm_struck)), ((mr 7), .inl (km_reportKnown, 24, .inl fm_reportKnown)), ((mr 2), .inl (km_reportPlace, 24, .inl fm_reportPlace)), ((mr 5), .inl (km_reportMonth, 24, .inl fm_reportMonth)), ((mr 6), .inl (km_reportDay, 24, .inl fm_reportDay)), ((mr 3), .inl (km_reportKind, 24, .inl fm_reportKind)), ((mr 0), .inl (km_trust, 6, .inl fm_trust)), ((mr 1), .inl (km_letter, 36, .inl fm_letter))]) [0, 1, 2, 3, 4, 5, 6, 7, 8, 9, 10, 11, 12, 13, 14] rfl
        have hD := hD.sub (ws' := [(h0, .inr (12, fsMM (upd (upd (upd (upd mi 1 p1) 2 p2) 37 y_95) 41 y_96) mr)), ((mr 14), .inl (km_must, 25, .inl f_97)), ((mr 15), .inl (km_least, 25, .inl f_98)), ((mr 16), .inl (km_pin, 25, .inl f_99)), ((mr 17), .inl (km_ways, 6875, .inl f_100)), ((mr 18), .inl (km_verdict, 24, .inl f_101)), ((mr 19), .inl (km_row, 24, .inl f_102)), ((mr 4), .inl (km_struck, 24, .inl fm_struck)), ((mr 7), .inl (km_reportKnown, 24, .inl fm_reportKnown)), ((mr 2), .inl (km_reportPlace, 24, .inl fm_reportPlace)), ((mr 5), .inl (km_reportMonth, 24, .inl fm_reportMonth)), ((mr 6), .inl (km_reportDay, 24, .inl fm_reportDay)), ((mr 3), .inl (km_reportKind, 24, .inl fm_reportKind)), ((mr 0), .inl (km_trust, 6, .inl fm_trust)), ((mr 1), .inl (km_letter, 36, .inl fm_letter))]) [0, 1, 2, 3, 4, 5, 6, 7, 8, 9, 10, 11, 12, 13, 14] (by decide) rfl
        generalize H1 = H at hP hS ⊢
        refine lv_aload_n hx hb dX12_runs_75 rfl (lv_at hl 3 rfl) ?_
        have hPc := hP.sub (ws' := [(h0, .inr (12, fsMM (upd (upd (upd (upd mi 1 p1) 2 p2) 37 y_95) 41 y_96) mr)), ((mr 18), .inl (km_verdict, 24, .inl f_101))]) [0, 5] rfl
        have hKc := hK.sub (tys' := [(km_verdict, .int)]) [4] rfl
        refine va_calli (va_runV (As := []) (rest := []) ⟨hx, hb, hml, hown, hts⟩ (sX12_takenBits l dC dI h0 (upd (upd (upd (upd mi 1 p1) 2 p2) 37 y_95) 41 y_96) mr km_verdict f_101 gmi_0 (gi_w g_78 (by decide)) (gi_w g_83 (by decide)) gmi_4 gmi_7 gmi_10 gmi_17 gmi_23 gmi_24 gmi_26 gmi_29 gmi_30 gmi_33 gy_95 gy_96 gmi_50 gmi_51 gmi_56) (cwV 0 hts (gz_gV mGB_327 mGB_328 mGB_329 mGB_1 mGB_330 goodGB) rfl rfl rfl (by decide +kernel) ⟨Nat.le_of_ble_eq_true rfl, Nat.le_of_ble_eq_true rfl⟩) ⟨fun a U g mk q => by obtain ⟨q0, qP, qK⟩ := q; exact ⟨q0, qP, va_K.moved (u := U) (U := U.calling g mk a) (Vm.Alike.refl U.vm) qK⟩, va_recv hKc hPc (ci := 12) (q0 := 0) rfl rfl, fun U hU hW => ⟨rfl, by rw [hU]; exact hPc, va_K.moved hW.alike hKc⟩⟩ rfl rfl hl.1 rfl (lv_room (Nat.le_of_ble_eq_true rfl)) dX12_runs_76 ⟨Nat.zero_le _, Nat.zero_le _⟩) hS (fun q _ h => h.elim) (fun q h => h.elim) (fun r_103 u t H1 locs ht hvm hw hB hz1 hk1 hS => ?_)
        have hP := gz_keep hP hk1
        generalize H1 = H at hP hS ⊢
        refine lv_iload_n hx hb dX12_runs_79 rfl (lv_at hl 2 rfl) ?_
        refine lv_icmp_ne (tgt := 85) hx hb dX12_runs_80 (by decide) (fun c_104 => ?_) (fun c_104 => ?_)
        · refine lv_aload_n hx hb dX12_runs_85 rfl (lv_at hl 3 rfl) ?_
          refine lv_iload hx hb dX12_runs_86 (lv_at hl 1 rfl) ?_
          refine va_put (D := (dC, dI)) (ci := 12) (v := .int (mi 1)) (ty := .int) (C := RX12) (T := TX12) (N := 57) hx hb hts (fun w h => List.mem_cons_of_mem _ (jnGB_X12 w h)) tyX12 tyX12_ok nmX12 hown hK hP hD hS 0 rfl rfl 1 (by decide) (hts _ (List.mem_cons_of_mem _ mGB_104)) (fun _ h9 => h9) rfl (by decide +kernel) rfl rfl (Nat.le_of_ble_eq_true rfl) dX12_runs_88 (fun H locs hP hD hS => ?_)
          have hP : va_P (dC, dI) vwCl [(h0, .inr (12, fsMM (upd (upd (upd mi 2 p2) 37 y_95) 41 y_96) mr)), ((mr 14), .inl (km_must, 25, .inl f_97)), ((mr 15), .inl (km_least, 25, .inl f_98)), ((mr 16), .inl (km_pin, 25, .inl f_99)), ((mr 17), .inl (km_ways, 6875, .inl f_100)), ((mr 18), .inl (km_verdict, 24, .inl f_101)), ((mr 19), .inl (km_row, 24, .inl f_102)), ((mr 4), .inl (km_struck, 24, .inl fm_struck)), ((mr 7), .inl (km_reportKnown, 24, .inl fm_reportKnown)), ((mr 2), .inl (km_reportPlace, 24, .inl fm_reportPlace)), ((mr 5), .inl (km_reportMonth, 24, .inl fm_reportMonth)), ((mr 6), .inl (km_reportDay, 24, .inl fm_reportDay)), ((mr 3), .inl (km_reportKind, 24, .inl fm_reportKind)), ((mr 0), .inl (km_trust, 6, .inl fm_trust)), ((mr 1), .inl (km_letter, 36, .inl fm_letter))] H := hP
          have hD : va_D A [(h0, .inr (12, fsMM (upd (upd (upd mi 2 p2) 37 y_95) 41 y_96) mr)), ((mr 14), .inl (km_must, 25, .inl f_97)), ((mr 15), .inl (km_least, 25, .inl f_98)), ((mr 16), .inl (km_pin, 25, .inl f_99)), ((mr 17), .inl (km_ways, 6875, .inl f_100)), ((mr 18), .inl (km_verdict, 24, .inl f_101)), ((mr 19), .inl (km_row, 24, .inl f_102)), ((mr 4), .inl (km_struck, 24, .inl fm_struck)), ((mr 7), .inl (km_reportKnown, 24, .inl fm_reportKnown)), ((mr 2), .inl (km_reportPlace, 24, .inl fm_reportPlace)), ((mr 5), .inl (km_reportMonth, 24, .inl fm_reportMonth)), ((mr 6), .inl (km_reportDay, 24, .inl fm_reportDay)), ((mr 3), .inl (km_reportKind, 24, .inl fm_reportKind)), ((mr 0), .inl (km_trust, 6, .inl fm_trust)), ((mr 1), .inl (km_letter, 36, .inl fm_letter))] := hD
          refine lv_aload_n hx hb dX12_runs_91 rfl (lv_at hl 3 rfl) ?_
          refine lv_iload hx hb dX12_runs_92 (lv_at hl 0 rfl) ?_
          refine va_put (D := (dC, dI)) (ci := 12) (v := .int (mi 2)) (ty := .int) (C := RX12) (T := TX12) (N := 57) hx hb hts (fun w h => List.mem_cons_of_mem _ (jnGB_X12 w h)) tyX12 tyX12_ok nmX12 hown hK hP hD hS 0 rfl rfl 2 (by decide) (hts _ (List.mem_cons_of_mem _ mGB_105)) (fun _ h9 => h9) rfl (by decide +kernel) rfl rfl (Nat.le_of_ble_eq_true rfl) dX12_runs_94 (fun H locs hP hD hS => ?_)
          have hP : va_P (dC, dI) vwCl [(h0, .inr (12, fsMM (upd (upd mi 37 y_95) 41 y_96) mr)), ((mr 14), .inl (km_must, 25, .inl f_97)), ((mr 15), .inl (km_least, 25, .inl f_98)), ((mr 16), .inl (km_pin, 25, .inl f_99)), ((mr 17), .inl (km_ways, 6875, .inl f_100)), ((mr 18), .inl (km_verdict, 24, .inl f_101)), ((mr 19), .inl (km_row, 24, .inl f_102)), ((mr 4), .inl (km_struck, 24, .inl fm_struck)), ((mr 7), .inl (km_reportKnown, 24, .inl fm_reportKnown)), ((mr 2), .inl (km_reportPlace, 24, .inl fm_reportPlace)), ((mr 5), .inl (km_reportMonth, 24, .inl fm_reportMonth)), ((mr 6), .inl (km_reportDay, 24, .inl fm_reportDay)), ((mr 3), .inl (km_reportKind, 24, .inl fm_reportKind)), ((mr 0), .inl (km_trust, 6, .inl fm_trust)), ((mr 1), .inl (km_letter, 36, .inl fm_letter))] H := hP
          have hD : va_D A [(h0, .inr (12, fsMM (upd (upd mi 37 y_95) 41 y_96) mr)), ((mr 14), .inl (km_must, 25, .inl f_97)), ((mr 15), .inl (km_least, 25, .inl f_98)), ((mr 16), .inl (km_pin, 25, .inl f_99)), ((mr 17), .inl (km_ways, 6875, .inl f_100)), ((mr 18), .inl (km_verdict, 24, .inl f_101)), ((mr 19), .inl (km_row, 24, .inl f_102)), ((mr 4), .inl (km_struck, 24, .inl fm_struck)), ((mr 7), .inl (km_reportKnown, 24, .inl fm_reportKnown)), ((mr 2), .inl (km_reportPlace, 24, .inl fm_reportPlace)), ((mr 5), .inl (km_reportMonth, 24, .inl fm_reportMonth)), ((mr 6), .inl (km_reportDay, 24, .inl fm_reportDay)), ((mr 3), .inl (km_reportKind, 24, .inl fm_reportKind)), ((mr 0), .inl (km_trust, 6, .inl fm_trust)), ((mr 1), .inl (km_letter, 36, .inl fm_letter))] := hD
          refine lv_bipush (v := (-5)) hx hb dX12_runs_97 (by decide) ?_
          exact W.iret (v := (-5)) hx hb hr (fun t ht hW => ⟨⟨(-5), (), rfl, (gi_w (gi_c (-5) (-5) (by decide)) (by decide)), (mi 1), (mi 2), y_95, y_96, f_97, f_98, f_99, f_100, f_101, f_102, gmi_1, gmi_2, gy_95, gy_96, gf_102, by rw [ht]; exact hP, hD⟩, hS.F ht⟩) hS.2.2 dX12_runs_99
        · refine lv_iconst (v := 0) hx hb dX12_runs_83 (by decide) ?_
          exact W.iret (v := 0) hx hb hr (fun t ht hW => ⟨⟨0, (), rfl, (gi_w (gi_c 0 0 (by decide)) (by decide)), p1, p2, y_95, y_96, f_97, f_98, f_99, f_100, f_101, f_102, (gi_w g_78 (by decide)), (gi_w g_83 (by decide)), gy_95, gy_96, gf_102, by rw [ht]; exact hP, hD⟩, hS.F ht⟩) hS.2.2 dX12_runs_84
      · have g_105 : gi r_80 0 0 := gi_eq c_81 (gi_c 0 0 (by decide))
        refine lv_bipush (v := (-2)) hx hb dX12_runs_31 (by decide) ?_
        exact W.iret (v := (-2)) hx hb hr (fun t ht hW => ⟨⟨(-2), (), rfl, (gi_w (gi_c (-2) (-2) (by decide)) (by decide)), (mi 1), (mi 2), (mi 37), (mi 41), fm_must, fm_least, fm_pin, fm_ways, fm_verdict, fm_row, gmi_1, gmi_2, gmi_37, gmi_41, gfm_row, by rw [ht]; exact hP, hD⟩, hS.F ht⟩) hS.2.2 dX12_runs_33
theorem dX12_monthOf_0 : decode cX12_monthOf 0 = .ok (.aload_n 0, 1) := by decide +kernel
theorem dX12_monthOf_1 : decode cX12_monthOf 1 = .ok (.getfield 44, 3) := by decide +kernel
theorem dX12_monthOf_4 : decode cX12_monthOf 4 = .ok (.iload_n 1, 1) := by decide +kernel
theorem dX12_monthOf_5 : decode cX12_monthOf 5 = .ok (.iaload, 1) := by decide +kernel
theorem dX12_monthOf_6 : decode cX12_monthOf 6 = .ok (.ifCond .ne 19, 3) := by decide +kernel
theorem dX12_monthOf_9 : decode cX12_monthOf 9 = .ok (.aload_n 0, 1) := by decide +kernel
theorem dX12_monthOf_10 : decode cX12_monthOf 10 = .ok (.getfield 35, 3) := by decide +kernel
theorem dX12_monthOf_13 : decode cX12_monthOf 13 = .ok (.iload_n 1, 1) := by decide +kernel
theorem dX12_monthOf_14 : decode cX12_monthOf 14 = .ok (.iaload, 1) := by decide +kernel
theorem dX12_monthOf_15 : decode cX12_monthOf 15 = .ok (.aload_n 0, 1) := by decide +kernel
theorem dX12_monthOf_16 : decode cX12_monthOf 16 = .ok (.getfield 41, 3) := by decide +kernel
theorem dX12_monthOf_19 : decode cX12_monthOf 19 = .ok (.iload_n 1, 1) := by decide +kernel
theorem dX12_monthOf_20 : decode cX12_monthOf 20 = .ok (.iaload, 1) := by decide +kernel
theorem dX12_monthOf_21 : decode cX12_monthOf 21 = .ok (.iadd, 1) := by decide +kernel
theorem dX12_monthOf_22 : decode cX12_monthOf 22 = .ok (.goto 9, 3) := by decide +kernel
theorem dX12_monthOf_25 : decode cX12_monthOf 25 = .ok (.aload_n 0, 1) := by decide +kernel
theorem dX12_monthOf_26 : decode cX12_monthOf 26 = .ok (.getfield 35, 3) := by decide +kernel
theorem dX12_monthOf_29 : decode cX12_monthOf 29 = .ok (.iload_n 1, 1) := by decide +kernel
theorem dX12_monthOf_30 : decode cX12_monthOf 30 = .ok (.iaload, 1) := by decide +kernel
theorem dX12_monthOf_31 : decode cX12_monthOf 31 = .ok (.ireturn, 1) := by decide +kernel
set_option maxHeartbeats 4000000 in
set_option maxRecDepth 100000 in
theorem sX12_monthOf (l : Launch) (dC : Nat → ClassId) (dI : Nat → Nat → Nat) (h0 : Nat) (mi : Nat → Int32) (mr : Nat → Nat) (km_deedMonth : ClassId) (fm_deedMonth : Nat → Int32) (km_deedLong : ClassId) (fm_deedLong : Nat → Int32) (km_deedKind : ClassId) (fm_deedKind : Nat → Int32) (p1 : Int32) (gmi_0 : gi (mi 0) 0 24) (gmi_1 : gi (mi 1) 0 5) (gmi_2 : gi (mi 2) 0 5) (gmi_4 : gi (mi 4) 0 1) (gmi_7 : gi (mi 7) 0 6) (gmi_10 : gi (mi 10) 0 24) (gmi_17 : gi (mi 17) 0 8) (gmi_23 : gi (mi 23) 0 300) (gmi_24 : gi (mi 24) 0 1) (gmi_26 : gi (mi 26) 0 1600) (gmi_29 : gi (mi 29) 0 1600) (gmi_30 : gi (mi 30) 0 1600) (gmi_33 : gi (mi 33) 0 1) (gmi_37 : gi (mi 37) 0 1) (gmi_41 : gi (mi 41) 0 24) (gmi_50 : gi (mi 50) 0 1) (gmi_51 : gi (mi 51) 0 1) (gmi_56 : gi (mi 56) 0 80) (gfm_deedMonth : ga fm_deedMonth 8 0 23) (gfm_deedLong : ga fm_deedLong 8 0 600) (gp1 : gi p1 0 7) (hdd : ∀ j : Nat, j < 8 → ((fm_deedKind j).toInt ≠ 0 ∨ (fm_deedMonth j).toInt + (fm_deedLong j).toInt ≤ 23)) : Met l yX12_monthOf (.code yX12_monthOf cX12_monthOf 2 (some .int) :: wsGB) ({ frames := 0, cells := 0, slots := 0, locals := 0 }) (va_Pc [.ref h0, .int p1] (fun U => va_P (dC, dI) vwCl [(h0, .inr (12, fsMM mi mr)), ((mr 8), .inl (km_deedMonth, 8, .inl fm_deedMonth)), ((mr 10), .inl (km_deedLong, 8, .inl fm_deedLong)), ((mr 11), .inl (km_deedKind, 8, .inl fm_deedKind))] U.heap ∧ va_K (dC, dI) vwCl [(km_deedMonth, .int), (km_deedLong, .int), (km_deedKind, .int)] U)) (va_Qi (fun (r : Int32) (u : Unit) => gi r 0 23) (fun _ _ => True) (fun _ => False)) 0 0 (fun _ => False) := by
  refine Met.ofW (cc := cX12_monthOf) (maxL := 2) (ret := (some .int)) (by decide) rfl ?_
  intro p e s m args below meth c s₁ B hml hv
  obtain ⟨rfl, hP, hK⟩ := hv
  have hx := B.exec
  have hb := B.bytes
  have hr := B.returns
  have hts := atoms_spec (ws := (.code yX12_monthOf cX12_monthOf 2 (some .int) :: wsGB)) B.pre
  have hown : s.vm.findClass RX12 = some m.cls := findClass_of_methodNamed B.named
  have hlocks := B.notSynchronized
  have hS : va_S (fun _ => False) s.heap s.heap [] := va_S.rf
  have hl := lv_entry ([.ref h0, .int p1]) (n := 2) (Nat.le_of_ble_eq_true rfl)
  rw [lg_entry_eq]
  generalize (lg_sl ([.ref h0, .int p1]) ++ List.replicate (2 - (lg_sl ([.ref h0, .int p1])).length) Slot.unset).toArray = ls at hl ⊢
  have hl : lv_has ls 2 [(0, .ref h0), (1, .int p1)] := hl
  refine lv_aload_n hx hb dX12_monthOf_0 rfl (lv_at hl 0 rfl) ?_
  refine va_get (D := (dC, dI)) (ci := 12) (v := .ref (mr 11)) (C := RX12) (T := TX12) (N := 57) hx hb hts (fun w h => List.mem_cons_of_mem _ (jnGB_X12 w h)) hown hK hP 0 rfl rfl 21 (by decide) (hts _ (List.mem_cons_of_mem _ mGB_22)) (fun _ h9 => h9) rfl dX12_monthOf_1 ?_
  refine lv_iload_n hx hb dX12_monthOf_4 rfl (lv_at hl 1 rfl) ?_
  refine va_iald hx hb hK hP 3 2 rfl rfl (gi_in gp1 (by decide)) dX12_monthOf_5 ?_
  refine lv_topi (fun x_9 ex_9 => ?_)
  refine lv_if_ne (tgt := 25) hx hb dX12_monthOf_6 (by decide) (fun c_10 => ?_) (fun c_10 => ?_)
  · refine lv_aload_n hx hb dX12_monthOf_25 rfl (lv_at hl 0 rfl) ?_
    refine va_get (D := (dC, dI)) (ci := 12) (v := .ref (mr 8)) (C := RX12) (T := TX12) (N := 57) hx hb hts (fun w h => List.mem_cons_of_mem _ (jnGB_X12 w h)) hown hK hP 0 rfl rfl 18 (by decide) (hts _ (List.mem_cons_of_mem _ mGB_19)) (fun _ h9 => h9) rfl dX12_monthOf_26 ?_
    refine lv_iload_n hx hb dX12_monthOf_29 rfl (lv_at hl 1 rfl) ?_
    refine va_iald hx hb hK hP 1 0 rfl rfl (gi_in gp1 (by decide)) dX12_monthOf_30 ?_
    refine lv_topi (fun x_11 ex_11 => ?_)
    have gx_11 : gi x_11 0 23 := ga_at gfm_deedMonth (gi_in gp1 (by decide)) ex_11
    exact W.iret (v := x_11) hx hb hr (fun t ht hW => ⟨⟨x_11, (), rfl, gx_11, trivial⟩, hS.F ht⟩) hS.2.2 dX12_monthOf_31
  · have g_12 : gi x_9 0 0 := gi_eq c_10 (gi_c 0 0 (by decide))
    refine lv_aload_n hx hb dX12_monthOf_9 rfl (lv_at hl 0 rfl) ?_
    refine va_get (D := (dC, dI)) (ci := 12) (v := .ref (mr 8)) (C := RX12) (T := TX12) (N := 57) hx hb hts (fun w h => List.mem_cons_of_mem _ (jnGB_X12 w h)) hown hK hP 0 rfl rfl 18 (by decide) (hts _ (List.mem_cons_of_mem _ mGB_19)) (fun _ h9 => h9) rfl dX12_monthOf_10 ?_
    refine lv_iload_n hx hb dX12_monthOf_13 rfl (lv_at hl 1 rfl) ?_
    refine va_iald hx hb hK hP 1 0 rfl rfl (gi_in gp1 (by decide)) dX12_monthOf_14 ?_
    refine lv_topi (fun x_13 ex_13 => ?_)
    have gx_13 : gi x_13 0 23 := ga_at gfm_deedMonth (gi_in gp1 (by decide)) ex_13
    refine lv_aload_n hx hb dX12_monthOf_15 rfl (lv_at hl 0 rfl) ?_
    refine va_get (D := (dC, dI)) (ci := 12) (v := .ref (mr 10)) (C := RX12) (T := TX12) (N := 57) hx hb hts (fun w h => List.mem_cons_of_mem _ (jnGB_X12 w h)) hown hK hP 0 rfl rfl 20 (by decide) (hts _ (List.mem_cons_of_mem _ mGB_21)) (fun _ h9 => h9) rfl dX12_monthOf_16 ?_
    refine lv_iload_n hx hb dX12_monthOf_19 rfl (lv_at hl 1 rfl) ?_
    refine va_iald hx hb hK hP 2 1 rfl rfl (gi_in gp1 (by decide)) dX12_monthOf_20 ?_
    refine lv_topi (fun x_14 ex_14 => ?_)
    have gx_14 : gi x_14 0 600 := ga_at gfm_deedLong (gi_in gp1 (by decide)) ex_14
    refine lv_iadd hx hb dX12_monthOf_21 ?_
    refine lv_topi (fun x_15 ex_15 => ?_)
    have gx_15 : gi x_15 0 623 := gi_add ex_15 gx_13 gx_14 (by decide)
    have g_16 : gi x_15 0 23 := gz_deed hdd (gi_in gp1 (by decide)) ex_9 (gz_zero g_12) ex_13 ex_14 ex_15 gx_13 gx_14
    refine lv_goto (tgt := 31) hx hb dX12_monthOf_22 (by decide) ?_
    exact W.iret (v := x_15) hx hb hr (fun t ht hW => ⟨⟨x_15, (), rfl, g_16, trivial⟩, hS.F ht⟩) hS.2.2 dX12_monthOf_31
theorem dX12_behindOf_0 : decode cX12_behindOf 0 = .ok (.aload_n 0, 1) := by decide +kernel
theorem dX12_behindOf_1 : decode cX12_behindOf 1 = .ok (.getfield 44, 3) := by decide +kernel
theorem dX12_behindOf_4 : decode cX12_behindOf 4 = .ok (.iload_n 1, 1) := by decide +kernel
theorem dX12_behindOf_5 : decode cX12_behindOf 5 = .ok (.iaload, 1) := by decide +kernel
theorem dX12_behindOf_6 : decode cX12_behindOf 6 = .ok (.ifCond .ne 7, 3) := by decide +kernel
theorem dX12_behindOf_9 : decode cX12_behindOf 9 = .ok (.iconst 0, 1) := by decide +kernel
theorem dX12_behindOf_10 : decode cX12_behindOf 10 = .ok (.goto 9, 3) := by decide +kernel
theorem dX12_behindOf_13 : decode cX12_behindOf 13 = .ok (.aload_n 0, 1) := by decide +kernel
theorem dX12_behindOf_14 : decode cX12_behindOf 14 = .ok (.getfield 41, 3) := by decide +kernel
theorem dX12_behindOf_17 : decode cX12_behindOf 17 = .ok (.iload_n 1, 1) := by decide +kernel
theorem dX12_behindOf_18 : decode cX12_behindOf 18 = .ok (.iaload, 1) := by decide +kernel
theorem dX12_behindOf_19 : decode cX12_behindOf 19 = .ok (.ireturn, 1) := by decide +kernel
set_option maxHeartbeats 4000000 in
set_option maxRecDepth 100000 in
theorem sX12_behindOf (l : Launch) (dC : Nat → ClassId) (dI : Nat → Nat → Nat) (h0 : Nat) (mi : Nat → Int32) (mr : Nat → Nat) (km_deedMonth : ClassId) (fm_deedMonth : Nat → Int32) (km_deedLong : ClassId) (fm_deedLong : Nat → Int32) (km_deedKind : ClassId) (fm_deedKind : Nat → Int32) (p1 : Int32) (gmi_0 : gi (mi 0) 0 24) (gmi_1 : gi (mi 1) 0 5) (gmi_2 : gi (mi 2) 0 5) (gmi_4 : gi (mi 4) 0 1) (gmi_7 : gi (mi 7) 0 6) (gmi_10 : gi (mi 10) 0 24) (gmi_17 : gi (mi 17) 0 8) (gmi_23 : gi (mi 23) 0 300) (gmi_24 : gi (mi 24) 0 1) (gmi_26 : gi (mi 26) 0 1600) (gmi_29 : gi (mi 29) 0 1600) (gmi_30 : gi (mi 30) 0 1600) (gmi_33 : gi (mi 33) 0 1) (gmi_37 : gi (mi 37) 0 1) (gmi_41 : gi (mi 41) 0 24) (gmi_50 : gi (mi 50) 0 1) (gmi_51 : gi (mi 51) 0 1) (gmi_56 : gi (mi 56) 0 80) (gfm_deedMonth : ga fm_deedMonth 8 0 23) (gfm_deedLong : ga fm_deedLong 8 0 600) (gp1 : gi p1 0 7) : Met l yX12_behindOf (.code yX12_behindOf cX12_behindOf 2 (some .int) :: wsGB) ({ frames := 0, cells := 0, slots := 0, locals := 0 }) (va_Pc [.ref h0, .int p1] (fun U => va_P (dC, dI) vwCl [(h0, .inr (12, fsMM mi mr)), ((mr 8), .inl (km_deedMonth, 8, .inl fm_deedMonth)), ((mr 10), .inl (km_deedLong, 8, .inl fm_deedLong)), ((mr 11), .inl (km_deedKind, 8, .inl fm_deedKind))] U.heap ∧ va_K (dC, dI) vwCl [(km_deedMonth, .int), (km_deedLong, .int), (km_deedKind, .int)] U)) (va_Qi (fun (r : Int32) (u : Unit) => gi r 0 600) (fun _ _ => True) (fun _ => False)) 0 0 (fun _ => False) := by
  refine Met.ofW (cc := cX12_behindOf) (maxL := 2) (ret := (some .int)) (by decide) rfl ?_
  intro p e s m args below meth c s₁ B hml hv
  obtain ⟨rfl, hP, hK⟩ := hv
  have hx := B.exec
  have hb := B.bytes
  have hr := B.returns
  have hts := atoms_spec (ws := (.code yX12_behindOf cX12_behindOf 2 (some .int) :: wsGB)) B.pre
  have hown : s.vm.findClass RX12 = some m.cls := findClass_of_methodNamed B.named
  have hlocks := B.notSynchronized
  have hS : va_S (fun _ => False) s.heap s.heap [] := va_S.rf
  have hl := lv_entry ([.ref h0, .int p1]) (n := 2) (Nat.le_of_ble_eq_true rfl)
  rw [lg_entry_eq]
  generalize (lg_sl ([.ref h0, .int p1]) ++ List.replicate (2 - (lg_sl ([.ref h0, .int p1])).length) Slot.unset).toArray = ls at hl ⊢
  have hl : lv_has ls 2 [(0, .ref h0), (1, .int p1)] := hl
  refine lv_aload_n hx hb dX12_behindOf_0 rfl (lv_at hl 0 rfl) ?_
  refine va_get (D := (dC, dI)) (ci := 12) (v := .ref (mr 11)) (C := RX12) (T := TX12) (N := 57) hx hb hts (fun w h => List.mem_cons_of_mem _ (jnGB_X12 w h)) hown hK hP 0 rfl rfl 21 (by decide) (hts _ (List.mem_cons_of_mem _ mGB_22)) (fun _ h9 => h9) rfl dX12_behindOf_1 ?_
  refine lv_iload_n hx hb dX12_behindOf_4 rfl (lv_at hl 1 rfl) ?_
  refine va_iald hx hb hK hP 3 2 rfl rfl (gi_in gp1 (by decide)) dX12_behindOf_5 ?_
  refine lv_topi (fun x_5 ex_5 => ?_)
  refine lv_if_ne (tgt := 13) hx hb dX12_behindOf_6 (by decide) (fun c_6 => ?_) (fun c_6 => ?_)
  · refine lv_aload_n hx hb dX12_behindOf_13 rfl (lv_at hl 0 rfl) ?_
    refine va_get (D := (dC, dI)) (ci := 12) (v := .ref (mr 10)) (C := RX12) (T := TX12) (N := 57) hx hb hts (fun w h => List.mem_cons_of_mem _ (jnGB_X12 w h)) hown hK hP 0 rfl rfl 20 (by decide) (hts _ (List.mem_cons_of_mem _ mGB_21)) (fun _ h9 => h9) rfl dX12_behindOf_14 ?_
    refine lv_iload_n hx hb dX12_behindOf_17 rfl (lv_at hl 1 rfl) ?_
    refine va_iald hx hb hK hP 2 1 rfl rfl (gi_in gp1 (by decide)) dX12_behindOf_18 ?_
    refine lv_topi (fun x_7 ex_7 => ?_)
    have gx_7 : gi x_7 0 600 := ga_at gfm_deedLong (gi_in gp1 (by decide)) ex_7
    exact W.iret (v := x_7) hx hb hr (fun t ht hW => ⟨⟨x_7, (), rfl, gx_7, trivial⟩, hS.F ht⟩) hS.2.2 dX12_behindOf_19
  · have g_8 : gi x_5 0 0 := gi_eq c_6 (gi_c 0 0 (by decide))
    refine lv_iconst (v := 0) hx hb dX12_behindOf_9 (by decide) ?_
    refine lv_goto (tgt := 19) hx hb dX12_behindOf_10 (by decide) ?_
    exact W.iret (v := 0) hx hb hr (fun t ht hW => ⟨⟨0, (), rfl, (gi_w (gi_c 0 0 (by decide)) (by decide)), trivial⟩, hS.F ht⟩) hS.2.2 dX12_behindOf_19
theorem dX12_dueBy_0 : decode cX12_dueBy 0 = .ok (.aload_n 0, 1) := by decide +kernel
theorem dX12_dueBy_1 : decode cX12_dueBy 1 = .ok (.aload_n 0, 1) := by decide +kernel
theorem dX12_dueBy_2 : decode cX12_dueBy 2 = .ok (.iload_n 1, 1) := by decide +kernel
theorem dX12_dueBy_3 : decode cX12_dueBy 3 = .ok (.invokevirtual 438, 3) := by decide +kernel
theorem dX12_dueBy_6 : decode cX12_dueBy 6 = .ok (.aload_n 0, 1) := by decide +kernel
theorem dX12_dueBy_7 : decode cX12_dueBy 7 = .ok (.getfield 38, 3) := by decide +kernel
theorem dX12_dueBy_10 : decode cX12_dueBy 10 = .ok (.iload_n 1, 1) := by decide +kernel
theorem dX12_dueBy_11 : decode cX12_dueBy 11 = .ok (.iaload, 1) := by decide +kernel
theorem dX12_dueBy_12 : decode cX12_dueBy 12 = .ok (.invokevirtual 412, 3) := by decide +kernel
theorem dX12_dueBy_15 : decode cX12_dueBy 15 = .ok (.aload_n 0, 1) := by decide +kernel
theorem dX12_dueBy_16 : decode cX12_dueBy 16 = .ok (.iload_n 1, 1) := by decide +kernel
theorem dX12_dueBy_17 : decode cX12_dueBy 17 = .ok (.invokevirtual 441, 3) := by decide +kernel
theorem dX12_dueBy_20 : decode cX12_dueBy 20 = .ok (.iadd, 1) := by decide +kernel
theorem dX12_dueBy_21 : decode cX12_dueBy 21 = .ok (.ireturn, 1) := by decide +kernel
set_option maxHeartbeats 4000000 in
set_option maxRecDepth 100000 in
theorem sX12_dueBy (l : Launch) (dC : Nat → ClassId) (dI : Nat → Nat → Nat) (h0 : Nat) (mi : Nat → Int32) (mr : Nat → Nat) (km_deedMonth : ClassId) (fm_deedMonth : Nat → Int32) (km_deedLong : ClassId) (fm_deedLong : Nat → Int32) (km_deedKind : ClassId) (fm_deedKind : Nat → Int32) (km_deedDay : ClassId) (fm_deedDay : Nat → Int32) (km_official : ClassId) (fm_official : Nat → Int32) (p1 : Int32) (gmi_0 : gi (mi 0) 0 24) (gmi_1 : gi (mi 1) 0 5) (gmi_2 : gi (mi 2) 0 5) (gmi_4 : gi (mi 4) 0 1) (gmi_7 : gi (mi 7) 0 6) (gmi_10 : gi (mi 10) 0 24) (gmi_17 : gi (mi 17) 0 8) (gmi_23 : gi (mi 23) 0 300) (gmi_24 : gi (mi 24) 0 1) (gmi_26 : gi (mi 26) 0 1600) (gmi_29 : gi (mi 29) 0 1600) (gmi_30 : gi (mi 30) 0 1600) (gmi_33 : gi (mi 33) 0 1) (gmi_37 : gi (mi 37) 0 1) (gmi_41 : gi (mi 41) 0 24) (gmi_50 : gi (mi 50) 0 1) (gmi_51 : gi (mi 51) 0 1) (gmi_56 : gi (mi 56) 0 80) (gfm_deedMonth : ga fm_deedMonth 8 0 23) (gfm_deedLong : ga fm_deedLong 8 0 600) (gp1 : gi p1 0 7) (hdd : ∀ j : Nat, j < 8 → ((fm_deedKind j).toInt ≠ 0 ∨ (fm_deedMonth j).toInt + (fm_deedLong j).toInt ≤ 23)) : Met l yX12_dueBy (.code yX12_dueBy cX12_dueBy 2 (some .int) :: wsGB) ({ frames := 2, cells := 0, slots := 0, locals := 43 }) (va_Pc [.ref h0, .int p1] (fun U => va_P (dC, dI) vwCl [(h0, .inr (12, fsMM mi mr)), ((mr 8), .inl (km_deedMonth, 8, .inl fm_deedMonth)), ((mr 10), .inl (km_deedLong, 8, .inl fm_deedLong)), ((mr 11), .inl (km_deedKind, 8, .inl fm_deedKind)), ((mr 9), .inl (km_deedDay, 8, .inl fm_deedDay)), ((mr 20), .inl (km_official, 25, .inl fm_official))] U.heap ∧ va_K (dC, dI) vwCl [(km_deedMonth, .int), (km_deedLong, .int), (km_deedKind, .int), (km_deedDay, .int), (km_official, .int)] U)) (va_Qi (fun (r : Int32) (u : Unit) => gi r (-2147483648) 2147483647) (fun _ _ => True) (fun _ => False)) 0 0 (fun _ => False) := by
  refine Met.ofW (cc := cX12_dueBy) (maxL := 2) (ret := (some .int)) (by decide) rfl ?_
  intro p e s m args below meth c s₁ B hml hv
  obtain ⟨rfl, hP, hK⟩ := hv
  have hx := B.exec
  have hb := B.bytes
  have hr := B.returns
  have hts := atoms_spec (ws := (.code yX12_dueBy cX12_dueBy 2 (some .int) :: wsGB)) B.pre
  have hown : s.vm.findClass RX12 = some m.cls := findClass_of_methodNamed B.named
  have hlocks := B.notSynchronized
  have hS : va_S (fun _ => False) s.heap s.heap [] := va_S.rf
  have hl := lv_entry ([.ref h0, .int p1]) (n := 2) (Nat.le_of_ble_eq_true rfl)
  rw [lg_entry_eq]
  generalize (lg_sl ([.ref h0, .int p1]) ++ List.replicate (2 - (lg_sl ([.ref h0, .int p1])).length) Slot.unset).toArray = ls at hl ⊢
  have hl : lv_has ls 2 [(0, .ref h0), (1, .int p1)] := hl
  refine lv_aload_n hx hb dX12_dueBy_0 rfl (lv_at hl 0 rfl) ?_
  refine lv_aload_n hx hb dX12_dueBy_1 rfl (lv_at hl 0 rfl) ?_
  refine lv_iload_n hx hb dX12_dueBy_2 rfl (lv_at hl 1 rfl) ?_
  have hPc := hP.sub (ws' := [(h0, .inr (12, fsMM mi mr)), ((mr 8), .inl (km_deedMonth, 8, .inl fm_deedMonth)), ((mr 10), .inl (km_deedLong, 8, .inl fm_deedLong)), ((mr 11), .inl (km_deedKind, 8, .inl fm_deedKind))]) [0, 1, 2, 3] rfl
  have hKc := hK.sub (tys' := [(km_deedMonth, .int), (km_deedLong, .int), (km_deedKind, .int)]) [0, 1, 2] rfl
  refine va_calli (va_runV (As := [.int p1]) (rest := [.ref h0]) ⟨hx, hb, hml, hown, hts⟩ (sX12_monthOf l dC dI h0 mi mr km_deedMonth fm_deedMonth km_deedLong fm_deedLong km_deedKind fm_deedKind p1 gmi_0 gmi_1 gmi_2 gmi_4 gmi_7 gmi_10 gmi_17 gmi_23 gmi_24 gmi_26 gmi_29 gmi_30 gmi_33 gmi_37 gmi_41 gmi_50 gmi_51 gmi_56 gfm_deedMonth gfm_deedLong gp1 hdd) (cwV 1 hts (gz_gV mGB_459 mGB_460 mGB_461 mGB_1 mGB_462 goodGB) rfl rfl rfl (by decide +kernel) ⟨Nat.le_of_ble_eq_true rfl, Nat.le_of_ble_eq_true rfl⟩) ⟨fun a U g mk q => by obtain ⟨q0, qP, qK⟩ := q; exact ⟨q0, qP, va_K.moved (u := U) (U := U.calling g mk a) (Vm.Alike.refl U.vm) qK⟩, va_recv hKc hPc (ci := 12) (q0 := 0) rfl rfl, fun U hU hW => ⟨rfl, by rw [hU]; exact hPc, va_K.moved hW.alike hKc⟩⟩ rfl rfl hl.1 rfl (lv_room (Nat.le_of_ble_eq_true rfl)) dX12_dueBy_3 ⟨Nat.zero_le _, Nat.zero_le _⟩) hS (fun q _ h => h.elim) (fun q h => h.elim) (fun r_6 u t H1 locs ht hvm hw hB hz1 hk1 hS => ?_)
  have hP := gz_keep hP hk1
  generalize H1 = H at hP hS ⊢
  have gr_6 : gi r_6 0 23 := hw
  refine lv_aload_n hx hb dX12_dueBy_6 rfl (lv_at hl 0 rfl) ?_
  refine va_get (D := (dC, dI)) (ci := 12) (v := .ref (mr 9)) (C := RX12) (T := TX12) (N := 57) hx hb hts (fun w h => List.mem_cons_of_mem _ (jnGB_X12 w h)) hown hK hP 0 rfl rfl 19 (by decide) (hts _ (List.mem_cons_of_mem _ mGB_20)) (fun _ h9 => h9) rfl dX12_dueBy_7 ?_
  refine lv_iload_n hx hb dX12_dueBy_10 rfl (lv_at hl 1 rfl) ?_
  refine va_iald hx hb hK hP 4 3 rfl rfl (gi_in gp1 (by decide)) dX12_dueBy_11 ?_
  refine lv_topi (fun x_7 ex_7 => ?_)
  have hPc := hP.sub (ws' := [(h0, .inr (12, fsMM mi mr)), ((mr 20), .inl (km_official, 25, .inl fm_official))]) [0, 5] rfl
  have hKc := hK.sub (tys' := [(km_official, .int)]) [4] rfl
  refine va_calli (va_runV (As := [.int r_6, .int x_7]) (rest := []) ⟨hx, hb, hml, hown, hts⟩ (sX12_dayBy l dC dI h0 mi mr km_official fm_official r_6 x_7 gmi_0 gmi_1 gmi_2 gmi_4 gmi_7 gmi_10 gmi_17 gmi_23 gmi_24 gmi_26 gmi_29 gmi_30 gmi_33 gmi_37 gmi_41 gmi_50 gmi_51 gmi_56 gr_6) (cwV 2 hts (gz_gV mGB_419 mGB_420 mGB_421 mGB_1 mGB_422 goodGB) rfl rfl rfl (by decide +kernel) ⟨Nat.le_of_ble_eq_true rfl, Nat.le_of_ble_eq_true rfl⟩) ⟨fun a U g mk q => by obtain ⟨q0, qP, qK⟩ := q; exact ⟨q0, qP, va_K.moved (u := U) (U := U.calling g mk a) (Vm.Alike.refl U.vm) qK⟩, va_recv hKc hPc (ci := 12) (q0 := 0) rfl rfl, fun U hU hW => ⟨rfl, by rw [hU]; exact hPc, va_K.moved hW.alike hKc⟩⟩ rfl rfl hl.1 rfl (lv_room (Nat.le_of_ble_eq_true rfl)) dX12_dueBy_12 ⟨Nat.zero_le _, Nat.zero_le _⟩) hS (fun q _ h => h.elim) (fun q h => h.elim) (fun r_8 u t H1 locs ht hvm hw hB hz1 hk1 hS => ?_)
  have hP := gz_keep hP hk1
  generalize H1 = H at hP hS ⊢
  refine lv_aload_n hx hb dX12_dueBy_15 rfl (lv_at hl 0 rfl) ?_
  refine lv_iload_n hx hb dX12_dueBy_16 rfl (lv_at hl 1 rfl) ?_
  have hPc := hP.sub (ws' := [(h0, .inr (12, fsMM mi mr)), ((mr 8), .inl (km_deedMonth, 8, .inl fm_deedMonth)), ((mr 10), .inl (km_deedLong, 8, .inl fm_deedLong)), ((mr 11), .inl (km_deedKind, 8, .inl fm_deedKind))]) [0, 1, 2, 3] rfl
  have hKc := hK.sub (tys' := [(km_deedMonth, .int), (km_deedLong, .int), (km_deedKind, .int)]) [0, 1, 2] rfl
  refine va_calli (va_runV (As := [.int p1]) (rest := [.int r_8]) ⟨hx, hb, hml, hown, hts⟩ (sX12_behindOf l dC dI h0 mi mr km_deedMonth fm_deedMonth km_deedLong fm_deedLong km_deedKind fm_deedKind p1 gmi_0 gmi_1 gmi_2 gmi_4 gmi_7 gmi_10 gmi_17 gmi_23 gmi_24 gmi_26 gmi_29 gmi_30 gmi_33 gmi_37 gmi_41 gmi_50 gmi_51 gmi_56 gfm_deedMonth gfm_deedLong gp1) (cwV 1 hts (gz_gV mGB_463 mGB_464 mGB_465 mGB_1 mGB_466 goodGB) rfl rfl rfl (by decide +kernel) ⟨Nat.le_of_ble_eq_true rfl, Nat.le_of_ble_eq_true rfl⟩) ⟨fun a U g mk q => by obtain ⟨q0, qP, qK⟩ := q; exact ⟨q0, qP, va_K.moved (u := U) (U := U.calling g mk a) (Vm.Alike.refl U.vm) qK⟩, va_recv hKc hPc (ci := 12) (q0 := 0) rfl rfl, fun U hU hW => ⟨rfl, by rw [hU]; exact hPc, va_K.moved hW.alike hKc⟩⟩ rfl rfl hl.1 rfl (lv_room (Nat.le_of_ble_eq_true rfl)) dX12_dueBy_17 ⟨Nat.zero_le _, Nat.zero_le _⟩) hS (fun q _ h => h.elim) (fun q h => h.elim) (fun r_9 u t H1 locs ht hvm hw hB hz1 hk1 hS => ?_)
  have hP := gz_keep hP hk1
  generalize H1 = H at hP hS ⊢
  have gr_9 : gi r_9 0 600 := hw
  refine lv_iadd hx hb dX12_dueBy_20 ?_
  refine lv_topi (fun x_10 ex_10 => ?_)
  exact W.iret (v := x_10) hx hb hr (fun t ht hW => ⟨⟨x_10, (), rfl, (gi_any x_10), trivial⟩, hS.F ht⟩) hS.2.2 dX12_dueBy_21
theorem dX12_due_0 : decode cX12_due 0 = .ok (.aload_n 0, 1) := by decide +kernel
theorem dX12_due_1 : decode cX12_due 1 = .ok (.iload_n 1, 1) := by decide +kernel
theorem dX12_due_2 : decode cX12_due 2 = .ok (.invokevirtual 359, 3) := by decide +kernel
theorem dX12_due_5 : decode cX12_due 5 = .ok (.ifCond .eq 11, 3) := by decide +kernel
theorem dX12_due_8 : decode cX12_due 8 = .ok (.aload_n 0, 1) := by decide +kernel
theorem dX12_due_9 : decode cX12_due 9 = .ok (.iload_n 2, 1) := by decide +kernel
theorem dX12_due_10 : decode cX12_due 10 = .ok (.invokevirtual 306, 3) := by decide +kernel
theorem dX12_due_13 : decode cX12_due 13 = .ok (.ifCond .ne 6, 3) := by decide +kernel
theorem dX12_due_16 : decode cX12_due 16 = .ok (.bipush (-2), 2) := by decide +kernel
theorem dX12_due_18 : decode cX12_due 18 = .ok (.ireturn, 1) := by decide +kernel
theorem dX12_due_19 : decode cX12_due 19 = .ok (.aload_n 0, 1) := by decide +kernel
theorem dX12_due_20 : decode cX12_due 20 = .ok (.iload_n 1, 1) := by decide +kernel
theorem dX12_due_21 : decode cX12_due 21 = .ok (.invokevirtual 382, 3) := by decide +kernel
theorem dX12_due_24 : decode cX12_due 24 = .ok (.aload_n 0, 1) := by decide +kernel
theorem dX12_due_25 : decode cX12_due 25 = .ok (.iload_n 2, 1) := by decide +kernel
theorem dX12_due_26 : decode cX12_due 26 = .ok (.invokevirtual 429, 3) := by decide +kernel
theorem dX12_due_29 : decode cX12_due 29 = .ok (.ireturn, 1) := by decide +kernel
set_option maxHeartbeats 4000000 in
set_option maxRecDepth 100000 in
theorem sX12_due (l : Launch) (dC : Nat → ClassId) (dI : Nat → Nat → Nat) (sz : Nat) (h0 : Nat) (mi : Nat → Int32) (mr : Nat → Nat) (km_must : ClassId) (fm_must : Nat → Int32) (km_least : ClassId) (fm_least : Nat → Int32) (km_pin : ClassId) (fm_pin : Nat → Int32) (km_ways : ClassId) (fm_ways : Nat → Int32) (km_verdict : ClassId) (fm_verdict : Nat → Int32) (km_row : ClassId) (fm_row : Nat → Int32) (km_struck : ClassId) (fm_struck : Nat → Int32) (km_reportKnown : ClassId) (fm_reportKnown : Nat → Int32) (km_reportPlace : ClassId) (fm_reportPlace : Nat → Int32) (km_reportMonth : ClassId) (fm_reportMonth : Nat → Int32) (km_reportDay : ClassId) (fm_reportDay : Nat → Int32) (km_reportKind : ClassId) (fm_reportKind : Nat → Int32) (km_trust : ClassId) (fm_trust : Nat → Int32) (km_letter : ClassId) (fm_letter : Nat → Int32) (km_official : ClassId) (fm_official : Nat → Int32) (km_deedMonth : ClassId) (fm_deedMonth : Nat → Int32) (km_deedLong : ClassId) (fm_deedLong : Nat → Int32) (km_deedKind : ClassId) (fm_deedKind : Nat → Int32) (km_deedDay : ClassId) (fm_deedDay : Nat → Int32) (p1 : Int32) (p2 : Int32) (gmi_0 : gi (mi 0) 0 24) (gmi_1 : gi (mi 1) 0 5) (gmi_2 : gi (mi 2) 0 5) (gmi_4 : gi (mi 4) 0 1) (gmi_7 : gi (mi 7) 0 6) (gmi_10 : gi (mi 10) 0 24) (gmi_17 : gi (mi 17) 0 8) (gmi_23 : gi (mi 23) 0 300) (gmi_24 : gi (mi 24) 0 1) (gmi_26 : gi (mi 26) 0 1600) (gmi_29 : gi (mi 29) 0 1600) (gmi_30 : gi (mi 30) 0 1600) (gmi_33 : gi (mi 33) 0 1) (gmi_37 : gi (mi 37) 0 1) (gmi_41 : gi (mi 41) 0 24) (gmi_50 : gi (mi 50) 0 1) (gmi_51 : gi (mi 51) 0 1) (gmi_56 : gi (mi 56) 0 80) (gfm_row : ga fm_row 24 0 23) (gfm_struck : ga fm_struck 24 0 1) (gfm_reportKnown : ga fm_reportKnown 24 0 999) (gfm_reportPlace : ga fm_reportPlace 24 0 5) (gfm_reportMonth : ga fm_reportMonth 24 0 23) (gfm_reportDay : ga fm_reportDay 24 0 999) (gfm_deedMonth : ga fm_deedMonth 8 0 23) (gfm_deedLong : ga fm_deedLong 8 0 600) (hdd : ∀ j : Nat, j < 8 → ((fm_deedKind j).toInt ≠ 0 ∨ (fm_deedMonth j).toInt + (fm_deedLong j).toInt ≤ 23)) : Met l yX12_due (.code yX12_due cX12_due 3 (some .int) :: wsGB) ({ frames := 6, cells := 0, slots := 0, locals := 140 }) (va_Pc [.ref h0, .int p1, .int p2] (fun U => U.heap.size = sz ∧ va_P (dC, dI) vwCl [(h0, .inr (12, fsMM mi mr)), ((mr 14), .inl (km_must, 25, .inl fm_must)), ((mr 15), .inl (km_least, 25, .inl fm_least)), ((mr 16), .inl (km_pin, 25, .inl fm_pin)), ((mr 17), .inl (km_ways, 6875, .inl fm_ways)), ((mr 18), .inl (km_verdict, 24, .inl fm_verdict)), ((mr 19), .inl (km_row, 24, .inl fm_row)), ((mr 4), .inl (km_struck, 24, .inl fm_struck)), ((mr 7), .inl (km_reportKnown, 24, .inl fm_reportKnown)), ((mr 2), .inl (km_reportPlace, 24, .inl fm_reportPlace)), ((mr 5), .inl (km_reportMonth, 24, .inl fm_reportMonth)), ((mr 6), .inl (km_reportDay, 24, .inl fm_reportDay)), ((mr 3), .inl (km_reportKind, 24, .inl fm_reportKind)), ((mr 0), .inl (km_trust, 6, .inl fm_trust)), ((mr 1), .inl (km_letter, 36, .inl fm_letter)), ((mr 20), .inl (km_official, 25, .inl fm_official)), ((mr 8), .inl (km_deedMonth, 8, .inl fm_deedMonth)), ((mr 10), .inl (km_deedLong, 8, .inl fm_deedLong)), ((mr 11), .inl (km_deedKind, 8, .inl fm_deedKind)), ((mr 9), .inl (km_deedDay, 8, .inl fm_deedDay))] U.heap ∧ va_K (dC, dI) vwCl [(km_must, .int), (km_least, .int), (km_pin, .int), (km_ways, .int), (km_verdict, .int), (km_row, .int), (km_struck, .boolean), (km_reportKnown, .int), (km_reportPlace, .int), (km_reportMonth, .int), (km_reportDay, .int), (km_reportKind, .int), (km_trust, .int), (km_letter, .int), (km_official, .int), (km_deedMonth, .int), (km_deedLong, .int), (km_deedKind, .int), (km_deedDay, .int)] U ∧ va_D (fun _ => True) [(h0, .inr (12, fsMM mi mr)), ((mr 14), .inl (km_must, 25, .inl fm_must)), ((mr 15), .inl (km_least, 25, .inl fm_least)), ((mr 16), .inl (km_pin, 25, .inl fm_pin)), ((mr 17), .inl (km_ways, 6875, .inl fm_ways)), ((mr 18), .inl (km_verdict, 24, .inl fm_verdict)), ((mr 19), .inl (km_row, 24, .inl fm_row)), ((mr 4), .inl (km_struck, 24, .inl fm_struck)), ((mr 7), .inl (km_reportKnown, 24, .inl fm_reportKnown)), ((mr 2), .inl (km_reportPlace, 24, .inl fm_reportPlace)), ((mr 5), .inl (km_reportMonth, 24, .inl fm_reportMonth)), ((mr 6), .inl (km_reportDay, 24, .inl fm_reportDay)), ((mr 3), .inl (km_reportKind, 24, .inl fm_reportKind)), ((mr 0), .inl (km_trust, 6, .inl fm_trust)), ((mr 1), .inl (km_letter, 36, .inl fm_letter)), ((mr 20), .inl (km_official, 25, .inl fm_official)), ((mr 8), .inl (km_deedMonth, 8, .inl fm_deedMonth)), ((mr 10), .inl (km_deedLong, 8, .inl fm_deedLong)), ((mr 11), .inl (km_deedKind, 8, .inl fm_deedKind)), ((mr 9), .inl (km_deedDay, 8, .inl fm_deedDay))])) (va_Qi (fun (r : Int32) (u : Unit) => gi r (-2147483648) 2147483647) (fun _ t => ∃ (w0_37 : Int32) (w0_41 : Int32) (z1 : Nat → Int32) (z2 : Nat → Int32) (z3 : Nat → Int32) (z4 : Nat → Int32) (z5 : Nat → Int32) (z6 : Nat → Int32) (z15 : Nat → Int32), gi w0_37 0 1 ∧ gi w0_41 0 24 ∧ ga z6 24 0 23 ∧ va_P (dC, dI) vwCl [(h0, .inr (12, fsMM (upd (upd mi 37 w0_37) 41 w0_41) mr)), ((mr 14), .inl (km_must, 25, .inl z1)), ((mr 15), .inl (km_least, 25, .inl z2)), ((mr 16), .inl (km_pin, 25, .inl z3)), ((mr 17), .inl (km_ways, 6875, .inl z4)), ((mr 18), .inl (km_verdict, 24, .inl z5)), ((mr 19), .inl (km_row, 24, .inl z6)), ((mr 4), .inl (km_struck, 24, .inl fm_struck)), ((mr 7), .inl (km_reportKnown, 24, .inl fm_reportKnown)), ((mr 2), .inl (km_reportPlace, 24, .inl fm_reportPlace)), ((mr 5), .inl (km_reportMonth, 24, .inl fm_reportMonth)), ((mr 6), .inl (km_reportDay, 24, .inl fm_reportDay)), ((mr 3), .inl (km_reportKind, 24, .inl fm_reportKind)), ((mr 0), .inl (km_trust, 6, .inl fm_trust)), ((mr 1), .inl (km_letter, 36, .inl fm_letter)), ((mr 20), .inl (km_official, 25, .inl z15)), ((mr 8), .inl (km_deedMonth, 8, .inl fm_deedMonth)), ((mr 10), .inl (km_deedLong, 8, .inl fm_deedLong)), ((mr 11), .inl (km_deedKind, 8, .inl fm_deedKind)), ((mr 9), .inl (km_deedDay, 8, .inl fm_deedDay))] t.heap ∧ va_D (va_A [(h0, .inr (12, fsMM mi mr)), ((mr 14), .inl (km_must, 25, .inl fm_must)), ((mr 15), .inl (km_least, 25, .inl fm_least)), ((mr 16), .inl (km_pin, 25, .inl fm_pin)), ((mr 17), .inl (km_ways, 6875, .inl fm_ways)), ((mr 18), .inl (km_verdict, 24, .inl fm_verdict)), ((mr 19), .inl (km_row, 24, .inl fm_row)), ((mr 4), .inl (km_struck, 24, .inl fm_struck)), ((mr 7), .inl (km_reportKnown, 24, .inl fm_reportKnown)), ((mr 2), .inl (km_reportPlace, 24, .inl fm_reportPlace)), ((mr 5), .inl (km_reportMonth, 24, .inl fm_reportMonth)), ((mr 6), .inl (km_reportDay, 24, .inl fm_reportDay)), ((mr 3), .inl (km_reportKind, 24, .inl fm_reportKind)), ((mr 0), .inl (km_trust, 6, .inl fm_trust)), ((mr 1), .inl (km_letter, 36, .inl fm_letter)), ((mr 20), .inl (km_official, 25, .inl fm_official)), ((mr 8), .inl (km_deedMonth, 8, .inl fm_deedMonth)), ((mr 10), .inl (km_deedLong, 8, .inl fm_deedLong)), ((mr 11), .inl (km_deedKind, 8, .inl fm_deedKind)), ((mr 9), .inl (km_deedDay, 8, .inl fm_deedDay))] sz) [(h0, .inr (12, fsMM (upd (upd mi 37 w0_37) 41 w0_41) mr)), ((mr 14), .inl (km_must, 25, .inl z1)), ((mr 15), .inl (km_least, 25, .inl z2)), ((mr 16), .inl (km_pin, 25, .inl z3)), ((mr 17), .inl (km_ways, 6875, .inl z4)), ((mr 18), .inl (km_verdict, 24, .inl z5)), ((mr 19), .inl (km_row, 24, .inl z6)), ((mr 4), .inl (km_struck, 24, .inl fm_struck)), ((mr 7), .inl (km_reportKnown, 24, .inl fm_reportKnown)), ((mr 2), .inl (km_reportPlace, 24, .inl fm_reportPlace)), ((mr 5), .inl (km_reportMonth, 24, .inl fm_reportMonth)), ((mr 6), .inl (km_reportDay, 24, .inl fm_reportDay)), ((mr 3), .inl (km_reportKind, 24, .inl fm_reportKind)), ((mr 0), .inl (km_trust, 6, .inl fm_trust)), ((mr 1), .inl (km_letter, 36, .inl fm_letter)), ((mr 20), .inl (km_official, 25, .inl z15)), ((mr 8), .inl (km_deedMonth, 8, .inl fm_deedMonth)), ((mr 10), .inl (km_deedLong, 8, .inl fm_deedLong)), ((mr 11), .inl (km_deedKind, 8, .inl fm_deedKind)), ((mr 9), .inl (km_deedDay, 8, .inl fm_deedDay))]) (va_A [(h0, .inr (12, fsMM mi mr)), ((mr 14), .inl (km_must, 25, .inl fm_must)), ((mr 15), .inl (km_least, 25, .inl fm_least)), ((mr 16), .inl (km_pin, 25, .inl fm_pin)), ((mr 17), .inl (km_ways, 6875, .inl fm_ways)), ((mr 18), .inl (km_verdict, 24, .inl fm_verdict)), ((mr 19), .inl (km_row, 24, .inl fm_row)), ((mr 4), .inl (km_struck, 24, .inl fm_struck)), ((mr 7), .inl (km_reportKnown, 24, .inl fm_reportKnown)), ((mr 2), .inl (km_reportPlace, 24, .inl fm_reportPlace)), ((mr 5), .inl (km_reportMonth, 24, .inl fm_reportMonth)), ((mr 6), .inl (km_reportDay, 24, .inl fm_reportDay)), ((mr 3), .inl (km_reportKind, 24, .inl fm_reportKind)), ((mr 0), .inl (km_trust, 6, .inl fm_trust)), ((mr 1), .inl (km_letter, 36, .inl fm_letter)), ((mr 20), .inl (km_official, 25, .inl fm_official)), ((mr 8), .inl (km_deedMonth, 8, .inl fm_deedMonth)), ((mr 10), .inl (km_deedLong, 8, .inl fm_deedLong)), ((mr 11), .inl (km_deedKind, 8, .inl fm_deedKind)), ((mr 9), .inl (km_deedDay, 8, .inl fm_deedDay))] sz)) 0 0 (va_A [(h0, .inr (12, fsMM mi mr)), ((mr 14), .inl (km_must, 25, .inl fm_must)), ((mr 15), .inl (km_least, 25, .inl fm_least)), ((mr 16), .inl (km_pin, 25, .inl fm_pin)), ((mr 17), .inl (km_ways, 6875, .inl fm_ways)), ((mr 18), .inl (km_verdict, 24, .inl fm_verdict)), ((mr 19), .inl (km_row, 24, .inl fm_row)), ((mr 4), .inl (km_struck, 24, .inl fm_struck)), ((mr 7), .inl (km_reportKnown, 24, .inl fm_reportKnown)), ((mr 2), .inl (km_reportPlace, 24, .inl fm_reportPlace)), ((mr 5), .inl (km_reportMonth, 24, .inl fm_reportMonth)), ((mr 6), .inl (km_reportDay, 24, .inl fm_reportDay)), ((mr 3), .inl (km_reportKind, 24, .inl fm_reportKind)), ((mr 0), .inl (km_trust, 6, .inl fm_trust)), ((mr 1), .inl (km_letter, 36, .inl fm_letter)), ((mr 20), .inl (km_official, 25, .inl fm_official)), ((mr 8), .inl (km_deedMonth, 8, .inl fm_deedMonth)), ((mr 10), .inl (km_deedLong, 8, .inl fm_deedLong)), ((mr 11), .inl (km_deedKind, 8, .inl fm_deedKind)), ((mr 9), .inl (km_deedDay, 8, .inl fm_deedDay))] sz) := by
  refine Met.ofW (cc := cX12_due) (maxL := 3) (ret := (some .int)) (by decide) rfl ?_
  intro p e s m args below meth c s₁ B hml hv
  obtain ⟨rfl, hsz, hP, hK, hD0⟩ := hv
  have hx := B.exec
  have hb := B.bytes
  have hr := B.returns
  have hts := atoms_spec (ws := (.code yX12_due cX12_due 3 (some .int) :: wsGB)) B.pre
  have hown : s.vm.findClass RX12 = some m.cls := findClass_of_methodNamed B.named
  have hlocks := B.notSynchronized
  subst hsz
  have hD := hD0.self (sz := s.heap.size)
  generalize hAe : va_A [(h0, .inr (12, fsMM mi mr)), ((mr 14), .inl (km_must, 25, .inl fm_must)), ((mr 15), .inl (km_least, 25, .inl fm_least)), ((mr 16), .inl (km_pin, 25, .inl fm_pin)), ((mr 17), .inl (km_ways, 6875, .inl fm_ways)), ((mr 18), .inl (km_verdict, 24, .inl fm_verdict)), ((mr 19), .inl (km_row, 24, .inl fm_row)), ((mr 4), .inl (km_struck, 24, .inl fm_struck)), ((mr 7), .inl (km_reportKnown, 24, .inl fm_reportKnown)), ((mr 2), .inl (km_reportPlace, 24, .inl fm_reportPlace)), ((mr 5), .inl (km_reportMonth, 24, .inl fm_reportMonth)), ((mr 6), .inl (km_reportDay, 24, .inl fm_reportDay)), ((mr 3), .inl (km_reportKind, 24, .inl fm_reportKind)), ((mr 0), .inl (km_trust, 6, .inl fm_trust)), ((mr 1), .inl (km_letter, 36, .inl fm_letter)), ((mr 20), .inl (km_official, 25, .inl fm_official)), ((mr 8), .inl (km_deedMonth, 8, .inl fm_deedMonth)), ((mr 10), .inl (km_deedLong, 8, .inl fm_deedLong)), ((mr 11), .inl (km_deedKind, 8, .inl fm_deedKind)), ((mr 9), .inl (km_deedDay, 8, .inl fm_deedDay))] s.heap.size = A at hD ⊢
  have hA : ∀ q : Nat, s.heap.size ≤ q → A q := fun q h => by rw [← hAe]; exact Or.inr h
  have hS : va_S A s.heap s.heap [] := va_S.rf
  have hl := lv_entry ([.ref h0, .int p1, .int p2]) (n := 3) (Nat.le_of_ble_eq_true rfl)
  rw [lg_entry_eq]
  generalize (lg_sl ([.ref h0, .int p1, .int p2]) ++ List.replicate (3 - (lg_sl ([.ref h0, .int p1, .int p2])).length) Slot.unset).toArray = ls at hl ⊢
  have hl : lv_has ls 3 [(0, .ref h0), (1, .int p1), (2, .int p2)] := hl
  refine lv_aload_n hx hb dX12_due_0 rfl (lv_at hl 0 rfl) ?_
  refine lv_iload_n hx hb dX12_due_1 rfl (lv_at hl 1 rfl) ?_
  have hPc := hP.sub (ws' := [(h0, .inr (12, fsMM mi mr))]) [0] rfl
  have hKc := hK.sub (tys' := []) [] rfl
  refine va_calli (va_runV (As := [.int p1]) (rest := []) ⟨hx, hb, hml, hown, hts⟩ (sX12_isTime l dC dI h0 mi mr p1 gmi_0 gmi_1 gmi_2 gmi_4 gmi_7 gmi_10 gmi_17 gmi_23 gmi_24 gmi_26 gmi_29 gmi_30 gmi_33 gmi_37 gmi_41 gmi_50 gmi_51 gmi_56) (cwV 1 hts (gz_gV mGB_256 mGB_257 mGB_258 mGB_1 mGB_259 goodGB) rfl rfl rfl (by decide +kernel) ⟨Nat.le_of_ble_eq_true rfl, Nat.le_of_ble_eq_true rfl⟩) ⟨fun a U g mk q => by obtain ⟨q0, qP, qK⟩ := q; exact ⟨q0, qP, va_K.moved (u := U) (U := U.calling g mk a) (Vm.Alike.refl U.vm) qK⟩, va_recv hKc hPc (ci := 12) (q0 := 0) rfl rfl, fun U hU hW => ⟨rfl, by rw [hU]; exact hPc, va_K.moved hW.alike hKc⟩⟩ rfl rfl hl.1 rfl (lv_room (Nat.le_of_ble_eq_true rfl)) dX12_due_2 ⟨Nat.zero_le _, Nat.zero_le _⟩) hS (fun q _ h => h.elim) (fun q h => h.elim) (fun r_43 u t H1 locs ht hvm hw hB hz1 hk1 hS => ?_)
  have hP := gz_keep hP hk1
  generalize H1 = H at hP hS ⊢
  have gr_43 : gi r_43 0 1 := hw.1
  have hqr_43 := hw.2
  refine lv_if_eq (tgt := 16) hx hb dX12_due_5 (by decide) (fun c_44 => ?_) (fun c_44 => ?_)
  · have g_45 : gi r_43 0 0 := gi_eq c_44 (gi_c 0 0 (by decide))
    refine lv_bipush (v := (-2)) hx hb dX12_due_16 (by decide) ?_
    exact W.iret (v := (-2)) hx hb hr (fun t ht hW => ⟨⟨(-2), (), rfl, (gi_any (-2)), (mi 37), (mi 41), fm_must, fm_least, fm_pin, fm_ways, fm_verdict, fm_row, fm_official, gmi_37, gmi_41, gfm_row, by rw [ht]; exact hP, hD⟩, hS.F ht⟩) hS.2.2 dX12_due_18
  · have g_46 : gi r_43 1 1 := gi_ne_lo c_44 gr_43 (gi_c 0 0 (by decide)) (by decide)
    have g_47 : gi p1 0 999 := gi_cap (gi_any p1) (hqr_43 (gz_one g_46)) (by decide)
    refine lv_aload_n hx hb dX12_due_8 rfl (lv_at hl 0 rfl) ?_
    refine lv_iload_n hx hb dX12_due_9 rfl (lv_at hl 2 rfl) ?_
    have hPc := hP.sub (ws' := [(h0, .inr (12, fsMM mi mr))]) [0] rfl
    have hKc := hK.sub (tys' := []) [] rfl
    refine va_calli (va_runV (As := [.int p2]) (rest := []) ⟨hx, hb, hml, hown, hts⟩ (sX12_isDeed l dC dI h0 mi mr p2 gmi_0 gmi_1 gmi_2 gmi_4 gmi_7 gmi_10 gmi_17 gmi_23 gmi_24 gmi_26 gmi_29 gmi_30 gmi_33 gmi_37 gmi_41 gmi_50 gmi_51 gmi_56) (cwV 1 hts (gz_gV mGB_242 mGB_243 mGB_244 mGB_1 mGB_245 goodGB) rfl rfl rfl (by decide +kernel) ⟨Nat.le_of_ble_eq_true rfl, Nat.le_of_ble_eq_true rfl⟩) ⟨fun a U g mk q => by obtain ⟨q0, qP, qK⟩ := q; exact ⟨q0, qP, va_K.moved (u := U) (U := U.calling g mk a) (Vm.Alike.refl U.vm) qK⟩, va_recv hKc hPc (ci := 12) (q0 := 0) rfl rfl, fun U hU hW => ⟨rfl, by rw [hU]; exact hPc, va_K.moved hW.alike hKc⟩⟩ rfl rfl hl.1 rfl (lv_room (Nat.le_of_ble_eq_true rfl)) dX12_due_10 ⟨Nat.zero_le _, Nat.zero_le _⟩) hS (fun q _ h => h.elim) (fun q h => h.elim) (fun r_48 u t H1 locs ht hvm hw hB hz1 hk1 hS => ?_)
    have hP := gz_keep hP hk1
    generalize H1 = H at hP hS ⊢
    have gr_48 : gi r_48 0 1 := hw.1
    have hqr_48 := hw.2
    refine lv_if_ne (tgt := 19) hx hb dX12_due_13 (by decide) (fun c_49 => ?_) (fun c_49 => ?_)
    · have g_50 : gi r_48 1 1 := gi_ne_lo c_49 gr_48 (gi_c 0 0 (by decide)) (by decide)
      have g_51 : gi p2 0 7 := gi_cap (gi_any p2) (hqr_48 (gz_one g_50)) (by decide)
      refine lv_aload_n hx hb dX12_due_19 rfl (lv_at hl 0 rfl) ?_
      refine lv_iload_n hx hb dX12_due_20 rfl (lv_at hl 1 rfl) ?_
      have hPc := hP.sub (ws' := [(h0, .inr (12, fsMM mi mr)), ((mr 14), .inl (km_must, 25, .inl fm_must)), ((mr 15), .inl (km_least, 25, .inl fm_least)), ((mr 16), .inl (km_pin, 25, .inl fm_pin)), ((mr 17), .inl (km_ways, 6875, .inl fm_ways)), ((mr 18), .inl (km_verdict, 24, .inl fm_verdict)), ((mr 19), .inl (km_row, 24, .inl fm_row)), ((mr 4), .inl (km_struck, 24, .inl fm_struck)), ((mr 7), .inl (km_reportKnown, 24, .inl fm_reportKnown)), ((mr 2), .inl (km_reportPlace, 24, .inl fm_reportPlace)), ((mr 5), .inl (km_reportMonth, 24, .inl fm_reportMonth)), ((mr 6), .inl (km_reportDay, 24, .inl fm_reportDay)), ((mr 3), .inl (km_reportKind, 24, .inl fm_reportKind)), ((mr 0), .inl (km_trust, 6, .inl fm_trust)), ((mr 1), .inl (km_letter, 36, .inl fm_letter)), ((mr 20), .inl (km_official, 25, .inl fm_official))]) [0, 1, 2, 3, 4, 5, 6, 7, 8, 9, 10, 11, 12, 13, 14, 15] rfl
      have hKc := hK.sub (tys' := [(km_must, .int), (km_least, .int), (km_pin, .int), (km_ways, .int), (km_verdict, .int), (km_row, .int), (km_struck, .boolean), (km_reportKnown, .int), (km_reportPlace, .int), (km_reportMonth, .int), (km_reportDay, .int), (km_reportKind, .int), (km_trust, .int), (km_letter, .int), (km_official, .int)]) [0, 1, 2, 3, 4, 5, 6, 7, 8, 9, 10, 11, 12, 13, 14] rfl
      have hDc := hD.sub (ws' := [(h0, .inr (12, fsMM mi mr)), ((mr 14), .inl (km_must, 25, .inl fm_must)), ((mr 15), .inl (km_least, 25, .inl fm_least)), ((mr 16), .inl (km_pin, 25, .inl fm_pin)), ((mr 17), .inl (km_ways, 6875, .inl fm_ways)), ((mr 18), .inl (km_verdict, 24, .inl fm_verdict)), ((mr 19), .inl (km_row, 24, .inl fm_row)), ((mr 4), .inl (km_struck, 24, .inl fm_struck)), ((mr 7), .inl (km_reportKnown, 24, .inl fm_reportKnown)), ((mr 2), .inl (km_reportPlace, 24, .inl fm_reportPlace)), ((mr 5), .inl (km_reportMonth, 24, .inl fm_reportMonth)), ((mr 6), .inl (km_reportDay, 24, .inl fm_reportDay)), ((mr 3), .inl (km_reportKind, 24, .inl fm_reportKind)), ((mr 0), .inl (km_trust, 6, .inl fm_trust)), ((mr 1), .inl (km_letter, 36, .inl fm_letter)), ((mr 20), .inl (km_official, 25, .inl fm_official))]) [0, 1, 2, 3, 4, 5, 6, 7, 8, 9, 10, 11, 12, 13, 14, 15] (by decide) rfl
      have hFc := va_free (wc := [(h0, .inr (12, fsMM mi mr)), ((mr 14), .inl (km_must, 25, .inl fm_must)), ((mr 15), .inl (km_least, 25, .inl fm_least)), ((mr 16), .inl (km_pin, 25, .inl fm_pin)), ((mr 17), .inl (km_ways, 6875, .inl fm_ways)), ((mr 18), .inl (km_verdict, 24, .inl fm_verdict)), ((mr 19), .inl (km_row, 24, .inl fm_row)), ((mr 4), .inl (km_struck, 24, .inl fm_struck)), ((mr 7), .inl (km_reportKnown, 24, .inl fm_reportKnown)), ((mr 2), .inl (km_reportPlace, 24, .inl fm_reportPlace)), ((mr 5), .inl (km_reportMonth, 24, .inl fm_reportMonth)), ((mr 6), .inl (km_reportDay, 24, .inl fm_reportDay)), ((mr 3), .inl (km_reportKind, 24, .inl fm_reportKind)), ((mr 0), .inl (km_trust, 6, .inl fm_trust)), ((mr 1), .inl (km_letter, 36, .inl fm_letter)), ((mr 20), .inl (km_official, 25, .inl fm_official))]) hD hS hA [0, 1, 2, 3, 4, 5, 6, 7, 8, 9, 10, 11, 12, 13, 14, 15] rfl
      refine va_callv (va_runV (As := [.int p1]) (rest := []) ⟨hx, hb, hml, hown, hts⟩ (sX12_officialBy l dC dI H.size h0 mi mr km_must fm_must km_least fm_least km_pin fm_pin km_ways fm_ways km_verdict fm_verdict km_row fm_row km_struck fm_struck km_reportKnown fm_reportKnown km_reportPlace fm_reportPlace km_reportMonth fm_reportMonth km_reportDay fm_reportDay km_reportKind fm_reportKind km_trust fm_trust km_letter fm_letter km_official fm_official p1 gmi_0 gmi_1 gmi_2 gmi_4 gmi_7 gmi_10 gmi_17 gmi_23 gmi_24 gmi_26 gmi_29 gmi_30 gmi_33 gmi_37 gmi_41 gmi_50 gmi_51 gmi_56 gfm_row gfm_struck gfm_reportKnown gfm_reportPlace gfm_reportMonth gfm_reportDay) (cwV 1 hts (gz_gV mGB_358 mGB_359 mGB_360 mGB_1 mGB_361 goodGB) rfl rfl rfl (by decide +kernel) ⟨Nat.le_of_ble_eq_true rfl, Nat.le_of_ble_eq_true rfl⟩) ⟨fun a U g mk q => by obtain ⟨q0, q1, qP, qK, qD⟩ := q; exact ⟨q0, q1, qP, va_K.moved (u := U) (U := U.calling g mk a) (Vm.Alike.refl U.vm) qK, qD⟩, va_recv hKc hPc (ci := 12) (q0 := 0) rfl rfl, fun U hU hW => ⟨rfl, by rw [hU], by rw [hU]; exact hPc, va_K.moved hW.alike hKc, hDc.weaken (fun _ _ _ _ => trivial)⟩⟩ rfl rfl hl.1 rfl (lv_room (Nat.le_of_ble_eq_true rfl)) dX12_due_21 ⟨Nat.zero_le _, Nat.zero_le _⟩) hS (fun q _ h => hFc q h) hFc (fun u t H1 locs ht hvm hw hB hz1 hk1 hS => ?_)
      obtain ⟨y_53, y_54, f_55, f_56, f_57, f_58, f_59, f_60, f_61, gy_53, gy_54, gf_60, hP1, hD1⟩ := hB
      rw [ht] at hP1
      obtain ⟨hP, hD⟩ := va_join (wr := [((mr 8), .inl (km_deedMonth, 8, .inl fm_deedMonth)), ((mr 10), .inl (km_deedLong, 8, .inl fm_deedLong)), ((mr 11), .inl (km_deedKind, 8, .inl fm_deedKind)), ((mr 9), .inl (km_deedDay, 8, .inl fm_deedDay))]) (w1 := [(h0, .inr (12, fsMM (upd (upd mi 37 y_53) 41 y_54) mr)), ((mr 14), .inl (km_must, 25, .inl f_55)), ((mr 15), .inl (km_least, 25, .inl f_56)), ((mr 16), .inl (km_pin, 25, .inl f_57)), ((mr 17), .inl (km_ways, 6875, .inl f_58)), ((mr 18), .inl (km_verdict, 24, .inl f_59)), ((mr 19), .inl (km_row, 24, .inl f_60)), ((mr 4), .inl (km_struck, 24, .inl fm_struck)), ((mr 7), .inl (km_reportKnown, 24, .inl fm_reportKnown)), ((mr 2), .inl (km_reportPlace, 24, .inl fm_reportPlace)), ((mr 5), .inl (km_reportMonth, 24, .inl fm_reportMonth)), ((mr 6), .inl (km_reportDay, 24, .inl fm_reportDay)), ((mr 3), .inl (km_reportKind, 24, .inl fm_reportKind)), ((mr 0), .inl (km_trust, 6, .inl fm_trust)), ((mr 1), .inl (km_letter, 36, .inl fm_letter)), ((mr 20), .inl (km_official, 25, .inl f_61))]) hP hD [0, 1, 2, 3, 4, 5, 6, 7, 8, 9, 10, 11, 12, 13, 14, 15] [16, 17, 18, 19] rfl rfl (by decide) (by decide) hk1 hFc hP1 hD1
      have hP := hP.sub (ws' := [(h0, .inr (12, fsMM (upd (upd mi 37 y_53) 41 y_54) mr)), ((mr 14), .inl (km_must, 25, .inl f_55)), ((mr 15), .inl (km_least, 25, .inl f_56)), ((mr 16), .inl (km_pin, 25, .inl f_57)), ((mr 17), .inl (km_ways, 6875, .inl f_58)), ((mr 18), .inl (km_verdict, 24, .inl f_59)), ((mr 19), .inl (km_row, 24, .inl f_60)), ((mr 4), .inl (km_struck, 24, .inl fm_struck)), ((mr 7), .inl (km_reportKnown, 24, .inl fm_reportKnown)), ((mr 2), .inl (km_reportPlace, 24, .inl fm_reportPlace)), ((mr 5), .inl (km_reportMonth, 24, .inl fm_reportMonth)), ((mr 6), .inl (km_reportDay, 24, .inl fm_reportDay)), ((mr 3), .inl (km_reportKind, 24, .inl fm_reportKind)), ((mr 0), .inl (km_trust, 6, .inl fm_trust)), ((mr 1), .inl (km_letter, 36, .inl fm_letter)), ((mr 20), .inl (km_official, 25, .inl f_61)), ((mr 8), .inl (km_deedMonth, 8, .inl fm_deedMonth)), ((mr 10), .inl (km_deedLong, 8, .inl fm_deedLong)), ((mr 11), .inl (km_deedKind, 8, .inl fm_deedKind)), ((mr 9), .inl (km_deedDay, 8, .inl fm_deedDay))]) [4, 5, 6, 7, 8, 9, 10, 11, 12, 13, 14, 15, 16, 17, 18, 19, 0, 1, 2, 3] rfl
      have hD := hD.sub (ws' := [(h0, .inr (12, fsMM (upd (upd mi 37 y_53) 41 y_54) mr)), ((mr 14), .inl (km_must, 25, .inl f_55)), ((mr 15), .inl (km_least, 25, .inl f_56)), ((mr 16), .inl (km_pin, 25, .inl f_57)), ((mr 17), .inl (km_ways, 6875, .inl f_58)), ((mr 18), .inl (km_verdict, 24, .inl f_59)), ((mr 19), .inl (km_row, 24, .inl f_60)), ((mr 4), .inl (km_struck, 24, .inl fm_struck)), ((mr 7), .inl (km_reportKnown, 24, .inl fm_reportKnown)), ((mr 2), .inl (km_reportPlace, 24, .inl fm_reportPlace)), ((mr 5), .inl (km_reportMonth, 24, .inl fm_reportMonth)), ((mr 6), .inl (km_reportDay, 24, .inl fm_reportDay)), ((mr 3), .inl (km_reportKind, 24, .inl fm_reportKind)), ((mr 0), .inl (km_trust, 6, .inl fm_trust)), ((mr 1), .inl (km_letter, 36, .inl fm_letter)), ((mr 20), .inl (km_official, 25, .inl f_61)), ((mr 8), .inl (km_deedMonth, 8, .inl fm_deedMonth)), ((mr 10), .inl (km_deedLong, 8, .inl fm_deedLong)), ((mr 11), .inl (km_deedKind, 8, .inl fm_deedKind)), ((mr 9), .inl (km_deedDay, 8, .inl fm_deedDay))]) [4, 5, 6, 7, 8, 9, 10, 11, 12, 13, 14, 15, 16, 17, 18, 19, 0, 1, 2, 3] (by decide) rfl
      generalize H1 = H at hP hS ⊢
      refine lv_aload_n hx hb dX12_due_24 rfl (lv_at hl 0 rfl) ?_
      refine lv_iload_n hx hb dX12_due_25 rfl (lv_at hl 2 rfl) ?_
      have hPc := hP.sub (ws' := [(h0, .inr (12, fsMM (upd (upd mi 37 y_53) 41 y_54) mr)), ((mr 8), .inl (km_deedMonth, 8, .inl fm_deedMonth)), ((mr 10), .inl (km_deedLong, 8, .inl fm_deedLong)), ((mr 11), .inl (km_deedKind, 8, .inl fm_deedKind)), ((mr 9), .inl (km_deedDay, 8, .inl fm_deedDay)), ((mr 20), .inl (km_official, 25, .inl f_61))]) [0, 16, 17, 18, 19, 15] rfl
      have hKc := hK.sub (tys' := [(km_deedMonth, .int), (km_deedLong, .int), (km_deedKind, .int), (km_deedDay, .int), (km_official, .int)]) [15, 16, 17, 18, 14] rfl
      refine va_calli (va_runV (As := [.int p2]) (rest := []) ⟨hx, hb, hml, hown, hts⟩ (sX12_dueBy l dC dI h0 (upd (upd mi 37 y_53) 41 y_54) mr km_deedMonth fm_deedMonth km_deedLong fm_deedLong km_deedKind fm_deedKind km_deedDay fm_deedDay km_official f_61 p2 gmi_0 gmi_1 gmi_2 gmi_4 gmi_7 gmi_10 gmi_17 gmi_23 gmi_24 gmi_26 gmi_29 gmi_30 gmi_33 gy_53 gy_54 gmi_50 gmi_51 gmi_56 gfm_deedMonth gfm_deedLong g_51 hdd) (cwV 1 hts (gz_gV mGB_455 mGB_456 mGB_457 mGB_1 mGB_458 goodGB) rfl rfl rfl (by decide +kernel) ⟨Nat.le_of_ble_eq_true rfl, Nat.le_of_ble_eq_true rfl⟩) ⟨fun a U g mk q => by obtain ⟨q0, qP, qK⟩ := q; exact ⟨q0, qP, va_K.moved (u := U) (U := U.calling g mk a) (Vm.Alike.refl U.vm) qK⟩, va_recv hKc hPc (ci := 12) (q0 := 0) rfl rfl, fun U hU hW => ⟨rfl, by rw [hU]; exact hPc, va_K.moved hW.alike hKc⟩⟩ rfl rfl hl.1 rfl (lv_room (Nat.le_of_ble_eq_true rfl)) dX12_due_26 ⟨Nat.zero_le _, Nat.zero_le _⟩) hS (fun q _ h => h.elim) (fun q h => h.elim) (fun r_62 u t H1 locs ht hvm hw hB hz1 hk1 hS => ?_)
      have hP := gz_keep hP hk1
      generalize H1 = H at hP hS ⊢
      exact W.iret (v := r_62) hx hb hr (fun t ht hW => ⟨⟨r_62, (), rfl, (gi_any r_62), y_53, y_54, f_55, f_56, f_57, f_58, f_59, f_60, f_61, gy_53, gy_54, gf_60, by rw [ht]; exact hP, hD⟩, hS.F ht⟩) hS.2.2 dX12_due_29
    · have g_63 : gi r_48 0 0 := gi_eq c_49 (gi_c 0 0 (by decide))
      refine lv_bipush (v := (-2)) hx hb dX12_due_16 (by decide) ?_
      exact W.iret (v := (-2)) hx hb hr (fun t ht hW => ⟨⟨(-2), (), rfl, (gi_any (-2)), (mi 37), (mi 41), fm_must, fm_least, fm_pin, fm_ways, fm_verdict, fm_row, fm_official, gmi_37, gmi_41, gfm_row, by rw [ht]; exact hP, hD⟩, hS.F ht⟩) hS.2.2 dX12_due_18
theorem dX12_duesOn_0 : decode cX12_duesOn 0 = .ok (.iload_n 2, 1) := by decide +kernel
theorem dX12_duesOn_1 : decode cX12_duesOn 1 = .ok (.aload_n 0, 1) := by decide +kernel
theorem dX12_duesOn_2 : decode cX12_duesOn 2 = .ok (.iload_n 1, 1) := by decide +kernel
theorem dX12_duesOn_3 : decode cX12_duesOn 3 = .ok (.invokevirtual 441, 3) := by decide +kernel
theorem dX12_duesOn_6 : decode cX12_duesOn 6 = .ok (.isub, 1) := by decide +kernel
theorem dX12_duesOn_7 : decode cX12_duesOn 7 = .ok (.istore_n 3, 1) := by decide +kernel
theorem dX12_duesOn_8 : decode cX12_duesOn 8 = .ok (.iload_n 3, 1) := by decide +kernel
theorem dX12_duesOn_9 : decode cX12_duesOn 9 = .ok (.ifCond .ge 7, 3) := by decide +kernel
theorem dX12_duesOn_12 : decode cX12_duesOn 12 = .ok (.iconst 0, 1) := by decide +kernel
theorem dX12_duesOn_13 : decode cX12_duesOn 13 = .ok (.goto 19, 3) := by decide +kernel
theorem dX12_duesOn_16 : decode cX12_duesOn 16 = .ok (.aload_n 0, 1) := by decide +kernel
theorem dX12_duesOn_17 : decode cX12_duesOn 17 = .ok (.aload_n 0, 1) := by decide +kernel
theorem dX12_duesOn_18 : decode cX12_duesOn 18 = .ok (.iload_n 1, 1) := by decide +kernel
theorem dX12_duesOn_19 : decode cX12_duesOn 19 = .ok (.invokevirtual 438, 3) := by decide +kernel
theorem dX12_duesOn_22 : decode cX12_duesOn 22 = .ok (.aload_n 0, 1) := by decide +kernel
theorem dX12_duesOn_23 : decode cX12_duesOn 23 = .ok (.getfield 38, 3) := by decide +kernel
theorem dX12_duesOn_26 : decode cX12_duesOn 26 = .ok (.iload_n 1, 1) := by decide +kernel
theorem dX12_duesOn_27 : decode cX12_duesOn 27 = .ok (.iaload, 1) := by decide +kernel
theorem dX12_duesOn_28 : decode cX12_duesOn 28 = .ok (.iload_n 3, 1) := by decide +kernel
theorem dX12_duesOn_29 : decode cX12_duesOn 29 = .ok (.invokevirtual 420, 3) := by decide +kernel
theorem dX12_duesOn_32 : decode cX12_duesOn 32 = .ok (.ireturn, 1) := by decide +kernel
set_option maxHeartbeats 4000000 in
set_option maxRecDepth 100000 in
theorem sX12_duesOn (l : Launch) (dC : Nat → ClassId) (dI : Nat → Nat → Nat) (sz : Nat) (h0 : Nat) (mi : Nat → Int32) (mr : Nat → Nat) (km_must : ClassId) (fm_must : Nat → Int32) (km_least : ClassId) (fm_least : Nat → Int32) (km_pin : ClassId) (fm_pin : Nat → Int32) (km_ways : ClassId) (fm_ways : Nat → Int32) (km_deedMonth : ClassId) (fm_deedMonth : Nat → Int32) (km_deedLong : ClassId) (fm_deedLong : Nat → Int32) (km_deedKind : ClassId) (fm_deedKind : Nat → Int32) (km_deedDay : ClassId) (fm_deedDay : Nat → Int32) (p1 : Int32) (p2 : Int32) (gmi_0 : gi (mi 0) 0 24) (gmi_1 : gi (mi 1) 0 5) (gmi_2 : gi (mi 2) 0 5) (gmi_4 : gi (mi 4) 0 1) (gmi_7 : gi (mi 7) 0 6) (gmi_10 : gi (mi 10) 0 24) (gmi_17 : gi (mi 17) 0 8) (gmi_23 : gi (mi 23) 0 300) (gmi_24 : gi (mi 24) 0 1) (gmi_26 : gi (mi 26) 0 1600) (gmi_29 : gi (mi 29) 0 1600) (gmi_30 : gi (mi 30) 0 1600) (gmi_33 : gi (mi 33) 0 1) (gmi_37 : gi (mi 37) 0 1) (gmi_41 : gi (mi 41) 0 24) (gmi_50 : gi (mi 50) 0 1) (gmi_51 : gi (mi 51) 0 1) (gmi_56 : gi (mi 56) 0 80) (gfm_deedMonth : ga fm_deedMonth 8 0 23) (gfm_deedLong : ga fm_deedLong 8 0 600) (gp1 : gi p1 0 7) (hdd : ∀ j : Nat, j < 8 → ((fm_deedKind j).toInt ≠ 0 ∨ (fm_deedMonth j).toInt + (fm_deedLong j).toInt ≤ 23)) : Met l yX12_duesOn (.code yX12_duesOn cX12_duesOn 4 (some .int) :: wsGB) ({ frames := 6, cells := 0, slots := 0, locals := 147 }) (va_Pc [.ref h0, .int p1, .int p2] (fun U => U.heap.size = sz ∧ va_P (dC, dI) vwCl [(h0, .inr (12, fsMM mi mr)), ((mr 14), .inl (km_must, 25, .inl fm_must)), ((mr 15), .inl (km_least, 25, .inl fm_least)), ((mr 16), .inl (km_pin, 25, .inl fm_pin)), ((mr 17), .inl (km_ways, 6875, .inl fm_ways)), ((mr 8), .inl (km_deedMonth, 8, .inl fm_deedMonth)), ((mr 10), .inl (km_deedLong, 8, .inl fm_deedLong)), ((mr 11), .inl (km_deedKind, 8, .inl fm_deedKind)), ((mr 9), .inl (km_deedDay, 8, .inl fm_deedDay))] U.heap ∧ va_K (dC, dI) vwCl [(km_must, .int), (km_least, .int), (km_pin, .int), (km_ways, .int), (km_deedMonth, .int), (km_deedLong, .int), (km_deedKind, .int), (km_deedDay, .int)] U ∧ va_D (fun _ => True) [(h0, .inr (12, fsMM mi mr)), ((mr 14), .inl (km_must, 25, .inl fm_must)), ((mr 15), .inl (km_least, 25, .inl fm_least)), ((mr 16), .inl (km_pin, 25, .inl fm_pin)), ((mr 17), .inl (km_ways, 6875, .inl fm_ways)), ((mr 8), .inl (km_deedMonth, 8, .inl fm_deedMonth)), ((mr 10), .inl (km_deedLong, 8, .inl fm_deedLong)), ((mr 11), .inl (km_deedKind, 8, .inl fm_deedKind)), ((mr 9), .inl (km_deedDay, 8, .inl fm_deedDay))])) (va_Qi (fun (r : Int32) (u : Unit) => gi r (-2147483648) 2147483647) (fun _ t => ∃ (z3 : Nat → Int32) (z4 : Nat → Int32), va_P (dC, dI) vwCl [(h0, .inr (12, fsMM mi mr)), ((mr 14), .inl (km_must, 25, .inl fm_must)), ((mr 15), .inl (km_least, 25, .inl fm_least)), ((mr 16), .inl (km_pin, 25, .inl z3)), ((mr 17), .inl (km_ways, 6875, .inl z4)), ((mr 8), .inl (km_deedMonth, 8, .inl fm_deedMonth)), ((mr 10), .inl (km_deedLong, 8, .inl fm_deedLong)), ((mr 11), .inl (km_deedKind, 8, .inl fm_deedKind)), ((mr 9), .inl (km_deedDay, 8, .inl fm_deedDay))] t.heap ∧ va_D (va_A [(h0, .inr (12, fsMM mi mr)), ((mr 14), .inl (km_must, 25, .inl fm_must)), ((mr 15), .inl (km_least, 25, .inl fm_least)), ((mr 16), .inl (km_pin, 25, .inl fm_pin)), ((mr 17), .inl (km_ways, 6875, .inl fm_ways)), ((mr 8), .inl (km_deedMonth, 8, .inl fm_deedMonth)), ((mr 10), .inl (km_deedLong, 8, .inl fm_deedLong)), ((mr 11), .inl (km_deedKind, 8, .inl fm_deedKind)), ((mr 9), .inl (km_deedDay, 8, .inl fm_deedDay))] sz) [(h0, .inr (12, fsMM mi mr)), ((mr 14), .inl (km_must, 25, .inl fm_must)), ((mr 15), .inl (km_least, 25, .inl fm_least)), ((mr 16), .inl (km_pin, 25, .inl z3)), ((mr 17), .inl (km_ways, 6875, .inl z4)), ((mr 8), .inl (km_deedMonth, 8, .inl fm_deedMonth)), ((mr 10), .inl (km_deedLong, 8, .inl fm_deedLong)), ((mr 11), .inl (km_deedKind, 8, .inl fm_deedKind)), ((mr 9), .inl (km_deedDay, 8, .inl fm_deedDay))]) (va_A [(h0, .inr (12, fsMM mi mr)), ((mr 14), .inl (km_must, 25, .inl fm_must)), ((mr 15), .inl (km_least, 25, .inl fm_least)), ((mr 16), .inl (km_pin, 25, .inl fm_pin)), ((mr 17), .inl (km_ways, 6875, .inl fm_ways)), ((mr 8), .inl (km_deedMonth, 8, .inl fm_deedMonth)), ((mr 10), .inl (km_deedLong, 8, .inl fm_deedLong)), ((mr 11), .inl (km_deedKind, 8, .inl fm_deedKind)), ((mr 9), .inl (km_deedDay, 8, .inl fm_deedDay))] sz)) 0 0 (va_A [(h0, .inr (12, fsMM mi mr)), ((mr 14), .inl (km_must, 25, .inl fm_must)), ((mr 15), .inl (km_least, 25, .inl fm_least)), ((mr 16), .inl (km_pin, 25, .inl fm_pin)), ((mr 17), .inl (km_ways, 6875, .inl fm_ways)), ((mr 8), .inl (km_deedMonth, 8, .inl fm_deedMonth)), ((mr 10), .inl (km_deedLong, 8, .inl fm_deedLong)), ((mr 11), .inl (km_deedKind, 8, .inl fm_deedKind)), ((mr 9), .inl (km_deedDay, 8, .inl fm_deedDay))] sz) := by
  refine Met.ofW (cc := cX12_duesOn) (maxL := 4) (ret := (some .int)) (by decide) rfl ?_
  intro p e s m args below meth c s₁ B hml hv
  obtain ⟨rfl, hsz, hP, hK, hD0⟩ := hv
  have hx := B.exec
  have hb := B.bytes
  have hr := B.returns
  have hts := atoms_spec (ws := (.code yX12_duesOn cX12_duesOn 4 (some .int) :: wsGB)) B.pre
  have hown : s.vm.findClass RX12 = some m.cls := findClass_of_methodNamed B.named
  have hlocks := B.notSynchronized
  subst hsz
  have hD := hD0.self (sz := s.heap.size)
  generalize hAe : va_A [(h0, .inr (12, fsMM mi mr)), ((mr 14), .inl (km_must, 25, .inl fm_must)), ((mr 15), .inl (km_least, 25, .inl fm_least)), ((mr 16), .inl (km_pin, 25, .inl fm_pin)), ((mr 17), .inl (km_ways, 6875, .inl fm_ways)), ((mr 8), .inl (km_deedMonth, 8, .inl fm_deedMonth)), ((mr 10), .inl (km_deedLong, 8, .inl fm_deedLong)), ((mr 11), .inl (km_deedKind, 8, .inl fm_deedKind)), ((mr 9), .inl (km_deedDay, 8, .inl fm_deedDay))] s.heap.size = A at hD ⊢
  have hA : ∀ q : Nat, s.heap.size ≤ q → A q := fun q h => by rw [← hAe]; exact Or.inr h
  have hS : va_S A s.heap s.heap [] := va_S.rf
  have hl := lv_entry ([.ref h0, .int p1, .int p2]) (n := 4) (Nat.le_of_ble_eq_true rfl)
  rw [lg_entry_eq]
  generalize (lg_sl ([.ref h0, .int p1, .int p2]) ++ List.replicate (4 - (lg_sl ([.ref h0, .int p1, .int p2])).length) Slot.unset).toArray = ls at hl ⊢
  have hl : lv_has ls 4 [(0, .ref h0), (1, .int p1), (2, .int p2)] := hl
  refine lv_iload_n hx hb dX12_duesOn_0 rfl (lv_at hl 2 rfl) ?_
  refine lv_aload_n hx hb dX12_duesOn_1 rfl (lv_at hl 0 rfl) ?_
  refine lv_iload_n hx hb dX12_duesOn_2 rfl (lv_at hl 1 rfl) ?_
  have hPc := hP.sub (ws' := [(h0, .inr (12, fsMM mi mr)), ((mr 8), .inl (km_deedMonth, 8, .inl fm_deedMonth)), ((mr 10), .inl (km_deedLong, 8, .inl fm_deedLong)), ((mr 11), .inl (km_deedKind, 8, .inl fm_deedKind))]) [0, 5, 6, 7] rfl
  have hKc := hK.sub (tys' := [(km_deedMonth, .int), (km_deedLong, .int), (km_deedKind, .int)]) [4, 5, 6] rfl
  refine va_calli (va_runV (As := [.int p1]) (rest := [.int p2]) ⟨hx, hb, hml, hown, hts⟩ (sX12_behindOf l dC dI h0 mi mr km_deedMonth fm_deedMonth km_deedLong fm_deedLong km_deedKind fm_deedKind p1 gmi_0 gmi_1 gmi_2 gmi_4 gmi_7 gmi_10 gmi_17 gmi_23 gmi_24 gmi_26 gmi_29 gmi_30 gmi_33 gmi_37 gmi_41 gmi_50 gmi_51 gmi_56 gfm_deedMonth gfm_deedLong gp1) (cwV 1 hts (gz_gV mGB_463 mGB_464 mGB_465 mGB_1 mGB_466 goodGB) rfl rfl rfl (by decide +kernel) ⟨Nat.le_of_ble_eq_true rfl, Nat.le_of_ble_eq_true rfl⟩) ⟨fun a U g mk q => by obtain ⟨q0, qP, qK⟩ := q; exact ⟨q0, qP, va_K.moved (u := U) (U := U.calling g mk a) (Vm.Alike.refl U.vm) qK⟩, va_recv hKc hPc (ci := 12) (q0 := 0) rfl rfl, fun U hU hW => ⟨rfl, by rw [hU]; exact hPc, va_K.moved hW.alike hKc⟩⟩ rfl rfl hl.1 rfl (lv_room (Nat.le_of_ble_eq_true rfl)) dX12_duesOn_3 ⟨Nat.zero_le _, Nat.zero_le _⟩) hS (fun q _ h => h.elim) (fun q h => h.elim) (fun r_21 u t H1 locs ht hvm hw hB hz1 hk1 hS => ?_)
  have hP := gz_keep hP hk1
  generalize H1 = H at hP hS ⊢
  have gr_21 : gi r_21 0 600 := hw
  refine lv_isub hx hb dX12_duesOn_6 ?_
  refine lv_topi (fun x_22 ex_22 => ?_)
  refine lv_istore_n (lv' := [(3, .int x_22), (0, .ref h0), (1, .int p1), (2, .int p2)]) hx hb dX12_duesOn_7 rfl hl (by decide) rfl (fun ls hl => ?_)
  refine lv_iload_n hx hb dX12_duesOn_8 rfl (lv_at hl 0 rfl) ?_
  refine lv_if_ge (tgt := 16) hx hb dX12_duesOn_9 (by decide) (fun c_23 => ?_) (fun c_23 => ?_)
  · have g_24 : gi x_22 0 2147483647 := gi_le_r c_23 (gi_c 0 0 (by decide)) (gi_any x_22)
    refine lv_aload_n hx hb dX12_duesOn_16 rfl (lv_at hl 1 rfl) ?_
    refine lv_aload_n hx hb dX12_duesOn_17 rfl (lv_at hl 1 rfl) ?_
    refine lv_iload_n hx hb dX12_duesOn_18 rfl (lv_at hl 2 rfl) ?_
    have hPc := hP.sub (ws' := [(h0, .inr (12, fsMM mi mr)), ((mr 8), .inl (km_deedMonth, 8, .inl fm_deedMonth)), ((mr 10), .inl (km_deedLong, 8, .inl fm_deedLong)), ((mr 11), .inl (km_deedKind, 8, .inl fm_deedKind))]) [0, 5, 6, 7] rfl
    have hKc := hK.sub (tys' := [(km_deedMonth, .int), (km_deedLong, .int), (km_deedKind, .int)]) [4, 5, 6] rfl
    refine va_calli (va_runV (As := [.int p1]) (rest := [.ref h0]) ⟨hx, hb, hml, hown, hts⟩ (sX12_monthOf l dC dI h0 mi mr km_deedMonth fm_deedMonth km_deedLong fm_deedLong km_deedKind fm_deedKind p1 gmi_0 gmi_1 gmi_2 gmi_4 gmi_7 gmi_10 gmi_17 gmi_23 gmi_24 gmi_26 gmi_29 gmi_30 gmi_33 gmi_37 gmi_41 gmi_50 gmi_51 gmi_56 gfm_deedMonth gfm_deedLong gp1 hdd) (cwV 1 hts (gz_gV mGB_459 mGB_460 mGB_461 mGB_1 mGB_462 goodGB) rfl rfl rfl (by decide +kernel) ⟨Nat.le_of_ble_eq_true rfl, Nat.le_of_ble_eq_true rfl⟩) ⟨fun a U g mk q => by obtain ⟨q0, qP, qK⟩ := q; exact ⟨q0, qP, va_K.moved (u := U) (U := U.calling g mk a) (Vm.Alike.refl U.vm) qK⟩, va_recv hKc hPc (ci := 12) (q0 := 0) rfl rfl, fun U hU hW => ⟨rfl, by rw [hU]; exact hPc, va_K.moved hW.alike hKc⟩⟩ rfl rfl hl.1 rfl (lv_room (Nat.le_of_ble_eq_true rfl)) dX12_duesOn_19 ⟨Nat.zero_le _, Nat.zero_le _⟩) hS (fun q _ h => h.elim) (fun q h => h.elim) (fun r_25 u t H1 locs ht hvm hw hB hz1 hk1 hS => ?_)
    have hP := gz_keep hP hk1
    generalize H1 = H at hP hS ⊢
    have gr_25 : gi r_25 0 23 := hw
    refine lv_aload_n hx hb dX12_duesOn_22 rfl (lv_at hl 1 rfl) ?_
    refine va_get (D := (dC, dI)) (ci := 12) (v := .ref (mr 9)) (C := RX12) (T := TX12) (N := 57) hx hb hts (fun w h => List.mem_cons_of_mem _ (jnGB_X12 w h)) hown hK hP 0 rfl rfl 19 (by decide) (hts _ (List.mem_cons_of_mem _ mGB_20)) (fun _ h9 => h9) rfl dX12_duesOn_23 ?_
    refine lv_iload_n hx hb dX12_duesOn_26 rfl (lv_at hl 2 rfl) ?_
    refine va_iald hx hb hK hP 8 7 rfl rfl (gi_in gp1 (by decide)) dX12_duesOn_27 ?_
    refine lv_topi (fun x_26 ex_26 => ?_)
    refine lv_iload_n hx hb dX12_duesOn_28 rfl (lv_at hl 0 rfl) ?_
    have hPc := hP.sub (ws' := [(h0, .inr (12, fsMM mi mr)), ((mr 14), .inl (km_must, 25, .inl fm_must)), ((mr 15), .inl (km_least, 25, .inl fm_least)), ((mr 16), .inl (km_pin, 25, .inl fm_pin)), ((mr 17), .inl (km_ways, 6875, .inl fm_ways))]) [0, 1, 2, 3, 4] rfl
    have hKc := hK.sub (tys' := [(km_must, .int), (km_least, .int), (km_pin, .int), (km_ways, .int)]) [0, 1, 2, 3] rfl
    have hDc := hD.sub (ws' := [(h0, .inr (12, fsMM mi mr)), ((mr 14), .inl (km_must, 25, .inl fm_must)), ((mr 15), .inl (km_least, 25, .inl fm_least)), ((mr 16), .inl (km_pin, 25, .inl fm_pin)), ((mr 17), .inl (km_ways, 6875, .inl fm_ways))]) [0, 1, 2, 3, 4] (by decide) rfl
    have hFc := va_free (wc := [(h0, .inr (12, fsMM mi mr)), ((mr 14), .inl (km_must, 25, .inl fm_must)), ((mr 15), .inl (km_least, 25, .inl fm_least)), ((mr 16), .inl (km_pin, 25, .inl fm_pin)), ((mr 17), .inl (km_ways, 6875, .inl fm_ways))]) hD hS hA [0, 1, 2, 3, 4] rfl
    refine va_calli (va_runV (As := [.int r_25, .int x_26, .int x_22]) (rest := []) ⟨hx, hb, hml, hown, hts⟩ (sX12_fallsOn l dC dI H.size h0 mi mr km_must fm_must km_least fm_least km_pin fm_pin km_ways fm_ways r_25 x_26 x_22 gmi_0 gmi_1 gmi_2 gmi_4 gmi_7 gmi_10 gmi_17 gmi_23 gmi_24 gmi_26 gmi_29 gmi_30 gmi_33 gmi_37 gmi_41 gmi_50 gmi_51 gmi_56 gr_25) (cwV 3 hts (gz_gV mGB_488 mGB_489 mGB_490 mGB_1 mGB_491 goodGB) rfl rfl rfl (by decide +kernel) ⟨Nat.le_of_ble_eq_true rfl, Nat.le_of_ble_eq_true rfl⟩) ⟨fun a U g mk q => by obtain ⟨q0, q1, qP, qK, qD⟩ := q; exact ⟨q0, q1, qP, va_K.moved (u := U) (U := U.calling g mk a) (Vm.Alike.refl U.vm) qK, qD⟩, va_recv hKc hPc (ci := 12) (q0 := 0) rfl rfl, fun U hU hW => ⟨rfl, by rw [hU], by rw [hU]; exact hPc, va_K.moved hW.alike hKc, hDc.weaken (fun _ _ _ _ => trivial)⟩⟩ rfl rfl hl.1 rfl (lv_room (Nat.le_of_ble_eq_true rfl)) dX12_duesOn_29 ⟨Nat.zero_le _, Nat.zero_le _⟩) hS (fun q _ h => hFc q h) hFc (fun r_27 u t H1 locs ht hvm hw hB hz1 hk1 hS => ?_)
    obtain ⟨f_28, f_29, hP1, hD1⟩ := hB
    rw [ht] at hP1
    obtain ⟨hP, hD⟩ := va_join (wr := [((mr 8), .inl (km_deedMonth, 8, .inl fm_deedMonth)), ((mr 10), .inl (km_deedLong, 8, .inl fm_deedLong)), ((mr 11), .inl (km_deedKind, 8, .inl fm_deedKind)), ((mr 9), .inl (km_deedDay, 8, .inl fm_deedDay))]) (w1 := [(h0, .inr (12, fsMM mi mr)), ((mr 14), .inl (km_must, 25, .inl fm_must)), ((mr 15), .inl (km_least, 25, .inl fm_least)), ((mr 16), .inl (km_pin, 25, .inl f_28)), ((mr 17), .inl (km_ways, 6875, .inl f_29))]) hP hD [0, 1, 2, 3, 4] [5, 6, 7, 8] rfl rfl (by decide) (by decide) hk1 hFc hP1 hD1
    have hP := hP.sub (ws' := [(h0, .inr (12, fsMM mi mr)), ((mr 14), .inl (km_must, 25, .inl fm_must)), ((mr 15), .inl (km_least, 25, .inl fm_least)), ((mr 16), .inl (km_pin, 25, .inl f_28)), ((mr 17), .inl (km_ways, 6875, .inl f_29)), ((mr 8), .inl (km_deedMonth, 8, .inl fm_deedMonth)), ((mr 10), .inl (km_deedLong, 8, .inl fm_deedLong)), ((mr 11), .inl (km_deedKind, 8, .inl fm_deedKind)), ((mr 9), .inl (km_deedDay, 8, .inl fm_deedDay))]) [4, 5, 6, 7, 8, 0, 1, 2, 3] rfl
    have hD := hD.sub (ws' := [(h0, .inr (12, fsMM mi mr)), ((mr 14), .inl (km_must, 25, .inl fm_must)), ((mr 15), .inl (km_least, 25, .inl fm_least)), ((mr 16), .inl (km_pin, 25, .inl f_28)), ((mr 17), .inl (km_ways, 6875, .inl f_29)), ((mr 8), .inl (km_deedMonth, 8, .inl fm_deedMonth)), ((mr 10), .inl (km_deedLong, 8, .inl fm_deedLong)), ((mr 11), .inl (km_deedKind, 8, .inl fm_deedKind)), ((mr 9), .inl (km_deedDay, 8, .inl fm_deedDay))]) [4, 5, 6, 7, 8, 0, 1, 2, 3] (by decide) rfl
    generalize H1 = H at hP hS ⊢
    exact W.iret (v := r_27) hx hb hr (fun t ht hW => ⟨⟨r_27, (), rfl, (gi_any r_27), f_28, f_29, by rw [ht]; exact hP, hD⟩, hS.F ht⟩) hS.2.2 dX12_duesOn_32
  · have g_30 : gi x_22 (-2147483648) (-1) := gi_lt_l (Int32.not_le.mp c_23) (gi_any x_22) (gi_c 0 0 (by decide)) (by decide)
    refine lv_iconst (v := 0) hx hb dX12_duesOn_12 (by decide) ?_
    refine lv_goto (tgt := 32) hx hb dX12_duesOn_13 (by decide) ?_
    exact W.iret (v := 0) hx hb hr (fun t ht hW => ⟨⟨0, (), rfl, (gi_any 0), fm_pin, fm_ways, by rw [ht]; exact hP, hD⟩, hS.F ht⟩) hS.2.2 dX12_duesOn_32
theorem dX12_dueSpanOf_0 : decode cX12_dueSpanOf 0 = .ok (.bipush 29, 2) := by decide +kernel
theorem dX12_dueSpanOf_2 : decode cX12_dueSpanOf 2 = .ok (.aload_n 0, 1) := by decide +kernel
theorem dX12_dueSpanOf_3 : decode cX12_dueSpanOf 3 = .ok (.iload_n 1, 1) := by decide +kernel
theorem dX12_dueSpanOf_4 : decode cX12_dueSpanOf 4 = .ok (.invokevirtual 438, 3) := by decide +kernel
theorem dX12_dueSpanOf_7 : decode cX12_dueSpanOf 7 = .ok (.imul, 1) := by decide +kernel
theorem dX12_dueSpanOf_8 : decode cX12_dueSpanOf 8 = .ok (.aload_n 0, 1) := by decide +kernel
theorem dX12_dueSpanOf_9 : decode cX12_dueSpanOf 9 = .ok (.iload_n 1, 1) := by decide +kernel
theorem dX12_dueSpanOf_10 : decode cX12_dueSpanOf 10 = .ok (.invokevirtual 441, 3) := by decide +kernel
theorem dX12_dueSpanOf_13 : decode cX12_dueSpanOf 13 = .ok (.iadd, 1) := by decide +kernel
theorem dX12_dueSpanOf_14 : decode cX12_dueSpanOf 14 = .ok (.istore_n 3, 1) := by decide +kernel
theorem dX12_dueSpanOf_15 : decode cX12_dueSpanOf 15 = .ok (.aload_n 0, 1) := by decide +kernel
theorem dX12_dueSpanOf_16 : decode cX12_dueSpanOf 16 = .ok (.iload_n 1, 1) := by decide +kernel
theorem dX12_dueSpanOf_17 : decode cX12_dueSpanOf 17 = .ok (.invokevirtual 438, 3) := by decide +kernel
theorem dX12_dueSpanOf_20 : decode cX12_dueSpanOf 20 = .ok (.bipush 30, 2) := by decide +kernel
theorem dX12_dueSpanOf_22 : decode cX12_dueSpanOf 22 = .ok (.iadd, 1) := by decide +kernel
theorem dX12_dueSpanOf_23 : decode cX12_dueSpanOf 23 = .ok (.istore 4, 2) := by decide +kernel
theorem dX12_dueSpanOf_25 : decode cX12_dueSpanOf 25 = .ok (.iconst 0, 1) := by decide +kernel
theorem dX12_dueSpanOf_26 : decode cX12_dueSpanOf 26 = .ok (.istore 5, 2) := by decide +kernel
theorem dX12_dueSpanOf_28 : decode cX12_dueSpanOf 28 = .ok (.iload 5, 2) := by decide +kernel
theorem dX12_dueSpanOf_30 : decode cX12_dueSpanOf 30 = .ok (.iload 4, 2) := by decide +kernel
theorem dX12_dueSpanOf_32 : decode cX12_dueSpanOf 32 = .ok (.if_icmp .gt 40, 3) := by decide +kernel
theorem dX12_dueSpanOf_35 : decode cX12_dueSpanOf 35 = .ok (.iload_n 3, 1) := by decide +kernel
theorem dX12_dueSpanOf_36 : decode cX12_dueSpanOf 36 = .ok (.iload_n 2, 1) := by decide +kernel
theorem dX12_dueSpanOf_37 : decode cX12_dueSpanOf 37 = .ok (.ifCond .ne 8, 3) := by decide +kernel
theorem dX12_dueSpanOf_40 : decode cX12_dueSpanOf 40 = .ok (.iload 5, 2) := by decide +kernel
theorem dX12_dueSpanOf_42 : decode cX12_dueSpanOf 42 = .ok (.goto 8, 3) := by decide +kernel
theorem dX12_dueSpanOf_45 : decode cX12_dueSpanOf 45 = .ok (.iload 4, 2) := by decide +kernel
theorem dX12_dueSpanOf_47 : decode cX12_dueSpanOf 47 = .ok (.iload 5, 2) := by decide +kernel
theorem dX12_dueSpanOf_49 : decode cX12_dueSpanOf 49 = .ok (.isub, 1) := by decide +kernel
theorem dX12_dueSpanOf_50 : decode cX12_dueSpanOf 50 = .ok (.iadd, 1) := by decide +kernel
theorem dX12_dueSpanOf_51 : decode cX12_dueSpanOf 51 = .ok (.istore 6, 2) := by decide +kernel
theorem dX12_dueSpanOf_53 : decode cX12_dueSpanOf 53 = .ok (.aload_n 0, 1) := by decide +kernel
theorem dX12_dueSpanOf_54 : decode cX12_dueSpanOf 54 = .ok (.iload_n 1, 1) := by decide +kernel
theorem dX12_dueSpanOf_55 : decode cX12_dueSpanOf 55 = .ok (.iload 6, 2) := by decide +kernel
theorem dX12_dueSpanOf_57 : decode cX12_dueSpanOf 57 = .ok (.invokevirtual 444, 3) := by decide +kernel
theorem dX12_dueSpanOf_60 : decode cX12_dueSpanOf 60 = .ok (.ifCond .le 6, 3) := by decide +kernel
theorem dX12_dueSpanOf_63 : decode cX12_dueSpanOf 63 = .ok (.iload 6, 2) := by decide +kernel
theorem dX12_dueSpanOf_65 : decode cX12_dueSpanOf 65 = .ok (.ireturn, 1) := by decide +kernel
theorem dX12_dueSpanOf_66 : decode cX12_dueSpanOf 66 = .ok (.iinc 5 1, 3) := by decide +kernel
theorem dX12_dueSpanOf_69 : decode cX12_dueSpanOf 69 = .ok (.goto (-41), 3) := by decide +kernel
theorem dX12_dueSpanOf_72 : decode cX12_dueSpanOf 72 = .ok (.bipush (-2), 2) := by decide +kernel
theorem dX12_dueSpanOf_74 : decode cX12_dueSpanOf 74 = .ok (.ireturn, 1) := by decide +kernel
set_option maxHeartbeats 4000000 in
set_option maxRecDepth 100000 in
theorem lp_sX12_dueSpanOf {p : Program} {l : Launch} {e : Env} {R : Room} {s : State} {m : MethodId} {args : Array Value} {below : List Frame} {meth : Method} {c : Code} {Q : State → Prop} {A : Nat → Prop} {cells slots : Nat} {dC : Nat → ClassId} {dI : Nat → Nat → Nat} (h0 : Nat) (mi : Nat → Int32) (mr : Nat → Nat) (km_must : ClassId) (fm_must : Nat → Int32) (km_least : ClassId) (fm_least : Nat → Int32) (km_pin : ClassId) (fm_pin : Nat → Int32) (km_ways : ClassId) (fm_ways : Nat → Int32) (km_deedMonth : ClassId) (fm_deedMonth : Nat → Int32) (km_deedLong : ClassId) (fm_deedLong : Nat → Int32) (km_deedKind : ClassId) (fm_deedKind : Nat → Int32) (km_deedDay : ClassId) (fm_deedDay : Nat → Int32) (p1 : Int32) (p2 : Int32) (gmi_0 : gi (mi 0) 0 24) (gmi_1 : gi (mi 1) 0 5) (gmi_2 : gi (mi 2) 0 5) (gmi_4 : gi (mi 4) 0 1) (gmi_7 : gi (mi 7) 0 6) (gmi_10 : gi (mi 10) 0 24) (gmi_17 : gi (mi 17) 0 8) (gmi_23 : gi (mi 23) 0 300) (gmi_24 : gi (mi 24) 0 1) (gmi_26 : gi (mi 26) 0 1600) (gmi_29 : gi (mi 29) 0 1600) (gmi_30 : gi (mi 30) 0 1600) (gmi_33 : gi (mi 33) 0 1) (gmi_37 : gi (mi 37) 0 1) (gmi_41 : gi (mi 41) 0 24) (gmi_50 : gi (mi 50) 0 1) (gmi_51 : gi (mi 51) 0 1) (gmi_56 : gi (mi 56) 0 80) (gfm_deedMonth : ga fm_deedMonth 8 0 23) (gfm_deedLong : ga fm_deedLong 8 0 600) (gp1 : gi p1 0 7) (hdd : ∀ j : Nat, j < 8 → ((fm_deedKind j).toInt ≠ 0 ∨ (fm_deedMonth j).toInt + (fm_deedLong j).toInt ≤ 23)) (hx : p.tables.exec = Jvm.exec) (hb : c.code = cX12_dueSpanOf) (hml : c.maxLocals = 7) (hown : s.vm.findClass RX12 = some m.cls) (hts : ∀ w ∈ ((.code yX12_dueSpanOf cX12_dueSpanOf 7 (some .int) :: wsGB) : List Cond), w.before args s = true) (hK : va_K (dC, dI) vwCl [(km_must, .int), (km_least, .int), (km_pin, .int), (km_ways, .int), (km_deedMonth, .int), (km_deedLong, .int), (km_deedKind, .int), (km_deedDay, .int)] s) (hA : ∀ q : Nat, s.heap.size ≤ q → A q) (hRf : 7 ≤ R.frames) (hRl : 170 ≤ R.locals) (hRc : cells ≤ R.cells) (hRs : slots ≤ R.slots) (kr74 : ∀ (v : Int32) (z3 : Nat → Int32) (z4 : Nat → Int32) (H : Heap) (locs : List Loc) (ls : Array Slot), gi v (-2) (-2) → va_P (dC, dI) vwCl [(h0, .inr (12, fsMM mi mr)), ((mr 14), .inl (km_must, 25, .inl fm_must)), ((mr 15), .inl (km_least, 25, .inl fm_least)), ((mr 16), .inl (km_pin, 25, .inl z3)), ((mr 17), .inl (km_ways, 6875, .inl z4)), ((mr 8), .inl (km_deedMonth, 8, .inl fm_deedMonth)), ((mr 10), .inl (km_deedLong, 8, .inl fm_deedLong)), ((mr 11), .inl (km_deedKind, 8, .inl fm_deedKind)), ((mr 9), .inl (km_deedDay, 8, .inl fm_deedDay))] H → va_D A [(h0, .inr (12, fsMM mi mr)), ((mr 14), .inl (km_must, 25, .inl fm_must)), ((mr 15), .inl (km_least, 25, .inl fm_least)), ((mr 16), .inl (km_pin, 25, .inl z3)), ((mr 17), .inl (km_ways, 6875, .inl z4)), ((mr 8), .inl (km_deedMonth, 8, .inl fm_deedMonth)), ((mr 10), .inl (km_deedLong, 8, .inl fm_deedLong)), ((mr 11), .inl (km_deedKind, 8, .inl fm_deedKind)), ((mr 9), .inl (km_deedDay, 8, .inl fm_deedDay))] → va_S A s.heap H locs → lv_has ls 7 [] → W p l e R s m args below meth c H locs cells slots Q (F0 m 74 ls [.int v])) (kr65 : ∀ (v : Int32) (z3 : Nat → Int32) (z4 : Nat → Int32) (H : Heap) (locs : List Loc) (ls : Array Slot), gi v 0 1320 → va_P (dC, dI) vwCl [(h0, .inr (12, fsMM mi mr)), ((mr 14), .inl (km_must, 25, .inl fm_must)), ((mr 15), .inl (km_least, 25, .inl fm_least)), ((mr 16), .inl (km_pin, 25, .inl z3)), ((mr 17), .inl (km_ways, 6875, .inl z4)), ((mr 8), .inl (km_deedMonth, 8, .inl fm_deedMonth)), ((mr 10), .inl (km_deedLong, 8, .inl fm_deedLong)), ((mr 11), .inl (km_deedKind, 8, .inl fm_deedKind)), ((mr 9), .inl (km_deedDay, 8, .inl fm_deedDay))] H → va_D A [(h0, .inr (12, fsMM mi mr)), ((mr 14), .inl (km_must, 25, .inl fm_must)), ((mr 15), .inl (km_least, 25, .inl fm_least)), ((mr 16), .inl (km_pin, 25, .inl z3)), ((mr 17), .inl (km_ways, 6875, .inl z4)), ((mr 8), .inl (km_deedMonth, 8, .inl fm_deedMonth)), ((mr 10), .inl (km_deedLong, 8, .inl fm_deedLong)), ((mr 11), .inl (km_deedKind, 8, .inl fm_deedKind)), ((mr 9), .inl (km_deedDay, 8, .inl fm_deedDay))] → va_S A s.heap H locs → lv_has ls 7 [] → W p l e R s m args below meth c H locs cells slots Q (F0 m 65 ls [.int v])) : ∀ z : Nat, (∀ (v3 : Int32) (v4 : Int32) (v5 : Int32) (z3 : Nat → Int32) (z4 : Nat → Int32) (H : Heap) (locs : List Loc) (ls : Array Slot), gi v3 0 1267 → gi v4 30 53 → gi v5 0 72 → 145 + (-2) * v5.toInt < (z : Int) → va_P (dC, dI) vwCl [(h0, .inr (12, fsMM mi mr)), ((mr 14), .inl (km_must, 25, .inl fm_must)), ((mr 15), .inl (km_least, 25, .inl fm_least)), ((mr 16), .inl (km_pin, 25, .inl z3)), ((mr 17), .inl (km_ways, 6875, .inl z4)), ((mr 8), .inl (km_deedMonth, 8, .inl fm_deedMonth)), ((mr 10), .inl (km_deedLong, 8, .inl fm_deedLong)), ((mr 11), .inl (km_deedKind, 8, .inl fm_deedKind)), ((mr 9), .inl (km_deedDay, 8, .inl fm_deedDay))] H → va_D A [(h0, .inr (12, fsMM mi mr)), ((mr 14), .inl (km_must, 25, .inl fm_must)), ((mr 15), .inl (km_least, 25, .inl fm_least)), ((mr 16), .inl (km_pin, 25, .inl z3)), ((mr 17), .inl (km_ways, 6875, .inl z4)), ((mr 8), .inl (km_deedMonth, 8, .inl fm_deedMonth)), ((mr 10), .inl (km_deedLong, 8, .inl fm_deedLong)), ((mr 11), .inl (km_deedKind, 8, .inl fm_deedKind)), ((mr 9), .inl (km_deedDay, 8, .inl fm_deedDay))] → va_S A s.heap H locs → lv_has ls 7 [(0, .ref h0), (1, .int p1), (2, .int p2), (3, .int v3), (4, .int v4), (5, .int v5)] → W p l e R s m args below meth c H locs cells slots Q (F0 m 28 ls [])) := by
  intro z
  induction z with
  | zero =>
    intro v3 v4 v5 z3 z4 H locs ls gv3 gv4 gv5 hmu hP hD hS hl
    exact absurd hmu (by have hv51 := gv5.1; have hv52 := gv5.2; omega)
  | succ z ih =>
      intro v3 v4 v5 z3 z4 H locs ls gv3 gv4 gv5 hmu hP hD hS hl
      refine lv_iload hx hb dX12_dueSpanOf_28 (lv_at hl 5 rfl) ?_
      refine lv_iload hx hb dX12_dueSpanOf_30 (lv_at hl 4 rfl) ?_
      refine lv_icmp_gt (tgt := 72) hx hb dX12_dueSpanOf_32 (by decide) (fun c_551 => ?_) (fun c_551 => ?_)
      · have g_552 : gi v5 31 72 := gi_lt_r c_551 gv4 gv5 (by decide)
        refine lv_bipush (v := (-2)) hx hb dX12_dueSpanOf_72 (by decide) ?_
        exact kr74 (-2) z3 z4 _ _ _ (gi_c (-2) (-2) (by decide)) hP hD hS (lv_sub hl [] rfl)
      · have g_553 : gi v5 0 53 := gi_le_l (Int32.not_lt.mp c_551) gv5 gv4
        refine lv_iload_n hx hb dX12_dueSpanOf_35 rfl (lv_at hl 3 rfl) ?_
        refine lv_iload_n hx hb dX12_dueSpanOf_36 rfl (lv_at hl 2 rfl) ?_
        refine lv_if_ne (tgt := 45) hx hb dX12_dueSpanOf_37 (by decide) (fun c_554 => ?_) (fun c_554 => ?_)
        · refine lv_iload hx hb dX12_dueSpanOf_45 (lv_at hl 4 rfl) ?_
          refine lv_iload hx hb dX12_dueSpanOf_47 (lv_at hl 5 rfl) ?_
          refine lv_isub hx hb dX12_dueSpanOf_49 ?_
          refine lv_topi (fun x_555 ex_555 => ?_)
          have gx_555 : gi x_555 0 53 := gi_subrel ex_555 (Int32.le_iff_toInt_le.mp (Int32.not_lt.mp c_551)) gv4 g_553 (by decide)
          refine lv_iadd hx hb dX12_dueSpanOf_50 ?_
          refine lv_topi (fun x_556 ex_556 => ?_)
          have gx_556 : gi x_556 0 1320 := gi_add ex_556 gv3 gx_555 (by decide)
          refine lv_istore (lv' := [(6, .int x_556), (0, .ref h0), (1, .int p1), (2, .int p2), (3, .int v3), (4, .int v4), (5, .int v5)]) hx hb dX12_dueSpanOf_51 hl (by decide) rfl (fun ls hl => ?_)
          refine lv_aload_n hx hb dX12_dueSpanOf_53 rfl (lv_at hl 1 rfl) ?_
          refine lv_iload_n hx hb dX12_dueSpanOf_54 rfl (lv_at hl 2 rfl) ?_
          refine lv_iload hx hb dX12_dueSpanOf_55 (lv_at hl 0 rfl) ?_
          have hPc := hP.sub (ws' := [(h0, .inr (12, fsMM mi mr)), ((mr 14), .inl (km_must, 25, .inl fm_must)), ((mr 15), .inl (km_least, 25, .inl fm_least)), ((mr 16), .inl (km_pin, 25, .inl z3)), ((mr 17), .inl (km_ways, 6875, .inl z4)), ((mr 8), .inl (km_deedMonth, 8, .inl fm_deedMonth)), ((mr 10), .inl (km_deedLong, 8, .inl fm_deedLong)), ((mr 11), .inl (km_deedKind, 8, .inl fm_deedKind)), ((mr 9), .inl (km_deedDay, 8, .inl fm_deedDay))]) [0, 1, 2, 3, 4, 5, 6, 7, 8] rfl
          have hKc := hK.sub (tys' := [(km_must, .int), (km_least, .int), (km_pin, .int), (km_ways, .int), (km_deedMonth, .int), (km_deedLong, .int), (km_deedKind, .int), (km_deedDay, .int)]) [0, 1, 2, 3, 4, 5, 6, 7] rfl
          have hDc := hD.sub (ws' := [(h0, .inr (12, fsMM mi mr)), ((mr 14), .inl (km_must, 25, .inl fm_must)), ((mr 15), .inl (km_least, 25, .inl fm_least)), ((mr 16), .inl (km_pin, 25, .inl z3)), ((mr 17), .inl (km_ways, 6875, .inl z4)), ((mr 8), .inl (km_deedMonth, 8, .inl fm_deedMonth)), ((mr 10), .inl (km_deedLong, 8, .inl fm_deedLong)), ((mr 11), .inl (km_deedKind, 8, .inl fm_deedKind)), ((mr 9), .inl (km_deedDay, 8, .inl fm_deedDay))]) [0, 1, 2, 3, 4, 5, 6, 7, 8] (by decide) rfl
          have hFc := va_free (wc := [(h0, .inr (12, fsMM mi mr)), ((mr 14), .inl (km_must, 25, .inl fm_must)), ((mr 15), .inl (km_least, 25, .inl fm_least)), ((mr 16), .inl (km_pin, 25, .inl z3)), ((mr 17), .inl (km_ways, 6875, .inl z4)), ((mr 8), .inl (km_deedMonth, 8, .inl fm_deedMonth)), ((mr 10), .inl (km_deedLong, 8, .inl fm_deedLong)), ((mr 11), .inl (km_deedKind, 8, .inl fm_deedKind)), ((mr 9), .inl (km_deedDay, 8, .inl fm_deedDay))]) hD hS hA [0, 1, 2, 3, 4, 5, 6, 7, 8] rfl
          refine va_calli (va_runV (As := [.int p1, .int x_556]) (rest := []) ⟨hx, hb, hml, hown, hts⟩ (sX12_duesOn l dC dI H.size h0 mi mr km_must fm_must km_least fm_least km_pin z3 km_ways z4 km_deedMonth fm_deedMonth km_deedLong fm_deedLong km_deedKind fm_deedKind km_deedDay fm_deedDay p1 x_556 gmi_0 gmi_1 gmi_2 gmi_4 gmi_7 gmi_10 gmi_17 gmi_23 gmi_24 gmi_26 gmi_29 gmi_30 gmi_33 gmi_37 gmi_41 gmi_50 gmi_51 gmi_56 gfm_deedMonth gfm_deedLong gp1 hdd) (cwV 2 hts (gz_gV mGB_484 mGB_485 mGB_486 mGB_1 mGB_487 goodGB) rfl rfl rfl (by decide +kernel) ⟨Nat.le_trans (Nat.le_of_ble_eq_true rfl) hRf, Nat.le_trans (Nat.le_of_ble_eq_true rfl) hRl⟩) ⟨fun a U g mk q => by obtain ⟨q0, q1, qP, qK, qD⟩ := q; exact ⟨q0, q1, qP, va_K.moved (u := U) (U := U.calling g mk a) (Vm.Alike.refl U.vm) qK, qD⟩, va_recv hKc hPc (ci := 12) (q0 := 0) rfl rfl, fun U hU hW => ⟨rfl, by rw [hU], by rw [hU]; exact hPc, va_K.moved hW.alike hKc, hDc.weaken (fun _ _ _ _ => trivial)⟩⟩ rfl rfl hl.1 rfl (lv_room (Nat.le_of_ble_eq_true rfl)) dX12_dueSpanOf_57 ⟨hRc, hRs⟩) hS (fun q _ h => hFc q h) hFc (fun r_557 u t H1 locs ht hvm hw hB hz1 hk1 hS => ?_)
          obtain ⟨f_558, f_559, hP1, hD1⟩ := hB
          rw [ht] at hP1
          obtain ⟨hP, hD⟩ := va_join (wr := []) (w1 := [(h0, .inr (12, fsMM mi mr)), ((mr 14), .inl (km_must, 25, .inl fm_must)), ((mr 15), .inl (km_least, 25, .inl fm_least)), ((mr 16), .inl (km_pin, 25, .inl f_558)), ((mr 17), .inl (km_ways, 6875, .inl f_559)), ((mr 8), .inl (km_deedMonth, 8, .inl fm_deedMonth)), ((mr 10), .inl (km_deedLong, 8, .inl fm_deedLong)), ((mr 11), .inl (km_deedKind, 8, .inl fm_deedKind)), ((mr 9), .inl (km_deedDay, 8, .inl fm_deedDay))]) hP hD [0, 1, 2, 3, 4, 5, 6, 7, 8] [] rfl rfl (by decide) (by decide) hk1 hFc hP1 hD1
          have hP := hP.sub (ws' := [(h0, .inr (12, fsMM mi mr)), ((mr 14), .inl (km_must, 25, .inl fm_must)), ((mr 15), .inl (km_least, 25, .inl fm_least)), ((mr 16), .inl (km_pin, 25, .inl f_558)), ((mr 17), .inl (km_ways, 6875, .inl f_559)), ((mr 8), .inl (km_deedMonth, 8, .inl fm_deedMonth)), ((mr 10), .inl (km_deedLong, 8, .inl fm_deedLong)), ((mr 11), .inl (km_deedKind, 8, .inl fm_deedKind)), ((mr 9), .inl (km_deedDay, 8, .inl fm_deedDay))]) [0, 1, 2, 3, 4, 5, 6, 7, 8] rfl
          have hD := hD.sub (ws' := [(h0, .inr (12, fsMM mi mr)), ((mr 14), .inl (km_must, 25, .inl fm_must)), ((mr 15), .inl (km_least, 25, .inl fm_least)), ((mr 16), .inl (km_pin, 25, .inl f_558)), ((mr 17), .inl (km_ways, 6875, .inl f_559)), ((mr 8), .inl (km_deedMonth, 8, .inl fm_deedMonth)), ((mr 10), .inl (km_deedLong, 8, .inl fm_deedLong)), ((mr 11), .inl (km_deedKind, 8, .inl fm_deedKind)), ((mr 9), .inl (km_deedDay, 8, .inl fm_deedDay))]) [0, 1, 2, 3, 4, 5, 6, 7, 8] (by decide) rfl
          generalize H1 = H at hP hS ⊢
          refine lv_if_le (tgt := 66) hx hb dX12_dueSpanOf_60 (by decide) (fun c_560 => ?_) (fun c_560 => ?_)
          · have g_561 : gi r_557 (-2147483648) 0 := gi_le_l c_560 (gi_any r_557) (gi_c 0 0 (by decide))
            obtain ⟨x_562, ex_562⟩ : ∃ y : Int32, y = v5 + 1 := ⟨_, rfl⟩
            have gx_562 : gi x_562 1 54 := gi_add ex_562 g_553 (gi_c 1 1 (by decide)) (by decide)
            refine lv_iinc (v := x_562) (lv' := [(5, .int x_562), (6, .int x_556), (0, .ref h0), (1, .int p1), (2, .int p2), (3, .int v3), (4, .int v4)]) hx hb dX12_dueSpanOf_66 hl (k := 6) rfl (by rw [ex_562]; rfl) (by decide) rfl (fun ls hl => ?_)
            refine lv_goto (tgt := 28) hx hb dX12_dueSpanOf_69 (by decide) ?_
            exact ih v3 v4 x_562 f_558 f_559 _ _ _ gv3 gv4 (gi_w gx_562 (by decide)) (by have av5 := gv5.1; have bv5 := gv5.2; have qgx_562 := gx_562.1; have rgx_562 := gx_562.2; have igx_562 : x_562.toInt = v5.toInt + 1 := (by have hc1 : (1 : Int32).toInt = 1 := (by decide); have h9 := gi_addI ex_562 (by have h1 := g_553.1; have h2 := (gi_c 1 1 (by decide)).1; have h3 := g_553.2; have h4 := (gi_c 1 1 (by decide)).2; omega) (by have h1 := g_553.1; have h2 := (gi_c 1 1 (by decide)).1; have h3 := g_553.2; have h4 := (gi_c 1 1 (by decide)).2; omega); rw [hc1] at h9; exact h9); have qgv5 := g_553.1; have rgv5 := g_553.2; omega) hP hD hS (lv_sub hl [2, 3, 4, 5, 6, 0] rfl)
          · have g_563 : gi r_557 1 2147483647 := gi_lt_r (Int32.not_le.mp c_560) (gi_c 0 0 (by decide)) (gi_any r_557) (by decide)
            refine lv_iload hx hb dX12_dueSpanOf_63 (lv_at hl 0 rfl) ?_
            exact kr65 x_556 f_558 f_559 _ _ _ gx_556 hP hD hS (lv_sub hl [] rfl)
        · have g_564 : gi p2 0 0 := gi_eq c_554 (gi_c 0 0 (by decide))
          refine lv_iload hx hb dX12_dueSpanOf_40 (lv_at hl 5 rfl) ?_
          refine lv_goto (tgt := 50) hx hb dX12_dueSpanOf_42 (by decide) ?_
          refine lv_iadd hx hb dX12_dueSpanOf_50 ?_
          refine lv_topi (fun x_565 ex_565 => ?_)
          have gx_565 : gi x_565 0 1320 := gi_add ex_565 gv3 g_553 (by decide)
          refine lv_istore (lv' := [(6, .int x_565), (0, .ref h0), (1, .int p1), (2, .int p2), (3, .int v3), (4, .int v4), (5, .int v5)]) hx hb dX12_dueSpanOf_51 hl (by decide) rfl (fun ls hl => ?_)
          refine lv_aload_n hx hb dX12_dueSpanOf_53 rfl (lv_at hl 1 rfl) ?_
          refine lv_iload_n hx hb dX12_dueSpanOf_54 rfl (lv_at hl 2 rfl) ?_
          refine lv_iload hx hb dX12_dueSpanOf_55 (lv_at hl 0 rfl) ?_
          have hPc := hP.sub (ws' := [(h0, .inr (12, fsMM mi mr)), ((mr 14), .inl (km_must, 25, .inl fm_must)), ((mr 15), .inl (km_least, 25, .inl fm_least)), ((mr 16), .inl (km_pin, 25, .inl z3)), ((mr 17), .inl (km_ways, 6875, .inl z4)), ((mr 8), .inl (km_deedMonth, 8, .inl fm_deedMonth)), ((mr 10), .inl (km_deedLong, 8, .inl fm_deedLong)), ((mr 11), .inl (km_deedKind, 8, .inl fm_deedKind)), ((mr 9), .inl (km_deedDay, 8, .inl fm_deedDay))]) [0, 1, 2, 3, 4, 5, 6, 7, 8] rfl
          have hKc := hK.sub (tys' := [(km_must, .int), (km_least, .int), (km_pin, .int), (km_ways, .int), (km_deedMonth, .int), (km_deedLong, .int), (km_deedKind, .int), (km_deedDay, .int)]) [0, 1, 2, 3, 4, 5, 6, 7] rfl
          have hDc := hD.sub (ws' := [(h0, .inr (12, fsMM mi mr)), ((mr 14), .inl (km_must, 25, .inl fm_must)), ((mr 15), .inl (km_least, 25, .inl fm_least)), ((mr 16), .inl (km_pin, 25, .inl z3)), ((mr 17), .inl (km_ways, 6875, .inl z4)), ((mr 8), .inl (km_deedMonth, 8, .inl fm_deedMonth)), ((mr 10), .inl (km_deedLong, 8, .inl fm_deedLong)), ((mr 11), .inl (km_deedKind, 8, .inl fm_deedKind)), ((mr 9), .inl (km_deedDay, 8, .inl fm_deedDay))]) [0, 1, 2, 3, 4, 5, 6, 7, 8] (by decide) rfl
          have hFc := va_free (wc := [(h0, .inr (12, fsMM mi mr)), ((mr 14), .inl (km_must, 25, .inl fm_must)), ((mr 15), .inl (km_least, 25, .inl fm_least)), ((mr 16), .inl (km_pin, 25, .inl z3)), ((mr 17), .inl (km_ways, 6875, .inl z4)), ((mr 8), .inl (km_deedMonth, 8, .inl fm_deedMonth)), ((mr 10), .inl (km_deedLong, 8, .inl fm_deedLong)), ((mr 11), .inl (km_deedKind, 8, .inl fm_deedKind)), ((mr 9), .inl (km_deedDay, 8, .inl fm_deedDay))]) hD hS hA [0, 1, 2, 3, 4, 5, 6, 7, 8] rfl
          refine va_calli (va_runV (As := [.int p1, .int x_565]) (rest := []) ⟨hx, hb, hml, hown, hts⟩ (sX12_duesOn l dC dI H.size h0 mi mr km_must fm_must km_least fm_least km_pin z3 km_ways z4 km_deedMonth fm_deedMonth km_deedLong fm_deedLong km_deedKind fm_deedKind km_deedDay fm_deedDay p1 x_565 gmi_0 gmi_1 gmi_2 gmi_4 gmi_7 gmi_10 gmi_17 gmi_23 gmi_24 gmi_26 gmi_29 gmi_30 gmi_33 gmi_37 gmi_41 gmi_50 gmi_51 gmi_56 gfm_deedMonth gfm_deedLong gp1 hdd) (cwV 2 hts (gz_gV mGB_484 mGB_485 mGB_486 mGB_1 mGB_487 goodGB) rfl rfl rfl (by decide +kernel) ⟨Nat.le_trans (Nat.le_of_ble_eq_true rfl) hRf, Nat.le_trans (Nat.le_of_ble_eq_true rfl) hRl⟩) ⟨fun a U g mk q => by obtain ⟨q0, q1, qP, qK, qD⟩ := q; exact ⟨q0, q1, qP, va_K.moved (u := U) (U := U.calling g mk a) (Vm.Alike.refl U.vm) qK, qD⟩, va_recv hKc hPc (ci := 12) (q0 := 0) rfl rfl, fun U hU hW => ⟨rfl, by rw [hU], by rw [hU]; exact hPc, va_K.moved hW.alike hKc, hDc.weaken (fun _ _ _ _ => trivial)⟩⟩ rfl rfl hl.1 rfl (lv_room (Nat.le_of_ble_eq_true rfl)) dX12_dueSpanOf_57 ⟨hRc, hRs⟩) hS (fun q _ h => hFc q h) hFc (fun r_566 u t H1 locs ht hvm hw hB hz1 hk1 hS => ?_)
          obtain ⟨f_567, f_568, hP1, hD1⟩ := hB
          rw [ht] at hP1
          obtain ⟨hP, hD⟩ := va_join (wr := []) (w1 := [(h0, .inr (12, fsMM mi mr)), ((mr 14), .inl (km_must, 25, .inl fm_must)), ((mr 15), .inl (km_least, 25, .inl fm_least)), ((mr 16), .inl (km_pin, 25, .inl f_567)), ((mr 17), .inl (km_ways, 6875, .inl f_568)), ((mr 8), .inl (km_deedMonth, 8, .inl fm_deedMonth)), ((mr 10), .inl (km_deedLong, 8, .inl fm_deedLong)), ((mr 11), .inl (km_deedKind, 8, .inl fm_deedKind)), ((mr 9), .inl (km_deedDay, 8, .inl fm_deedDay))]) hP hD [0, 1, 2, 3, 4, 5, 6, 7, 8] [] rfl rfl (by decide) (by decide) hk1 hFc hP1 hD1
          have hP := hP.sub (ws' := [(h0, .inr (12, fsMM mi mr)), ((mr 14), .inl (km_must, 25, .inl fm_must)), ((mr 15), .inl (km_least, 25, .inl fm_least)), ((mr 16), .inl (km_pin, 25, .inl f_567)), ((mr 17), .inl (km_ways, 6875, .inl f_568)), ((mr 8), .inl (km_deedMonth, 8, .inl fm_deedMonth)), ((mr 10), .inl (km_deedLong, 8, .inl fm_deedLong)), ((mr 11), .inl (km_deedKind, 8, .inl fm_deedKind)), ((mr 9), .inl (km_deedDay, 8, .inl fm_deedDay))]) [0, 1, 2, 3, 4, 5, 6, 7, 8] rfl
          have hD := hD.sub (ws' := [(h0, .inr (12, fsMM mi mr)), ((mr 14), .inl (km_must, 25, .inl fm_must)), ((mr 15), .inl (km_least, 25, .inl fm_least)), ((mr 16), .inl (km_pin, 25, .inl f_567)), ((mr 17), .inl (km_ways, 6875, .inl f_568)), ((mr 8), .inl (km_deedMonth, 8, .inl fm_deedMonth)), ((mr 10), .inl (km_deedLong, 8, .inl fm_deedLong)), ((mr 11), .inl (km_deedKind, 8, .inl fm_deedKind)), ((mr 9), .inl (km_deedDay, 8, .inl fm_deedDay))]) [0, 1, 2, 3, 4, 5, 6, 7, 8] (by decide) rfl
          generalize H1 = H at hP hS ⊢
          refine lv_if_le (tgt := 66) hx hb dX12_dueSpanOf_60 (by decide) (fun c_569 => ?_) (fun c_569 => ?_)
          · have g_570 : gi r_566 (-2147483648) 0 := gi_le_l c_569 (gi_any r_566) (gi_c 0 0 (by decide))
            obtain ⟨x_571, ex_571⟩ : ∃ y : Int32, y = v5 + 1 := ⟨_, rfl⟩
            have gx_571 : gi x_571 1 54 := gi_add ex_571 g_553 (gi_c 1 1 (by decide)) (by decide)
            refine lv_iinc (v := x_571) (lv' := [(5, .int x_571), (6, .int x_565), (0, .ref h0), (1, .int p1), (2, .int p2), (3, .int v3), (4, .int v4)]) hx hb dX12_dueSpanOf_66 hl (k := 6) rfl (by rw [ex_571]; rfl) (by decide) rfl (fun ls hl => ?_)
            refine lv_goto (tgt := 28) hx hb dX12_dueSpanOf_69 (by decide) ?_
            exact ih v3 v4 x_571 f_567 f_568 _ _ _ gv3 gv4 (gi_w gx_571 (by decide)) (by have av5 := gv5.1; have bv5 := gv5.2; have qgx_571 := gx_571.1; have rgx_571 := gx_571.2; have igx_571 : x_571.toInt = v5.toInt + 1 := (by have hc1 : (1 : Int32).toInt = 1 := (by decide); have h9 := gi_addI ex_571 (by have h1 := g_553.1; have h2 := (gi_c 1 1 (by decide)).1; have h3 := g_553.2; have h4 := (gi_c 1 1 (by decide)).2; omega) (by have h1 := g_553.1; have h2 := (gi_c 1 1 (by decide)).1; have h3 := g_553.2; have h4 := (gi_c 1 1 (by decide)).2; omega); rw [hc1] at h9; exact h9); have qgv5 := g_553.1; have rgv5 := g_553.2; omega) hP hD hS (lv_sub hl [2, 3, 4, 5, 6, 0] rfl)
          · have g_572 : gi r_566 1 2147483647 := gi_lt_r (Int32.not_le.mp c_569) (gi_c 0 0 (by decide)) (gi_any r_566) (by decide)
            refine lv_iload hx hb dX12_dueSpanOf_63 (lv_at hl 0 rfl) ?_
            exact kr65 x_565 f_567 f_568 _ _ _ gx_565 hP hD hS (lv_sub hl [] rfl)
set_option maxHeartbeats 4000000 in
set_option maxRecDepth 100000 in
theorem sX12_dueSpanOf (l : Launch) (dC : Nat → ClassId) (dI : Nat → Nat → Nat) (sz : Nat) (h0 : Nat) (mi : Nat → Int32) (mr : Nat → Nat) (km_must : ClassId) (fm_must : Nat → Int32) (km_least : ClassId) (fm_least : Nat → Int32) (km_pin : ClassId) (fm_pin : Nat → Int32) (km_ways : ClassId) (fm_ways : Nat → Int32) (km_deedMonth : ClassId) (fm_deedMonth : Nat → Int32) (km_deedLong : ClassId) (fm_deedLong : Nat → Int32) (km_deedKind : ClassId) (fm_deedKind : Nat → Int32) (km_deedDay : ClassId) (fm_deedDay : Nat → Int32) (p1 : Int32) (p2 : Int32) (gmi_0 : gi (mi 0) 0 24) (gmi_1 : gi (mi 1) 0 5) (gmi_2 : gi (mi 2) 0 5) (gmi_4 : gi (mi 4) 0 1) (gmi_7 : gi (mi 7) 0 6) (gmi_10 : gi (mi 10) 0 24) (gmi_17 : gi (mi 17) 0 8) (gmi_23 : gi (mi 23) 0 300) (gmi_24 : gi (mi 24) 0 1) (gmi_26 : gi (mi 26) 0 1600) (gmi_29 : gi (mi 29) 0 1600) (gmi_30 : gi (mi 30) 0 1600) (gmi_33 : gi (mi 33) 0 1) (gmi_37 : gi (mi 37) 0 1) (gmi_41 : gi (mi 41) 0 24) (gmi_50 : gi (mi 50) 0 1) (gmi_51 : gi (mi 51) 0 1) (gmi_56 : gi (mi 56) 0 80) (gfm_deedMonth : ga fm_deedMonth 8 0 23) (gfm_deedLong : ga fm_deedLong 8 0 600) (gp1 : gi p1 0 7) (hdd : ∀ j : Nat, j < 8 → ((fm_deedKind j).toInt ≠ 0 ∨ (fm_deedMonth j).toInt + (fm_deedLong j).toInt ≤ 23)) : Met l yX12_dueSpanOf (.code yX12_dueSpanOf cX12_dueSpanOf 7 (some .int) :: wsGB) ({ frames := 7, cells := 0, slots := 0, locals := 170 }) (va_Pc [.ref h0, .int p1, .int p2] (fun U => U.heap.size = sz ∧ va_P (dC, dI) vwCl [(h0, .inr (12, fsMM mi mr)), ((mr 14), .inl (km_must, 25, .inl fm_must)), ((mr 15), .inl (km_least, 25, .inl fm_least)), ((mr 16), .inl (km_pin, 25, .inl fm_pin)), ((mr 17), .inl (km_ways, 6875, .inl fm_ways)), ((mr 8), .inl (km_deedMonth, 8, .inl fm_deedMonth)), ((mr 10), .inl (km_deedLong, 8, .inl fm_deedLong)), ((mr 11), .inl (km_deedKind, 8, .inl fm_deedKind)), ((mr 9), .inl (km_deedDay, 8, .inl fm_deedDay))] U.heap ∧ va_K (dC, dI) vwCl [(km_must, .int), (km_least, .int), (km_pin, .int), (km_ways, .int), (km_deedMonth, .int), (km_deedLong, .int), (km_deedKind, .int), (km_deedDay, .int)] U ∧ va_D (fun _ => True) [(h0, .inr (12, fsMM mi mr)), ((mr 14), .inl (km_must, 25, .inl fm_must)), ((mr 15), .inl (km_least, 25, .inl fm_least)), ((mr 16), .inl (km_pin, 25, .inl fm_pin)), ((mr 17), .inl (km_ways, 6875, .inl fm_ways)), ((mr 8), .inl (km_deedMonth, 8, .inl fm_deedMonth)), ((mr 10), .inl (km_deedLong, 8, .inl fm_deedLong)), ((mr 11), .inl (km_deedKind, 8, .inl fm_deedKind)), ((mr 9), .inl (km_deedDay, 8, .inl fm_deedDay))])) (va_Qi (fun (r : Int32) (u : Unit) => gi r (-2) 1320) (fun _ t => ∃ (z3 : Nat → Int32) (z4 : Nat → Int32), va_P (dC, dI) vwCl [(h0, .inr (12, fsMM mi mr)), ((mr 14), .inl (km_must, 25, .inl fm_must)), ((mr 15), .inl (km_least, 25, .inl fm_least)), ((mr 16), .inl (km_pin, 25, .inl z3)), ((mr 17), .inl (km_ways, 6875, .inl z4)), ((mr 8), .inl (km_deedMonth, 8, .inl fm_deedMonth)), ((mr 10), .inl (km_deedLong, 8, .inl fm_deedLong)), ((mr 11), .inl (km_deedKind, 8, .inl fm_deedKind)), ((mr 9), .inl (km_deedDay, 8, .inl fm_deedDay))] t.heap ∧ va_D (va_A [(h0, .inr (12, fsMM mi mr)), ((mr 14), .inl (km_must, 25, .inl fm_must)), ((mr 15), .inl (km_least, 25, .inl fm_least)), ((mr 16), .inl (km_pin, 25, .inl fm_pin)), ((mr 17), .inl (km_ways, 6875, .inl fm_ways)), ((mr 8), .inl (km_deedMonth, 8, .inl fm_deedMonth)), ((mr 10), .inl (km_deedLong, 8, .inl fm_deedLong)), ((mr 11), .inl (km_deedKind, 8, .inl fm_deedKind)), ((mr 9), .inl (km_deedDay, 8, .inl fm_deedDay))] sz) [(h0, .inr (12, fsMM mi mr)), ((mr 14), .inl (km_must, 25, .inl fm_must)), ((mr 15), .inl (km_least, 25, .inl fm_least)), ((mr 16), .inl (km_pin, 25, .inl z3)), ((mr 17), .inl (km_ways, 6875, .inl z4)), ((mr 8), .inl (km_deedMonth, 8, .inl fm_deedMonth)), ((mr 10), .inl (km_deedLong, 8, .inl fm_deedLong)), ((mr 11), .inl (km_deedKind, 8, .inl fm_deedKind)), ((mr 9), .inl (km_deedDay, 8, .inl fm_deedDay))]) (va_A [(h0, .inr (12, fsMM mi mr)), ((mr 14), .inl (km_must, 25, .inl fm_must)), ((mr 15), .inl (km_least, 25, .inl fm_least)), ((mr 16), .inl (km_pin, 25, .inl fm_pin)), ((mr 17), .inl (km_ways, 6875, .inl fm_ways)), ((mr 8), .inl (km_deedMonth, 8, .inl fm_deedMonth)), ((mr 10), .inl (km_deedLong, 8, .inl fm_deedLong)), ((mr 11), .inl (km_deedKind, 8, .inl fm_deedKind)), ((mr 9), .inl (km_deedDay, 8, .inl fm_deedDay))] sz)) 0 0 (va_A [(h0, .inr (12, fsMM mi mr)), ((mr 14), .inl (km_must, 25, .inl fm_must)), ((mr 15), .inl (km_least, 25, .inl fm_least)), ((mr 16), .inl (km_pin, 25, .inl fm_pin)), ((mr 17), .inl (km_ways, 6875, .inl fm_ways)), ((mr 8), .inl (km_deedMonth, 8, .inl fm_deedMonth)), ((mr 10), .inl (km_deedLong, 8, .inl fm_deedLong)), ((mr 11), .inl (km_deedKind, 8, .inl fm_deedKind)), ((mr 9), .inl (km_deedDay, 8, .inl fm_deedDay))] sz) := by
  refine Met.ofW (cc := cX12_dueSpanOf) (maxL := 7) (ret := (some .int)) (by decide) rfl ?_
  intro p e s m args below meth c s₁ B hml hv
  obtain ⟨rfl, hsz, hP, hK, hD0⟩ := hv
  have hx := B.exec
  have hb := B.bytes
  have hr := B.returns
  have hts := atoms_spec (ws := (.code yX12_dueSpanOf cX12_dueSpanOf 7 (some .int) :: wsGB)) B.pre
  have hown : s.vm.findClass RX12 = some m.cls := findClass_of_methodNamed B.named
  have hlocks := B.notSynchronized
  subst hsz
  have hD := hD0.self (sz := s.heap.size)
  generalize hAe : va_A [(h0, .inr (12, fsMM mi mr)), ((mr 14), .inl (km_must, 25, .inl fm_must)), ((mr 15), .inl (km_least, 25, .inl fm_least)), ((mr 16), .inl (km_pin, 25, .inl fm_pin)), ((mr 17), .inl (km_ways, 6875, .inl fm_ways)), ((mr 8), .inl (km_deedMonth, 8, .inl fm_deedMonth)), ((mr 10), .inl (km_deedLong, 8, .inl fm_deedLong)), ((mr 11), .inl (km_deedKind, 8, .inl fm_deedKind)), ((mr 9), .inl (km_deedDay, 8, .inl fm_deedDay))] s.heap.size = A at hD ⊢
  have hA : ∀ q : Nat, s.heap.size ≤ q → A q := fun q h => by rw [← hAe]; exact Or.inr h
  have hS : va_S A s.heap s.heap [] := va_S.rf
  have hl := lv_entry ([.ref h0, .int p1, .int p2]) (n := 7) (Nat.le_of_ble_eq_true rfl)
  rw [lg_entry_eq]
  generalize (lg_sl ([.ref h0, .int p1, .int p2]) ++ List.replicate (7 - (lg_sl ([.ref h0, .int p1, .int p2])).length) Slot.unset).toArray = ls at hl ⊢
  have hl : lv_has ls 7 [(0, .ref h0), (1, .int p1), (2, .int p2)] := hl
  refine lv_bipush (v := 29) hx hb dX12_dueSpanOf_0 (by decide) ?_
  refine lv_aload_n hx hb dX12_dueSpanOf_2 rfl (lv_at hl 0 rfl) ?_
  refine lv_iload_n hx hb dX12_dueSpanOf_3 rfl (lv_at hl 1 rfl) ?_
  have hPc := hP.sub (ws' := [(h0, .inr (12, fsMM mi mr)), ((mr 8), .inl (km_deedMonth, 8, .inl fm_deedMonth)), ((mr 10), .inl (km_deedLong, 8, .inl fm_deedLong)), ((mr 11), .inl (km_deedKind, 8, .inl fm_deedKind))]) [0, 5, 6, 7] rfl
  have hKc := hK.sub (tys' := [(km_deedMonth, .int), (km_deedLong, .int), (km_deedKind, .int)]) [4, 5, 6] rfl
  refine va_calli (va_runV (As := [.int p1]) (rest := [.int 29]) ⟨hx, hb, hml, hown, hts⟩ (sX12_monthOf l dC dI h0 mi mr km_deedMonth fm_deedMonth km_deedLong fm_deedLong km_deedKind fm_deedKind p1 gmi_0 gmi_1 gmi_2 gmi_4 gmi_7 gmi_10 gmi_17 gmi_23 gmi_24 gmi_26 gmi_29 gmi_30 gmi_33 gmi_37 gmi_41 gmi_50 gmi_51 gmi_56 gfm_deedMonth gfm_deedLong gp1 hdd) (cwV 1 hts (gz_gV mGB_459 mGB_460 mGB_461 mGB_1 mGB_462 goodGB) rfl rfl rfl (by decide +kernel) ⟨Nat.le_of_ble_eq_true rfl, Nat.le_of_ble_eq_true rfl⟩) ⟨fun a U g mk q => by obtain ⟨q0, qP, qK⟩ := q; exact ⟨q0, qP, va_K.moved (u := U) (U := U.calling g mk a) (Vm.Alike.refl U.vm) qK⟩, va_recv hKc hPc (ci := 12) (q0 := 0) rfl rfl, fun U hU hW => ⟨rfl, by rw [hU]; exact hPc, va_K.moved hW.alike hKc⟩⟩ rfl rfl hl.1 rfl (lv_room (Nat.le_of_ble_eq_true rfl)) dX12_dueSpanOf_4 ⟨Nat.zero_le _, Nat.zero_le _⟩) hS (fun q _ h => h.elim) (fun q h => h.elim) (fun r_573 u t H1 locs ht hvm hw hB hz1 hk1 hS => ?_)
  have hP := gz_keep hP hk1
  generalize H1 = H at hP hS ⊢
  have gr_573 : gi r_573 0 23 := hw
  refine lv_imul hx hb dX12_dueSpanOf_7 ?_
  refine lv_topi (fun x_574 ex_574 => ?_)
  have gx_574 : gi x_574 0 667 := gi_mul ex_574 (gi_c 29 29 (by decide)) gr_573 (by decide)
  refine lv_aload_n hx hb dX12_dueSpanOf_8 rfl (lv_at hl 0 rfl) ?_
  refine lv_iload_n hx hb dX12_dueSpanOf_9 rfl (lv_at hl 1 rfl) ?_
  have hPc := hP.sub (ws' := [(h0, .inr (12, fsMM mi mr)), ((mr 8), .inl (km_deedMonth, 8, .inl fm_deedMonth)), ((mr 10), .inl (km_deedLong, 8, .inl fm_deedLong)), ((mr 11), .inl (km_deedKind, 8, .inl fm_deedKind))]) [0, 5, 6, 7] rfl
  have hKc := hK.sub (tys' := [(km_deedMonth, .int), (km_deedLong, .int), (km_deedKind, .int)]) [4, 5, 6] rfl
  refine va_calli (va_runV (As := [.int p1]) (rest := [.int x_574]) ⟨hx, hb, hml, hown, hts⟩ (sX12_behindOf l dC dI h0 mi mr km_deedMonth fm_deedMonth km_deedLong fm_deedLong km_deedKind fm_deedKind p1 gmi_0 gmi_1 gmi_2 gmi_4 gmi_7 gmi_10 gmi_17 gmi_23 gmi_24 gmi_26 gmi_29 gmi_30 gmi_33 gmi_37 gmi_41 gmi_50 gmi_51 gmi_56 gfm_deedMonth gfm_deedLong gp1) (cwV 1 hts (gz_gV mGB_463 mGB_464 mGB_465 mGB_1 mGB_466 goodGB) rfl rfl rfl (by decide +kernel) ⟨Nat.le_of_ble_eq_true rfl, Nat.le_of_ble_eq_true rfl⟩) ⟨fun a U g mk q => by obtain ⟨q0, qP, qK⟩ := q; exact ⟨q0, qP, va_K.moved (u := U) (U := U.calling g mk a) (Vm.Alike.refl U.vm) qK⟩, va_recv hKc hPc (ci := 12) (q0 := 0) rfl rfl, fun U hU hW => ⟨rfl, by rw [hU]; exact hPc, va_K.moved hW.alike hKc⟩⟩ rfl rfl hl.1 rfl (lv_room (Nat.le_of_ble_eq_true rfl)) dX12_dueSpanOf_10 ⟨Nat.zero_le _, Nat.zero_le _⟩) hS (fun q _ h => h.elim) (fun q h => h.elim) (fun r_575 u t H1 locs ht hvm hw hB hz1 hk1 hS => ?_)
  have hP := gz_keep hP hk1
  generalize H1 = H at hP hS ⊢
  have gr_575 : gi r_575 0 600 := hw
  refine lv_iadd hx hb dX12_dueSpanOf_13 ?_
  refine lv_topi (fun x_576 ex_576 => ?_)
  have gx_576 : gi x_576 0 1267 := gi_add ex_576 gx_574 gr_575 (by decide)
  refine lv_istore_n (lv' := [(3, .int x_576), (0, .ref h0), (1, .int p1), (2, .int p2)]) hx hb dX12_dueSpanOf_14 rfl hl (by decide) rfl (fun ls hl => ?_)
  refine lv_aload_n hx hb dX12_dueSpanOf_15 rfl (lv_at hl 1 rfl) ?_
  refine lv_iload_n hx hb dX12_dueSpanOf_16 rfl (lv_at hl 2 rfl) ?_
  have hPc := hP.sub (ws' := [(h0, .inr (12, fsMM mi mr)), ((mr 8), .inl (km_deedMonth, 8, .inl fm_deedMonth)), ((mr 10), .inl (km_deedLong, 8, .inl fm_deedLong)), ((mr 11), .inl (km_deedKind, 8, .inl fm_deedKind))]) [0, 5, 6, 7] rfl
  have hKc := hK.sub (tys' := [(km_deedMonth, .int), (km_deedLong, .int), (km_deedKind, .int)]) [4, 5, 6] rfl
  refine va_calli (va_runV (As := [.int p1]) (rest := []) ⟨hx, hb, hml, hown, hts⟩ (sX12_monthOf l dC dI h0 mi mr km_deedMonth fm_deedMonth km_deedLong fm_deedLong km_deedKind fm_deedKind p1 gmi_0 gmi_1 gmi_2 gmi_4 gmi_7 gmi_10 gmi_17 gmi_23 gmi_24 gmi_26 gmi_29 gmi_30 gmi_33 gmi_37 gmi_41 gmi_50 gmi_51 gmi_56 gfm_deedMonth gfm_deedLong gp1 hdd) (cwV 1 hts (gz_gV mGB_459 mGB_460 mGB_461 mGB_1 mGB_462 goodGB) rfl rfl rfl (by decide +kernel) ⟨Nat.le_of_ble_eq_true rfl, Nat.le_of_ble_eq_true rfl⟩) ⟨fun a U g mk q => by obtain ⟨q0, qP, qK⟩ := q; exact ⟨q0, qP, va_K.moved (u := U) (U := U.calling g mk a) (Vm.Alike.refl U.vm) qK⟩, va_recv hKc hPc (ci := 12) (q0 := 0) rfl rfl, fun U hU hW => ⟨rfl, by rw [hU]; exact hPc, va_K.moved hW.alike hKc⟩⟩ rfl rfl hl.1 rfl (lv_room (Nat.le_of_ble_eq_true rfl)) dX12_dueSpanOf_17 ⟨Nat.zero_le _, Nat.zero_le _⟩) hS (fun q _ h => h.elim) (fun q h => h.elim) (fun r_577 u t H1 locs ht hvm hw hB hz1 hk1 hS => ?_)
  have hP := gz_keep hP hk1
  generalize H1 = H at hP hS ⊢
  have gr_577 : gi r_577 0 23 := hw
  refine lv_bipush (v := 30) hx hb dX12_dueSpanOf_20 (by decide) ?_
  refine lv_iadd hx hb dX12_dueSpanOf_22 ?_
  refine lv_topi (fun x_578 ex_578 => ?_)
  have gx_578 : gi x_578 30 53 := gi_add ex_578 gr_577 (gi_c 30 30 (by decide)) (by decide)
  refine lv_istore (lv' := [(4, .int x_578), (3, .int x_576), (0, .ref h0), (1, .int p1), (2, .int p2)]) hx hb dX12_dueSpanOf_23 hl (by decide) rfl (fun ls hl => ?_)
  refine lv_iconst (v := 0) hx hb dX12_dueSpanOf_25 (by decide) ?_
  refine lv_istore (lv' := [(5, .int 0), (4, .int x_578), (3, .int x_576), (0, .ref h0), (1, .int p1), (2, .int p2)]) hx hb dX12_dueSpanOf_26 hl (by decide) rfl (fun ls hl => ?_)
  refine (lp_sX12_dueSpanOf h0 mi mr km_must fm_must km_least fm_least km_pin fm_pin km_ways fm_ways km_deedMonth fm_deedMonth km_deedLong fm_deedLong km_deedKind fm_deedKind km_deedDay fm_deedDay p1 p2 gmi_0 gmi_1 gmi_2 gmi_4 gmi_7 gmi_10 gmi_17 gmi_23 gmi_24 gmi_26 gmi_29 gmi_30 gmi_33 gmi_37 gmi_41 gmi_50 gmi_51 gmi_56 gfm_deedMonth gfm_deedLong gp1 hdd hx hb hml hown hts hK hA (Nat.le_of_ble_eq_true rfl) (Nat.le_of_ble_eq_true rfl) (Nat.zero_le _) (Nat.zero_le _) (fun v z3 z4 H locs ls gv hP hD hS hl => ?_) (fun v z3 z4 H locs ls gv hP hD hS hl => ?_) 158) x_576 x_578 0 fm_pin fm_ways _ _ _ gx_576 gx_578 (gi_w (gi_c 0 0 (by decide)) (by decide)) (by have k0 : (0 : Int32).toInt = 0 := (by decide); omega) hP hD hS (lv_sub hl [3, 4, 5, 2, 1, 0] rfl)
  · skip
    exact W.iret (v := v) hx hb hr (fun t ht hW => ⟨⟨v, (), rfl, (gi_w gv (by decide)), z3, z4, by rw [ht]; exact hP, hD⟩, hS.F ht⟩) hS.2.2 dX12_dueSpanOf_74
  · skip
    exact W.iret (v := v) hx hb hr (fun t ht hW => ⟨⟨v, (), rfl, (gi_w gv (by decide)), z3, z4, by rw [ht]; exact hP, hD⟩, hS.F ht⟩) hS.2.2 dX12_dueSpanOf_65
theorem dX12_dueSpan_0 : decode cX12_dueSpan 0 = .ok (.aload_n 0, 1) := by decide +kernel
theorem dX12_dueSpan_1 : decode cX12_dueSpan 1 = .ok (.iload_n 1, 1) := by decide +kernel
theorem dX12_dueSpan_2 : decode cX12_dueSpan 2 = .ok (.invokevirtual 359, 3) := by decide +kernel
theorem dX12_dueSpan_5 : decode cX12_dueSpan 5 = .ok (.ifCond .eq 21, 3) := by decide +kernel
theorem dX12_dueSpan_8 : decode cX12_dueSpan 8 = .ok (.aload_n 0, 1) := by decide +kernel
theorem dX12_dueSpan_9 : decode cX12_dueSpan 9 = .ok (.iload_n 2, 1) := by decide +kernel
theorem dX12_dueSpan_10 : decode cX12_dueSpan 10 = .ok (.invokevirtual 306, 3) := by decide +kernel
theorem dX12_dueSpan_13 : decode cX12_dueSpan 13 = .ok (.ifCond .eq 13, 3) := by decide +kernel
theorem dX12_dueSpan_16 : decode cX12_dueSpan 16 = .ok (.iload_n 3, 1) := by decide +kernel
theorem dX12_dueSpan_17 : decode cX12_dueSpan 17 = .ok (.i2l, 1) := by decide +kernel
theorem dX12_dueSpan_18 : decode cX12_dueSpan 18 = .ok (.lconst 0, 1) := by decide +kernel
theorem dX12_dueSpan_19 : decode cX12_dueSpan 19 = .ok (.lconst 1, 1) := by decide +kernel
theorem dX12_dueSpan_20 : decode cX12_dueSpan 20 = .ok (.invokestatic 102, 3) := by decide +kernel
theorem dX12_dueSpan_23 : decode cX12_dueSpan 23 = .ok (.ifCond .ne 6, 3) := by decide +kernel
theorem dX12_dueSpan_26 : decode cX12_dueSpan 26 = .ok (.bipush (-2), 2) := by decide +kernel
theorem dX12_dueSpan_28 : decode cX12_dueSpan 28 = .ok (.ireturn, 1) := by decide +kernel
theorem dX12_dueSpan_29 : decode cX12_dueSpan 29 = .ok (.aload_n 0, 1) := by decide +kernel
theorem dX12_dueSpan_30 : decode cX12_dueSpan 30 = .ok (.iload_n 1, 1) := by decide +kernel
theorem dX12_dueSpan_31 : decode cX12_dueSpan 31 = .ok (.invokevirtual 362, 3) := by decide +kernel
theorem dX12_dueSpan_34 : decode cX12_dueSpan 34 = .ok (.aload_n 0, 1) := by decide +kernel
theorem dX12_dueSpan_35 : decode cX12_dueSpan 35 = .ok (.iload_n 2, 1) := by decide +kernel
theorem dX12_dueSpan_36 : decode cX12_dueSpan 36 = .ok (.iload_n 3, 1) := by decide +kernel
theorem dX12_dueSpan_37 : decode cX12_dueSpan 37 = .ok (.invokevirtual 447, 3) := by decide +kernel
theorem dX12_dueSpan_40 : decode cX12_dueSpan 40 = .ok (.ireturn, 1) := by decide +kernel
set_option maxHeartbeats 4000000 in
set_option maxRecDepth 100000 in
theorem sX12_dueSpan (l : Launch) (dC : Nat → ClassId) (dI : Nat → Nat → Nat) (sz : Nat) (h0 : Nat) (mi : Nat → Int32) (mr : Nat → Nat) (km_must : ClassId) (fm_must : Nat → Int32) (km_least : ClassId) (fm_least : Nat → Int32) (km_pin : ClassId) (fm_pin : Nat → Int32) (km_ways : ClassId) (fm_ways : Nat → Int32) (km_verdict : ClassId) (fm_verdict : Nat → Int32) (km_row : ClassId) (fm_row : Nat → Int32) (km_struck : ClassId) (fm_struck : Nat → Int32) (km_reportKnown : ClassId) (fm_reportKnown : Nat → Int32) (km_reportPlace : ClassId) (fm_reportPlace : Nat → Int32) (km_reportMonth : ClassId) (fm_reportMonth : Nat → Int32) (km_reportDay : ClassId) (fm_reportDay : Nat → Int32) (km_reportKind : ClassId) (fm_reportKind : Nat → Int32) (km_trust : ClassId) (fm_trust : Nat → Int32) (km_letter : ClassId) (fm_letter : Nat → Int32) (km_deedMonth : ClassId) (fm_deedMonth : Nat → Int32) (km_deedLong : ClassId) (fm_deedLong : Nat → Int32) (km_deedKind : ClassId) (fm_deedKind : Nat → Int32) (km_deedDay : ClassId) (fm_deedDay : Nat → Int32) (p1 : Int32) (p2 : Int32) (p3 : Int32) (gmi_0 : gi (mi 0) 0 24) (gmi_1 : gi (mi 1) 0 5) (gmi_2 : gi (mi 2) 0 5) (gmi_4 : gi (mi 4) 0 1) (gmi_7 : gi (mi 7) 0 6) (gmi_10 : gi (mi 10) 0 24) (gmi_17 : gi (mi 17) 0 8) (gmi_23 : gi (mi 23) 0 300) (gmi_24 : gi (mi 24) 0 1) (gmi_26 : gi (mi 26) 0 1600) (gmi_29 : gi (mi 29) 0 1600) (gmi_30 : gi (mi 30) 0 1600) (gmi_33 : gi (mi 33) 0 1) (gmi_37 : gi (mi 37) 0 1) (gmi_41 : gi (mi 41) 0 24) (gmi_50 : gi (mi 50) 0 1) (gmi_51 : gi (mi 51) 0 1) (gmi_56 : gi (mi 56) 0 80) (gfm_row : ga fm_row 24 0 23) (gfm_struck : ga fm_struck 24 0 1) (gfm_reportKnown : ga fm_reportKnown 24 0 999) (gfm_reportPlace : ga fm_reportPlace 24 0 5) (gfm_reportMonth : ga fm_reportMonth 24 0 23) (gfm_reportDay : ga fm_reportDay 24 0 999) (gfm_deedMonth : ga fm_deedMonth 8 0 23) (gfm_deedLong : ga fm_deedLong 8 0 600) (hdd : ∀ j : Nat, j < 8 → ((fm_deedKind j).toInt ≠ 0 ∨ (fm_deedMonth j).toInt + (fm_deedLong j).toInt ≤ 23)) : Met l yX12_dueSpan (.code yX12_dueSpan cX12_dueSpan 4 (some .int) :: wsGB) ({ frames := 8, cells := 0, slots := 0, locals := 196 }) (va_Pc [.ref h0, .int p1, .int p2, .int p3] (fun U => U.heap.size = sz ∧ va_P (dC, dI) vwCl [(h0, .inr (12, fsMM mi mr)), ((mr 14), .inl (km_must, 25, .inl fm_must)), ((mr 15), .inl (km_least, 25, .inl fm_least)), ((mr 16), .inl (km_pin, 25, .inl fm_pin)), ((mr 17), .inl (km_ways, 6875, .inl fm_ways)), ((mr 18), .inl (km_verdict, 24, .inl fm_verdict)), ((mr 19), .inl (km_row, 24, .inl fm_row)), ((mr 4), .inl (km_struck, 24, .inl fm_struck)), ((mr 7), .inl (km_reportKnown, 24, .inl fm_reportKnown)), ((mr 2), .inl (km_reportPlace, 24, .inl fm_reportPlace)), ((mr 5), .inl (km_reportMonth, 24, .inl fm_reportMonth)), ((mr 6), .inl (km_reportDay, 24, .inl fm_reportDay)), ((mr 3), .inl (km_reportKind, 24, .inl fm_reportKind)), ((mr 0), .inl (km_trust, 6, .inl fm_trust)), ((mr 1), .inl (km_letter, 36, .inl fm_letter)), ((mr 8), .inl (km_deedMonth, 8, .inl fm_deedMonth)), ((mr 10), .inl (km_deedLong, 8, .inl fm_deedLong)), ((mr 11), .inl (km_deedKind, 8, .inl fm_deedKind)), ((mr 9), .inl (km_deedDay, 8, .inl fm_deedDay))] U.heap ∧ va_K (dC, dI) vwCl [(km_must, .int), (km_least, .int), (km_pin, .int), (km_ways, .int), (km_verdict, .int), (km_row, .int), (km_struck, .boolean), (km_reportKnown, .int), (km_reportPlace, .int), (km_reportMonth, .int), (km_reportDay, .int), (km_reportKind, .int), (km_trust, .int), (km_letter, .int), (km_deedMonth, .int), (km_deedLong, .int), (km_deedKind, .int), (km_deedDay, .int)] U ∧ va_D (fun _ => True) [(h0, .inr (12, fsMM mi mr)), ((mr 14), .inl (km_must, 25, .inl fm_must)), ((mr 15), .inl (km_least, 25, .inl fm_least)), ((mr 16), .inl (km_pin, 25, .inl fm_pin)), ((mr 17), .inl (km_ways, 6875, .inl fm_ways)), ((mr 18), .inl (km_verdict, 24, .inl fm_verdict)), ((mr 19), .inl (km_row, 24, .inl fm_row)), ((mr 4), .inl (km_struck, 24, .inl fm_struck)), ((mr 7), .inl (km_reportKnown, 24, .inl fm_reportKnown)), ((mr 2), .inl (km_reportPlace, 24, .inl fm_reportPlace)), ((mr 5), .inl (km_reportMonth, 24, .inl fm_reportMonth)), ((mr 6), .inl (km_reportDay, 24, .inl fm_reportDay)), ((mr 3), .inl (km_reportKind, 24, .inl fm_reportKind)), ((mr 0), .inl (km_trust, 6, .inl fm_trust)), ((mr 1), .inl (km_letter, 36, .inl fm_letter)), ((mr 8), .inl (km_deedMonth, 8, .inl fm_deedMonth)), ((mr 10), .inl (km_deedLong, 8, .inl fm_deedLong)), ((mr 11), .inl (km_deedKind, 8, .inl fm_deedKind)), ((mr 9), .inl (km_deedDay, 8, .inl fm_deedDay))])) (va_Qi (fun (r : Int32) (u : Unit) => gi r (-2) 1320) (fun _ t => ∃ (w0_37 : Int32) (w0_41 : Int32) (z1 : Nat → Int32) (z2 : Nat → Int32) (z3 : Nat → Int32) (z4 : Nat → Int32) (z5 : Nat → Int32) (z6 : Nat → Int32), gi w0_37 0 1 ∧ gi w0_41 0 24 ∧ ga z6 24 0 23 ∧ va_P (dC, dI) vwCl [(h0, .inr (12, fsMM (upd (upd mi 37 w0_37) 41 w0_41) mr)), ((mr 14), .inl (km_must, 25, .inl z1)), ((mr 15), .inl (km_least, 25, .inl z2)), ((mr 16), .inl (km_pin, 25, .inl z3)), ((mr 17), .inl (km_ways, 6875, .inl z4)), ((mr 18), .inl (km_verdict, 24, .inl z5)), ((mr 19), .inl (km_row, 24, .inl z6)), ((mr 4), .inl (km_struck, 24, .inl fm_struck)), ((mr 7), .inl (km_reportKnown, 24, .inl fm_reportKnown)), ((mr 2), .inl (km_reportPlace, 24, .inl fm_reportPlace)), ((mr 5), .inl (km_reportMonth, 24, .inl fm_reportMonth)), ((mr 6), .inl (km_reportDay, 24, .inl fm_reportDay)), ((mr 3), .inl (km_reportKind, 24, .inl fm_reportKind)), ((mr 0), .inl (km_trust, 6, .inl fm_trust)), ((mr 1), .inl (km_letter, 36, .inl fm_letter)), ((mr 8), .inl (km_deedMonth, 8, .inl fm_deedMonth)), ((mr 10), .inl (km_deedLong, 8, .inl fm_deedLong)), ((mr 11), .inl (km_deedKind, 8, .inl fm_deedKind)), ((mr 9), .inl (km_deedDay, 8, .inl fm_deedDay))] t.heap ∧ va_D (va_A [(h0, .inr (12, fsMM mi mr)), ((mr 14), .inl (km_must, 25, .inl fm_must)), ((mr 15), .inl (km_least, 25, .inl fm_least)), ((mr 16), .inl (km_pin, 25, .inl fm_pin)), ((mr 17), .inl (km_ways, 6875, .inl fm_ways)), ((mr 18), .inl (km_verdict, 24, .inl fm_verdict)), ((mr 19), .inl (km_row, 24, .inl fm_row)), ((mr 4), .inl (km_struck, 24, .inl fm_struck)), ((mr 7), .inl (km_reportKnown, 24, .inl fm_reportKnown)), ((mr 2), .inl (km_reportPlace, 24, .inl fm_reportPlace)), ((mr 5), .inl (km_reportMonth, 24, .inl fm_reportMonth)), ((mr 6), .inl (km_reportDay, 24, .inl fm_reportDay)), ((mr 3), .inl (km_reportKind, 24, .inl fm_reportKind)), ((mr 0), .inl (km_trust, 6, .inl fm_trust)), ((mr 1), .inl (km_letter, 36, .inl fm_letter)), ((mr 8), .inl (km_deedMonth, 8, .inl fm_deedMonth)), ((mr 10), .inl (km_deedLong, 8, .inl fm_deedLong)), ((mr 11), .inl (km_deedKind, 8, .inl fm_deedKind)), ((mr 9), .inl (km_deedDay, 8, .inl fm_deedDay))] sz) [(h0, .inr (12, fsMM (upd (upd mi 37 w0_37) 41 w0_41) mr)), ((mr 14), .inl (km_must, 25, .inl z1)), ((mr 15), .inl (km_least, 25, .inl z2)), ((mr 16), .inl (km_pin, 25, .inl z3)), ((mr 17), .inl (km_ways, 6875, .inl z4)), ((mr 18), .inl (km_verdict, 24, .inl z5)), ((mr 19), .inl (km_row, 24, .inl z6)), ((mr 4), .inl (km_struck, 24, .inl fm_struck)), ((mr 7), .inl (km_reportKnown, 24, .inl fm_reportKnown)), ((mr 2), .inl (km_reportPlace, 24, .inl fm_reportPlace)), ((mr 5), .inl (km_reportMonth, 24, .inl fm_reportMonth)), ((mr 6), .inl (km_reportDay, 24, .inl fm_reportDay)), ((mr 3), .inl (km_reportKind, 24, .inl fm_reportKind)), ((mr 0), .inl (km_trust, 6, .inl fm_trust)), ((mr 1), .inl (km_letter, 36, .inl fm_letter)), ((mr 8), .inl (km_deedMonth, 8, .inl fm_deedMonth)), ((mr 10), .inl (km_deedLong, 8, .inl fm_deedLong)), ((mr 11), .inl (km_deedKind, 8, .inl fm_deedKind)), ((mr 9), .inl (km_deedDay, 8, .inl fm_deedDay))]) (va_A [(h0, .inr (12, fsMM mi mr)), ((mr 14), .inl (km_must, 25, .inl fm_must)), ((mr 15), .inl (km_least, 25, .inl fm_least)), ((mr 16), .inl (km_pin, 25, .inl fm_pin)), ((mr 17), .inl (km_ways, 6875, .inl fm_ways)), ((mr 18), .inl (km_verdict, 24, .inl fm_verdict)), ((mr 19), .inl (km_row, 24, .inl fm_row)), ((mr 4), .inl (km_struck, 24, .inl fm_struck)), ((mr 7), .inl (km_reportKnown, 24, .inl fm_reportKnown)), ((mr 2), .inl (km_reportPlace, 24, .inl fm_reportPlace)), ((mr 5), .inl (km_reportMonth, 24, .inl fm_reportMonth)), ((mr 6), .inl (km_reportDay, 24, .inl fm_reportDay)), ((mr 3), .inl (km_reportKind, 24, .inl fm_reportKind)), ((mr 0), .inl (km_trust, 6, .inl fm_trust)), ((mr 1), .inl (km_letter, 36, .inl fm_letter)), ((mr 8), .inl (km_deedMonth, 8, .inl fm_deedMonth)), ((mr 10), .inl (km_deedLong, 8, .inl fm_deedLong)), ((mr 11), .inl (km_deedKind, 8, .inl fm_deedKind)), ((mr 9), .inl (km_deedDay, 8, .inl fm_deedDay))] sz)) 0 0 (va_A [(h0, .inr (12, fsMM mi mr)), ((mr 14), .inl (km_must, 25, .inl fm_must)), ((mr 15), .inl (km_least, 25, .inl fm_least)), ((mr 16), .inl (km_pin, 25, .inl fm_pin)), ((mr 17), .inl (km_ways, 6875, .inl fm_ways)), ((mr 18), .inl (km_verdict, 24, .inl fm_verdict)), ((mr 19), .inl (km_row, 24, .inl fm_row)), ((mr 4), .inl (km_struck, 24, .inl fm_struck)), ((mr 7), .inl (km_reportKnown, 24, .inl fm_reportKnown)), ((mr 2), .inl (km_reportPlace, 24, .inl fm_reportPlace)), ((mr 5), .inl (km_reportMonth, 24, .inl fm_reportMonth)), ((mr 6), .inl (km_reportDay, 24, .inl fm_reportDay)), ((mr 3), .inl (km_reportKind, 24, .inl fm_reportKind)), ((mr 0), .inl (km_trust, 6, .inl fm_trust)), ((mr 1), .inl (km_letter, 36, .inl fm_letter)), ((mr 8), .inl (km_deedMonth, 8, .inl fm_deedMonth)), ((mr 10), .inl (km_deedLong, 8, .inl fm_deedLong)), ((mr 11), .inl (km_deedKind, 8, .inl fm_deedKind)), ((mr 9), .inl (km_deedDay, 8, .inl fm_deedDay))] sz) := by
  refine Met.ofW (cc := cX12_dueSpan) (maxL := 4) (ret := (some .int)) (by decide) rfl ?_
  intro p e s m args below meth c s₁ B hml hv
  obtain ⟨rfl, hsz, hP, hK, hD0⟩ := hv
  have hx := B.exec
  have hb := B.bytes
  have hr := B.returns
  have hts := atoms_spec (ws := (.code yX12_dueSpan cX12_dueSpan 4 (some .int) :: wsGB)) B.pre
  have hown : s.vm.findClass RX12 = some m.cls := findClass_of_methodNamed B.named
  have hlocks := B.notSynchronized
  subst hsz
  have hD := hD0.self (sz := s.heap.size)
  generalize hAe : va_A [(h0, .inr (12, fsMM mi mr)), ((mr 14), .inl (km_must, 25, .inl fm_must)), ((mr 15), .inl (km_least, 25, .inl fm_least)), ((mr 16), .inl (km_pin, 25, .inl fm_pin)), ((mr 17), .inl (km_ways, 6875, .inl fm_ways)), ((mr 18), .inl (km_verdict, 24, .inl fm_verdict)), ((mr 19), .inl (km_row, 24, .inl fm_row)), ((mr 4), .inl (km_struck, 24, .inl fm_struck)), ((mr 7), .inl (km_reportKnown, 24, .inl fm_reportKnown)), ((mr 2), .inl (km_reportPlace, 24, .inl fm_reportPlace)), ((mr 5), .inl (km_reportMonth, 24, .inl fm_reportMonth)), ((mr 6), .inl (km_reportDay, 24, .inl fm_reportDay)), ((mr 3), .inl (km_reportKind, 24, .inl fm_reportKind)), ((mr 0), .inl (km_trust, 6, .inl fm_trust)), ((mr 1), .inl (km_letter, 36, .inl fm_letter)), ((mr 8), .inl (km_deedMonth, 8, .inl fm_deedMonth)), ((mr 10), .inl (km_deedLong, 8, .inl fm_deedLong)), ((mr 11), .inl (km_deedKind, 8, .inl fm_deedKind)), ((mr 9), .inl (km_deedDay, 8, .inl fm_deedDay))] s.heap.size = A at hD ⊢
  have hA : ∀ q : Nat, s.heap.size ≤ q → A q := fun q h => by rw [← hAe]; exact Or.inr h
  have hS : va_S A s.heap s.heap [] := va_S.rf
  have hl := lv_entry ([.ref h0, .int p1, .int p2, .int p3]) (n := 4) (Nat.le_of_ble_eq_true rfl)
  rw [lg_entry_eq]
  generalize (lg_sl ([.ref h0, .int p1, .int p2, .int p3]) ++ List.replicate (4 - (lg_sl ([.ref h0, .int p1, .int p2, .int p3])).length) Slot.unset).toArray = ls at hl ⊢
  have hl : lv_has ls 4 [(0, .ref h0), (1, .int p1), (2, .int p2), (3, .int p3)] := hl
  refine lv_aload_n hx hb dX12_dueSpan_0 rfl (lv_at hl 0 rfl) ?_
  refine lv_iload_n hx hb dX12_dueSpan_1 rfl (lv_at hl 1 rfl) ?_
  have hPc := hP.sub (ws' := [(h0, .inr (12, fsMM mi mr))]) [0] rfl
  have hKc := hK.sub (tys' := []) [] rfl
  refine va_calli (va_runV (As := [.int p1]) (rest := []) ⟨hx, hb, hml, hown, hts⟩ (sX12_isTime l dC dI h0 mi mr p1 gmi_0 gmi_1 gmi_2 gmi_4 gmi_7 gmi_10 gmi_17 gmi_23 gmi_24 gmi_26 gmi_29 gmi_30 gmi_33 gmi_37 gmi_41 gmi_50 gmi_51 gmi_56) (cwV 1 hts (gz_gV mGB_256 mGB_257 mGB_258 mGB_1 mGB_259 goodGB) rfl rfl rfl (by decide +kernel) ⟨Nat.le_of_ble_eq_true rfl, Nat.le_of_ble_eq_true rfl⟩) ⟨fun a U g mk q => by obtain ⟨q0, qP, qK⟩ := q; exact ⟨q0, qP, va_K.moved (u := U) (U := U.calling g mk a) (Vm.Alike.refl U.vm) qK⟩, va_recv hKc hPc (ci := 12) (q0 := 0) rfl rfl, fun U hU hW => ⟨rfl, by rw [hU]; exact hPc, va_K.moved hW.alike hKc⟩⟩ rfl rfl hl.1 rfl (lv_room (Nat.le_of_ble_eq_true rfl)) dX12_dueSpan_2 ⟨Nat.zero_le _, Nat.zero_le _⟩) hS (fun q _ h => h.elim) (fun q h => h.elim) (fun r_57 u t H1 locs ht hvm hw hB hz1 hk1 hS => ?_)
  have hP := gz_keep hP hk1
  generalize H1 = H at hP hS ⊢
  have gr_57 : gi r_57 0 1 := hw.1
  have hqr_57 := hw.2
  refine lv_if_eq (tgt := 26) hx hb dX12_dueSpan_5 (by decide) (fun c_58 => ?_) (fun c_58 => ?_)
  · have g_59 : gi r_57 0 0 := gi_eq c_58 (gi_c 0 0 (by decide))
    refine lv_bipush (v := (-2)) hx hb dX12_dueSpan_26 (by decide) ?_
    exact W.iret (v := (-2)) hx hb hr (fun t ht hW => ⟨⟨(-2), (), rfl, (gi_w (gi_c (-2) (-2) (by decide)) (by decide)), (mi 37), (mi 41), fm_must, fm_least, fm_pin, fm_ways, fm_verdict, fm_row, gmi_37, gmi_41, gfm_row, by rw [ht]; exact hP, hD⟩, hS.F ht⟩) hS.2.2 dX12_dueSpan_28
  · have g_60 : gi r_57 1 1 := gi_ne_lo c_58 gr_57 (gi_c 0 0 (by decide)) (by decide)
    have g_61 : gi p1 0 999 := gi_cap (gi_any p1) (hqr_57 (gz_one g_60)) (by decide)
    refine lv_aload_n hx hb dX12_dueSpan_8 rfl (lv_at hl 0 rfl) ?_
    refine lv_iload_n hx hb dX12_dueSpan_9 rfl (lv_at hl 2 rfl) ?_
    have hPc := hP.sub (ws' := [(h0, .inr (12, fsMM mi mr))]) [0] rfl
    have hKc := hK.sub (tys' := []) [] rfl
    refine va_calli (va_runV (As := [.int p2]) (rest := []) ⟨hx, hb, hml, hown, hts⟩ (sX12_isDeed l dC dI h0 mi mr p2 gmi_0 gmi_1 gmi_2 gmi_4 gmi_7 gmi_10 gmi_17 gmi_23 gmi_24 gmi_26 gmi_29 gmi_30 gmi_33 gmi_37 gmi_41 gmi_50 gmi_51 gmi_56) (cwV 1 hts (gz_gV mGB_242 mGB_243 mGB_244 mGB_1 mGB_245 goodGB) rfl rfl rfl (by decide +kernel) ⟨Nat.le_of_ble_eq_true rfl, Nat.le_of_ble_eq_true rfl⟩) ⟨fun a U g mk q => by obtain ⟨q0, qP, qK⟩ := q; exact ⟨q0, qP, va_K.moved (u := U) (U := U.calling g mk a) (Vm.Alike.refl U.vm) qK⟩, va_recv hKc hPc (ci := 12) (q0 := 0) rfl rfl, fun U hU hW => ⟨rfl, by rw [hU]; exact hPc, va_K.moved hW.alike hKc⟩⟩ rfl rfl hl.1 rfl (lv_room (Nat.le_of_ble_eq_true rfl)) dX12_dueSpan_10 ⟨Nat.zero_le _, Nat.zero_le _⟩) hS (fun q _ h => h.elim) (fun q h => h.elim) (fun r_62 u t H1 locs ht hvm hw hB hz1 hk1 hS => ?_)
    have hP := gz_keep hP hk1
    generalize H1 = H at hP hS ⊢
    have gr_62 : gi r_62 0 1 := hw.1
    have hqr_62 := hw.2
    refine lv_if_eq (tgt := 26) hx hb dX12_dueSpan_13 (by decide) (fun c_63 => ?_) (fun c_63 => ?_)
    · have g_64 : gi r_62 0 0 := gi_eq c_63 (gi_c 0 0 (by decide))
      refine lv_bipush (v := (-2)) hx hb dX12_dueSpan_26 (by decide) ?_
      exact W.iret (v := (-2)) hx hb hr (fun t ht hW => ⟨⟨(-2), (), rfl, (gi_w (gi_c (-2) (-2) (by decide)) (by decide)), (mi 37), (mi 41), fm_must, fm_least, fm_pin, fm_ways, fm_verdict, fm_row, gmi_37, gmi_41, gfm_row, by rw [ht]; exact hP, hD⟩, hS.F ht⟩) hS.2.2 dX12_dueSpan_28
    · have g_65 : gi r_62 1 1 := gi_ne_lo c_63 gr_62 (gi_c 0 0 (by decide)) (by decide)
      have g_66 : gi p2 0 7 := gi_cap (gi_any p2) (hqr_62 (gz_one g_65)) (by decide)
      refine lv_iload_n hx hb dX12_dueSpan_16 rfl (lv_at hl 3 rfl) ?_
      refine lv_i2l (v := (p3).toInt64) hx hb dX12_dueSpan_17 rfl ?_
      refine lv_topl (fun l_67 el_67 => ?_)
      refine lv_lconst (v := 0) hx hb dX12_dueSpan_18 (by decide) ?_
      refine lv_lconst (v := 1) hx hb dX12_dueSpan_19 (by decide) ?_
      have hPc := hP.sub (ws' := []) [] rfl
      have hKc := hK.sub (tys' := []) [] rfl
      refine va_calli (va_runS (As := [.long l_67, .long 0, .long 1]) (rest := []) ⟨hx, hb, hml, hown, hts⟩ (sX12_in l dC dI l_67 0 1) (cwS 3 hts (gz_gS mGB_47 mGB_48 mGB_1 mGB_49 goodGB) rfl rfl rfl (by decide +kernel) ⟨Nat.le_of_ble_eq_true rfl, Nat.le_of_ble_eq_true rfl⟩) ⟨fun a U g mk q => by obtain ⟨q0, qP, qK⟩ := q; exact ⟨q0, qP, va_K.moved (u := U) (U := U.calling g mk a) (Vm.Alike.refl U.vm) qK⟩, fun U hU hW => ⟨rfl, by rw [hU]; exact hPc, va_K.moved hW.alike hKc⟩⟩ rfl rfl hl.1 rfl (lv_room (Nat.le_of_ble_eq_true rfl)) dX12_dueSpan_20 ⟨Nat.zero_le _, Nat.zero_le _⟩) hS (fun q _ h => h.elim) (fun q h => h.elim) (fun r_68 u t H1 locs ht hvm hw hB hz1 hk1 hS => ?_)
      have hP := gz_keep hP hk1
      generalize H1 = H at hP hS ⊢
      have gr_68 : gi r_68 0 1 := hw.1
      have hqr_68 := hw.2
      refine lv_if_ne (tgt := 29) hx hb dX12_dueSpan_23 (by decide) (fun c_69 => ?_) (fun c_69 => ?_)
      · have g_70 : gi r_68 1 1 := gi_ne_lo c_69 gr_68 (gi_c 0 0 (by decide)) (by decide)
        have g_71 : gi p3 0 1 := gi_cap (gi_any p3) (gz_inr (hqr_68.1 (gz_one g_70)) el_67 (A := 0) (B := 1) (by decide) (by decide)) (by decide)
        refine lv_aload_n hx hb dX12_dueSpan_29 rfl (lv_at hl 0 rfl) ?_
        refine lv_iload_n hx hb dX12_dueSpan_30 rfl (lv_at hl 1 rfl) ?_
        have hPc := hP.sub (ws' := [(h0, .inr (12, fsMM mi mr)), ((mr 14), .inl (km_must, 25, .inl fm_must)), ((mr 15), .inl (km_least, 25, .inl fm_least)), ((mr 16), .inl (km_pin, 25, .inl fm_pin)), ((mr 17), .inl (km_ways, 6875, .inl fm_ways)), ((mr 18), .inl (km_verdict, 24, .inl fm_verdict)), ((mr 19), .inl (km_row, 24, .inl fm_row)), ((mr 4), .inl (km_struck, 24, .inl fm_struck)), ((mr 7), .inl (km_reportKnown, 24, .inl fm_reportKnown)), ((mr 2), .inl (km_reportPlace, 24, .inl fm_reportPlace)), ((mr 5), .inl (km_reportMonth, 24, .inl fm_reportMonth)), ((mr 6), .inl (km_reportDay, 24, .inl fm_reportDay)), ((mr 3), .inl (km_reportKind, 24, .inl fm_reportKind)), ((mr 0), .inl (km_trust, 6, .inl fm_trust)), ((mr 1), .inl (km_letter, 36, .inl fm_letter))]) [0, 1, 2, 3, 4, 5, 6, 7, 8, 9, 10, 11, 12, 13, 14] rfl
        have hKc := hK.sub (tys' := [(km_must, .int), (km_least, .int), (km_pin, .int), (km_ways, .int), (km_verdict, .int), (km_row, .int), (km_struck, .boolean), (km_reportKnown, .int), (km_reportPlace, .int), (km_reportMonth, .int), (km_reportDay, .int), (km_reportKind, .int), (km_trust, .int), (km_letter, .int)]) [0, 1, 2, 3, 4, 5, 6, 7, 8, 9, 10, 11, 12, 13] rfl
        have hDc := hD.sub (ws' := [(h0, .inr (12, fsMM mi mr)), ((mr 14), .inl (km_must, 25, .inl fm_must)), ((mr 15), .inl (km_least, 25, .inl fm_least)), ((mr 16), .inl (km_pin, 25, .inl fm_pin)), ((mr 17), .inl (km_ways, 6875, .inl fm_ways)), ((mr 18), .inl (km_verdict, 24, .inl fm_verdict)), ((mr 19), .inl (km_row, 24, .inl fm_row)), ((mr 4), .inl (km_struck, 24, .inl fm_struck)), ((mr 7), .inl (km_reportKnown, 24, .inl fm_reportKnown)), ((mr 2), .inl (km_reportPlace, 24, .inl fm_reportPlace)), ((mr 5), .inl (km_reportMonth, 24, .inl fm_reportMonth)), ((mr 6), .inl (km_reportDay, 24, .inl fm_reportDay)), ((mr 3), .inl (km_reportKind, 24, .inl fm_reportKind)), ((mr 0), .inl (km_trust, 6, .inl fm_trust)), ((mr 1), .inl (km_letter, 36, .inl fm_letter))]) [0, 1, 2, 3, 4, 5, 6, 7, 8, 9, 10, 11, 12, 13, 14] (by decide) rfl
        have hFc := va_free (wc := [(h0, .inr (12, fsMM mi mr)), ((mr 14), .inl (km_must, 25, .inl fm_must)), ((mr 15), .inl (km_least, 25, .inl fm_least)), ((mr 16), .inl (km_pin, 25, .inl fm_pin)), ((mr 17), .inl (km_ways, 6875, .inl fm_ways)), ((mr 18), .inl (km_verdict, 24, .inl fm_verdict)), ((mr 19), .inl (km_row, 24, .inl fm_row)), ((mr 4), .inl (km_struck, 24, .inl fm_struck)), ((mr 7), .inl (km_reportKnown, 24, .inl fm_reportKnown)), ((mr 2), .inl (km_reportPlace, 24, .inl fm_reportPlace)), ((mr 5), .inl (km_reportMonth, 24, .inl fm_reportMonth)), ((mr 6), .inl (km_reportDay, 24, .inl fm_reportDay)), ((mr 3), .inl (km_reportKind, 24, .inl fm_reportKind)), ((mr 0), .inl (km_trust, 6, .inl fm_trust)), ((mr 1), .inl (km_letter, 36, .inl fm_letter))]) hD hS hA [0, 1, 2, 3, 4, 5, 6, 7, 8, 9, 10, 11, 12, 13, 14] rfl
        refine va_callv (va_runV (As := [.int p1]) (rest := []) ⟨hx, hb, hml, hown, hts⟩ (sX12_judgesAll l dC dI H.size h0 mi mr km_must fm_must km_least fm_least km_pin fm_pin km_ways fm_ways km_verdict fm_verdict km_row fm_row km_struck fm_struck km_reportKnown fm_reportKnown km_reportPlace fm_reportPlace km_reportMonth fm_reportMonth km_reportDay fm_reportDay km_reportKind fm_reportKind km_trust fm_trust km_letter fm_letter p1 gmi_0 gmi_1 gmi_2 gmi_4 gmi_7 gmi_10 gmi_17 gmi_23 gmi_24 gmi_26 gmi_29 gmi_30 gmi_33 gmi_37 gmi_41 gmi_50 gmi_51 gmi_56 gfm_row gfm_struck gfm_reportKnown gfm_reportPlace gfm_reportMonth gfm_reportDay) (cwV 1 hts (gz_gV mGB_261 mGB_262 mGB_263 mGB_1 mGB_264 goodGB) rfl rfl rfl (by decide +kernel) ⟨Nat.le_of_ble_eq_true rfl, Nat.le_of_ble_eq_true rfl⟩) ⟨fun a U g mk q => by obtain ⟨q0, q1, qP, qK, qD⟩ := q; exact ⟨q0, q1, qP, va_K.moved (u := U) (U := U.calling g mk a) (Vm.Alike.refl U.vm) qK, qD⟩, va_recv hKc hPc (ci := 12) (q0 := 0) rfl rfl, fun U hU hW => ⟨rfl, by rw [hU], by rw [hU]; exact hPc, va_K.moved hW.alike hKc, hDc.weaken (fun _ _ _ _ => trivial)⟩⟩ rfl rfl hl.1 rfl (lv_room (Nat.le_of_ble_eq_true rfl)) dX12_dueSpan_31 ⟨Nat.zero_le _, Nat.zero_le _⟩) hS (fun q _ h => hFc q h) hFc (fun u t H1 locs ht hvm hw hB hz1 hk1 hS => ?_)
        obtain ⟨y_73, y_74, f_75, f_76, f_77, f_78, f_79, f_80, gy_73, gy_74, gf_80, hP1, hD1⟩ := hB
        rw [ht] at hP1
        obtain ⟨hP, hD⟩ := va_join (wr := [((mr 8), .inl (km_deedMonth, 8, .inl fm_deedMonth)), ((mr 10), .inl (km_deedLong, 8, .inl fm_deedLong)), ((mr 11), .inl (km_deedKind, 8, .inl fm_deedKind)), ((mr 9), .inl (km_deedDay, 8, .inl fm_deedDay))]) (w1 := [(h0, .inr (12, fsMM (upd (upd mi 37 y_73) 41 y_74) mr)), ((mr 14), .inl (km_must, 25, .inl f_75)), ((mr 15), .inl (km_least, 25, .inl f_76)), ((mr 16), .inl (km_pin, 25, .inl f_77)), ((mr 17), .inl (km_ways, 6875, .inl f_78)), ((mr 18), .inl (km_verdict, 24, .inl f_79)), ((mr 19), .inl (km_row, 24, .inl f_80)), ((mr 4), .inl (km_struck, 24, .inl fm_struck)), ((mr 7), .inl (km_reportKnown, 24, .inl fm_reportKnown)), ((mr 2), .inl (km_reportPlace, 24, .inl fm_reportPlace)), ((mr 5), .inl (km_reportMonth, 24, .inl fm_reportMonth)), ((mr 6), .inl (km_reportDay, 24, .inl fm_reportDay)), ((mr 3), .inl (km_reportKind, 24, .inl fm_reportKind)), ((mr 0), .inl (km_trust, 6, .inl fm_trust)), ((mr 1), .inl (km_letter, 36, .inl fm_letter))]) hP hD [0, 1, 2, 3, 4, 5, 6, 7, 8, 9, 10, 11, 12, 13, 14] [15, 16, 17, 18] rfl rfl (by decide) (by decide) hk1 hFc hP1 hD1
        have hP := hP.sub (ws' := [(h0, .inr (12, fsMM (upd (upd mi 37 y_73) 41 y_74) mr)), ((mr 14), .inl (km_must, 25, .inl f_75)), ((mr 15), .inl (km_least, 25, .inl f_76)), ((mr 16), .inl (km_pin, 25, .inl f_77)), ((mr 17), .inl (km_ways, 6875, .inl f_78)), ((mr 18), .inl (km_verdict, 24, .inl f_79)), ((mr 19), .inl (km_row, 24, .inl f_80)), ((mr 4), .inl (km_struck, 24, .inl fm_struck)), ((mr 7), .inl (km_reportKnown, 24, .inl fm_reportKnown)), ((mr 2), .inl (km_reportPlace, 24, .inl fm_reportPlace)), ((mr 5), .inl (km_reportMonth, 24, .inl fm_reportMonth)), ((mr 6), .inl (km_reportDay, 24, .inl fm_reportDay)), ((mr 3), .inl (km_reportKind, 24, .inl fm_reportKind)), ((mr 0), .inl (km_trust, 6, .inl fm_trust)), ((mr 1), .inl (km_letter, 36, .inl fm_letter)), ((mr 8), .inl (km_deedMonth, 8, .inl fm_deedMonth)), ((mr 10), .inl (km_deedLong, 8, .inl fm_deedLong)), ((mr 11), .inl (km_deedKind, 8, .inl fm_deedKind)), ((mr 9), .inl (km_deedDay, 8, .inl fm_deedDay))]) [4, 5, 6, 7, 8, 9, 10, 11, 12, 13, 14, 15, 16, 17, 18, 0, 1, 2, 3] rfl
        have hD := hD.sub (ws' := [(h0, .inr (12, fsMM (upd (upd mi 37 y_73) 41 y_74) mr)), ((mr 14), .inl (km_must, 25, .inl f_75)), ((mr 15), .inl (km_least, 25, .inl f_76)), ((mr 16), .inl (km_pin, 25, .inl f_77)), ((mr 17), .inl (km_ways, 6875, .inl f_78)), ((mr 18), .inl (km_verdict, 24, .inl f_79)), ((mr 19), .inl (km_row, 24, .inl f_80)), ((mr 4), .inl (km_struck, 24, .inl fm_struck)), ((mr 7), .inl (km_reportKnown, 24, .inl fm_reportKnown)), ((mr 2), .inl (km_reportPlace, 24, .inl fm_reportPlace)), ((mr 5), .inl (km_reportMonth, 24, .inl fm_reportMonth)), ((mr 6), .inl (km_reportDay, 24, .inl fm_reportDay)), ((mr 3), .inl (km_reportKind, 24, .inl fm_reportKind)), ((mr 0), .inl (km_trust, 6, .inl fm_trust)), ((mr 1), .inl (km_letter, 36, .inl fm_letter)), ((mr 8), .inl (km_deedMonth, 8, .inl fm_deedMonth)), ((mr 10), .inl (km_deedLong, 8, .inl fm_deedLong)), ((mr 11), .inl (km_deedKind, 8, .inl fm_deedKind)), ((mr 9), .inl (km_deedDay, 8, .inl fm_deedDay))]) [4, 5, 6, 7, 8, 9, 10, 11, 12, 13, 14, 15, 16, 17, 18, 0, 1, 2, 3] (by decide) rfl
        generalize H1 = H at hP hS ⊢
        refine lv_aload_n hx hb dX12_dueSpan_34 rfl (lv_at hl 0 rfl) ?_
        refine lv_iload_n hx hb dX12_dueSpan_35 rfl (lv_at hl 2 rfl) ?_
        refine lv_iload_n hx hb dX12_dueSpan_36 rfl (lv_at hl 3 rfl) ?_
        have hPc := hP.sub (ws' := [(h0, .inr (12, fsMM (upd (upd mi 37 y_73) 41 y_74) mr)), ((mr 14), .inl (km_must, 25, .inl f_75)), ((mr 15), .inl (km_least, 25, .inl f_76)), ((mr 16), .inl (km_pin, 25, .inl f_77)), ((mr 17), .inl (km_ways, 6875, .inl f_78)), ((mr 8), .inl (km_deedMonth, 8, .inl fm_deedMonth)), ((mr 10), .inl (km_deedLong, 8, .inl fm_deedLong)), ((mr 11), .inl (km_deedKind, 8, .inl fm_deedKind)), ((mr 9), .inl (km_deedDay, 8, .inl fm_deedDay))]) [0, 1, 2, 3, 4, 15, 16, 17, 18] rfl
        have hKc := hK.sub (tys' := [(km_must, .int), (km_least, .int), (km_pin, .int), (km_ways, .int), (km_deedMonth, .int), (km_deedLong, .int), (km_deedKind, .int), (km_deedDay, .int)]) [0, 1, 2, 3, 14, 15, 16, 17] rfl
        have hDc := hD.sub (ws' := [(h0, .inr (12, fsMM (upd (upd mi 37 y_73) 41 y_74) mr)), ((mr 14), .inl (km_must, 25, .inl f_75)), ((mr 15), .inl (km_least, 25, .inl f_76)), ((mr 16), .inl (km_pin, 25, .inl f_77)), ((mr 17), .inl (km_ways, 6875, .inl f_78)), ((mr 8), .inl (km_deedMonth, 8, .inl fm_deedMonth)), ((mr 10), .inl (km_deedLong, 8, .inl fm_deedLong)), ((mr 11), .inl (km_deedKind, 8, .inl fm_deedKind)), ((mr 9), .inl (km_deedDay, 8, .inl fm_deedDay))]) [0, 1, 2, 3, 4, 15, 16, 17, 18] (by decide) rfl
        have hFc := va_free (wc := [(h0, .inr (12, fsMM (upd (upd mi 37 y_73) 41 y_74) mr)), ((mr 14), .inl (km_must, 25, .inl f_75)), ((mr 15), .inl (km_least, 25, .inl f_76)), ((mr 16), .inl (km_pin, 25, .inl f_77)), ((mr 17), .inl (km_ways, 6875, .inl f_78)), ((mr 8), .inl (km_deedMonth, 8, .inl fm_deedMonth)), ((mr 10), .inl (km_deedLong, 8, .inl fm_deedLong)), ((mr 11), .inl (km_deedKind, 8, .inl fm_deedKind)), ((mr 9), .inl (km_deedDay, 8, .inl fm_deedDay))]) hD hS hA [0, 1, 2, 3, 4, 15, 16, 17, 18] rfl
        refine va_calli (va_runV (As := [.int p2, .int p3]) (rest := []) ⟨hx, hb, hml, hown, hts⟩ (sX12_dueSpanOf l dC dI H.size h0 (upd (upd mi 37 y_73) 41 y_74) mr km_must f_75 km_least f_76 km_pin f_77 km_ways f_78 km_deedMonth fm_deedMonth km_deedLong fm_deedLong km_deedKind fm_deedKind km_deedDay fm_deedDay p2 p3 gmi_0 gmi_1 gmi_2 gmi_4 gmi_7 gmi_10 gmi_17 gmi_23 gmi_24 gmi_26 gmi_29 gmi_30 gmi_33 gy_73 gy_74 gmi_50 gmi_51 gmi_56 gfm_deedMonth gfm_deedLong g_66 hdd) (cwV 2 hts (gz_gV mGB_480 mGB_481 mGB_482 mGB_1 mGB_483 goodGB) rfl rfl rfl (by decide +kernel) ⟨Nat.le_of_ble_eq_true rfl, Nat.le_of_ble_eq_true rfl⟩) ⟨fun a U g mk q => by obtain ⟨q0, q1, qP, qK, qD⟩ := q; exact ⟨q0, q1, qP, va_K.moved (u := U) (U := U.calling g mk a) (Vm.Alike.refl U.vm) qK, qD⟩, va_recv hKc hPc (ci := 12) (q0 := 0) rfl rfl, fun U hU hW => ⟨rfl, by rw [hU], by rw [hU]; exact hPc, va_K.moved hW.alike hKc, hDc.weaken (fun _ _ _ _ => trivial)⟩⟩ rfl rfl hl.1 rfl (lv_room (Nat.le_of_ble_eq_true rfl)) dX12_dueSpan_37 ⟨Nat.zero_le _, Nat.zero_le _⟩) hS (fun q _ h => hFc q h) hFc (fun r_81 u t H1 locs ht hvm hw hB hz1 hk1 hS => ?_)
        obtain ⟨f_82, f_83, hP1, hD1⟩ := hB
        rw [ht] at hP1
        obtain ⟨hP, hD⟩ := va_join (wr := [((mr 18), .inl (km_verdict, 24, .inl f_79)), ((mr 19), .inl (km_row, 24, .inl f_80)), ((mr 4), .inl (km_struck, 24, .inl fm_struck)), ((mr 7), .inl (km_reportKnown, 24, .inl fm_reportKnown)), ((mr 2), .inl (km_reportPlace, 24, .inl fm_reportPlace)), ((mr 5), .inl (km_reportMonth, 24, .inl fm_reportMonth)), ((mr 6), .inl (km_reportDay, 24, .inl fm_reportDay)), ((mr 3), .inl (km_reportKind, 24, .inl fm_reportKind)), ((mr 0), .inl (km_trust, 6, .inl fm_trust)), ((mr 1), .inl (km_letter, 36, .inl fm_letter))]) (w1 := [(h0, .inr (12, fsMM (upd (upd mi 37 y_73) 41 y_74) mr)), ((mr 14), .inl (km_must, 25, .inl f_75)), ((mr 15), .inl (km_least, 25, .inl f_76)), ((mr 16), .inl (km_pin, 25, .inl f_82)), ((mr 17), .inl (km_ways, 6875, .inl f_83)), ((mr 8), .inl (km_deedMonth, 8, .inl fm_deedMonth)), ((mr 10), .inl (km_deedLong, 8, .inl fm_deedLong)), ((mr 11), .inl (km_deedKind, 8, .inl fm_deedKind)), ((mr 9), .inl (km_deedDay, 8, .inl fm_deedDay))]) hP hD [0, 1, 2, 3, 4, 15, 16, 17, 18] [5, 6, 7, 8, 9, 10, 11, 12, 13, 14] rfl rfl (by decide) (by decide) hk1 hFc hP1 hD1
        have hP := hP.sub (ws' := [(h0, .inr (12, fsMM (upd (upd mi 37 y_73) 41 y_74) mr)), ((mr 14), .inl (km_must, 25, .inl f_75)), ((mr 15), .inl (km_least, 25, .inl f_76)), ((mr 16), .inl (km_pin, 25, .inl f_82)), ((mr 17), .inl (km_ways, 6875, .inl f_83)), ((mr 18), .inl (km_verdict, 24, .inl f_79)), ((mr 19), .inl (km_row, 24, .inl f_80)), ((mr 4), .inl (km_struck, 24, .inl fm_struck)), ((mr 7), .inl (km_reportKnown, 24, .inl fm_reportKnown)), ((mr 2), .inl (km_reportPlace, 24, .inl fm_reportPlace)), ((mr 5), .inl (km_reportMonth, 24, .inl fm_reportMonth)), ((mr 6), .inl (km_reportDay, 24, .inl fm_reportDay)), ((mr 3), .inl (km_reportKind, 24, .inl fm_reportKind)), ((mr 0), .inl (km_trust, 6, .inl fm_trust)), ((mr 1), .inl (km_letter, 36, .inl fm_letter)), ((mr 8), .inl (km_deedMonth, 8, .inl fm_deedMonth)), ((mr 10), .inl (km_deedLong, 8, .inl fm_deedLong)), ((mr 11), .inl (km_deedKind, 8, .inl fm_deedKind)), ((mr 9), .inl (km_deedDay, 8, .inl fm_deedDay))]) [10, 11, 12, 13, 14, 0, 1, 2, 3, 4, 5, 6, 7, 8, 9, 15, 16, 17, 18] rfl
        have hD := hD.sub (ws' := [(h0, .inr (12, fsMM (upd (upd mi 37 y_73) 41 y_74) mr)), ((mr 14), .inl (km_must, 25, .inl f_75)), ((mr 15), .inl (km_least, 25, .inl f_76)), ((mr 16), .inl (km_pin, 25, .inl f_82)), ((mr 17), .inl (km_ways, 6875, .inl f_83)), ((mr 18), .inl (km_verdict, 24, .inl f_79)), ((mr 19), .inl (km_row, 24, .inl f_80)), ((mr 4), .inl (km_struck, 24, .inl fm_struck)), ((mr 7), .inl (km_reportKnown, 24, .inl fm_reportKnown)), ((mr 2), .inl (km_reportPlace, 24, .inl fm_reportPlace)), ((mr 5), .inl (km_reportMonth, 24, .inl fm_reportMonth)), ((mr 6), .inl (km_reportDay, 24, .inl fm_reportDay)), ((mr 3), .inl (km_reportKind, 24, .inl fm_reportKind)), ((mr 0), .inl (km_trust, 6, .inl fm_trust)), ((mr 1), .inl (km_letter, 36, .inl fm_letter)), ((mr 8), .inl (km_deedMonth, 8, .inl fm_deedMonth)), ((mr 10), .inl (km_deedLong, 8, .inl fm_deedLong)), ((mr 11), .inl (km_deedKind, 8, .inl fm_deedKind)), ((mr 9), .inl (km_deedDay, 8, .inl fm_deedDay))]) [10, 11, 12, 13, 14, 0, 1, 2, 3, 4, 5, 6, 7, 8, 9, 15, 16, 17, 18] (by decide) rfl
        generalize H1 = H at hP hS ⊢
        have gr_81 : gi r_81 (-2) 1320 := hw
        exact W.iret (v := r_81) hx hb hr (fun t ht hW => ⟨⟨r_81, (), rfl, gr_81, y_73, y_74, f_75, f_76, f_82, f_83, f_79, f_80, gy_73, gy_74, gf_80, by rw [ht]; exact hP, hD⟩, hS.F ht⟩) hS.2.2 dX12_dueSpan_40
      · have g_84 : gi r_68 0 0 := gi_eq c_69 (gi_c 0 0 (by decide))
        refine lv_bipush (v := (-2)) hx hb dX12_dueSpan_26 (by decide) ?_
        exact W.iret (v := (-2)) hx hb hr (fun t ht hW => ⟨⟨(-2), (), rfl, (gi_w (gi_c (-2) (-2) (by decide)) (by decide)), (mi 37), (mi 41), fm_must, fm_least, fm_pin, fm_ways, fm_verdict, fm_row, gmi_37, gmi_41, gfm_row, by rw [ht]; exact hP, hD⟩, hS.F ht⟩) hS.2.2 dX12_dueSpan_28
theorem dX12_dueOn_0 : decode cX12_dueOn 0 = .ok (.aload_n 0, 1) := by decide +kernel
theorem dX12_dueOn_1 : decode cX12_dueOn 1 = .ok (.iload_n 1, 1) := by decide +kernel
theorem dX12_dueOn_2 : decode cX12_dueOn 2 = .ok (.invokevirtual 359, 3) := by decide +kernel
theorem dX12_dueOn_5 : decode cX12_dueOn 5 = .ok (.ifCond .eq 11, 3) := by decide +kernel
theorem dX12_dueOn_8 : decode cX12_dueOn 8 = .ok (.aload_n 0, 1) := by decide +kernel
theorem dX12_dueOn_9 : decode cX12_dueOn 9 = .ok (.iload_n 2, 1) := by decide +kernel
theorem dX12_dueOn_10 : decode cX12_dueOn 10 = .ok (.invokevirtual 306, 3) := by decide +kernel
theorem dX12_dueOn_13 : decode cX12_dueOn 13 = .ok (.ifCond .ne 6, 3) := by decide +kernel
theorem dX12_dueOn_16 : decode cX12_dueOn 16 = .ok (.bipush (-2), 2) := by decide +kernel
theorem dX12_dueOn_18 : decode cX12_dueOn 18 = .ok (.ireturn, 1) := by decide +kernel
theorem dX12_dueOn_19 : decode cX12_dueOn 19 = .ok (.aload_n 0, 1) := by decide +kernel
theorem dX12_dueOn_20 : decode cX12_dueOn 20 = .ok (.iload_n 1, 1) := by decide +kernel
theorem dX12_dueOn_21 : decode cX12_dueOn 21 = .ok (.invokevirtual 362, 3) := by decide +kernel
theorem dX12_dueOn_24 : decode cX12_dueOn 24 = .ok (.iload_n 3, 1) := by decide +kernel
theorem dX12_dueOn_25 : decode cX12_dueOn 25 = .ok (.ifCond .lt 10, 3) := by decide +kernel
theorem dX12_dueOn_28 : decode cX12_dueOn 28 = .ok (.iload_n 3, 1) := by decide +kernel
theorem dX12_dueOn_29 : decode cX12_dueOn 29 = .ok (.sipush 8991, 3) := by decide +kernel
theorem dX12_dueOn_32 : decode cX12_dueOn 32 = .ok (.if_icmp .le 7, 3) := by decide +kernel
theorem dX12_dueOn_35 : decode cX12_dueOn 35 = .ok (.iconst 0, 1) := by decide +kernel
theorem dX12_dueOn_36 : decode cX12_dueOn 36 = .ok (.goto 9, 3) := by decide +kernel
theorem dX12_dueOn_39 : decode cX12_dueOn 39 = .ok (.aload_n 0, 1) := by decide +kernel
theorem dX12_dueOn_40 : decode cX12_dueOn 40 = .ok (.iload_n 2, 1) := by decide +kernel
theorem dX12_dueOn_41 : decode cX12_dueOn 41 = .ok (.iload_n 3, 1) := by decide +kernel
theorem dX12_dueOn_42 : decode cX12_dueOn 42 = .ok (.invokevirtual 444, 3) := by decide +kernel
theorem dX12_dueOn_45 : decode cX12_dueOn 45 = .ok (.ireturn, 1) := by decide +kernel
set_option maxHeartbeats 4000000 in
set_option maxRecDepth 100000 in
theorem sX12_dueOn (l : Launch) (dC : Nat → ClassId) (dI : Nat → Nat → Nat) (sz : Nat) (h0 : Nat) (mi : Nat → Int32) (mr : Nat → Nat) (km_must : ClassId) (fm_must : Nat → Int32) (km_least : ClassId) (fm_least : Nat → Int32) (km_pin : ClassId) (fm_pin : Nat → Int32) (km_ways : ClassId) (fm_ways : Nat → Int32) (km_verdict : ClassId) (fm_verdict : Nat → Int32) (km_row : ClassId) (fm_row : Nat → Int32) (km_struck : ClassId) (fm_struck : Nat → Int32) (km_reportKnown : ClassId) (fm_reportKnown : Nat → Int32) (km_reportPlace : ClassId) (fm_reportPlace : Nat → Int32) (km_reportMonth : ClassId) (fm_reportMonth : Nat → Int32) (km_reportDay : ClassId) (fm_reportDay : Nat → Int32) (km_reportKind : ClassId) (fm_reportKind : Nat → Int32) (km_trust : ClassId) (fm_trust : Nat → Int32) (km_letter : ClassId) (fm_letter : Nat → Int32) (km_deedMonth : ClassId) (fm_deedMonth : Nat → Int32) (km_deedLong : ClassId) (fm_deedLong : Nat → Int32) (km_deedKind : ClassId) (fm_deedKind : Nat → Int32) (km_deedDay : ClassId) (fm_deedDay : Nat → Int32) (p1 : Int32) (p2 : Int32) (p3 : Int32) (gmi_0 : gi (mi 0) 0 24) (gmi_1 : gi (mi 1) 0 5) (gmi_2 : gi (mi 2) 0 5) (gmi_4 : gi (mi 4) 0 1) (gmi_7 : gi (mi 7) 0 6) (gmi_10 : gi (mi 10) 0 24) (gmi_17 : gi (mi 17) 0 8) (gmi_23 : gi (mi 23) 0 300) (gmi_24 : gi (mi 24) 0 1) (gmi_26 : gi (mi 26) 0 1600) (gmi_29 : gi (mi 29) 0 1600) (gmi_30 : gi (mi 30) 0 1600) (gmi_33 : gi (mi 33) 0 1) (gmi_37 : gi (mi 37) 0 1) (gmi_41 : gi (mi 41) 0 24) (gmi_50 : gi (mi 50) 0 1) (gmi_51 : gi (mi 51) 0 1) (gmi_56 : gi (mi 56) 0 80) (gfm_row : ga fm_row 24 0 23) (gfm_struck : ga fm_struck 24 0 1) (gfm_reportKnown : ga fm_reportKnown 24 0 999) (gfm_reportPlace : ga fm_reportPlace 24 0 5) (gfm_reportMonth : ga fm_reportMonth 24 0 23) (gfm_reportDay : ga fm_reportDay 24 0 999) (gfm_deedMonth : ga fm_deedMonth 8 0 23) (gfm_deedLong : ga fm_deedLong 8 0 600) (hdd : ∀ j : Nat, j < 8 → ((fm_deedKind j).toInt ≠ 0 ∨ (fm_deedMonth j).toInt + (fm_deedLong j).toInt ≤ 23)) : Met l yX12_dueOn (.code yX12_dueOn cX12_dueOn 4 (some .int) :: wsGB) ({ frames := 7, cells := 0, slots := 0, locals := 170 }) (va_Pc [.ref h0, .int p1, .int p2, .int p3] (fun U => U.heap.size = sz ∧ va_P (dC, dI) vwCl [(h0, .inr (12, fsMM mi mr)), ((mr 14), .inl (km_must, 25, .inl fm_must)), ((mr 15), .inl (km_least, 25, .inl fm_least)), ((mr 16), .inl (km_pin, 25, .inl fm_pin)), ((mr 17), .inl (km_ways, 6875, .inl fm_ways)), ((mr 18), .inl (km_verdict, 24, .inl fm_verdict)), ((mr 19), .inl (km_row, 24, .inl fm_row)), ((mr 4), .inl (km_struck, 24, .inl fm_struck)), ((mr 7), .inl (km_reportKnown, 24, .inl fm_reportKnown)), ((mr 2), .inl (km_reportPlace, 24, .inl fm_reportPlace)), ((mr 5), .inl (km_reportMonth, 24, .inl fm_reportMonth)), ((mr 6), .inl (km_reportDay, 24, .inl fm_reportDay)), ((mr 3), .inl (km_reportKind, 24, .inl fm_reportKind)), ((mr 0), .inl (km_trust, 6, .inl fm_trust)), ((mr 1), .inl (km_letter, 36, .inl fm_letter)), ((mr 8), .inl (km_deedMonth, 8, .inl fm_deedMonth)), ((mr 10), .inl (km_deedLong, 8, .inl fm_deedLong)), ((mr 11), .inl (km_deedKind, 8, .inl fm_deedKind)), ((mr 9), .inl (km_deedDay, 8, .inl fm_deedDay))] U.heap ∧ va_K (dC, dI) vwCl [(km_must, .int), (km_least, .int), (km_pin, .int), (km_ways, .int), (km_verdict, .int), (km_row, .int), (km_struck, .boolean), (km_reportKnown, .int), (km_reportPlace, .int), (km_reportMonth, .int), (km_reportDay, .int), (km_reportKind, .int), (km_trust, .int), (km_letter, .int), (km_deedMonth, .int), (km_deedLong, .int), (km_deedKind, .int), (km_deedDay, .int)] U ∧ va_D (fun _ => True) [(h0, .inr (12, fsMM mi mr)), ((mr 14), .inl (km_must, 25, .inl fm_must)), ((mr 15), .inl (km_least, 25, .inl fm_least)), ((mr 16), .inl (km_pin, 25, .inl fm_pin)), ((mr 17), .inl (km_ways, 6875, .inl fm_ways)), ((mr 18), .inl (km_verdict, 24, .inl fm_verdict)), ((mr 19), .inl (km_row, 24, .inl fm_row)), ((mr 4), .inl (km_struck, 24, .inl fm_struck)), ((mr 7), .inl (km_reportKnown, 24, .inl fm_reportKnown)), ((mr 2), .inl (km_reportPlace, 24, .inl fm_reportPlace)), ((mr 5), .inl (km_reportMonth, 24, .inl fm_reportMonth)), ((mr 6), .inl (km_reportDay, 24, .inl fm_reportDay)), ((mr 3), .inl (km_reportKind, 24, .inl fm_reportKind)), ((mr 0), .inl (km_trust, 6, .inl fm_trust)), ((mr 1), .inl (km_letter, 36, .inl fm_letter)), ((mr 8), .inl (km_deedMonth, 8, .inl fm_deedMonth)), ((mr 10), .inl (km_deedLong, 8, .inl fm_deedLong)), ((mr 11), .inl (km_deedKind, 8, .inl fm_deedKind)), ((mr 9), .inl (km_deedDay, 8, .inl fm_deedDay))])) (va_Qi (fun (r : Int32) (u : Unit) => gi r (-2147483648) 2147483647) (fun _ t => ∃ (w0_37 : Int32) (w0_41 : Int32) (z1 : Nat → Int32) (z2 : Nat → Int32) (z3 : Nat → Int32) (z4 : Nat → Int32) (z5 : Nat → Int32) (z6 : Nat → Int32), gi w0_37 0 1 ∧ gi w0_41 0 24 ∧ ga z6 24 0 23 ∧ va_P (dC, dI) vwCl [(h0, .inr (12, fsMM (upd (upd mi 37 w0_37) 41 w0_41) mr)), ((mr 14), .inl (km_must, 25, .inl z1)), ((mr 15), .inl (km_least, 25, .inl z2)), ((mr 16), .inl (km_pin, 25, .inl z3)), ((mr 17), .inl (km_ways, 6875, .inl z4)), ((mr 18), .inl (km_verdict, 24, .inl z5)), ((mr 19), .inl (km_row, 24, .inl z6)), ((mr 4), .inl (km_struck, 24, .inl fm_struck)), ((mr 7), .inl (km_reportKnown, 24, .inl fm_reportKnown)), ((mr 2), .inl (km_reportPlace, 24, .inl fm_reportPlace)), ((mr 5), .inl (km_reportMonth, 24, .inl fm_reportMonth)), ((mr 6), .inl (km_reportDay, 24, .inl fm_reportDay)), ((mr 3), .inl (km_reportKind, 24, .inl fm_reportKind)), ((mr 0), .inl (km_trust, 6, .inl fm_trust)), ((mr 1), .inl (km_letter, 36, .inl fm_letter)), ((mr 8), .inl (km_deedMonth, 8, .inl fm_deedMonth)), ((mr 10), .inl (km_deedLong, 8, .inl fm_deedLong)), ((mr 11), .inl (km_deedKind, 8, .inl fm_deedKind)), ((mr 9), .inl (km_deedDay, 8, .inl fm_deedDay))] t.heap ∧ va_D (va_A [(h0, .inr (12, fsMM mi mr)), ((mr 14), .inl (km_must, 25, .inl fm_must)), ((mr 15), .inl (km_least, 25, .inl fm_least)), ((mr 16), .inl (km_pin, 25, .inl fm_pin)), ((mr 17), .inl (km_ways, 6875, .inl fm_ways)), ((mr 18), .inl (km_verdict, 24, .inl fm_verdict)), ((mr 19), .inl (km_row, 24, .inl fm_row)), ((mr 4), .inl (km_struck, 24, .inl fm_struck)), ((mr 7), .inl (km_reportKnown, 24, .inl fm_reportKnown)), ((mr 2), .inl (km_reportPlace, 24, .inl fm_reportPlace)), ((mr 5), .inl (km_reportMonth, 24, .inl fm_reportMonth)), ((mr 6), .inl (km_reportDay, 24, .inl fm_reportDay)), ((mr 3), .inl (km_reportKind, 24, .inl fm_reportKind)), ((mr 0), .inl (km_trust, 6, .inl fm_trust)), ((mr 1), .inl (km_letter, 36, .inl fm_letter)), ((mr 8), .inl (km_deedMonth, 8, .inl fm_deedMonth)), ((mr 10), .inl (km_deedLong, 8, .inl fm_deedLong)), ((mr 11), .inl (km_deedKind, 8, .inl fm_deedKind)), ((mr 9), .inl (km_deedDay, 8, .inl fm_deedDay))] sz) [(h0, .inr (12, fsMM (upd (upd mi 37 w0_37) 41 w0_41) mr)), ((mr 14), .inl (km_must, 25, .inl z1)), ((mr 15), .inl (km_least, 25, .inl z2)), ((mr 16), .inl (km_pin, 25, .inl z3)), ((mr 17), .inl (km_ways, 6875, .inl z4)), ((mr 18), .inl (km_verdict, 24, .inl z5)), ((mr 19), .inl (km_row, 24, .inl z6)), ((mr 4), .inl (km_struck, 24, .inl fm_struck)), ((mr 7), .inl (km_reportKnown, 24, .inl fm_reportKnown)), ((mr 2), .inl (km_reportPlace, 24, .inl fm_reportPlace)), ((mr 5), .inl (km_reportMonth, 24, .inl fm_reportMonth)), ((mr 6), .inl (km_reportDay, 24, .inl fm_reportDay)), ((mr 3), .inl (km_reportKind, 24, .inl fm_reportKind)), ((mr 0), .inl (km_trust, 6, .inl fm_trust)), ((mr 1), .inl (km_letter, 36, .inl fm_letter)), ((mr 8), .inl (km_deedMonth, 8, .inl fm_deedMonth)), ((mr 10), .inl (km_deedLong, 8, .inl fm_deedLong)), ((mr 11), .inl (km_deedKind, 8, .inl fm_deedKind)), ((mr 9), .inl (km_deedDay, 8, .inl fm_deedDay))]) (va_A [(h0, .inr (12, fsMM mi mr)), ((mr 14), .inl (km_must, 25, .inl fm_must)), ((mr 15), .inl (km_least, 25, .inl fm_least)), ((mr 16), .inl (km_pin, 25, .inl fm_pin)), ((mr 17), .inl (km_ways, 6875, .inl fm_ways)), ((mr 18), .inl (km_verdict, 24, .inl fm_verdict)), ((mr 19), .inl (km_row, 24, .inl fm_row)), ((mr 4), .inl (km_struck, 24, .inl fm_struck)), ((mr 7), .inl (km_reportKnown, 24, .inl fm_reportKnown)), ((mr 2), .inl (km_reportPlace, 24, .inl fm_reportPlace)), ((mr 5), .inl (km_reportMonth, 24, .inl fm_reportMonth)), ((mr 6), .inl (km_reportDay, 24, .inl fm_reportDay)), ((mr 3), .inl (km_reportKind, 24, .inl fm_reportKind)), ((mr 0), .inl (km_trust, 6, .inl fm_trust)), ((mr 1), .inl (km_letter, 36, .inl fm_letter)), ((mr 8), .inl (km_deedMonth, 8, .inl fm_deedMonth)), ((mr 10), .inl (km_deedLong, 8, .inl fm_deedLong)), ((mr 11), .inl (km_deedKind, 8, .inl fm_deedKind)), ((mr 9), .inl (km_deedDay, 8, .inl fm_deedDay))] sz)) 0 0 (va_A [(h0, .inr (12, fsMM mi mr)), ((mr 14), .inl (km_must, 25, .inl fm_must)), ((mr 15), .inl (km_least, 25, .inl fm_least)), ((mr 16), .inl (km_pin, 25, .inl fm_pin)), ((mr 17), .inl (km_ways, 6875, .inl fm_ways)), ((mr 18), .inl (km_verdict, 24, .inl fm_verdict)), ((mr 19), .inl (km_row, 24, .inl fm_row)), ((mr 4), .inl (km_struck, 24, .inl fm_struck)), ((mr 7), .inl (km_reportKnown, 24, .inl fm_reportKnown)), ((mr 2), .inl (km_reportPlace, 24, .inl fm_reportPlace)), ((mr 5), .inl (km_reportMonth, 24, .inl fm_reportMonth)), ((mr 6), .inl (km_reportDay, 24, .inl fm_reportDay)), ((mr 3), .inl (km_reportKind, 24, .inl fm_reportKind)), ((mr 0), .inl (km_trust, 6, .inl fm_trust)), ((mr 1), .inl (km_letter, 36, .inl fm_letter)), ((mr 8), .inl (km_deedMonth, 8, .inl fm_deedMonth)), ((mr 10), .inl (km_deedLong, 8, .inl fm_deedLong)), ((mr 11), .inl (km_deedKind, 8, .inl fm_deedKind)), ((mr 9), .inl (km_deedDay, 8, .inl fm_deedDay))] sz) := by
  refine Met.ofW (cc := cX12_dueOn) (maxL := 4) (ret := (some .int)) (by decide) rfl ?_
  intro p e s m args below meth c s₁ B hml hv
  obtain ⟨rfl, hsz, hP, hK, hD0⟩ := hv
  have hx := B.exec
  have hb := B.bytes
  have hr := B.returns
  have hts := atoms_spec (ws := (.code yX12_dueOn cX12_dueOn 4 (some .int) :: wsGB)) B.pre
  have hown : s.vm.findClass RX12 = some m.cls := findClass_of_methodNamed B.named
  have hlocks := B.notSynchronized
  subst hsz
  have hD := hD0.self (sz := s.heap.size)
  generalize hAe : va_A [(h0, .inr (12, fsMM mi mr)), ((mr 14), .inl (km_must, 25, .inl fm_must)), ((mr 15), .inl (km_least, 25, .inl fm_least)), ((mr 16), .inl (km_pin, 25, .inl fm_pin)), ((mr 17), .inl (km_ways, 6875, .inl fm_ways)), ((mr 18), .inl (km_verdict, 24, .inl fm_verdict)), ((mr 19), .inl (km_row, 24, .inl fm_row)), ((mr 4), .inl (km_struck, 24, .inl fm_struck)), ((mr 7), .inl (km_reportKnown, 24, .inl fm_reportKnown)), ((mr 2), .inl (km_reportPlace, 24, .inl fm_reportPlace)), ((mr 5), .inl (km_reportMonth, 24, .inl fm_reportMonth)), ((mr 6), .inl (km_reportDay, 24, .inl fm_reportDay)), ((mr 3), .inl (km_reportKind, 24, .inl fm_reportKind)), ((mr 0), .inl (km_trust, 6, .inl fm_trust)), ((mr 1), .inl (km_letter, 36, .inl fm_letter)), ((mr 8), .inl (km_deedMonth, 8, .inl fm_deedMonth)), ((mr 10), .inl (km_deedLong, 8, .inl fm_deedLong)), ((mr 11), .inl (km_deedKind, 8, .inl fm_deedKind)), ((mr 9), .inl (km_deedDay, 8, .inl fm_deedDay))] s.heap.size = A at hD ⊢
  have hA : ∀ q : Nat, s.heap.size ≤ q → A q := fun q h => by rw [← hAe]; exact Or.inr h
  have hS : va_S A s.heap s.heap [] := va_S.rf
  have hl := lv_entry ([.ref h0, .int p1, .int p2, .int p3]) (n := 4) (Nat.le_of_ble_eq_true rfl)
  rw [lg_entry_eq]
  generalize (lg_sl ([.ref h0, .int p1, .int p2, .int p3]) ++ List.replicate (4 - (lg_sl ([.ref h0, .int p1, .int p2, .int p3])).length) Slot.unset).toArray = ls at hl ⊢
  have hl : lv_has ls 4 [(0, .ref h0), (1, .int p1), (2, .int p2), (3, .int p3)] := hl
  refine lv_aload_n hx hb dX12_dueOn_0 rfl (lv_at hl 0 rfl) ?_
  refine lv_iload_n hx hb dX12_dueOn_1 rfl (lv_at hl 1 rfl) ?_
  have hPc := hP.sub (ws' := [(h0, .inr (12, fsMM mi mr))]) [0] rfl
  have hKc := hK.sub (tys' := []) [] rfl
  refine va_calli (va_runV (As := [.int p1]) (rest := []) ⟨hx, hb, hml, hown, hts⟩ (sX12_isTime l dC dI h0 mi mr p1 gmi_0 gmi_1 gmi_2 gmi_4 gmi_7 gmi_10 gmi_17 gmi_23 gmi_24 gmi_26 gmi_29 gmi_30 gmi_33 gmi_37 gmi_41 gmi_50 gmi_51 gmi_56) (cwV 1 hts (gz_gV mGB_256 mGB_257 mGB_258 mGB_1 mGB_259 goodGB) rfl rfl rfl (by decide +kernel) ⟨Nat.le_of_ble_eq_true rfl, Nat.le_of_ble_eq_true rfl⟩) ⟨fun a U g mk q => by obtain ⟨q0, qP, qK⟩ := q; exact ⟨q0, qP, va_K.moved (u := U) (U := U.calling g mk a) (Vm.Alike.refl U.vm) qK⟩, va_recv hKc hPc (ci := 12) (q0 := 0) rfl rfl, fun U hU hW => ⟨rfl, by rw [hU]; exact hPc, va_K.moved hW.alike hKc⟩⟩ rfl rfl hl.1 rfl (lv_room (Nat.le_of_ble_eq_true rfl)) dX12_dueOn_2 ⟨Nat.zero_le _, Nat.zero_le _⟩) hS (fun q _ h => h.elim) (fun q h => h.elim) (fun r_57 u t H1 locs ht hvm hw hB hz1 hk1 hS => ?_)
  have hP := gz_keep hP hk1
  generalize H1 = H at hP hS ⊢
  have gr_57 : gi r_57 0 1 := hw.1
  have hqr_57 := hw.2
  refine lv_if_eq (tgt := 16) hx hb dX12_dueOn_5 (by decide) (fun c_58 => ?_) (fun c_58 => ?_)
  · have g_59 : gi r_57 0 0 := gi_eq c_58 (gi_c 0 0 (by decide))
    refine lv_bipush (v := (-2)) hx hb dX12_dueOn_16 (by decide) ?_
    exact W.iret (v := (-2)) hx hb hr (fun t ht hW => ⟨⟨(-2), (), rfl, (gi_any (-2)), (mi 37), (mi 41), fm_must, fm_least, fm_pin, fm_ways, fm_verdict, fm_row, gmi_37, gmi_41, gfm_row, by rw [ht]; exact hP, hD⟩, hS.F ht⟩) hS.2.2 dX12_dueOn_18
  · have g_60 : gi r_57 1 1 := gi_ne_lo c_58 gr_57 (gi_c 0 0 (by decide)) (by decide)
    have g_61 : gi p1 0 999 := gi_cap (gi_any p1) (hqr_57 (gz_one g_60)) (by decide)
    refine lv_aload_n hx hb dX12_dueOn_8 rfl (lv_at hl 0 rfl) ?_
    refine lv_iload_n hx hb dX12_dueOn_9 rfl (lv_at hl 2 rfl) ?_
    have hPc := hP.sub (ws' := [(h0, .inr (12, fsMM mi mr))]) [0] rfl
    have hKc := hK.sub (tys' := []) [] rfl
    refine va_calli (va_runV (As := [.int p2]) (rest := []) ⟨hx, hb, hml, hown, hts⟩ (sX12_isDeed l dC dI h0 mi mr p2 gmi_0 gmi_1 gmi_2 gmi_4 gmi_7 gmi_10 gmi_17 gmi_23 gmi_24 gmi_26 gmi_29 gmi_30 gmi_33 gmi_37 gmi_41 gmi_50 gmi_51 gmi_56) (cwV 1 hts (gz_gV mGB_242 mGB_243 mGB_244 mGB_1 mGB_245 goodGB) rfl rfl rfl (by decide +kernel) ⟨Nat.le_of_ble_eq_true rfl, Nat.le_of_ble_eq_true rfl⟩) ⟨fun a U g mk q => by obtain ⟨q0, qP, qK⟩ := q; exact ⟨q0, qP, va_K.moved (u := U) (U := U.calling g mk a) (Vm.Alike.refl U.vm) qK⟩, va_recv hKc hPc (ci := 12) (q0 := 0) rfl rfl, fun U hU hW => ⟨rfl, by rw [hU]; exact hPc, va_K.moved hW.alike hKc⟩⟩ rfl rfl hl.1 rfl (lv_room (Nat.le_of_ble_eq_true rfl)) dX12_dueOn_10 ⟨Nat.zero_le _, Nat.zero_le _⟩) hS (fun q _ h => h.elim) (fun q h => h.elim) (fun r_62 u t H1 locs ht hvm hw hB hz1 hk1 hS => ?_)
    have hP := gz_keep hP hk1
    generalize H1 = H at hP hS ⊢
    have gr_62 : gi r_62 0 1 := hw.1
    have hqr_62 := hw.2
    refine lv_if_ne (tgt := 19) hx hb dX12_dueOn_13 (by decide) (fun c_63 => ?_) (fun c_63 => ?_)
    · have g_64 : gi r_62 1 1 := gi_ne_lo c_63 gr_62 (gi_c 0 0 (by decide)) (by decide)
      have g_65 : gi p2 0 7 := gi_cap (gi_any p2) (hqr_62 (gz_one g_64)) (by decide)
      refine lv_aload_n hx hb dX12_dueOn_19 rfl (lv_at hl 0 rfl) ?_
      refine lv_iload_n hx hb dX12_dueOn_20 rfl (lv_at hl 1 rfl) ?_
      have hPc := hP.sub (ws' := [(h0, .inr (12, fsMM mi mr)), ((mr 14), .inl (km_must, 25, .inl fm_must)), ((mr 15), .inl (km_least, 25, .inl fm_least)), ((mr 16), .inl (km_pin, 25, .inl fm_pin)), ((mr 17), .inl (km_ways, 6875, .inl fm_ways)), ((mr 18), .inl (km_verdict, 24, .inl fm_verdict)), ((mr 19), .inl (km_row, 24, .inl fm_row)), ((mr 4), .inl (km_struck, 24, .inl fm_struck)), ((mr 7), .inl (km_reportKnown, 24, .inl fm_reportKnown)), ((mr 2), .inl (km_reportPlace, 24, .inl fm_reportPlace)), ((mr 5), .inl (km_reportMonth, 24, .inl fm_reportMonth)), ((mr 6), .inl (km_reportDay, 24, .inl fm_reportDay)), ((mr 3), .inl (km_reportKind, 24, .inl fm_reportKind)), ((mr 0), .inl (km_trust, 6, .inl fm_trust)), ((mr 1), .inl (km_letter, 36, .inl fm_letter))]) [0, 1, 2, 3, 4, 5, 6, 7, 8, 9, 10, 11, 12, 13, 14] rfl
      have hKc := hK.sub (tys' := [(km_must, .int), (km_least, .int), (km_pin, .int), (km_ways, .int), (km_verdict, .int), (km_row, .int), (km_struck, .boolean), (km_reportKnown, .int), (km_reportPlace, .int), (km_reportMonth, .int), (km_reportDay, .int), (km_reportKind, .int), (km_trust, .int), (km_letter, .int)]) [0, 1, 2, 3, 4, 5, 6, 7, 8, 9, 10, 11, 12, 13] rfl
      have hDc := hD.sub (ws' := [(h0, .inr (12, fsMM mi mr)), ((mr 14), .inl (km_must, 25, .inl fm_must)), ((mr 15), .inl (km_least, 25, .inl fm_least)), ((mr 16), .inl (km_pin, 25, .inl fm_pin)), ((mr 17), .inl (km_ways, 6875, .inl fm_ways)), ((mr 18), .inl (km_verdict, 24, .inl fm_verdict)), ((mr 19), .inl (km_row, 24, .inl fm_row)), ((mr 4), .inl (km_struck, 24, .inl fm_struck)), ((mr 7), .inl (km_reportKnown, 24, .inl fm_reportKnown)), ((mr 2), .inl (km_reportPlace, 24, .inl fm_reportPlace)), ((mr 5), .inl (km_reportMonth, 24, .inl fm_reportMonth)), ((mr 6), .inl (km_reportDay, 24, .inl fm_reportDay)), ((mr 3), .inl (km_reportKind, 24, .inl fm_reportKind)), ((mr 0), .inl (km_trust, 6, .inl fm_trust)), ((mr 1), .inl (km_letter, 36, .inl fm_letter))]) [0, 1, 2, 3, 4, 5, 6, 7, 8, 9, 10, 11, 12, 13, 14] (by decide) rfl
      have hFc := va_free (wc := [(h0, .inr (12, fsMM mi mr)), ((mr 14), .inl (km_must, 25, .inl fm_must)), ((mr 15), .inl (km_least, 25, .inl fm_least)), ((mr 16), .inl (km_pin, 25, .inl fm_pin)), ((mr 17), .inl (km_ways, 6875, .inl fm_ways)), ((mr 18), .inl (km_verdict, 24, .inl fm_verdict)), ((mr 19), .inl (km_row, 24, .inl fm_row)), ((mr 4), .inl (km_struck, 24, .inl fm_struck)), ((mr 7), .inl (km_reportKnown, 24, .inl fm_reportKnown)), ((mr 2), .inl (km_reportPlace, 24, .inl fm_reportPlace)), ((mr 5), .inl (km_reportMonth, 24, .inl fm_reportMonth)), ((mr 6), .inl (km_reportDay, 24, .inl fm_reportDay)), ((mr 3), .inl (km_reportKind, 24, .inl fm_reportKind)), ((mr 0), .inl (km_trust, 6, .inl fm_trust)), ((mr 1), .inl (km_letter, 36, .inl fm_letter))]) hD hS hA [0, 1, 2, 3, 4, 5, 6, 7, 8, 9, 10, 11, 12, 13, 14] rfl
      refine va_callv (va_runV (As := [.int p1]) (rest := []) ⟨hx, hb, hml, hown, hts⟩ (sX12_judgesAll l dC dI H.size h0 mi mr km_must fm_must km_least fm_least km_pin fm_pin km_ways fm_ways km_verdict fm_verdict km_row fm_row km_struck fm_struck km_reportKnown fm_reportKnown km_reportPlace fm_reportPlace km_reportMonth fm_reportMonth km_reportDay fm_reportDay km_reportKind fm_reportKind km_trust fm_trust km_letter fm_letter p1 gmi_0 gmi_1 gmi_2 gmi_4 gmi_7 gmi_10 gmi_17 gmi_23 gmi_24 gmi_26 gmi_29 gmi_30 gmi_33 gmi_37 gmi_41 gmi_50 gmi_51 gmi_56 gfm_row gfm_struck gfm_reportKnown gfm_reportPlace gfm_reportMonth gfm_reportDay) (cwV 1 hts (gz_gV mGB_261 mGB_262 mGB_263 mGB_1 mGB_264 goodGB) rfl rfl rfl (by decide +kernel) ⟨Nat.le_of_ble_eq_true rfl, Nat.le_of_ble_eq_true rfl⟩) ⟨fun a U g mk q => by obtain ⟨q0, q1, qP, qK, qD⟩ := q; exact ⟨q0, q1, qP, va_K.moved (u := U) (U := U.calling g mk a) (Vm.Alike.refl U.vm) qK, qD⟩, va_recv hKc hPc (ci := 12) (q0 := 0) rfl rfl, fun U hU hW => ⟨rfl, by rw [hU], by rw [hU]; exact hPc, va_K.moved hW.alike hKc, hDc.weaken (fun _ _ _ _ => trivial)⟩⟩ rfl rfl hl.1 rfl (lv_room (Nat.le_of_ble_eq_true rfl)) dX12_dueOn_21 ⟨Nat.zero_le _, Nat.zero_le _⟩) hS (fun q _ h => hFc q h) hFc (fun u t H1 locs ht hvm hw hB hz1 hk1 hS => ?_)
      obtain ⟨y_67, y_68, f_69, f_70, f_71, f_72, f_73, f_74, gy_67, gy_68, gf_74, hP1, hD1⟩ := hB
      rw [ht] at hP1
      obtain ⟨hP, hD⟩ := va_join (wr := [((mr 8), .inl (km_deedMonth, 8, .inl fm_deedMonth)), ((mr 10), .inl (km_deedLong, 8, .inl fm_deedLong)), ((mr 11), .inl (km_deedKind, 8, .inl fm_deedKind)), ((mr 9), .inl (km_deedDay, 8, .inl fm_deedDay))]) (w1 := [(h0, .inr (12, fsMM (upd (upd mi 37 y_67) 41 y_68) mr)), ((mr 14), .inl (km_must, 25, .inl f_69)), ((mr 15), .inl (km_least, 25, .inl f_70)), ((mr 16), .inl (km_pin, 25, .inl f_71)), ((mr 17), .inl (km_ways, 6875, .inl f_72)), ((mr 18), .inl (km_verdict, 24, .inl f_73)), ((mr 19), .inl (km_row, 24, .inl f_74)), ((mr 4), .inl (km_struck, 24, .inl fm_struck)), ((mr 7), .inl (km_reportKnown, 24, .inl fm_reportKnown)), ((mr 2), .inl (km_reportPlace, 24, .inl fm_reportPlace)), ((mr 5), .inl (km_reportMonth, 24, .inl fm_reportMonth)), ((mr 6), .inl (km_reportDay, 24, .inl fm_reportDay)), ((mr 3), .inl (km_reportKind, 24, .inl fm_reportKind)), ((mr 0), .inl (km_trust, 6, .inl fm_trust)), ((mr 1), .inl (km_letter, 36, .inl fm_letter))]) hP hD [0, 1, 2, 3, 4, 5, 6, 7, 8, 9, 10, 11, 12, 13, 14] [15, 16, 17, 18] rfl rfl (by decide) (by decide) hk1 hFc hP1 hD1
      have hP := hP.sub (ws' := [(h0, .inr (12, fsMM (upd (upd mi 37 y_67) 41 y_68) mr)), ((mr 14), .inl (km_must, 25, .inl f_69)), ((mr 15), .inl (km_least, 25, .inl f_70)), ((mr 16), .inl (km_pin, 25, .inl f_71)), ((mr 17), .inl (km_ways, 6875, .inl f_72)), ((mr 18), .inl (km_verdict, 24, .inl f_73)), ((mr 19), .inl (km_row, 24, .inl f_74)), ((mr 4), .inl (km_struck, 24, .inl fm_struck)), ((mr 7), .inl (km_reportKnown, 24, .inl fm_reportKnown)), ((mr 2), .inl (km_reportPlace, 24, .inl fm_reportPlace)), ((mr 5), .inl (km_reportMonth, 24, .inl fm_reportMonth)), ((mr 6), .inl (km_reportDay, 24, .inl fm_reportDay)), ((mr 3), .inl (km_reportKind, 24, .inl fm_reportKind)), ((mr 0), .inl (km_trust, 6, .inl fm_trust)), ((mr 1), .inl (km_letter, 36, .inl fm_letter)), ((mr 8), .inl (km_deedMonth, 8, .inl fm_deedMonth)), ((mr 10), .inl (km_deedLong, 8, .inl fm_deedLong)), ((mr 11), .inl (km_deedKind, 8, .inl fm_deedKind)), ((mr 9), .inl (km_deedDay, 8, .inl fm_deedDay))]) [4, 5, 6, 7, 8, 9, 10, 11, 12, 13, 14, 15, 16, 17, 18, 0, 1, 2, 3] rfl
      have hD := hD.sub (ws' := [(h0, .inr (12, fsMM (upd (upd mi 37 y_67) 41 y_68) mr)), ((mr 14), .inl (km_must, 25, .inl f_69)), ((mr 15), .inl (km_least, 25, .inl f_70)), ((mr 16), .inl (km_pin, 25, .inl f_71)), ((mr 17), .inl (km_ways, 6875, .inl f_72)), ((mr 18), .inl (km_verdict, 24, .inl f_73)), ((mr 19), .inl (km_row, 24, .inl f_74)), ((mr 4), .inl (km_struck, 24, .inl fm_struck)), ((mr 7), .inl (km_reportKnown, 24, .inl fm_reportKnown)), ((mr 2), .inl (km_reportPlace, 24, .inl fm_reportPlace)), ((mr 5), .inl (km_reportMonth, 24, .inl fm_reportMonth)), ((mr 6), .inl (km_reportDay, 24, .inl fm_reportDay)), ((mr 3), .inl (km_reportKind, 24, .inl fm_reportKind)), ((mr 0), .inl (km_trust, 6, .inl fm_trust)), ((mr 1), .inl (km_letter, 36, .inl fm_letter)), ((mr 8), .inl (km_deedMonth, 8, .inl fm_deedMonth)), ((mr 10), .inl (km_deedLong, 8, .inl fm_deedLong)), ((mr 11), .inl (km_deedKind, 8, .inl fm_deedKind)), ((mr 9), .inl (km_deedDay, 8, .inl fm_deedDay))]) [4, 5, 6, 7, 8, 9, 10, 11, 12, 13, 14, 15, 16, 17, 18, 0, 1, 2, 3] (by decide) rfl
      generalize H1 = H at hP hS ⊢
      refine lv_iload_n hx hb dX12_dueOn_24 rfl (lv_at hl 3 rfl) ?_
      refine lv_if_lt (tgt := 35) hx hb dX12_dueOn_25 (by decide) (fun c_75 => ?_) (fun c_75 => ?_)
      · have g_76 : gi p3 (-2147483648) (-1) := gi_lt_l c_75 (gi_any p3) (gi_c 0 0 (by decide)) (by decide)
        refine lv_iconst (v := 0) hx hb dX12_dueOn_35 (by decide) ?_
        refine lv_goto (tgt := 45) hx hb dX12_dueOn_36 (by decide) ?_
        exact W.iret (v := 0) hx hb hr (fun t ht hW => ⟨⟨0, (), rfl, (gi_any 0), y_67, y_68, f_69, f_70, f_71, f_72, f_73, f_74, gy_67, gy_68, gf_74, by rw [ht]; exact hP, hD⟩, hS.F ht⟩) hS.2.2 dX12_dueOn_45
      · have g_77 : gi p3 0 2147483647 := gi_le_r (Int32.not_lt.mp c_75) (gi_c 0 0 (by decide)) (gi_any p3)
        refine lv_iload_n hx hb dX12_dueOn_28 rfl (lv_at hl 3 rfl) ?_
        refine lv_sipush (v := 8991) hx hb dX12_dueOn_29 (by decide) ?_
        refine lv_icmp_le (tgt := 39) hx hb dX12_dueOn_32 (by decide) (fun c_78 => ?_) (fun c_78 => ?_)
        · have g_79 : gi p3 0 8991 := gi_le_l c_78 g_77 (gi_c 8991 8991 (by decide))
          refine lv_aload_n hx hb dX12_dueOn_39 rfl (lv_at hl 0 rfl) ?_
          refine lv_iload_n hx hb dX12_dueOn_40 rfl (lv_at hl 2 rfl) ?_
          refine lv_iload_n hx hb dX12_dueOn_41 rfl (lv_at hl 3 rfl) ?_
          have hPc := hP.sub (ws' := [(h0, .inr (12, fsMM (upd (upd mi 37 y_67) 41 y_68) mr)), ((mr 14), .inl (km_must, 25, .inl f_69)), ((mr 15), .inl (km_least, 25, .inl f_70)), ((mr 16), .inl (km_pin, 25, .inl f_71)), ((mr 17), .inl (km_ways, 6875, .inl f_72)), ((mr 8), .inl (km_deedMonth, 8, .inl fm_deedMonth)), ((mr 10), .inl (km_deedLong, 8, .inl fm_deedLong)), ((mr 11), .inl (km_deedKind, 8, .inl fm_deedKind)), ((mr 9), .inl (km_deedDay, 8, .inl fm_deedDay))]) [0, 1, 2, 3, 4, 15, 16, 17, 18] rfl
          have hKc := hK.sub (tys' := [(km_must, .int), (km_least, .int), (km_pin, .int), (km_ways, .int), (km_deedMonth, .int), (km_deedLong, .int), (km_deedKind, .int), (km_deedDay, .int)]) [0, 1, 2, 3, 14, 15, 16, 17] rfl
          have hDc := hD.sub (ws' := [(h0, .inr (12, fsMM (upd (upd mi 37 y_67) 41 y_68) mr)), ((mr 14), .inl (km_must, 25, .inl f_69)), ((mr 15), .inl (km_least, 25, .inl f_70)), ((mr 16), .inl (km_pin, 25, .inl f_71)), ((mr 17), .inl (km_ways, 6875, .inl f_72)), ((mr 8), .inl (km_deedMonth, 8, .inl fm_deedMonth)), ((mr 10), .inl (km_deedLong, 8, .inl fm_deedLong)), ((mr 11), .inl (km_deedKind, 8, .inl fm_deedKind)), ((mr 9), .inl (km_deedDay, 8, .inl fm_deedDay))]) [0, 1, 2, 3, 4, 15, 16, 17, 18] (by decide) rfl
          have hFc := va_free (wc := [(h0, .inr (12, fsMM (upd (upd mi 37 y_67) 41 y_68) mr)), ((mr 14), .inl (km_must, 25, .inl f_69)), ((mr 15), .inl (km_least, 25, .inl f_70)), ((mr 16), .inl (km_pin, 25, .inl f_71)), ((mr 17), .inl (km_ways, 6875, .inl f_72)), ((mr 8), .inl (km_deedMonth, 8, .inl fm_deedMonth)), ((mr 10), .inl (km_deedLong, 8, .inl fm_deedLong)), ((mr 11), .inl (km_deedKind, 8, .inl fm_deedKind)), ((mr 9), .inl (km_deedDay, 8, .inl fm_deedDay))]) hD hS hA [0, 1, 2, 3, 4, 15, 16, 17, 18] rfl
          refine va_calli (va_runV (As := [.int p2, .int p3]) (rest := []) ⟨hx, hb, hml, hown, hts⟩ (sX12_duesOn l dC dI H.size h0 (upd (upd mi 37 y_67) 41 y_68) mr km_must f_69 km_least f_70 km_pin f_71 km_ways f_72 km_deedMonth fm_deedMonth km_deedLong fm_deedLong km_deedKind fm_deedKind km_deedDay fm_deedDay p2 p3 gmi_0 gmi_1 gmi_2 gmi_4 gmi_7 gmi_10 gmi_17 gmi_23 gmi_24 gmi_26 gmi_29 gmi_30 gmi_33 gy_67 gy_68 gmi_50 gmi_51 gmi_56 gfm_deedMonth gfm_deedLong g_65 hdd) (cwV 2 hts (gz_gV mGB_484 mGB_485 mGB_486 mGB_1 mGB_487 goodGB) rfl rfl rfl (by decide +kernel) ⟨Nat.le_of_ble_eq_true rfl, Nat.le_of_ble_eq_true rfl⟩) ⟨fun a U g mk q => by obtain ⟨q0, q1, qP, qK, qD⟩ := q; exact ⟨q0, q1, qP, va_K.moved (u := U) (U := U.calling g mk a) (Vm.Alike.refl U.vm) qK, qD⟩, va_recv hKc hPc (ci := 12) (q0 := 0) rfl rfl, fun U hU hW => ⟨rfl, by rw [hU], by rw [hU]; exact hPc, va_K.moved hW.alike hKc, hDc.weaken (fun _ _ _ _ => trivial)⟩⟩ rfl rfl hl.1 rfl (lv_room (Nat.le_of_ble_eq_true rfl)) dX12_dueOn_42 ⟨Nat.zero_le _, Nat.zero_le _⟩) hS (fun q _ h => hFc q h) hFc (fun r_80 u t H1 locs ht hvm hw hB hz1 hk1 hS => ?_)
          obtain ⟨f_81, f_82, hP1, hD1⟩ := hB
          rw [ht] at hP1
          obtain ⟨hP, hD⟩ := va_join (wr := [((mr 18), .inl (km_verdict, 24, .inl f_73)), ((mr 19), .inl (km_row, 24, .inl f_74)), ((mr 4), .inl (km_struck, 24, .inl fm_struck)), ((mr 7), .inl (km_reportKnown, 24, .inl fm_reportKnown)), ((mr 2), .inl (km_reportPlace, 24, .inl fm_reportPlace)), ((mr 5), .inl (km_reportMonth, 24, .inl fm_reportMonth)), ((mr 6), .inl (km_reportDay, 24, .inl fm_reportDay)), ((mr 3), .inl (km_reportKind, 24, .inl fm_reportKind)), ((mr 0), .inl (km_trust, 6, .inl fm_trust)), ((mr 1), .inl (km_letter, 36, .inl fm_letter))]) (w1 := [(h0, .inr (12, fsMM (upd (upd mi 37 y_67) 41 y_68) mr)), ((mr 14), .inl (km_must, 25, .inl f_69)), ((mr 15), .inl (km_least, 25, .inl f_70)), ((mr 16), .inl (km_pin, 25, .inl f_81)), ((mr 17), .inl (km_ways, 6875, .inl f_82)), ((mr 8), .inl (km_deedMonth, 8, .inl fm_deedMonth)), ((mr 10), .inl (km_deedLong, 8, .inl fm_deedLong)), ((mr 11), .inl (km_deedKind, 8, .inl fm_deedKind)), ((mr 9), .inl (km_deedDay, 8, .inl fm_deedDay))]) hP hD [0, 1, 2, 3, 4, 15, 16, 17, 18] [5, 6, 7, 8, 9, 10, 11, 12, 13, 14] rfl rfl (by decide) (by decide) hk1 hFc hP1 hD1
          have hP := hP.sub (ws' := [(h0, .inr (12, fsMM (upd (upd mi 37 y_67) 41 y_68) mr)), ((mr 14), .inl (km_must, 25, .inl f_69)), ((mr 15), .inl (km_least, 25, .inl f_70)), ((mr 16), .inl (km_pin, 25, .inl f_81)), ((mr 17), .inl (km_ways, 6875, .inl f_82)), ((mr 18), .inl (km_verdict, 24, .inl f_73)), ((mr 19), .inl (km_row, 24, .inl f_74)), ((mr 4), .inl (km_struck, 24, .inl fm_struck)), ((mr 7), .inl (km_reportKnown, 24, .inl fm_reportKnown)), ((mr 2), .inl (km_reportPlace, 24, .inl fm_reportPlace)), ((mr 5), .inl (km_reportMonth, 24, .inl fm_reportMonth)), ((mr 6), .inl (km_reportDay, 24, .inl fm_reportDay)), ((mr 3), .inl (km_reportKind, 24, .inl fm_reportKind)), ((mr 0), .inl (km_trust, 6, .inl fm_trust)), ((mr 1), .inl (km_letter, 36, .inl fm_letter)), ((mr 8), .inl (km_deedMonth, 8, .inl fm_deedMonth)), ((mr 10), .inl (km_deedLong, 8, .inl fm_deedLong)), ((mr 11), .inl (km_deedKind, 8, .inl fm_deedKind)), ((mr 9), .inl (km_deedDay, 8, .inl fm_deedDay))]) [10, 11, 12, 13, 14, 0, 1, 2, 3, 4, 5, 6, 7, 8, 9, 15, 16, 17, 18] rfl
          have hD := hD.sub (ws' := [(h0, .inr (12, fsMM (upd (upd mi 37 y_67) 41 y_68) mr)), ((mr 14), .inl (km_must, 25, .inl f_69)), ((mr 15), .inl (km_least, 25, .inl f_70)), ((mr 16), .inl (km_pin, 25, .inl f_81)), ((mr 17), .inl (km_ways, 6875, .inl f_82)), ((mr 18), .inl (km_verdict, 24, .inl f_73)), ((mr 19), .inl (km_row, 24, .inl f_74)), ((mr 4), .inl (km_struck, 24, .inl fm_struck)), ((mr 7), .inl (km_reportKnown, 24, .inl fm_reportKnown)), ((mr 2), .inl (km_reportPlace, 24, .inl fm_reportPlace)), ((mr 5), .inl (km_reportMonth, 24, .inl fm_reportMonth)), ((mr 6), .inl (km_reportDay, 24, .inl fm_reportDay)), ((mr 3), .inl (km_reportKind, 24, .inl fm_reportKind)), ((mr 0), .inl (km_trust, 6, .inl fm_trust)), ((mr 1), .inl (km_letter, 36, .inl fm_letter)), ((mr 8), .inl (km_deedMonth, 8, .inl fm_deedMonth)), ((mr 10), .inl (km_deedLong, 8, .inl fm_deedLong)), ((mr 11), .inl (km_deedKind, 8, .inl fm_deedKind)), ((mr 9), .inl (km_deedDay, 8, .inl fm_deedDay))]) [10, 11, 12, 13, 14, 0, 1, 2, 3, 4, 5, 6, 7, 8, 9, 15, 16, 17, 18] (by decide) rfl
          generalize H1 = H at hP hS ⊢
          exact W.iret (v := r_80) hx hb hr (fun t ht hW => ⟨⟨r_80, (), rfl, (gi_any r_80), y_67, y_68, f_69, f_70, f_81, f_82, f_73, f_74, gy_67, gy_68, gf_74, by rw [ht]; exact hP, hD⟩, hS.F ht⟩) hS.2.2 dX12_dueOn_45
        · have g_83 : gi p3 8992 2147483647 := gi_lt_r (Int32.not_le.mp c_78) (gi_c 8991 8991 (by decide)) g_77 (by decide)
          refine lv_iconst (v := 0) hx hb dX12_dueOn_35 (by decide) ?_
          refine lv_goto (tgt := 45) hx hb dX12_dueOn_36 (by decide) ?_
          exact W.iret (v := 0) hx hb hr (fun t ht hW => ⟨⟨0, (), rfl, (gi_any 0), y_67, y_68, f_69, f_70, f_71, f_72, f_73, f_74, gy_67, gy_68, gf_74, by rw [ht]; exact hP, hD⟩, hS.F ht⟩) hS.2.2 dX12_dueOn_45
    · have g_84 : gi r_62 0 0 := gi_eq c_63 (gi_c 0 0 (by decide))
      refine lv_bipush (v := (-2)) hx hb dX12_dueOn_16 (by decide) ?_
      exact W.iret (v := (-2)) hx hb hr (fun t ht hW => ⟨⟨(-2), (), rfl, (gi_any (-2)), (mi 37), (mi 41), fm_must, fm_least, fm_pin, fm_ways, fm_verdict, fm_row, gmi_37, gmi_41, gfm_row, by rw [ht]; exact hP, hD⟩, hS.F ht⟩) hS.2.2 dX12_dueOn_18
theorem dX12_days_0 : decode cX12_days 0 = .ok (.aload_n 0, 1) := by decide +kernel
theorem dX12_days_1 : decode cX12_days 1 = .ok (.iload_n 1, 1) := by decide +kernel
theorem dX12_days_2 : decode cX12_days 2 = .ok (.invokevirtual 359, 3) := by decide +kernel
theorem dX12_days_5 : decode cX12_days 5 = .ok (.ifCond .eq 11, 3) := by decide +kernel
theorem dX12_days_8 : decode cX12_days 8 = .ok (.aload_n 0, 1) := by decide +kernel
theorem dX12_days_9 : decode cX12_days 9 = .ok (.iload_n 2, 1) := by decide +kernel
theorem dX12_days_10 : decode cX12_days 10 = .ok (.invokevirtual 306, 3) := by decide +kernel
theorem dX12_days_13 : decode cX12_days 13 = .ok (.ifCond .ne 6, 3) := by decide +kernel
theorem dX12_days_16 : decode cX12_days 16 = .ok (.bipush (-2), 2) := by decide +kernel
theorem dX12_days_18 : decode cX12_days 18 = .ok (.ireturn, 1) := by decide +kernel
theorem dX12_days_19 : decode cX12_days 19 = .ok (.aload_n 0, 1) := by decide +kernel
theorem dX12_days_20 : decode cX12_days 20 = .ok (.iload_n 1, 1) := by decide +kernel
theorem dX12_days_21 : decode cX12_days 21 = .ok (.invokevirtual 382, 3) := by decide +kernel
theorem dX12_days_24 : decode cX12_days 24 = .ok (.aload_n 0, 1) := by decide +kernel
theorem dX12_days_25 : decode cX12_days 25 = .ok (.iload_n 2, 1) := by decide +kernel
theorem dX12_days_26 : decode cX12_days 26 = .ok (.invokevirtual 429, 3) := by decide +kernel
theorem dX12_days_29 : decode cX12_days 29 = .ok (.aload_n 0, 1) := by decide +kernel
theorem dX12_days_30 : decode cX12_days 30 = .ok (.aload_n 0, 1) := by decide +kernel
theorem dX12_days_31 : decode cX12_days 31 = .ok (.getfield 35, 3) := by decide +kernel
theorem dX12_days_34 : decode cX12_days 34 = .ok (.iload_n 2, 1) := by decide +kernel
theorem dX12_days_35 : decode cX12_days 35 = .ok (.iaload, 1) := by decide +kernel
theorem dX12_days_36 : decode cX12_days 36 = .ok (.aload_n 0, 1) := by decide +kernel
theorem dX12_days_37 : decode cX12_days 37 = .ok (.getfield 38, 3) := by decide +kernel
theorem dX12_days_40 : decode cX12_days 40 = .ok (.iload_n 2, 1) := by decide +kernel
theorem dX12_days_41 : decode cX12_days 41 = .ok (.iaload, 1) := by decide +kernel
theorem dX12_days_42 : decode cX12_days 42 = .ok (.invokevirtual 412, 3) := by decide +kernel
theorem dX12_days_45 : decode cX12_days 45 = .ok (.isub, 1) := by decide +kernel
theorem dX12_days_46 : decode cX12_days 46 = .ok (.ireturn, 1) := by decide +kernel
set_option maxHeartbeats 4000000 in
set_option maxRecDepth 100000 in
theorem sX12_days (l : Launch) (dC : Nat → ClassId) (dI : Nat → Nat → Nat) (sz : Nat) (h0 : Nat) (mi : Nat → Int32) (mr : Nat → Nat) (km_must : ClassId) (fm_must : Nat → Int32) (km_least : ClassId) (fm_least : Nat → Int32) (km_pin : ClassId) (fm_pin : Nat → Int32) (km_ways : ClassId) (fm_ways : Nat → Int32) (km_verdict : ClassId) (fm_verdict : Nat → Int32) (km_row : ClassId) (fm_row : Nat → Int32) (km_struck : ClassId) (fm_struck : Nat → Int32) (km_reportKnown : ClassId) (fm_reportKnown : Nat → Int32) (km_reportPlace : ClassId) (fm_reportPlace : Nat → Int32) (km_reportMonth : ClassId) (fm_reportMonth : Nat → Int32) (km_reportDay : ClassId) (fm_reportDay : Nat → Int32) (km_reportKind : ClassId) (fm_reportKind : Nat → Int32) (km_trust : ClassId) (fm_trust : Nat → Int32) (km_letter : ClassId) (fm_letter : Nat → Int32) (km_official : ClassId) (fm_official : Nat → Int32) (km_deedMonth : ClassId) (fm_deedMonth : Nat → Int32) (km_deedLong : ClassId) (fm_deedLong : Nat → Int32) (km_deedKind : ClassId) (fm_deedKind : Nat → Int32) (km_deedDay : ClassId) (fm_deedDay : Nat → Int32) (p1 : Int32) (p2 : Int32) (gmi_0 : gi (mi 0) 0 24) (gmi_1 : gi (mi 1) 0 5) (gmi_2 : gi (mi 2) 0 5) (gmi_4 : gi (mi 4) 0 1) (gmi_7 : gi (mi 7) 0 6) (gmi_10 : gi (mi 10) 0 24) (gmi_17 : gi (mi 17) 0 8) (gmi_23 : gi (mi 23) 0 300) (gmi_24 : gi (mi 24) 0 1) (gmi_26 : gi (mi 26) 0 1600) (gmi_29 : gi (mi 29) 0 1600) (gmi_30 : gi (mi 30) 0 1600) (gmi_33 : gi (mi 33) 0 1) (gmi_37 : gi (mi 37) 0 1) (gmi_41 : gi (mi 41) 0 24) (gmi_50 : gi (mi 50) 0 1) (gmi_51 : gi (mi 51) 0 1) (gmi_56 : gi (mi 56) 0 80) (gfm_row : ga fm_row 24 0 23) (gfm_struck : ga fm_struck 24 0 1) (gfm_reportKnown : ga fm_reportKnown 24 0 999) (gfm_reportPlace : ga fm_reportPlace 24 0 5) (gfm_reportMonth : ga fm_reportMonth 24 0 23) (gfm_reportDay : ga fm_reportDay 24 0 999) (gfm_deedMonth : ga fm_deedMonth 8 0 23) (gfm_deedLong : ga fm_deedLong 8 0 600) (hdd : ∀ j : Nat, j < 8 → ((fm_deedKind j).toInt ≠ 0 ∨ (fm_deedMonth j).toInt + (fm_deedLong j).toInt ≤ 23)) : Met l yX12_days (.code yX12_days cX12_days 3 (some .int) :: wsGB) ({ frames := 6, cells := 0, slots := 0, locals := 140 }) (va_Pc [.ref h0, .int p1, .int p2] (fun U => U.heap.size = sz ∧ va_P (dC, dI) vwCl [(h0, .inr (12, fsMM mi mr)), ((mr 14), .inl (km_must, 25, .inl fm_must)), ((mr 15), .inl (km_least, 25, .inl fm_least)), ((mr 16), .inl (km_pin, 25, .inl fm_pin)), ((mr 17), .inl (km_ways, 6875, .inl fm_ways)), ((mr 18), .inl (km_verdict, 24, .inl fm_verdict)), ((mr 19), .inl (km_row, 24, .inl fm_row)), ((mr 4), .inl (km_struck, 24, .inl fm_struck)), ((mr 7), .inl (km_reportKnown, 24, .inl fm_reportKnown)), ((mr 2), .inl (km_reportPlace, 24, .inl fm_reportPlace)), ((mr 5), .inl (km_reportMonth, 24, .inl fm_reportMonth)), ((mr 6), .inl (km_reportDay, 24, .inl fm_reportDay)), ((mr 3), .inl (km_reportKind, 24, .inl fm_reportKind)), ((mr 0), .inl (km_trust, 6, .inl fm_trust)), ((mr 1), .inl (km_letter, 36, .inl fm_letter)), ((mr 20), .inl (km_official, 25, .inl fm_official)), ((mr 8), .inl (km_deedMonth, 8, .inl fm_deedMonth)), ((mr 10), .inl (km_deedLong, 8, .inl fm_deedLong)), ((mr 11), .inl (km_deedKind, 8, .inl fm_deedKind)), ((mr 9), .inl (km_deedDay, 8, .inl fm_deedDay))] U.heap ∧ va_K (dC, dI) vwCl [(km_must, .int), (km_least, .int), (km_pin, .int), (km_ways, .int), (km_verdict, .int), (km_row, .int), (km_struck, .boolean), (km_reportKnown, .int), (km_reportPlace, .int), (km_reportMonth, .int), (km_reportDay, .int), (km_reportKind, .int), (km_trust, .int), (km_letter, .int), (km_official, .int), (km_deedMonth, .int), (km_deedLong, .int), (km_deedKind, .int), (km_deedDay, .int)] U ∧ va_D (fun _ => True) [(h0, .inr (12, fsMM mi mr)), ((mr 14), .inl (km_must, 25, .inl fm_must)), ((mr 15), .inl (km_least, 25, .inl fm_least)), ((mr 16), .inl (km_pin, 25, .inl fm_pin)), ((mr 17), .inl (km_ways, 6875, .inl fm_ways)), ((mr 18), .inl (km_verdict, 24, .inl fm_verdict)), ((mr 19), .inl (km_row, 24, .inl fm_row)), ((mr 4), .inl (km_struck, 24, .inl fm_struck)), ((mr 7), .inl (km_reportKnown, 24, .inl fm_reportKnown)), ((mr 2), .inl (km_reportPlace, 24, .inl fm_reportPlace)), ((mr 5), .inl (km_reportMonth, 24, .inl fm_reportMonth)), ((mr 6), .inl (km_reportDay, 24, .inl fm_reportDay)), ((mr 3), .inl (km_reportKind, 24, .inl fm_reportKind)), ((mr 0), .inl (km_trust, 6, .inl fm_trust)), ((mr 1), .inl (km_letter, 36, .inl fm_letter)), ((mr 20), .inl (km_official, 25, .inl fm_official)), ((mr 8), .inl (km_deedMonth, 8, .inl fm_deedMonth)), ((mr 10), .inl (km_deedLong, 8, .inl fm_deedLong)), ((mr 11), .inl (km_deedKind, 8, .inl fm_deedKind)), ((mr 9), .inl (km_deedDay, 8, .inl fm_deedDay))])) (va_Qi (fun (r : Int32) (u : Unit) => gi r (-2147483648) 2147483647) (fun _ t => ∃ (w0_37 : Int32) (w0_41 : Int32) (z1 : Nat → Int32) (z2 : Nat → Int32) (z3 : Nat → Int32) (z4 : Nat → Int32) (z5 : Nat → Int32) (z6 : Nat → Int32) (z15 : Nat → Int32), gi w0_37 0 1 ∧ gi w0_41 0 24 ∧ ga z6 24 0 23 ∧ va_P (dC, dI) vwCl [(h0, .inr (12, fsMM (upd (upd mi 37 w0_37) 41 w0_41) mr)), ((mr 14), .inl (km_must, 25, .inl z1)), ((mr 15), .inl (km_least, 25, .inl z2)), ((mr 16), .inl (km_pin, 25, .inl z3)), ((mr 17), .inl (km_ways, 6875, .inl z4)), ((mr 18), .inl (km_verdict, 24, .inl z5)), ((mr 19), .inl (km_row, 24, .inl z6)), ((mr 4), .inl (km_struck, 24, .inl fm_struck)), ((mr 7), .inl (km_reportKnown, 24, .inl fm_reportKnown)), ((mr 2), .inl (km_reportPlace, 24, .inl fm_reportPlace)), ((mr 5), .inl (km_reportMonth, 24, .inl fm_reportMonth)), ((mr 6), .inl (km_reportDay, 24, .inl fm_reportDay)), ((mr 3), .inl (km_reportKind, 24, .inl fm_reportKind)), ((mr 0), .inl (km_trust, 6, .inl fm_trust)), ((mr 1), .inl (km_letter, 36, .inl fm_letter)), ((mr 20), .inl (km_official, 25, .inl z15)), ((mr 8), .inl (km_deedMonth, 8, .inl fm_deedMonth)), ((mr 10), .inl (km_deedLong, 8, .inl fm_deedLong)), ((mr 11), .inl (km_deedKind, 8, .inl fm_deedKind)), ((mr 9), .inl (km_deedDay, 8, .inl fm_deedDay))] t.heap ∧ va_D (va_A [(h0, .inr (12, fsMM mi mr)), ((mr 14), .inl (km_must, 25, .inl fm_must)), ((mr 15), .inl (km_least, 25, .inl fm_least)), ((mr 16), .inl (km_pin, 25, .inl fm_pin)), ((mr 17), .inl (km_ways, 6875, .inl fm_ways)), ((mr 18), .inl (km_verdict, 24, .inl fm_verdict)), ((mr 19), .inl (km_row, 24, .inl fm_row)), ((mr 4), .inl (km_struck, 24, .inl fm_struck)), ((mr 7), .inl (km_reportKnown, 24, .inl fm_reportKnown)), ((mr 2), .inl (km_reportPlace, 24, .inl fm_reportPlace)), ((mr 5), .inl (km_reportMonth, 24, .inl fm_reportMonth)), ((mr 6), .inl (km_reportDay, 24, .inl fm_reportDay)), ((mr 3), .inl (km_reportKind, 24, .inl fm_reportKind)), ((mr 0), .inl (km_trust, 6, .inl fm_trust)), ((mr 1), .inl (km_letter, 36, .inl fm_letter)), ((mr 20), .inl (km_official, 25, .inl fm_official)), ((mr 8), .inl (km_deedMonth, 8, .inl fm_deedMonth)), ((mr 10), .inl (km_deedLong, 8, .inl fm_deedLong)), ((mr 11), .inl (km_deedKind, 8, .inl fm_deedKind)), ((mr 9), .inl (km_deedDay, 8, .inl fm_deedDay))] sz) [(h0, .inr (12, fsMM (upd (upd mi 37 w0_37) 41 w0_41) mr)), ((mr 14), .inl (km_must, 25, .inl z1)), ((mr 15), .inl (km_least, 25, .inl z2)), ((mr 16), .inl (km_pin, 25, .inl z3)), ((mr 17), .inl (km_ways, 6875, .inl z4)), ((mr 18), .inl (km_verdict, 24, .inl z5)), ((mr 19), .inl (km_row, 24, .inl z6)), ((mr 4), .inl (km_struck, 24, .inl fm_struck)), ((mr 7), .inl (km_reportKnown, 24, .inl fm_reportKnown)), ((mr 2), .inl (km_reportPlace, 24, .inl fm_reportPlace)), ((mr 5), .inl (km_reportMonth, 24, .inl fm_reportMonth)), ((mr 6), .inl (km_reportDay, 24, .inl fm_reportDay)), ((mr 3), .inl (km_reportKind, 24, .inl fm_reportKind)), ((mr 0), .inl (km_trust, 6, .inl fm_trust)), ((mr 1), .inl (km_letter, 36, .inl fm_letter)), ((mr 20), .inl (km_official, 25, .inl z15)), ((mr 8), .inl (km_deedMonth, 8, .inl fm_deedMonth)), ((mr 10), .inl (km_deedLong, 8, .inl fm_deedLong)), ((mr 11), .inl (km_deedKind, 8, .inl fm_deedKind)), ((mr 9), .inl (km_deedDay, 8, .inl fm_deedDay))]) (va_A [(h0, .inr (12, fsMM mi mr)), ((mr 14), .inl (km_must, 25, .inl fm_must)), ((mr 15), .inl (km_least, 25, .inl fm_least)), ((mr 16), .inl (km_pin, 25, .inl fm_pin)), ((mr 17), .inl (km_ways, 6875, .inl fm_ways)), ((mr 18), .inl (km_verdict, 24, .inl fm_verdict)), ((mr 19), .inl (km_row, 24, .inl fm_row)), ((mr 4), .inl (km_struck, 24, .inl fm_struck)), ((mr 7), .inl (km_reportKnown, 24, .inl fm_reportKnown)), ((mr 2), .inl (km_reportPlace, 24, .inl fm_reportPlace)), ((mr 5), .inl (km_reportMonth, 24, .inl fm_reportMonth)), ((mr 6), .inl (km_reportDay, 24, .inl fm_reportDay)), ((mr 3), .inl (km_reportKind, 24, .inl fm_reportKind)), ((mr 0), .inl (km_trust, 6, .inl fm_trust)), ((mr 1), .inl (km_letter, 36, .inl fm_letter)), ((mr 20), .inl (km_official, 25, .inl fm_official)), ((mr 8), .inl (km_deedMonth, 8, .inl fm_deedMonth)), ((mr 10), .inl (km_deedLong, 8, .inl fm_deedLong)), ((mr 11), .inl (km_deedKind, 8, .inl fm_deedKind)), ((mr 9), .inl (km_deedDay, 8, .inl fm_deedDay))] sz)) 0 0 (va_A [(h0, .inr (12, fsMM mi mr)), ((mr 14), .inl (km_must, 25, .inl fm_must)), ((mr 15), .inl (km_least, 25, .inl fm_least)), ((mr 16), .inl (km_pin, 25, .inl fm_pin)), ((mr 17), .inl (km_ways, 6875, .inl fm_ways)), ((mr 18), .inl (km_verdict, 24, .inl fm_verdict)), ((mr 19), .inl (km_row, 24, .inl fm_row)), ((mr 4), .inl (km_struck, 24, .inl fm_struck)), ((mr 7), .inl (km_reportKnown, 24, .inl fm_reportKnown)), ((mr 2), .inl (km_reportPlace, 24, .inl fm_reportPlace)), ((mr 5), .inl (km_reportMonth, 24, .inl fm_reportMonth)), ((mr 6), .inl (km_reportDay, 24, .inl fm_reportDay)), ((mr 3), .inl (km_reportKind, 24, .inl fm_reportKind)), ((mr 0), .inl (km_trust, 6, .inl fm_trust)), ((mr 1), .inl (km_letter, 36, .inl fm_letter)), ((mr 20), .inl (km_official, 25, .inl fm_official)), ((mr 8), .inl (km_deedMonth, 8, .inl fm_deedMonth)), ((mr 10), .inl (km_deedLong, 8, .inl fm_deedLong)), ((mr 11), .inl (km_deedKind, 8, .inl fm_deedKind)), ((mr 9), .inl (km_deedDay, 8, .inl fm_deedDay))] sz) := by
  refine Met.ofW (cc := cX12_days) (maxL := 3) (ret := (some .int)) (by decide) rfl ?_
  intro p e s m args below meth c s₁ B hml hv
  obtain ⟨rfl, hsz, hP, hK, hD0⟩ := hv
  have hx := B.exec
  have hb := B.bytes
  have hr := B.returns
  have hts := atoms_spec (ws := (.code yX12_days cX12_days 3 (some .int) :: wsGB)) B.pre
  have hown : s.vm.findClass RX12 = some m.cls := findClass_of_methodNamed B.named
  have hlocks := B.notSynchronized
  subst hsz
  have hD := hD0.self (sz := s.heap.size)
  generalize hAe : va_A [(h0, .inr (12, fsMM mi mr)), ((mr 14), .inl (km_must, 25, .inl fm_must)), ((mr 15), .inl (km_least, 25, .inl fm_least)), ((mr 16), .inl (km_pin, 25, .inl fm_pin)), ((mr 17), .inl (km_ways, 6875, .inl fm_ways)), ((mr 18), .inl (km_verdict, 24, .inl fm_verdict)), ((mr 19), .inl (km_row, 24, .inl fm_row)), ((mr 4), .inl (km_struck, 24, .inl fm_struck)), ((mr 7), .inl (km_reportKnown, 24, .inl fm_reportKnown)), ((mr 2), .inl (km_reportPlace, 24, .inl fm_reportPlace)), ((mr 5), .inl (km_reportMonth, 24, .inl fm_reportMonth)), ((mr 6), .inl (km_reportDay, 24, .inl fm_reportDay)), ((mr 3), .inl (km_reportKind, 24, .inl fm_reportKind)), ((mr 0), .inl (km_trust, 6, .inl fm_trust)), ((mr 1), .inl (km_letter, 36, .inl fm_letter)), ((mr 20), .inl (km_official, 25, .inl fm_official)), ((mr 8), .inl (km_deedMonth, 8, .inl fm_deedMonth)), ((mr 10), .inl (km_deedLong, 8, .inl fm_deedLong)), ((mr 11), .inl (km_deedKind, 8, .inl fm_deedKind)), ((mr 9), .inl (km_deedDay, 8, .inl fm_deedDay))] s.heap.size = A at hD ⊢
  have hA : ∀ q : Nat, s.heap.size ≤ q → A q := fun q h => by rw [← hAe]; exact Or.inr h
  have hS : va_S A s.heap s.heap [] := va_S.rf
  have hl := lv_entry ([.ref h0, .int p1, .int p2]) (n := 3) (Nat.le_of_ble_eq_true rfl)
  rw [lg_entry_eq]
  generalize (lg_sl ([.ref h0, .int p1, .int p2]) ++ List.replicate (3 - (lg_sl ([.ref h0, .int p1, .int p2])).length) Slot.unset).toArray = ls at hl ⊢
  have hl : lv_has ls 3 [(0, .ref h0), (1, .int p1), (2, .int p2)] := hl
  refine lv_aload_n hx hb dX12_days_0 rfl (lv_at hl 0 rfl) ?_
  refine lv_iload_n hx hb dX12_days_1 rfl (lv_at hl 1 rfl) ?_
  have hPc := hP.sub (ws' := [(h0, .inr (12, fsMM mi mr))]) [0] rfl
  have hKc := hK.sub (tys' := []) [] rfl
  refine va_calli (va_runV (As := [.int p1]) (rest := []) ⟨hx, hb, hml, hown, hts⟩ (sX12_isTime l dC dI h0 mi mr p1 gmi_0 gmi_1 gmi_2 gmi_4 gmi_7 gmi_10 gmi_17 gmi_23 gmi_24 gmi_26 gmi_29 gmi_30 gmi_33 gmi_37 gmi_41 gmi_50 gmi_51 gmi_56) (cwV 1 hts (gz_gV mGB_256 mGB_257 mGB_258 mGB_1 mGB_259 goodGB) rfl rfl rfl (by decide +kernel) ⟨Nat.le_of_ble_eq_true rfl, Nat.le_of_ble_eq_true rfl⟩) ⟨fun a U g mk q => by obtain ⟨q0, qP, qK⟩ := q; exact ⟨q0, qP, va_K.moved (u := U) (U := U.calling g mk a) (Vm.Alike.refl U.vm) qK⟩, va_recv hKc hPc (ci := 12) (q0 := 0) rfl rfl, fun U hU hW => ⟨rfl, by rw [hU]; exact hPc, va_K.moved hW.alike hKc⟩⟩ rfl rfl hl.1 rfl (lv_room (Nat.le_of_ble_eq_true rfl)) dX12_days_2 ⟨Nat.zero_le _, Nat.zero_le _⟩) hS (fun q _ h => h.elim) (fun q h => h.elim) (fun r_51 u t H1 locs ht hvm hw hB hz1 hk1 hS => ?_)
  have hP := gz_keep hP hk1
  generalize H1 = H at hP hS ⊢
  have gr_51 : gi r_51 0 1 := hw.1
  have hqr_51 := hw.2
  refine lv_if_eq (tgt := 16) hx hb dX12_days_5 (by decide) (fun c_52 => ?_) (fun c_52 => ?_)
  · have g_53 : gi r_51 0 0 := gi_eq c_52 (gi_c 0 0 (by decide))
    refine lv_bipush (v := (-2)) hx hb dX12_days_16 (by decide) ?_
    exact W.iret (v := (-2)) hx hb hr (fun t ht hW => ⟨⟨(-2), (), rfl, (gi_any (-2)), (mi 37), (mi 41), fm_must, fm_least, fm_pin, fm_ways, fm_verdict, fm_row, fm_official, gmi_37, gmi_41, gfm_row, by rw [ht]; exact hP, hD⟩, hS.F ht⟩) hS.2.2 dX12_days_18
  · have g_54 : gi r_51 1 1 := gi_ne_lo c_52 gr_51 (gi_c 0 0 (by decide)) (by decide)
    have g_55 : gi p1 0 999 := gi_cap (gi_any p1) (hqr_51 (gz_one g_54)) (by decide)
    refine lv_aload_n hx hb dX12_days_8 rfl (lv_at hl 0 rfl) ?_
    refine lv_iload_n hx hb dX12_days_9 rfl (lv_at hl 2 rfl) ?_
    have hPc := hP.sub (ws' := [(h0, .inr (12, fsMM mi mr))]) [0] rfl
    have hKc := hK.sub (tys' := []) [] rfl
    refine va_calli (va_runV (As := [.int p2]) (rest := []) ⟨hx, hb, hml, hown, hts⟩ (sX12_isDeed l dC dI h0 mi mr p2 gmi_0 gmi_1 gmi_2 gmi_4 gmi_7 gmi_10 gmi_17 gmi_23 gmi_24 gmi_26 gmi_29 gmi_30 gmi_33 gmi_37 gmi_41 gmi_50 gmi_51 gmi_56) (cwV 1 hts (gz_gV mGB_242 mGB_243 mGB_244 mGB_1 mGB_245 goodGB) rfl rfl rfl (by decide +kernel) ⟨Nat.le_of_ble_eq_true rfl, Nat.le_of_ble_eq_true rfl⟩) ⟨fun a U g mk q => by obtain ⟨q0, qP, qK⟩ := q; exact ⟨q0, qP, va_K.moved (u := U) (U := U.calling g mk a) (Vm.Alike.refl U.vm) qK⟩, va_recv hKc hPc (ci := 12) (q0 := 0) rfl rfl, fun U hU hW => ⟨rfl, by rw [hU]; exact hPc, va_K.moved hW.alike hKc⟩⟩ rfl rfl hl.1 rfl (lv_room (Nat.le_of_ble_eq_true rfl)) dX12_days_10 ⟨Nat.zero_le _, Nat.zero_le _⟩) hS (fun q _ h => h.elim) (fun q h => h.elim) (fun r_56 u t H1 locs ht hvm hw hB hz1 hk1 hS => ?_)
    have hP := gz_keep hP hk1
    generalize H1 = H at hP hS ⊢
    have gr_56 : gi r_56 0 1 := hw.1
    have hqr_56 := hw.2
    refine lv_if_ne (tgt := 19) hx hb dX12_days_13 (by decide) (fun c_57 => ?_) (fun c_57 => ?_)
    · have g_58 : gi r_56 1 1 := gi_ne_lo c_57 gr_56 (gi_c 0 0 (by decide)) (by decide)
      have g_59 : gi p2 0 7 := gi_cap (gi_any p2) (hqr_56 (gz_one g_58)) (by decide)
      refine lv_aload_n hx hb dX12_days_19 rfl (lv_at hl 0 rfl) ?_
      refine lv_iload_n hx hb dX12_days_20 rfl (lv_at hl 1 rfl) ?_
      have hPc := hP.sub (ws' := [(h0, .inr (12, fsMM mi mr)), ((mr 14), .inl (km_must, 25, .inl fm_must)), ((mr 15), .inl (km_least, 25, .inl fm_least)), ((mr 16), .inl (km_pin, 25, .inl fm_pin)), ((mr 17), .inl (km_ways, 6875, .inl fm_ways)), ((mr 18), .inl (km_verdict, 24, .inl fm_verdict)), ((mr 19), .inl (km_row, 24, .inl fm_row)), ((mr 4), .inl (km_struck, 24, .inl fm_struck)), ((mr 7), .inl (km_reportKnown, 24, .inl fm_reportKnown)), ((mr 2), .inl (km_reportPlace, 24, .inl fm_reportPlace)), ((mr 5), .inl (km_reportMonth, 24, .inl fm_reportMonth)), ((mr 6), .inl (km_reportDay, 24, .inl fm_reportDay)), ((mr 3), .inl (km_reportKind, 24, .inl fm_reportKind)), ((mr 0), .inl (km_trust, 6, .inl fm_trust)), ((mr 1), .inl (km_letter, 36, .inl fm_letter)), ((mr 20), .inl (km_official, 25, .inl fm_official))]) [0, 1, 2, 3, 4, 5, 6, 7, 8, 9, 10, 11, 12, 13, 14, 15] rfl
      have hKc := hK.sub (tys' := [(km_must, .int), (km_least, .int), (km_pin, .int), (km_ways, .int), (km_verdict, .int), (km_row, .int), (km_struck, .boolean), (km_reportKnown, .int), (km_reportPlace, .int), (km_reportMonth, .int), (km_reportDay, .int), (km_reportKind, .int), (km_trust, .int), (km_letter, .int), (km_official, .int)]) [0, 1, 2, 3, 4, 5, 6, 7, 8, 9, 10, 11, 12, 13, 14] rfl
      have hDc := hD.sub (ws' := [(h0, .inr (12, fsMM mi mr)), ((mr 14), .inl (km_must, 25, .inl fm_must)), ((mr 15), .inl (km_least, 25, .inl fm_least)), ((mr 16), .inl (km_pin, 25, .inl fm_pin)), ((mr 17), .inl (km_ways, 6875, .inl fm_ways)), ((mr 18), .inl (km_verdict, 24, .inl fm_verdict)), ((mr 19), .inl (km_row, 24, .inl fm_row)), ((mr 4), .inl (km_struck, 24, .inl fm_struck)), ((mr 7), .inl (km_reportKnown, 24, .inl fm_reportKnown)), ((mr 2), .inl (km_reportPlace, 24, .inl fm_reportPlace)), ((mr 5), .inl (km_reportMonth, 24, .inl fm_reportMonth)), ((mr 6), .inl (km_reportDay, 24, .inl fm_reportDay)), ((mr 3), .inl (km_reportKind, 24, .inl fm_reportKind)), ((mr 0), .inl (km_trust, 6, .inl fm_trust)), ((mr 1), .inl (km_letter, 36, .inl fm_letter)), ((mr 20), .inl (km_official, 25, .inl fm_official))]) [0, 1, 2, 3, 4, 5, 6, 7, 8, 9, 10, 11, 12, 13, 14, 15] (by decide) rfl
      have hFc := va_free (wc := [(h0, .inr (12, fsMM mi mr)), ((mr 14), .inl (km_must, 25, .inl fm_must)), ((mr 15), .inl (km_least, 25, .inl fm_least)), ((mr 16), .inl (km_pin, 25, .inl fm_pin)), ((mr 17), .inl (km_ways, 6875, .inl fm_ways)), ((mr 18), .inl (km_verdict, 24, .inl fm_verdict)), ((mr 19), .inl (km_row, 24, .inl fm_row)), ((mr 4), .inl (km_struck, 24, .inl fm_struck)), ((mr 7), .inl (km_reportKnown, 24, .inl fm_reportKnown)), ((mr 2), .inl (km_reportPlace, 24, .inl fm_reportPlace)), ((mr 5), .inl (km_reportMonth, 24, .inl fm_reportMonth)), ((mr 6), .inl (km_reportDay, 24, .inl fm_reportDay)), ((mr 3), .inl (km_reportKind, 24, .inl fm_reportKind)), ((mr 0), .inl (km_trust, 6, .inl fm_trust)), ((mr 1), .inl (km_letter, 36, .inl fm_letter)), ((mr 20), .inl (km_official, 25, .inl fm_official))]) hD hS hA [0, 1, 2, 3, 4, 5, 6, 7, 8, 9, 10, 11, 12, 13, 14, 15] rfl
      refine va_callv (va_runV (As := [.int p1]) (rest := []) ⟨hx, hb, hml, hown, hts⟩ (sX12_officialBy l dC dI H.size h0 mi mr km_must fm_must km_least fm_least km_pin fm_pin km_ways fm_ways km_verdict fm_verdict km_row fm_row km_struck fm_struck km_reportKnown fm_reportKnown km_reportPlace fm_reportPlace km_reportMonth fm_reportMonth km_reportDay fm_reportDay km_reportKind fm_reportKind km_trust fm_trust km_letter fm_letter km_official fm_official p1 gmi_0 gmi_1 gmi_2 gmi_4 gmi_7 gmi_10 gmi_17 gmi_23 gmi_24 gmi_26 gmi_29 gmi_30 gmi_33 gmi_37 gmi_41 gmi_50 gmi_51 gmi_56 gfm_row gfm_struck gfm_reportKnown gfm_reportPlace gfm_reportMonth gfm_reportDay) (cwV 1 hts (gz_gV mGB_358 mGB_359 mGB_360 mGB_1 mGB_361 goodGB) rfl rfl rfl (by decide +kernel) ⟨Nat.le_of_ble_eq_true rfl, Nat.le_of_ble_eq_true rfl⟩) ⟨fun a U g mk q => by obtain ⟨q0, q1, qP, qK, qD⟩ := q; exact ⟨q0, q1, qP, va_K.moved (u := U) (U := U.calling g mk a) (Vm.Alike.refl U.vm) qK, qD⟩, va_recv hKc hPc (ci := 12) (q0 := 0) rfl rfl, fun U hU hW => ⟨rfl, by rw [hU], by rw [hU]; exact hPc, va_K.moved hW.alike hKc, hDc.weaken (fun _ _ _ _ => trivial)⟩⟩ rfl rfl hl.1 rfl (lv_room (Nat.le_of_ble_eq_true rfl)) dX12_days_21 ⟨Nat.zero_le _, Nat.zero_le _⟩) hS (fun q _ h => hFc q h) hFc (fun u t H1 locs ht hvm hw hB hz1 hk1 hS => ?_)
      obtain ⟨y_61, y_62, f_63, f_64, f_65, f_66, f_67, f_68, f_69, gy_61, gy_62, gf_68, hP1, hD1⟩ := hB
      rw [ht] at hP1
      obtain ⟨hP, hD⟩ := va_join (wr := [((mr 8), .inl (km_deedMonth, 8, .inl fm_deedMonth)), ((mr 10), .inl (km_deedLong, 8, .inl fm_deedLong)), ((mr 11), .inl (km_deedKind, 8, .inl fm_deedKind)), ((mr 9), .inl (km_deedDay, 8, .inl fm_deedDay))]) (w1 := [(h0, .inr (12, fsMM (upd (upd mi 37 y_61) 41 y_62) mr)), ((mr 14), .inl (km_must, 25, .inl f_63)), ((mr 15), .inl (km_least, 25, .inl f_64)), ((mr 16), .inl (km_pin, 25, .inl f_65)), ((mr 17), .inl (km_ways, 6875, .inl f_66)), ((mr 18), .inl (km_verdict, 24, .inl f_67)), ((mr 19), .inl (km_row, 24, .inl f_68)), ((mr 4), .inl (km_struck, 24, .inl fm_struck)), ((mr 7), .inl (km_reportKnown, 24, .inl fm_reportKnown)), ((mr 2), .inl (km_reportPlace, 24, .inl fm_reportPlace)), ((mr 5), .inl (km_reportMonth, 24, .inl fm_reportMonth)), ((mr 6), .inl (km_reportDay, 24, .inl fm_reportDay)), ((mr 3), .inl (km_reportKind, 24, .inl fm_reportKind)), ((mr 0), .inl (km_trust, 6, .inl fm_trust)), ((mr 1), .inl (km_letter, 36, .inl fm_letter)), ((mr 20), .inl (km_official, 25, .inl f_69))]) hP hD [0, 1, 2, 3, 4, 5, 6, 7, 8, 9, 10, 11, 12, 13, 14, 15] [16, 17, 18, 19] rfl rfl (by decide) (by decide) hk1 hFc hP1 hD1
      have hP := hP.sub (ws' := [(h0, .inr (12, fsMM (upd (upd mi 37 y_61) 41 y_62) mr)), ((mr 14), .inl (km_must, 25, .inl f_63)), ((mr 15), .inl (km_least, 25, .inl f_64)), ((mr 16), .inl (km_pin, 25, .inl f_65)), ((mr 17), .inl (km_ways, 6875, .inl f_66)), ((mr 18), .inl (km_verdict, 24, .inl f_67)), ((mr 19), .inl (km_row, 24, .inl f_68)), ((mr 4), .inl (km_struck, 24, .inl fm_struck)), ((mr 7), .inl (km_reportKnown, 24, .inl fm_reportKnown)), ((mr 2), .inl (km_reportPlace, 24, .inl fm_reportPlace)), ((mr 5), .inl (km_reportMonth, 24, .inl fm_reportMonth)), ((mr 6), .inl (km_reportDay, 24, .inl fm_reportDay)), ((mr 3), .inl (km_reportKind, 24, .inl fm_reportKind)), ((mr 0), .inl (km_trust, 6, .inl fm_trust)), ((mr 1), .inl (km_letter, 36, .inl fm_letter)), ((mr 20), .inl (km_official, 25, .inl f_69)), ((mr 8), .inl (km_deedMonth, 8, .inl fm_deedMonth)), ((mr 10), .inl (km_deedLong, 8, .inl fm_deedLong)), ((mr 11), .inl (km_deedKind, 8, .inl fm_deedKind)), ((mr 9), .inl (km_deedDay, 8, .inl fm_deedDay))]) [4, 5, 6, 7, 8, 9, 10, 11, 12, 13, 14, 15, 16, 17, 18, 19, 0, 1, 2, 3] rfl
      have hD := hD.sub (ws' := [(h0, .inr (12, fsMM (upd (upd mi 37 y_61) 41 y_62) mr)), ((mr 14), .inl (km_must, 25, .inl f_63)), ((mr 15), .inl (km_least, 25, .inl f_64)), ((mr 16), .inl (km_pin, 25, .inl f_65)), ((mr 17), .inl (km_ways, 6875, .inl f_66)), ((mr 18), .inl (km_verdict, 24, .inl f_67)), ((mr 19), .inl (km_row, 24, .inl f_68)), ((mr 4), .inl (km_struck, 24, .inl fm_struck)), ((mr 7), .inl (km_reportKnown, 24, .inl fm_reportKnown)), ((mr 2), .inl (km_reportPlace, 24, .inl fm_reportPlace)), ((mr 5), .inl (km_reportMonth, 24, .inl fm_reportMonth)), ((mr 6), .inl (km_reportDay, 24, .inl fm_reportDay)), ((mr 3), .inl (km_reportKind, 24, .inl fm_reportKind)), ((mr 0), .inl (km_trust, 6, .inl fm_trust)), ((mr 1), .inl (km_letter, 36, .inl fm_letter)), ((mr 20), .inl (km_official, 25, .inl f_69)), ((mr 8), .inl (km_deedMonth, 8, .inl fm_deedMonth)), ((mr 10), .inl (km_deedLong, 8, .inl fm_deedLong)), ((mr 11), .inl (km_deedKind, 8, .inl fm_deedKind)), ((mr 9), .inl (km_deedDay, 8, .inl fm_deedDay))]) [4, 5, 6, 7, 8, 9, 10, 11, 12, 13, 14, 15, 16, 17, 18, 19, 0, 1, 2, 3] (by decide) rfl
      generalize H1 = H at hP hS ⊢
      refine lv_aload_n hx hb dX12_days_24 rfl (lv_at hl 0 rfl) ?_
      refine lv_iload_n hx hb dX12_days_25 rfl (lv_at hl 2 rfl) ?_
      have hPc := hP.sub (ws' := [(h0, .inr (12, fsMM (upd (upd mi 37 y_61) 41 y_62) mr)), ((mr 8), .inl (km_deedMonth, 8, .inl fm_deedMonth)), ((mr 10), .inl (km_deedLong, 8, .inl fm_deedLong)), ((mr 11), .inl (km_deedKind, 8, .inl fm_deedKind)), ((mr 9), .inl (km_deedDay, 8, .inl fm_deedDay)), ((mr 20), .inl (km_official, 25, .inl f_69))]) [0, 16, 17, 18, 19, 15] rfl
      have hKc := hK.sub (tys' := [(km_deedMonth, .int), (km_deedLong, .int), (km_deedKind, .int), (km_deedDay, .int), (km_official, .int)]) [15, 16, 17, 18, 14] rfl
      refine va_calli (va_runV (As := [.int p2]) (rest := []) ⟨hx, hb, hml, hown, hts⟩ (sX12_dueBy l dC dI h0 (upd (upd mi 37 y_61) 41 y_62) mr km_deedMonth fm_deedMonth km_deedLong fm_deedLong km_deedKind fm_deedKind km_deedDay fm_deedDay km_official f_69 p2 gmi_0 gmi_1 gmi_2 gmi_4 gmi_7 gmi_10 gmi_17 gmi_23 gmi_24 gmi_26 gmi_29 gmi_30 gmi_33 gy_61 gy_62 gmi_50 gmi_51 gmi_56 gfm_deedMonth gfm_deedLong g_59 hdd) (cwV 1 hts (gz_gV mGB_455 mGB_456 mGB_457 mGB_1 mGB_458 goodGB) rfl rfl rfl (by decide +kernel) ⟨Nat.le_of_ble_eq_true rfl, Nat.le_of_ble_eq_true rfl⟩) ⟨fun a U g mk q => by obtain ⟨q0, qP, qK⟩ := q; exact ⟨q0, qP, va_K.moved (u := U) (U := U.calling g mk a) (Vm.Alike.refl U.vm) qK⟩, va_recv hKc hPc (ci := 12) (q0 := 0) rfl rfl, fun U hU hW => ⟨rfl, by rw [hU]; exact hPc, va_K.moved hW.alike hKc⟩⟩ rfl rfl hl.1 rfl (lv_room (Nat.le_of_ble_eq_true rfl)) dX12_days_26 ⟨Nat.zero_le _, Nat.zero_le _⟩) hS (fun q _ h => h.elim) (fun q h => h.elim) (fun r_70 u t H1 locs ht hvm hw hB hz1 hk1 hS => ?_)
      have hP := gz_keep hP hk1
      generalize H1 = H at hP hS ⊢
      refine lv_aload_n hx hb dX12_days_29 rfl (lv_at hl 0 rfl) ?_
      refine lv_aload_n hx hb dX12_days_30 rfl (lv_at hl 0 rfl) ?_
      refine va_get (D := (dC, dI)) (ci := 12) (v := .ref (mr 8)) (C := RX12) (T := TX12) (N := 57) hx hb hts (fun w h => List.mem_cons_of_mem _ (jnGB_X12 w h)) hown hK hP 0 rfl rfl 18 (by decide) (hts _ (List.mem_cons_of_mem _ mGB_19)) (fun _ h9 => h9) rfl dX12_days_31 ?_
      refine lv_iload_n hx hb dX12_days_34 rfl (lv_at hl 2 rfl) ?_
      refine va_iald hx hb hK hP 16 15 rfl rfl (gi_in g_59 (by decide)) dX12_days_35 ?_
      refine lv_topi (fun x_71 ex_71 => ?_)
      have gx_71 : gi x_71 0 23 := ga_at gfm_deedMonth (gi_in g_59 (by decide)) ex_71
      refine lv_aload_n hx hb dX12_days_36 rfl (lv_at hl 0 rfl) ?_
      refine va_get (D := (dC, dI)) (ci := 12) (v := .ref (mr 9)) (C := RX12) (T := TX12) (N := 57) hx hb hts (fun w h => List.mem_cons_of_mem _ (jnGB_X12 w h)) hown hK hP 0 rfl rfl 19 (by decide) (hts _ (List.mem_cons_of_mem _ mGB_20)) (fun _ h9 => h9) rfl dX12_days_37 ?_
      refine lv_iload_n hx hb dX12_days_40 rfl (lv_at hl 2 rfl) ?_
      refine va_iald hx hb hK hP 19 18 rfl rfl (gi_in g_59 (by decide)) dX12_days_41 ?_
      refine lv_topi (fun x_72 ex_72 => ?_)
      have hPc := hP.sub (ws' := [(h0, .inr (12, fsMM (upd (upd mi 37 y_61) 41 y_62) mr)), ((mr 20), .inl (km_official, 25, .inl f_69))]) [0, 15] rfl
      have hKc := hK.sub (tys' := [(km_official, .int)]) [14] rfl
      refine va_calli (va_runV (As := [.int x_71, .int x_72]) (rest := [.int r_70]) ⟨hx, hb, hml, hown, hts⟩ (sX12_dayBy l dC dI h0 (upd (upd mi 37 y_61) 41 y_62) mr km_official f_69 x_71 x_72 gmi_0 gmi_1 gmi_2 gmi_4 gmi_7 gmi_10 gmi_17 gmi_23 gmi_24 gmi_26 gmi_29 gmi_30 gmi_33 gy_61 gy_62 gmi_50 gmi_51 gmi_56 gx_71) (cwV 2 hts (gz_gV mGB_419 mGB_420 mGB_421 mGB_1 mGB_422 goodGB) rfl rfl rfl (by decide +kernel) ⟨Nat.le_of_ble_eq_true rfl, Nat.le_of_ble_eq_true rfl⟩) ⟨fun a U g mk q => by obtain ⟨q0, qP, qK⟩ := q; exact ⟨q0, qP, va_K.moved (u := U) (U := U.calling g mk a) (Vm.Alike.refl U.vm) qK⟩, va_recv hKc hPc (ci := 12) (q0 := 0) rfl rfl, fun U hU hW => ⟨rfl, by rw [hU]; exact hPc, va_K.moved hW.alike hKc⟩⟩ rfl rfl hl.1 rfl (lv_room (Nat.le_of_ble_eq_true rfl)) dX12_days_42 ⟨Nat.zero_le _, Nat.zero_le _⟩) hS (fun q _ h => h.elim) (fun q h => h.elim) (fun r_73 u t H1 locs ht hvm hw hB hz1 hk1 hS => ?_)
      have hP := gz_keep hP hk1
      generalize H1 = H at hP hS ⊢
      refine lv_isub hx hb dX12_days_45 ?_
      refine lv_topi (fun x_74 ex_74 => ?_)
      exact W.iret (v := x_74) hx hb hr (fun t ht hW => ⟨⟨x_74, (), rfl, (gi_any x_74), y_61, y_62, f_63, f_64, f_65, f_66, f_67, f_68, f_69, gy_61, gy_62, gf_68, by rw [ht]; exact hP, hD⟩, hS.F ht⟩) hS.2.2 dX12_days_46
    · have g_75 : gi r_56 0 0 := gi_eq c_57 (gi_c 0 0 (by decide))
      refine lv_bipush (v := (-2)) hx hb dX12_days_16 (by decide) ?_
      exact W.iret (v := (-2)) hx hb hr (fun t ht hW => ⟨⟨(-2), (), rfl, (gi_any (-2)), (mi 37), (mi 41), fm_must, fm_least, fm_pin, fm_ways, fm_verdict, fm_row, fm_official, gmi_37, gmi_41, gfm_row, by rw [ht]; exact hP, hD⟩, hS.F ht⟩) hS.2.2 dX12_days_18
