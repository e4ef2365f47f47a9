theorem dX12_readsPlace_0 : decode cX12_readsPlace 0 = .ok (.aload_n 0, 1) := by decide +kernel
theorem dX12_readsPlace_1 : decode cX12_readsPlace 1 = .ok (.getfield 138, 3) := by decide +kernel
theorem dX12_readsPlace_4 : decode cX12_readsPlace 4 = .ok (.bipush 6, 2) := by decide +kernel
theorem dX12_readsPlace_6 : decode cX12_readsPlace 6 = .ok (.if_icmp .ne 8, 3) := by decide +kernel
theorem dX12_readsPlace_9 : decode cX12_readsPlace 9 = .ok (.aload_n 0, 1) := by decide +kernel
theorem dX12_readsPlace_10 : decode cX12_readsPlace 10 = .ok (.iconst 3, 1) := by decide +kernel
theorem dX12_readsPlace_11 : decode cX12_readsPlace 11 = .ok (.invokevirtual 194, 3) := by decide +kernel
theorem dX12_readsPlace_14 : decode cX12_readsPlace 14 = .ok (.aload_n 0, 1) := by decide +kernel
theorem dX12_readsPlace_15 : decode cX12_readsPlace 15 = .ok (.iconst 1, 1) := by decide +kernel
theorem dX12_readsPlace_16 : decode cX12_readsPlace 16 = .ok (.invokevirtual 205, 3) := by decide +kernel
theorem dX12_readsPlace_19 : decode cX12_readsPlace 19 = .ok (.aload_n 0, 1) := by decide +kernel
theorem dX12_readsPlace_20 : decode cX12_readsPlace 20 = .ok (.getfield 174, 3) := by decide +kernel
theorem dX12_readsPlace_23 : decode cX12_readsPlace 23 = .ok (.ifCond .ne 16, 3) := by decide +kernel
theorem dX12_readsPlace_26 : decode cX12_readsPlace 26 = .ok (.aload_n 0, 1) := by decide +kernel
theorem dX12_readsPlace_27 : decode cX12_readsPlace 27 = .ok (.getfield 164, 3) := by decide +kernel
theorem dX12_readsPlace_30 : decode cX12_readsPlace 30 = .ok (.iconst 1, 1) := by decide +kernel
theorem dX12_readsPlace_31 : decode cX12_readsPlace 31 = .ok (.if_icmp .eq 8, 3) := by decide +kernel
theorem dX12_readsPlace_34 : decode cX12_readsPlace 34 = .ok (.aload_n 0, 1) := by decide +kernel
theorem dX12_readsPlace_35 : decode cX12_readsPlace 35 = .ok (.iconst 1, 1) := by decide +kernel
theorem dX12_readsPlace_36 : decode cX12_readsPlace 36 = .ok (.invokevirtual 194, 3) := by decide +kernel
theorem dX12_readsPlace_39 : decode cX12_readsPlace 39 = .ok (.aload_n 0, 1) := by decide +kernel
theorem dX12_readsPlace_40 : decode cX12_readsPlace 40 = .ok (.getfield 174, 3) := by decide +kernel
theorem dX12_readsPlace_43 : decode cX12_readsPlace 43 = .ok (.ifCond .ne 30, 3) := by decide +kernel
theorem dX12_readsPlace_46 : decode cX12_readsPlace 46 = .ok (.aload_n 0, 1) := by decide +kernel
theorem dX12_readsPlace_47 : decode cX12_readsPlace 47 = .ok (.getfield 151, 3) := by decide +kernel
theorem dX12_readsPlace_50 : decode cX12_readsPlace 50 = .ok (.aload_n 0, 1) := by decide +kernel
theorem dX12_readsPlace_51 : decode cX12_readsPlace 51 = .ok (.getfield 158, 3) := by decide +kernel
theorem dX12_readsPlace_54 : decode cX12_readsPlace 54 = .ok (.isub, 1) := by decide +kernel
theorem dX12_readsPlace_55 : decode cX12_readsPlace 55 = .ok (.bipush 6, 2) := by decide +kernel
theorem dX12_readsPlace_57 : decode cX12_readsPlace 57 = .ok (.if_icmp .gt 11, 3) := by decide +kernel
theorem dX12_readsPlace_60 : decode cX12_readsPlace 60 = .ok (.aload_n 0, 1) := by decide +kernel
theorem dX12_readsPlace_61 : decode cX12_readsPlace 61 = .ok (.invokevirtual 216, 3) := by decide +kernel
theorem dX12_readsPlace_64 : decode cX12_readsPlace 64 = .ok (.iconst (-1), 1) := by decide +kernel
theorem dX12_readsPlace_65 : decode cX12_readsPlace 65 = .ok (.if_icmp .eq 8, 3) := by decide +kernel
theorem dX12_readsPlace_68 : decode cX12_readsPlace 68 = .ok (.aload_n 0, 1) := by decide +kernel
theorem dX12_readsPlace_69 : decode cX12_readsPlace 69 = .ok (.iconst 2, 1) := by decide +kernel
theorem dX12_readsPlace_70 : decode cX12_readsPlace 70 = .ok (.invokevirtual 194, 3) := by decide +kernel
theorem dX12_readsPlace_73 : decode cX12_readsPlace 73 = .ok (.aload_n 0, 1) := by decide +kernel
theorem dX12_readsPlace_74 : decode cX12_readsPlace 74 = .ok (.getfield 174, 3) := by decide +kernel
theorem dX12_readsPlace_77 : decode cX12_readsPlace 77 = .ok (.ifCond .eq 4, 3) := by decide +kernel
theorem dX12_readsPlace_80 : decode cX12_readsPlace 80 = .ok (.return_, 1) := by decide +kernel
theorem dX12_readsPlace_81 : decode cX12_readsPlace 81 = .ok (.iconst 0, 1) := by decide +kernel
theorem dX12_readsPlace_82 : decode cX12_readsPlace 82 = .ok (.istore_n 1, 1) := by decide +kernel
theorem dX12_readsPlace_83 : decode cX12_readsPlace 83 = .ok (.iload_n 1, 1) := by decide +kernel
theorem dX12_readsPlace_84 : decode cX12_readsPlace 84 = .ok (.bipush 6, 2) := by decide +kernel
theorem dX12_readsPlace_86 : decode cX12_readsPlace 86 = .ok (.if_icmp .ge 51, 3) := by decide +kernel
theorem dX12_readsPlace_89 : decode cX12_readsPlace 89 = .ok (.aload_n 0, 1) := by decide +kernel
theorem dX12_readsPlace_90 : decode cX12_readsPlace 90 = .ok (.getfield 13, 3) := by decide +kernel
theorem dX12_readsPlace_93 : decode cX12_readsPlace 93 = .ok (.bipush 6, 2) := by decide +kernel
theorem dX12_readsPlace_95 : decode cX12_readsPlace 95 = .ok (.aload_n 0, 1) := by decide +kernel
theorem dX12_readsPlace_96 : decode cX12_readsPlace 96 = .ok (.getfield 138, 3) := by decide +kernel
theorem dX12_readsPlace_99 : decode cX12_readsPlace 99 = .ok (.imul, 1) := by decide +kernel
theorem dX12_readsPlace_100 : decode cX12_readsPlace 100 = .ok (.iload_n 1, 1) := by decide +kernel
theorem dX12_readsPlace_101 : decode cX12_readsPlace 101 = .ok (.iadd, 1) := by decide +kernel
theorem dX12_readsPlace_102 : decode cX12_readsPlace 102 = .ok (.iload_n 1, 1) := by decide +kernel
theorem dX12_readsPlace_103 : decode cX12_readsPlace 103 = .ok (.aload_n 0, 1) := by decide +kernel
theorem dX12_readsPlace_104 : decode cX12_readsPlace 104 = .ok (.getfield 151, 3) := by decide +kernel
theorem dX12_readsPlace_107 : decode cX12_readsPlace 107 = .ok (.aload_n 0, 1) := by decide +kernel
theorem dX12_readsPlace_108 : decode cX12_readsPlace 108 = .ok (.getfield 158, 3) := by decide +kernel
theorem dX12_readsPlace_111 : decode cX12_readsPlace 111 = .ok (.isub, 1) := by decide +kernel
theorem dX12_readsPlace_112 : decode cX12_readsPlace 112 = .ok (.if_icmp .ge 17, 3) := by decide +kernel
theorem dX12_readsPlace_115 : decode cX12_readsPlace 115 = .ok (.aload_n 0, 1) := by decide +kernel
theorem dX12_readsPlace_116 : decode cX12_readsPlace 116 = .ok (.getfield 50, 3) := by decide +kernel
theorem dX12_readsPlace_119 : decode cX12_readsPlace 119 = .ok (.aload_n 0, 1) := by decide +kernel
theorem dX12_readsPlace_120 : decode cX12_readsPlace 120 = .ok (.getfield 158, 3) := by decide +kernel
theorem dX12_readsPlace_123 : decode cX12_readsPlace 123 = .ok (.iload_n 1, 1) := by decide +kernel
theorem dX12_readsPlace_124 : decode cX12_readsPlace 124 = .ok (.iadd, 1) := by decide +kernel
theorem dX12_readsPlace_125 : decode cX12_readsPlace 125 = .ok (.iaload, 1) := by decide +kernel
theorem dX12_readsPlace_126 : decode cX12_readsPlace 126 = .ok (.goto 4, 3) := by decide +kernel
theorem dX12_readsPlace_129 : decode cX12_readsPlace 129 = .ok (.iconst 0, 1) := by decide +kernel
theorem dX12_readsPlace_130 : decode cX12_readsPlace 130 = .ok (.iastore, 1) := by decide +kernel
theorem dX12_readsPlace_131 : decode cX12_readsPlace 131 = .ok (.iinc 1 1, 3) := by decide +kernel
theorem dX12_readsPlace_134 : decode cX12_readsPlace 134 = .ok (.goto (-51), 3) := by decide +kernel
theorem dX12_readsPlace_137 : decode cX12_readsPlace 137 = .ok (.aload_n 0, 1) := by decide +kernel
theorem dX12_readsPlace_138 : decode cX12_readsPlace 138 = .ok (.invokevirtual 198, 3) := by decide +kernel
theorem dX12_readsPlace_141 : decode cX12_readsPlace 141 = .ok (.aload_n 0, 1) := by decide +kernel
theorem dX12_readsPlace_142 : decode cX12_readsPlace 142 = .ok (.getfield 7, 3) := by decide +kernel
theorem dX12_readsPlace_145 : decode cX12_readsPlace 145 = .ok (.aload_n 0, 1) := by decide +kernel
theorem dX12_readsPlace_146 : decode cX12_readsPlace 146 = .ok (.getfield 138, 3) := by decide +kernel
theorem dX12_readsPlace_149 : decode cX12_readsPlace 149 = .ok (.aload_n 0, 1) := by decide +kernel
theorem dX12_readsPlace_150 : decode cX12_readsPlace 150 = .ok (.ldc 222, 2) := by decide +kernel
theorem dX12_readsPlace_152 : decode cX12_readsPlace 152 = .ok (.iconst 0, 1) := by decide +kernel
theorem dX12_readsPlace_153 : decode cX12_readsPlace 153 = .ok (.bipush 9, 2) := by decide +kernel
theorem dX12_readsPlace_155 : decode cX12_readsPlace 155 = .ok (.invokevirtual 223, 3) := by decide +kernel
theorem dX12_readsPlace_158 : decode cX12_readsPlace 158 = .ok (.iastore, 1) := by decide +kernel
theorem dX12_readsPlace_159 : decode cX12_readsPlace 159 = .ok (.aload_n 0, 1) := by decide +kernel
theorem dX12_readsPlace_160 : decode cX12_readsPlace 160 = .ok (.dup, 1) := by decide +kernel
theorem dX12_readsPlace_161 : decode cX12_readsPlace 161 = .ok (.getfield 138, 3) := by decide +kernel
theorem dX12_readsPlace_164 : decode cX12_readsPlace 164 = .ok (.iconst 1, 1) := by decide +kernel
theorem dX12_readsPlace_165 : decode cX12_readsPlace 165 = .ok (.iadd, 1) := by decide +kernel
theorem dX12_readsPlace_166 : decode cX12_readsPlace 166 = .ok (.putfield 138, 3) := by decide +kernel
theorem dX12_readsPlace_169 : decode cX12_readsPlace 169 = .ok (.return_, 1) := by decide +kernel
set_option maxHeartbeats 4000000 in
set_option maxRecDepth 100000 in
theorem lp_sX12_readsPlaceP {p : Program} {l : Launch} {e : Env} {R : Room} {s : State} {m : MethodId} {args : Array Value} {below : List Frame} {meth : Method} {c : Code} {Q : State → Prop} {A : Nat → Prop} {cells slots : Nat} {dC : Nat → ClassId} {dI : Nat → Nat → Nat} (h0 : Nat) (mi : Nat → Int32) (mr : Nat → Nat) (km_tape : ClassId) (fm_tape : Nat → Int32) (km_letter : ClassId) (fm_letter : Nat → Int32) (km_trust : ClassId) (fm_trust : Nat → Int32) (sa : Nat → Nat) (sb : Nat → Nat) (zf : Value) (gmi_0 : gi (mi 0) 0 100000) (gmi_1 : gi (mi 1) 0 100000) (gmi_2 : gi (mi 2) 0 100000) (gmi_4 : gi (mi 4) 0 1) (gmi_7 : gi (mi 7) 0 6) (gmi_10 : gi (mi 10) 0 24) (gmi_17 : gi (mi 17) 0 8) (gmi_23 : gi (mi 23) 0 300) (gmi_24 : gi (mi 24) 0 1) (gmi_26 : gi (mi 26) 0 1600) (gmi_29 : gi (mi 29) 0 1600) (gmi_30 : gi (mi 30) 0 1600) (gmi_32 : gi (mi 32) 0 100000) (gmi_33 : gi (mi 33) 0 1) (gmi_37 : gi (mi 37) 0 1) (gmi_41 : gi (mi 41) 0 24) (gmi_50 : gi (mi 50) 0 1) (gmi_51 : gi (mi 51) 0 1) (gmi_56 : gi (mi 56) 0 80) (hpq0 : (mi 30).toInt ≤ (mi 29).toInt) (hpq1 : (mi 29).toInt ≤ (mi 26).toInt) (hpq2 : ((mi 31).toInt = 0 ∨ (mi 30).toInt < (mi 29).toInt)) (hx : p.tables.exec = Jvm.exec) (hb : c.code = cX12_readsPlace) (hml : c.maxLocals = 2) (hown : s.vm.findClass RX12 = some m.cls) (hts : ∀ w ∈ ((.code yX12_readsPlace cX12_readsPlace 2 none :: wsGB) : List Cond), w.before args s = true) (hK : va_K (dC, dI) vwCl [(km_tape, .int), (km_letter, .int), (km_trust, .int)] s) (hT : gz_ST RX12 stIB sa sb zf A s s.heap) (hA : ∀ q : Nat, s.heap.size ≤ q → A q) (hRf : 7 ≤ R.frames) (hRl : 152 ≤ R.locals) (hRc : cells ≤ R.cells) (hRs : slots ≤ R.slots) (kr80 : ∀ (w0_7 : Int32) (w0_27 : Int32) (w0_28 : Int32) (w0_29 : Int32) (w0_30 : Int32) (w0_31 : Int32) (w0_32 : Int32) (w0_33 : Int32) (z2 : Nat → Int32) (z3 : Nat → Int32) (H : Heap) (locs : List Loc) (ls : Array Slot), gi w0_7 0 6 → gi w0_29 0 1600 → gi w0_30 0 1600 → gi w0_32 0 100000 → gi w0_33 0 1 → (mi 30).toInt ≤ w0_30.toInt → w0_30.toInt ≤ w0_29.toInt → w0_29.toInt ≤ (mi 26).toInt → (w0_31.toInt = 0 ∨ w0_30.toInt < w0_29.toInt) → (mi 33).toInt ≤ w0_33.toInt → va_P (dC, dI) vwCl [(h0, .inr (12, fsMM (upd (upd (upd (upd (upd (upd (upd (upd mi 7 w0_7) 27 w0_27) 28 w0_28) 29 w0_29) 30 w0_30) 31 w0_31) 32 w0_32) 33 w0_33) mr)), ((mr 13), .inl (km_tape, 1600, .inl fm_tape)), ((mr 1), .inl (km_letter, 36, .inl z2)), ((mr 0), .inl (km_trust, 6, .inl z3))] H → va_D A [(h0, .inr (12, fsMM (upd (upd (upd (upd (upd (upd (upd (upd mi 7 w0_7) 27 w0_27) 28 w0_28) 29 w0_29) 30 w0_30) 31 w0_31) 32 w0_32) 33 w0_33) mr)), ((mr 13), .inl (km_tape, 1600, .inl fm_tape)), ((mr 1), .inl (km_letter, 36, .inl z2)), ((mr 0), .inl (km_trust, 6, .inl z3))] → va_S A s.heap H locs → lv_has ls 2 [] → W p l e R s m args below meth c H locs cells slots Q (F0 m 80 ls [])) (kr169 : ∀ (w0_7 : Int32) (w0_27 : Int32) (w0_28 : Int32) (w0_29 : Int32) (w0_30 : Int32) (w0_31 : Int32) (w0_32 : Int32) (w0_33 : Int32) (z2 : Nat → Int32) (z3 : Nat → Int32) (H : Heap) (locs : List Loc) (ls : Array Slot), gi w0_7 0 6 → gi w0_29 0 1600 → gi w0_30 0 1600 → gi w0_32 0 100000 → gi w0_33 0 1 → (mi 30).toInt ≤ w0_30.toInt → w0_30.toInt ≤ w0_29.toInt → w0_29.toInt ≤ (mi 26).toInt → (w0_31.toInt = 0 ∨ w0_30.toInt < w0_29.toInt) → (mi 33).toInt ≤ w0_33.toInt → va_P (dC, dI) vwCl [(h0, .inr (12, fsMM (upd (upd (upd (upd (upd (upd (upd (upd mi 7 w0_7) 27 w0_27) 28 w0_28) 29 w0_29) 30 w0_30) 31 w0_31) 32 w0_32) 33 w0_33) mr)), ((mr 13), .inl (km_tape, 1600, .inl fm_tape)), ((mr 1), .inl (km_letter, 36, .inl z2)), ((mr 0), .inl (km_trust, 6, .inl z3))] H → va_D A [(h0, .inr (12, fsMM (upd (upd (upd (upd (upd (upd (upd (upd mi 7 w0_7) 27 w0_27) 28 w0_28) 29 w0_29) 30 w0_30) 31 w0_31) 32 w0_32) 33 w0_33) mr)), ((mr 13), .inl (km_tape, 1600, .inl fm_tape)), ((mr 1), .inl (km_letter, 36, .inl z2)), ((mr 0), .inl (km_trust, 6, .inl z3))] → va_S A s.heap H locs → lv_has ls 2 [] → W p l e R s m args below meth c H locs cells slots Q (F0 m 169 ls [])) : ∀ z : Nat, (∀ (v1 : Int32) (w0_27 : Int32) (w0_28 : Int32) (w0_29 : Int32) (w0_30 : Int32) (w0_31 : Int32) (w0_32 : Int32) (w0_33 : Int32) (z2 : Nat → Int32) (H : Heap) (locs : List Loc) (ls : Array Slot), gi v1 0 6 → gi w0_29 0 1600 → gi w0_30 0 1600 → gi w0_32 0 100000 → gi w0_33 0 1 → (mi 30).toInt ≤ w0_30.toInt → w0_30.toInt ≤ w0_29.toInt → w0_29.toInt ≤ (mi 26).toInt → (w0_31.toInt = 0 ∨ w0_30.toInt < w0_29.toInt) → (mi 33).toInt ≤ w0_33.toInt → (mi 7).toInt ≤ 5 → 13 + (-2) * v1.toInt < (z : Int) → va_P (dC, dI) vwCl [(h0, .inr (12, fsMM (upd (upd (upd (upd (upd (upd (upd mi 27 w0_27) 28 w0_28) 29 w0_29) 30 w0_30) 31 w0_31) 32 w0_32) 33 w0_33) mr)), ((mr 13), .inl (km_tape, 1600, .inl fm_tape)), ((mr 1), .inl (km_letter, 36, .inl z2)), ((mr 0), .inl (km_trust, 6, .inl fm_trust))] H → va_D A [(h0, .inr (12, fsMM (upd (upd (upd (upd (upd (upd (upd mi 27 w0_27) 28 w0_28) 29 w0_29) 30 w0_30) 31 w0_31) 32 w0_32) 33 w0_33) mr)), ((mr 13), .inl (km_tape, 1600, .inl fm_tape)), ((mr 1), .inl (km_letter, 36, .inl z2)), ((mr 0), .inl (km_trust, 6, .inl fm_trust))] → va_S A s.heap H locs → lv_has ls 2 [(0, .ref h0), (1, .int v1)] → W p l e R s m args below meth c H locs cells slots Q (F0 m 83 ls [])) := by
  intro z
  induction z with
  | zero =>
    intro v1 w0_27 w0_28 w0_29 w0_30 w0_31 w0_32 w0_33 z2 H locs ls gv1 gw0_29 gw0_30 gw0_32 gw0_33 hinv0 hinv1 hinv2 hinv3 hinv4 hinv5 hmu hP hD hS hl
    exact absurd hmu (by have hv11 := gv1.1; have hv12 := gv1.2; omega)
  | succ z ih =>
      intro v1 w0_27 w0_28 w0_29 w0_30 w0_31 w0_32 w0_33 z2 H locs ls gv1 gw0_29 gw0_30 gw0_32 gw0_33 hinv0 hinv1 hinv2 hinv3 hinv4 hinv5 hmu hP hD hS hl
      have g_783 : gi (mi 7) 0 5 := ⟨gmi_7.1, by omega⟩
      refine lv_iload_n hx hb dX12_readsPlace_83 rfl (lv_at hl 1 rfl) ?_
      refine lv_bipush (v := 6) hx hb dX12_readsPlace_84 (by decide) ?_
      refine lv_icmp_ge (tgt := 137) hx hb dX12_readsPlace_86 (by decide) (fun c_784 => ?_) (fun c_784 => ?_)
      · have hc_785 : 6 ≤ v1.toInt := by have h9 := Int32.le_iff_toInt_le.mp c_784; rw [show (6 : Int32).toInt = 6 from by decide] at h9; exact h9
        have g_786 : gi v1 6 6 := gi_le_r c_784 (gi_c 6 6 (by decide)) gv1
        refine lv_aload_n hx hb dX12_readsPlace_137 rfl (lv_at hl 0 rfl) ?_
        have hPc := hP.sub (ws' := [(h0, .inr (12, fsMM (upd (upd (upd (upd (upd (upd (upd mi 27 w0_27) 28 w0_28) 29 w0_29) 30 w0_30) 31 w0_31) 32 w0_32) 33 w0_33) mr)), ((mr 13), .inl (km_tape, 1600, .inl fm_tape))]) [0, 1] rfl
        have hKc := hK.sub (tys' := [(km_tape, .int)]) [0] rfl
        have hDc := hD.sub (ws' := [(h0, .inr (12, fsMM (upd (upd (upd (upd (upd (upd (upd mi 27 w0_27) 28 w0_28) 29 w0_29) 30 w0_30) 31 w0_31) 32 w0_32) 33 w0_33) mr)), ((mr 13), .inl (km_tape, 1600, .inl fm_tape))]) [0, 1] (by decide) rfl
        have hFc := va_free (wc := [(h0, .inr (12, fsMM (upd (upd (upd (upd (upd (upd (upd mi 27 w0_27) 28 w0_28) 29 w0_29) 30 w0_30) 31 w0_31) 32 w0_32) 33 w0_33) mr)), ((mr 13), .inl (km_tape, 1600, .inl fm_tape))]) hD hS hA [0, 1] rfl
        refine va_callv (va_runV (As := []) (rest := []) ⟨hx, hb, hml, hown, hts⟩ (sX12_nextP l dC dI H.size h0 (upd (upd (upd (upd (upd (upd (upd mi 27 w0_27) 28 w0_28) 29 w0_29) 30 w0_30) 31 w0_31) 32 w0_32) 33 w0_33) mr km_tape fm_tape gmi_0 gmi_1 gmi_2 gmi_4 (gi_w g_783 (by decide)) gmi_10 gmi_17 gmi_23 gmi_24 gmi_26 gw0_29 gw0_30 gw0_32 gw0_33 gmi_37 gmi_41 gmi_50 gmi_51 gmi_56 (show w0_29.toInt ≤ (mi 26).toInt from by have qgw0_33 := gw0_33.1; have rgw0_33 := gw0_33.2; have qgw0_30 := gw0_30.1; have rgw0_30 := gw0_30.2; have qgw0_29 := gw0_29.1; have rgw0_29 := gw0_29.2; have qgv1 := g_786.1; have rgv1 := g_786.2; have qgmi_7 := g_783.1; have rgmi_7 := g_783.2; have qgmi_33 := gmi_33.1; have rgmi_33 := gmi_33.2; have qgmi_30 := gmi_30.1; have rgmi_30 := gmi_30.2; have qgmi_29 := gmi_29.1; have rgmi_29 := gmi_29.2; have qgmi_26 := gmi_26.1; have rgmi_26 := gmi_26.2; omega)) (cwV 0 hts (gz_gV mGB_131 mGB_132 mGB_133 mGB_1 mGB_134 goodGB) rfl rfl rfl (by decide +kernel) ⟨Nat.le_trans (Nat.le_of_ble_eq_true rfl) hRf, Nat.le_trans (Nat.le_of_ble_eq_true rfl) hRl⟩) ⟨fun a U g mk q => by obtain ⟨q0, q1, qP, qK, qD⟩ := q; exact ⟨q0, q1, qP, va_K.moved (u := U) (U := U.calling g mk a) (Vm.Alike.refl U.vm) qK, qD⟩, va_recv hKc hPc (ci := 12) (q0 := 0) rfl rfl, fun U hU hW => ⟨rfl, by rw [hU], by rw [hU]; exact hPc, va_K.moved hW.alike hKc, hDc.weaken (fun _ _ _ _ => trivial)⟩⟩ rfl rfl hl.1 rfl (lv_room (Nat.le_of_ble_eq_true rfl)) dX12_readsPlace_138 ⟨hRc, hRs⟩) hS (fun q _ h => hFc q h) hFc (fun u t H1 locs ht hvm hw hB hz1 hk1 hS => ?_)
        obtain ⟨y_788, y_789, y_790, y_791, gy_788, gy_789, gy_791, hpr0_r_787, hpr1_r_787, hpr2_r_787, hpr3_r_787, hP1, hD1⟩ := hB
        rw [ht] at hP1
        obtain ⟨hP, hD⟩ := va_join (wr := [((mr 1), .inl (km_letter, 36, .inl z2)), ((mr 0), .inl (km_trust, 6, .inl fm_trust))]) (w1 := [(h0, .inr (12, fsMM (upd (upd (upd (upd (upd (upd (upd mi 27 w0_27) 28 w0_28) 29 y_788) 30 y_789) 31 y_790) 32 y_791) 33 w0_33) mr)), ((mr 13), .inl (km_tape, 1600, .inl fm_tape))]) hP hD [0, 1] [2, 3] rfl rfl (by decide) (by decide) hk1 hFc hP1 hD1
        have hpr0_r_787 : w0_29.toInt ≤ y_789.toInt := hpr0_r_787
        have hpr1_r_787 : y_789.toInt ≤ y_788.toInt := hpr1_r_787
        have hpr2_r_787 : y_788.toInt ≤ (mi 26).toInt := hpr2_r_787
        have hpr3_r_787 : Hid ((y_790.toInt = 0 ∨ y_789.toInt < y_788.toInt)) := hpr3_r_787
        have hP := hP.sub (ws' := [(h0, .inr (12, fsMM (upd (upd (upd (upd (upd (upd (upd mi 27 w0_27) 28 w0_28) 29 y_788) 30 y_789) 31 y_790) 32 y_791) 33 w0_33) mr)), ((mr 13), .inl (km_tape, 1600, .inl fm_tape)), ((mr 1), .inl (km_letter, 36, .inl z2)), ((mr 0), .inl (km_trust, 6, .inl fm_trust))]) [2, 3, 0, 1] rfl
        have hD := hD.sub (ws' := [(h0, .inr (12, fsMM (upd (upd (upd (upd (upd (upd (upd mi 27 w0_27) 28 w0_28) 29 y_788) 30 y_789) 31 y_790) 32 y_791) 33 w0_33) mr)), ((mr 13), .inl (km_tape, 1600, .inl fm_tape)), ((mr 1), .inl (km_letter, 36, .inl z2)), ((mr 0), .inl (km_trust, 6, .inl fm_trust))]) [2, 3, 0, 1] (by decide) rfl
        generalize H1 = H at hP hS ⊢
        refine lv_aload_n hx hb dX12_readsPlace_141 rfl (lv_at hl 0 rfl) ?_
        refine va_get (D := (dC, dI)) (ci := 12) (v := .ref (mr 0)) (C := RX12) (T := TX12) (N := 57) hx hb hts (fun w h => List.mem_cons_of_mem _ (jnGB_X12 w h)) hown hK hP 0 rfl rfl 8 (by decide) (hts _ (List.mem_cons_of_mem _ mGB_10)) (fun _ h9 => h9) rfl dX12_readsPlace_142 ?_
        refine lv_aload_n hx hb dX12_readsPlace_145 rfl (lv_at hl 0 rfl) ?_
        refine va_get (D := (dC, dI)) (ci := 12) (v := .int (mi 7)) (C := RX12) (T := TX12) (N := 57) hx hb hts (fun w h => List.mem_cons_of_mem _ (jnGB_X12 w h)) hown hK hP 0 rfl rfl 7 (by decide) (hts _ (List.mem_cons_of_mem _ mGB_110)) (fun _ h9 => h9) rfl dX12_readsPlace_146 ?_
        refine lv_aload_n hx hb dX12_readsPlace_149 rfl (lv_at hl 0 rfl) ?_
        refine va_ldcS hx hb hown (show vk_R RX12 222 "trust" (sa 17) s from (hT.2 17 (by decide)).1) dX12_readsPlace_150 ?_
        refine lv_iconst (v := 0) hx hb dX12_readsPlace_152 (by decide) ?_
        refine lv_bipush (v := 9) hx hb dX12_readsPlace_153 (by decide) ?_
        have hPc := hP.sub (ws' := [(h0, .inr (12, fsMM (upd (upd (upd (upd (upd (upd (upd mi 27 w0_27) 28 w0_28) 29 y_788) 30 y_789) 31 y_790) 32 y_791) 33 w0_33) mr)), ((mr 13), .inl (km_tape, 1600, .inl fm_tape))]) [0, 1] rfl
        have hKc := hK.sub (tys' := [(km_tape, .int)]) [0] rfl
        have hDc := hD.sub (ws' := [(h0, .inr (12, fsMM (upd (upd (upd (upd (upd (upd (upd mi 27 w0_27) 28 w0_28) 29 y_788) 30 y_789) 31 y_790) 32 y_791) 33 w0_33) mr)), ((mr 13), .inl (km_tape, 1600, .inl fm_tape))]) [0, 1] (by decide) rfl
        have hFc := va_free (wc := [(h0, .inr (12, fsMM (upd (upd (upd (upd (upd (upd (upd mi 27 w0_27) 28 w0_28) 29 y_788) 30 y_789) 31 y_790) 32 y_791) 33 w0_33) mr)), ((mr 13), .inl (km_tape, 1600, .inl fm_tape))]) hD hS hA [0, 1] rfl
        refine va_calli (va_runV (As := [.ref (sa 17), .int 0, .int 9]) (rest := [.int (mi 7), .ref (mr 0)]) ⟨hx, hb, hml, hown, hts⟩ (sX12_numberBehindP l dC dI H.size h0 (upd (upd (upd (upd (upd (upd (upd mi 27 w0_27) 28 w0_28) 29 y_788) 30 y_789) 31 y_790) 32 y_791) 33 w0_33) mr km_tape fm_tape 0 9 sa sb zf 17 gmi_0 gmi_1 gmi_2 gmi_4 (gi_w g_783 (by decide)) gmi_10 gmi_17 gmi_23 gmi_24 gmi_26 gy_788 gy_789 gy_791 gw0_33 gmi_37 gmi_41 gmi_50 gmi_51 gmi_56 (gi_w (gi_c 0 0 (by decide)) (by decide)) (by decide) (show y_789.toInt ≤ y_788.toInt from by have qgy_789 := gy_789.1; have rgy_789 := gy_789.2; have qgy_788 := gy_788.1; have rgy_788 := gy_788.2; have qgw0_33 := gw0_33.1; have rgw0_33 := gw0_33.2; have qgw0_30 := gw0_30.1; have rgw0_30 := gw0_30.2; have qgw0_29 := gw0_29.1; have rgw0_29 := gw0_29.2; have qgv1 := g_786.1; have rgv1 := g_786.2; have qgmi_7 := g_783.1; have rgmi_7 := g_783.2; have qgmi_33 := gmi_33.1; have rgmi_33 := gmi_33.2; have qgmi_30 := gmi_30.1; have rgmi_30 := gmi_30.2; have qgmi_29 := gmi_29.1; have rgmi_29 := gmi_29.2; have qgmi_26 := gmi_26.1; have rgmi_26 := gmi_26.2; omega) (show y_788.toInt ≤ (mi 26).toInt from by have qgy_789 := gy_789.1; have rgy_789 := gy_789.2; have qgy_788 := gy_788.1; have rgy_788 := gy_788.2; have qgw0_33 := gw0_33.1; have rgw0_33 := gw0_33.2; have qgw0_30 := gw0_30.1; have rgw0_30 := gw0_30.2; have qgw0_29 := gw0_29.1; have rgw0_29 := gw0_29.2; have qgv1 := g_786.1; have rgv1 := g_786.2; have qgmi_7 := g_783.1; have rgmi_7 := g_783.2; have qgmi_33 := gmi_33.1; have rgmi_33 := gmi_33.2; have qgmi_30 := gmi_30.1; have rgmi_30 := gmi_30.2; have qgmi_29 := gmi_29.1; have rgmi_29 := gmi_29.2; have qgmi_26 := gmi_26.1; have rgmi_26 := gmi_26.2; omega) (show (y_790.toInt = 0 ∨ y_789.toInt < y_788.toInt) from by have qgy_789 := gy_789.1; have rgy_789 := gy_789.2; have qgy_788 := gy_788.1; have rgy_788 := gy_788.2; have qgw0_33 := gw0_33.1; have rgw0_33 := gw0_33.2; have qgw0_30 := gw0_30.1; have rgw0_30 := gw0_30.2; have qgw0_29 := gw0_29.1; have rgw0_29 := gw0_29.2; have qgv1 := g_786.1; have rgv1 := g_786.2; have qgmi_7 := g_783.1; have rgmi_7 := g_783.2; have qgmi_33 := gmi_33.1; have rgmi_33 := gmi_33.2; have qgmi_30 := gmi_30.1; have rgmi_30 := gmi_30.2; have qgmi_29 := gmi_29.1; have rgmi_29 := gmi_29.2; have qgmi_26 := gmi_26.1; have rgmi_26 := gmi_26.2; omega)) (cwV 3 hts (gz_gV mGB_173 mGB_174 mGB_175 mGB_1 mGB_176 goodGB) rfl rfl rfl (by decide +kernel) ⟨Nat.le_trans (Nat.le_of_ble_eq_true rfl) hRf, Nat.le_trans (Nat.le_of_ble_eq_true rfl) hRl⟩) ⟨fun a U g mk q => by obtain ⟨q0, q1, qP, qK, qD, qT⟩ := q; exact ⟨q0, q1, qP, va_K.moved (u := U) (U := U.calling g mk a) (Vm.Alike.refl U.vm) qK, qD, gz_ST.same rfl qT⟩, va_recv hKc hPc (ci := 12) (q0 := 0) rfl rfl, fun U hU hW => ⟨rfl, by rw [hU], by rw [hU]; exact hPc, va_K.moved hW.alike hKc, hDc.weaken (fun _ _ _ _ => trivial), by rw [hU]; exact ((hT.kept hS.2.1).narrow (fun q h => hFc q h)).warm hW⟩⟩ rfl rfl hl.1 rfl (lv_room (Nat.le_of_ble_eq_true rfl)) dX12_readsPlace_155 ⟨hRc, hRs⟩) hS (fun q _ h => hFc q h) hFc (fun r_792 u t H1 locs ht hvm hw hB hz1 hk1 hS => ?_)
        obtain ⟨hu_, hw⟩ := hw
        subst hu_
        obtain ⟨y_793, y_794, y_795, y_796, y_797, y_798, y_799, gy_795, gy_796, gy_798, gy_799, hpr0_r_792, hpr1_r_792, hpr2_r_792, hpr3_r_792, hpr4_r_792, hpr5_r_792, hP1, hD1⟩ := hB
        rw [ht] at hP1
        obtain ⟨hP, hD⟩ := va_join (wr := [((mr 1), .inl (km_letter, 36, .inl z2)), ((mr 0), .inl (km_trust, 6, .inl fm_trust))]) (w1 := [(h0, .inr (12, fsMM (upd (upd (upd (upd (upd (upd (upd mi 27 y_793) 28 y_794) 29 y_795) 30 y_796) 31 y_797) 32 y_798) 33 y_799) mr)), ((mr 13), .inl (km_tape, 1600, .inl fm_tape))]) hP hD [0, 1] [2, 3] rfl rfl (by decide) (by decide) hk1 hFc hP1 hD1
        have hpr0_r_792 : y_789.toInt ≤ y_796.toInt := hpr0_r_792
        have hpr1_r_792 : y_796.toInt ≤ y_795.toInt := hpr1_r_792
        have hpr2_r_792 : y_795.toInt ≤ (mi 26).toInt := hpr2_r_792
        have hpr3_r_792 : Hid ((y_797.toInt = 0 ∨ y_796.toInt < y_795.toInt)) := hpr3_r_792
        have hpr4_r_792 : w0_33.toInt ≤ y_799.toInt := hpr4_r_792
        have hpr5_r_792 : Hid ((y_799.toInt = 1 ∨ ((0 : Int) ≤ r_792.toInt ∧ r_792.toInt ≤ (9 : Int)))) := by have h9 : (y_799.toInt = 1 ∨ ((0 : Int32).toInt ≤ r_792.toInt ∧ r_792.toInt ≤ (9 : Int32).toInt)) := hpr5_r_792; rw [show (0 : Int32).toInt = 0 from by decide] at h9; rw [show (9 : Int32).toInt = 9 from by decide] at h9; exact h9
        have hP := hP.sub (ws' := [(h0, .inr (12, fsMM (upd (upd (upd (upd (upd (upd (upd mi 27 y_793) 28 y_794) 29 y_795) 30 y_796) 31 y_797) 32 y_798) 33 y_799) mr)), ((mr 13), .inl (km_tape, 1600, .inl fm_tape)), ((mr 1), .inl (km_letter, 36, .inl z2)), ((mr 0), .inl (km_trust, 6, .inl fm_trust))]) [2, 3, 0, 1] rfl
        have hD := hD.sub (ws' := [(h0, .inr (12, fsMM (upd (upd (upd (upd (upd (upd (upd mi 27 y_793) 28 y_794) 29 y_795) 30 y_796) 31 y_797) 32 y_798) 33 y_799) mr)), ((mr 13), .inl (km_tape, 1600, .inl fm_tape)), ((mr 1), .inl (km_letter, 36, .inl z2)), ((mr 0), .inl (km_trust, 6, .inl fm_trust))]) [2, 3, 0, 1] (by decide) rfl
        generalize H1 = H at hP hS ⊢
        have gr_792 : gi r_792 0 100000 := hw
        refine va_iast hx hb hK hP hD hS 3 2 rfl rfl (gi_in g_783 (by decide)) dX12_readsPlace_158 (fun H locs hP hD hS => ?_)
        have hP : va_P (dC, dI) vwCl [(h0, .inr (12, fsMM (upd (upd (upd (upd (upd (upd (upd mi 27 y_793) 28 y_794) 29 y_795) 30 y_796) 31 y_797) 32 y_798) 33 y_799) mr)), ((mr 13), .inl (km_tape, 1600, .inl fm_tape)), ((mr 1), .inl (km_letter, 36, .inl z2)), ((mr 0), .inl (km_trust, 6, .inl (upd fm_trust ((mi 7) : Int32).toNatClampNeg r_792)))] H := hP
        have hD : va_D A [(h0, .inr (12, fsMM (upd (upd (upd (upd (upd (upd (upd mi 27 y_793) 28 y_794) 29 y_795) 30 y_796) 31 y_797) 32 y_798) 33 y_799) mr)), ((mr 13), .inl (km_tape, 1600, .inl fm_tape)), ((mr 1), .inl (km_letter, 36, .inl z2)), ((mr 0), .inl (km_trust, 6, .inl (upd fm_trust ((mi 7) : Int32).toNatClampNeg r_792)))] := hD
        generalize upd fm_trust ((mi 7) : Int32).toNatClampNeg r_792 = f_800 at hP hD
        refine lv_aload_n hx hb dX12_readsPlace_159 rfl (lv_at hl 0 rfl) ?_
        refine lv_dup hx hb dX12_readsPlace_160 rfl ?_
        refine va_get (D := (dC, dI)) (ci := 12) (v := .int (mi 7)) (C := RX12) (T := TX12) (N := 57) hx hb hts (fun w h => List.mem_cons_of_mem _ (jnGB_X12 w h)) hown hK hP 0 rfl rfl 7 (by decide) (hts _ (List.mem_cons_of_mem _ mGB_110)) (fun _ h9 => h9) rfl dX12_readsPlace_161 ?_
        refine lv_iconst (v := 1) hx hb dX12_readsPlace_164 (by decide) ?_
        refine lv_iadd hx hb dX12_readsPlace_165 ?_
        refine lv_topi (fun x_801 ex_801 => ?_)
        have gx_801 : gi x_801 1 6 := gi_add ex_801 g_783 (gi_c 1 1 (by decide)) (by decide)
        refine va_put (D := (dC, dI)) (ci := 12) (v := .int x_801) (ty := .int) (C := RX12) (T := TX12) (N := 57) hx hb hts (fun w h => List.mem_cons_of_mem _ (jnGB_X12 w h)) tyX12 tyX12_ok nmX12 hown hK hP hD hS 0 rfl rfl 7 (by decide) (hts _ (List.mem_cons_of_mem _ mGB_110)) (fun _ h9 => h9) rfl (by decide +kernel) rfl rfl (Nat.le_of_ble_eq_true rfl) dX12_readsPlace_166 (fun H locs hP hD hS => ?_)
        have hP : va_P (dC, dI) vwCl [(h0, .inr (12, fsMM (upd (upd (upd (upd (upd (upd (upd (upd mi 7 x_801) 27 y_793) 28 y_794) 29 y_795) 30 y_796) 31 y_797) 32 y_798) 33 y_799) mr)), ((mr 13), .inl (km_tape, 1600, .inl fm_tape)), ((mr 1), .inl (km_letter, 36, .inl z2)), ((mr 0), .inl (km_trust, 6, .inl f_800))] H := hP
        have hD : va_D A [(h0, .inr (12, fsMM (upd (upd (upd (upd (upd (upd (upd (upd mi 7 x_801) 27 y_793) 28 y_794) 29 y_795) 30 y_796) 31 y_797) 32 y_798) 33 y_799) mr)), ((mr 13), .inl (km_tape, 1600, .inl fm_tape)), ((mr 1), .inl (km_letter, 36, .inl z2)), ((mr 0), .inl (km_trust, 6, .inl f_800))] := hD
        exact kr169 x_801 y_793 y_794 y_795 y_796 y_797 y_798 y_799 z2 f_800 _ _ _ (gi_w gx_801 (by decide)) gy_795 gy_796 gy_798 gy_799 (show (mi 30).toInt ≤ y_796.toInt from by have qgy_799 := gy_799.1; have rgy_799 := gy_799.2; have qgy_796 := gy_796.1; have rgy_796 := gy_796.2; have qgy_795 := gy_795.1; have rgy_795 := gy_795.2; have qgy_789 := gy_789.1; have rgy_789 := gy_789.2; have qgy_788 := gy_788.1; have rgy_788 := gy_788.2; have qgw0_33 := gw0_33.1; have rgw0_33 := gw0_33.2; have qgw0_30 := gw0_30.1; have rgw0_30 := gw0_30.2; have qgw0_29 := gw0_29.1; have rgw0_29 := gw0_29.2; have qgv1 := g_786.1; have rgv1 := g_786.2; have qgmi_7 := g_783.1; have rgmi_7 := g_783.2; have qgmi_33 := gmi_33.1; have rgmi_33 := gmi_33.2; have qgmi_30 := gmi_30.1; have rgmi_30 := gmi_30.2; have qgmi_29 := gmi_29.1; have rgmi_29 := gmi_29.2; have qgmi_26 := gmi_26.1; have rgmi_26 := gmi_26.2; omega) hpr1_r_792 hpr2_r_792 (Hid.un hpr3_r_792) (show (mi 33).toInt ≤ y_799.toInt from by have qgy_799 := gy_799.1; have rgy_799 := gy_799.2; have qgy_796 := gy_796.1; have rgy_796 := gy_796.2; have qgy_795 := gy_795.1; have rgy_795 := gy_795.2; have qgy_789 := gy_789.1; have rgy_789 := gy_789.2; have qgy_788 := gy_788.1; have rgy_788 := gy_788.2; have qgw0_33 := gw0_33.1; have rgw0_33 := gw0_33.2; have qgw0_30 := gw0_30.1; have rgw0_30 := gw0_30.2; have qgw0_29 := gw0_29.1; have rgw0_29 := gw0_29.2; have qgv1 := g_786.1; have rgv1 := g_786.2; have qgmi_7 := g_783.1; have rgmi_7 := g_783.2; have qgmi_33 := gmi_33.1; have rgmi_33 := gmi_33.2; have qgmi_30 := gmi_30.1; have rgmi_30 := gmi_30.2; have qgmi_29 := gmi_29.1; have rgmi_29 := gmi_29.2; have qgmi_26 := gmi_26.1; have rgmi_26 := gmi_26.2; omega) hP hD hS (lv_sub hl [] rfl)
      · have hc_802 : v1.toInt < 6 := by have h9 := Int32.lt_iff_toInt_lt.mp (Int32.not_le.mp c_784); rw [show (6 : Int32).toInt = 6 from by decide] at h9; exact h9
        have g_803 : gi v1 0 5 := gi_lt_l (Int32.not_le.mp c_784) gv1 (gi_c 6 6 (by decide)) (by decide)
        refine lv_aload_n hx hb dX12_readsPlace_89 rfl (lv_at hl 0 rfl) ?_
        refine va_get (D := (dC, dI)) (ci := 12) (v := .ref (mr 1)) (C := RX12) (T := TX12) (N := 57) hx hb hts (fun w h => List.mem_cons_of_mem _ (jnGB_X12 w h)) hown hK hP 0 rfl rfl 9 (by decide) (hts _ (List.mem_cons_of_mem _ mGB_11)) (fun _ h9 => h9) rfl dX12_readsPlace_90 ?_
        refine lv_bipush (v := 6) hx hb dX12_readsPlace_93 (by decide) ?_
        refine lv_aload_n hx hb dX12_readsPlace_95 rfl (lv_at hl 0 rfl) ?_
        refine va_get (D := (dC, dI)) (ci := 12) (v := .int (mi 7)) (C := RX12) (T := TX12) (N := 57) hx hb hts (fun w h => List.mem_cons_of_mem _ (jnGB_X12 w h)) hown hK hP 0 rfl rfl 7 (by decide) (hts _ (List.mem_cons_of_mem _ mGB_110)) (fun _ h9 => h9) rfl dX12_readsPlace_96 ?_
        refine lv_imul hx hb dX12_readsPlace_99 ?_
        refine lv_topi (fun x_804 ex_804 => ?_)
        have gx_804 : gi x_804 0 30 := gi_mul ex_804 (gi_c 6 6 (by decide)) g_783 (by decide)
        refine lv_iload_n hx hb dX12_readsPlace_100 rfl (lv_at hl 1 rfl) ?_
        refine lv_iadd hx hb dX12_readsPlace_101 ?_
        refine lv_topi (fun x_805 ex_805 => ?_)
        have gx_805 : gi x_805 0 35 := gi_add ex_805 gx_804 g_803 (by decide)
        refine lv_iload_n hx hb dX12_readsPlace_102 rfl (lv_at hl 1 rfl) ?_
        refine lv_aload_n hx hb dX12_readsPlace_103 rfl (lv_at hl 0 rfl) ?_
        refine va_get (D := (dC, dI)) (ci := 12) (v := .int w0_29) (C := RX12) (T := TX12) (N := 57) hx hb hts (fun w h => List.mem_cons_of_mem _ (jnGB_X12 w h)) hown hK hP 0 rfl rfl 29 (by decide) (hts _ (List.mem_cons_of_mem _ mGB_113)) (fun _ h9 => h9) rfl dX12_readsPlace_104 ?_
        refine lv_aload_n hx hb dX12_readsPlace_107 rfl (lv_at hl 0 rfl) ?_
        refine va_get (D := (dC, dI)) (ci := 12) (v := .int w0_30) (C := RX12) (T := TX12) (N := 57) hx hb hts (fun w h => List.mem_cons_of_mem _ (jnGB_X12 w h)) hown hK hP 0 rfl rfl 30 (by decide) (hts _ (List.mem_cons_of_mem _ mGB_135)) (fun _ h9 => h9) rfl dX12_readsPlace_108 ?_
        refine lv_isub hx hb dX12_readsPlace_111 ?_
        refine lv_topi (fun x_806 ex_806 => ?_)
        have gx_806 : gi x_806 (-1600) 1600 := gi_sub ex_806 gw0_29 gw0_30 (by decide)
        refine lv_icmp_ge (tgt := 129) hx hb dX12_readsPlace_112 (by decide) (fun c_807 => ?_) (fun c_807 => ?_)
        · have hc_808 : x_806.toInt ≤ v1.toInt := by have h9 := Int32.le_iff_toInt_le.mp c_807; exact h9
          have g_809 : gi x_806 (-1600) 5 := gi_le_l c_807 gx_806 g_803
          refine lv_iconst (v := 0) hx hb dX12_readsPlace_129 (by decide) ?_
          refine va_iast hx hb hK hP hD hS 2 1 rfl rfl (gi_in gx_805 (by decide)) dX12_readsPlace_130 (fun H locs hP hD hS => ?_)
          have hP : va_P (dC, dI) vwCl [(h0, .inr (12, fsMM (upd (upd (upd (upd (upd (upd (upd mi 27 w0_27) 28 w0_28) 29 w0_29) 30 w0_30) 31 w0_31) 32 w0_32) 33 w0_33) mr)), ((mr 13), .inl (km_tape, 1600, .inl fm_tape)), ((mr 1), .inl (km_letter, 36, .inl (upd z2 (x_805 : Int32).toNatClampNeg 0))), ((mr 0), .inl (km_trust, 6, .inl fm_trust))] H := hP
          have hD : va_D A [(h0, .inr (12, fsMM (upd (upd (upd (upd (upd (upd (upd mi 27 w0_27) 28 w0_28) 29 w0_29) 30 w0_30) 31 w0_31) 32 w0_32) 33 w0_33) mr)), ((mr 13), .inl (km_tape, 1600, .inl fm_tape)), ((mr 1), .inl (km_letter, 36, .inl (upd z2 (x_805 : Int32).toNatClampNeg 0))), ((mr 0), .inl (km_trust, 6, .inl fm_trust))] := hD
          generalize upd z2 (x_805 : Int32).toNatClampNeg 0 = f_810 at hP hD
          obtain ⟨x_811, ex_811⟩ : ∃ y : Int32, y = v1 + 1 := ⟨_, rfl⟩
          have gx_811 : gi x_811 1 6 := gi_add ex_811 g_803 (gi_c 1 1 (by decide)) (by decide)
          refine lv_iinc (v := x_811) (lv' := [(1, .int x_811), (0, .ref h0)]) hx hb dX12_readsPlace_131 hl (k := 1) rfl (by rw [ex_811]; rfl) (by decide) rfl (fun ls hl => ?_)
          refine lv_goto (tgt := 83) hx hb dX12_readsPlace_134 (by decide) ?_
          exact ih x_811 w0_27 w0_28 w0_29 w0_30 w0_31 w0_32 w0_33 f_810 _ _ _ (gi_w gx_811 (by decide)) gw0_29 gw0_30 gw0_32 gw0_33 hinv0 hinv1 hinv2 hinv3 hinv4 hinv5 (by have av1 := gv1.1; have bv1 := gv1.2; have qgx_811 := gx_811.1; have rgx_811 := gx_811.2; have igx_811 : x_811.toInt = v1.toInt + 1 := (by have hc1 : (1 : Int32).toInt = 1 := (by decide); have h9 := gi_addI ex_811 (by have h1 := g_803.1; have h2 := (gi_c 1 1 (by decide)).1; have h3 := g_803.2; have h4 := (gi_c 1 1 (by decide)).2; omega) (by have h1 := g_803.1; have h2 := (gi_c 1 1 (by decide)).1; have h3 := g_803.2; have h4 := (gi_c 1 1 (by decide)).2; omega); rw [hc1] at h9; exact h9); have qgv1 := g_803.1; have rgv1 := g_803.2; omega) hP hD hS (lv_sub hl [1, 0] rfl)
        · have hc_812 : v1.toInt < x_806.toInt := by have h9 := Int32.lt_iff_toInt_lt.mp (Int32.not_le.mp c_807); exact h9
          have g_813 : gi x_806 1 1600 := gi_lt_r (Int32.not_le.mp c_807) g_803 gx_806 (by decide)
          refine lv_aload_n hx hb dX12_readsPlace_115 rfl (lv_at hl 0 rfl) ?_
          refine va_get (D := (dC, dI)) (ci := 12) (v := .ref (mr 13)) (C := RX12) (T := TX12) (N := 57) hx hb hts (fun w h => List.mem_cons_of_mem _ (jnGB_X12 w h)) hown hK hP 0 rfl rfl 25 (by decide) (hts _ (List.mem_cons_of_mem _ mGB_24)) (fun _ h9 => h9) rfl dX12_readsPlace_116 ?_
          refine lv_aload_n hx hb dX12_readsPlace_119 rfl (lv_at hl 0 rfl) ?_
          refine va_get (D := (dC, dI)) (ci := 12) (v := .int w0_30) (C := RX12) (T := TX12) (N := 57) hx hb hts (fun w h => List.mem_cons_of_mem _ (jnGB_X12 w h)) hown hK hP 0 rfl rfl 30 (by decide) (hts _ (List.mem_cons_of_mem _ mGB_135)) (fun _ h9 => h9) rfl dX12_readsPlace_120 ?_
          refine lv_iload_n hx hb dX12_readsPlace_123 rfl (lv_at hl 1 rfl) ?_
          refine lv_iadd hx hb dX12_readsPlace_124 ?_
          refine lv_topi (fun x_814 ex_814 => ?_)
          have gx_814 : gi x_814 0 1605 := gi_add ex_814 gw0_30 g_803 (by decide)
          refine va_iald hx hb hK hP 1 0 rfl rfl (gz_inR (n := 1600) (by have qgx_814 := gx_814.1; have rgx_814 := gx_814.2; have igx_814 : x_814.toInt = w0_30.toInt + v1.toInt := (by have h9 := gi_addI ex_814 (by have h1 := gw0_30.1; have h2 := g_803.1; have h3 := gw0_30.2; have h4 := g_803.2; omega) (by have h1 := gw0_30.1; have h2 := g_803.1; have h3 := gw0_30.2; have h4 := g_803.2; omega); exact h9); have qgv1 := g_803.1; have rgv1 := g_803.2; have qgw0_30 := gw0_30.1; have rgw0_30 := gw0_30.2; have qgx_806 := g_813.1; have rgx_806 := g_813.2; have igx_806 : x_806.toInt = w0_29.toInt - w0_30.toInt := (by have h9 := gi_subI ex_806 (by have h1 := gw0_29.1; have h2 := gw0_30.1; have h3 := gw0_29.2; have h4 := gw0_30.2; omega) (by have h1 := gw0_29.1; have h2 := gw0_30.1; have h3 := gw0_29.2; have h4 := gw0_30.2; omega); exact h9); have qgw0_29 := gw0_29.1; have rgw0_29 := gw0_29.2; have qgw0_33 := gw0_33.1; have rgw0_33 := gw0_33.2; have qgmi_7 := g_783.1; have rgmi_7 := g_783.2; have qgmi_33 := gmi_33.1; have rgmi_33 := gmi_33.2; have qgmi_30 := gmi_30.1; have rgmi_30 := gmi_30.2; have qgmi_29 := gmi_29.1; have rgmi_29 := gmi_29.2; have qgmi_26 := gmi_26.1; have rgmi_26 := gmi_26.2; omega) (by have qgx_814 := gx_814.1; have rgx_814 := gx_814.2; have igx_814 : x_814.toInt = w0_30.toInt + v1.toInt := (by have h9 := gi_addI ex_814 (by have h1 := gw0_30.1; have h2 := g_803.1; have h3 := gw0_30.2; have h4 := g_803.2; omega) (by have h1 := gw0_30.1; have h2 := g_803.1; have h3 := gw0_30.2; have h4 := g_803.2; omega); exact h9); have qgv1 := g_803.1; have rgv1 := g_803.2; have qgw0_30 := gw0_30.1; have rgw0_30 := gw0_30.2; have qgx_806 := g_813.1; have rgx_806 := g_813.2; have igx_806 : x_806.toInt = w0_29.toInt - w0_30.toInt := (by have h9 := gi_subI ex_806 (by have h1 := gw0_29.1; have h2 := gw0_30.1; have h3 := gw0_29.2; have h4 := gw0_30.2; omega) (by have h1 := gw0_29.1; have h2 := gw0_30.1; have h3 := gw0_29.2; have h4 := gw0_30.2; omega); exact h9); have qgw0_29 := gw0_29.1; have rgw0_29 := gw0_29.2; have qgw0_33 := gw0_33.1; have rgw0_33 := gw0_33.2; have qgmi_7 := g_783.1; have rgmi_7 := g_783.2; have qgmi_33 := gmi_33.1; have rgmi_33 := gmi_33.2; have qgmi_30 := gmi_30.1; have rgmi_30 := gmi_30.2; have qgmi_29 := gmi_29.1; have rgmi_29 := gmi_29.2; have qgmi_26 := gmi_26.1; have rgmi_26 := gmi_26.2; omega)) dX12_readsPlace_125 ?_
          refine lv_topi (fun x_815 ex_815 => ?_)
          have hlx_815 : x_815.toInt = (fm_tape x_814.toNatClampNeg).toInt := congrArg Int32.toInt ex_815
          refine lv_goto (tgt := 130) hx hb dX12_readsPlace_126 (by decide) ?_
          refine va_iast hx hb hK hP hD hS 2 1 rfl rfl (gi_in gx_805 (by decide)) dX12_readsPlace_130 (fun H locs hP hD hS => ?_)
          have hP : va_P (dC, dI) vwCl [(h0, .inr (12, fsMM (upd (upd (upd (upd (upd (upd (upd mi 27 w0_27) 28 w0_28) 29 w0_29) 30 w0_30) 31 w0_31) 32 w0_32) 33 w0_33) mr)), ((mr 13), .inl (km_tape, 1600, .inl fm_tape)), ((mr 1), .inl (km_letter, 36, .inl (upd z2 (x_805 : Int32).toNatClampNeg x_815))), ((mr 0), .inl (km_trust, 6, .inl fm_trust))] H := hP
          have hD : va_D A [(h0, .inr (12, fsMM (upd (upd (upd (upd (upd (upd (upd mi 27 w0_27) 28 w0_28) 29 w0_29) 30 w0_30) 31 w0_31) 32 w0_32) 33 w0_33) mr)), ((mr 13), .inl (km_tape, 1600, .inl fm_tape)), ((mr 1), .inl (km_letter, 36, .inl (upd z2 (x_805 : Int32).toNatClampNeg x_815))), ((mr 0), .inl (km_trust, 6, .inl fm_trust))] := hD
          generalize upd z2 (x_805 : Int32).toNatClampNeg x_815 = f_816 at hP hD
          obtain ⟨x_817, ex_817⟩ : ∃ y : Int32, y = v1 + 1 := ⟨_, rfl⟩
          have gx_817 : gi x_817 1 6 := gi_add ex_817 g_803 (gi_c 1 1 (by decide)) (by decide)
          refine lv_iinc (v := x_817) (lv' := [(1, .int x_817), (0, .ref h0)]) hx hb dX12_readsPlace_131 hl (k := 1) rfl (by rw [ex_817]; rfl) (by decide) rfl (fun ls hl => ?_)
          refine lv_goto (tgt := 83) hx hb dX12_readsPlace_134 (by decide) ?_
          exact ih x_817 w0_27 w0_28 w0_29 w0_30 w0_31 w0_32 w0_33 f_816 _ _ _ (gi_w gx_817 (by decide)) gw0_29 gw0_30 gw0_32 gw0_33 hinv0 hinv1 hinv2 hinv3 hinv4 hinv5 (by have av1 := gv1.1; have bv1 := gv1.2; have qgx_817 := gx_817.1; have rgx_817 := gx_817.2; have igx_817 : x_817.toInt = v1.toInt + 1 := (by have hc1 : (1 : Int32).toInt = 1 := (by decide); have h9 := gi_addI ex_817 (by have h1 := g_803.1; have h2 := (gi_c 1 1 (by decide)).1; have h3 := g_803.2; have h4 := (gi_c 1 1 (by decide)).2; omega) (by have h1 := g_803.1; have h2 := (gi_c 1 1 (by decide)).1; have h3 := g_803.2; have h4 := (gi_c 1 1 (by decide)).2; omega); rw [hc1] at h9; exact h9); have qgv1 := g_803.1; have rgv1 := g_803.2; omega) hP hD hS (lv_sub hl [1, 0] rfl)
set_option maxHeartbeats 4000000 in
set_option maxRecDepth 100000 in
theorem sX12_readsPlaceP (l : Launch) (dC : Nat → ClassId) (dI : Nat → Nat → Nat) (sz : Nat) (h0 : Nat) (mi : Nat → Int32) (mr : Nat → Nat) (km_tape : ClassId) (fm_tape : Nat → Int32) (km_letter : ClassId) (fm_letter : Nat → Int32) (km_trust : ClassId) (fm_trust : Nat → Int32) (sa : Nat → Nat) (sb : Nat → Nat) (zf : Value) (gmi_0 : gi (mi 0) 0 100000) (gmi_1 : gi (mi 1) 0 100000) (gmi_2 : gi (mi 2) 0 100000) (gmi_4 : gi (mi 4) 0 1) (gmi_7 : gi (mi 7) 0 6) (gmi_10 : gi (mi 10) 0 24) (gmi_17 : gi (mi 17) 0 8) (gmi_23 : gi (mi 23) 0 300) (gmi_24 : gi (mi 24) 0 1) (gmi_26 : gi (mi 26) 0 1600) (gmi_29 : gi (mi 29) 0 1600) (gmi_30 : gi (mi 30) 0 1600) (gmi_32 : gi (mi 32) 0 100000) (gmi_33 : gi (mi 33) 0 1) (gmi_37 : gi (mi 37) 0 1) (gmi_41 : gi (mi 41) 0 24) (gmi_50 : gi (mi 50) 0 1) (gmi_51 : gi (mi 51) 0 1) (gmi_56 : gi (mi 56) 0 80) (hpq0 : (mi 30).toInt ≤ (mi 29).toInt) (hpq1 : (mi 29).toInt ≤ (mi 26).toInt) (hpq2 : ((mi 31).toInt = 0 ∨ (mi 30).toInt < (mi 29).toInt)) : Met l yX12_readsPlace (.code yX12_readsPlace cX12_readsPlace 2 none :: wsGB) ({ frames := 7, cells := 0, slots := 0, locals := 152 }) (va_Pc [.ref h0] (fun U => U.heap.size = sz ∧ va_P (dC, dI) vwCl [(h0, .inr (12, fsMM mi mr)), ((mr 13), .inl (km_tape, 1600, .inl fm_tape)), ((mr 1), .inl (km_letter, 36, .inl fm_letter)), ((mr 0), .inl (km_trust, 6, .inl fm_trust))] U.heap ∧ va_K (dC, dI) vwCl [(km_tape, .int), (km_letter, .int), (km_trust, .int)] U ∧ va_D (fun _ => True) [(h0, .inr (12, fsMM mi mr)), ((mr 13), .inl (km_tape, 1600, .inl fm_tape)), ((mr 1), .inl (km_letter, 36, .inl fm_letter)), ((mr 0), .inl (km_trust, 6, .inl fm_trust))] ∧ gz_ST RX12 stIB sa sb zf (va_A [(h0, .inr (12, fsMM mi mr)), ((mr 13), .inl (km_tape, 1600, .inl fm_tape)), ((mr 1), .inl (km_letter, 36, .inl fm_letter)), ((mr 0), .inl (km_trust, 6, .inl fm_trust))] sz) U U.heap)) (va_Qv (fun (u : Unit) => True) (fun _ t => ∃ (w0_7 : Int32) (w0_27 : Int32) (w0_28 : Int32) (w0_29 : Int32) (w0_30 : Int32) (w0_31 : Int32) (w0_32 : Int32) (w0_33 : Int32) (z2 : Nat → Int32) (z3 : Nat → Int32), gi w0_7 0 6 ∧ gi w0_29 0 1600 ∧ gi w0_30 0 1600 ∧ gi w0_32 0 100000 ∧ gi w0_33 0 1 ∧ (mi 30).toInt ≤ w0_30.toInt ∧ w0_30.toInt ≤ w0_29.toInt ∧ w0_29.toInt ≤ (mi 26).toInt ∧ (w0_31.toInt = 0 ∨ w0_30.toInt < w0_29.toInt) ∧ (mi 33).toInt ≤ w0_33.toInt ∧ va_P (dC, dI) vwCl [(h0, .inr (12, fsMM (upd (upd (upd (upd (upd (upd (upd (upd mi 7 w0_7) 27 w0_27) 28 w0_28) 29 w0_29) 30 w0_30) 31 w0_31) 32 w0_32) 33 w0_33) mr)), ((mr 13), .inl (km_tape, 1600, .inl fm_tape)), ((mr 1), .inl (km_letter, 36, .inl z2)), ((mr 0), .inl (km_trust, 6, .inl z3))] t.heap ∧ va_D (va_A [(h0, .inr (12, fsMM mi mr)), ((mr 13), .inl (km_tape, 1600, .inl fm_tape)), ((mr 1), .inl (km_letter, 36, .inl fm_letter)), ((mr 0), .inl (km_trust, 6, .inl fm_trust))] sz) [(h0, .inr (12, fsMM (upd (upd (upd (upd (upd (upd (upd (upd mi 7 w0_7) 27 w0_27) 28 w0_28) 29 w0_29) 30 w0_30) 31 w0_31) 32 w0_32) 33 w0_33) mr)), ((mr 13), .inl (km_tape, 1600, .inl fm_tape)), ((mr 1), .inl (km_letter, 36, .inl z2)), ((mr 0), .inl (km_trust, 6, .inl z3))]) (va_A [(h0, .inr (12, fsMM mi mr)), ((mr 13), .inl (km_tape, 1600, .inl fm_tape)), ((mr 1), .inl (km_letter, 36, .inl fm_letter)), ((mr 0), .inl (km_trust, 6, .inl fm_trust))] sz)) 0 0 (va_A [(h0, .inr (12, fsMM mi mr)), ((mr 13), .inl (km_tape, 1600, .inl fm_tape)), ((mr 1), .inl (km_letter, 36, .inl fm_letter)), ((mr 0), .inl (km_trust, 6, .inl fm_trust))] sz) := by
  refine Met.ofW (cc := cX12_readsPlace) (maxL := 2) (ret := none) (by decide) rfl ?_
  intro p e s m args below meth c s₁ B hml hv
  obtain ⟨rfl, hsz, hP, hK, hD0, hT⟩ := hv
  have hx := B.exec
  have hb := B.bytes
  have hr := B.returns
  have hts := atoms_spec (ws := (.code yX12_readsPlace cX12_readsPlace 2 none :: wsGB)) B.pre
  have hown : s.vm.findClass RX12 = some m.cls := findClass_of_methodNamed B.named
  have hlocks := B.notSynchronized
  subst hsz
  have hD := hD0.self (sz := s.heap.size)
  generalize hAe : va_A [(h0, .inr (12, fsMM mi mr)), ((mr 13), .inl (km_tape, 1600, .inl fm_tape)), ((mr 1), .inl (km_letter, 36, .inl fm_letter)), ((mr 0), .inl (km_trust, 6, .inl fm_trust))] s.heap.size = A at hD hT ⊢
  have hA : ∀ q : Nat, s.heap.size ≤ q → A q := fun q h => by rw [← hAe]; exact Or.inr h
  have hS : va_S A s.heap s.heap [] := va_S.rf
  have hl := lv_entry ([.ref h0]) (n := 2) (Nat.le_of_ble_eq_true rfl)
  rw [lg_entry_eq]
  generalize (lg_sl ([.ref h0]) ++ List.replicate (2 - (lg_sl ([.ref h0])).length) Slot.unset).toArray = ls at hl ⊢
  have hl : lv_has ls 2 [(0, .ref h0)] := hl
  refine lv_aload_n hx hb dX12_readsPlace_0 rfl (lv_at hl 0 rfl) ?_
  refine va_get (D := (dC, dI)) (ci := 12) (v := .int (mi 7)) (C := RX12) (T := TX12) (N := 57) hx hb hts (fun w h => List.mem_cons_of_mem _ (jnGB_X12 w h)) hown hK hP 0 rfl rfl 7 (by decide) (hts _ (List.mem_cons_of_mem _ mGB_110)) (fun _ h9 => h9) rfl dX12_readsPlace_1 ?_
  refine lv_bipush (v := 6) hx hb dX12_readsPlace_4 (by decide) ?_
  refine lv_icmp_ne (tgt := 14) hx hb dX12_readsPlace_6 (by decide) (fun c_818 => ?_) (fun c_818 => ?_)
  · have hc_819 : (mi 7).toInt ≠ 6 := fun h9 => c_818 (Int32.toInt_inj.mp (by rw [show (6 : Int32).toInt = 6 from by decide]; exact h9))
    have g_820 : gi (mi 7) 0 5 := gi_ne_hi c_818 gmi_7 (gi_c 6 6 (by decide)) (by decide)
    refine lv_aload_n hx hb dX12_readsPlace_14 rfl (lv_at hl 0 rfl) ?_
    refine lv_iconst (v := 1) hx hb dX12_readsPlace_15 (by decide) ?_
    have hPc := hP.sub (ws' := [(h0, .inr (12, fsMM mi mr)), ((mr 13), .inl (km_tape, 1600, .inl fm_tape))]) [0, 1] rfl
    have hKc := hK.sub (tys' := [(km_tape, .int)]) [0] rfl
    have hDc := hD.sub (ws' := [(h0, .inr (12, fsMM mi mr)), ((mr 13), .inl (km_tape, 1600, .inl fm_tape))]) [0, 1] (by decide) rfl
    have hFc := va_free (wc := [(h0, .inr (12, fsMM mi mr)), ((mr 13), .inl (km_tape, 1600, .inl fm_tape))]) hD hS hA [0, 1] rfl
    refine va_callv (va_runV (As := [.int 1]) (rest := []) ⟨hx, hb, hml, hown, hts⟩ (sX12_passesP l dC dI s.heap.size h0 mi mr km_tape fm_tape 1 gmi_0 gmi_1 gmi_2 gmi_4 (gi_w g_820 (by decide)) gmi_10 gmi_17 gmi_23 gmi_24 gmi_26 gmi_29 gmi_30 gmi_32 gmi_33 gmi_37 gmi_41 gmi_50 gmi_51 gmi_56 (gi_w (gi_c 1 1 (by decide)) (by decide)) (show (mi 30).toInt ≤ (mi 29).toInt from by have qgmi_7 := g_820.1; have rgmi_7 := g_820.2; have qgmi_30 := gmi_30.1; have rgmi_30 := gmi_30.2; have qgmi_29 := gmi_29.1; have rgmi_29 := gmi_29.2; have qgmi_26 := gmi_26.1; have rgmi_26 := gmi_26.2; omega) (show (mi 29).toInt ≤ (mi 26).toInt from by have qgmi_7 := g_820.1; have rgmi_7 := g_820.2; have qgmi_30 := gmi_30.1; have rgmi_30 := gmi_30.2; have qgmi_29 := gmi_29.1; have rgmi_29 := gmi_29.2; have qgmi_26 := gmi_26.1; have rgmi_26 := gmi_26.2; omega) (show ((mi 31).toInt = 0 ∨ (mi 30).toInt < (mi 29).toInt) from by have qgmi_7 := g_820.1; have rgmi_7 := g_820.2; have qgmi_30 := gmi_30.1; have rgmi_30 := gmi_30.2; have qgmi_29 := gmi_29.1; have rgmi_29 := gmi_29.2; have qgmi_26 := gmi_26.1; have rgmi_26 := gmi_26.2; omega)) (cwV 1 hts (gz_gV mGB_161 mGB_162 mGB_163 mGB_1 mGB_164 goodGB) rfl rfl rfl (by decide +kernel) ⟨Nat.le_of_ble_eq_true rfl, Nat.le_of_ble_eq_true rfl⟩) ⟨fun a U g mk q => by obtain ⟨q0, q1, qP, qK, qD⟩ := q; exact ⟨q0, q1, qP, va_K.moved (u := U) (U := U.calling g mk a) (Vm.Alike.refl U.vm) qK, qD⟩, va_recv hKc hPc (ci := 12) (q0 := 0) rfl rfl, fun U hU hW => ⟨rfl, by rw [hU], by rw [hU]; exact hPc, va_K.moved hW.alike hKc, hDc.weaken (fun _ _ _ _ => trivial)⟩⟩ rfl rfl hl.1 rfl (lv_room (Nat.le_of_ble_eq_true rfl)) dX12_readsPlace_16 ⟨Nat.zero_le _, Nat.zero_le _⟩) hS (fun q _ h => hFc q h) hFc (fun u t H1 locs ht hvm hw hB hz1 hk1 hS => ?_)
    obtain ⟨y_822, y_823, y_824, y_825, y_826, y_827, y_828, gy_824, gy_825, gy_827, gy_828, hpr0_r_821, hpr1_r_821, hpr2_r_821, hpr3_r_821, hpr4_r_821, hpr5_r_821, hpr6_r_821, hP1, hD1⟩ := hB
    rw [ht] at hP1
    obtain ⟨hP, hD⟩ := va_join (wr := [((mr 1), .inl (km_letter, 36, .inl fm_letter)), ((mr 0), .inl (km_trust, 6, .inl fm_trust))]) (w1 := [(h0, .inr (12, fsMM (upd (upd (upd (upd (upd (upd (upd mi 27 y_822) 28 y_823) 29 y_824) 30 y_825) 31 y_826) 32 y_827) 33 y_828) mr)), ((mr 13), .inl (km_tape, 1600, .inl fm_tape))]) hP hD [0, 1] [2, 3] rfl rfl (by decide) (by decide) hk1 hFc hP1 hD1
    have hpr0_r_821 : (mi 30).toInt ≤ y_825.toInt := hpr0_r_821
    have hpr1_r_821 : y_825.toInt ≤ y_824.toInt := hpr1_r_821
    have hpr2_r_821 : y_824.toInt ≤ (mi 26).toInt := hpr2_r_821
    have hpr3_r_821 : Hid ((y_826.toInt = 0 ∨ y_825.toInt < y_824.toInt)) := hpr3_r_821
    have hpr4_r_821 : (mi 33).toInt ≤ y_828.toInt := hpr4_r_821
    have hpr5_r_821 : Hid (((1 : Int) = 1 ∨ y_828.toInt = 1)) := by have h9 : ((1 : Int32).toInt = 1 ∨ y_828.toInt = 1) := hpr5_r_821; rw [show (1 : Int32).toInt = 1 from by decide] at h9; exact h9
    have hpr6_r_821 : Hid ((y_828.toInt = 1 ∨ (mi 29).toInt ≤ y_825.toInt)) := hpr6_r_821
    have hP := hP.sub (ws' := [(h0, .inr (12, fsMM (upd (upd (upd (upd (upd (upd (upd mi 27 y_822) 28 y_823) 29 y_824) 30 y_825) 31 y_826) 32 y_827) 33 y_828) mr)), ((mr 13), .inl (km_tape, 1600, .inl fm_tape)), ((mr 1), .inl (km_letter, 36, .inl fm_letter)), ((mr 0), .inl (km_trust, 6, .inl fm_trust))]) [2, 3, 0, 1] rfl
    have hD := hD.sub (ws' := [(h0, .inr (12, fsMM (upd (upd (upd (upd (upd (upd (upd mi 27 y_822) 28 y_823) 29 y_824) 30 y_825) 31 y_826) 32 y_827) 33 y_828) mr)), ((mr 13), .inl (km_tape, 1600, .inl fm_tape)), ((mr 1), .inl (km_letter, 36, .inl fm_letter)), ((mr 0), .inl (km_trust, 6, .inl fm_trust))]) [2, 3, 0, 1] (by decide) rfl
    generalize H1 = H at hP hS ⊢
    refine lv_aload_n hx hb dX12_readsPlace_19 rfl (lv_at hl 0 rfl) ?_
    refine va_get (D := (dC, dI)) (ci := 12) (v := .int y_828) (C := RX12) (T := TX12) (N := 57) hx hb hts (fun w h => List.mem_cons_of_mem _ (jnGB_X12 w h)) hown hK hP 0 rfl rfl 33 (by decide) (hts _ (List.mem_cons_of_mem _ mGB_114)) (fun _ h9 => h9) rfl dX12_readsPlace_20 ?_
    refine lv_if_ne (tgt := 39) hx hb dX12_readsPlace_23 (by decide) (fun c_829 => ?_) (fun c_829 => ?_)
    · have hc_830 : y_828.toInt ≠ 0 := fun h9 => c_829 (Int32.toInt_inj.mp (by rw [show (0 : Int32).toInt = 0 from by decide]; exact h9))
      have g_831 : gi y_828 1 1 := gi_ne_lo c_829 gy_828 (gi_c 0 0 (by decide)) (by decide)
      refine lv_aload_n hx hb dX12_readsPlace_39 rfl (lv_at hl 0 rfl) ?_
      refine va_get (D := (dC, dI)) (ci := 12) (v := .int y_828) (C := RX12) (T := TX12) (N := 57) hx hb hts (fun w h => List.mem_cons_of_mem _ (jnGB_X12 w h)) hown hK hP 0 rfl rfl 33 (by decide) (hts _ (List.mem_cons_of_mem _ mGB_114)) (fun _ h9 => h9) rfl dX12_readsPlace_40 ?_
      refine lv_if_ne (tgt := 73) hx hb dX12_readsPlace_43 (by decide) (fun c_832 => ?_) (fun c_832 => absurd c_832 (gi_no_eq g_831 (gi_c 0 0 (by decide)) (by decide)))
      refine lv_aload_n hx hb dX12_readsPlace_73 rfl (lv_at hl 0 rfl) ?_
      refine va_get (D := (dC, dI)) (ci := 12) (v := .int y_828) (C := RX12) (T := TX12) (N := 57) hx hb hts (fun w h => List.mem_cons_of_mem _ (jnGB_X12 w h)) hown hK hP 0 rfl rfl 33 (by decide) (hts _ (List.mem_cons_of_mem _ mGB_114)) (fun _ h9 => h9) rfl dX12_readsPlace_74 ?_
      refine lv_if_eq (tgt := 81) hx hb dX12_readsPlace_77 (by decide) (fun c_833 => absurd c_833 (gi_no_eq g_831 (gi_c 0 0 (by decide)) (by decide))) (fun c_833 => ?_)
      exact W.vret hx hb hr (fun t ht hW => ⟨⟨(), rfl, trivial, (mi 7), y_822, y_823, y_824, y_825, y_826, y_827, y_828, fm_letter, fm_trust, (gi_w g_820 (by decide)), gy_824, gy_825, gy_827, (gi_w g_831 (by decide)), hpr0_r_821, hpr1_r_821, hpr2_r_821, (Hid.un hpr3_r_821), hpr4_r_821, by rw [ht]; exact hP, hD⟩, hS.F ht⟩) hS.2.2 dX12_readsPlace_80
    · have hc_834 : y_828.toInt = 0 := by have h9 := congrArg Int32.toInt c_829; rw [show (0 : Int32).toInt = 0 from by decide] at h9; exact h9
      have g_835 : gi y_828 0 0 := gi_eq c_829 (gi_c 0 0 (by decide))
      have g_836 : gi (mi 33) 0 0 := gi_rel (show (mi 33).toInt ≤ y_828.toInt from by omega) gmi_33 g_835
      have hf_837 : (mi 29).toInt ≤ y_825.toInt := Hid.resL hpr6_r_821 (by have u1 := g_835.1; have u2 := g_835.2; omega)
      refine lv_aload_n hx hb dX12_readsPlace_26 rfl (lv_at hl 0 rfl) ?_
      refine va_get (D := (dC, dI)) (ci := 12) (v := .int y_826) (C := RX12) (T := TX12) (N := 57) hx hb hts (fun w h => List.mem_cons_of_mem _ (jnGB_X12 w h)) hown hK hP 0 rfl rfl 31 (by decide) (hts _ (List.mem_cons_of_mem _ mGB_116)) (fun _ h9 => h9) rfl dX12_readsPlace_27 ?_
      refine lv_iconst (v := 1) hx hb dX12_readsPlace_30 (by decide) ?_
      refine lv_icmp_eq (tgt := 39) hx hb dX12_readsPlace_31 (by decide) (fun c_838 => ?_) (fun c_838 => ?_)
      · have hc_839 : y_826.toInt = 1 := by have h9 := congrArg Int32.toInt c_838; rw [show (1 : Int32).toInt = 1 from by decide] at h9; exact h9
        have g_840 : gi y_826 1 1 := gi_eq c_838 (gi_c 1 1 (by decide))
        have hf_841 : y_825.toInt < y_824.toInt := Hid.resL hpr3_r_821 (by have u1 := g_840.1; have u2 := g_840.2; omega)
        refine lv_aload_n hx hb dX12_readsPlace_39 rfl (lv_at hl 0 rfl) ?_
        refine va_get (D := (dC, dI)) (ci := 12) (v := .int y_828) (C := RX12) (T := TX12) (N := 57) hx hb hts (fun w h => List.mem_cons_of_mem _ (jnGB_X12 w h)) hown hK hP 0 rfl rfl 33 (by decide) (hts _ (List.mem_cons_of_mem _ mGB_114)) (fun _ h9 => h9) rfl dX12_readsPlace_40 ?_
        refine lv_if_ne (tgt := 73) hx hb dX12_readsPlace_43 (by decide) (fun c_842 => absurd (gi_is_eq g_835 (gi_c 0 0 (by decide))) c_842) (fun c_842 => ?_)
        refine lv_aload_n hx hb dX12_readsPlace_46 rfl (lv_at hl 0 rfl) ?_
        refine va_get (D := (dC, dI)) (ci := 12) (v := .int y_824) (C := RX12) (T := TX12) (N := 57) hx hb hts (fun w h => List.mem_cons_of_mem _ (jnGB_X12 w h)) hown hK hP 0 rfl rfl 29 (by decide) (hts _ (List.mem_cons_of_mem _ mGB_113)) (fun _ h9 => h9) rfl dX12_readsPlace_47 ?_
        refine lv_aload_n hx hb dX12_readsPlace_50 rfl (lv_at hl 0 rfl) ?_
        refine va_get (D := (dC, dI)) (ci := 12) (v := .int y_825) (C := RX12) (T := TX12) (N := 57) hx hb hts (fun w h => List.mem_cons_of_mem _ (jnGB_X12 w h)) hown hK hP 0 rfl rfl 30 (by decide) (hts _ (List.mem_cons_of_mem _ mGB_135)) (fun _ h9 => h9) rfl dX12_readsPlace_51 ?_
        refine lv_isub hx hb dX12_readsPlace_54 ?_
        refine lv_topi (fun x_843 ex_843 => ?_)
        have gx_843 : gi x_843 0 1600 := gi_subrel ex_843 (show y_825.toInt ≤ y_824.toInt from by omega) gy_824 gy_825 (by decide)
        refine lv_bipush (v := 6) hx hb dX12_readsPlace_55 (by decide) ?_
        refine lv_icmp_gt (tgt := 68) hx hb dX12_readsPlace_57 (by decide) (fun c_844 => ?_) (fun c_844 => ?_)
        · have hc_845 : 6 < x_843.toInt := by have h9 := Int32.lt_iff_toInt_lt.mp c_844; rw [show (6 : Int32).toInt = 6 from by decide] at h9; exact h9
          have g_846 : gi x_843 7 1600 := gi_lt_r c_844 (gi_c 6 6 (by decide)) gx_843 (by decide)
          refine lv_aload_n hx hb dX12_readsPlace_68 rfl (lv_at hl 0 rfl) ?_
          refine lv_iconst (v := 2) hx hb dX12_readsPlace_69 (by decide) ?_
          have hPc := hP.sub (ws' := [(h0, .inr (12, fsMM (upd (upd (upd (upd (upd (upd (upd mi 27 y_822) 28 y_823) 29 y_824) 30 y_825) 31 y_826) 32 y_827) 33 y_828) mr))]) [0] rfl
          have hKc := hK.sub (tys' := []) [] rfl
          have hDc := hD.sub (ws' := [(h0, .inr (12, fsMM (upd (upd (upd (upd (upd (upd (upd mi 27 y_822) 28 y_823) 29 y_824) 30 y_825) 31 y_826) 32 y_827) 33 y_828) mr))]) [0] (by decide) rfl
          have hFc := va_free (wc := [(h0, .inr (12, fsMM (upd (upd (upd (upd (upd (upd (upd mi 27 y_822) 28 y_823) 29 y_824) 30 y_825) 31 y_826) 32 y_827) 33 y_828) mr))]) hD hS hA [0] rfl
          refine va_callv (va_runV (As := [.int 2]) (rest := []) ⟨hx, hb, hml, hown, hts⟩ (sX12_faultsP l dC dI H.size h0 (upd (upd (upd (upd (upd (upd (upd mi 27 y_822) 28 y_823) 29 y_824) 30 y_825) 31 y_826) 32 y_827) 33 y_828) mr 2 gmi_0 gmi_1 gmi_2 gmi_4 (gi_w g_820 (by decide)) gmi_10 gmi_17 gmi_23 gmi_24 gmi_26 gy_824 gy_825 gy_827 (gi_w g_835 (by decide)) gmi_37 gmi_41 gmi_50 gmi_51 gmi_56) (cwV 1 hts (gz_gV mGB_165 mGB_166 mGB_167 mGB_1 mGB_168 goodGB) rfl rfl rfl (by decide +kernel) ⟨Nat.le_of_ble_eq_true rfl, Nat.le_of_ble_eq_true rfl⟩) ⟨fun a U g mk q => by obtain ⟨q0, q1, qP, qK, qD⟩ := q; exact ⟨q0, q1, qP, va_K.moved (u := U) (U := U.calling g mk a) (Vm.Alike.refl U.vm) qK, qD⟩, va_recv hKc hPc (ci := 12) (q0 := 0) rfl rfl, fun U hU hW => ⟨rfl, by rw [hU], by rw [hU]; exact hPc, va_K.moved hW.alike hKc, hDc.weaken (fun _ _ _ _ => trivial)⟩⟩ rfl rfl hl.1 rfl (lv_room (Nat.le_of_ble_eq_true rfl)) dX12_readsPlace_70 ⟨Nat.zero_le _, Nat.zero_le _⟩) hS (fun q _ h => hFc q h) hFc (fun u t H1 locs ht hvm hw hB hz1 hk1 hS => ?_)
          obtain ⟨y_848, y_849, y_850, gy_850, hpr0_r_847, hP1, hD1⟩ := hB
          rw [ht] at hP1
          obtain ⟨hP, hD⟩ := va_join (wr := [((mr 13), .inl (km_tape, 1600, .inl fm_tape)), ((mr 1), .inl (km_letter, 36, .inl fm_letter)), ((mr 0), .inl (km_trust, 6, .inl fm_trust))]) (w1 := [(h0, .inr (12, fsMM (upd (upd (upd (upd (upd (upd (upd mi 27 y_848) 28 y_849) 29 y_824) 30 y_825) 31 y_826) 32 y_827) 33 y_850) mr))]) hP hD [0] [1, 2, 3] rfl rfl (by decide) (by decide) hk1 hFc hP1 hD1
          have hpr0_r_847 : y_850.toInt = 1 := hpr0_r_847
          have g_851 : gi y_850 1 1 := ⟨by omega, by omega⟩
          have hP := hP.sub (ws' := [(h0, .inr (12, fsMM (upd (upd (upd (upd (upd (upd (upd mi 27 y_848) 28 y_849) 29 y_824) 30 y_825) 31 y_826) 32 y_827) 33 y_850) mr)), ((mr 13), .inl (km_tape, 1600, .inl fm_tape)), ((mr 1), .inl (km_letter, 36, .inl fm_letter)), ((mr 0), .inl (km_trust, 6, .inl fm_trust))]) [3, 0, 1, 2] rfl
          have hD := hD.sub (ws' := [(h0, .inr (12, fsMM (upd (upd (upd (upd (upd (upd (upd mi 27 y_848) 28 y_849) 29 y_824) 30 y_825) 31 y_826) 32 y_827) 33 y_850) mr)), ((mr 13), .inl (km_tape, 1600, .inl fm_tape)), ((mr 1), .inl (km_letter, 36, .inl fm_letter)), ((mr 0), .inl (km_trust, 6, .inl fm_trust))]) [3, 0, 1, 2] (by decide) rfl
          generalize H1 = H at hP hS ⊢
          refine lv_aload_n hx hb dX12_readsPlace_73 rfl (lv_at hl 0 rfl) ?_
          refine va_get (D := (dC, dI)) (ci := 12) (v := .int y_850) (C := RX12) (T := TX12) (N := 57) hx hb hts (fun w h => List.mem_cons_of_mem _ (jnGB_X12 w h)) hown hK hP 0 rfl rfl 33 (by decide) (hts _ (List.mem_cons_of_mem _ mGB_114)) (fun _ h9 => h9) rfl dX12_readsPlace_74 ?_
          refine lv_if_eq (tgt := 81) hx hb dX12_readsPlace_77 (by decide) (fun c_852 => absurd c_852 (gi_no_eq g_851 (gi_c 0 0 (by decide)) (by decide))) (fun c_852 => ?_)
          exact W.vret hx hb hr (fun t ht hW => ⟨⟨(), rfl, trivial, (mi 7), y_848, y_849, y_824, y_825, y_826, y_827, y_850, fm_letter, fm_trust, (gi_w g_820 (by decide)), gy_824, gy_825, gy_827, (gi_w g_851 (by decide)), hpr0_r_821, hpr1_r_821, hpr2_r_821, (Hid.un hpr3_r_821), (show (mi 33).toInt ≤ y_850.toInt from by have qgy_850 := g_851.1; have rgy_850 := g_851.2; have qgy_828 := g_835.1; have rgy_828 := g_835.2; have qgy_826 := g_840.1; have rgy_826 := g_840.2; have qgy_825 := gy_825.1; have rgy_825 := gy_825.2; have qgy_824 := gy_824.1; have rgy_824 := gy_824.2; have qgx_843 := g_846.1; have rgx_843 := g_846.2; have qgmi_7 := g_820.1; have rgmi_7 := g_820.2; have qgmi_33 := g_836.1; have rgmi_33 := g_836.2; have qgmi_30 := gmi_30.1; have rgmi_30 := gmi_30.2; have qgmi_29 := gmi_29.1; have rgmi_29 := gmi_29.2; have qgmi_26 := gmi_26.1; have rgmi_26 := gmi_26.2; omega), by rw [ht]; exact hP, hD⟩, hS.F ht⟩) hS.2.2 dX12_readsPlace_80
        · have hc_853 : x_843.toInt ≤ 6 := by have h9 := Int32.le_iff_toInt_le.mp (Int32.not_lt.mp c_844); rw [show (6 : Int32).toInt = 6 from by decide] at h9; exact h9
          have g_854 : gi x_843 0 6 := gi_le_l (Int32.not_lt.mp c_844) gx_843 (gi_c 6 6 (by decide))
          refine lv_aload_n hx hb dX12_readsPlace_60 rfl (lv_at hl 0 rfl) ?_
          have hPc := hP.sub (ws' := [(h0, .inr (12, fsMM (upd (upd (upd (upd (upd (upd (upd mi 27 y_822) 28 y_823) 29 y_824) 30 y_825) 31 y_826) 32 y_827) 33 y_828) mr)), ((mr 13), .inl (km_tape, 1600, .inl fm_tape)), ((mr 1), .inl (km_letter, 36, .inl fm_letter))]) [0, 1, 2] rfl
          have hKc := hK.sub (tys' := [(km_tape, .int), (km_letter, .int)]) [0, 1] rfl
          refine va_calli (va_runV (As := []) (rest := []) ⟨hx, hb, hml, hown, hts⟩ (sX12_namedP l dC dI h0 (upd (upd (upd (upd (upd (upd (upd mi 27 y_822) 28 y_823) 29 y_824) 30 y_825) 31 y_826) 32 y_827) 33 y_828) mr km_tape fm_tape km_letter fm_letter gmi_0 gmi_1 gmi_2 gmi_4 (gi_w g_820 (by decide)) gmi_10 gmi_17 gmi_23 gmi_24 gmi_26 gy_824 gy_825 gy_827 (gi_w g_835 (by decide)) gmi_37 gmi_41 gmi_50 gmi_51 gmi_56 (show y_825.toInt ≤ y_824.toInt from by have qgy_828 := g_835.1; have rgy_828 := g_835.2; have qgy_826 := g_840.1; have rgy_826 := g_840.2; have qgy_825 := gy_825.1; have rgy_825 := gy_825.2; have qgy_824 := gy_824.1; have rgy_824 := gy_824.2; have qgx_843 := g_854.1; have rgx_843 := g_854.2; have qgmi_7 := g_820.1; have rgmi_7 := g_820.2; have qgmi_33 := g_836.1; have rgmi_33 := g_836.2; have qgmi_30 := gmi_30.1; have rgmi_30 := gmi_30.2; have qgmi_29 := gmi_29.1; have rgmi_29 := gmi_29.2; have qgmi_26 := gmi_26.1; have rgmi_26 := gmi_26.2; omega) (show y_824.toInt ≤ (mi 26).toInt from by have qgy_828 := g_835.1; have rgy_828 := g_835.2; have qgy_826 := g_840.1; have rgy_826 := g_840.2; have qgy_825 := gy_825.1; have rgy_825 := gy_825.2; have qgy_824 := gy_824.1; have rgy_824 := gy_824.2; have qgx_843 := g_854.1; have rgx_843 := g_854.2; have qgmi_7 := g_820.1; have rgmi_7 := g_820.2; have qgmi_33 := g_836.1; have rgmi_33 := g_836.2; have qgmi_30 := gmi_30.1; have rgmi_30 := gmi_30.2; have qgmi_29 := gmi_29.1; have rgmi_29 := gmi_29.2; have qgmi_26 := gmi_26.1; have rgmi_26 := gmi_26.2; omega) (show (y_826.toInt = 0 ∨ y_825.toInt < y_824.toInt) from by have qgy_828 := g_835.1; have rgy_828 := g_835.2; have qgy_826 := g_840.1; have rgy_826 := g_840.2; have qgy_825 := gy_825.1; have rgy_825 := gy_825.2; have qgy_824 := gy_824.1; have rgy_824 := gy_824.2; have qgx_843 := g_854.1; have rgx_843 := g_854.2; have qgmi_7 := g_820.1; have rgmi_7 := g_820.2; have qgmi_33 := g_836.1; have rgmi_33 := g_836.2; have qgmi_30 := gmi_30.1; have rgmi_30 := gmi_30.2; have qgmi_29 := gmi_29.1; have rgmi_29 := gmi_29.2; have qgmi_26 := gmi_26.1; have rgmi_26 := gmi_26.2; omega)) (cwV 0 hts (gz_gV mGB_190 mGB_191 mGB_192 mGB_1 mGB_193 goodGB) rfl rfl rfl (by decide +kernel) ⟨Nat.le_of_ble_eq_true rfl, Nat.le_of_ble_eq_true rfl⟩) ⟨fun a U g mk q => by obtain ⟨q0, qP, qK⟩ := q; exact ⟨q0, qP, va_K.moved (u := U) (U := U.calling g mk a) (Vm.Alike.refl U.vm) qK⟩, va_recv hKc hPc (ci := 12) (q0 := 0) rfl rfl, fun U hU hW => ⟨rfl, by rw [hU]; exact hPc, va_K.moved hW.alike hKc⟩⟩ rfl rfl hl.1 rfl (lv_room (Nat.le_of_ble_eq_true rfl)) dX12_readsPlace_61 ⟨Nat.zero_le _, Nat.zero_le _⟩) hS (fun q _ h => h.elim) (fun q h => h.elim) (fun r_855 u t H1 locs ht hvm hw hB hz1 hk1 hS => ?_)
          have hP := gz_keep hP hk1
          generalize H1 = H at hP hS ⊢
          have gr_855 : gi r_855 (-1) 5 := hw
          refine lv_iconst (v := (-1)) hx hb dX12_readsPlace_64 (by decide) ?_
          refine lv_icmp_eq (tgt := 73) hx hb dX12_readsPlace_65 (by decide) (fun c_856 => ?_) (fun c_856 => ?_)
          · have hc_857 : r_855.toInt = (-1) := by have h9 := congrArg Int32.toInt c_856; rw [show ((-1) : Int32).toInt = (-1) from by decide] at h9; exact h9
            have g_858 : gi r_855 (-1) (-1) := gi_eq c_856 (gi_c (-1) (-1) (by decide))
            refine lv_aload_n hx hb dX12_readsPlace_73 rfl (lv_at hl 0 rfl) ?_
            refine va_get (D := (dC, dI)) (ci := 12) (v := .int y_828) (C := RX12) (T := TX12) (N := 57) hx hb hts (fun w h => List.mem_cons_of_mem _ (jnGB_X12 w h)) hown hK hP 0 rfl rfl 33 (by decide) (hts _ (List.mem_cons_of_mem _ mGB_114)) (fun _ h9 => h9) rfl dX12_readsPlace_74 ?_
            refine lv_if_eq (tgt := 81) hx hb dX12_readsPlace_77 (by decide) (fun c_859 => ?_) (fun c_859 => absurd (gi_is_eq g_835 (gi_c 0 0 (by decide))) c_859)
            refine lv_iconst (v := 0) hx hb dX12_readsPlace_81 (by decide) ?_
            refine lv_istore_n (lv' := [(1, .int 0), (0, .ref h0)]) hx hb dX12_readsPlace_82 rfl hl (by decide) rfl (fun ls hl => ?_)
            refine (lp_sX12_readsPlaceP h0 mi mr km_tape fm_tape km_letter fm_letter km_trust fm_trust sa sb zf gmi_0 gmi_1 gmi_2 gmi_4 gmi_7 gmi_10 gmi_17 gmi_23 gmi_24 gmi_26 gmi_29 gmi_30 gmi_32 gmi_33 gmi_37 gmi_41 gmi_50 gmi_51 gmi_56 hpq0 hpq1 hpq2 hx hb hml hown hts hK hT hA (Nat.le_of_ble_eq_true rfl) (Nat.le_of_ble_eq_true rfl) (Nat.zero_le _) (Nat.zero_le _) (fun w0_7 w0_27 w0_28 w0_29 w0_30 w0_31 w0_32 w0_33 z2 z3 H locs ls gw0_7 gw0_29 gw0_30 gw0_32 gw0_33 hpr0 hpr1 hpr2 hpr3 hpr4 hP hD hS hl => ?_) (fun w0_7 w0_27 w0_28 w0_29 w0_30 w0_31 w0_32 w0_33 z2 z3 H locs ls gw0_7 gw0_29 gw0_30 gw0_32 gw0_33 hpr0 hpr1 hpr2 hpr3 hpr4 hP hD hS hl => ?_) 26) 0 y_822 y_823 y_824 y_825 y_826 y_827 y_828 fm_letter _ _ _ (gi_w (gi_c 0 0 (by decide)) (by decide)) gy_824 gy_825 gy_827 (gi_w g_835 (by decide)) hpr0_r_821 hpr1_r_821 hpr2_r_821 (Hid.un hpr3_r_821) hpr4_r_821 (show (mi 7).toInt ≤ 5 from by have qgy_828 := g_835.1; have rgy_828 := g_835.2; have qgy_826 := g_840.1; have rgy_826 := g_840.2; have qgy_825 := gy_825.1; have rgy_825 := gy_825.2; have qgy_824 := gy_824.1; have rgy_824 := gy_824.2; have qgx_843 := g_854.1; have rgx_843 := g_854.2; have qgr_855 := g_858.1; have rgr_855 := g_858.2; have qgmi_7 := g_820.1; have rgmi_7 := g_820.2; have qgmi_33 := g_836.1; have rgmi_33 := g_836.2; have qgmi_30 := gmi_30.1; have rgmi_30 := gmi_30.2; have qgmi_29 := gmi_29.1; have rgmi_29 := gmi_29.2; have qgmi_26 := gmi_26.1; have rgmi_26 := gmi_26.2; omega) (by have k0 : (0 : Int32).toInt = 0 := (by decide); omega) hP hD hS (lv_sub hl [1, 0] rfl)
            · skip
              exact W.vret hx hb hr (fun t ht hW => ⟨⟨(), rfl, trivial, w0_7, w0_27, w0_28, w0_29, w0_30, w0_31, w0_32, w0_33, z2, z3, gw0_7, gw0_29, gw0_30, gw0_32, gw0_33, hpr0, hpr1, hpr2, hpr3, hpr4, by rw [ht]; exact hP, hD⟩, hS.F ht⟩) hS.2.2 dX12_readsPlace_80
            · skip
              exact W.vret hx hb hr (fun t ht hW => ⟨⟨(), rfl, trivial, w0_7, w0_27, w0_28, w0_29, w0_30, w0_31, w0_32, w0_33, z2, z3, gw0_7, gw0_29, gw0_30, gw0_32, gw0_33, hpr0, hpr1, hpr2, hpr3, hpr4, by rw [ht]; exact hP, hD⟩, hS.F ht⟩) hS.2.2 dX12_readsPlace_169
          · have hc_860 : r_855.toInt ≠ (-1) := fun h9 => c_856 (Int32.toInt_inj.mp (by rw [show ((-1) : Int32).toInt = (-1) from by decide]; exact h9))
            have g_861 : gi r_855 0 5 := gi_ne_lo c_856 gr_855 (gi_c (-1) (-1) (by decide)) (by decide)
            refine lv_aload_n hx hb dX12_readsPlace_68 rfl (lv_at hl 0 rfl) ?_
            refine lv_iconst (v := 2) hx hb dX12_readsPlace_69 (by decide) ?_
            have hPc := hP.sub (ws' := [(h0, .inr (12, fsMM (upd (upd (upd (upd (upd (upd (upd mi 27 y_822) 28 y_823) 29 y_824) 30 y_825) 31 y_826) 32 y_827) 33 y_828) mr))]) [0] rfl
            have hKc := hK.sub (tys' := []) [] rfl
            have hDc := hD.sub (ws' := [(h0, .inr (12, fsMM (upd (upd (upd (upd (upd (upd (upd mi 27 y_822) 28 y_823) 29 y_824) 30 y_825) 31 y_826) 32 y_827) 33 y_828) mr))]) [0] (by decide) rfl
            have hFc := va_free (wc := [(h0, .inr (12, fsMM (upd (upd (upd (upd (upd (upd (upd mi 27 y_822) 28 y_823) 29 y_824) 30 y_825) 31 y_826) 32 y_827) 33 y_828) mr))]) hD hS hA [0] rfl
            refine va_callv (va_runV (As := [.int 2]) (rest := []) ⟨hx, hb, hml, hown, hts⟩ (sX12_faultsP l dC dI H.size h0 (upd (upd (upd (upd (upd (upd (upd mi 27 y_822) 28 y_823) 29 y_824) 30 y_825) 31 y_826) 32 y_827) 33 y_828) mr 2 gmi_0 gmi_1 gmi_2 gmi_4 (gi_w g_820 (by decide)) gmi_10 gmi_17 gmi_23 gmi_24 gmi_26 gy_824 gy_825 gy_827 (gi_w g_835 (by decide)) gmi_37 gmi_41 gmi_50 gmi_51 gmi_56) (cwV 1 hts (gz_gV mGB_165 mGB_166 mGB_167 mGB_1 mGB_168 goodGB) rfl rfl rfl (by decide +kernel) ⟨Nat.le_of_ble_eq_true rfl, Nat.le_of_ble_eq_true rfl⟩) ⟨fun a U g mk q => by obtain ⟨q0, q1, qP, qK, qD⟩ := q; exact ⟨q0, q1, qP, va_K.moved (u := U) (U := U.calling g mk a) (Vm.Alike.refl U.vm) qK, qD⟩, va_recv hKc hPc (ci := 12) (q0 := 0) rfl rfl, fun U hU hW => ⟨rfl, by rw [hU], by rw [hU]; exact hPc, va_K.moved hW.alike hKc, hDc.weaken (fun _ _ _ _ => trivial)⟩⟩ rfl rfl hl.1 rfl (lv_room (Nat.le_of_ble_eq_true rfl)) dX12_readsPlace_70 ⟨Nat.zero_le _, Nat.zero_le _⟩) hS (fun q _ h => hFc q h) hFc (fun u t H1 locs ht hvm hw hB hz1 hk1 hS => ?_)
            obtain ⟨y_863, y_864, y_865, gy_865, hpr0_r_862, hP1, hD1⟩ := hB
            rw [ht] at hP1
            obtain ⟨hP, hD⟩ := va_join (wr := [((mr 13), .inl (km_tape, 1600, .inl fm_tape)), ((mr 1), .inl (km_letter, 36, .inl fm_letter)), ((mr 0), .inl (km_trust, 6, .inl fm_trust))]) (w1 := [(h0, .inr (12, fsMM (upd (upd (upd (upd (upd (upd (upd mi 27 y_863) 28 y_864) 29 y_824) 30 y_825) 31 y_826) 32 y_827) 33 y_865) mr))]) hP hD [0] [1, 2, 3] rfl rfl (by decide) (by decide) hk1 hFc hP1 hD1
            have hpr0_r_862 : y_865.toInt = 1 := hpr0_r_862
            have g_866 : gi y_865 1 1 := ⟨by omega, by omega⟩
            have hP := hP.sub (ws' := [(h0, .inr (12, fsMM (upd (upd (upd (upd (upd (upd (upd mi 27 y_863) 28 y_864) 29 y_824) 30 y_825) 31 y_826) 32 y_827) 33 y_865) mr)), ((mr 13), .inl (km_tape, 1600, .inl fm_tape)), ((mr 1), .inl (km_letter, 36, .inl fm_letter)), ((mr 0), .inl (km_trust, 6, .inl fm_trust))]) [3, 0, 1, 2] rfl
            have hD := hD.sub (ws' := [(h0, .inr (12, fsMM (upd (upd (upd (upd (upd (upd (upd mi 27 y_863) 28 y_864) 29 y_824) 30 y_825) 31 y_826) 32 y_827) 33 y_865) mr)), ((mr 13), .inl (km_tape, 1600, .inl fm_tape)), ((mr 1), .inl (km_letter, 36, .inl fm_letter)), ((mr 0), .inl (km_trust, 6, .inl fm_trust))]) [3, 0, 1, 2] (by decide) rfl
            generalize H1 = H at hP hS ⊢
            refine lv_aload_n hx hb dX12_readsPlace_73 rfl (lv_at hl 0 rfl) ?_
            refine va_get (D := (dC, dI)) (ci := 12) (v := .int y_865) (C := RX12) (T := TX12) (N := 57) hx hb hts (fun w h => List.mem_cons_of_mem _ (jnGB_X12 w h)) hown hK hP 0 rfl rfl 33 (by decide) (hts _ (List.mem_cons_of_mem _ mGB_114)) (fun _ h9 => h9) rfl dX12_readsPlace_74 ?_
            refine lv_if_eq (tgt := 81) hx hb dX12_readsPlace_77 (by decide) (fun c_867 => absurd c_867 (gi_no_eq g_866 (gi_c 0 0 (by decide)) (by decide))) (fun c_867 => ?_)
            exact W.vret hx hb hr (fun t ht hW => ⟨⟨(), rfl, trivial, (mi 7), y_863, y_864, y_824, y_825, y_826, y_827, y_865, fm_letter, fm_trust, (gi_w g_820 (by decide)), gy_824, gy_825, gy_827, (gi_w g_866 (by decide)), hpr0_r_821, hpr1_r_821, hpr2_r_821, (Hid.un hpr3_r_821), (show (mi 33).toInt ≤ y_865.toInt from by have qgy_865 := g_866.1; have rgy_865 := g_866.2; have qgy_828 := g_835.1; have rgy_828 := g_835.2; have qgy_826 := g_840.1; have rgy_826 := g_840.2; have qgy_825 := gy_825.1; have rgy_825 := gy_825.2; have qgy_824 := gy_824.1; have rgy_824 := gy_824.2; have qgx_843 := g_854.1; have rgx_843 := g_854.2; have qgr_855 := g_861.1; have rgr_855 := g_861.2; have qgmi_7 := g_820.1; have rgmi_7 := g_820.2; have qgmi_33 := g_836.1; have rgmi_33 := g_836.2; have qgmi_30 := gmi_30.1; have rgmi_30 := gmi_30.2; have qgmi_29 := gmi_29.1; have rgmi_29 := gmi_29.2; have qgmi_26 := gmi_26.1; have rgmi_26 := gmi_26.2; omega), by rw [ht]; exact hP, hD⟩, hS.F ht⟩) hS.2.2 dX12_readsPlace_80
      · have hc_868 : y_826.toInt ≠ 1 := fun h9 => c_838 (Int32.toInt_inj.mp (by rw [show (1 : Int32).toInt = 1 from by decide]; exact h9))
        refine lv_aload_n hx hb dX12_readsPlace_34 rfl (lv_at hl 0 rfl) ?_
        refine lv_iconst (v := 1) hx hb dX12_readsPlace_35 (by decide) ?_
        have hPc := hP.sub (ws' := [(h0, .inr (12, fsMM (upd (upd (upd (upd (upd (upd (upd mi 27 y_822) 28 y_823) 29 y_824) 30 y_825) 31 y_826) 32 y_827) 33 y_828) mr))]) [0] rfl
        have hKc := hK.sub (tys' := []) [] rfl
        have hDc := hD.sub (ws' := [(h0, .inr (12, fsMM (upd (upd (upd (upd (upd (upd (upd mi 27 y_822) 28 y_823) 29 y_824) 30 y_825) 31 y_826) 32 y_827) 33 y_828) mr))]) [0] (by decide) rfl
        have hFc := va_free (wc := [(h0, .inr (12, fsMM (upd (upd (upd (upd (upd (upd (upd mi 27 y_822) 28 y_823) 29 y_824) 30 y_825) 31 y_826) 32 y_827) 33 y_828) mr))]) hD hS hA [0] rfl
        refine va_callv (va_runV (As := [.int 1]) (rest := []) ⟨hx, hb, hml, hown, hts⟩ (sX12_faultsP l dC dI H.size h0 (upd (upd (upd (upd (upd (upd (upd mi 27 y_822) 28 y_823) 29 y_824) 30 y_825) 31 y_826) 32 y_827) 33 y_828) mr 1 gmi_0 gmi_1 gmi_2 gmi_4 (gi_w g_820 (by decide)) gmi_10 gmi_17 gmi_23 gmi_24 gmi_26 gy_824 gy_825 gy_827 (gi_w g_835 (by decide)) gmi_37 gmi_41 gmi_50 gmi_51 gmi_56) (cwV 1 hts (gz_gV mGB_165 mGB_166 mGB_167 mGB_1 mGB_168 goodGB) rfl rfl rfl (by decide +kernel) ⟨Nat.le_of_ble_eq_true rfl, Nat.le_of_ble_eq_true rfl⟩) ⟨fun a U g mk q => by obtain ⟨q0, q1, qP, qK, qD⟩ := q; exact ⟨q0, q1, qP, va_K.moved (u := U) (U := U.calling g mk a) (Vm.Alike.refl U.vm) qK, qD⟩, va_recv hKc hPc (ci := 12) (q0 := 0) rfl rfl, fun U hU hW => ⟨rfl, by rw [hU], by rw [hU]; exact hPc, va_K.moved hW.alike hKc, hDc.weaken (fun _ _ _ _ => trivial)⟩⟩ rfl rfl hl.1 rfl (lv_room (Nat.le_of_ble_eq_true rfl)) dX12_readsPlace_36 ⟨Nat.zero_le _, Nat.zero_le _⟩) hS (fun q _ h => hFc q h) hFc (fun u t H1 locs ht hvm hw hB hz1 hk1 hS => ?_)
        obtain ⟨y_870, y_871, y_872, gy_872, hpr0_r_869, hP1, hD1⟩ := hB
        rw [ht] at hP1
        obtain ⟨hP, hD⟩ := va_join (wr := [((mr 13), .inl (km_tape, 1600, .inl fm_tape)), ((mr 1), .inl (km_letter, 36, .inl fm_letter)), ((mr 0), .inl (km_trust, 6, .inl fm_trust))]) (w1 := [(h0, .inr (12, fsMM (upd (upd (upd (upd (upd (upd (upd mi 27 y_870) 28 y_871) 29 y_824) 30 y_825) 31 y_826) 32 y_827) 33 y_872) mr))]) hP hD [0] [1, 2, 3] rfl rfl (by decide) (by decide) hk1 hFc hP1 hD1
        have hpr0_r_869 : y_872.toInt = 1 := hpr0_r_869
        have g_873 : gi y_872 1 1 := ⟨by omega, by omega⟩
        have hP := hP.sub (ws' := [(h0, .inr (12, fsMM (upd (upd (upd (upd (upd (upd (upd mi 27 y_870) 28 y_871) 29 y_824) 30 y_825) 31 y_826) 32 y_827) 33 y_872) mr)), ((mr 13), .inl (km_tape, 1600, .inl fm_tape)), ((mr 1), .inl (km_letter, 36, .inl fm_letter)), ((mr 0), .inl (km_trust, 6, .inl fm_trust))]) [3, 0, 1, 2] rfl
        have hD := hD.sub (ws' := [(h0, .inr (12, fsMM (upd (upd (upd (upd (upd (upd (upd mi 27 y_870) 28 y_871) 29 y_824) 30 y_825) 31 y_826) 32 y_827) 33 y_872) mr)), ((mr 13), .inl (km_tape, 1600, .inl fm_tape)), ((mr 1), .inl (km_letter, 36, .inl fm_letter)), ((mr 0), .inl (km_trust, 6, .inl fm_trust))]) [3, 0, 1, 2] (by decide) rfl
        generalize H1 = H at hP hS ⊢
        refine lv_aload_n hx hb dX12_readsPlace_39 rfl (lv_at hl 0 rfl) ?_
        refine va_get (D := (dC, dI)) (ci := 12) (v := .int y_872) (C := RX12) (T := TX12) (N := 57) hx hb hts (fun w h => List.mem_cons_of_mem _ (jnGB_X12 w h)) hown hK hP 0 rfl rfl 33 (by decide) (hts _ (List.mem_cons_of_mem _ mGB_114)) (fun _ h9 => h9) rfl dX12_readsPlace_40 ?_
        refine lv_if_ne (tgt := 73) hx hb dX12_readsPlace_43 (by decide) (fun c_874 => ?_) (fun c_874 => absurd c_874 (gi_no_eq g_873 (gi_c 0 0 (by decide)) (by decide)))
        refine lv_aload_n hx hb dX12_readsPlace_73 rfl (lv_at hl 0 rfl) ?_
        refine va_get (D := (dC, dI)) (ci := 12) (v := .int y_872) (C := RX12) (T := TX12) (N := 57) hx hb hts (fun w h => List.mem_cons_of_mem _ (jnGB_X12 w h)) hown hK hP 0 rfl rfl 33 (by decide) (hts _ (List.mem_cons_of_mem _ mGB_114)) (fun _ h9 => h9) rfl dX12_readsPlace_74 ?_
        refine lv_if_eq (tgt := 81) hx hb dX12_readsPlace_77 (by decide) (fun c_875 => absurd c_875 (gi_no_eq g_873 (gi_c 0 0 (by decide)) (by decide))) (fun c_875 => ?_)
        exact W.vret hx hb hr (fun t ht hW => ⟨⟨(), rfl, trivial, (mi 7), y_870, y_871, y_824, y_825, y_826, y_827, y_872, fm_letter, fm_trust, (gi_w g_820 (by decide)), gy_824, gy_825, gy_827, (gi_w g_873 (by decide)), hpr0_r_821, hpr1_r_821, hpr2_r_821, (Hid.un hpr3_r_821), (show (mi 33).toInt ≤ y_872.toInt from by have qgy_872 := g_873.1; have rgy_872 := g_873.2; have qgy_828 := g_835.1; have rgy_828 := g_835.2; have qgy_825 := gy_825.1; have rgy_825 := gy_825.2; have qgy_824 := gy_824.1; have rgy_824 := gy_824.2; have qgmi_7 := g_820.1; have rgmi_7 := g_820.2; have qgmi_33 := g_836.1; have rgmi_33 := g_836.2; have qgmi_30 := gmi_30.1; have rgmi_30 := gmi_30.2; have qgmi_29 := gmi_29.1; have rgmi_29 := gmi_29.2; have qgmi_26 := gmi_26.1; have rgmi_26 := gmi_26.2; omega), by rw [ht]; exact hP, hD⟩, hS.F ht⟩) hS.2.2 dX12_readsPlace_80
  · have hc_876 : (mi 7).toInt = 6 := by have h9 := congrArg Int32.toInt c_818; rw [show (6 : Int32).toInt = 6 from by decide] at h9; exact h9
    have g_877 : gi (mi 7) 6 6 := gi_eq c_818 (gi_c 6 6 (by decide))
    refine lv_aload_n hx hb dX12_readsPlace_9 rfl (lv_at hl 0 rfl) ?_
    refine lv_iconst (v := 3) hx hb dX12_readsPlace_10 (by decide) ?_
    have hPc := hP.sub (ws' := [(h0, .inr (12, fsMM mi mr))]) [0] rfl
    have hKc := hK.sub (tys' := []) [] rfl
    have hDc := hD.sub (ws' := [(h0, .inr (12, fsMM mi mr))]) [0] (by decide) rfl
    have hFc := va_free (wc := [(h0, .inr (12, fsMM mi mr))]) hD hS hA [0] rfl
    refine va_callv (va_runV (As := [.int 3]) (rest := []) ⟨hx, hb, hml, hown, hts⟩ (sX12_faultsP l dC dI s.heap.size h0 mi mr 3 gmi_0 gmi_1 gmi_2 gmi_4 (gi_w g_877 (by decide)) gmi_10 gmi_17 gmi_23 gmi_24 gmi_26 gmi_29 gmi_30 gmi_32 gmi_33 gmi_37 gmi_41 gmi_50 gmi_51 gmi_56) (cwV 1 hts (gz_gV mGB_165 mGB_166 mGB_167 mGB_1 mGB_168 goodGB) rfl rfl rfl (by decide +kernel) ⟨Nat.le_of_ble_eq_true rfl, Nat.le_of_ble_eq_true rfl⟩) ⟨fun a U g mk q => by obtain ⟨q0, q1, qP, qK, qD⟩ := q; exact ⟨q0, q1, qP, va_K.moved (u := U) (U := U.calling g mk a) (Vm.Alike.refl U.vm) qK, qD⟩, va_recv hKc hPc (ci := 12) (q0 := 0) rfl rfl, fun U hU hW => ⟨rfl, by rw [hU], by rw [hU]; exact hPc, va_K.moved hW.alike hKc, hDc.weaken (fun _ _ _ _ => trivial)⟩⟩ rfl rfl hl.1 rfl (lv_room (Nat.le_of_ble_eq_true rfl)) dX12_readsPlace_11 ⟨Nat.zero_le _, Nat.zero_le _⟩) hS (fun q _ h => hFc q h) hFc (fun u t H1 locs ht hvm hw hB hz1 hk1 hS => ?_)
    obtain ⟨y_879, y_880, y_881, gy_881, hpr0_r_878, hP1, hD1⟩ := hB
    rw [ht] at hP1
    obtain ⟨hP, hD⟩ := va_join (wr := [((mr 13), .inl (km_tape, 1600, .inl fm_tape)), ((mr 1), .inl (km_letter, 36, .inl fm_letter)), ((mr 0), .inl (km_trust, 6, .inl fm_trust))]) (w1 := [(h0, .inr (12, fsMM (upd (upd (upd mi 27 y_879) 28 y_880) 33 y_881) mr))]) hP hD [0] [1, 2, 3] rfl rfl (by decide) (by decide) hk1 hFc hP1 hD1
    have hpr0_r_878 : y_881.toInt = 1 := hpr0_r_878
    have g_882 : gi y_881 1 1 := ⟨by omega, by omega⟩
    have hP := hP.sub (ws' := [(h0, .inr (12, fsMM (upd (upd (upd mi 27 y_879) 28 y_880) 33 y_881) mr)), ((mr 13), .inl (km_tape, 1600, .inl fm_tape)), ((mr 1), .inl (km_letter, 36, .inl fm_letter)), ((mr 0), .inl (km_trust, 6, .inl fm_trust))]) [3, 0, 1, 2] rfl
    have hD := hD.sub (ws' := [(h0, .inr (12, fsMM (upd (upd (upd mi 27 y_879) 28 y_880) 33 y_881) mr)), ((mr 13), .inl (km_tape, 1600, .inl fm_tape)), ((mr 1), .inl (km_letter, 36, .inl fm_letter)), ((mr 0), .inl (km_trust, 6, .inl fm_trust))]) [3, 0, 1, 2] (by decide) rfl
    generalize H1 = H at hP hS ⊢
    refine lv_aload_n hx hb dX12_readsPlace_14 rfl (lv_at hl 0 rfl) ?_
    refine lv_iconst (v := 1) hx hb dX12_readsPlace_15 (by decide) ?_
    have hPc := hP.sub (ws' := [(h0, .inr (12, fsMM (upd (upd (upd mi 27 y_879) 28 y_880) 33 y_881) mr)), ((mr 13), .inl (km_tape, 1600, .inl fm_tape))]) [0, 1] rfl
    have hKc := hK.sub (tys' := [(km_tape, .int)]) [0] rfl
    have hDc := hD.sub (ws' := [(h0, .inr (12, fsMM (upd (upd (upd mi 27 y_879) 28 y_880) 33 y_881) mr)), ((mr 13), .inl (km_tape, 1600, .inl fm_tape))]) [0, 1] (by decide) rfl
    have hFc := va_free (wc := [(h0, .inr (12, fsMM (upd (upd (upd mi 27 y_879) 28 y_880) 33 y_881) mr)), ((mr 13), .inl (km_tape, 1600, .inl fm_tape))]) hD hS hA [0, 1] rfl
    refine va_callv (va_runV (As := [.int 1]) (rest := []) ⟨hx, hb, hml, hown, hts⟩ (sX12_passesP l dC dI H.size h0 (upd (upd (upd mi 27 y_879) 28 y_880) 33 y_881) mr km_tape fm_tape 1 gmi_0 gmi_1 gmi_2 gmi_4 (gi_w g_877 (by decide)) gmi_10 gmi_17 gmi_23 gmi_24 gmi_26 gmi_29 gmi_30 gmi_32 (gi_w g_882 (by decide)) gmi_37 gmi_41 gmi_50 gmi_51 gmi_56 (gi_w (gi_c 1 1 (by decide)) (by decide)) (show (mi 30).toInt ≤ (mi 29).toInt from by have qgy_881 := g_882.1; have rgy_881 := g_882.2; have qgmi_7 := g_877.1; have rgmi_7 := g_877.2; have qgmi_30 := gmi_30.1; have rgmi_30 := gmi_30.2; have qgmi_29 := gmi_29.1; have rgmi_29 := gmi_29.2; have qgmi_26 := gmi_26.1; have rgmi_26 := gmi_26.2; omega) (show (mi 29).toInt ≤ (mi 26).toInt from by have qgy_881 := g_882.1; have rgy_881 := g_882.2; have qgmi_7 := g_877.1; have rgmi_7 := g_877.2; have qgmi_30 := gmi_30.1; have rgmi_30 := gmi_30.2; have qgmi_29 := gmi_29.1; have rgmi_29 := gmi_29.2; have qgmi_26 := gmi_26.1; have rgmi_26 := gmi_26.2; omega) (show ((mi 31).toInt = 0 ∨ (mi 30).toInt < (mi 29).toInt) from by have qgy_881 := g_882.1; have rgy_881 := g_882.2; have qgmi_7 := g_877.1; have rgmi_7 := g_877.2; have qgmi_30 := gmi_30.1; have rgmi_30 := gmi_30.2; have qgmi_29 := gmi_29.1; have rgmi_29 := gmi_29.2; have qgmi_26 := gmi_26.1; have rgmi_26 := gmi_26.2; omega)) (cwV 1 hts (gz_gV mGB_161 mGB_162 mGB_163 mGB_1 mGB_164 goodGB) rfl rfl rfl (by decide +kernel) ⟨Nat.le_of_ble_eq_true rfl, Nat.le_of_ble_eq_true rfl⟩) ⟨fun a U g mk q => by obtain ⟨q0, q1, qP, qK, qD⟩ := q; exact ⟨q0, q1, qP, va_K.moved (u := U) (U := U.calling g mk a) (Vm.Alike.refl U.vm) qK, qD⟩, va_recv hKc hPc (ci := 12) (q0 := 0) rfl rfl, fun U hU hW => ⟨rfl, by rw [hU], by rw [hU]; exact hPc, va_K.moved hW.alike hKc, hDc.weaken (fun _ _ _ _ => trivial)⟩⟩ rfl rfl hl.1 rfl (lv_room (Nat.le_of_ble_eq_true rfl)) dX12_readsPlace_16 ⟨Nat.zero_le _, Nat.zero_le _⟩) hS (fun q _ h => hFc q h) hFc (fun u t H1 locs ht hvm hw hB hz1 hk1 hS => ?_)
    obtain ⟨y_884, y_885, y_886, y_887, y_888, y_889, y_890, gy_886, gy_887, gy_889, gy_890, hpr0_r_883, hpr1_r_883, hpr2_r_883, hpr3_r_883, hpr4_r_883, hpr5_r_883, hpr6_r_883, hP1, hD1⟩ := hB
    rw [ht] at hP1
    obtain ⟨hP, hD⟩ := va_join (wr := [((mr 1), .inl (km_letter, 36, .inl fm_letter)), ((mr 0), .inl (km_trust, 6, .inl fm_trust))]) (w1 := [(h0, .inr (12, fsMM (upd (upd (upd (upd (upd (upd (upd mi 27 y_884) 28 y_885) 29 y_886) 30 y_887) 31 y_888) 32 y_889) 33 y_890) mr)), ((mr 13), .inl (km_tape, 1600, .inl fm_tape))]) hP hD [0, 1] [2, 3] rfl rfl (by decide) (by decide) hk1 hFc hP1 hD1
    have hpr0_r_883 : (mi 30).toInt ≤ y_887.toInt := hpr0_r_883
    have hpr1_r_883 : y_887.toInt ≤ y_886.toInt := hpr1_r_883
    have hpr2_r_883 : y_886.toInt ≤ (mi 26).toInt := hpr2_r_883
    have hpr3_r_883 : Hid ((y_888.toInt = 0 ∨ y_887.toInt < y_886.toInt)) := hpr3_r_883
    have hpr4_r_883 : y_881.toInt ≤ y_890.toInt := hpr4_r_883
    have g_891 : gi y_890 1 1 := gi_relL (show y_881.toInt ≤ y_890.toInt from by omega) g_882 gy_890
    have hpr5_r_883 : Hid (((1 : Int) = 1 ∨ y_890.toInt = 1)) := by have h9 : ((1 : Int32).toInt = 1 ∨ y_890.toInt = 1) := hpr5_r_883; rw [show (1 : Int32).toInt = 1 from by decide] at h9; exact h9
    have hpr6_r_883 : Hid ((y_890.toInt = 1 ∨ (mi 29).toInt ≤ y_887.toInt)) := hpr6_r_883
    have hP := hP.sub (ws' := [(h0, .inr (12, fsMM (upd (upd (upd (upd (upd (upd (upd mi 27 y_884) 28 y_885) 29 y_886) 30 y_887) 31 y_888) 32 y_889) 33 y_890) mr)), ((mr 13), .inl (km_tape, 1600, .inl fm_tape)), ((mr 1), .inl (km_letter, 36, .inl fm_letter)), ((mr 0), .inl (km_trust, 6, .inl fm_trust))]) [2, 3, 0, 1] rfl
    have hD := hD.sub (ws' := [(h0, .inr (12, fsMM (upd (upd (upd (upd (upd (upd (upd mi 27 y_884) 28 y_885) 29 y_886) 30 y_887) 31 y_888) 32 y_889) 33 y_890) mr)), ((mr 13), .inl (km_tape, 1600, .inl fm_tape)), ((mr 1), .inl (km_letter, 36, .inl fm_letter)), ((mr 0), .inl (km_trust, 6, .inl fm_trust))]) [2, 3, 0, 1] (by decide) rfl
    generalize H1 = H at hP hS ⊢
    refine lv_aload_n hx hb dX12_readsPlace_19 rfl (lv_at hl 0 rfl) ?_
    refine va_get (D := (dC, dI)) (ci := 12) (v := .int y_890) (C := RX12) (T := TX12) (N := 57) hx hb hts (fun w h => List.mem_cons_of_mem _ (jnGB_X12 w h)) hown hK hP 0 rfl rfl 33 (by decide) (hts _ (List.mem_cons_of_mem _ mGB_114)) (fun _ h9 => h9) rfl dX12_readsPlace_20 ?_
    refine lv_if_ne (tgt := 39) hx hb dX12_readsPlace_23 (by decide) (fun c_892 => ?_) (fun c_892 => absurd c_892 (gi_no_eq g_891 (gi_c 0 0 (by decide)) (by decide)))
    refine lv_aload_n hx hb dX12_readsPlace_39 rfl (lv_at hl 0 rfl) ?_
    refine va_get (D := (dC, dI)) (ci := 12) (v := .int y_890) (C := RX12) (T := TX12) (N := 57) hx hb hts (fun w h => List.mem_cons_of_mem _ (jnGB_X12 w h)) hown hK hP 0 rfl rfl 33 (by decide) (hts _ (List.mem_cons_of_mem _ mGB_114)) (fun _ h9 => h9) rfl dX12_readsPlace_40 ?_
    refine lv_if_ne (tgt := 73) hx hb dX12_readsPlace_43 (by decide) (fun c_893 => ?_) (fun c_893 => absurd c_893 (gi_no_eq g_891 (gi_c 0 0 (by decide)) (by decide)))
    refine lv_aload_n hx hb dX12_readsPlace_73 rfl (lv_at hl 0 rfl) ?_
    refine va_get (D := (dC, dI)) (ci := 12) (v := .int y_890) (C := RX12) (T := TX12) (N := 57) hx hb hts (fun w h => List.mem_cons_of_mem _ (jnGB_X12 w h)) hown hK hP 0 rfl rfl 33 (by decide) (hts _ (List.mem_cons_of_mem _ mGB_114)) (fun _ h9 => h9) rfl dX12_readsPlace_74 ?_
    refine lv_if_eq (tgt := 81) hx hb dX12_readsPlace_77 (by decide) (fun c_894 => absurd c_894 (gi_no_eq g_891 (gi_c 0 0 (by decide)) (by decide))) (fun c_894 => ?_)
    exact W.vret hx hb hr (fun t ht hW => ⟨⟨(), rfl, trivial, (mi 7), y_884, y_885, y_886, y_887, y_888, y_889, y_890, fm_letter, fm_trust, (gi_w g_877 (by decide)), gy_886, gy_887, gy_889, (gi_w g_891 (by decide)), hpr0_r_883, hpr1_r_883, hpr2_r_883, (Hid.un hpr3_r_883), (show (mi 33).toInt ≤ y_890.toInt from by have qgy_890 := g_891.1; have rgy_890 := g_891.2; have qgy_887 := gy_887.1; have rgy_887 := gy_887.2; have qgy_886 := gy_886.1; have rgy_886 := gy_886.2; have qgy_881 := g_882.1; have rgy_881 := g_882.2; have qgmi_7 := g_877.1; have rgmi_7 := g_877.2; have qgmi_33 := gmi_33.1; have rgmi_33 := gmi_33.2; have qgmi_30 := gmi_30.1; have rgmi_30 := gmi_30.2; have qgmi_29 := gmi_29.1; have rgmi_29 := gmi_29.2; have qgmi_26 := gmi_26.1; have rgmi_26 := gmi_26.2; omega), by rw [ht]; exact hP, hD⟩, hS.F ht⟩) hS.2.2 dX12_readsPlace_80
