theorem dX12_countsWith_0 : decode cX12_countsWith 0 = .ok (.iload_n 2, 1) := by decide +kernel
theorem dX12_countsWith_1 : decode cX12_countsWith 1 = .ok (.i2l, 1) := by decide +kernel
theorem dX12_countsWith_2 : decode cX12_countsWith 2 = .ok (.bipush 29, 2) := by decide +kernel
theorem dX12_countsWith_4 : decode cX12_countsWith 4 = .ok (.iload_n 1, 1) := by decide +kernel
theorem dX12_countsWith_5 : decode cX12_countsWith 5 = .ok (.imul, 1) := by decide +kernel
theorem dX12_countsWith_6 : decode cX12_countsWith 6 = .ok (.i2l, 1) := by decide +kernel
theorem dX12_countsWith_7 : decode cX12_countsWith 7 = .ok (.bipush 30, 2) := by decide +kernel
theorem dX12_countsWith_9 : decode cX12_countsWith 9 = .ok (.iload_n 1, 1) := by decide +kernel
theorem dX12_countsWith_10 : decode cX12_countsWith 10 = .ok (.imul, 1) := by decide +kernel
theorem dX12_countsWith_11 : decode cX12_countsWith 11 = .ok (.i2l, 1) := by decide +kernel
theorem dX12_countsWith_12 : decode cX12_countsWith 12 = .ok (.invokestatic 102, 3) := by decide +kernel
theorem dX12_countsWith_15 : decode cX12_countsWith 15 = .ok (.ifCond .eq 23, 3) := by decide +kernel
theorem dX12_countsWith_18 : decode cX12_countsWith 18 = .ok (.aload_n 0, 1) := by decide +kernel
theorem dX12_countsWith_19 : decode cX12_countsWith 19 = .ok (.getfield 63, 3) := by decide +kernel
theorem dX12_countsWith_22 : decode cX12_countsWith 22 = .ok (.iload_n 1, 1) := by decide +kernel
theorem dX12_countsWith_23 : decode cX12_countsWith 23 = .ok (.iaload, 1) := by decide +kernel
theorem dX12_countsWith_24 : decode cX12_countsWith 24 = .ok (.iconst (-1), 1) := by decide +kernel
theorem dX12_countsWith_25 : decode cX12_countsWith 25 = .ok (.if_icmp .eq 15, 3) := by decide +kernel
theorem dX12_countsWith_28 : decode cX12_countsWith 28 = .ok (.aload_n 0, 1) := by decide +kernel
theorem dX12_countsWith_29 : decode cX12_countsWith 29 = .ok (.getfield 63, 3) := by decide +kernel
theorem dX12_countsWith_32 : decode cX12_countsWith 32 = .ok (.iload_n 1, 1) := by decide +kernel
theorem dX12_countsWith_33 : decode cX12_countsWith 33 = .ok (.iaload, 1) := by decide +kernel
theorem dX12_countsWith_34 : decode cX12_countsWith 34 = .ok (.iload_n 2, 1) := by decide +kernel
theorem dX12_countsWith_35 : decode cX12_countsWith 35 = .ok (.if_icmp .eq 5, 3) := by decide +kernel
theorem dX12_countsWith_38 : decode cX12_countsWith 38 = .ok (.iconst 0, 1) := by decide +kernel
theorem dX12_countsWith_39 : decode cX12_countsWith 39 = .ok (.ireturn, 1) := by decide +kernel
theorem dX12_countsWith_40 : decode cX12_countsWith 40 = .ok (.aload_n 0, 1) := by decide +kernel
theorem dX12_countsWith_41 : decode cX12_countsWith 41 = .ok (.getfield 63, 3) := by decide +kernel
theorem dX12_countsWith_44 : decode cX12_countsWith 44 = .ok (.iload_n 1, 1) := by decide +kernel
theorem dX12_countsWith_45 : decode cX12_countsWith 45 = .ok (.iaload, 1) := by decide +kernel
theorem dX12_countsWith_46 : decode cX12_countsWith 46 = .ok (.istore 5, 2) := by decide +kernel
theorem dX12_countsWith_48 : decode cX12_countsWith 48 = .ok (.aload_n 0, 1) := by decide +kernel
theorem dX12_countsWith_49 : decode cX12_countsWith 49 = .ok (.getfield 63, 3) := by decide +kernel
theorem dX12_countsWith_52 : decode cX12_countsWith 52 = .ok (.iload_n 1, 1) := by decide +kernel
theorem dX12_countsWith_53 : decode cX12_countsWith 53 = .ok (.iload_n 2, 1) := by decide +kernel
theorem dX12_countsWith_54 : decode cX12_countsWith 54 = .ok (.iastore, 1) := by decide +kernel
theorem dX12_countsWith_55 : decode cX12_countsWith 55 = .ok (.iload_n 3, 1) := by decide +kernel
theorem dX12_countsWith_56 : decode cX12_countsWith 56 = .ok (.iconst (-1), 1) := by decide +kernel
theorem dX12_countsWith_57 : decode cX12_countsWith 57 = .ok (.if_icmp .ne 7, 3) := by decide +kernel
theorem dX12_countsWith_60 : decode cX12_countsWith 60 = .ok (.iconst (-1), 1) := by decide +kernel
theorem dX12_countsWith_61 : decode cX12_countsWith 61 = .ok (.goto 9, 3) := by decide +kernel
theorem dX12_countsWith_64 : decode cX12_countsWith 64 = .ok (.aload_n 0, 1) := by decide +kernel
theorem dX12_countsWith_65 : decode cX12_countsWith 65 = .ok (.getfield 63, 3) := by decide +kernel
theorem dX12_countsWith_68 : decode cX12_countsWith 68 = .ok (.iload_n 3, 1) := by decide +kernel
theorem dX12_countsWith_69 : decode cX12_countsWith 69 = .ok (.iaload, 1) := by decide +kernel
theorem dX12_countsWith_70 : decode cX12_countsWith 70 = .ok (.istore 6, 2) := by decide +kernel
theorem dX12_countsWith_72 : decode cX12_countsWith 72 = .ok (.iload_n 3, 1) := by decide +kernel
theorem dX12_countsWith_73 : decode cX12_countsWith 73 = .ok (.iconst (-1), 1) := by decide +kernel
theorem dX12_countsWith_74 : decode cX12_countsWith 74 = .ok (.if_icmp .eq 16, 3) := by decide +kernel
theorem dX12_countsWith_77 : decode cX12_countsWith 77 = .ok (.iload 6, 2) := by decide +kernel
theorem dX12_countsWith_79 : decode cX12_countsWith 79 = .ok (.iconst (-1), 1) := by decide +kernel
theorem dX12_countsWith_80 : decode cX12_countsWith 80 = .ok (.if_icmp .eq 10, 3) := by decide +kernel
theorem dX12_countsWith_83 : decode cX12_countsWith 83 = .ok (.iload 6, 2) := by decide +kernel
theorem dX12_countsWith_85 : decode cX12_countsWith 85 = .ok (.iload 4, 2) := by decide +kernel
theorem dX12_countsWith_87 : decode cX12_countsWith 87 = .ok (.if_icmp .ne 7, 3) := by decide +kernel
theorem dX12_countsWith_90 : decode cX12_countsWith 90 = .ok (.iconst 1, 1) := by decide +kernel
theorem dX12_countsWith_91 : decode cX12_countsWith 91 = .ok (.goto 4, 3) := by decide +kernel
theorem dX12_countsWith_94 : decode cX12_countsWith 94 = .ok (.iconst 0, 1) := by decide +kernel
theorem dX12_countsWith_95 : decode cX12_countsWith 95 = .ok (.istore 7, 2) := by decide +kernel
theorem dX12_countsWith_97 : decode cX12_countsWith 97 = .ok (.iload_n 3, 1) := by decide +kernel
theorem dX12_countsWith_98 : decode cX12_countsWith 98 = .ok (.iconst (-1), 1) := by decide +kernel
theorem dX12_countsWith_99 : decode cX12_countsWith 99 = .ok (.if_icmp .eq 11, 3) := by decide +kernel
theorem dX12_countsWith_102 : decode cX12_countsWith 102 = .ok (.aload_n 0, 1) := by decide +kernel
theorem dX12_countsWith_103 : decode cX12_countsWith 103 = .ok (.getfield 63, 3) := by decide +kernel
theorem dX12_countsWith_106 : decode cX12_countsWith 106 = .ok (.iload_n 3, 1) := by decide +kernel
theorem dX12_countsWith_107 : decode cX12_countsWith 107 = .ok (.iload 4, 2) := by decide +kernel
theorem dX12_countsWith_109 : decode cX12_countsWith 109 = .ok (.iastore, 1) := by decide +kernel
theorem dX12_countsWith_110 : decode cX12_countsWith 110 = .ok (.iload 7, 2) := by decide +kernel
theorem dX12_countsWith_112 : decode cX12_countsWith 112 = .ok (.ifCond .eq 31, 3) := by decide +kernel
theorem dX12_countsWith_115 : decode cX12_countsWith 115 = .ok (.iload_n 3, 1) := by decide +kernel
theorem dX12_countsWith_116 : decode cX12_countsWith 116 = .ok (.iload_n 1, 1) := by decide +kernel
theorem dX12_countsWith_117 : decode cX12_countsWith 117 = .ok (.if_icmp .ne 9, 3) := by decide +kernel
theorem dX12_countsWith_120 : decode cX12_countsWith 120 = .ok (.iload 4, 2) := by decide +kernel
theorem dX12_countsWith_122 : decode cX12_countsWith 122 = .ok (.iload_n 2, 1) := by decide +kernel
theorem dX12_countsWith_123 : decode cX12_countsWith 123 = .ok (.if_icmp .ne 20, 3) := by decide +kernel
theorem dX12_countsWith_126 : decode cX12_countsWith 126 = .ok (.iload_n 2, 1) := by decide +kernel
theorem dX12_countsWith_127 : decode cX12_countsWith 127 = .ok (.ifCond .lt 16, 3) := by decide +kernel
theorem dX12_countsWith_130 : decode cX12_countsWith 130 = .ok (.iload 4, 2) := by decide +kernel
theorem dX12_countsWith_132 : decode cX12_countsWith 132 = .ok (.iconst (-1), 1) := by decide +kernel
theorem dX12_countsWith_133 : decode cX12_countsWith 133 = .ok (.if_icmp .lt 10, 3) := by decide +kernel
theorem dX12_countsWith_136 : decode cX12_countsWith 136 = .ok (.aload_n 0, 1) := by decide +kernel
theorem dX12_countsWith_137 : decode cX12_countsWith 137 = .ok (.invokevirtual 332, 3) := by decide +kernel
theorem dX12_countsWith_140 : decode cX12_countsWith 140 = .ok (.goto 4, 3) := by decide +kernel
theorem dX12_countsWith_143 : decode cX12_countsWith 143 = .ok (.iconst 0, 1) := by decide +kernel
theorem dX12_countsWith_144 : decode cX12_countsWith 144 = .ok (.istore 8, 2) := by decide +kernel
theorem dX12_countsWith_146 : decode cX12_countsWith 146 = .ok (.iload_n 3, 1) := by decide +kernel
theorem dX12_countsWith_147 : decode cX12_countsWith 147 = .ok (.iconst (-1), 1) := by decide +kernel
theorem dX12_countsWith_148 : decode cX12_countsWith 148 = .ok (.if_icmp .eq 11, 3) := by decide +kernel
theorem dX12_countsWith_151 : decode cX12_countsWith 151 = .ok (.aload_n 0, 1) := by decide +kernel
theorem dX12_countsWith_152 : decode cX12_countsWith 152 = .ok (.getfield 63, 3) := by decide +kernel
theorem dX12_countsWith_155 : decode cX12_countsWith 155 = .ok (.iload_n 3, 1) := by decide +kernel
theorem dX12_countsWith_156 : decode cX12_countsWith 156 = .ok (.iload 6, 2) := by decide +kernel
theorem dX12_countsWith_158 : decode cX12_countsWith 158 = .ok (.iastore, 1) := by decide +kernel
theorem dX12_countsWith_159 : decode cX12_countsWith 159 = .ok (.aload_n 0, 1) := by decide +kernel
theorem dX12_countsWith_160 : decode cX12_countsWith 160 = .ok (.getfield 63, 3) := by decide +kernel
theorem dX12_countsWith_163 : decode cX12_countsWith 163 = .ok (.iload_n 1, 1) := by decide +kernel
theorem dX12_countsWith_164 : decode cX12_countsWith 164 = .ok (.iload 5, 2) := by decide +kernel
theorem dX12_countsWith_166 : decode cX12_countsWith 166 = .ok (.iastore, 1) := by decide +kernel
theorem dX12_countsWith_167 : decode cX12_countsWith 167 = .ok (.iload 8, 2) := by decide +kernel
theorem dX12_countsWith_169 : decode cX12_countsWith 169 = .ok (.ireturn, 1) := by decide +kernel
set_option maxHeartbeats 4000000 in
set_option maxRecDepth 100000 in
theorem lp_sX12_countsWith {p : Program} {l : Launch} {e : Env} {R : Room} {s : State} {m : MethodId} {args : Array Value} {below : List Frame} {meth : Method} {c : Code} {Q : State → Prop} {A : Nat → Prop} {cells slots : Nat} {dC : Nat → ClassId} {dI : Nat → Nat → Nat} (h0 : Nat) (mi : Nat → Int32) (mr : Nat → Nat) (km_must : ClassId) (fm_must : Nat → Int32) (km_least : ClassId) (fm_least : Nat → Int32) (km_pin : ClassId) (fm_pin : Nat → Int32) (km_ways : ClassId) (fm_ways : Nat → Int32) (p1 : Int32) (p2 : Int32) (p3 : Int32) (p4 : Int32) (gmi_0 : gi (mi 0) 0 24) (gmi_1 : gi (mi 1) 0 5) (gmi_2 : gi (mi 2) 0 5) (gmi_4 : gi (mi 4) 0 1) (gmi_7 : gi (mi 7) 0 6) (gmi_10 : gi (mi 10) 0 24) (gmi_17 : gi (mi 17) 0 8) (gmi_23 : gi (mi 23) 0 300) (gmi_24 : gi (mi 24) 0 1) (gmi_26 : gi (mi 26) 0 1600) (gmi_29 : gi (mi 29) 0 1600) (gmi_30 : gi (mi 30) 0 1600) (gmi_33 : gi (mi 33) 0 1) (gmi_37 : gi (mi 37) 0 1) (gmi_41 : gi (mi 41) 0 24) (gmi_50 : gi (mi 50) 0 1) (gmi_51 : gi (mi 51) 0 1) (gmi_56 : gi (mi 56) 0 80) (gp1 : gi p1 0 24) (gp3 : gi p3 (-1) 24) (hx : p.tables.exec = Jvm.exec) (hb : c.code = cX12_countsWith) (hml : c.maxLocals = 9) (hown : s.vm.findClass RX12 = some m.cls) (hts : ∀ w ∈ ((.code yX12_countsWith cX12_countsWith 9 (some .int) :: wsGB) : List Cond), w.before args s = true) (hK : va_K (dC, dI) vwCl [(km_must, .int), (km_least, .int), (km_pin, .int), (km_ways, .int)] s) (hA : ∀ q : Nat, s.heap.size ≤ q → A q) (hRf : 3 ≤ R.frames) (hRl : 73 ≤ R.locals) (hRc : cells ≤ R.cells) (hRs : slots ≤ R.slots) (kr39 : ∀ (v : Int32) (z3 : Nat → Int32) (z4 : Nat → Int32) (H : Heap) (locs : List Loc) (ls : Array Slot), gi v 0 0 → va_P (dC, dI) vwCl [(h0, .inr (12, fsMM mi mr)), ((mr 14), .inl (km_must, 25, .inl fm_must)), ((mr 15), .inl (km_least, 25, .inl fm_least)), ((mr 16), .inl (km_pin, 25, .inl z3)), ((mr 17), .inl (km_ways, 6875, .inl z4))] H → va_D A [(h0, .inr (12, fsMM mi mr)), ((mr 14), .inl (km_must, 25, .inl fm_must)), ((mr 15), .inl (km_least, 25, .inl fm_least)), ((mr 16), .inl (km_pin, 25, .inl z3)), ((mr 17), .inl (km_ways, 6875, .inl z4))] → va_S A s.heap H locs → lv_has ls 9 [] → W p l e R s m args below meth c H locs cells slots Q (F0 m 39 ls [.int v])) (kr169 : ∀ (v : Int32) (z3 : Nat → Int32) (z4 : Nat → Int32) (H : Heap) (locs : List Loc) (ls : Array Slot), va_P (dC, dI) vwCl [(h0, .inr (12, fsMM mi mr)), ((mr 14), .inl (km_must, 25, .inl fm_must)), ((mr 15), .inl (km_least, 25, .inl fm_least)), ((mr 16), .inl (km_pin, 25, .inl z3)), ((mr 17), .inl (km_ways, 6875, .inl z4))] H → va_D A [(h0, .inr (12, fsMM mi mr)), ((mr 14), .inl (km_must, 25, .inl fm_must)), ((mr 15), .inl (km_least, 25, .inl fm_least)), ((mr 16), .inl (km_pin, 25, .inl z3)), ((mr 17), .inl (km_ways, 6875, .inl z4))] → va_S A s.heap H locs → lv_has ls 9 [] → W p l e R s m args below meth c H locs cells slots Q (F0 m 169 ls [.int v])) : ∀ z : Nat, (∀ (v5 : Int32) (v6 : Int32) (z3 : Nat → Int32) (H : Heap) (locs : List Loc) (ls : Array Slot), gi p2 0 720 → 3 < (z : Int) → va_P (dC, dI) vwCl [(h0, .inr (12, fsMM mi mr)), ((mr 14), .inl (km_must, 25, .inl fm_must)), ((mr 15), .inl (km_least, 25, .inl fm_least)), ((mr 16), .inl (km_pin, 25, .inl z3)), ((mr 17), .inl (km_ways, 6875, .inl fm_ways))] H → va_D A [(h0, .inr (12, fsMM mi mr)), ((mr 14), .inl (km_must, 25, .inl fm_must)), ((mr 15), .inl (km_least, 25, .inl fm_least)), ((mr 16), .inl (km_pin, 25, .inl z3)), ((mr 17), .inl (km_ways, 6875, .inl fm_ways))] → va_S A s.heap H locs → lv_has ls 9 [(0, .ref h0), (1, .int p1), (2, .int p2), (3, .int p3), (4, .int p4), (5, .int v5), (6, .int v6)] → W p l e R s m args below meth c H locs cells slots Q (F0 m 72 ls [])) ∧ (∀ (v5 : Int32) (v6 : Int32) (v7 : Int32) (z3 : Nat → Int32) (H : Heap) (locs : List Loc) (ls : Array Slot), gi p2 0 720 → gi v7 0 1 → 2 < (z : Int) → va_P (dC, dI) vwCl [(h0, .inr (12, fsMM mi mr)), ((mr 14), .inl (km_must, 25, .inl fm_must)), ((mr 15), .inl (km_least, 25, .inl fm_least)), ((mr 16), .inl (km_pin, 25, .inl z3)), ((mr 17), .inl (km_ways, 6875, .inl fm_ways))] H → va_D A [(h0, .inr (12, fsMM mi mr)), ((mr 14), .inl (km_must, 25, .inl fm_must)), ((mr 15), .inl (km_least, 25, .inl fm_least)), ((mr 16), .inl (km_pin, 25, .inl z3)), ((mr 17), .inl (km_ways, 6875, .inl fm_ways))] → va_S A s.heap H locs → lv_has ls 9 [(0, .ref h0), (1, .int p1), (2, .int p2), (3, .int p3), (4, .int p4), (5, .int v5), (6, .int v6), (7, .int v7)] → W p l e R s m args below meth c H locs cells slots Q (F0 m 97 ls [])) ∧ (∀ (v5 : Int32) (v6 : Int32) (v7 : Int32) (v8 : Int32) (z3 : Nat → Int32) (z4 : Nat → Int32) (H : Heap) (locs : List Loc) (ls : Array Slot), gi p2 0 720 → gi v7 0 1 → 1 < (z : Int) → va_P (dC, dI) vwCl [(h0, .inr (12, fsMM mi mr)), ((mr 14), .inl (km_must, 25, .inl fm_must)), ((mr 15), .inl (km_least, 25, .inl fm_least)), ((mr 16), .inl (km_pin, 25, .inl z3)), ((mr 17), .inl (km_ways, 6875, .inl z4))] H → va_D A [(h0, .inr (12, fsMM mi mr)), ((mr 14), .inl (km_must, 25, .inl fm_must)), ((mr 15), .inl (km_least, 25, .inl fm_least)), ((mr 16), .inl (km_pin, 25, .inl z3)), ((mr 17), .inl (km_ways, 6875, .inl z4))] → va_S A s.heap H locs → lv_has ls 9 [(0, .ref h0), (1, .int p1), (2, .int p2), (3, .int p3), (4, .int p4), (5, .int v5), (6, .int v6), (7, .int v7), (8, .int v8)] → W p l e R s m args below meth c H locs cells slots Q (F0 m 146 ls [])) := by
  intro z
  induction z with
  | zero =>
    refine ⟨?_, ?_, ?_⟩
    · intro v5 v6 z3 H locs ls gf_p2 hmu hP hD hS hl
      exact absurd hmu (by omega)
    · intro v5 v6 v7 z3 H locs ls gf_p2 gv7 hmu hP hD hS hl
      exact absurd hmu (by omega)
    · intro v5 v6 v7 v8 z3 z4 H locs ls gf_p2 gv7 hmu hP hD hS hl
      exact absurd hmu (by omega)
  | succ z ih =>
    refine ⟨?_, ?_, ?_⟩
    · intro v5 v6 z3 H locs ls gf_p2 hmu hP hD hS hl
      refine lv_iload_n hx hb dX12_countsWith_72 rfl (lv_at hl 3 rfl) ?_
      refine lv_iconst (v := (-1)) hx hb dX12_countsWith_73 (by decide) ?_
      refine lv_icmp_eq (tgt := 90) hx hb dX12_countsWith_74 (by decide) (fun c_141 => ?_) (fun c_141 => ?_)
      · have g_142 : gi p3 (-1) (-1) := gi_eq c_141 (gi_c (-1) (-1) (by decide))
        refine lv_iconst (v := 1) hx hb dX12_countsWith_90 (by decide) ?_
        refine lv_goto (tgt := 95) hx hb dX12_countsWith_91 (by decide) ?_
        refine lv_istore (lv' := [(7, .int 1), (0, .ref h0), (1, .int p1), (2, .int p2), (3, .int p3), (4, .int p4), (5, .int v5), (6, .int v6)]) hx hb dX12_countsWith_95 hl (by decide) rfl (fun ls hl => ?_)
        exact ih.2.1 v5 v6 1 z3 _ _ _ gf_p2 (gi_w (gi_c 1 1 (by decide)) (by decide)) (by omega) hP hD hS (lv_sub hl [1, 2, 3, 4, 5, 6, 7, 0] rfl)
      · have g_143 : gi p3 0 24 := gi_ne_lo c_141 gp3 (gi_c (-1) (-1) (by decide)) (by decide)
        refine lv_iload hx hb dX12_countsWith_77 (lv_at hl 6 rfl) ?_
        refine lv_iconst (v := (-1)) hx hb dX12_countsWith_79 (by decide) ?_
        refine lv_icmp_eq (tgt := 90) hx hb dX12_countsWith_80 (by decide) (fun c_144 => ?_) (fun c_144 => ?_)
        · have g_145 : gi v6 (-1) (-1) := gi_eq c_144 (gi_c (-1) (-1) (by decide))
          refine lv_iconst (v := 1) hx hb dX12_countsWith_90 (by decide) ?_
          refine lv_goto (tgt := 95) hx hb dX12_countsWith_91 (by decide) ?_
          refine lv_istore (lv' := [(7, .int 1), (0, .ref h0), (1, .int p1), (2, .int p2), (3, .int p3), (4, .int p4), (5, .int v5), (6, .int v6)]) hx hb dX12_countsWith_95 hl (by decide) rfl (fun ls hl => ?_)
          exact ih.2.1 v5 v6 1 z3 _ _ _ gf_p2 (gi_w (gi_c 1 1 (by decide)) (by decide)) (by omega) hP hD hS (lv_sub hl [1, 2, 3, 4, 5, 6, 7, 0] rfl)
        · refine lv_iload hx hb dX12_countsWith_83 (lv_at hl 6 rfl) ?_
          refine lv_iload hx hb dX12_countsWith_85 (lv_at hl 4 rfl) ?_
          refine lv_icmp_ne (tgt := 94) hx hb dX12_countsWith_87 (by decide) (fun c_146 => ?_) (fun c_146 => ?_)
          · refine lv_iconst (v := 0) hx hb dX12_countsWith_94 (by decide) ?_
            refine lv_istore (lv' := [(7, .int 0), (0, .ref h0), (1, .int p1), (2, .int p2), (3, .int p3), (4, .int p4), (5, .int v5), (6, .int v6)]) hx hb dX12_countsWith_95 hl (by decide) rfl (fun ls hl => ?_)
            exact ih.2.1 v5 v6 0 z3 _ _ _ gf_p2 (gi_w (gi_c 0 0 (by decide)) (by decide)) (by omega) hP hD hS (lv_sub hl [1, 2, 3, 4, 5, 6, 7, 0] rfl)
          · refine lv_iconst (v := 1) hx hb dX12_countsWith_90 (by decide) ?_
            refine lv_goto (tgt := 95) hx hb dX12_countsWith_91 (by decide) ?_
            refine lv_istore (lv' := [(7, .int 1), (0, .ref h0), (1, .int p1), (2, .int p2), (3, .int p3), (4, .int p4), (5, .int v5), (6, .int v6)]) hx hb dX12_countsWith_95 hl (by decide) rfl (fun ls hl => ?_)
            exact ih.2.1 v5 v6 1 z3 _ _ _ gf_p2 (gi_w (gi_c 1 1 (by decide)) (by decide)) (by omega) hP hD hS (lv_sub hl [1, 2, 3, 4, 5, 6, 7, 0] rfl)
    · intro v5 v6 v7 z3 H locs ls gf_p2 gv7 hmu hP hD hS hl
      refine lv_iload_n hx hb dX12_countsWith_97 rfl (lv_at hl 3 rfl) ?_
      refine lv_iconst (v := (-1)) hx hb dX12_countsWith_98 (by decide) ?_
      refine lv_icmp_eq (tgt := 110) hx hb dX12_countsWith_99 (by decide) (fun c_147 => ?_) (fun c_147 => ?_)
      · have g_148 : gi p3 (-1) (-1) := gi_eq c_147 (gi_c (-1) (-1) (by decide))
        refine lv_iload hx hb dX12_countsWith_110 (lv_at hl 7 rfl) ?_
        refine lv_if_eq (tgt := 143) hx hb dX12_countsWith_112 (by decide) (fun c_149 => ?_) (fun c_149 => ?_)
        · have g_150 : gi v7 0 0 := gi_eq c_149 (gi_c 0 0 (by decide))
          refine lv_iconst (v := 0) hx hb dX12_countsWith_143 (by decide) ?_
          refine lv_istore (lv' := [(8, .int 0), (0, .ref h0), (1, .int p1), (2, .int p2), (3, .int p3), (4, .int p4), (5, .int v5), (6, .int v6), (7, .int v7)]) hx hb dX12_countsWith_144 hl (by decide) rfl (fun ls hl => ?_)
          exact ih.2.2 v5 v6 v7 0 z3 fm_ways _ _ _ gf_p2 (gi_w g_150 (by decide)) (by omega) hP hD hS (lv_sub hl [1, 2, 3, 4, 5, 6, 7, 8, 0] rfl)
        · have g_151 : gi v7 1 1 := gi_ne_lo c_149 gv7 (gi_c 0 0 (by decide)) (by decide)
          refine lv_iload_n hx hb dX12_countsWith_115 rfl (lv_at hl 3 rfl) ?_
          refine lv_iload_n hx hb dX12_countsWith_116 rfl (lv_at hl 1 rfl) ?_
          refine lv_icmp_ne (tgt := 126) hx hb dX12_countsWith_117 (by decide) (fun c_152 => ?_) (fun c_152 => absurd c_152 (gi_no_eq g_148 gp1 (by decide)))
          refine lv_iload_n hx hb dX12_countsWith_126 rfl (lv_at hl 2 rfl) ?_
          refine lv_if_lt (tgt := 143) hx hb dX12_countsWith_127 (by decide) (fun c_153 => absurd c_153 (gi_no_lt gf_p2 (gi_c 0 0 (by decide)) (by decide))) (fun c_153 => ?_)
          refine lv_iload hx hb dX12_countsWith_130 (lv_at hl 4 rfl) ?_
          refine lv_iconst (v := (-1)) hx hb dX12_countsWith_132 (by decide) ?_
          refine lv_icmp_lt (tgt := 143) hx hb dX12_countsWith_133 (by decide) (fun c_154 => ?_) (fun c_154 => ?_)
          · have g_155 : gi p4 (-2147483648) (-2) := gi_lt_l c_154 (gi_any p4) (gi_c (-1) (-1) (by decide)) (by decide)
            refine lv_iconst (v := 0) hx hb dX12_countsWith_143 (by decide) ?_
            refine lv_istore (lv' := [(8, .int 0), (0, .ref h0), (1, .int p1), (2, .int p2), (3, .int p3), (4, .int p4), (5, .int v5), (6, .int v6), (7, .int v7)]) hx hb dX12_countsWith_144 hl (by decide) rfl (fun ls hl => ?_)
            exact ih.2.2 v5 v6 v7 0 z3 fm_ways _ _ _ gf_p2 (gi_w g_151 (by decide)) (by omega) hP hD hS (lv_sub hl [1, 2, 3, 4, 5, 6, 7, 8, 0] rfl)
          · have g_156 : gi p4 (-1) 2147483647 := gi_le_r (Int32.not_lt.mp c_154) (gi_c (-1) (-1) (by decide)) (gi_any p4)
            refine lv_aload_n hx hb dX12_countsWith_136 rfl (lv_at hl 0 rfl) ?_
            have hPc := hP.sub (ws' := [(h0, .inr (12, fsMM mi mr)), ((mr 14), .inl (km_must, 25, .inl fm_must)), ((mr 15), .inl (km_least, 25, .inl fm_least)), ((mr 16), .inl (km_pin, 25, .inl z3)), ((mr 17), .inl (km_ways, 6875, .inl fm_ways))]) [0, 1, 2, 3, 4] rfl
            have hKc := hK.sub (tys' := [(km_must, .int), (km_least, .int), (km_pin, .int), (km_ways, .int)]) [0, 1, 2, 3] rfl
            have hDc := hD.sub (ws' := [(h0, .inr (12, fsMM mi mr)), ((mr 14), .inl (km_must, 25, .inl fm_must)), ((mr 15), .inl (km_least, 25, .inl fm_least)), ((mr 16), .inl (km_pin, 25, .inl z3)), ((mr 17), .inl (km_ways, 6875, .inl fm_ways))]) [0, 1, 2, 3, 4] (by decide) rfl
            have hFc := va_free (wc := [(h0, .inr (12, fsMM mi mr)), ((mr 14), .inl (km_must, 25, .inl fm_must)), ((mr 15), .inl (km_least, 25, .inl fm_least)), ((mr 16), .inl (km_pin, 25, .inl z3)), ((mr 17), .inl (km_ways, 6875, .inl fm_ways))]) hD hS hA [0, 1, 2, 3, 4] rfl
            refine va_calli (va_runV (As := []) (rest := []) ⟨hx, hb, hml, hown, hts⟩ (sX12_counts l dC dI H.size h0 mi mr km_must fm_must km_least fm_least km_pin z3 km_ways fm_ways gmi_0 gmi_1 gmi_2 gmi_4 gmi_7 gmi_10 gmi_17 gmi_23 gmi_24 gmi_26 gmi_29 gmi_30 gmi_33 gmi_37 gmi_41 gmi_50 gmi_51 gmi_56) (cwV 0 hts (gz_gV mGB_299 mGB_300 mGB_301 mGB_1 mGB_302 goodGB) rfl rfl rfl (by decide +kernel) ⟨Nat.le_trans (Nat.le_of_ble_eq_true rfl) hRf, Nat.le_trans (Nat.le_of_ble_eq_true rfl) hRl⟩) ⟨fun a U g mk q => by obtain ⟨q0, q1, qP, qK, qD⟩ := q; exact ⟨q0, q1, qP, va_K.moved (u := U) (U := U.calling g mk a) (Vm.Alike.refl U.vm) qK, qD⟩, va_recv hKc hPc (ci := 12) (q0 := 0) rfl rfl, fun U hU hW => ⟨rfl, by rw [hU], by rw [hU]; exact hPc, va_K.moved hW.alike hKc, hDc.weaken (fun _ _ _ _ => trivial)⟩⟩ rfl rfl hl.1 rfl (lv_room (Nat.le_of_ble_eq_true rfl)) dX12_countsWith_137 ⟨hRc, hRs⟩) hS (fun q _ h => hFc q h) hFc (fun r_157 u t H1 locs ht hvm hw hB hz1 hk1 hS => ?_)
            obtain ⟨f_158, hP1, hD1⟩ := hB
            rw [ht] at hP1
            obtain ⟨hP, hD⟩ := va_join (wr := []) (w1 := [(h0, .inr (12, fsMM mi mr)), ((mr 14), .inl (km_must, 25, .inl fm_must)), ((mr 15), .inl (km_least, 25, .inl fm_least)), ((mr 16), .inl (km_pin, 25, .inl z3)), ((mr 17), .inl (km_ways, 6875, .inl f_158))]) hP hD [0, 1, 2, 3, 4] [] rfl rfl (by decide) (by decide) hk1 hFc hP1 hD1
            have hP := hP.sub (ws' := [(h0, .inr (12, fsMM mi mr)), ((mr 14), .inl (km_must, 25, .inl fm_must)), ((mr 15), .inl (km_least, 25, .inl fm_least)), ((mr 16), .inl (km_pin, 25, .inl z3)), ((mr 17), .inl (km_ways, 6875, .inl f_158))]) [0, 1, 2, 3, 4] rfl
            have hD := hD.sub (ws' := [(h0, .inr (12, fsMM mi mr)), ((mr 14), .inl (km_must, 25, .inl fm_must)), ((mr 15), .inl (km_least, 25, .inl fm_least)), ((mr 16), .inl (km_pin, 25, .inl z3)), ((mr 17), .inl (km_ways, 6875, .inl f_158))]) [0, 1, 2, 3, 4] (by decide) rfl
            generalize H1 = H at hP hS ⊢
            refine lv_goto (tgt := 144) hx hb dX12_countsWith_140 (by decide) ?_
            refine lv_istore (lv' := [(8, .int r_157), (0, .ref h0), (1, .int p1), (2, .int p2), (3, .int p3), (4, .int p4), (5, .int v5), (6, .int v6), (7, .int v7)]) hx hb dX12_countsWith_144 hl (by decide) rfl (fun ls hl => ?_)
            exact ih.2.2 v5 v6 v7 r_157 z3 f_158 _ _ _ gf_p2 (gi_w g_151 (by decide)) (by omega) hP hD hS (lv_sub hl [1, 2, 3, 4, 5, 6, 7, 8, 0] rfl)
      · have g_159 : gi p3 0 24 := gi_ne_lo c_147 gp3 (gi_c (-1) (-1) (by decide)) (by decide)
        refine lv_aload_n hx hb dX12_countsWith_102 rfl (lv_at hl 0 rfl) ?_
        refine va_get (D := (dC, dI)) (ci := 12) (v := .ref (mr 16)) (C := RX12) (T := TX12) (N := 57) hx hb hts (fun w h => List.mem_cons_of_mem _ (jnGB_X12 w h)) hown hK hP 0 rfl rfl 36 (by decide) (hts _ (List.mem_cons_of_mem _ mGB_28)) (fun _ h9 => h9) rfl dX12_countsWith_103 ?_
        refine lv_iload_n hx hb dX12_countsWith_106 rfl (lv_at hl 3 rfl) ?_
        refine lv_iload hx hb dX12_countsWith_107 (lv_at hl 4 rfl) ?_
        refine va_iast hx hb hK hP hD hS 3 2 rfl rfl (gi_in g_159 (by decide)) dX12_countsWith_109 (fun H locs hP hD hS => ?_)
        have hP : va_P (dC, dI) vwCl [(h0, .inr (12, fsMM mi mr)), ((mr 14), .inl (km_must, 25, .inl fm_must)), ((mr 15), .inl (km_least, 25, .inl fm_least)), ((mr 16), .inl (km_pin, 25, .inl (upd z3 (p3 : Int32).toNatClampNeg p4))), ((mr 17), .inl (km_ways, 6875, .inl fm_ways))] H := hP
        have hD : va_D A [(h0, .inr (12, fsMM mi mr)), ((mr 14), .inl (km_must, 25, .inl fm_must)), ((mr 15), .inl (km_least, 25, .inl fm_least)), ((mr 16), .inl (km_pin, 25, .inl (upd z3 (p3 : Int32).toNatClampNeg p4))), ((mr 17), .inl (km_ways, 6875, .inl fm_ways))] := hD
        generalize upd z3 (p3 : Int32).toNatClampNeg p4 = f_160 at hP hD
        refine lv_iload hx hb dX12_countsWith_110 (lv_at hl 7 rfl) ?_
        refine lv_if_eq (tgt := 143) hx hb dX12_countsWith_112 (by decide) (fun c_161 => ?_) (fun c_161 => ?_)
        · have g_162 : gi v7 0 0 := gi_eq c_161 (gi_c 0 0 (by decide))
          refine lv_iconst (v := 0) hx hb dX12_countsWith_143 (by decide) ?_
          refine lv_istore (lv' := [(8, .int 0), (0, .ref h0), (1, .int p1), (2, .int p2), (3, .int p3), (4, .int p4), (5, .int v5), (6, .int v6), (7, .int v7)]) hx hb dX12_countsWith_144 hl (by decide) rfl (fun ls hl => ?_)
          exact ih.2.2 v5 v6 v7 0 f_160 fm_ways _ _ _ gf_p2 (gi_w g_162 (by decide)) (by omega) hP hD hS (lv_sub hl [1, 2, 3, 4, 5, 6, 7, 8, 0] rfl)
        · have g_163 : gi v7 1 1 := gi_ne_lo c_161 gv7 (gi_c 0 0 (by decide)) (by decide)
          refine lv_iload_n hx hb dX12_countsWith_115 rfl (lv_at hl 3 rfl) ?_
          refine lv_iload_n hx hb dX12_countsWith_116 rfl (lv_at hl 1 rfl) ?_
          refine lv_icmp_ne (tgt := 126) hx hb dX12_countsWith_117 (by decide) (fun c_164 => ?_) (fun c_164 => ?_)
          · refine lv_iload_n hx hb dX12_countsWith_126 rfl (lv_at hl 2 rfl) ?_
            refine lv_if_lt (tgt := 143) hx hb dX12_countsWith_127 (by decide) (fun c_165 => absurd c_165 (gi_no_lt gf_p2 (gi_c 0 0 (by decide)) (by decide))) (fun c_165 => ?_)
            refine lv_iload hx hb dX12_countsWith_130 (lv_at hl 4 rfl) ?_
            refine lv_iconst (v := (-1)) hx hb dX12_countsWith_132 (by decide) ?_
            refine lv_icmp_lt (tgt := 143) hx hb dX12_countsWith_133 (by decide) (fun c_166 => ?_) (fun c_166 => ?_)
            · have g_167 : gi p4 (-2147483648) (-2) := gi_lt_l c_166 (gi_any p4) (gi_c (-1) (-1) (by decide)) (by decide)
              refine lv_iconst (v := 0) hx hb dX12_countsWith_143 (by decide) ?_
              refine lv_istore (lv' := [(8, .int 0), (0, .ref h0), (1, .int p1), (2, .int p2), (3, .int p3), (4, .int p4), (5, .int v5), (6, .int v6), (7, .int v7)]) hx hb dX12_countsWith_144 hl (by decide) rfl (fun ls hl => ?_)
              exact ih.2.2 v5 v6 v7 0 f_160 fm_ways _ _ _ gf_p2 (gi_w g_163 (by decide)) (by omega) hP hD hS (lv_sub hl [1, 2, 3, 4, 5, 6, 7, 8, 0] rfl)
            · have g_168 : gi p4 (-1) 2147483647 := gi_le_r (Int32.not_lt.mp c_166) (gi_c (-1) (-1) (by decide)) (gi_any p4)
              refine lv_aload_n hx hb dX12_countsWith_136 rfl (lv_at hl 0 rfl) ?_
              have hPc := hP.sub (ws' := [(h0, .inr (12, fsMM mi mr)), ((mr 14), .inl (km_must, 25, .inl fm_must)), ((mr 15), .inl (km_least, 25, .inl fm_least)), ((mr 16), .inl (km_pin, 25, .inl f_160)), ((mr 17), .inl (km_ways, 6875, .inl fm_ways))]) [0, 1, 2, 3, 4] rfl
              have hKc := hK.sub (tys' := [(km_must, .int), (km_least, .int), (km_pin, .int), (km_ways, .int)]) [0, 1, 2, 3] rfl
              have hDc := hD.sub (ws' := [(h0, .inr (12, fsMM mi mr)), ((mr 14), .inl (km_must, 25, .inl fm_must)), ((mr 15), .inl (km_least, 25, .inl fm_least)), ((mr 16), .inl (km_pin, 25, .inl f_160)), ((mr 17), .inl (km_ways, 6875, .inl fm_ways))]) [0, 1, 2, 3, 4] (by decide) rfl
              have hFc := va_free (wc := [(h0, .inr (12, fsMM mi mr)), ((mr 14), .inl (km_must, 25, .inl fm_must)), ((mr 15), .inl (km_least, 25, .inl fm_least)), ((mr 16), .inl (km_pin, 25, .inl f_160)), ((mr 17), .inl (km_ways, 6875, .inl fm_ways))]) hD hS hA [0, 1, 2, 3, 4] rfl
              refine va_calli (va_runV (As := []) (rest := []) ⟨hx, hb, hml, hown, hts⟩ (sX12_counts l dC dI H.size h0 mi mr km_must fm_must km_least fm_least km_pin f_160 km_ways fm_ways gmi_0 gmi_1 gmi_2 gmi_4 gmi_7 gmi_10 gmi_17 gmi_23 gmi_24 gmi_26 gmi_29 gmi_30 gmi_33 gmi_37 gmi_41 gmi_50 gmi_51 gmi_56) (cwV 0 hts (gz_gV mGB_299 mGB_300 mGB_301 mGB_1 mGB_302 goodGB) rfl rfl rfl (by decide +kernel) ⟨Nat.le_trans (Nat.le_of_ble_eq_true rfl) hRf, Nat.le_trans (Nat.le_of_ble_eq_true rfl) hRl⟩) ⟨fun a U g mk q => by obtain ⟨q0, q1, qP, qK, qD⟩ := q; exact ⟨q0, q1, qP, va_K.moved (u := U) (U := U.calling g mk a) (Vm.Alike.refl U.vm) qK, qD⟩, va_recv hKc hPc (ci := 12) (q0 := 0) rfl rfl, fun U hU hW => ⟨rfl, by rw [hU], by rw [hU]; exact hPc, va_K.moved hW.alike hKc, hDc.weaken (fun _ _ _ _ => trivial)⟩⟩ rfl rfl hl.1 rfl (lv_room (Nat.le_of_ble_eq_true rfl)) dX12_countsWith_137 ⟨hRc, hRs⟩) hS (fun q _ h => hFc q h) hFc (fun r_169 u t H1 locs ht hvm hw hB hz1 hk1 hS => ?_)
              obtain ⟨f_170, hP1, hD1⟩ := hB
              rw [ht] at hP1
              obtain ⟨hP, hD⟩ := va_join (wr := []) (w1 := [(h0, .inr (12, fsMM mi mr)), ((mr 14), .inl (km_must, 25, .inl fm_must)), ((mr 15), .inl (km_least, 25, .inl fm_least)), ((mr 16), .inl (km_pin, 25, .inl f_160)), ((mr 17), .inl (km_ways, 6875, .inl f_170))]) hP hD [0, 1, 2, 3, 4] [] rfl rfl (by decide) (by decide) hk1 hFc hP1 hD1
              have hP := hP.sub (ws' := [(h0, .inr (12, fsMM mi mr)), ((mr 14), .inl (km_must, 25, .inl fm_must)), ((mr 15), .inl (km_least, 25, .inl fm_least)), ((mr 16), .inl (km_pin, 25, .inl f_160)), ((mr 17), .inl (km_ways, 6875, .inl f_170))]) [0, 1, 2, 3, 4] rfl
              have hD := hD.sub (ws' := [(h0, .inr (12, fsMM mi mr)), ((mr 14), .inl (km_must, 25, .inl fm_must)), ((mr 15), .inl (km_least, 25, .inl fm_least)), ((mr 16), .inl (km_pin, 25, .inl f_160)), ((mr 17), .inl (km_ways, 6875, .inl f_170))]) [0, 1, 2, 3, 4] (by decide) rfl
              generalize H1 = H at hP hS ⊢
              refine lv_goto (tgt := 144) hx hb dX12_countsWith_140 (by decide) ?_
              refine lv_istore (lv' := [(8, .int r_169), (0, .ref h0), (1, .int p1), (2, .int p2), (3, .int p3), (4, .int p4), (5, .int v5), (6, .int v6), (7, .int v7)]) hx hb dX12_countsWith_144 hl (by decide) rfl (fun ls hl => ?_)
              exact ih.2.2 v5 v6 v7 r_169 f_160 f_170 _ _ _ gf_p2 (gi_w g_163 (by decide)) (by omega) hP hD hS (lv_sub hl [1, 2, 3, 4, 5, 6, 7, 8, 0] rfl)
          · refine lv_iload hx hb dX12_countsWith_120 (lv_at hl 4 rfl) ?_
            refine lv_iload_n hx hb dX12_countsWith_122 rfl (lv_at hl 2 rfl) ?_
            refine lv_icmp_ne (tgt := 143) hx hb dX12_countsWith_123 (by decide) (fun c_171 => ?_) (fun c_171 => ?_)
            · refine lv_iconst (v := 0) hx hb dX12_countsWith_143 (by decide) ?_
              refine lv_istore (lv' := [(8, .int 0), (0, .ref h0), (1, .int p1), (2, .int p2), (3, .int p3), (4, .int p4), (5, .int v5), (6, .int v6), (7, .int v7)]) hx hb dX12_countsWith_144 hl (by decide) rfl (fun ls hl => ?_)
              exact ih.2.2 v5 v6 v7 0 f_160 fm_ways _ _ _ gf_p2 (gi_w g_163 (by decide)) (by omega) hP hD hS (lv_sub hl [1, 2, 3, 4, 5, 6, 7, 8, 0] rfl)
            · have g_172 : gi p4 0 720 := gi_eq c_171 gf_p2
              refine lv_iload_n hx hb dX12_countsWith_126 rfl (lv_at hl 2 rfl) ?_
              refine lv_if_lt (tgt := 143) hx hb dX12_countsWith_127 (by decide) (fun c_173 => absurd c_173 (gi_no_lt gf_p2 (gi_c 0 0 (by decide)) (by decide))) (fun c_173 => ?_)
              refine lv_iload hx hb dX12_countsWith_130 (lv_at hl 4 rfl) ?_
              refine lv_iconst (v := (-1)) hx hb dX12_countsWith_132 (by decide) ?_
              refine lv_icmp_lt (tgt := 143) hx hb dX12_countsWith_133 (by decide) (fun c_174 => absurd c_174 (gi_no_lt g_172 (gi_c (-1) (-1) (by decide)) (by decide))) (fun c_174 => ?_)
              refine lv_aload_n hx hb dX12_countsWith_136 rfl (lv_at hl 0 rfl) ?_
              have hPc := hP.sub (ws' := [(h0, .inr (12, fsMM mi mr)), ((mr 14), .inl (km_must, 25, .inl fm_must)), ((mr 15), .inl (km_least, 25, .inl fm_least)), ((mr 16), .inl (km_pin, 25, .inl f_160)), ((mr 17), .inl (km_ways, 6875, .inl fm_ways))]) [0, 1, 2, 3, 4] rfl
              have hKc := hK.sub (tys' := [(km_must, .int), (km_least, .int), (km_pin, .int), (km_ways, .int)]) [0, 1, 2, 3] rfl
              have hDc := hD.sub (ws' := [(h0, .inr (12, fsMM mi mr)), ((mr 14), .inl (km_must, 25, .inl fm_must)), ((mr 15), .inl (km_least, 25, .inl fm_least)), ((mr 16), .inl (km_pin, 25, .inl f_160)), ((mr 17), .inl (km_ways, 6875, .inl fm_ways))]) [0, 1, 2, 3, 4] (by decide) rfl
              have hFc := va_free (wc := [(h0, .inr (12, fsMM mi mr)), ((mr 14), .inl (km_must, 25, .inl fm_must)), ((mr 15), .inl (km_least, 25, .inl fm_least)), ((mr 16), .inl (km_pin, 25, .inl f_160)), ((mr 17), .inl (km_ways, 6875, .inl fm_ways))]) hD hS hA [0, 1, 2, 3, 4] rfl
              refine va_calli (va_runV (As := []) (rest := []) ⟨hx, hb, hml, hown, hts⟩ (sX12_counts l dC dI H.size h0 mi mr km_must fm_must km_least fm_least km_pin f_160 km_ways fm_ways gmi_0 gmi_1 gmi_2 gmi_4 gmi_7 gmi_10 gmi_17 gmi_23 gmi_24 gmi_26 gmi_29 gmi_30 gmi_33 gmi_37 gmi_41 gmi_50 gmi_51 gmi_56) (cwV 0 hts (gz_gV mGB_299 mGB_300 mGB_301 mGB_1 mGB_302 goodGB) rfl rfl rfl (by decide +kernel) ⟨Nat.le_trans (Nat.le_of_ble_eq_true rfl) hRf, Nat.le_trans (Nat.le_of_ble_eq_true rfl) hRl⟩) ⟨fun a U g mk q => by obtain ⟨q0, q1, qP, qK, qD⟩ := q; exact ⟨q0, q1, qP, va_K.moved (u := U) (U := U.calling g mk a) (Vm.Alike.refl U.vm) qK, qD⟩, va_recv hKc hPc (ci := 12) (q0 := 0) rfl rfl, fun U hU hW => ⟨rfl, by rw [hU], by rw [hU]; exact hPc, va_K.moved hW.alike hKc, hDc.weaken (fun _ _ _ _ => trivial)⟩⟩ rfl rfl hl.1 rfl (lv_room (Nat.le_of_ble_eq_true rfl)) dX12_countsWith_137 ⟨hRc, hRs⟩) hS (fun q _ h => hFc q h) hFc (fun r_175 u t H1 locs ht hvm hw hB hz1 hk1 hS => ?_)
              obtain ⟨f_176, hP1, hD1⟩ := hB
              rw [ht] at hP1
              obtain ⟨hP, hD⟩ := va_join (wr := []) (w1 := [(h0, .inr (12, fsMM mi mr)), ((mr 14), .inl (km_must, 25, .inl fm_must)), ((mr 15), .inl (km_least, 25, .inl fm_least)), ((mr 16), .inl (km_pin, 25, .inl f_160)), ((mr 17), .inl (km_ways, 6875, .inl f_176))]) hP hD [0, 1, 2, 3, 4] [] rfl rfl (by decide) (by decide) hk1 hFc hP1 hD1
              have hP := hP.sub (ws' := [(h0, .inr (12, fsMM mi mr)), ((mr 14), .inl (km_must, 25, .inl fm_must)), ((mr 15), .inl (km_least, 25, .inl fm_least)), ((mr 16), .inl (km_pin, 25, .inl f_160)), ((mr 17), .inl (km_ways, 6875, .inl f_176))]) [0, 1, 2, 3, 4] rfl
              have hD := hD.sub (ws' := [(h0, .inr (12, fsMM mi mr)), ((mr 14), .inl (km_must, 25, .inl fm_must)), ((mr 15), .inl (km_least, 25, .inl fm_least)), ((mr 16), .inl (km_pin, 25, .inl f_160)), ((mr 17), .inl (km_ways, 6875, .inl f_176))]) [0, 1, 2, 3, 4] (by decide) rfl
              generalize H1 = H at hP hS ⊢
              refine lv_goto (tgt := 144) hx hb dX12_countsWith_140 (by decide) ?_
              refine lv_istore (lv' := [(8, .int r_175), (0, .ref h0), (1, .int p1), (2, .int p2), (3, .int p3), (4, .int p4), (5, .int v5), (6, .int v6), (7, .int v7)]) hx hb dX12_countsWith_144 hl (by decide) rfl (fun ls hl => ?_)
              exact ih.2.2 v5 v6 v7 r_175 f_160 f_176 _ _ _ gf_p2 (gi_w g_163 (by decide)) (by omega) hP hD hS (lv_sub hl [1, 2, 3, 4, 5, 6, 7, 8, 0] rfl)
    · intro v5 v6 v7 v8 z3 z4 H locs ls gf_p2 gv7 hmu hP hD hS hl
      refine lv_iload_n hx hb dX12_countsWith_146 rfl (lv_at hl 3 rfl) ?_
      refine lv_iconst (v := (-1)) hx hb dX12_countsWith_147 (by decide) ?_
      refine lv_icmp_eq (tgt := 159) hx hb dX12_countsWith_148 (by decide) (fun c_177 => ?_) (fun c_177 => ?_)
      · have g_178 : gi p3 (-1) (-1) := gi_eq c_177 (gi_c (-1) (-1) (by decide))
        refine lv_aload_n hx hb dX12_countsWith_159 rfl (lv_at hl 0 rfl) ?_
        refine va_get (D := (dC, dI)) (ci := 12) (v := .ref (mr 16)) (C := RX12) (T := TX12) (N := 57) hx hb hts (fun w h => List.mem_cons_of_mem _ (jnGB_X12 w h)) hown hK hP 0 rfl rfl 36 (by decide) (hts _ (List.mem_cons_of_mem _ mGB_28)) (fun _ h9 => h9) rfl dX12_countsWith_160 ?_
        refine lv_iload_n hx hb dX12_countsWith_163 rfl (lv_at hl 1 rfl) ?_
        refine lv_iload hx hb dX12_countsWith_164 (lv_at hl 5 rfl) ?_
        refine va_iast hx hb hK hP hD hS 3 2 rfl rfl (gi_in gp1 (by decide)) dX12_countsWith_166 (fun H locs hP hD hS => ?_)
        have hP : va_P (dC, dI) vwCl [(h0, .inr (12, fsMM mi mr)), ((mr 14), .inl (km_must, 25, .inl fm_must)), ((mr 15), .inl (km_least, 25, .inl fm_least)), ((mr 16), .inl (km_pin, 25, .inl (upd z3 (p1 : Int32).toNatClampNeg v5))), ((mr 17), .inl (km_ways, 6875, .inl z4))] H := hP
        have hD : va_D A [(h0, .inr (12, fsMM mi mr)), ((mr 14), .inl (km_must, 25, .inl fm_must)), ((mr 15), .inl (km_least, 25, .inl fm_least)), ((mr 16), .inl (km_pin, 25, .inl (upd z3 (p1 : Int32).toNatClampNeg v5))), ((mr 17), .inl (km_ways, 6875, .inl z4))] := hD
        generalize upd z3 (p1 : Int32).toNatClampNeg v5 = f_179 at hP hD
        refine lv_iload hx hb dX12_countsWith_167 (lv_at hl 8 rfl) ?_
        exact kr169 v8 f_179 z4 _ _ _ hP hD hS (lv_sub hl [] rfl)
      · have g_180 : gi p3 0 24 := gi_ne_lo c_177 gp3 (gi_c (-1) (-1) (by decide)) (by decide)
        refine lv_aload_n hx hb dX12_countsWith_151 rfl (lv_at hl 0 rfl) ?_
        refine va_get (D := (dC, dI)) (ci := 12) (v := .ref (mr 16)) (C := RX12) (T := TX12) (N := 57) hx hb hts (fun w h => List.mem_cons_of_mem _ (jnGB_X12 w h)) hown hK hP 0 rfl rfl 36 (by decide) (hts _ (List.mem_cons_of_mem _ mGB_28)) (fun _ h9 => h9) rfl dX12_countsWith_152 ?_
        refine lv_iload_n hx hb dX12_countsWith_155 rfl (lv_at hl 3 rfl) ?_
        refine lv_iload hx hb dX12_countsWith_156 (lv_at hl 6 rfl) ?_
        refine va_iast hx hb hK hP hD hS 3 2 rfl rfl (gi_in g_180 (by decide)) dX12_countsWith_158 (fun H locs hP hD hS => ?_)
        have hP : va_P (dC, dI) vwCl [(h0, .inr (12, fsMM mi mr)), ((mr 14), .inl (km_must, 25, .inl fm_must)), ((mr 15), .inl (km_least, 25, .inl fm_least)), ((mr 16), .inl (km_pin, 25, .inl (upd z3 (p3 : Int32).toNatClampNeg v6))), ((mr 17), .inl (km_ways, 6875, .inl z4))] H := hP
        have hD : va_D A [(h0, .inr (12, fsMM mi mr)), ((mr 14), .inl (km_must, 25, .inl fm_must)), ((mr 15), .inl (km_least, 25, .inl fm_least)), ((mr 16), .inl (km_pin, 25, .inl (upd z3 (p3 : Int32).toNatClampNeg v6))), ((mr 17), .inl (km_ways, 6875, .inl z4))] := hD
        generalize upd z3 (p3 : Int32).toNatClampNeg v6 = f_181 at hP hD
        refine lv_aload_n hx hb dX12_countsWith_159 rfl (lv_at hl 0 rfl) ?_
        refine va_get (D := (dC, dI)) (ci := 12) (v := .ref (mr 16)) (C := RX12) (T := TX12) (N := 57) hx hb hts (fun w h => List.mem_cons_of_mem _ (jnGB_X12 w h)) hown hK hP 0 rfl rfl 36 (by decide) (hts _ (List.mem_cons_of_mem _ mGB_28)) (fun _ h9 => h9) rfl dX12_countsWith_160 ?_
        refine lv_iload_n hx hb dX12_countsWith_163 rfl (lv_at hl 1 rfl) ?_
        refine lv_iload hx hb dX12_countsWith_164 (lv_at hl 5 rfl) ?_
        refine va_iast hx hb hK hP hD hS 3 2 rfl rfl (gi_in gp1 (by decide)) dX12_countsWith_166 (fun H locs hP hD hS => ?_)
        have hP : va_P (dC, dI) vwCl [(h0, .inr (12, fsMM mi mr)), ((mr 14), .inl (km_must, 25, .inl fm_must)), ((mr 15), .inl (km_least, 25, .inl fm_least)), ((mr 16), .inl (km_pin, 25, .inl (upd f_181 (p1 : Int32).toNatClampNeg v5))), ((mr 17), .inl (km_ways, 6875, .inl z4))] H := hP
        have hD : va_D A [(h0, .inr (12, fsMM mi mr)), ((mr 14), .inl (km_must, 25, .inl fm_must)), ((mr 15), .inl (km_least, 25, .inl fm_least)), ((mr 16), .inl (km_pin, 25, .inl (upd f_181 (p1 : Int32).toNatClampNeg v5))), ((mr 17), .inl (km_ways, 6875, .inl z4))] := hD
        generalize upd f_181 (p1 : Int32).toNatClampNeg v5 = f_182 at hP hD
        refine lv_iload hx hb dX12_countsWith_167 (lv_at hl 8 rfl) ?_
        exact kr169 v8 f_182 z4 _ _ _ hP hD hS (lv_sub hl [] rfl)
set_option maxHeartbeats 4000000 in
set_option maxRecDepth 100000 in
theorem sX12_countsWith (l : Launch) (dC : Nat → ClassId) (dI : Nat → Nat → Nat) (sz : Nat) (h0 : Nat) (mi : Nat → Int32) (mr : Nat → Nat) (km_must : ClassId) (fm_must : Nat → Int32) (km_least : ClassId) (fm_least : Nat → Int32) (km_pin : ClassId) (fm_pin : Nat → Int32) (km_ways : ClassId) (fm_ways : Nat → Int32) (p1 : Int32) (p2 : Int32) (p3 : Int32) (p4 : Int32) (gmi_0 : gi (mi 0) 0 24) (gmi_1 : gi (mi 1) 0 5) (gmi_2 : gi (mi 2) 0 5) (gmi_4 : gi (mi 4) 0 1) (gmi_7 : gi (mi 7) 0 6) (gmi_10 : gi (mi 10) 0 24) (gmi_17 : gi (mi 17) 0 8) (gmi_23 : gi (mi 23) 0 300) (gmi_24 : gi (mi 24) 0 1) (gmi_26 : gi (mi 26) 0 1600) (gmi_29 : gi (mi 29) 0 1600) (gmi_30 : gi (mi 30) 0 1600) (gmi_33 : gi (mi 33) 0 1) (gmi_37 : gi (mi 37) 0 1) (gmi_41 : gi (mi 41) 0 24) (gmi_50 : gi (mi 50) 0 1) (gmi_51 : gi (mi 51) 0 1) (gmi_56 : gi (mi 56) 0 80) (gp1 : gi p1 0 24) (gp3 : gi p3 (-1) 24) : Met l yX12_countsWith (.code yX12_countsWith cX12_countsWith 9 (some .int) :: wsGB) ({ frames := 3, cells := 0, slots := 0, locals := 73 }) (va_Pc [.ref h0, .int p1, .int p2, .int p3, .int p4] (fun U => U.heap.size = sz ∧ va_P (dC, dI) vwCl [(h0, .inr (12, fsMM mi mr)), ((mr 14), .inl (km_must, 25, .inl fm_must)), ((mr 15), .inl (km_least, 25, .inl fm_least)), ((mr 16), .inl (km_pin, 25, .inl fm_pin)), ((mr 17), .inl (km_ways, 6875, .inl fm_ways))] U.heap ∧ va_K (dC, dI) vwCl [(km_must, .int), (km_least, .int), (km_pin, .int), (km_ways, .int)] U ∧ va_D (fun _ => True) [(h0, .inr (12, fsMM mi mr)), ((mr 14), .inl (km_must, 25, .inl fm_must)), ((mr 15), .inl (km_least, 25, .inl fm_least)), ((mr 16), .inl (km_pin, 25, .inl fm_pin)), ((mr 17), .inl (km_ways, 6875, .inl fm_ways))])) (va_Qi (fun (r : Int32) (u : Unit) => gi r (-2147483648) 2147483647) (fun _ t => ∃ (z3 : Nat → Int32) (z4 : Nat → Int32), va_P (dC, dI) vwCl [(h0, .inr (12, fsMM mi mr)), ((mr 14), .inl (km_must, 25, .inl fm_must)), ((mr 15), .inl (km_least, 25, .inl fm_least)), ((mr 16), .inl (km_pin, 25, .inl z3)), ((mr 17), .inl (km_ways, 6875, .inl z4))] t.heap ∧ va_D (va_A [(h0, .inr (12, fsMM mi mr)), ((mr 14), .inl (km_must, 25, .inl fm_must)), ((mr 15), .inl (km_least, 25, .inl fm_least)), ((mr 16), .inl (km_pin, 25, .inl fm_pin)), ((mr 17), .inl (km_ways, 6875, .inl fm_ways))] sz) [(h0, .inr (12, fsMM mi mr)), ((mr 14), .inl (km_must, 25, .inl fm_must)), ((mr 15), .inl (km_least, 25, .inl fm_least)), ((mr 16), .inl (km_pin, 25, .inl z3)), ((mr 17), .inl (km_ways, 6875, .inl z4))]) (va_A [(h0, .inr (12, fsMM mi mr)), ((mr 14), .inl (km_must, 25, .inl fm_must)), ((mr 15), .inl (km_least, 25, .inl fm_least)), ((mr 16), .inl (km_pin, 25, .inl fm_pin)), ((mr 17), .inl (km_ways, 6875, .inl fm_ways))] sz)) 0 0 (va_A [(h0, .inr (12, fsMM mi mr)), ((mr 14), .inl (km_must, 25, .inl fm_must)), ((mr 15), .inl (km_least, 25, .inl fm_least)), ((mr 16), .inl (km_pin, 25, .inl fm_pin)), ((mr 17), .inl (km_ways, 6875, .inl fm_ways))] sz) := by
  refine Met.ofW (cc := cX12_countsWith) (maxL := 9) (ret := (some .int)) (by decide) rfl ?_
  intro p e s m args below meth c s₁ B hml hv
  obtain ⟨rfl, hsz, hP, hK, hD0⟩ := hv
  have hx := B.exec
  have hb := B.bytes
  have hr := B.returns
  have hts := atoms_spec (ws := (.code yX12_countsWith cX12_countsWith 9 (some .int) :: wsGB)) B.pre
  have hown : s.vm.findClass RX12 = some m.cls := findClass_of_methodNamed B.named
  have hlocks := B.notSynchronized
  subst hsz
  have hD := hD0.self (sz := s.heap.size)
  generalize hAe : va_A [(h0, .inr (12, fsMM mi mr)), ((mr 14), .inl (km_must, 25, .inl fm_must)), ((mr 15), .inl (km_least, 25, .inl fm_least)), ((mr 16), .inl (km_pin, 25, .inl fm_pin)), ((mr 17), .inl (km_ways, 6875, .inl fm_ways))] s.heap.size = A at hD ⊢
  have hA : ∀ q : Nat, s.heap.size ≤ q → A q := fun q h => by rw [← hAe]; exact Or.inr h
  have hS : va_S A s.heap s.heap [] := va_S.rf
  have hl := lv_entry ([.ref h0, .int p1, .int p2, .int p3, .int p4]) (n := 9) (Nat.le_of_ble_eq_true rfl)
  rw [lg_entry_eq]
  generalize (lg_sl ([.ref h0, .int p1, .int p2, .int p3, .int p4]) ++ List.replicate (9 - (lg_sl ([.ref h0, .int p1, .int p2, .int p3, .int p4])).length) Slot.unset).toArray = ls at hl ⊢
  have hl : lv_has ls 9 [(0, .ref h0), (1, .int p1), (2, .int p2), (3, .int p3), (4, .int p4)] := hl
  refine lv_iload_n hx hb dX12_countsWith_0 rfl (lv_at hl 2 rfl) ?_
  refine lv_i2l (v := (p2).toInt64) hx hb dX12_countsWith_1 rfl ?_
  refine lv_topl (fun l_183 el_183 => ?_)
  refine lv_bipush (v := 29) hx hb dX12_countsWith_2 (by decide) ?_
  refine lv_iload_n hx hb dX12_countsWith_4 rfl (lv_at hl 1 rfl) ?_
  refine lv_imul hx hb dX12_countsWith_5 ?_
  refine lv_topi (fun x_184 ex_184 => ?_)
  have gx_184 : gi x_184 0 696 := gi_mul ex_184 (gi_c 29 29 (by decide)) gp1 (by decide)
  refine lv_i2l (v := (x_184).toInt64) hx hb dX12_countsWith_6 rfl ?_
  refine lv_topl (fun l_185 el_185 => ?_)
  refine lv_bipush (v := 30) hx hb dX12_countsWith_7 (by decide) ?_
  refine lv_iload_n hx hb dX12_countsWith_9 rfl (lv_at hl 1 rfl) ?_
  refine lv_imul hx hb dX12_countsWith_10 ?_
  refine lv_topi (fun x_186 ex_186 => ?_)
  have gx_186 : gi x_186 0 720 := gi_mul ex_186 (gi_c 30 30 (by decide)) gp1 (by decide)
  refine lv_i2l (v := (x_186).toInt64) hx hb dX12_countsWith_11 rfl ?_
  refine lv_topl (fun l_187 el_187 => ?_)
  have hPc := hP.sub (ws' := []) [] rfl
  have hKc := hK.sub (tys' := []) [] rfl
  refine va_calli (va_runS (As := [.long l_183, .long l_185, .long l_187]) (rest := []) ⟨hx, hb, hml, hown, hts⟩ (sX12_in l dC dI l_183 l_185 l_187) (cwS 3 hts (gz_gS mGB_47 mGB_48 mGB_1 mGB_49 goodGB) rfl rfl rfl (by decide +kernel) ⟨Nat.le_of_ble_eq_true rfl, Nat.le_of_ble_eq_true rfl⟩) ⟨fun a U g mk q => by obtain ⟨q0, qP, qK⟩ := q; exact ⟨q0, qP, va_K.moved (u := U) (U := U.calling g mk a) (Vm.Alike.refl U.vm) qK⟩, fun U hU hW => ⟨rfl, by rw [hU]; exact hPc, va_K.moved hW.alike hKc⟩⟩ rfl rfl hl.1 rfl (lv_room (Nat.le_of_ble_eq_true rfl)) dX12_countsWith_12 ⟨Nat.zero_le _, Nat.zero_le _⟩) hS (fun q _ h => h.elim) (fun q h => h.elim) (fun r_188 u t H1 locs ht hvm hw hB hz1 hk1 hS => ?_)
  have hP := gz_keep hP hk1
  generalize H1 = H at hP hS ⊢
  have gr_188 : gi r_188 0 1 := hw.1
  have hqr_188 := hw.2
  refine lv_if_eq (tgt := 38) hx hb dX12_countsWith_15 (by decide) (fun c_189 => ?_) (fun c_189 => ?_)
  · have g_190 : gi r_188 0 0 := gi_eq c_189 (gi_c 0 0 (by decide))
    refine lv_iconst (v := 0) hx hb dX12_countsWith_38 (by decide) ?_
    exact W.iret (v := 0) hx hb hr (fun t ht hW => ⟨⟨0, (), rfl, (gi_any 0), fm_pin, fm_ways, by rw [ht]; exact hP, hD⟩, hS.F ht⟩) hS.2.2 dX12_countsWith_39
  · have g_191 : gi r_188 1 1 := gi_ne_lo c_189 gr_188 (gi_c 0 0 (by decide)) (by decide)
    have g_192 : gi p2 0 720 := gi_cap (gi_any p2) (gz_inr (hqr_188.1 (gz_one g_191)) el_183 (A := 0) (B := 720) (gz_l2l el_185 gx_184) (gz_l2u el_187 gx_186)) (by decide)
    refine lv_aload_n hx hb dX12_countsWith_18 rfl (lv_at hl 0 rfl) ?_
    refine va_get (D := (dC, dI)) (ci := 12) (v := .ref (mr 16)) (C := RX12) (T := TX12) (N := 57) hx hb hts (fun w h => List.mem_cons_of_mem _ (jnGB_X12 w h)) hown hK hP 0 rfl rfl 36 (by decide) (hts _ (List.mem_cons_of_mem _ mGB_28)) (fun _ h9 => h9) rfl dX12_countsWith_19 ?_
    refine lv_iload_n hx hb dX12_countsWith_22 rfl (lv_at hl 1 rfl) ?_
    refine va_iald hx hb hK hP 3 2 rfl rfl (gi_in gp1 (by decide)) dX12_countsWith_23 ?_
    refine lv_topi (fun x_193 ex_193 => ?_)
    refine lv_iconst (v := (-1)) hx hb dX12_countsWith_24 (by decide) ?_
    refine lv_icmp_eq (tgt := 40) hx hb dX12_countsWith_25 (by decide) (fun c_194 => ?_) (fun c_194 => ?_)
    · have g_195 : gi x_193 (-1) (-1) := gi_eq c_194 (gi_c (-1) (-1) (by decide))
      refine lv_aload_n hx hb dX12_countsWith_40 rfl (lv_at hl 0 rfl) ?_
      refine va_get (D := (dC, dI)) (ci := 12) (v := .ref (mr 16)) (C := RX12) (T := TX12) (N := 57) hx hb hts (fun w h => List.mem_cons_of_mem _ (jnGB_X12 w h)) hown hK hP 0 rfl rfl 36 (by decide) (hts _ (List.mem_cons_of_mem _ mGB_28)) (fun _ h9 => h9) rfl dX12_countsWith_41 ?_
      refine lv_iload_n hx hb dX12_countsWith_44 rfl (lv_at hl 1 rfl) ?_
      refine va_iald hx hb hK hP 3 2 rfl rfl (gi_in gp1 (by decide)) dX12_countsWith_45 ?_
      refine lv_topi (fun x_196 ex_196 => ?_)
      refine lv_istore (lv' := [(5, .int x_196), (0, .ref h0), (1, .int p1), (2, .int p2), (3, .int p3), (4, .int p4)]) hx hb dX12_countsWith_46 hl (by decide) rfl (fun ls hl => ?_)
      refine lv_aload_n hx hb dX12_countsWith_48 rfl (lv_at hl 1 rfl) ?_
      refine va_get (D := (dC, dI)) (ci := 12) (v := .ref (mr 16)) (C := RX12) (T := TX12) (N := 57) hx hb hts (fun w h => List.mem_cons_of_mem _ (jnGB_X12 w h)) hown hK hP 0 rfl rfl 36 (by decide) (hts _ (List.mem_cons_of_mem _ mGB_28)) (fun _ h9 => h9) rfl dX12_countsWith_49 ?_
      refine lv_iload_n hx hb dX12_countsWith_52 rfl (lv_at hl 2 rfl) ?_
      refine lv_iload_n hx hb dX12_countsWith_53 rfl (lv_at hl 3 rfl) ?_
      refine va_iast hx hb hK hP hD hS 3 2 rfl rfl (gi_in gp1 (by decide)) dX12_countsWith_54 (fun H locs hP hD hS => ?_)
      have hP : va_P (dC, dI) vwCl [(h0, .inr (12, fsMM mi mr)), ((mr 14), .inl (km_must, 25, .inl fm_must)), ((mr 15), .inl (km_least, 25, .inl fm_least)), ((mr 16), .inl (km_pin, 25, .inl (upd fm_pin (p1 : Int32).toNatClampNeg p2))), ((mr 17), .inl (km_ways, 6875, .inl fm_ways))] H := hP
      have hD : va_D A [(h0, .inr (12, fsMM mi mr)), ((mr 14), .inl (km_must, 25, .inl fm_must)), ((mr 15), .inl (km_least, 25, .inl fm_least)), ((mr 16), .inl (km_pin, 25, .inl (upd fm_pin (p1 : Int32).toNatClampNeg p2))), ((mr 17), .inl (km_ways, 6875, .inl fm_ways))] := hD
      generalize upd fm_pin (p1 : Int32).toNatClampNeg p2 = f_197 at hP hD
      refine lv_iload_n hx hb dX12_countsWith_55 rfl (lv_at hl 4 rfl) ?_
      refine lv_iconst (v := (-1)) hx hb dX12_countsWith_56 (by decide) ?_
      refine lv_icmp_ne (tgt := 64) hx hb dX12_countsWith_57 (by decide) (fun c_198 => ?_) (fun c_198 => ?_)
      · have g_199 : gi p3 0 24 := gi_ne_lo c_198 gp3 (gi_c (-1) (-1) (by decide)) (by decide)
        refine lv_aload_n hx hb dX12_countsWith_64 rfl (lv_at hl 1 rfl) ?_
        refine va_get (D := (dC, dI)) (ci := 12) (v := .ref (mr 16)) (C := RX12) (T := TX12) (N := 57) hx hb hts (fun w h => List.mem_cons_of_mem _ (jnGB_X12 w h)) hown hK hP 0 rfl rfl 36 (by decide) (hts _ (List.mem_cons_of_mem _ mGB_28)) (fun _ h9 => h9) rfl dX12_countsWith_65 ?_
        refine lv_iload_n hx hb dX12_countsWith_68 rfl (lv_at hl 4 rfl) ?_
        refine va_iald hx hb hK hP 3 2 rfl rfl (gi_in g_199 (by decide)) dX12_countsWith_69 ?_
        refine lv_topi (fun x_200 ex_200 => ?_)
        refine lv_istore (lv' := [(6, .int x_200), (5, .int x_196), (0, .ref h0), (1, .int p1), (2, .int p2), (3, .int p3), (4, .int p4)]) hx hb dX12_countsWith_70 hl (by decide) rfl (fun ls hl => ?_)
        refine (lp_sX12_countsWith h0 mi mr km_must fm_must km_least fm_least km_pin fm_pin km_ways fm_ways p1 p2 p3 p4 gmi_0 gmi_1 gmi_2 gmi_4 gmi_7 gmi_10 gmi_17 gmi_23 gmi_24 gmi_26 gmi_29 gmi_30 gmi_33 gmi_37 gmi_41 gmi_50 gmi_51 gmi_56 gp1 gp3 hx hb hml hown hts hK hA (Nat.le_of_ble_eq_true rfl) (Nat.le_of_ble_eq_true rfl) (Nat.zero_le _) (Nat.zero_le _) (fun v z3 z4 H locs ls gv hP hD hS hl => ?_) (fun v z3 z4 H locs ls hP hD hS hl => ?_) 5).1 x_196 x_200 f_197 _ _ _ g_192 (by omega) hP hD hS (lv_sub hl [2, 3, 4, 5, 6, 1, 0] rfl)
        · skip
          exact W.iret (v := v) hx hb hr (fun t ht hW => ⟨⟨v, (), rfl, (gi_any v), z3, z4, by rw [ht]; exact hP, hD⟩, hS.F ht⟩) hS.2.2 dX12_countsWith_39
        · skip
          exact W.iret (v := v) hx hb hr (fun t ht hW => ⟨⟨v, (), rfl, (gi_any v), z3, z4, by rw [ht]; exact hP, hD⟩, hS.F ht⟩) hS.2.2 dX12_countsWith_169
      · have g_201 : gi p3 (-1) (-1) := gi_eq c_198 (gi_c (-1) (-1) (by decide))
        refine lv_iconst (v := (-1)) hx hb dX12_countsWith_60 (by decide) ?_
        refine lv_goto (tgt := 70) hx hb dX12_countsWith_61 (by decide) ?_
        refine lv_istore (lv' := [(6, .int (-1)), (5, .int x_196), (0, .ref h0), (1, .int p1), (2, .int p2), (3, .int p3), (4, .int p4)]) hx hb dX12_countsWith_70 hl (by decide) rfl (fun ls hl => ?_)
        refine (lp_sX12_countsWith h0 mi mr km_must fm_must km_least fm_least km_pin fm_pin km_ways fm_ways p1 p2 p3 p4 gmi_0 gmi_1 gmi_2 gmi_4 gmi_7 gmi_10 gmi_17 gmi_23 gmi_24 gmi_26 gmi_29 gmi_30 gmi_33 gmi_37 gmi_41 gmi_50 gmi_51 gmi_56 gp1 gp3 hx hb hml hown hts hK hA (Nat.le_of_ble_eq_true rfl) (Nat.le_of_ble_eq_true rfl) (Nat.zero_le _) (Nat.zero_le _) (fun v z3 z4 H locs ls gv hP hD hS hl => ?_) (fun v z3 z4 H locs ls hP hD hS hl => ?_) 5).1 x_196 (-1) f_197 _ _ _ g_192 (by omega) hP hD hS (lv_sub hl [2, 3, 4, 5, 6, 1, 0] rfl)
        · skip
          exact W.iret (v := v) hx hb hr (fun t ht hW => ⟨⟨v, (), rfl, (gi_any v), z3, z4, by rw [ht]; exact hP, hD⟩, hS.F ht⟩) hS.2.2 dX12_countsWith_39
        · skip
          exact W.iret (v := v) hx hb hr (fun t ht hW => ⟨⟨v, (), rfl, (gi_any v), z3, z4, by rw [ht]; exact hP, hD⟩, hS.F ht⟩) hS.2.2 dX12_countsWith_169
    · refine lv_aload_n hx hb dX12_countsWith_28 rfl (lv_at hl 0 rfl) ?_
      refine va_get (D := (dC, dI)) (ci := 12) (v := .ref (mr 16)) (C := RX12) (T := TX12) (N := 57) hx hb hts (fun w h => List.mem_cons_of_mem _ (jnGB_X12 w h)) hown hK hP 0 rfl rfl 36 (by decide) (hts _ (List.mem_cons_of_mem _ mGB_28)) (fun _ h9 => h9) rfl dX12_countsWith_29 ?_
      refine lv_iload_n hx hb dX12_countsWith_32 rfl (lv_at hl 1 rfl) ?_
      refine va_iald hx hb hK hP 3 2 rfl rfl (gi_in gp1 (by decide)) dX12_countsWith_33 ?_
      refine lv_topi (fun x_202 ex_202 => ?_)
      refine lv_iload_n hx hb dX12_countsWith_34 rfl (lv_at hl 2 rfl) ?_
      refine lv_icmp_eq (tgt := 40) hx hb dX12_countsWith_35 (by decide) (fun c_203 => ?_) (fun c_203 => ?_)
      · have g_204 : gi x_202 0 720 := gi_eq c_203 g_192
        refine lv_aload_n hx hb dX12_countsWith_40 rfl (lv_at hl 0 rfl) ?_
        refine va_get (D := (dC, dI)) (ci := 12) (v := .ref (mr 16)) (C := RX12) (T := TX12) (N := 57) hx hb hts (fun w h => List.mem_cons_of_mem _ (jnGB_X12 w h)) hown hK hP 0 rfl rfl 36 (by decide) (hts _ (List.mem_cons_of_mem _ mGB_28)) (fun _ h9 => h9) rfl dX12_countsWith_41 ?_
        refine lv_iload_n hx hb dX12_countsWith_44 rfl (lv_at hl 1 rfl) ?_
        refine va_iald hx hb hK hP 3 2 rfl rfl (gi_in gp1 (by decide)) dX12_countsWith_45 ?_
        refine lv_topi (fun x_205 ex_205 => ?_)
        refine lv_istore (lv' := [(5, .int x_205), (0, .ref h0), (1, .int p1), (2, .int p2), (3, .int p3), (4, .int p4)]) hx hb dX12_countsWith_46 hl (by decide) rfl (fun ls hl => ?_)
        refine lv_aload_n hx hb dX12_countsWith_48 rfl (lv_at hl 1 rfl) ?_
        refine va_get (D := (dC, dI)) (ci := 12) (v := .ref (mr 16)) (C := RX12) (T := TX12) (N := 57) hx hb hts (fun w h => List.mem_cons_of_mem _ (jnGB_X12 w h)) hown hK hP 0 rfl rfl 36 (by decide) (hts _ (List.mem_cons_of_mem _ mGB_28)) (fun _ h9 => h9) rfl dX12_countsWith_49 ?_
        refine lv_iload_n hx hb dX12_countsWith_52 rfl (lv_at hl 2 rfl) ?_
        refine lv_iload_n hx hb dX12_countsWith_53 rfl (lv_at hl 3 rfl) ?_
        refine va_iast hx hb hK hP hD hS 3 2 rfl rfl (gi_in gp1 (by decide)) dX12_countsWith_54 (fun H locs hP hD hS => ?_)
        have hP : va_P (dC, dI) vwCl [(h0, .inr (12, fsMM mi mr)), ((mr 14), .inl (km_must, 25, .inl fm_must)), ((mr 15), .inl (km_least, 25, .inl fm_least)), ((mr 16), .inl (km_pin, 25, .inl (upd fm_pin (p1 : Int32).toNatClampNeg p2))), ((mr 17), .inl (km_ways, 6875, .inl fm_ways))] H := hP
        have hD : va_D A [(h0, .inr (12, fsMM mi mr)), ((mr 14), .inl (km_must, 25, .inl fm_must)), ((mr 15), .inl (km_least, 25, .inl fm_least)), ((mr 16), .inl (km_pin, 25, .inl (upd fm_pin (p1 : Int32).toNatClampNeg p2))), ((mr 17), .inl (km_ways, 6875, .inl fm_ways))] := hD
        generalize upd fm_pin (p1 : Int32).toNatClampNeg p2 = f_206 at hP hD
        refine lv_iload_n hx hb dX12_countsWith_55 rfl (lv_at hl 4 rfl) ?_
        refine lv_iconst (v := (-1)) hx hb dX12_countsWith_56 (by decide) ?_
        refine lv_icmp_ne (tgt := 64) hx hb dX12_countsWith_57 (by decide) (fun c_207 => ?_) (fun c_207 => ?_)
        · have g_208 : gi p3 0 24 := gi_ne_lo c_207 gp3 (gi_c (-1) (-1) (by decide)) (by decide)
          refine lv_aload_n hx hb dX12_countsWith_64 rfl (lv_at hl 1 rfl) ?_
          refine va_get (D := (dC, dI)) (ci := 12) (v := .ref (mr 16)) (C := RX12) (T := TX12) (N := 57) hx hb hts (fun w h => List.mem_cons_of_mem _ (jnGB_X12 w h)) hown hK hP 0 rfl rfl 36 (by decide) (hts _ (List.mem_cons_of_mem _ mGB_28)) (fun _ h9 => h9) rfl dX12_countsWith_65 ?_
          refine lv_iload_n hx hb dX12_countsWith_68 rfl (lv_at hl 4 rfl) ?_
          refine va_iald hx hb hK hP 3 2 rfl rfl (gi_in g_208 (by decide)) dX12_countsWith_69 ?_
          refine lv_topi (fun x_209 ex_209 => ?_)
          refine lv_istore (lv' := [(6, .int x_209), (5, .int x_205), (0, .ref h0), (1, .int p1), (2, .int p2), (3, .int p3), (4, .int p4)]) hx hb dX12_countsWith_70 hl (by decide) rfl (fun ls hl => ?_)
          refine (lp_sX12_countsWith h0 mi mr km_must fm_must km_least fm_least km_pin fm_pin km_ways fm_ways p1 p2 p3 p4 gmi_0 gmi_1 gmi_2 gmi_4 gmi_7 gmi_10 gmi_17 gmi_23 gmi_24 gmi_26 gmi_29 gmi_30 gmi_33 gmi_37 gmi_41 gmi_50 gmi_51 gmi_56 gp1 gp3 hx hb hml hown hts hK hA (Nat.le_of_ble_eq_true rfl) (Nat.le_of_ble_eq_true rfl) (Nat.zero_le _) (Nat.zero_le _) (fun v z3 z4 H locs ls gv hP hD hS hl => ?_) (fun v z3 z4 H locs ls hP hD hS hl => ?_) 5).1 x_205 x_209 f_206 _ _ _ g_192 (by omega) hP hD hS (lv_sub hl [2, 3, 4, 5, 6, 1, 0] rfl)
          · skip
            exact W.iret (v := v) hx hb hr (fun t ht hW => ⟨⟨v, (), rfl, (gi_any v), z3, z4, by rw [ht]; exact hP, hD⟩, hS.F ht⟩) hS.2.2 dX12_countsWith_39
          · skip
            exact W.iret (v := v) hx hb hr (fun t ht hW => ⟨⟨v, (), rfl, (gi_any v), z3, z4, by rw [ht]; exact hP, hD⟩, hS.F ht⟩) hS.2.2 dX12_countsWith_169
        · have g_210 : gi p3 (-1) (-1) := gi_eq c_207 (gi_c (-1) (-1) (by decide))
          refine lv_iconst (v := (-1)) hx hb dX12_countsWith_60 (by decide) ?_
          refine lv_goto (tgt := 70) hx hb dX12_countsWith_61 (by decide) ?_
          refine lv_istore (lv' := [(6, .int (-1)), (5, .int x_205), (0, .ref h0), (1, .int p1), (2, .int p2), (3, .int p3), (4, .int p4)]) hx hb dX12_countsWith_70 hl (by decide) rfl (fun ls hl => ?_)
          refine (lp_sX12_countsWith h0 mi mr km_must fm_must km_least fm_least km_pin fm_pin km_ways fm_ways p1 p2 p3 p4 gmi_0 gmi_1 gmi_2 gmi_4 gmi_7 gmi_10 gmi_17 gmi_23 gmi_24 gmi_26 gmi_29 gmi_30 gmi_33 gmi_37 gmi_41 gmi_50 gmi_51 gmi_56 gp1 gp3 hx hb hml hown hts hK hA (Nat.le_of_ble_eq_true rfl) (Nat.le_of_ble_eq_true rfl) (Nat.zero_le _) (Nat.zero_le _) (fun v z3 z4 H locs ls gv hP hD hS hl => ?_) (fun v z3 z4 H locs ls hP hD hS hl => ?_) 5).1 x_205 (-1) f_206 _ _ _ g_192 (by omega) hP hD hS (lv_sub hl [2, 3, 4, 5, 6, 1, 0] rfl)
          · skip
            exact W.iret (v := v) hx hb hr (fun t ht hW => ⟨⟨v, (), rfl, (gi_any v), z3, z4, by rw [ht]; exact hP, hD⟩, hS.F ht⟩) hS.2.2 dX12_countsWith_39
          · skip
            exact W.iret (v := v) hx hb hr (fun t ht hW => ⟨⟨v, (), rfl, (gi_any v), z3, z4, by rw [ht]; exact hP, hD⟩, hS.F ht⟩) hS.2.2 dX12_countsWith_169
      · refine lv_iconst (v := 0) hx hb dX12_countsWith_38 (by decide) ?_
        exact W.iret (v := 0) hx hb hr (fun t ht hW => ⟨⟨0, (), rfl, (gi_any 0), fm_pin, fm_ways, by rw [ht]; exact hP, hD⟩, hS.F ht⟩) hS.2.2 dX12_countsWith_39
