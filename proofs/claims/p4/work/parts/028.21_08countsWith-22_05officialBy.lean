theorem dX12_countsWith_0 : decode cX12_countsWith 0 = .ok (.iload_n 2, 1) := by decide +kernel
theorem dX12_countsWith_1 : decode cX12_countsWith 1 = .ok (.i2l, 1) := by decide +kernel
theorem dX12_countsWith_2 : decode cX12_countsWith 2 = .ok (.bipush 29, 2) := by decide +kernel
theorem dX12_countsWith_4 : decode cX12_countsWith 4 = .ok (.iload_n 1, 1) := by decide +kernel
theorem dX12_countsWith_5 : decode cX12_countsWith 5 = .ok (.imul, 1) := by decide +kernel
theorem dX12_countsWith_6 : decode cX12_countsWith 6 = .ok (.i2l, 1) := by decide +kernel
theorem dX12_countsWith_7 : decode cX12_countsWith 7 = .ok (.bipush 30, 2) := by decide +kernel
theorem dX12_countsWith_9 : decode cX12_countsWith 9 = .ok (.iload_n 1, 1) := by decide +kernel
theorem dX12_countsWith_10 : decode cX12_countsWith 10 = .ok (.imul, 1) := by decide +kernel
theorem dX12_countsWith_11 : decode cX12_countsWith 11 = .ok (.i2l, 1) := by decide +kernel
theorem dX12_countsWith_12 : decode cX12_countsWith 12 = .ok (.invokestatic 102, 3) := by decide +kernel
theorem dX12_countsWith_15 : decode cX12_countsWith 15 = .ok (.ifCond .eq 23, 3) := by decide +kernel
theorem dX12_countsWith_18 : decode cX12_countsWith 18 = .ok (.aload_n 0, 1) := by decide +kernel
theorem dX12_countsWith_19 : decode cX12_countsWith 19 = .ok (.getfield 63, 3) := by decide +kernel
theorem dX12_countsWith_22 : decode cX12_countsWith 22 = .ok (.iload_n 1, 1) := by decide +kernel
theorem dX12_countsWith_23 : decode cX12_countsWith 23 = .ok (.iaload, 1) := by decide +kernel
theorem dX12_countsWith_24 : decode cX12_countsWith 24 = .ok (.iconst (-1), 1) := by decide +kernel
theorem dX12_countsWith_25 : decode cX12_countsWith 25 = .ok (.if_icmp .eq 15, 3) := by decide +kernel
theorem dX12_countsWith_28 : decode cX12_countsWith 28 = .ok (.aload_n 0, 1) := by decide +kernel
theorem dX12_countsWith_29 : decode cX12_countsWith 29 = .ok (.getfield 63, 3) := by decide +kernel
theorem dX12_countsWith_32 : decode cX12_countsWith 32 = .ok (.iload_n 1, 1) := by decide +kernel
theorem dX12_countsWith_33 : decode cX12_countsWith 33 = .ok (.iaload, 1) := by decide +kernel
theorem dX12_countsWith_34 : decode cX12_countsWith 34 = .ok (.iload_n 2, 1) := by decide +kernel
theorem dX12_countsWith_35 : decode cX12_countsWith 35 = .ok (.if_icmp .eq 5, 3) := by decide +kernel
theorem dX12_countsWith_38 : decode cX12_countsWith 38 = .ok (.iconst 0, 1) := by decide +kernel
theorem dX12_countsWith_39 : decode cX12_countsWith 39 = .ok (.ireturn, 1) := by decide +kernel
theorem dX12_countsWith_40 : decode cX12_countsWith 40 = .ok (.aload_n 0, 1) := by decide +kernel
theorem dX12_countsWith_41 : decode cX12_countsWith 41 = .ok (.getfield 63, 3) := by decide +kernel
theorem dX12_countsWith_44 : decode cX12_countsWith 44 = .ok (.iload_n 1, 1) := by decide +kernel
theorem dX12_countsWith_45 : decode cX12_countsWith 45 = .ok (.iaload, 1) := by decide +kernel
theorem dX12_countsWith_46 : decode cX12_countsWith 46 = .ok (.istore 5, 2) := by decide +kernel
theorem dX12_countsWith_48 : decode cX12_countsWith 48 = .ok (.aload_n 0, 1) := by decide +kernel
theorem dX12_countsWith_49 : decode cX12_countsWith 49 = .ok (.getfield 63, 3) := by decide +kernel
theorem dX12_countsWith_52 : decode cX12_countsWith 52 = .ok (.iload_n 1, 1) := by decide +kernel
theorem dX12_countsWith_53 : decode cX12_countsWith 53 = .ok (.iload_n 2, 1) := by decide +kernel
theorem dX12_countsWith_54 : decode cX12_countsWith 54 = .ok (.iastore, 1) := by decide +kernel
theorem dX12_countsWith_55 : decode cX12_countsWith 55 = .ok (.iload_n 3, 1) := by decide +kernel
theorem dX12_countsWith_56 : decode cX12_countsWith 56 = .ok (.iconst (-1), 1) := by decide +kernel
theorem dX12_countsWith_57 : decode cX12_countsWith 57 = .ok (.if_icmp .ne 7, 3) := by decide +kernel
theorem dX12_countsWith_60 : decode cX12_countsWith 60 = .ok (.iconst (-1), 1) := by decide +kernel
theorem dX12_countsWith_61 : decode cX12_countsWith 61 = .ok (.goto 9, 3) := by decide +kernel
theorem dX12_countsWith_64 : decode cX12_countsWith 64 = .ok (.aload_n 0, 1) := by decide +kernel
theorem dX12_countsWith_65 : decode cX12_countsWith 65 = .ok (.getfield 63, 3) := by decide +kernel
theorem dX12_countsWith_68 : decode cX12_countsWith 68 = .ok (.iload_n 3, 1) := by decide +kernel
theorem dX12_countsWith_69 : decode cX12_countsWith 69 = .ok (.iaload, 1) := by decide +kernel
theorem dX12_countsWith_70 : decode cX12_countsWith 70 = .ok (.istore 6, 2) := by decide +kernel
theorem dX12_countsWith_72 : decode cX12_countsWith 72 = .ok (.iload_n 3, 1) := by decide +kernel
theorem dX12_countsWith_73 : decode cX12_countsWith 73 = .ok (.iconst (-1), 1) := by decide +kernel
theorem dX12_countsWith_74 : decode cX12_countsWith 74 = .ok (.if_icmp .eq 16, 3) := by decide +kernel
theorem dX12_countsWith_77 : decode cX12_countsWith 77 = .ok (.iload 6, 2) := by decide +kernel
theorem dX12_countsWith_79 : decode cX12_countsWith 79 = .ok (.iconst (-1), 1) := by decide +kernel
theorem dX12_countsWith_80 : decode cX12_countsWith 80 = .ok (.if_icmp .eq 10, 3) := by decide +kernel
theorem dX12_countsWith_83 : decode cX12_countsWith 83 = .ok (.iload 6, 2) := by decide +kernel
theorem dX12_countsWith_85 : decode cX12_countsWith 85 = .ok (.iload 4, 2) := by decide +kernel
theorem dX12_countsWith_87 : decode cX12_countsWith 87 = .ok (.if_icmp .ne 7, 3) := by decide +kernel
theorem dX12_countsWith_90 : decode cX12_countsWith 90 = .ok (.iconst 1, 1) := by decide +kernel
theorem dX12_countsWith_91 : decode cX12_countsWith 91 = .ok (.goto 4, 3) := by decide +kernel
theorem dX12_countsWith_94 : decode cX12_countsWith 94 = .ok (.iconst 0, 1) := by decide +kernel
theorem dX12_countsWith_95 : decode cX12_countsWith 95 = .ok (.istore 7, 2) := by decide +kernel
theorem dX12_countsWith_97 : decode cX12_countsWith 97 = .ok (.iload_n 3, 1) := by decide +kernel
theorem dX12_countsWith_98 : decode cX12_countsWith 98 = .ok (.iconst (-1), 1) := by decide +kernel
theorem dX12_countsWith_99 : decode cX12_countsWith 99 = .ok (.if_icmp .eq 11, 3) := by decide +kernel
theorem dX12_countsWith_102 : decode cX12_countsWith 102 = .ok (.aload_n 0, 1) := by decide +kernel
theorem dX12_countsWith_103 : decode cX12_countsWith 103 = .ok (.getfield 63, 3) := by decide +kernel
theorem dX12_countsWith_106 : decode cX12_countsWith 106 = .ok (.iload_n 3, 1) := by decide +kernel
theorem dX12_countsWith_107 : decode cX12_countsWith 107 = .ok (.iload 4, 2) := by decide +kernel
theorem dX12_countsWith_109 : decode cX12_countsWith 109 = .ok (.iastore, 1) := by decide +kernel
theorem dX12_countsWith_110 : decode cX12_countsWith 110 = .ok (.iload 7, 2) := by decide +kernel
theorem dX12_countsWith_112 : decode cX12_countsWith 112 = .ok (.ifCond .eq 31, 3) := by decide +kernel
theorem dX12_countsWith_115 : decode cX12_countsWith 115 = .ok (.iload_n 3, 1) := by decide +kernel
theorem dX12_countsWith_116 : decode cX12_countsWith 116 = .ok (.iload_n 1, 1) := by decide +kernel
theorem dX12_countsWith_117 : decode cX12_countsWith 117 = .ok (.if_icmp .ne 9, 3) := by decide +kernel
theorem dX12_countsWith_120 : decode cX12_countsWith 120 = .ok (.iload 4, 2) := by decide +kernel
theorem dX12_countsWith_122 : decode cX12_countsWith 122 = .ok (.iload_n 2, 1) := by decide +kernel
theorem dX12_countsWith_123 : decode cX12_countsWith 123 = .ok (.if_icmp .ne 20, 3) := by decide +kernel
theorem dX12_countsWith_126 : decode cX12_countsWith 126 = .ok (.iload_n 2, 1) := by decide +kernel
theorem dX12_countsWith_127 : decode cX12_countsWith 127 = .ok (.ifCond .lt 16, 3) := by decide +kernel
theorem dX12_countsWith_130 : decode cX12_countsWith 130 = .ok (.iload 4, 2) := by decide +kernel
theorem dX12_countsWith_132 : decode cX12_countsWith 132 = .ok (.iconst (-1), 1) := by decide +kernel
theorem dX12_countsWith_133 : decode cX12_countsWith 133 = .ok (.if_icmp .lt 10, 3) := by decide +kernel
theorem dX12_countsWith_136 : decode cX12_countsWith 136 = .ok (.aload_n 0, 1) := by decide +kernel
theorem dX12_countsWith_137 : decode cX12_countsWith 137 = .ok (.invokevirtual 332, 3) := by decide +kernel
theorem dX12_countsWith_140 : decode cX12_countsWith 140 = .ok (.goto 4, 3) := by decide +kernel
theorem dX12_countsWith_143 : decode cX12_countsWith 143 = .ok (.iconst 0, 1) := by decide +kernel
theorem dX12_countsWith_144 : decode cX12_countsWith 144 = .ok (.istore 8, 2) := by decide +kernel
theorem dX12_countsWith_146 : decode cX12_countsWith 146 = .ok (.iload_n 3, 1) := by decide +kernel
theorem dX12_countsWith_147 : decode cX12_countsWith 147 = .ok (.iconst (-1), 1) := by decide +kernel
theorem dX12_countsWith_148 : decode cX12_countsWith 148 = .ok (.if_icmp .eq 11, 3) := by decide +kernel
theorem dX12_countsWith_151 : decode cX12_countsWith 151 = .ok (.aload_n 0, 1) := by decide +kernel
theorem dX12_countsWith_152 : decode cX12_countsWith 152 = .ok (.getfield 63, 3) := by decide +kernel
theorem dX12_countsWith_155 : decode cX12_countsWith 155 = .ok (.iload_n 3, 1) := by decide +kernel
theorem dX12_countsWith_156 : decode cX12_countsWith 156 = .ok (.iload 6, 2) := by decide +kernel
theorem dX12_countsWith_158 : decode cX12_countsWith 158 = .ok (.iastore, 1) := by decide +kernel
theorem dX12_countsWith_159 : decode cX12_countsWith 159 = .ok (.aload_n 0, 1) := by decide +kernel
theorem dX12_countsWith_160 : decode cX12_countsWith 160 = .ok (.getfield 63, 3) := by decide +kernel
theorem dX12_countsWith_163 : decode cX12_countsWith 163 = .ok (.iload_n 1, 1) := by decide +kernel
theorem dX12_countsWith_164 : decode cX12_countsWith 164 = .ok (.iload 5, 2) := by decide +kernel
theorem dX12_countsWith_166 : decode cX12_countsWith 166 = .ok (.iastore, 1) := by decide +kernel
theorem dX12_countsWith_167 : decode cX12_countsWith 167 = .ok (.iload 8, 2) := by decide +kernel
theorem dX12_countsWith_169 : decode cX12_countsWith 169 = .ok (.ireturn, 1) := by decide +kernel
set_option maxHeartbeats 4000000 in
set_option maxRecDepth 100000 in
theorem lp_sX12_countsWith {p : Program} {l : Launch} {e : Env} {R : Room} {s : State} {m : MethodId} {args : Array Value} {below : List Frame} {meth : Method} {c : Code} {Q : State → Prop} {A : Nat → Prop} {cells slots : Nat} {dC : Nat → ClassId} {dI : Nat → Nat → Nat} (h0 : Nat) (mi : Nat → Int32) (mr : Nat → Nat) (km_must : ClassId) (fm_must : Nat → Int32) (km_least : ClassId) (fm_least : Nat → Int32) (km_pin : ClassId) (fm_pin : Nat → Int32) (km_ways : ClassId) (fm_ways : Nat → Int32) (p1 : Int32) (p2 : Int32) (p3 : Int32) (p4 : Int32) (gmi_0 : gi (mi 0) 0 24) (gmi_1 : gi (mi 1) 0 5) (gmi_2 : gi (mi 2) 0 5) (gmi_4 : gi (mi 4) 0 1) (gmi_7 : gi (mi 7) 0 6) (gmi_10 : gi (mi 10) 0 24) (gmi_17 : gi (mi 17) 0 8) (gmi_23 : gi (mi 23) 0 300) (gmi_24 : gi (mi 24) 0 1) (gmi_26 : gi (mi 26) 0 1600) (gmi_29 : gi (mi 29) 0 1600) (gmi_30 : gi (mi 30) 0 1600) (gmi_33 : gi (mi 33) 0 1) (gmi_37 : gi (mi 37) 0 1) (gmi_41 : gi (mi 41) 0 24) (gmi_50 : gi (mi 50) 0 1) (gmi_51 : gi (mi 51) 0 1) (gmi_56 : gi (mi 56) 0 80) (gp1 : gi p1 0 24) (gp3 : gi p3 (-1) 24) (hx : p.tables.exec = Jvm.exec) (hb : c.code = cX12_countsWith) (hml : c.maxLocals = 9) (hown : s.vm.findClass RX12 = some m.cls) (hts : ∀ w ∈ ((.code yX12_countsWith cX12_countsWith 9 (some .int) :: wsGB) : List Cond), w.before args s = true) (hK : va_K (dC, dI) vwCl [(km_must, .int), (km_least, .int), (km_pin, .int), (km_ways, .int)] s) (hA : ∀ q : Nat, s.heap.size ≤ q → A q) (hRf : 3 ≤ R.frames) (hRl : 73 ≤ R.locals) (hRc : cells ≤ R.cells) (hRs : slots ≤ R.slots) (kr39 : ∀ (v : Int32) (z3 : Nat → Int32) (z4 : Nat → Int32) (H : Heap) (locs : List Loc) (ls : Array Slot), gi v 0 0 → va_P (dC, dI) vwCl [(h0, .inr (12, fsMM mi mr)), ((mr 14), .inl (km_must, 25, .inl fm_must)), ((mr 15), .inl (km_least, 25, .inl fm_least)), ((mr 16), .inl (km_pin, 25, .inl z3)), ((mr 17), .inl (km_ways, 6875, .inl z4))] H → va_D A [(h0, .inr (12, fsMM mi mr)), ((mr 14), .inl (km_must, 25, .inl fm_must)), ((mr 15), .inl (km_least, 25, .inl fm_least)), ((mr 16), .inl (km_pin, 25, .inl z3)), ((mr 17), .inl (km_ways, 6875, .inl z4))] → va_S A s.heap H locs → lv_has ls 9 [] → W p l e R s m args below meth c H locs cells slots Q (F0 m 39 ls [.int v])) (kr169 : ∀ (v : Int32) (z3 : Nat → Int32) (z4 : Nat → Int32) (H : Heap) (locs : List Loc) (ls : Array Slot), va_P (dC, dI) vwCl [(h0, .inr (12, fsMM mi mr)), ((mr 14), .inl (km_must, 25, .inl fm_must)), ((mr 15), .inl (km_least, 25, .inl fm_least)), ((mr 16), .inl (km_pin, 25, .inl z3)), ((mr 17), .inl (km_ways, 6875, .inl z4))] H → va_D A [(h0, .inr (12, fsMM mi mr)), ((mr 14), .inl (km_must, 25, .inl fm_must)), ((mr 15), .inl (km_least, 25, .inl fm_least)), ((mr 16), .inl (km_pin, 25, .inl z3)), ((mr 17), .inl (km_ways, 6875, .inl z4))] → va_S A s.heap H locs → lv_has ls 9 [] → W p l e R s m args below meth c H locs cells slots Q (F0 m 169 ls [.int v])) : ∀ z : Nat, (∀ (v5 : Int32) (v6 : Int32) (z3 : Nat → Int32) (H : Heap) (locs : List Loc) (ls : Array Slot), gi p2 0 720 → 3 < (z : Int) → va_P (dC, dI) vwCl [(h0, .inr (12, fsMM mi mr)), ((mr 14), .inl (km_must, 25, .inl fm_must)), ((mr 15), .inl (km_least, 25, .inl fm_least)), ((mr 16), .inl (km_pin, 25, .inl z3)), ((mr 17), .inl (km_ways, 6875, .inl fm_ways))] H → va_D A [(h0, .inr (12, fsMM mi mr)), ((mr 14), .inl (km_must, 25, .inl fm_must)), ((mr 15), .inl (km_least, 25, .inl fm_least)), ((mr 16), .inl (km_pin, 25, .inl z3)), ((mr 17), .inl (km_ways, 6875, .inl fm_ways))] → va_S A s.heap H locs → lv_has ls 9 [(0, .ref h0), (1, .int p1), (2, .int p2), (3, .int p3), (4, .int p4), (5, .int v5), (6, .int v6)] → W p l e R s m args below meth c H locs cells slots Q (F0 m 72 ls [])) ∧ (∀ (v5 : Int32) (v6 : Int32) (v7 : Int32) (z3 : Nat → Int32) (H : Heap) (locs : List Loc) (ls : Array Slot), gi p2 0 720 → gi v7 0 1 → 2 < (z : Int) → va_P (dC, dI) vwCl [(h0, .inr (12, fsMM mi mr)), ((mr 14), .inl (km_must, 25, .inl fm_must)), ((mr 15), .inl (km_least, 25, .inl fm_least)), ((mr 16), .inl (km_pin, 25, .inl z3)), ((mr 17), .inl (km_ways, 6875, .inl fm_ways))] H → va_D A [(h0, .inr (12, fsMM mi mr)), ((mr 14), .inl (km_must, 25, .inl fm_must)), ((mr 15), .inl (km_least, 25, .inl fm_least)), ((mr 16), .inl (km_pin, 25, .inl z3)), ((mr 17), .inl (km_ways, 6875, .inl fm_ways))] → va_S A s.heap H locs → lv_has ls 9 [(0, .ref h0), (1, .int p1), (2, .int p2), (3, .int p3), (4, .int p4), (5, .int v5), (6, .int v6), (7, .int v7)] → W p l e R s m args below meth c H locs cells slots Q (F0 m 97 ls [])) ∧ (∀ (v5 : Int32) (v6 : Int32) (v7 : Int32) (v8 : Int32) (z3 : Nat → Int32) (z4 : Nat → Int32) (H : Heap) (locs : List Loc) (ls : Array Slot), gi p2 0 720 → gi v7 0 1 → 1 < (z : Int) → va_P (dC, dI) vwCl [(h0, .inr (12, fsMM mi mr)), ((mr 14), .inl (km_must, 25, .inl fm_must)), ((mr 15), .inl (km_least, 25, .inl fm_least)), ((mr 16), .inl (km_pin, 25, .inl z3)), ((mr 17), .inl (km_ways, 6875, .inl z4))] H → va_D A [(h0, .inr (12, fsMM mi mr)), ((mr 14), .inl (km_must, 25, .inl fm_must)), ((mr 15), .inl (km_least, 25, .inl fm_least)), ((mr 16), .inl (km_pin, 25, .inl z3)), ((mr 17), .inl (km_ways, 6875, .inl z4))] → va_S A s.heap H locs → lv_has ls 9 [(0, .ref h0), (1, .int p1), (2, .int p2), (3, .int p3), (4, .int p4), (5, .int v5), (6, .int v6), (7, .int v7), (8, .int v8)] → W p l e R s m args below meth c H locs cells slots Q (F0 m 146 ls [])) := by
  intro z
  induction z with
  | zero =>
    refine ⟨?_, ?_, ?_⟩
    · intro v5 v6 z3 H locs ls gf_p2 hmu hP hD hS hl
      exact absurd hmu (by omega)
    · intro v5 v6 v7 z3 H locs ls gf_p2 gv7 hmu hP hD hS hl
      exact absurd hmu (by omega)
    · intro v5 v6 v7 v8 z3 z4 H locs ls gf_p2 gv7 hmu hP hD hS hl
      exact absurd hmu (by omega)
  | succ z ih =>
    refine ⟨?_, ?_, ?_⟩
    · intro v5 v6 z3 H locs ls gf_p2 hmu hP hD hS hl
      refine lv_iload_n hx hb dX12_countsWith_72 rfl (lv_at hl 3 rfl) ?_
      refine lv_iconst (v := (-1)) hx hb dX12_countsWith_73 (by decide) ?_
      refine lv_icmp_eq (tgt := 90) hx hb dX12_countsWith_74 (by decide) (fun c_141 => ?_) (fun c_141 => ?_)
      · have g_142 : gi p3 (-1) (-1) := gi_eq c_141 (gi_c (-1) (-1) (by decide))
        refine lv_iconst (v := 1) hx hb dX12_countsWith_90 (by decide) ?_
        refine lv_goto (tgt := 95) hx hb dX12_countsWith_91 (by decide) ?_
        refine lv_istore (lv' := [(7, .int 1), (0, .ref h0), (1, .int p1), (2, .int p2), (3, .int p3), (4, .int p4), (5, .int v5), (6, .int v6)]) hx hb dX12_countsWith_95 hl (by decide) rfl (fun ls hl => ?_)
        exact ih.2.1 v5 v6 1 z3 _ _ _ gf_p2 (gi_w (gi_c 1 1 (by decide)) (by decide)) (by omega) hP hD hS (lv_sub hl [1, 2, 3, 4, 5, 6, 7, 0] rfl)
      · have g_143 : gi p3 0 24 := gi_ne_lo c_141 gp3 (gi_c (-1) (-1) (by decide)) (by decide)
        refine lv_iload hx hb dX12_countsWith_77 (lv_at hl 6 rfl) ?_
        refine lv_iconst (v := (-1)) hx hb dX12_countsWith_79 (by decide) ?_
        refine lv_icmp_eq (tgt := 90) hx hb dX12_countsWith_80 (by decide) (fun c_144 => ?_) (fun c_144 => ?_)
        · have g_145 : gi v6 (-1) (-1) := gi_eq c_144 (gi_c (-1) (-1) (by decide))
          refine lv_iconst (v := 1) hx hb dX12_countsWith_90 (by decide) ?_
          refine lv_goto (tgt := 95) hx hb dX12_countsWith_91 (by decide) ?_
          refine lv_istore (lv' := [(7, .int 1), (0, .ref h0), (1, .int p1), (2, .int p2), (3, .int p3), (4, .int p4), (5, .int v5), (6, .int v6)]) hx hb dX12_countsWith_95 hl (by decide) rfl (fun ls hl => ?_)
          exact ih.2.1 v5 v6 1 z3 _ _ _ gf_p2 (gi_w (gi_c 1 1 (by decide)) (by decide)) (by omega) hP hD hS (lv_sub hl [1, 2, 3, 4, 5, 6, 7, 0] rfl)
        · refine lv_iload hx hb dX12_countsWith_83 (lv_at hl 6 rfl) ?_
          refine lv_iload hx hb dX12_countsWith_85 (lv_at hl 4 rfl) ?_
          refine lv_icmp_ne (tgt := 94) hx hb dX12_countsWith_87 (by decide) (fun c_146 => ?_) (fun c_146 => ?_)
          · refine lv_iconst (v := 0) hx hb dX12_countsWith_94 (by decide) ?_
            refine lv_istore (lv' := [(7, .int 0), (0, .ref h0), (1, .int p1), (2, .int p2), (3, .int p3), (4, .int p4), (5, .int v5), (6, .int v6)]) hx hb dX12_countsWith_95 hl (by decide) rfl (fun ls hl => ?_)
            exact ih.2.1 v5 v6 0 z3 _ _ _ gf_p2 (gi_w (gi_c 0 0 (by decide)) (by decide)) (by omega) hP hD hS (lv_sub hl [1, 2, 3, 4, 5, 6, 7, 0] rfl)
          · refine lv_iconst (v := 1) hx hb dX12_countsWith_90 (by decide) ?_
            refine lv_goto (tgt := 95) hx hb dX12_countsWith_91 (by decide) ?_
            refine lv_istore (lv' := [(7, .int 1), (0, .ref h0), (1, .int p1), (2, .int p2), (3, .int p3), (4, .int p4), (5, .int v5), (6, .int v6)]) hx hb dX12_countsWith_95 hl (by decide) rfl (fun ls hl => ?_)
            exact ih.2.1 v5 v6 1 z3 _ _ _ gf_p2 (gi_w (gi_c 1 1 (by decide)) (by decide)) (by omega) hP hD hS (lv_sub hl [1, 2, 3, 4, 5, 6, 7, 0] rfl)
    · intro v5 v6 v7 z3 H locs ls gf_p2 gv7 hmu hP hD hS hl
      refine lv_iload_n hx hb dX12_countsWith_97 rfl (lv_at hl 3 rfl) ?_
      refine lv_iconst (v := (-1)) hx hb dX12_countsWith_98 (by decide) ?_
      refine lv_icmp_eq (tgt := 110) hx hb dX12_countsWith_99 (by decide) (fun c_147 => ?_) (fun c_147 => ?_)
      · have g_148 : gi p3 (-1) (-1) := gi_eq c_147 (gi_c (-1) (-1) (by decide))
        refine lv_iload hx hb dX12_countsWith_110 (lv_at hl 7 rfl) ?_
        refine lv_if_eq (tgt := 143) hx hb dX12_countsWith_112 (by decide) (fun c_149 => ?_) (fun c_149 => ?_)
        · have g_150 : gi v7 0 0 := gi_eq c_149 (gi_c 0 0 (by decide))
          refine lv_iconst (v := 0) hx hb dX12_countsWith_143 (by decide) ?_
          refine lv_istore (lv' := [(8, .int 0), (0, .ref h0), (1, .int p1), (2, .int p2), (3, .int p3), (4, .int p4), (5, .int v5), (6, .int v6), (7, .int v7)]) hx hb dX12_countsWith_144 hl (by decide) rfl (fun ls hl => ?_)
          exact ih.2.2 v5 v6 v7 0 z3 fm_ways _ _ _ gf_p2 (gi_w g_150 (by decide)) (by omega) hP hD hS (lv_sub hl [1, 2, 3, 4, 5, 6, 7, 8, 0] rfl)
        · have g_151 : gi v7 1 1 := gi_ne_lo c_149 gv7 (gi_c 0 0 (by decide)) (by decide)
          refine lv_iload_n hx hb dX12_countsWith_115 rfl (lv_at hl 3 rfl) ?_
          refine lv_iload_n hx hb dX12_countsWith_116 rfl (lv_at hl 1 rfl) ?_
          refine lv_icmp_ne (tgt := 126) hx hb dX12_countsWith_117 (by decide) (fun c_152 => ?_) (fun c_152 => absurd c_152 (gi_no_eq g_148 gp1 (by decide)))
          refine lv_iload_n hx hb dX12_countsWith_126 rfl (lv_at hl 2 rfl) ?_
          refine lv_if_lt (tgt := 143) hx hb dX12_countsWith_127 (by decide) (fun c_153 => absurd c_153 (gi_no_lt gf_p2 (gi_c 0 0 (by decide)) (by decide))) (fun c_153 => ?_)
          refine lv_iload hx hb dX12_countsWith_130 (lv_at hl 4 rfl) ?_
          refine lv_iconst (v := (-1)) hx hb dX12_countsWith_132 (by decide) ?_
          refine lv_icmp_lt (tgt := 143) hx hb dX12_countsWith_133 (by decide) (fun c_154 => ?_) (fun c_154 => ?_)
          · have g_155 : gi p4 (-2147483648) (-2) := gi_lt_l c_154 (gi_any p4) (gi_c (-1) (-1) (by decide)) (by decide)
            refine lv_iconst (v := 0) hx hb dX12_countsWith_143 (by decide) ?_
            refine lv_istore (lv' := [(8, .int 0), (0, .ref h0), (1, .int p1), (2, .int p2), (3, .int p3), (4, .int p4), (5, .int v5), (6, .int v6), (7, .int v7)]) hx hb dX12_countsWith_144 hl (by decide) rfl (fun ls hl => ?_)
            exact ih.2.2 v5 v6 v7 0 z3 fm_ways _ _ _ gf_p2 (gi_w g_151 (by decide)) (by omega) hP hD hS (lv_sub hl [1, 2, 3, 4, 5, 6, 7, 8, 0] rfl)
          · have g_156 : gi p4 (-1) 2147483647 := gi_le_r (Int32.not_lt.mp c_154) (gi_c (-1) (-1) (by decide)) (gi_any p4)
            refine lv_aload_n hx hb dX12_countsWith_136 rfl (lv_at hl 0 rfl) ?_
            have hPc := hP.sub (ws' := [(h0, .inr (12, fsMM mi mr)), ((mr 14), .inl (km_must, 25, .inl fm_must)), ((mr 15), .inl (km_least, 25, .inl fm_least)), ((mr 16), .inl (km_pin, 25, .inl z3)), ((mr 17), .inl (km_ways, 6875, .inl fm_ways))]) [0, 1, 2, 3, 4] rfl
            have hKc := hK.sub (tys' := [(km_must, .int), (km_least, .int), (km_pin, .int), (km_ways, .int)]) [0, 1, 2, 3] rfl
            have hDc := hD.sub (ws' := [(h0, .inr (12, fsMM mi mr)), ((mr 14), .inl (km_must, 25, .inl fm_must)), ((mr 15), .inl (km_least, 25, .inl fm_least)), ((mr 16), .inl (km_pin, 25, .inl z3)), ((mr 17), .inl (km_ways, 6875, .inl fm_ways))]) [0, 1, 2, 3, 4] (by decide) rfl
            have hFc := va_free (wc := [(h0, .inr (12, fsMM mi mr)), ((mr 14), .inl (km_must, 25, .inl fm_must)), ((mr 15), .inl (km_least, 25, .inl fm_least)), ((mr 16), .inl (km_pin, 25, .inl z3)), ((mr 17), .inl (km_ways, 6875, .inl fm_ways))]) hD hS hA [0, 1, 2, 3, 4] rfl
            refine va_calli (va_runV (As := []) (rest := []) ⟨hx, hb, hml, hown, hts⟩ (sX12_counts l dC dI H.size h0 mi mr km_must fm_must km_least fm_least km_pin z3 km_ways fm_ways gmi_0 gmi_1 gmi_2 gmi_4 gmi_7 gmi_10 gmi_17 gmi_23 gmi_24 gmi_26 gmi_29 gmi_30 gmi_33 gmi_37 gmi_41 gmi_50 gmi_51 gmi_56) (cwV 0 hts (gz_gV mGB_299 mGB_300 mGB_301 mGB_1 mGB_302 goodGB) rfl rfl rfl (by decide +kernel) ⟨Nat.le_trans (Nat.le_of_ble_eq_true rfl) hRf, Nat.le_trans (Nat.le_of_ble_eq_true rfl) hRl⟩) ⟨fun a U g mk q => by obtain ⟨q0, q1, qP, qK, qD⟩ := q; exact ⟨q0, q1, qP, va_K.moved (u := U) (U := U.calling g mk a) (Vm.Alike.refl U.vm) qK, qD⟩, va_recv hKc hPc (ci := 12) (q0 := 0) rfl rfl, fun U hU hW => ⟨rfl, by rw [hU], by rw [hU]; exact hPc, va_K.moved hW.alike hKc, hDc.weaken (fun _ _ _ _ => trivial)⟩⟩ rfl rfl hl.1 rfl (lv_room (Nat.le_of_ble_eq_true rfl)) dX12_countsWith_137 ⟨hRc, hRs⟩) hS (fun q _ h => hFc q h) hFc (fun r_157 u t H1 locs ht hvm hw hB hz1 hk1 hS => ?_)
            obtain ⟨f_158, hP1, hD1⟩ := hB
            rw [ht] at hP1
            obtain ⟨hP, hD⟩ := va_join (wr := []) (w1 := [(h0, .inr (12, fsMM mi mr)), ((mr 14), .inl (km_must, 25, .inl fm_must)), ((mr 15), .inl (km_least, 25, .inl fm_least)), ((mr 16), .inl (km_pin, 25, .inl z3)), ((mr 17), .inl (km_ways, 6875, .inl f_158))]) hP hD [0, 1, 2, 3, 4] [] rfl rfl (by decide) (by decide) hk1 hFc hP1 hD1
            have hP := hP.sub (ws' := [(h0, .inr (12, fsMM mi mr)), ((mr 14), .inl (km_must, 25, .inl fm_must)), ((mr 15), .inl (km_least, 25, .inl fm_least)), ((mr 16), .inl (km_pin, 25, .inl z3)), ((mr 17), .inl (km_ways, 6875, .inl f_158))]) [0, 1, 2, 3, 4] rfl
            have hD := hD.sub (ws' := [(h0, .inr (12, fsMM mi mr)), ((mr 14), .inl (km_must, 25, .inl fm_must)), ((mr 15), .inl (km_least, 25, .inl fm_least)), ((mr 16), .inl (km_pin, 25, .inl z3)), ((mr 17), .inl (km_ways, 6875, .inl f_158))]) [0, 1, 2, 3, 4] (by decide) rfl
            generalize H1 = H at hP hS ⊢
            refine lv_goto (tgt := 144) hx hb dX12_countsWith_140 (by decide) ?_
            refine lv_istore (lv' := [(8, .int r_157), (0, .ref h0), (1, .int p1), (2, .int p2), (3, .int p3), (4, .int p4), (5, .int v5), (6, .int v6), (7, .int v7)]) hx hb dX12_countsWith_144 hl (by decide) rfl (fun ls hl => ?_)
            exact ih.2.2 v5 v6 v7 r_157 z3 f_158 _ _ _ gf_p2 (gi_w g_151 (by decide)) (by omega) hP hD hS (lv_sub hl [1, 2, 3, 4, 5, 6, 7, 8, 0] rfl)
      · have g_159 : gi p3 0 24 := gi_ne_lo c_147 gp3 (gi_c (-1) (-1) (by decide)) (by decide)
        refine lv_aload_n hx hb dX12_countsWith_102 rfl (lv_at hl 0 rfl) ?_
        refine va_get (D := (dC, dI)) (ci := 12) (v := .ref (mr 16)) (C := RX12) (T := TX12) (N := 57) hx hb hts (fun w h => List.mem_cons_of_mem _ (jnGB_X12 w h)) hown hK hP 0 rfl rfl 36 (by decide) (hts _ (List.mem_cons_of_mem _ mGB_28)) (fun _ h9 => h9) rfl dX12_countsWith_103 ?_
        refine lv_iload_n hx hb dX12_countsWith_106 rfl (lv_at hl 3 rfl) ?_
        refine lv_iload hx hb dX12_countsWith_107 (lv_at hl 4 rfl) ?_
        refine va_iast hx hb hK hP hD hS 3 2 rfl rfl (gi_in g_159 (by decide)) dX12_countsWith_109 (fun H locs hP hD hS => ?_)
        have hP : va_P (dC, dI) vwCl [(h0, .inr (12, fsMM mi mr)), ((mr 14), .inl (km_must, 25, .inl fm_must)), ((mr 15), .inl (km_least, 25, .inl fm_least)), ((mr 16), .inl (km_pin, 25, .inl (upd z3 (p3 : Int32).toNatClampNeg p4))), ((mr 17), .inl (km_ways, 6875, .inl fm_ways))] H := hP
        have hD : va_D A [(h0, .inr (12, fsMM mi mr)), ((mr 14), .inl (km_must, 25, .inl fm_must)), ((mr 15), .inl (km_least, 25, .inl fm_least)), ((mr 16), .inl (km_pin, 25, .inl (upd z3 (p3 : Int32).toNatClampNeg p4))), ((mr 17), .inl (km_ways, 6875, .inl fm_ways))] := hD
        generalize upd z3 (p3 : Int32).toNatClampNeg p4 = f_160 at hP hD
        refine lv_iload hx hb dX12_countsWith_110 (lv_at hl 7 rfl) ?_
        refine lv_if_eq (tgt := 143) hx hb dX12_countsWith_112 (by decide) (fun c_161 => ?_) (fun c_161 => ?_)
        · have g_162 : gi v7 0 0 := gi_eq c_161 (gi_c 0 0 (by decide))
          refine lv_iconst (v := 0) hx hb dX12_countsWith_143 (by decide) ?_
          refine lv_istore (lv' := [(8, .int 0), (0, .ref h0), (1, .int p1), (2, .int p2), (3, .int p3), (4, .int p4), (5, .int v5), (6, .int v6), (7, .int v7)]) hx hb dX12_countsWith_144 hl (by decide) rfl (fun ls hl => ?_)
          exact ih.2.2 v5 v6 v7 0 f_160 fm_ways _ _ _ gf_p2 (gi_w g_162 (by decide)) (by omega) hP hD hS (lv_sub hl [1, 2, 3, 4, 5, 6, 7, 8, 0] rfl)
        · have g_163 : gi v7 1 1 := gi_ne_lo c_161 gv7 (gi_c 0 0 (by decide)) (by decide)
          refine lv_iload_n hx hb dX12_countsWith_115 rfl (lv_at hl 3 rfl) ?_
          refine lv_iload_n hx hb dX12_countsWith_116 rfl (lv_at hl 1 rfl) ?_
          refine lv_icmp_ne (tgt := 126) hx hb dX12_countsWith_117 (by decide) (fun c_164 => ?_) (fun c_164 => ?_)
          · refine lv_iload_n hx hb dX12_countsWith_126 rfl (lv_at hl 2 rfl) ?_
            refine lv_if_lt (tgt := 143) hx hb dX12_countsWith_127 (by decide) (fun c_165 => absurd c_165 (gi_no_lt gf_p2 (gi_c 0 0 (by decide)) (by decide))) (fun c_165 => ?_)
            refine lv_iload hx hb dX12_countsWith_130 (lv_at hl 4 rfl) ?_
            refine lv_iconst (v := (-1)) hx hb dX12_countsWith_132 (by decide) ?_
            refine lv_icmp_lt (tgt := 143) hx hb dX12_countsWith_133 (by decide) (fun c_166 => ?_) (fun c_166 => ?_)
            · have g_167 : gi p4 (-2147483648) (-2) := gi_lt_l c_166 (gi_any p4) (gi_c (-1) (-1) (by decide)) (by decide)
              refine lv_iconst (v := 0) hx hb dX12_countsWith_143 (by decide) ?_
              refine lv_istore (lv' := [(8, .int 0), (0, .ref h0), (1, .int p1), (2, .int p2), (3, .int p3), (4, .int p4), (5, .int v5), (6, .int v6), (7, .int v7)]) hx hb dX12_countsWith_144 hl (by decide) rfl (fun ls hl => ?_)
              exact ih.2.2 v5 v6 v7 0 f_160 fm_ways _ _ _ gf_p2 (gi_w g_163 (by decide)) (by omega) hP hD hS (lv_sub hl [1, 2, 3, 4, 5, 6, 7, 8, 0] rfl)
            · have g_168 : gi p4 (-1) 2147483647 := gi_le_r (Int32.not_lt.mp c_166) (gi_c (-1) (-1) (by decide)) (gi_any p4)
              refine lv_aload_n hx hb dX12_countsWith_136 rfl (lv_at hl 0 rfl) ?_
              have hPc := hP.sub (ws' := [(h0, .inr (12, fsMM mi mr)), ((mr 14), .inl (km_must, 25, .inl fm_must)), ((mr 15), .inl (km_least, 25, .inl fm_least)), ((mr 16), .inl (km_pin, 25, .inl f_160)), ((mr 17), .inl (km_ways, 6875, .inl fm_ways))]) [0, 1, 2, 3, 4] rfl
              have hKc := hK.sub (tys' := [(km_must, .int), (km_least, .int), (km_pin, .int), (km_ways, .int)]) [0, 1, 2, 3] rfl
              have hDc := hD.sub (ws' := [(h0, .inr (12, fsMM mi mr)), ((mr 14), .inl (km_must, 25, .inl fm_must)), ((mr 15), .inl (km_least, 25, .inl fm_least)), ((mr 16), .inl (km_pin, 25, .inl f_160)), ((mr 17), .inl (km_ways, 6875, .inl fm_ways))]) [0, 1, 2, 3, 4] (by decide) rfl
              have hFc := va_free (wc := [(h0, .inr (12, fsMM mi mr)), ((mr 14), .inl (km_must, 25, .inl fm_must)), ((mr 15), .inl (km_least, 25, .inl fm_least)), ((mr 16), .inl (km_pin, 25, .inl f_160)), ((mr 17), .inl (km_ways, 6875, .inl fm_ways))]) hD hS hA [0, 1, 2, 3, 4] rfl
              refine va_calli (va_runV (As := []) (rest := []) ⟨hx, hb, hml, hown, hts⟩ (sX12_counts l dC dI H.size h0 mi mr km_must fm_must km_least fm_least km_pin f_160 km_ways fm_ways gmi_0 gmi_1 gmi_2 gmi_4 gmi_7 gmi_10 gmi_17 gmi_23 gmi_24 gmi_26 gmi_29 gmi_30 gmi_33 gmi_37 gmi_41 gmi_50 gmi_51 gmi_56) (cwV 0 hts (gz_gV mGB_299 mGB_300 mGB_301 mGB_1 mGB_302 goodGB) rfl rfl rfl (by decide +kernel) ⟨Nat.le_trans (Nat.le_of_ble_eq_true rfl) hRf, Nat.le_trans (Nat.le_of_ble_eq_true rfl) hRl⟩) ⟨fun a U g mk q => by obtain ⟨q0, q1, qP, qK, qD⟩ := q; exact ⟨q0, q1, qP, va_K.moved (u := U) (U := U.calling g mk a) (Vm.Alike.refl U.vm) qK, qD⟩, va_recv hKc hPc (ci := 12) (q0 := 0) rfl rfl, fun U hU hW => ⟨rfl, by rw [hU], by rw [hU]; exact hPc, va_K.moved hW.alike hKc, hDc.weaken (fun _ _ _ _ => trivial)⟩⟩ rfl rfl hl.1 rfl (lv_room (Nat.le_of_ble_eq_true rfl)) dX12_countsWith_137 ⟨hRc, hRs⟩) hS (fun q _ h => hFc q h) hFc (fun r_169 u t H1 locs ht hvm hw hB hz1 hk1 hS => ?_)
              obtain ⟨f_170, hP1, hD1⟩ := hB
              rw [ht] at hP1
              obtain ⟨hP, hD⟩ := va_join (wr := []) (w1 := [(h0, .inr (12, fsMM mi mr)), ((mr 14), .inl (km_must, 25, .inl fm_must)), ((mr 15), .inl (km_least, 25, .inl fm_least)), ((mr 16), .inl (km_pin, 25, .inl f_160)), ((mr 17), .inl (km_ways, 6875, .inl f_170))]) hP hD [0, 1, 2, 3, 4] [] rfl rfl (by decide) (by decide) hk1 hFc hP1 hD1
              have hP := hP.sub (ws' := [(h0, .inr (12, fsMM mi mr)), ((mr 14), .inl (km_must, 25, .inl fm_must)), ((mr 15), .inl (km_least, 25, .inl fm_least)), ((mr 16), .inl (km_pin, 25, .inl f_160)), ((mr 17), .inl (km_ways, 6875, .inl f_170))]) [0, 1, 2, 3, 4] rfl
              have hD := hD.sub (ws' := [(h0, .inr (12, fsMM mi mr)), ((mr 14), .inl (km_must, 25, .inl fm_must)), ((mr 15), .inl (km_least, 25, .inl fm_least)), ((mr 16), .inl (km_pin, 25, .inl f_160)), ((mr 17), .inl (km_ways, 6875, .inl f_170))]) [0, 1, 2, 3, 4] (by decide) rfl
              generalize H1 = H at hP hS ⊢
              refine lv_goto (tgt := 144) hx hb dX12_countsWith_140 (by decide) ?_
              refine lv_istore (lv' := [(8, .int r_169), (0, .ref h0), (1, .int p1), (2, .int p2), (3, .int p3), (4, .int p4), (5, .int v5), (6, .int v6), (7, .int v7)]) hx hb dX12_countsWith_144 hl (by decide) rfl (fun ls hl => ?_)
              exact ih.2.2 v5 v6 v7 r_169 f_160 f_170 _ _ _ gf_p2 (gi_w g_163 (by decide)) (by omega) hP hD hS (lv_sub hl [1, 2, 3, 4, 5, 6, 7, 8, 0] rfl)
          · refine lv_iload hx hb dX12_countsWith_120 (lv_at hl 4 rfl) ?_
            refine lv_iload_n hx hb dX12_countsWith_122 rfl (lv_at hl 2 rfl) ?_
            refine lv_icmp_ne (tgt := 143) hx hb dX12_countsWith_123 (by decide) (fun c_171 => ?_) (fun c_171 => ?_)
            · refine lv_iconst (v := 0) hx hb dX12_countsWith_143 (by decide) ?_
              refine lv_istore (lv' := [(8, .int 0), (0, .ref h0), (1, .int p1), (2, .int p2), (3, .int p3), (4, .int p4), (5, .int v5), (6, .int v6), (7, .int v7)]) hx hb dX12_countsWith_144 hl (by decide) rfl (fun ls hl => ?_)
              exact ih.2.2 v5 v6 v7 0 f_160 fm_ways _ _ _ gf_p2 (gi_w g_163 (by decide)) (by omega) hP hD hS (lv_sub hl [1, 2, 3, 4, 5, 6, 7, 8, 0] rfl)
            · have g_172 : gi p4 0 720 := gi_eq c_171 gf_p2
              refine lv_iload_n hx hb dX12_countsWith_126 rfl (lv_at hl 2 rfl) ?_
              refine lv_if_lt (tgt := 143) hx hb dX12_countsWith_127 (by decide) (fun c_173 => absurd c_173 (gi_no_lt gf_p2 (gi_c 0 0 (by decide)) (by decide))) (fun c_173 => ?_)
              refine lv_iload hx hb dX12_countsWith_130 (lv_at hl 4 rfl) ?_
              refine lv_iconst (v := (-1)) hx hb dX12_countsWith_132 (by decide) ?_
              refine lv_icmp_lt (tgt := 143) hx hb dX12_countsWith_133 (by decide) (fun c_174 => absurd c_174 (gi_no_lt g_172 (gi_c (-1) (-1) (by decide)) (by decide))) (fun c_174 => ?_)
              refine lv_aload_n hx hb dX12_countsWith_136 rfl (lv_at hl 0 rfl) ?_
              have hPc := hP.sub (ws' := [(h0, .inr (12, fsMM mi mr)), ((mr 14), .inl (km_must, 25, .inl fm_must)), ((mr 15), .inl (km_least, 25, .inl fm_least)), ((mr 16), .inl (km_pin, 25, .inl f_160)), ((mr 17), .inl (km_ways, 6875, .inl fm_ways))]) [0, 1, 2, 3, 4] rfl
              have hKc := hK.sub (tys' := [(km_must, .int), (km_least, .int), (km_pin, .int), (km_ways, .int)]) [0, 1, 2, 3] rfl
              have hDc := hD.sub (ws' := [(h0, .inr (12, fsMM mi mr)), ((mr 14), .inl (km_must, 25, .inl fm_must)), ((mr 15), .inl (km_least, 25, .inl fm_least)), ((mr 16), .inl (km_pin, 25, .inl f_160)), ((mr 17), .inl (km_ways, 6875, .inl fm_ways))]) [0, 1, 2, 3, 4] (by decide) rfl
              have hFc := va_free (wc := [(h0, .inr (12, fsMM mi mr)), ((mr 14), .inl (km_must, 25, .inl fm_must)), ((mr 15), .inl (km_least, 25, .inl fm_least)), ((mr 16), .inl (km_pin, 25, .inl f_160)), ((mr 17), .inl (km_ways, 6875, .inl fm_ways))]) hD hS hA [0, 1, 2, 3, 4] rfl
              refine va_calli (va_runV (As := []) (rest := []) ⟨hx, hb, hml, hown, hts⟩ (sX12_counts l dC dI H.size h0 mi mr km_must fm_must km_least fm_least km_pin f_160 km_ways fm_ways gmi_0 gmi_1 gmi_2 gmi_4 gmi_7 gmi_10 gmi_17 gmi_23 gmi_24 gmi_26 gmi_29 gmi_30 gmi_33 gmi_37 gmi_41 gmi_50 gmi_51 gmi_56) (cwV 0 hts (gz_gV mGB_299 mGB_300 mGB_301 mGB_1 mGB_302 goodGB) rfl rfl rfl (by decide +kernel) ⟨Nat.le_trans (Nat.le_of_ble_eq_true rfl) hRf, Nat.le_trans (Nat.le_of_ble_eq_true rfl) hRl⟩) ⟨fun a U g mk q => by obtain ⟨q0, q1, qP, qK, qD⟩ := q; exact ⟨q0, q1, qP, va_K.moved (u := U) (U := U.calling g mk a) (Vm.Alike.refl U.vm) qK, qD⟩, va_recv hKc hPc (ci := 12) (q0 := 0) rfl rfl, fun U hU hW => ⟨rfl, by rw [hU], by rw [hU]; exact hPc, va_K.moved hW.alike hKc, hDc.weaken (fun _ _ _ _ => trivial)⟩⟩ rfl rfl hl.1 rfl (lv_room (Nat.le_of_ble_eq_true rfl)) dX12_countsWith_137 ⟨hRc, hRs⟩) hS (fun q _ h => hFc q h) hFc (fun r_175 u t H1 locs ht hvm hw hB hz1 hk1 hS => ?_)
              obtain ⟨f_176, hP1, hD1⟩ := hB
              rw [ht] at hP1
              obtain ⟨hP, hD⟩ := va_join (wr := []) (w1 := [(h0, .inr (12, fsMM mi mr)), ((mr 14), .inl (km_must, 25, .inl fm_must)), ((mr 15), .inl (km_least, 25, .inl fm_least)), ((mr 16), .inl (km_pin, 25, .inl f_160)), ((mr 17), .inl (km_ways, 6875, .inl f_176))]) hP hD [0, 1, 2, 3, 4] [] rfl rfl (by decide) (by decide) hk1 hFc hP1 hD1
              have hP := hP.sub (ws' := [(h0, .inr (12, fsMM mi mr)), ((mr 14), .inl (km_must, 25, .inl fm_must)), ((mr 15), .inl (km_least, 25, .inl fm_least)), ((mr 16), .inl (km_pin, 25, .inl f_160)), ((mr 17), .inl (km_ways, 6875, .inl f_176))]) [0, 1, 2, 3, 4] rfl
              have hD := hD.sub (ws' := [(h0, .inr (12, fsMM mi mr)), ((mr 14), .inl (km_must, 25, .inl fm_must)), ((mr 15), .inl (km_least, 25, .inl fm_least)), ((mr 16), .inl (km_pin, 25, .inl f_160)), ((mr 17), .inl (km_ways, 6875, .inl f_176))]) [0, 1, 2, 3, 4] (by decide) rfl
              generalize H1 = H at hP hS ⊢
              refine lv_goto (tgt := 144) hx hb dX12_countsWith_140 (by decide) ?_
              refine lv_istore (lv' := [(8, .int r_175), (0, .ref h0), (1, .int p1), (2, .int p2), (3, .int p3), (4, .int p4), (5, .int v5), (6, .int v6), (7, .int v7)]) hx hb dX12_countsWith_144 hl (by decide) rfl (fun ls hl => ?_)
              exact ih.2.2 v5 v6 v7 r_175 f_160 f_176 _ _ _ gf_p2 (gi_w g_163 (by decide)) (by omega) hP hD hS (lv_sub hl [1, 2, 3, 4, 5, 6, 7, 8, 0] rfl)
    · intro v5 v6 v7 v8 z3 z4 H locs ls gf_p2 gv7 hmu hP hD hS hl
      refine lv_iload_n hx hb dX12_countsWith_146 rfl (lv_at hl 3 rfl) ?_
      refine lv_iconst (v := (-1)) hx hb dX12_countsWith_147 (by decide) ?_
      refine lv_icmp_eq (tgt := 159) hx hb dX12_countsWith_148 (by decide) (fun c_177 => ?_) (fun c_177 => ?_)
      · have g_178 : gi p3 (-1) (-1) := gi_eq c_177 (gi_c (-1) (-1) (by decide))
        refine lv_aload_n hx hb dX12_countsWith_159 rfl (lv_at hl 0 rfl) ?_
        refine va_get (D := (dC, dI)) (ci := 12) (v := .ref (mr 16)) (C := RX12) (T := TX12) (N := 57) hx hb hts (fun w h => List.mem_cons_of_mem _ (jnGB_X12 w h)) hown hK hP 0 rfl rfl 36 (by decide) (hts _ (List.mem_cons_of_mem _ mGB_28)) (fun _ h9 => h9) rfl dX12_countsWith_160 ?_
        refine lv_iload_n hx hb dX12_countsWith_163 rfl (lv_at hl 1 rfl) ?_
        refine lv_iload hx hb dX12_countsWith_164 (lv_at hl 5 rfl) ?_
        refine va_iast hx hb hK hP hD hS 3 2 rfl rfl (gi_in gp1 (by decide)) dX12_countsWith_166 (fun H locs hP hD hS => ?_)
        have hP : va_P (dC, dI) vwCl [(h0, .inr (12, fsMM mi mr)), ((mr 14), .inl (km_must, 25, .inl fm_must)), ((mr 15), .inl (km_least, 25, .inl fm_least)), ((mr 16), .inl (km_pin, 25, .inl (upd z3 (p1 : Int32).toNatClampNeg v5))), ((mr 17), .inl (km_ways, 6875, .inl z4))] H := hP
        have hD : va_D A [(h0, .inr (12, fsMM mi mr)), ((mr 14), .inl (km_must, 25, .inl fm_must)), ((mr 15), .inl (km_least, 25, .inl fm_least)), ((mr 16), .inl (km_pin, 25, .inl (upd z3 (p1 : Int32).toNatClampNeg v5))), ((mr 17), .inl (km_ways, 6875, .inl z4))] := hD
        generalize upd z3 (p1 : Int32).toNatClampNeg v5 = f_179 at hP hD
        refine lv_iload hx hb dX12_countsWith_167 (lv_at hl 8 rfl) ?_
        exact kr169 v8 f_179 z4 _ _ _ hP hD hS (lv_sub hl [] rfl)
      · have g_180 : gi p3 0 24 := gi_ne_lo c_177 gp3 (gi_c (-1) (-1) (by decide)) (by decide)
        refine lv_aload_n hx hb dX12_countsWith_151 rfl (lv_at hl 0 rfl) ?_
        refine va_get (D := (dC, dI)) (ci := 12) (v := .ref (mr 16)) (C := RX12) (T := TX12) (N := 57) hx hb hts (fun w h => List.mem_cons_of_mem _ (jnGB_X12 w h)) hown hK hP 0 rfl rfl 36 (by decide) (hts _ (List.mem_cons_of_mem _ mGB_28)) (fun _ h9 => h9) rfl dX12_countsWith_152 ?_
        refine lv_iload_n hx hb dX12_countsWith_155 rfl (lv_at hl 3 rfl) ?_
        refine lv_iload hx hb dX12_countsWith_156 (lv_at hl 6 rfl) ?_
        refine va_iast hx hb hK hP hD hS 3 2 rfl rfl (gi_in g_180 (by decide)) dX12_countsWith_158 (fun H locs hP hD hS => ?_)
        have hP : va_P (dC, dI) vwCl [(h0, .inr (12, fsMM mi mr)), ((mr 14), .inl (km_must, 25, .inl fm_must)), ((mr 15), .inl (km_least, 25, .inl fm_least)), ((mr 16), .inl (km_pin, 25, .inl (upd z3 (p3 : Int32).toNatClampNeg v6))), ((mr 17), .inl (km_ways, 6875, .inl z4))] H := hP
        have hD : va_D A [(h0, .inr (12, fsMM mi mr)), ((mr 14), .inl (km_must, 25, .inl fm_must)), ((mr 15), .inl (km_least, 25, .inl fm_least)), ((mr 16), .inl (km_pin, 25, .inl (upd z3 (p3 : Int32).toNatClampNeg v6))), ((mr 17), .inl (km_ways, 6875, .inl z4))] := hD
        generalize upd z3 (p3 : Int32).toNatClampNeg v6 = f_181 at hP hD
        refine lv_aload_n hx hb dX12_countsWith_159 rfl (lv_at hl 0 rfl) ?_
        refine va_get (D := (dC, dI)) (ci := 12) (v := .ref (mr 16)) (C := RX12) (T := TX12) (N := 57) hx hb hts (fun w h => List.mem_cons_of_mem _ (jnGB_X12 w h)) hown hK hP 0 rfl rfl 36 (by decide) (hts _ (List.mem_cons_of_mem _ mGB_28)) (fun _ h9 => h9) rfl dX12_countsWith_160 ?_
        refine lv_iload_n hx hb dX12_countsWith_163 rfl (lv_at hl 1 rfl) ?_
        refine lv_iload hx hb dX12_countsWith_164 (lv_at hl 5 rfl) ?_
        refine va_iast hx hb hK hP hD hS 3 2 rfl rfl (gi_in gp1 (by decide)) dX12_countsWith_166 (fun H locs hP hD hS => ?_)
        have hP : va_P (dC, dI) vwCl [(h0, .inr (12, fsMM mi mr)), ((mr 14), .inl (km_must, 25, .inl fm_must)), ((mr 15), .inl (km_least, 25, .inl fm_least)), ((mr 16), .inl (km_pin, 25, .inl (upd f_181 (p1 : Int32).toNatClampNeg v5))), ((mr 17), .inl (km_ways, 6875, .inl z4))] H := hP
        have hD : va_D A [(h0, .inr (12, fsMM mi mr)), ((mr 14), .inl (km_must, 25, .inl fm_must)), ((mr 15), .inl (km_least, 25, .inl fm_least)), ((mr 16), .inl (km_pin, 25, .inl (upd f_181 (p1 : Int32).toNatClampNeg v5))), ((mr 17), .inl (km_ways, 6875, .inl z4))] := hD
        generalize upd f_181 (p1 : Int32).toNatClampNeg v5 = f_182 at hP hD
        refine lv_iload hx hb dX12_countsWith_167 (lv_at hl 8 rfl) ?_
        exact kr169 v8 f_182 z4 _ _ _ hP hD hS (lv_sub hl [] rfl)
set_option maxHeartbeats 4000000 in
set_option maxRecDepth 100000 in
theorem sX12_countsWith (l : Launch) (dC : Nat → ClassId) (dI : Nat → Nat → Nat) (sz : Nat) (h0 : Nat) (mi : Nat → Int32) (mr : Nat → Nat) (km_must : ClassId) (fm_must : Nat → Int32) (km_least : ClassId) (fm_least : Nat → Int32) (km_pin : ClassId) (fm_pin : Nat → Int32) (km_ways : ClassId) (fm_ways : Nat → Int32) (p1 : Int32) (p2 : Int32) (p3 : Int32) (p4 : Int32) (gmi_0 : gi (mi 0) 0 24) (gmi_1 : gi (mi 1) 0 5) (gmi_2 : gi (mi 2) 0 5) (gmi_4 : gi (mi 4) 0 1) (gmi_7 : gi (mi 7) 0 6) (gmi_10 : gi (mi 10) 0 24) (gmi_17 : gi (mi 17) 0 8) (gmi_23 : gi (mi 23) 0 300) (gmi_24 : gi (mi 24) 0 1) (gmi_26 : gi (mi 26) 0 1600) (gmi_29 : gi (mi 29) 0 1600) (gmi_30 : gi (mi 30) 0 1600) (gmi_33 : gi (mi 33) 0 1) (gmi_37 : gi (mi 37) 0 1) (gmi_41 : gi (mi 41) 0 24) (gmi_50 : gi (mi 50) 0 1) (gmi_51 : gi (mi 51) 0 1) (gmi_56 : gi (mi 56) 0 80) (gp1 : gi p1 0 24) (gp3 : gi p3 (-1) 24) : Met l yX12_countsWith (.code yX12_countsWith cX12_countsWith 9 (some .int) :: wsGB) ({ frames := 3, cells := 0, slots := 0, locals := 73 }) (va_Pc [.ref h0, .int p1, .int p2, .int p3, .int p4] (fun U => U.heap.size = sz ∧ va_P (dC, dI) vwCl [(h0, .inr (12, fsMM mi mr)), ((mr 14), .inl (km_must, 25, .inl fm_must)), ((mr 15), .inl (km_least, 25, .inl fm_least)), ((mr 16), .inl (km_pin, 25, .inl fm_pin)), ((mr 17), .inl (km_ways, 6875, .inl fm_ways))] U.heap ∧ va_K (dC, dI) vwCl [(km_must, .int), (km_least, .int), (km_pin, .int), (km_ways, .int)] U ∧ va_D (fun _ => True) [(h0, .inr (12, fsMM mi mr)), ((mr 14), .inl (km_must, 25, .inl fm_must)), ((mr 15), .inl (km_least, 25, .inl fm_least)), ((mr 16), .inl (km_pin, 25, .inl fm_pin)), ((mr 17), .inl (km_ways, 6875, .inl fm_ways))])) (va_Qi (fun (r : Int32) (u : Unit) => gi r (-2147483648) 2147483647) (fun _ t => ∃ (z3 : Nat → Int32) (z4 : Nat → Int32), va_P (dC, dI) vwCl [(h0, .inr (12, fsMM mi mr)), ((mr 14), .inl (km_must, 25, .inl fm_must)), ((mr 15), .inl (km_least, 25, .inl fm_least)), ((mr 16), .inl (km_pin, 25, .inl z3)), ((mr 17), .inl (km_ways, 6875, .inl z4))] t.heap ∧ va_D (va_A [(h0, .inr (12, fsMM mi mr)), ((mr 14), .inl (km_must, 25, .inl fm_must)), ((mr 15), .inl (km_least, 25, .inl fm_least)), ((mr 16), .inl (km_pin, 25, .inl fm_pin)), ((mr 17), .inl (km_ways, 6875, .inl fm_ways))] sz) [(h0, .inr (12, fsMM mi mr)), ((mr 14), .inl (km_must, 25, .inl fm_must)), ((mr 15), .inl (km_least, 25, .inl fm_least)), ((mr 16), .inl (km_pin, 25, .inl z3)), ((mr 17), .inl (km_ways, 6875, .inl z4))]) (va_A [(h0, .inr (12, fsMM mi mr)), ((mr 14), .inl (km_must, 25, .inl fm_must)), ((mr 15), .inl (km_least, 25, .inl fm_least)), ((mr 16), .inl (km_pin, 25, .inl fm_pin)), ((mr 17), .inl (km_ways, 6875, .inl fm_ways))] sz)) 0 0 (va_A [(h0, .inr (12, fsMM mi mr)), ((mr 14), .inl (km_must, 25, .inl fm_must)), ((mr 15), .inl (km_least, 25, .inl fm_least)), ((mr 16), .inl (km_pin, 25, .inl fm_pin)), ((mr 17), .inl (km_ways, 6875, .inl fm_ways))] sz) := by
  refine Met.ofW (cc := cX12_countsWith) (maxL := 9) (ret := (some .int)) (by decide) rfl ?_
  intro p e s m args below meth c s₁ B hml hv
  obtain ⟨rfl, hsz, hP, hK, hD0⟩ := hv
  have hx := B.exec
  have hb := B.bytes
  have hr := B.returns
  have hts := atoms_spec (ws := (.code yX12_countsWith cX12_countsWith 9 (some .int) :: wsGB)) B.pre
  have hown : s.vm.findClass RX12 = some m.cls := findClass_of_methodNamed B.named
  have hlocks := B.notSynchronized
  subst hsz
  have hD := hD0.self (sz := s.heap.size)
  generalize hAe : va_A [(h0, .inr (12, fsMM mi mr)), ((mr 14), .inl (km_must, 25, .inl fm_must)), ((mr 15), .inl (km_least, 25, .inl fm_least)), ((mr 16), .inl (km_pin, 25, .inl fm_pin)), ((mr 17), .inl (km_ways, 6875, .inl fm_ways))] s.heap.size = A at hD ⊢
  have hA : ∀ q : Nat, s.heap.size ≤ q → A q := fun q h => by rw [← hAe]; exact Or.inr h
  have hS : va_S A s.heap s.heap [] := va_S.rf
  have hl := lv_entry ([.ref h0, .int p1, .int p2, .int p3, .int p4]) (n := 9) (Nat.le_of_ble_eq_true rfl)
  rw [lg_entry_eq]
  generalize (lg_sl ([.ref h0, .int p1, .int p2, .int p3, .int p4]) ++ List.replicate (9 - (lg_sl ([.ref h0, .int p1, .int p2, .int p3, .int p4])).length) Slot.unset).toArray = ls at hl ⊢
  have hl : lv_has ls 9 [(0, .ref h0), (1, .int p1), (2, .int p2), (3, .int p3), (4, .int p4)] := hl
  refine lv_iload_n hx hb dX12_countsWith_0 rfl (lv_at hl 2 rfl) ?_
  refine lv_i2l (v := (p2).toInt64) hx hb dX12_countsWith_1 rfl ?_
  refine lv_topl (fun l_183 el_183 => ?_)
  refine lv_bipush (v := 29) hx hb dX12_countsWith_2 (by decide) ?_
  refine lv_iload_n hx hb dX12_countsWith_4 rfl (lv_at hl 1 rfl) ?_
  refine lv_imul hx hb dX12_countsWith_5 ?_
  refine lv_topi (fun x_184 ex_184 => ?_)
  have gx_184 : gi x_184 0 696 := gi_mul ex_184 (gi_c 29 29 (by decide)) gp1 (by decide)
  refine lv_i2l (v := (x_184).toInt64) hx hb dX12_countsWith_6 rfl ?_
  refine lv_topl (fun l_185 el_185 => ?_)
  refine lv_bipush (v := 30) hx hb dX12_countsWith_7 (by decide) ?_
  refine lv_iload_n hx hb dX12_countsWith_9 rfl (lv_at hl 1 rfl) ?_
  refine lv_imul hx hb dX12_countsWith_10 ?_
  refine lv_topi (fun x_186 ex_186 => ?_)
  have gx_186 : gi x_186 0 720 := gi_mul ex_186 (gi_c 30 30 (by decide)) gp1 (by decide)
  refine lv_i2l (v := (x_186).toInt64) hx hb dX12_countsWith_11 rfl ?_
  refine lv_topl (fun l_187 el_187 => ?_)
  have hPc := hP.sub (ws' := []) [] rfl
  have hKc := hK.sub (tys' := []) [] rfl
  refine va_calli (va_runS (As := [.long l_183, .long l_185, .long l_187]) (rest := []) ⟨hx, hb, hml, hown, hts⟩ (sX12_in l dC dI l_183 l_185 l_187) (cwS 3 hts (gz_gS mGB_47 mGB_48 mGB_1 mGB_49 goodGB) rfl rfl rfl (by decide +kernel) ⟨Nat.le_of_ble_eq_true rfl, Nat.le_of_ble_eq_true rfl⟩) ⟨fun a U g mk q => by obtain ⟨q0, qP, qK⟩ := q; exact ⟨q0, qP, va_K.moved (u := U) (U := U.calling g mk a) (Vm.Alike.refl U.vm) qK⟩, fun U hU hW => ⟨rfl, by rw [hU]; exact hPc, va_K.moved hW.alike hKc⟩⟩ rfl rfl hl.1 rfl (lv_room (Nat.le_of_ble_eq_true rfl)) dX12_countsWith_12 ⟨Nat.zero_le _, Nat.zero_le _⟩) hS (fun q _ h => h.elim) (fun q h => h.elim) (fun r_188 u t H1 locs ht hvm hw hB hz1 hk1 hS => ?_)
  obtain ⟨hw, hE⟩ := hw
  have hP := gz_keep hP hk1
  generalize H1 = H at hP hS ⊢
  have gr_188 : gi r_188 0 1 := hw.1
  have hqr_188 := hw.2
  refine lv_if_eq (tgt := 38) hx hb dX12_countsWith_15 (by decide) (fun c_189 => ?_) (fun c_189 => ?_)
  · have g_190 : gi r_188 0 0 := gi_eq c_189 (gi_c 0 0 (by decide))
    refine lv_iconst (v := 0) hx hb dX12_countsWith_38 (by decide) ?_
    exact W.iret (v := 0) hx hb hr (fun t ht hW => ⟨⟨0, (), rfl, (gi_any 0), fm_pin, fm_ways, by rw [ht]; exact hP, hD⟩, hS.F ht⟩) hS.2.2 dX12_countsWith_39
  · have g_191 : gi r_188 1 1 := gi_ne_lo c_189 gr_188 (gi_c 0 0 (by decide)) (by decide)
    have g_192 : gi p2 0 720 := gi_cap (gi_any p2) (gz_inr (hqr_188.1 (gz_one g_191)) el_183 (A := 0) (B := 720) (gz_l2l el_185 gx_184) (gz_l2u el_187 gx_186)) (by decide)
    refine lv_aload_n hx hb dX12_countsWith_18 rfl (lv_at hl 0 rfl) ?_
    refine va_get (D := (dC, dI)) (ci := 12) (v := .ref (mr 16)) (C := RX12) (T := TX12) (N := 57) hx hb hts (fun w h => List.mem_cons_of_mem _ (jnGB_X12 w h)) hown hK hP 0 rfl rfl 36 (by decide) (hts _ (List.mem_cons_of_mem _ mGB_28)) (fun _ h9 => h9) rfl dX12_countsWith_19 ?_
    refine lv_iload_n hx hb dX12_countsWith_22 rfl (lv_at hl 1 rfl) ?_
    refine va_iald hx hb hK hP 3 2 rfl rfl (gi_in gp1 (by decide)) dX12_countsWith_23 ?_
    refine lv_topi (fun x_193 ex_193 => ?_)
    refine lv_iconst (v := (-1)) hx hb dX12_countsWith_24 (by decide) ?_
    refine lv_icmp_eq (tgt := 40) hx hb dX12_countsWith_25 (by decide) (fun c_194 => ?_) (fun c_194 => ?_)
    · have g_195 : gi x_193 (-1) (-1) := gi_eq c_194 (gi_c (-1) (-1) (by decide))
      refine lv_aload_n hx hb dX12_countsWith_40 rfl (lv_at hl 0 rfl) ?_
      refine va_get (D := (dC, dI)) (ci := 12) (v := .ref (mr 16)) (C := RX12) (T := TX12) (N := 57) hx hb hts (fun w h => List.mem_cons_of_mem _ (jnGB_X12 w h)) hown hK hP 0 rfl rfl 36 (by decide) (hts _ (List.mem_cons_of_mem _ mGB_28)) (fun _ h9 => h9) rfl dX12_countsWith_41 ?_
      refine lv_iload_n hx hb dX12_countsWith_44 rfl (lv_at hl 1 rfl) ?_
      refine va_iald hx hb hK hP 3 2 rfl rfl (gi_in gp1 (by decide)) dX12_countsWith_45 ?_
      refine lv_topi (fun x_196 ex_196 => ?_)
      refine lv_istore (lv' := [(5, .int x_196), (0, .ref h0), (1, .int p1), (2, .int p2), (3, .int p3), (4, .int p4)]) hx hb dX12_countsWith_46 hl (by decide) rfl (fun ls hl => ?_)
      refine lv_aload_n hx hb dX12_countsWith_48 rfl (lv_at hl 1 rfl) ?_
      refine va_get (D := (dC, dI)) (ci := 12) (v := .ref (mr 16)) (C := RX12) (T := TX12) (N := 57) hx hb hts (fun w h => List.mem_cons_of_mem _ (jnGB_X12 w h)) hown hK hP 0 rfl rfl 36 (by decide) (hts _ (List.mem_cons_of_mem _ mGB_28)) (fun _ h9 => h9) rfl dX12_countsWith_49 ?_
      refine lv_iload_n hx hb dX12_countsWith_52 rfl (lv_at hl 2 rfl) ?_
      refine lv_iload_n hx hb dX12_countsWith_53 rfl (lv_at hl 3 rfl) ?_
      refine va_iast hx hb hK hP hD hS 3 2 rfl rfl (gi_in gp1 (by decide)) dX12_countsWith_54 (fun H locs hP hD hS => ?_)
      have hP : va_P (dC, dI) vwCl [(h0, .inr (12, fsMM mi mr)), ((mr 14), .inl (km_must, 25, .inl fm_must)), ((mr 15), .inl (km_least, 25, .inl fm_least)), ((mr 16), .inl (km_pin, 25, .inl (upd fm_pin (p1 : Int32).toNatClampNeg p2))), ((mr 17), .inl (km_ways, 6875, .inl fm_ways))] H := hP
      have hD : va_D A [(h0, .inr (12, fsMM mi mr)), ((mr 14), .inl (km_must, 25, .inl fm_must)), ((mr 15), .inl (km_least, 25, .inl fm_least)), ((mr 16), .inl (km_pin, 25, .inl (upd fm_pin (p1 : Int32).toNatClampNeg p2))), ((mr 17), .inl (km_ways, 6875, .inl fm_ways))] := hD
      generalize upd fm_pin (p1 : Int32).toNatClampNeg p2 = f_197 at hP hD
      refine lv_iload_n hx hb dX12_countsWith_55 rfl (lv_at hl 4 rfl) ?_
      refine lv_iconst (v := (-1)) hx hb dX12_countsWith_56 (by decide) ?_
      refine lv_icmp_ne (tgt := 64) hx hb dX12_countsWith_57 (by decide) (fun c_198 => ?_) (fun c_198 => ?_)
      · have g_199 : gi p3 0 24 := gi_ne_lo c_198 gp3 (gi_c (-1) (-1) (by decide)) (by decide)
        refine lv_aload_n hx hb dX12_countsWith_64 rfl (lv_at hl 1 rfl) ?_
        refine va_get (D := (dC, dI)) (ci := 12) (v := .ref (mr 16)) (C := RX12) (T := TX12) (N := 57) hx hb hts (fun w h => List.mem_cons_of_mem _ (jnGB_X12 w h)) hown hK hP 0 rfl rfl 36 (by decide) (hts _ (List.mem_cons_of_mem _ mGB_28)) (fun _ h9 => h9) rfl dX12_countsWith_65 ?_
        refine lv_iload_n hx hb dX12_countsWith_68 rfl (lv_at hl 4 rfl) ?_
        refine va_iald hx hb hK hP 3 2 rfl rfl (gi_in g_199 (by decide)) dX12_countsWith_69 ?_
        refine lv_topi (fun x_200 ex_200 => ?_)
        refine lv_istore (lv' := [(6, .int x_200), (5, .int x_196), (0, .ref h0), (1, .int p1), (2, .int p2), (3, .int p3), (4, .int p4)]) hx hb dX12_countsWith_70 hl (by decide) rfl (fun ls hl => ?_)
        refine (lp_sX12_countsWith h0 mi mr km_must fm_must km_least fm_least km_pin fm_pin km_ways fm_ways p1 p2 p3 p4 gmi_0 gmi_1 gmi_2 gmi_4 gmi_7 gmi_10 gmi_17 gmi_23 gmi_24 gmi_26 gmi_29 gmi_30 gmi_33 gmi_37 gmi_41 gmi_50 gmi_51 gmi_56 gp1 gp3 hx hb hml hown hts hK hA (Nat.le_of_ble_eq_true rfl) (Nat.le_of_ble_eq_true rfl) (Nat.zero_le _) (Nat.zero_le _) (fun v z3 z4 H locs ls gv hP hD hS hl => ?_) (fun v z3 z4 H locs ls hP hD hS hl => ?_) 5).1 x_196 x_200 f_197 _ _ _ g_192 (by omega) hP hD hS (lv_sub hl [2, 3, 4, 5, 6, 1, 0] rfl)
        · skip
          exact W.iret (v := v) hx hb hr (fun t ht hW => ⟨⟨v, (), rfl, (gi_any v), z3, z4, by rw [ht]; exact hP, hD⟩, hS.F ht⟩) hS.2.2 dX12_countsWith_39
        · skip
          exact W.iret (v := v) hx hb hr (fun t ht hW => ⟨⟨v, (), rfl, (gi_any v), z3, z4, by rw [ht]; exact hP, hD⟩, hS.F ht⟩) hS.2.2 dX12_countsWith_169
      · have g_201 : gi p3 (-1) (-1) := gi_eq c_198 (gi_c (-1) (-1) (by decide))
        refine lv_iconst (v := (-1)) hx hb dX12_countsWith_60 (by decide) ?_
        refine lv_goto (tgt := 70) hx hb dX12_countsWith_61 (by decide) ?_
        refine lv_istore (lv' := [(6, .int (-1)), (5, .int x_196), (0, .ref h0), (1, .int p1), (2, .int p2), (3, .int p3), (4, .int p4)]) hx hb dX12_countsWith_70 hl (by decide) rfl (fun ls hl => ?_)
        refine (lp_sX12_countsWith h0 mi mr km_must fm_must km_least fm_least km_pin fm_pin km_ways fm_ways p1 p2 p3 p4 gmi_0 gmi_1 gmi_2 gmi_4 gmi_7 gmi_10 gmi_17 gmi_23 gmi_24 gmi_26 gmi_29 gmi_30 gmi_33 gmi_37 gmi_41 gmi_50 gmi_51 gmi_56 gp1 gp3 hx hb hml hown hts hK hA (Nat.le_of_ble_eq_true rfl) (Nat.le_of_ble_eq_true rfl) (Nat.zero_le _) (Nat.zero_le _) (fun v z3 z4 H locs ls gv hP hD hS hl => ?_) (fun v z3 z4 H locs ls hP hD hS hl => ?_) 5).1 x_196 (-1) f_197 _ _ _ g_192 (by omega) hP hD hS (lv_sub hl [2, 3, 4, 5, 6, 1, 0] rfl)
        · skip
          exact W.iret (v := v) hx hb hr (fun t ht hW => ⟨⟨v, (), rfl, (gi_any v), z3, z4, by rw [ht]; exact hP, hD⟩, hS.F ht⟩) hS.2.2 dX12_countsWith_39
        · skip
          exact W.iret (v := v) hx hb hr (fun t ht hW => ⟨⟨v, (), rfl, (gi_any v), z3, z4, by rw [ht]; exact hP, hD⟩, hS.F ht⟩) hS.2.2 dX12_countsWith_169
    · refine lv_aload_n hx hb dX12_countsWith_28 rfl (lv_at hl 0 rfl) ?_
      refine va_get (D := (dC, dI)) (ci := 12) (v := .ref (mr 16)) (C := RX12) (T := TX12) (N := 57) hx hb hts (fun w h => List.mem_cons_of_mem _ (jnGB_X12 w h)) hown hK hP 0 rfl rfl 36 (by decide) (hts _ (List.mem_cons_of_mem _ mGB_28)) (fun _ h9 => h9) rfl dX12_countsWith_29 ?_
      refine lv_iload_n hx hb dX12_countsWith_32 rfl (lv_at hl 1 rfl) ?_
      refine va_iald hx hb hK hP 3 2 rfl rfl (gi_in gp1 (by decide)) dX12_countsWith_33 ?_
      refine lv_topi (fun x_202 ex_202 => ?_)
      refine lv_iload_n hx hb dX12_countsWith_34 rfl (lv_at hl 2 rfl) ?_
      refine lv_icmp_eq (tgt := 40) hx hb dX12_countsWith_35 (by decide) (fun c_203 => ?_) (fun c_203 => ?_)
      · have g_204 : gi x_202 0 720 := gi_eq c_203 g_192
        refine lv_aload_n hx hb dX12_countsWith_40 rfl (lv_at hl 0 rfl) ?_
        refine va_get (D := (dC, dI)) (ci := 12) (v := .ref (mr 16)) (C := RX12) (T := TX12) (N := 57) hx hb hts (fun w h => List.mem_cons_of_mem _ (jnGB_X12 w h)) hown hK hP 0 rfl rfl 36 (by decide) (hts _ (List.mem_cons_of_mem _ mGB_28)) (fun _ h9 => h9) rfl dX12_countsWith_41 ?_
        refine lv_iload_n hx hb dX12_countsWith_44 rfl (lv_at hl 1 rfl) ?_
        refine va_iald hx hb hK hP 3 2 rfl rfl (gi_in gp1 (by decide)) dX12_countsWith_45 ?_
        refine lv_topi (fun x_205 ex_205 => ?_)
        refine lv_istore (lv' := [(5, .int x_205), (0, .ref h0), (1, .int p1), (2, .int p2), (3, .int p3), (4, .int p4)]) hx hb dX12_countsWith_46 hl (by decide) rfl (fun ls hl => ?_)
        refine lv_aload_n hx hb dX12_countsWith_48 rfl (lv_at hl 1 rfl) ?_
        refine va_get (D := (dC, dI)) (ci := 12) (v := .ref (mr 16)) (C := RX12) (T := TX12) (N := 57) hx hb hts (fun w h => List.mem_cons_of_mem _ (jnGB_X12 w h)) hown hK hP 0 rfl rfl 36 (by decide) (hts _ (List.mem_cons_of_mem _ mGB_28)) (fun _ h9 => h9) rfl dX12_countsWith_49 ?_
        refine lv_iload_n hx hb dX12_countsWith_52 rfl (lv_at hl 2 rfl) ?_
        refine lv_iload_n hx hb dX12_countsWith_53 rfl (lv_at hl 3 rfl) ?_
        refine va_iast hx hb hK hP hD hS 3 2 rfl rfl (gi_in gp1 (by decide)) dX12_countsWith_54 (fun H locs hP hD hS => ?_)
        have hP : va_P (dC, dI) vwCl [(h0, .inr (12, fsMM mi mr)), ((mr 14), .inl (km_must, 25, .inl fm_must)), ((mr 15), .inl (km_least, 25, .inl fm_least)), ((mr 16), .inl (km_pin, 25, .inl (upd fm_pin (p1 : Int32).toNatClampNeg p2))), ((mr 17), .inl (km_ways, 6875, .inl fm_ways))] H := hP
        have hD : va_D A [(h0, .inr (12, fsMM mi mr)), ((mr 14), .inl (km_must, 25, .inl fm_must)), ((mr 15), .inl (km_least, 25, .inl fm_least)), ((mr 16), .inl (km_pin, 25, .inl (upd fm_pin (p1 : Int32).toNatClampNeg p2))), ((mr 17), .inl (km_ways, 6875, .inl fm_ways))] := hD
        generalize upd fm_pin (p1 : Int32).toNatClampNeg p2 = f_206 at hP hD
        refine lv_iload_n hx hb dX12_countsWith_55 rfl (lv_at hl 4 rfl) ?_
        refine lv_iconst (v := (-1)) hx hb dX12_countsWith_56 (by decide) ?_
        refine lv_icmp_ne (tgt := 64) hx hb dX12_countsWith_57 (by decide) (fun c_207 => ?_) (fun c_207 => ?_)
        · have g_208 : gi p3 0 24 := gi_ne_lo c_207 gp3 (gi_c (-1) (-1) (by decide)) (by decide)
          refine lv_aload_n hx hb dX12_countsWith_64 rfl (lv_at hl 1 rfl) ?_
          refine va_get (D := (dC, dI)) (ci := 12) (v := .ref (mr 16)) (C := RX12) (T := TX12) (N := 57) hx hb hts (fun w h => List.mem_cons_of_mem _ (jnGB_X12 w h)) hown hK hP 0 rfl rfl 36 (by decide) (hts _ (List.mem_cons_of_mem _ mGB_28)) (fun _ h9 => h9) rfl dX12_countsWith_65 ?_
          refine lv_iload_n hx hb dX12_countsWith_68 rfl (lv_at hl 4 rfl) ?_
          refine va_iald hx hb hK hP 3 2 rfl rfl (gi_in g_208 (by decide)) dX12_countsWith_69 ?_
          refine lv_topi (fun x_209 ex_209 => ?_)
          refine lv_istore (lv' := [(6, .int x_209), (5, .int x_205), (0, .ref h0), (1, .int p1), (2, .int p2), (3, .int p3), (4, .int p4)]) hx hb dX12_countsWith_70 hl (by decide) rfl (fun ls hl => ?_)
          refine (lp_sX12_countsWith h0 mi mr km_must fm_must km_least fm_least km_pin fm_pin km_ways fm_ways p1 p2 p3 p4 gmi_0 gmi_1 gmi_2 gmi_4 gmi_7 gmi_10 gmi_17 gmi_23 gmi_24 gmi_26 gmi_29 gmi_30 gmi_33 gmi_37 gmi_41 gmi_50 gmi_51 gmi_56 gp1 gp3 hx hb hml hown hts hK hA (Nat.le_of_ble_eq_true rfl) (Nat.le_of_ble_eq_true rfl) (Nat.zero_le _) (Nat.zero_le _) (fun v z3 z4 H locs ls gv hP hD hS hl => ?_) (fun v z3 z4 H locs ls hP hD hS hl => ?_) 5).1 x_205 x_209 f_206 _ _ _ g_192 (by omega) hP hD hS (lv_sub hl [2, 3, 4, 5, 6, 1, 0] rfl)
          · skip
            exact W.iret (v := v) hx hb hr (fun t ht hW => ⟨⟨v, (), rfl, (gi_any v), z3, z4, by rw [ht]; exact hP, hD⟩, hS.F ht⟩) hS.2.2 dX12_countsWith_39
          · skip
            exact W.iret (v := v) hx hb hr (fun t ht hW => ⟨⟨v, (), rfl, (gi_any v), z3, z4, by rw [ht]; exact hP, hD⟩, hS.F ht⟩) hS.2.2 dX12_countsWith_169
        · have g_210 : gi p3 (-1) (-1) := gi_eq c_207 (gi_c (-1) (-1) (by decide))
          refine lv_iconst (v := (-1)) hx hb dX12_countsWith_60 (by decide) ?_
          refine lv_goto (tgt := 70) hx hb dX12_countsWith_61 (by decide) ?_
          refine lv_istore (lv' := [(6, .int (-1)), (5, .int x_205), (0, .ref h0), (1, .int p1), (2, .int p2), (3, .int p3), (4, .int p4)]) hx hb dX12_countsWith_70 hl (by decide) rfl (fun ls hl => ?_)
          refine (lp_sX12_countsWith h0 mi mr km_must fm_must km_least fm_least km_pin fm_pin km_ways fm_ways p1 p2 p3 p4 gmi_0 gmi_1 gmi_2 gmi_4 gmi_7 gmi_10 gmi_17 gmi_23 gmi_24 gmi_26 gmi_29 gmi_30 gmi_33 gmi_37 gmi_41 gmi_50 gmi_51 gmi_56 gp1 gp3 hx hb hml hown hts hK hA (Nat.le_of_ble_eq_true rfl) (Nat.le_of_ble_eq_true rfl) (Nat.zero_le _) (Nat.zero_le _) (fun v z3 z4 H locs ls gv hP hD hS hl => ?_) (fun v z3 z4 H locs ls hP hD hS hl => ?_) 5).1 x_205 (-1) f_206 _ _ _ g_192 (by omega) hP hD hS (lv_sub hl [2, 3, 4, 5, 6, 1, 0] rfl)
          · skip
            exact W.iret (v := v) hx hb hr (fun t ht hW => ⟨⟨v, (), rfl, (gi_any v), z3, z4, by rw [ht]; exact hP, hD⟩, hS.F ht⟩) hS.2.2 dX12_countsWith_39
          · skip
            exact W.iret (v := v) hx hb hr (fun t ht hW => ⟨⟨v, (), rfl, (gi_any v), z3, z4, by rw [ht]; exact hP, hD⟩, hS.F ht⟩) hS.2.2 dX12_countsWith_169
      · refine lv_iconst (v := 0) hx hb dX12_countsWith_38 (by decide) ?_
        exact W.iret (v := 0) hx hb hr (fun t ht hW => ⟨⟨0, (), rfl, (gi_any 0), fm_pin, fm_ways, by rw [ht]; exact hP, hD⟩, hS.F ht⟩) hS.2.2 dX12_countsWith_39
theorem dX12_trustOf_0 : decode cX12_trustOf 0 = .ok (.iload_n 1, 1) := by decide +kernel
theorem dX12_trustOf_1 : decode cX12_trustOf 1 = .ok (.aload_n 0, 1) := by decide +kernel
theorem dX12_trustOf_2 : decode cX12_trustOf 2 = .ok (.getfield 84, 3) := by decide +kernel
theorem dX12_trustOf_5 : decode cX12_trustOf 5 = .ok (.if_icmp .ne 10, 3) := by decide +kernel
theorem dX12_trustOf_8 : decode cX12_trustOf 8 = .ok (.aload_n 0, 1) := by decide +kernel
theorem dX12_trustOf_9 : decode cX12_trustOf 9 = .ok (.getfield 81, 3) := by decide +kernel
theorem dX12_trustOf_12 : decode cX12_trustOf 12 = .ok (.goto 9, 3) := by decide +kernel
theorem dX12_trustOf_15 : decode cX12_trustOf 15 = .ok (.aload_n 0, 1) := by decide +kernel
theorem dX12_trustOf_16 : decode cX12_trustOf 16 = .ok (.getfield 7, 3) := by decide +kernel
theorem dX12_trustOf_19 : decode cX12_trustOf 19 = .ok (.iload_n 1, 1) := by decide +kernel
theorem dX12_trustOf_20 : decode cX12_trustOf 20 = .ok (.iaload, 1) := by decide +kernel
theorem dX12_trustOf_21 : decode cX12_trustOf 21 = .ok (.ireturn, 1) := by decide +kernel
set_option maxHeartbeats 4000000 in
set_option maxRecDepth 100000 in
theorem sX12_trustOf (l : Launch) (dC : Nat → ClassId) (dI : Nat → Nat → Nat) (h0 : Nat) (mi : Nat → Int32) (mr : Nat → Nat) (km_trust : ClassId) (fm_trust : Nat → Int32) (p1 : Int32) (gmi_0 : gi (mi 0) 0 24) (gmi_1 : gi (mi 1) 0 5) (gmi_2 : gi (mi 2) 0 5) (gmi_4 : gi (mi 4) 0 1) (gmi_7 : gi (mi 7) 0 6) (gmi_10 : gi (mi 10) 0 24) (gmi_17 : gi (mi 17) 0 8) (gmi_23 : gi (mi 23) 0 300) (gmi_24 : gi (mi 24) 0 1) (gmi_26 : gi (mi 26) 0 1600) (gmi_29 : gi (mi 29) 0 1600) (gmi_30 : gi (mi 30) 0 1600) (gmi_33 : gi (mi 33) 0 1) (gmi_37 : gi (mi 37) 0 1) (gmi_41 : gi (mi 41) 0 24) (gmi_50 : gi (mi 50) 0 1) (gmi_51 : gi (mi 51) 0 1) (gmi_56 : gi (mi 56) 0 80) (gp1 : gi p1 0 5) : Met l yX12_trustOf (.code yX12_trustOf cX12_trustOf 2 (some .int) :: wsGB) ({ frames := 0, cells := 0, slots := 0, locals := 0 }) (va_Pc [.ref h0, .int p1] (fun U => va_P (dC, dI) vwCl [(h0, .inr (12, fsMM mi mr)), ((mr 0), .inl (km_trust, 6, .inl fm_trust))] U.heap ∧ va_K (dC, dI) vwCl [(km_trust, .int)] U)) (va_Qi (fun (r : Int32) (u : Unit) => gi r (-2147483648) 2147483647) (fun _ _ => True) (fun _ => False)) 0 0 (fun _ => False) := by
  refine Met.ofW (cc := cX12_trustOf) (maxL := 2) (ret := (some .int)) (by decide) rfl ?_
  intro p e s m args below meth c s₁ B hml hv
  obtain ⟨rfl, hP, hK⟩ := hv
  have hx := B.exec
  have hb := B.bytes
  have hr := B.returns
  have hts := atoms_spec (ws := (.code yX12_trustOf cX12_trustOf 2 (some .int) :: wsGB)) B.pre
  have hown : s.vm.findClass RX12 = some m.cls := findClass_of_methodNamed B.named
  have hlocks := B.notSynchronized
  have hS : va_S (fun _ => False) s.heap s.heap [] := va_S.rf
  have hl := lv_entry ([.ref h0, .int p1]) (n := 2) (Nat.le_of_ble_eq_true rfl)
  rw [lg_entry_eq]
  generalize (lg_sl ([.ref h0, .int p1]) ++ List.replicate (2 - (lg_sl ([.ref h0, .int p1])).length) Slot.unset).toArray = ls at hl ⊢
  have hl : lv_has ls 2 [(0, .ref h0), (1, .int p1)] := hl
  refine lv_iload_n hx hb dX12_trustOf_0 rfl (lv_at hl 1 rfl) ?_
  refine lv_aload_n hx hb dX12_trustOf_1 rfl (lv_at hl 0 rfl) ?_
  refine va_get (D := (dC, dI)) (ci := 12) (v := .int (mi 45)) (C := RX12) (T := TX12) (N := 57) hx hb hts (fun w h => List.mem_cons_of_mem _ (jnGB_X12 w h)) hown hK hP 0 rfl rfl 45 (by decide) (hts _ (List.mem_cons_of_mem _ mGB_35)) (fun _ h9 => h9) rfl dX12_trustOf_2 ?_
  refine lv_icmp_ne (tgt := 15) hx hb dX12_trustOf_5 (by decide) (fun c_4 => ?_) (fun c_4 => ?_)
  · refine lv_aload_n hx hb dX12_trustOf_15 rfl (lv_at hl 0 rfl) ?_
    refine va_get (D := (dC, dI)) (ci := 12) (v := .ref (mr 0)) (C := RX12) (T := TX12) (N := 57) hx hb hts (fun w h => List.mem_cons_of_mem _ (jnGB_X12 w h)) hown hK hP 0 rfl rfl 8 (by decide) (hts _ (List.mem_cons_of_mem _ mGB_10)) (fun _ h9 => h9) rfl dX12_trustOf_16 ?_
    refine lv_iload_n hx hb dX12_trustOf_19 rfl (lv_at hl 1 rfl) ?_
    refine va_iald hx hb hK hP 1 0 rfl rfl (gi_in gp1 (by decide)) dX12_trustOf_20 ?_
    refine lv_topi (fun x_5 ex_5 => ?_)
    exact W.iret (v := x_5) hx hb hr (fun t ht hW => ⟨⟨x_5, (), rfl, (gi_any x_5), trivial⟩, hS.F ht⟩) hS.2.2 dX12_trustOf_21
  · have g_6 : gi (mi 45) 0 5 := gi_eq c_4.symm gp1
    refine lv_aload_n hx hb dX12_trustOf_8 rfl (lv_at hl 0 rfl) ?_
    refine va_get (D := (dC, dI)) (ci := 12) (v := .int (mi 44)) (C := RX12) (T := TX12) (N := 57) hx hb hts (fun w h => List.mem_cons_of_mem _ (jnGB_X12 w h)) hown hK hP 0 rfl rfl 44 (by decide) (hts _ (List.mem_cons_of_mem _ mGB_34)) (fun _ h9 => h9) rfl dX12_trustOf_9 ?_
    refine lv_goto (tgt := 21) hx hb dX12_trustOf_12 (by decide) ?_
    exact W.iret (v := (mi 44)) hx hb hr (fun t ht hW => ⟨⟨(mi 44), (), rfl, (gi_any (mi 44)), trivial⟩, hS.F ht⟩) hS.2.2 dX12_trustOf_21
theorem dX12_isAhead_0 : decode cX12_isAhead 0 = .ok (.aload_n 0, 1) := by decide +kernel
theorem dX12_isAhead_1 : decode cX12_isAhead 1 = .ok (.getfield 16, 3) := by decide +kernel
theorem dX12_isAhead_4 : decode cX12_isAhead 4 = .ok (.iload_n 1, 1) := by decide +kernel
theorem dX12_isAhead_5 : decode cX12_isAhead 5 = .ok (.iaload, 1) := by decide +kernel
theorem dX12_isAhead_6 : decode cX12_isAhead 6 = .ok (.istore_n 3, 1) := by decide +kernel
theorem dX12_isAhead_7 : decode cX12_isAhead 7 = .ok (.aload_n 0, 1) := by decide +kernel
theorem dX12_isAhead_8 : decode cX12_isAhead 8 = .ok (.getfield 16, 3) := by decide +kernel
theorem dX12_isAhead_11 : decode cX12_isAhead 11 = .ok (.iload_n 2, 1) := by decide +kernel
theorem dX12_isAhead_12 : decode cX12_isAhead 12 = .ok (.iaload, 1) := by decide +kernel
theorem dX12_isAhead_13 : decode cX12_isAhead 13 = .ok (.istore 4, 2) := by decide +kernel
theorem dX12_isAhead_15 : decode cX12_isAhead 15 = .ok (.aload_n 0, 1) := by decide +kernel
theorem dX12_isAhead_16 : decode cX12_isAhead 16 = .ok (.iload_n 3, 1) := by decide +kernel
theorem dX12_isAhead_17 : decode cX12_isAhead 17 = .ok (.invokevirtual 335, 3) := by decide +kernel
theorem dX12_isAhead_20 : decode cX12_isAhead 20 = .ok (.aload_n 0, 1) := by decide +kernel
theorem dX12_isAhead_21 : decode cX12_isAhead 21 = .ok (.iload 4, 2) := by decide +kernel
theorem dX12_isAhead_23 : decode cX12_isAhead 23 = .ok (.invokevirtual 335, 3) := by decide +kernel
theorem dX12_isAhead_26 : decode cX12_isAhead 26 = .ok (.if_icmp .eq 23, 3) := by decide +kernel
theorem dX12_isAhead_29 : decode cX12_isAhead 29 = .ok (.aload_n 0, 1) := by decide +kernel
theorem dX12_isAhead_30 : decode cX12_isAhead 30 = .ok (.iload_n 3, 1) := by decide +kernel
theorem dX12_isAhead_31 : decode cX12_isAhead 31 = .ok (.invokevirtual 335, 3) := by decide +kernel
theorem dX12_isAhead_34 : decode cX12_isAhead 34 = .ok (.aload_n 0, 1) := by decide +kernel
theorem dX12_isAhead_35 : decode cX12_isAhead 35 = .ok (.iload 4, 2) := by decide +kernel
theorem dX12_isAhead_37 : decode cX12_isAhead 37 = .ok (.invokevirtual 335, 3) := by decide +kernel
theorem dX12_isAhead_40 : decode cX12_isAhead 40 = .ok (.if_icmp .le 7, 3) := by decide +kernel
theorem dX12_isAhead_43 : decode cX12_isAhead 43 = .ok (.iconst 1, 1) := by decide +kernel
theorem dX12_isAhead_44 : decode cX12_isAhead 44 = .ok (.goto 4, 3) := by decide +kernel
theorem dX12_isAhead_47 : decode cX12_isAhead 47 = .ok (.iconst 0, 1) := by decide +kernel
theorem dX12_isAhead_48 : decode cX12_isAhead 48 = .ok (.ireturn, 1) := by decide +kernel
theorem dX12_isAhead_49 : decode cX12_isAhead 49 = .ok (.iload_n 3, 1) := by decide +kernel
theorem dX12_isAhead_50 : decode cX12_isAhead 50 = .ok (.iload 4, 2) := by decide +kernel
theorem dX12_isAhead_52 : decode cX12_isAhead 52 = .ok (.if_icmp .eq 11, 3) := by decide +kernel
theorem dX12_isAhead_55 : decode cX12_isAhead 55 = .ok (.aload_n 0, 1) := by decide +kernel
theorem dX12_isAhead_56 : decode cX12_isAhead 56 = .ok (.iload_n 3, 1) := by decide +kernel
theorem dX12_isAhead_57 : decode cX12_isAhead 57 = .ok (.iload 4, 2) := by decide +kernel
theorem dX12_isAhead_59 : decode cX12_isAhead 59 = .ok (.invokevirtual 300, 3) := by decide +kernel
theorem dX12_isAhead_62 : decode cX12_isAhead 62 = .ok (.ireturn, 1) := by decide +kernel
theorem dX12_isAhead_63 : decode cX12_isAhead 63 = .ok (.aload_n 0, 1) := by decide +kernel
theorem dX12_isAhead_64 : decode cX12_isAhead 64 = .ok (.getfield 26, 3) := by decide +kernel
theorem dX12_isAhead_67 : decode cX12_isAhead 67 = .ok (.iload_n 1, 1) := by decide +kernel
theorem dX12_isAhead_68 : decode cX12_isAhead 68 = .ok (.iaload, 1) := by decide +kernel
theorem dX12_isAhead_69 : decode cX12_isAhead 69 = .ok (.aload_n 0, 1) := by decide +kernel
theorem dX12_isAhead_70 : decode cX12_isAhead 70 = .ok (.getfield 26, 3) := by decide +kernel
theorem dX12_isAhead_73 : decode cX12_isAhead 73 = .ok (.iload_n 2, 1) := by decide +kernel
theorem dX12_isAhead_74 : decode cX12_isAhead 74 = .ok (.iaload, 1) := by decide +kernel
theorem dX12_isAhead_75 : decode cX12_isAhead 75 = .ok (.if_icmp .eq 24, 3) := by decide +kernel
theorem dX12_isAhead_78 : decode cX12_isAhead 78 = .ok (.aload_n 0, 1) := by decide +kernel
theorem dX12_isAhead_79 : decode cX12_isAhead 79 = .ok (.getfield 26, 3) := by decide +kernel
theorem dX12_isAhead_82 : decode cX12_isAhead 82 = .ok (.iload_n 1, 1) := by decide +kernel
theorem dX12_isAhead_83 : decode cX12_isAhead 83 = .ok (.iaload, 1) := by decide +kernel
theorem dX12_isAhead_84 : decode cX12_isAhead 84 = .ok (.aload_n 0, 1) := by decide +kernel
theorem dX12_isAhead_85 : decode cX12_isAhead 85 = .ok (.getfield 26, 3) := by decide +kernel
theorem dX12_isAhead_88 : decode cX12_isAhead 88 = .ok (.iload_n 2, 1) := by decide +kernel
theorem dX12_isAhead_89 : decode cX12_isAhead 89 = .ok (.iaload, 1) := by decide +kernel
theorem dX12_isAhead_90 : decode cX12_isAhead 90 = .ok (.if_icmp .ge 7, 3) := by decide +kernel
theorem dX12_isAhead_93 : decode cX12_isAhead 93 = .ok (.iconst 1, 1) := by decide +kernel
theorem dX12_isAhead_94 : decode cX12_isAhead 94 = .ok (.goto 4, 3) := by decide +kernel
theorem dX12_isAhead_97 : decode cX12_isAhead 97 = .ok (.iconst 0, 1) := by decide +kernel
theorem dX12_isAhead_98 : decode cX12_isAhead 98 = .ok (.ireturn, 1) := by decide +kernel
theorem dX12_isAhead_99 : decode cX12_isAhead 99 = .ok (.aload_n 0, 1) := by decide +kernel
theorem dX12_isAhead_100 : decode cX12_isAhead 100 = .ok (.getfield 29, 3) := by decide +kernel
theorem dX12_isAhead_103 : decode cX12_isAhead 103 = .ok (.iload_n 1, 1) := by decide +kernel
theorem dX12_isAhead_104 : decode cX12_isAhead 104 = .ok (.iaload, 1) := by decide +kernel
theorem dX12_isAhead_105 : decode cX12_isAhead 105 = .ok (.aload_n 0, 1) := by decide +kernel
theorem dX12_isAhead_106 : decode cX12_isAhead 106 = .ok (.getfield 29, 3) := by decide +kernel
theorem dX12_isAhead_109 : decode cX12_isAhead 109 = .ok (.iload_n 2, 1) := by decide +kernel
theorem dX12_isAhead_110 : decode cX12_isAhead 110 = .ok (.iaload, 1) := by decide +kernel
theorem dX12_isAhead_111 : decode cX12_isAhead 111 = .ok (.if_icmp .eq 24, 3) := by decide +kernel
theorem dX12_isAhead_114 : decode cX12_isAhead 114 = .ok (.aload_n 0, 1) := by decide +kernel
theorem dX12_isAhead_115 : decode cX12_isAhead 115 = .ok (.getfield 29, 3) := by decide +kernel
theorem dX12_isAhead_118 : decode cX12_isAhead 118 = .ok (.iload_n 1, 1) := by decide +kernel
theorem dX12_isAhead_119 : decode cX12_isAhead 119 = .ok (.iaload, 1) := by decide +kernel
theorem dX12_isAhead_120 : decode cX12_isAhead 120 = .ok (.aload_n 0, 1) := by decide +kernel
theorem dX12_isAhead_121 : decode cX12_isAhead 121 = .ok (.getfield 29, 3) := by decide +kernel
theorem dX12_isAhead_124 : decode cX12_isAhead 124 = .ok (.iload_n 2, 1) := by decide +kernel
theorem dX12_isAhead_125 : decode cX12_isAhead 125 = .ok (.iaload, 1) := by decide +kernel
theorem dX12_isAhead_126 : decode cX12_isAhead 126 = .ok (.if_icmp .ge 7, 3) := by decide +kernel
theorem dX12_isAhead_129 : decode cX12_isAhead 129 = .ok (.iconst 1, 1) := by decide +kernel
theorem dX12_isAhead_130 : decode cX12_isAhead 130 = .ok (.goto 4, 3) := by decide +kernel
theorem dX12_isAhead_133 : decode cX12_isAhead 133 = .ok (.iconst 0, 1) := by decide +kernel
theorem dX12_isAhead_134 : decode cX12_isAhead 134 = .ok (.ireturn, 1) := by decide +kernel
theorem dX12_isAhead_135 : decode cX12_isAhead 135 = .ok (.aload_n 0, 1) := by decide +kernel
theorem dX12_isAhead_136 : decode cX12_isAhead 136 = .ok (.getfield 19, 3) := by decide +kernel
theorem dX12_isAhead_139 : decode cX12_isAhead 139 = .ok (.iload_n 1, 1) := by decide +kernel
theorem dX12_isAhead_140 : decode cX12_isAhead 140 = .ok (.iaload, 1) := by decide +kernel
theorem dX12_isAhead_141 : decode cX12_isAhead 141 = .ok (.aload_n 0, 1) := by decide +kernel
theorem dX12_isAhead_142 : decode cX12_isAhead 142 = .ok (.getfield 19, 3) := by decide +kernel
theorem dX12_isAhead_145 : decode cX12_isAhead 145 = .ok (.iload_n 2, 1) := by decide +kernel
theorem dX12_isAhead_146 : decode cX12_isAhead 146 = .ok (.iaload, 1) := by decide +kernel
theorem dX12_isAhead_147 : decode cX12_isAhead 147 = .ok (.if_icmp .eq 26, 3) := by decide +kernel
theorem dX12_isAhead_150 : decode cX12_isAhead 150 = .ok (.aload_n 0, 1) := by decide +kernel
theorem dX12_isAhead_151 : decode cX12_isAhead 151 = .ok (.getfield 19, 3) := by decide +kernel
theorem dX12_isAhead_154 : decode cX12_isAhead 154 = .ok (.iload_n 1, 1) := by decide +kernel
theorem dX12_isAhead_155 : decode cX12_isAhead 155 = .ok (.iaload, 1) := by decide +kernel
theorem dX12_isAhead_156 : decode cX12_isAhead 156 = .ok (.aload_n 0, 1) := by decide +kernel
theorem dX12_isAhead_157 : decode cX12_isAhead 157 = .ok (.getfield 19, 3) := by decide +kernel
theorem dX12_isAhead_160 : decode cX12_isAhead 160 = .ok (.iload_n 2, 1) := by decide +kernel
theorem dX12_isAhead_161 : decode cX12_isAhead 161 = .ok (.iaload, 1) := by decide +kernel
theorem dX12_isAhead_162 : decode cX12_isAhead 162 = .ok (.if_icmp .ge 7, 3) := by decide +kernel
theorem dX12_isAhead_165 : decode cX12_isAhead 165 = .ok (.iconst 1, 1) := by decide +kernel
theorem dX12_isAhead_166 : decode cX12_isAhead 166 = .ok (.goto 17, 3) := by decide +kernel
theorem dX12_isAhead_169 : decode cX12_isAhead 169 = .ok (.iconst 0, 1) := by decide +kernel
theorem dX12_isAhead_170 : decode cX12_isAhead 170 = .ok (.goto 13, 3) := by decide +kernel
theorem dX12_isAhead_173 : decode cX12_isAhead 173 = .ok (.iload_n 1, 1) := by decide +kernel
theorem dX12_isAhead_174 : decode cX12_isAhead 174 = .ok (.iload_n 2, 1) := by decide +kernel
theorem dX12_isAhead_175 : decode cX12_isAhead 175 = .ok (.if_icmp .ge 7, 3) := by decide +kernel
theorem dX12_isAhead_178 : decode cX12_isAhead 178 = .ok (.iconst 1, 1) := by decide +kernel
theorem dX12_isAhead_179 : decode cX12_isAhead 179 = .ok (.goto 4, 3) := by decide +kernel
theorem dX12_isAhead_182 : decode cX12_isAhead 182 = .ok (.iconst 0, 1) := by decide +kernel
theorem dX12_isAhead_183 : decode cX12_isAhead 183 = .ok (.ireturn, 1) := by decide +kernel
set_option maxHeartbeats 4000000 in
set_option maxRecDepth 100000 in
theorem sX12_isAhead (l : Launch) (dC : Nat → ClassId) (dI : Nat → Nat → Nat) (h0 : Nat) (mi : Nat → Int32) (mr : Nat → Nat) (km_reportPlace : ClassId) (fm_reportPlace : Nat → Int32) (km_reportMonth : ClassId) (fm_reportMonth : Nat → Int32) (km_reportDay : ClassId) (fm_reportDay : Nat → Int32) (km_reportKind : ClassId) (fm_reportKind : Nat → Int32) (km_trust : ClassId) (fm_trust : Nat → Int32) (km_letter : ClassId) (fm_letter : Nat → Int32) (p1 : Int32) (p2 : Int32) (gmi_0 : gi (mi 0) 0 24) (gmi_1 : gi (mi 1) 0 5) (gmi_2 : gi (mi 2) 0 5) (gmi_4 : gi (mi 4) 0 1) (gmi_7 : gi (mi 7) 0 6) (gmi_10 : gi (mi 10) 0 24) (gmi_17 : gi (mi 17) 0 8) (gmi_23 : gi (mi 23) 0 300) (gmi_24 : gi (mi 24) 0 1) (gmi_26 : gi (mi 26) 0 1600) (gmi_29 : gi (mi 29) 0 1600) (gmi_30 : gi (mi 30) 0 1600) (gmi_33 : gi (mi 33) 0 1) (gmi_37 : gi (mi 37) 0 1) (gmi_41 : gi (mi 41) 0 24) (gmi_50 : gi (mi 50) 0 1) (gmi_51 : gi (mi 51) 0 1) (gmi_56 : gi (mi 56) 0 80) (gfm_reportPlace : ga fm_reportPlace 24 0 5) (gfm_reportMonth : ga fm_reportMonth 24 0 23) (gfm_reportDay : ga fm_reportDay 24 0 999) (gp1 : gi p1 0 23) (gp2 : gi p2 0 23) : Met l yX12_isAhead (.code yX12_isAhead cX12_isAhead 5 (some .boolean) :: wsGB) ({ frames := 1, cells := 0, slots := 0, locals := 25 }) (va_Pc [.ref h0, .int p1, .int p2] (fun U => va_P (dC, dI) vwCl [(h0, .inr (12, fsMM mi mr)), ((mr 2), .inl (km_reportPlace, 24, .inl fm_reportPlace)), ((mr 5), .inl (km_reportMonth, 24, .inl fm_reportMonth)), ((mr 6), .inl (km_reportDay, 24, .inl fm_reportDay)), ((mr 3), .inl (km_reportKind, 24, .inl fm_reportKind)), ((mr 0), .inl (km_trust, 6, .inl fm_trust)), ((mr 1), .inl (km_letter, 36, .inl fm_letter))] U.heap ∧ va_K (dC, dI) vwCl [(km_reportPlace, .int), (km_reportMonth, .int), (km_reportDay, .int), (km_reportKind, .int), (km_trust, .int), (km_letter, .int)] U)) (va_Qi (fun (r : Int32) (u : Unit) => gi r 0 1) (fun _ _ => True) (fun _ => False)) 0 0 (fun _ => False) := by
  refine Met.ofW (cc := cX12_isAhead) (maxL := 5) (ret := (some .boolean)) (by decide) rfl ?_
  intro p e s m args below meth c s₁ B hml hv
  obtain ⟨rfl, hP, hK⟩ := hv
  have hx := B.exec
  have hb := B.bytes
  have hr := B.returns
  have hts := atoms_spec (ws := (.code yX12_isAhead cX12_isAhead 5 (some .boolean) :: wsGB)) B.pre
  have hown : s.vm.findClass RX12 = some m.cls := findClass_of_methodNamed B.named
  have hlocks := B.notSynchronized
  have hS : va_S (fun _ => False) s.heap s.heap [] := va_S.rf
  have hl := lv_entry ([.ref h0, .int p1, .int p2]) (n := 5) (Nat.le_of_ble_eq_true rfl)
  rw [lg_entry_eq]
  generalize (lg_sl ([.ref h0, .int p1, .int p2]) ++ List.replicate (5 - (lg_sl ([.ref h0, .int p1, .int p2])).length) Slot.unset).toArray = ls at hl ⊢
  have hl : lv_has ls 5 [(0, .ref h0), (1, .int p1), (2, .int p2)] := hl
  refine lv_aload_n hx hb dX12_isAhead_0 rfl (lv_at hl 0 rfl) ?_
  refine va_get (D := (dC, dI)) (ci := 12) (v := .ref (mr 2)) (C := RX12) (T := TX12) (N := 57) hx hb hts (fun w h => List.mem_cons_of_mem _ (jnGB_X12 w h)) hown hK hP 0 rfl rfl 11 (by decide) (hts _ (List.mem_cons_of_mem _ mGB_12)) (fun _ h9 => h9) rfl dX12_isAhead_1 ?_
  refine lv_iload_n hx hb dX12_isAhead_4 rfl (lv_at hl 1 rfl) ?_
  refine va_iald hx hb hK hP 1 0 rfl rfl (gi_in gp1 (by decide)) dX12_isAhead_5 ?_
  refine lv_topi (fun x_40 ex_40 => ?_)
  have gx_40 : gi x_40 0 5 := ga_at gfm_reportPlace (gi_in gp1 (by decide)) ex_40
  refine lv_istore_n (lv' := [(3, .int x_40), (0, .ref h0), (1, .int p1), (2, .int p2)]) hx hb dX12_isAhead_6 rfl hl (by decide) rfl (fun ls hl => ?_)
  refine lv_aload_n hx hb dX12_isAhead_7 rfl (lv_at hl 1 rfl) ?_
  refine va_get (D := (dC, dI)) (ci := 12) (v := .ref (mr 2)) (C := RX12) (T := TX12) (N := 57) hx hb hts (fun w h => List.mem_cons_of_mem _ (jnGB_X12 w h)) hown hK hP 0 rfl rfl 11 (by decide) (hts _ (List.mem_cons_of_mem _ mGB_12)) (fun _ h9 => h9) rfl dX12_isAhead_8 ?_
  refine lv_iload_n hx hb dX12_isAhead_11 rfl (lv_at hl 3 rfl) ?_
  refine va_iald hx hb hK hP 1 0 rfl rfl (gi_in gp2 (by decide)) dX12_isAhead_12 ?_
  refine lv_topi (fun x_41 ex_41 => ?_)
  have gx_41 : gi x_41 0 5 := ga_at gfm_reportPlace (gi_in gp2 (by decide)) ex_41
  refine lv_istore (lv' := [(4, .int x_41), (3, .int x_40), (0, .ref h0), (1, .int p1), (2, .int p2)]) hx hb dX12_isAhead_13 hl (by decide) rfl (fun ls hl => ?_)
  refine lv_aload_n hx hb dX12_isAhead_15 rfl (lv_at hl 2 rfl) ?_
  refine lv_iload_n hx hb dX12_isAhead_16 rfl (lv_at hl 1 rfl) ?_
  have hPc := hP.sub (ws' := [(h0, .inr (12, fsMM mi mr)), ((mr 0), .inl (km_trust, 6, .inl fm_trust))]) [0, 5] rfl
  have hKc := hK.sub (tys' := [(km_trust, .int)]) [4] rfl
  refine va_calli (va_runV (As := [.int x_40]) (rest := []) ⟨hx, hb, hml, hown, hts⟩ (sX12_trustOf l dC dI h0 mi mr km_trust fm_trust x_40 gmi_0 gmi_1 gmi_2 gmi_4 gmi_7 gmi_10 gmi_17 gmi_23 gmi_24 gmi_26 gmi_29 gmi_30 gmi_33 gmi_37 gmi_41 gmi_50 gmi_51 gmi_56 gx_40) (cwV 1 hts (gz_gV mGB_287 mGB_288 mGB_289 mGB_1 mGB_290 goodGB) rfl rfl rfl (by decide +kernel) ⟨Nat.le_of_ble_eq_true rfl, Nat.le_of_ble_eq_true rfl⟩) ⟨fun a U g mk q => by obtain ⟨q0, qP, qK⟩ := q; exact ⟨q0, qP, va_K.moved (u := U) (U := U.calling g mk a) (Vm.Alike.refl U.vm) qK⟩, va_recv hKc hPc (ci := 12) (q0 := 0) rfl rfl, fun U hU hW => ⟨rfl, by rw [hU]; exact hPc, va_K.moved hW.alike hKc⟩⟩ rfl rfl hl.1 rfl (lv_room (Nat.le_of_ble_eq_true rfl)) dX12_isAhead_17 ⟨Nat.zero_le _, Nat.zero_le _⟩) hS (fun q _ h => h.elim) (fun q h => h.elim) (fun r_42 u t H1 locs ht hvm hw hB hz1 hk1 hS => ?_)
  have hP := gz_keep hP hk1
  generalize H1 = H at hP hS ⊢
  refine lv_aload_n hx hb dX12_isAhead_20 rfl (lv_at hl 2 rfl) ?_
  refine lv_iload hx hb dX12_isAhead_21 (lv_at hl 0 rfl) ?_
  have hPc := hP.sub (ws' := [(h0, .inr (12, fsMM mi mr)), ((mr 0), .inl (km_trust, 6, .inl fm_trust))]) [0, 5] rfl
  have hKc := hK.sub (tys' := [(km_trust, .int)]) [4] rfl
  refine va_calli (va_runV (As := [.int x_41]) (rest := [.int r_42]) ⟨hx, hb, hml, hown, hts⟩ (sX12_trustOf l dC dI h0 mi mr km_trust fm_trust x_41 gmi_0 gmi_1 gmi_2 gmi_4 gmi_7 gmi_10 gmi_17 gmi_23 gmi_24 gmi_26 gmi_29 gmi_30 gmi_33 gmi_37 gmi_41 gmi_50 gmi_51 gmi_56 gx_41) (cwV 1 hts (gz_gV mGB_287 mGB_288 mGB_289 mGB_1 mGB_290 goodGB) rfl rfl rfl (by decide +kernel) ⟨Nat.le_of_ble_eq_true rfl, Nat.le_of_ble_eq_true rfl⟩) ⟨fun a U g mk q => by obtain ⟨q0, qP, qK⟩ := q; exact ⟨q0, qP, va_K.moved (u := U) (U := U.calling g mk a) (Vm.Alike.refl U.vm) qK⟩, va_recv hKc hPc (ci := 12) (q0 := 0) rfl rfl, fun U hU hW => ⟨rfl, by rw [hU]; exact hPc, va_K.moved hW.alike hKc⟩⟩ rfl rfl hl.1 rfl (lv_room (Nat.le_of_ble_eq_true rfl)) dX12_isAhead_23 ⟨Nat.zero_le _, Nat.zero_le _⟩) hS (fun q _ h => h.elim) (fun q h => h.elim) (fun r_43 u t H1 locs ht hvm hw hB hz1 hk1 hS => ?_)
  have hP := gz_keep hP hk1
  generalize H1 = H at hP hS ⊢
  refine lv_icmp_eq (tgt := 49) hx hb dX12_isAhead_26 (by decide) (fun c_44 => ?_) (fun c_44 => ?_)
  · refine lv_iload_n hx hb dX12_isAhead_49 rfl (lv_at hl 1 rfl) ?_
    refine lv_iload hx hb dX12_isAhead_50 (lv_at hl 0 rfl) ?_
    refine lv_icmp_eq (tgt := 63) hx hb dX12_isAhead_52 (by decide) (fun c_45 => ?_) (fun c_45 => ?_)
    · refine lv_aload_n hx hb dX12_isAhead_63 rfl (lv_at hl 2 rfl) ?_
      refine va_get (D := (dC, dI)) (ci := 12) (v := .ref (mr 5)) (C := RX12) (T := TX12) (N := 57) hx hb hts (fun w h => List.mem_cons_of_mem _ (jnGB_X12 w h)) hown hK hP 0 rfl rfl 14 (by decide) (hts _ (List.mem_cons_of_mem _ mGB_16)) (fun _ h9 => h9) rfl dX12_isAhead_64 ?_
      refine lv_iload_n hx hb dX12_isAhead_67 rfl (lv_at hl 3 rfl) ?_
      refine va_iald hx hb hK hP 2 1 rfl rfl (gi_in gp1 (by decide)) dX12_isAhead_68 ?_
      refine lv_topi (fun x_46 ex_46 => ?_)
      have gx_46 : gi x_46 0 23 := ga_at gfm_reportMonth (gi_in gp1 (by decide)) ex_46
      refine lv_aload_n hx hb dX12_isAhead_69 rfl (lv_at hl 2 rfl) ?_
      refine va_get (D := (dC, dI)) (ci := 12) (v := .ref (mr 5)) (C := RX12) (T := TX12) (N := 57) hx hb hts (fun w h => List.mem_cons_of_mem _ (jnGB_X12 w h)) hown hK hP 0 rfl rfl 14 (by decide) (hts _ (List.mem_cons_of_mem _ mGB_16)) (fun _ h9 => h9) rfl dX12_isAhead_70 ?_
      refine lv_iload_n hx hb dX12_isAhead_73 rfl (lv_at hl 4 rfl) ?_
      refine va_iald hx hb hK hP 2 1 rfl rfl (gi_in gp2 (by decide)) dX12_isAhead_74 ?_
      refine lv_topi (fun x_47 ex_47 => ?_)
      have gx_47 : gi x_47 0 23 := ga_at gfm_reportMonth (gi_in gp2 (by decide)) ex_47
      refine lv_icmp_eq (tgt := 99) hx hb dX12_isAhead_75 (by decide) (fun c_48 => ?_) (fun c_48 => ?_)
      · refine lv_aload_n hx hb dX12_isAhead_99 rfl (lv_at hl 2 rfl) ?_
        refine va_get (D := (dC, dI)) (ci := 12) (v := .ref (mr 6)) (C := RX12) (T := TX12) (N := 57) hx hb hts (fun w h => List.mem_cons_of_mem _ (jnGB_X12 w h)) hown hK hP 0 rfl rfl 15 (by decide) (hts _ (List.mem_cons_of_mem _ mGB_17)) (fun _ h9 => h9) rfl dX12_isAhead_100 ?_
        refine lv_iload_n hx hb dX12_isAhead_103 rfl (lv_at hl 3 rfl) ?_
        refine va_iald hx hb hK hP 3 2 rfl rfl (gi_in gp1 (by decide)) dX12_isAhead_104 ?_
        refine lv_topi (fun x_49 ex_49 => ?_)
        have gx_49 : gi x_49 0 999 := ga_at gfm_reportDay (gi_in gp1 (by decide)) ex_49
        refine lv_aload_n hx hb dX12_isAhead_105 rfl (lv_at hl 2 rfl) ?_
        refine va_get (D := (dC, dI)) (ci := 12) (v := .ref (mr 6)) (C := RX12) (T := TX12) (N := 57) hx hb hts (fun w h => List.mem_cons_of_mem _ (jnGB_X12 w h)) hown hK hP 0 rfl rfl 15 (by decide) (hts _ (List.mem_cons_of_mem _ mGB_17)) (fun _ h9 => h9) rfl dX12_isAhead_106 ?_
        refine lv_iload_n hx hb dX12_isAhead_109 rfl (lv_at hl 4 rfl) ?_
        refine va_iald hx hb hK hP 3 2 rfl rfl (gi_in gp2 (by decide)) dX12_isAhead_110 ?_
        refine lv_topi (fun x_50 ex_50 => ?_)
        have gx_50 : gi x_50 0 999 := ga_at gfm_reportDay (gi_in gp2 (by decide)) ex_50
        refine lv_icmp_eq (tgt := 135) hx hb dX12_isAhead_111 (by decide) (fun c_51 => ?_) (fun c_51 => ?_)
        · refine lv_aload_n hx hb dX12_isAhead_135 rfl (lv_at hl 2 rfl) ?_
          refine va_get (D := (dC, dI)) (ci := 12) (v := .ref (mr 3)) (C := RX12) (T := TX12) (N := 57) hx hb hts (fun w h => List.mem_cons_of_mem _ (jnGB_X12 w h)) hown hK hP 0 rfl rfl 12 (by decide) (hts _ (List.mem_cons_of_mem _ mGB_13)) (fun _ h9 => h9) rfl dX12_isAhead_136 ?_
          refine lv_iload_n hx hb dX12_isAhead_139 rfl (lv_at hl 3 rfl) ?_
          refine va_iald hx hb hK hP 4 3 rfl rfl (gi_in gp1 (by decide)) dX12_isAhead_140 ?_
          refine lv_topi (fun x_52 ex_52 => ?_)
          refine lv_aload_n hx hb dX12_isAhead_141 rfl (lv_at hl 2 rfl) ?_
          refine va_get (D := (dC, dI)) (ci := 12) (v := .ref (mr 3)) (C := RX12) (T := TX12) (N := 57) hx hb hts (fun w h => List.mem_cons_of_mem _ (jnGB_X12 w h)) hown hK hP 0 rfl rfl 12 (by decide) (hts _ (List.mem_cons_of_mem _ mGB_13)) (fun _ h9 => h9) rfl dX12_isAhead_142 ?_
          refine lv_iload_n hx hb dX12_isAhead_145 rfl (lv_at hl 4 rfl) ?_
          refine va_iald hx hb hK hP 4 3 rfl rfl (gi_in gp2 (by decide)) dX12_isAhead_146 ?_
          refine lv_topi (fun x_53 ex_53 => ?_)
          refine lv_icmp_eq (tgt := 173) hx hb dX12_isAhead_147 (by decide) (fun c_54 => ?_) (fun c_54 => ?_)
          · refine lv_iload_n hx hb dX12_isAhead_173 rfl (lv_at hl 3 rfl) ?_
            refine lv_iload_n hx hb dX12_isAhead_174 rfl (lv_at hl 4 rfl) ?_
            refine lv_icmp_ge (tgt := 182) hx hb dX12_isAhead_175 (by decide) (fun c_55 => ?_) (fun c_55 => ?_)
            · refine lv_iconst (v := 0) hx hb dX12_isAhead_182 (by decide) ?_
              exact W.zret (v := 0) hx hb hr (by decide) (fun t ht hW => ⟨⟨0, (), rfl, (gi_w (gi_c 0 0 (by decide)) (by decide)), trivial⟩, hS.F ht⟩) hS.2.2 dX12_isAhead_183
            · have g_56 : gi p1 0 22 := gi_lt_l (Int32.not_le.mp c_55) gp1 gp2 (by decide)
              have g_57 : gi p2 1 23 := gi_lt_r (Int32.not_le.mp c_55) gp1 gp2 (by decide)
              refine lv_iconst (v := 1) hx hb dX12_isAhead_178 (by decide) ?_
              refine lv_goto (tgt := 183) hx hb dX12_isAhead_179 (by decide) ?_
              exact W.zret (v := 1) hx hb hr (by decide) (fun t ht hW => ⟨⟨1, (), rfl, (gi_w (gi_c 1 1 (by decide)) (by decide)), trivial⟩, hS.F ht⟩) hS.2.2 dX12_isAhead_183
          · refine lv_aload_n hx hb dX12_isAhead_150 rfl (lv_at hl 2 rfl) ?_
            refine va_get (D := (dC, dI)) (ci := 12) (v := .ref (mr 3)) (C := RX12) (T := TX12) (N := 57) hx hb hts (fun w h => List.mem_cons_of_mem _ (jnGB_X12 w h)) hown hK hP 0 rfl rfl 12 (by decide) (hts _ (List.mem_cons_of_mem _ mGB_13)) (fun _ h9 => h9) rfl dX12_isAhead_151 ?_
            refine lv_iload_n hx hb dX12_isAhead_154 rfl (lv_at hl 3 rfl) ?_
            refine va_iald hx hb hK hP 4 3 rfl rfl (gi_in gp1 (by decide)) dX12_isAhead_155 ?_
            refine lv_topi (fun x_58 ex_58 => ?_)
            refine lv_aload_n hx hb dX12_isAhead_156 rfl (lv_at hl 2 rfl) ?_
            refine va_get (D := (dC, dI)) (ci := 12) (v := .ref (mr 3)) (C := RX12) (T := TX12) (N := 57) hx hb hts (fun w h => List.mem_cons_of_mem _ (jnGB_X12 w h)) hown hK hP 0 rfl rfl 12 (by decide) (hts _ (List.mem_cons_of_mem _ mGB_13)) (fun _ h9 => h9) rfl dX12_isAhead_157 ?_
            refine lv_iload_n hx hb dX12_isAhead_160 rfl (lv_at hl 4 rfl) ?_
            refine va_iald hx hb hK hP 4 3 rfl rfl (gi_in gp2 (by decide)) dX12_isAhead_161 ?_
            refine lv_topi (fun x_59 ex_59 => ?_)
            refine lv_icmp_ge (tgt := 169) hx hb dX12_isAhead_162 (by decide) (fun c_60 => ?_) (fun c_60 => ?_)
            · refine lv_iconst (v := 0) hx hb dX12_isAhead_169 (by decide) ?_
              refine lv_goto (tgt := 183) hx hb dX12_isAhead_170 (by decide) ?_
              exact W.zret (v := 0) hx hb hr (by decide) (fun t ht hW => ⟨⟨0, (), rfl, (gi_w (gi_c 0 0 (by decide)) (by decide)), trivial⟩, hS.F ht⟩) hS.2.2 dX12_isAhead_183
            · have g_61 : gi x_58 (-2147483648) 2147483646 := gi_lt_l (Int32.not_le.mp c_60) (gi_any x_58) (gi_any x_59) (by decide)
              have g_62 : gi x_59 (-2147483647) 2147483647 := gi_lt_r (Int32.not_le.mp c_60) (gi_any x_58) (gi_any x_59) (by decide)
              refine lv_iconst (v := 1) hx hb dX12_isAhead_165 (by decide) ?_
              refine lv_goto (tgt := 183) hx hb dX12_isAhead_166 (by decide) ?_
              exact W.zret (v := 1) hx hb hr (by decide) (fun t ht hW => ⟨⟨1, (), rfl, (gi_w (gi_c 1 1 (by decide)) (by decide)), trivial⟩, hS.F ht⟩) hS.2.2 dX12_isAhead_183
        · refine lv_aload_n hx hb dX12_isAhead_114 rfl (lv_at hl 2 rfl) ?_
          refine va_get (D := (dC, dI)) (ci := 12) (v := .ref (mr 6)) (C := RX12) (T := TX12) (N := 57) hx hb hts (fun w h => List.mem_cons_of_mem _ (jnGB_X12 w h)) hown hK hP 0 rfl rfl 15 (by decide) (hts _ (List.mem_cons_of_mem _ mGB_17)) (fun _ h9 => h9) rfl dX12_isAhead_115 ?_
          refine lv_iload_n hx hb dX12_isAhead_118 rfl (lv_at hl 3 rfl) ?_
          refine va_iald hx hb hK hP 3 2 rfl rfl (gi_in gp1 (by decide)) dX12_isAhead_119 ?_
          refine lv_topi (fun x_63 ex_63 => ?_)
          have gx_63 : gi x_63 0 999 := ga_at gfm_reportDay (gi_in gp1 (by decide)) ex_63
          refine lv_aload_n hx hb dX12_isAhead_120 rfl (lv_at hl 2 rfl) ?_
          refine va_get (D := (dC, dI)) (ci := 12) (v := .ref (mr 6)) (C := RX12) (T := TX12) (N := 57) hx hb hts (fun w h => List.mem_cons_of_mem _ (jnGB_X12 w h)) hown hK hP 0 rfl rfl 15 (by decide) (hts _ (List.mem_cons_of_mem _ mGB_17)) (fun _ h9 => h9) rfl dX12_isAhead_121 ?_
          refine lv_iload_n hx hb dX12_isAhead_124 rfl (lv_at hl 4 rfl) ?_
          refine va_iald hx hb hK hP 3 2 rfl rfl (gi_in gp2 (by decide)) dX12_isAhead_125 ?_
          refine lv_topi (fun x_64 ex_64 => ?_)
          have gx_64 : gi x_64 0 999 := ga_at gfm_reportDay (gi_in gp2 (by decide)) ex_64
          refine lv_icmp_ge (tgt := 133) hx hb dX12_isAhead_126 (by decide) (fun c_65 => ?_) (fun c_65 => ?_)
          · refine lv_iconst (v := 0) hx hb dX12_isAhead_133 (by decide) ?_
            exact W.zret (v := 0) hx hb hr (by decide) (fun t ht hW => ⟨⟨0, (), rfl, (gi_w (gi_c 0 0 (by decide)) (by decide)), trivial⟩, hS.F ht⟩) hS.2.2 dX12_isAhead_134
          · have g_66 : gi x_63 0 998 := gi_lt_l (Int32.not_le.mp c_65) gx_63 gx_64 (by decide)
            have g_67 : gi x_64 1 999 := gi_lt_r (Int32.not_le.mp c_65) gx_63 gx_64 (by decide)
            refine lv_iconst (v := 1) hx hb dX12_isAhead_129 (by decide) ?_
            refine lv_goto (tgt := 134) hx hb dX12_isAhead_130 (by decide) ?_
            exact W.zret (v := 1) hx hb hr (by decide) (fun t ht hW => ⟨⟨1, (), rfl, (gi_w (gi_c 1 1 (by decide)) (by decide)), trivial⟩, hS.F ht⟩) hS.2.2 dX12_isAhead_134
      · refine lv_aload_n hx hb dX12_isAhead_78 rfl (lv_at hl 2 rfl) ?_
        refine va_get (D := (dC, dI)) (ci := 12) (v := .ref (mr 5)) (C := RX12) (T := TX12) (N := 57) hx hb hts (fun w h => List.mem_cons_of_mem _ (jnGB_X12 w h)) hown hK hP 0 rfl rfl 14 (by decide) (hts _ (List.mem_cons_of_mem _ mGB_16)) (fun _ h9 => h9) rfl dX12_isAhead_79 ?_
        refine lv_iload_n hx hb dX12_isAhead_82 rfl (lv_at hl 3 rfl) ?_
        refine va_iald hx hb hK hP 2 1 rfl rfl (gi_in gp1 (by decide)) dX12_isAhead_83 ?_
        refine lv_topi (fun x_68 ex_68 => ?_)
        have gx_68 : gi x_68 0 23 := ga_at gfm_reportMonth (gi_in gp1 (by decide)) ex_68
        refine lv_aload_n hx hb dX12_isAhead_84 rfl (lv_at hl 2 rfl) ?_
        refine va_get (D := (dC, dI)) (ci := 12) (v := .ref (mr 5)) (C := RX12) (T := TX12) (N := 57) hx hb hts (fun w h => List.mem_cons_of_mem _ (jnGB_X12 w h)) hown hK hP 0 rfl rfl 14 (by decide) (hts _ (List.mem_cons_of_mem _ mGB_16)) (fun _ h9 => h9) rfl dX12_isAhead_85 ?_
        refine lv_iload_n hx hb dX12_isAhead_88 rfl (lv_at hl 4 rfl) ?_
        refine va_iald hx hb hK hP 2 1 rfl rfl (gi_in gp2 (by decide)) dX12_isAhead_89 ?_
        refine lv_topi (fun x_69 ex_69 => ?_)
        have gx_69 : gi x_69 0 23 := ga_at gfm_reportMonth (gi_in gp2 (by decide)) ex_69
        refine lv_icmp_ge (tgt := 97) hx hb dX12_isAhead_90 (by decide) (fun c_70 => ?_) (fun c_70 => ?_)
        · refine lv_iconst (v := 0) hx hb dX12_isAhead_97 (by decide) ?_
          exact W.zret (v := 0) hx hb hr (by decide) (fun t ht hW => ⟨⟨0, (), rfl, (gi_w (gi_c 0 0 (by decide)) (by decide)), trivial⟩, hS.F ht⟩) hS.2.2 dX12_isAhead_98
        · have g_71 : gi x_68 0 22 := gi_lt_l (Int32.not_le.mp c_70) gx_68 gx_69 (by decide)
          have g_72 : gi x_69 1 23 := gi_lt_r (Int32.not_le.mp c_70) gx_68 gx_69 (by decide)
          refine lv_iconst (v := 1) hx hb dX12_isAhead_93 (by decide) ?_
          refine lv_goto (tgt := 98) hx hb dX12_isAhead_94 (by decide) ?_
          exact W.zret (v := 1) hx hb hr (by decide) (fun t ht hW => ⟨⟨1, (), rfl, (gi_w (gi_c 1 1 (by decide)) (by decide)), trivial⟩, hS.F ht⟩) hS.2.2 dX12_isAhead_98
    · refine lv_aload_n hx hb dX12_isAhead_55 rfl (lv_at hl 2 rfl) ?_
      refine lv_iload_n hx hb dX12_isAhead_56 rfl (lv_at hl 1 rfl) ?_
      refine lv_iload hx hb dX12_isAhead_57 (lv_at hl 0 rfl) ?_
      have hPc := hP.sub (ws' := [(h0, .inr (12, fsMM mi mr)), ((mr 1), .inl (km_letter, 36, .inl fm_letter))]) [0, 6] rfl
      have hKc := hK.sub (tys' := [(km_letter, .int)]) [5] rfl
      refine va_calli (va_runV (As := [.int x_40, .int x_41]) (rest := []) ⟨hx, hb, hml, hown, hts⟩ (sX12_isNameAhead l dC dI h0 mi mr km_letter fm_letter x_40 x_41 gmi_0 gmi_1 gmi_2 gmi_4 gmi_7 gmi_10 gmi_17 gmi_23 gmi_24 gmi_26 gmi_29 gmi_30 gmi_33 gmi_37 gmi_41 gmi_50 gmi_51 gmi_56 gx_40 gx_41) (cwV 2 hts (gz_gV mGB_228 mGB_229 mGB_230 mGB_1 mGB_231 goodGB) rfl rfl rfl (by decide +kernel) ⟨Nat.le_of_ble_eq_true rfl, Nat.le_of_ble_eq_true rfl⟩) ⟨fun a U g mk q => by obtain ⟨q0, qP, qK⟩ := q; exact ⟨q0, qP, va_K.moved (u := U) (U := U.calling g mk a) (Vm.Alike.refl U.vm) qK⟩, va_recv hKc hPc (ci := 12) (q0 := 0) rfl rfl, fun U hU hW => ⟨rfl, by rw [hU]; exact hPc, va_K.moved hW.alike hKc⟩⟩ rfl rfl hl.1 rfl (lv_room (Nat.le_of_ble_eq_true rfl)) dX12_isAhead_59 ⟨Nat.zero_le _, Nat.zero_le _⟩) hS (fun q _ h => h.elim) (fun q h => h.elim) (fun r_73 u t H1 locs ht hvm hw hB hz1 hk1 hS => ?_)
      have hP := gz_keep hP hk1
      generalize H1 = H at hP hS ⊢
      have gr_73 : gi r_73 0 1 := hw
      exact W.zret (v := r_73) hx hb hr (gz_nb gr_73) (fun t ht hW => ⟨⟨r_73, (), rfl, gr_73, trivial⟩, hS.F ht⟩) hS.2.2 dX12_isAhead_62
  · refine lv_aload_n hx hb dX12_isAhead_29 rfl (lv_at hl 2 rfl) ?_
    refine lv_iload_n hx hb dX12_isAhead_30 rfl (lv_at hl 1 rfl) ?_
    have hPc := hP.sub (ws' := [(h0, .inr (12, fsMM mi mr)), ((mr 0), .inl (km_trust, 6, .inl fm_trust))]) [0, 5] rfl
    have hKc := hK.sub (tys' := [(km_trust, .int)]) [4] rfl
    refine va_calli (va_runV (As := [.int x_40]) (rest := []) ⟨hx, hb, hml, hown, hts⟩ (sX12_trustOf l dC dI h0 mi mr km_trust fm_trust x_40 gmi_0 gmi_1 gmi_2 gmi_4 gmi_7 gmi_10 gmi_17 gmi_23 gmi_24 gmi_26 gmi_29 gmi_30 gmi_33 gmi_37 gmi_41 gmi_50 gmi_51 gmi_56 gx_40) (cwV 1 hts (gz_gV mGB_287 mGB_288 mGB_289 mGB_1 mGB_290 goodGB) rfl rfl rfl (by decide +kernel) ⟨Nat.le_of_ble_eq_true rfl, Nat.le_of_ble_eq_true rfl⟩) ⟨fun a U g mk q => by obtain ⟨q0, qP, qK⟩ := q; exact ⟨q0, qP, va_K.moved (u := U) (U := U.calling g mk a) (Vm.Alike.refl U.vm) qK⟩, va_recv hKc hPc (ci := 12) (q0 := 0) rfl rfl, fun U hU hW => ⟨rfl, by rw [hU]; exact hPc, va_K.moved hW.alike hKc⟩⟩ rfl rfl hl.1 rfl (lv_room (Nat.le_of_ble_eq_true rfl)) dX12_isAhead_31 ⟨Nat.zero_le _, Nat.zero_le _⟩) hS (fun q _ h => h.elim) (fun q h => h.elim) (fun r_74 u t H1 locs ht hvm hw hB hz1 hk1 hS => ?_)
    have hP := gz_keep hP hk1
    generalize H1 = H at hP hS ⊢
    refine lv_aload_n hx hb dX12_isAhead_34 rfl (lv_at hl 2 rfl) ?_
    refine lv_iload hx hb dX12_isAhead_35 (lv_at hl 0 rfl) ?_
    have hPc := hP.sub (ws' := [(h0, .inr (12, fsMM mi mr)), ((mr 0), .inl (km_trust, 6, .inl fm_trust))]) [0, 5] rfl
    have hKc := hK.sub (tys' := [(km_trust, .int)]) [4] rfl
    refine va_calli (va_runV (As := [.int x_41]) (rest := [.int r_74]) ⟨hx, hb, hml, hown, hts⟩ (sX12_trustOf l dC dI h0 mi mr km_trust fm_trust x_41 gmi_0 gmi_1 gmi_2 gmi_4 gmi_7 gmi_10 gmi_17 gmi_23 gmi_24 gmi_26 gmi_29 gmi_30 gmi_33 gmi_37 gmi_41 gmi_50 gmi_51 gmi_56 gx_41) (cwV 1 hts (gz_gV mGB_287 mGB_288 mGB_289 mGB_1 mGB_290 goodGB) rfl rfl rfl (by decide +kernel) ⟨Nat.le_of_ble_eq_true rfl, Nat.le_of_ble_eq_true rfl⟩) ⟨fun a U g mk q => by obtain ⟨q0, qP, qK⟩ := q; exact ⟨q0, qP, va_K.moved (u := U) (U := U.calling g mk a) (Vm.Alike.refl U.vm) qK⟩, va_recv hKc hPc (ci := 12) (q0 := 0) rfl rfl, fun U hU hW => ⟨rfl, by rw [hU]; exact hPc, va_K.moved hW.alike hKc⟩⟩ rfl rfl hl.1 rfl (lv_room (Nat.le_of_ble_eq_true rfl)) dX12_isAhead_37 ⟨Nat.zero_le _, Nat.zero_le _⟩) hS (fun q _ h => h.elim) (fun q h => h.elim) (fun r_75 u t H1 locs ht hvm hw hB hz1 hk1 hS => ?_)
    have hP := gz_keep hP hk1
    generalize H1 = H at hP hS ⊢
    refine lv_icmp_le (tgt := 47) hx hb dX12_isAhead_40 (by decide) (fun c_76 => ?_) (fun c_76 => ?_)
    · refine lv_iconst (v := 0) hx hb dX12_isAhead_47 (by decide) ?_
      exact W.zret (v := 0) hx hb hr (by decide) (fun t ht hW => ⟨⟨0, (), rfl, (gi_w (gi_c 0 0 (by decide)) (by decide)), trivial⟩, hS.F ht⟩) hS.2.2 dX12_isAhead_48
    · have g_77 : gi r_75 (-2147483648) 2147483646 := gi_lt_l (Int32.not_le.mp c_76) (gi_any r_75) (gi_any r_74) (by decide)
      have g_78 : gi r_74 (-2147483647) 2147483647 := gi_lt_r (Int32.not_le.mp c_76) (gi_any r_75) (gi_any r_74) (by decide)
      refine lv_iconst (v := 1) hx hb dX12_isAhead_43 (by decide) ?_
      refine lv_goto (tgt := 48) hx hb dX12_isAhead_44 (by decide) ?_
      exact W.zret (v := 1) hx hb hr (by decide) (fun t ht hW => ⟨⟨1, (), rfl, (gi_w (gi_c 1 1 (by decide)) (by decide)), trivial⟩, hS.F ht⟩) hS.2.2 dX12_isAhead_48
theorem dX12_isKnown_0 : decode cX12_isKnown 0 = .ok (.aload_n 0, 1) := by decide +kernel
theorem dX12_isKnown_1 : decode cX12_isKnown 1 = .ok (.getfield 22, 3) := by decide +kernel
theorem dX12_isKnown_4 : decode cX12_isKnown 4 = .ok (.iload_n 1, 1) := by decide +kernel
theorem dX12_isKnown_5 : decode cX12_isKnown 5 = .ok (.baload, 1) := by decide +kernel
theorem dX12_isKnown_6 : decode cX12_isKnown 6 = .ok (.ifCond .ne 17, 3) := by decide +kernel
theorem dX12_isKnown_9 : decode cX12_isKnown 9 = .ok (.aload_n 0, 1) := by decide +kernel
theorem dX12_isKnown_10 : decode cX12_isKnown 10 = .ok (.getfield 32, 3) := by decide +kernel
theorem dX12_isKnown_13 : decode cX12_isKnown 13 = .ok (.iload_n 1, 1) := by decide +kernel
theorem dX12_isKnown_14 : decode cX12_isKnown 14 = .ok (.iaload, 1) := by decide +kernel
theorem dX12_isKnown_15 : decode cX12_isKnown 15 = .ok (.iload_n 2, 1) := by decide +kernel
theorem dX12_isKnown_16 : decode cX12_isKnown 16 = .ok (.if_icmp .gt 7, 3) := by decide +kernel
theorem dX12_isKnown_19 : decode cX12_isKnown 19 = .ok (.iconst 1, 1) := by decide +kernel
theorem dX12_isKnown_20 : decode cX12_isKnown 20 = .ok (.goto 4, 3) := by decide +kernel
theorem dX12_isKnown_23 : decode cX12_isKnown 23 = .ok (.iconst 0, 1) := by decide +kernel
theorem dX12_isKnown_24 : decode cX12_isKnown 24 = .ok (.ireturn, 1) := by decide +kernel
set_option maxHeartbeats 4000000 in
set_option maxRecDepth 100000 in
theorem sX12_isKnown (l : Launch) (dC : Nat → ClassId) (dI : Nat → Nat → Nat) (h0 : Nat) (mi : Nat → Int32) (mr : Nat → Nat) (km_struck : ClassId) (fm_struck : Nat → Int32) (km_reportKnown : ClassId) (fm_reportKnown : Nat → Int32) (p1 : Int32) (p2 : Int32) (gmi_0 : gi (mi 0) 0 24) (gmi_1 : gi (mi 1) 0 5) (gmi_2 : gi (mi 2) 0 5) (gmi_4 : gi (mi 4) 0 1) (gmi_7 : gi (mi 7) 0 6) (gmi_10 : gi (mi 10) 0 24) (gmi_17 : gi (mi 17) 0 8) (gmi_23 : gi (mi 23) 0 300) (gmi_24 : gi (mi 24) 0 1) (gmi_26 : gi (mi 26) 0 1600) (gmi_29 : gi (mi 29) 0 1600) (gmi_30 : gi (mi 30) 0 1600) (gmi_33 : gi (mi 33) 0 1) (gmi_37 : gi (mi 37) 0 1) (gmi_41 : gi (mi 41) 0 24) (gmi_50 : gi (mi 50) 0 1) (gmi_51 : gi (mi 51) 0 1) (gmi_56 : gi (mi 56) 0 80) (gfm_struck : ga fm_struck 24 0 1) (gfm_reportKnown : ga fm_reportKnown 24 0 999) (gp1 : gi p1 0 23) : Met l yX12_isKnown (.code yX12_isKnown cX12_isKnown 3 (some .boolean) :: wsGB) ({ frames := 0, cells := 0, slots := 0, locals := 0 }) (va_Pc [.ref h0, .int p1, .int p2] (fun U => va_P (dC, dI) vwCl [(h0, .inr (12, fsMM mi mr)), ((mr 4), .inl (km_struck, 24, .inl fm_struck)), ((mr 7), .inl (km_reportKnown, 24, .inl fm_reportKnown))] U.heap ∧ va_K (dC, dI) vwCl [(km_struck, .boolean), (km_reportKnown, .int)] U)) (va_Qi (fun (r : Int32) (u : Unit) => gi r 0 1) (fun _ _ => True) (fun _ => False)) 0 0 (fun _ => False) := by
  refine Met.ofW (cc := cX12_isKnown) (maxL := 3) (ret := (some .boolean)) (by decide) rfl ?_
  intro p e s m args below meth c s₁ B hml hv
  obtain ⟨rfl, hP, hK⟩ := hv
  have hx := B.exec
  have hb := B.bytes
  have hr := B.returns
  have hts := atoms_spec (ws := (.code yX12_isKnown cX12_isKnown 3 (some .boolean) :: wsGB)) B.pre
  have hown : s.vm.findClass RX12 = some m.cls := findClass_of_methodNamed B.named
  have hlocks := B.notSynchronized
  have hS : va_S (fun _ => False) s.heap s.heap [] := va_S.rf
  have hl := lv_entry ([.ref h0, .int p1, .int p2]) (n := 3) (Nat.le_of_ble_eq_true rfl)
  rw [lg_entry_eq]
  generalize (lg_sl ([.ref h0, .int p1, .int p2]) ++ List.replicate (3 - (lg_sl ([.ref h0, .int p1, .int p2])).length) Slot.unset).toArray = ls at hl ⊢
  have hl : lv_has ls 3 [(0, .ref h0), (1, .int p1), (2, .int p2)] := hl
  refine lv_aload_n hx hb dX12_isKnown_0 rfl (lv_at hl 0 rfl) ?_
  refine va_get (D := (dC, dI)) (ci := 12) (v := .ref (mr 4)) (C := RX12) (T := TX12) (N := 57) hx hb hts (fun w h => List.mem_cons_of_mem _ (jnGB_X12 w h)) hown hK hP 0 rfl rfl 13 (by decide) (hts _ (List.mem_cons_of_mem _ mGB_15)) (fun _ h9 => h9) rfl dX12_isKnown_1 ?_
  refine lv_iload_n hx hb dX12_isKnown_4 rfl (lv_at hl 1 rfl) ?_
  refine va_zald hx hb hK hP 1 0 rfl rfl (gi_in gp1 (by decide)) dX12_isKnown_5 ?_
  refine lv_topi (fun x_9 ex_9 => ?_)
  have gx_9 : gi x_9 0 1 := ga_at gfm_struck (gi_in gp1 (by decide)) ex_9
  refine lv_if_ne (tgt := 23) hx hb dX12_isKnown_6 (by decide) (fun c_10 => ?_) (fun c_10 => ?_)
  · have g_11 : gi x_9 1 1 := gi_ne_lo c_10 gx_9 (gi_c 0 0 (by decide)) (by decide)
    refine lv_iconst (v := 0) hx hb dX12_isKnown_23 (by decide) ?_
    exact W.zret (v := 0) hx hb hr (by decide) (fun t ht hW => ⟨⟨0, (), rfl, (gi_w (gi_c 0 0 (by decide)) (by decide)), trivial⟩, hS.F ht⟩) hS.2.2 dX12_isKnown_24
  · have g_12 : gi x_9 0 0 := gi_eq c_10 (gi_c 0 0 (by decide))
    refine lv_aload_n hx hb dX12_isKnown_9 rfl (lv_at hl 0 rfl) ?_
    refine va_get (D := (dC, dI)) (ci := 12) (v := .ref (mr 7)) (C := RX12) (T := TX12) (N := 57) hx hb hts (fun w h => List.mem_cons_of_mem _ (jnGB_X12 w h)) hown hK hP 0 rfl rfl 16 (by decide) (hts _ (List.mem_cons_of_mem _ mGB_18)) (fun _ h9 => h9) rfl dX12_isKnown_10 ?_
    refine lv_iload_n hx hb dX12_isKnown_13 rfl (lv_at hl 1 rfl) ?_
    refine va_iald hx hb hK hP 2 1 rfl rfl (gi_in gp1 (by decide)) dX12_isKnown_14 ?_
    refine lv_topi (fun x_13 ex_13 => ?_)
    have gx_13 : gi x_13 0 999 := ga_at gfm_reportKnown (gi_in gp1 (by decide)) ex_13
    refine lv_iload_n hx hb dX12_isKnown_15 rfl (lv_at hl 2 rfl) ?_
    refine lv_icmp_gt (tgt := 23) hx hb dX12_isKnown_16 (by decide) (fun c_14 => ?_) (fun c_14 => ?_)
    · have g_15 : gi p2 (-2147483648) 998 := gi_lt_l c_14 (gi_any p2) gx_13 (by decide)
      refine lv_iconst (v := 0) hx hb dX12_isKnown_23 (by decide) ?_
      exact W.zret (v := 0) hx hb hr (by decide) (fun t ht hW => ⟨⟨0, (), rfl, (gi_w (gi_c 0 0 (by decide)) (by decide)), trivial⟩, hS.F ht⟩) hS.2.2 dX12_isKnown_24
    · have g_16 : gi p2 0 2147483647 := gi_le_r (Int32.not_lt.mp c_14) gx_13 (gi_any p2)
      refine lv_iconst (v := 1) hx hb dX12_isKnown_19 (by decide) ?_
      refine lv_goto (tgt := 24) hx hb dX12_isKnown_20 (by decide) ?_
      exact W.zret (v := 1) hx hb hr (by decide) (fun t ht hW => ⟨⟨1, (), rfl, (gi_w (gi_c 1 1 (by decide)) (by decide)), trivial⟩, hS.F ht⟩) hS.2.2 dX12_isKnown_24
theorem dX12_holds_0 : decode cX12_holds 0 = .ok (.aload_n 0, 1) := by decide +kernel
theorem dX12_holds_1 : decode cX12_holds 1 = .ok (.getfield 26, 3) := by decide +kernel
theorem dX12_holds_4 : decode cX12_holds 4 = .ok (.iload_n 1, 1) := by decide +kernel
theorem dX12_holds_5 : decode cX12_holds 5 = .ok (.iaload, 1) := by decide +kernel
theorem dX12_holds_6 : decode cX12_holds 6 = .ok (.istore_n 2, 1) := by decide +kernel
theorem dX12_holds_7 : decode cX12_holds 7 = .ok (.aload_n 0, 1) := by decide +kernel
theorem dX12_holds_8 : decode cX12_holds 8 = .ok (.getfield 29, 3) := by decide +kernel
theorem dX12_holds_11 : decode cX12_holds 11 = .ok (.iload_n 1, 1) := by decide +kernel
theorem dX12_holds_12 : decode cX12_holds 12 = .ok (.iaload, 1) := by decide +kernel
theorem dX12_holds_13 : decode cX12_holds 13 = .ok (.iconst 1, 1) := by decide +kernel
theorem dX12_holds_14 : decode cX12_holds 14 = .ok (.iadd, 1) := by decide +kernel
theorem dX12_holds_15 : decode cX12_holds 15 = .ok (.istore_n 3, 1) := by decide +kernel
theorem dX12_holds_16 : decode cX12_holds 16 = .ok (.aload_n 0, 1) := by decide +kernel
theorem dX12_holds_17 : decode cX12_holds 17 = .ok (.getfield 19, 3) := by decide +kernel
theorem dX12_holds_20 : decode cX12_holds 20 = .ok (.iload_n 1, 1) := by decide +kernel
theorem dX12_holds_21 : decode cX12_holds 21 = .ok (.iaload, 1) := by decide +kernel
theorem dX12_holds_22 : decode cX12_holds 22 = .ok (.ifCond .ne 46, 3) := by decide +kernel
theorem dX12_holds_25 : decode cX12_holds 25 = .ok (.aload_n 0, 1) := by decide +kernel
theorem dX12_holds_26 : decode cX12_holds 26 = .ok (.aload_n 0, 1) := by decide +kernel
theorem dX12_holds_27 : decode cX12_holds 27 = .ok (.getfield 312, 3) := by decide +kernel
theorem dX12_holds_30 : decode cX12_holds 30 = .ok (.ifCond .ne 23, 3) := by decide +kernel
theorem dX12_holds_33 : decode cX12_holds 33 = .ok (.aload_n 0, 1) := by decide +kernel
theorem dX12_holds_34 : decode cX12_holds 34 = .ok (.getfield 57, 3) := by decide +kernel
theorem dX12_holds_37 : decode cX12_holds 37 = .ok (.iload_n 2, 1) := by decide +kernel
theorem dX12_holds_38 : decode cX12_holds 38 = .ok (.iaload, 1) := by decide +kernel
theorem dX12_holds_39 : decode cX12_holds 39 = .ok (.iconst (-1), 1) := by decide +kernel
theorem dX12_holds_40 : decode cX12_holds 40 = .ok (.if_icmp .eq 17, 3) := by decide +kernel
theorem dX12_holds_43 : decode cX12_holds 43 = .ok (.aload_n 0, 1) := by decide +kernel
theorem dX12_holds_44 : decode cX12_holds 44 = .ok (.getfield 57, 3) := by decide +kernel
theorem dX12_holds_47 : decode cX12_holds 47 = .ok (.iload_n 2, 1) := by decide +kernel
theorem dX12_holds_48 : decode cX12_holds 48 = .ok (.iaload, 1) := by decide +kernel
theorem dX12_holds_49 : decode cX12_holds 49 = .ok (.iload_n 3, 1) := by decide +kernel
theorem dX12_holds_50 : decode cX12_holds 50 = .ok (.if_icmp .eq 7, 3) := by decide +kernel
theorem dX12_holds_53 : decode cX12_holds 53 = .ok (.iconst 1, 1) := by decide +kernel
theorem dX12_holds_54 : decode cX12_holds 54 = .ok (.goto 4, 3) := by decide +kernel
theorem dX12_holds_57 : decode cX12_holds 57 = .ok (.iconst 0, 1) := by decide +kernel
theorem dX12_holds_58 : decode cX12_holds 58 = .ok (.putfield 312, 3) := by decide +kernel
theorem dX12_holds_61 : decode cX12_holds 61 = .ok (.aload_n 0, 1) := by decide +kernel
theorem dX12_holds_62 : decode cX12_holds 62 = .ok (.getfield 57, 3) := by decide +kernel
theorem dX12_holds_65 : decode cX12_holds 65 = .ok (.iload_n 2, 1) := by decide +kernel
theorem dX12_holds_66 : decode cX12_holds 66 = .ok (.iload_n 3, 1) := by decide +kernel
theorem dX12_holds_67 : decode cX12_holds 67 = .ok (.iastore, 1) := by decide +kernel
theorem dX12_holds_68 : decode cX12_holds 68 = .ok (.aload_n 0, 1) := by decide +kernel
theorem dX12_holds_69 : decode cX12_holds 69 = .ok (.getfield 19, 3) := by decide +kernel
theorem dX12_holds_72 : decode cX12_holds 72 = .ok (.iload_n 1, 1) := by decide +kernel
theorem dX12_holds_73 : decode cX12_holds 73 = .ok (.iaload, 1) := by decide +kernel
theorem dX12_holds_74 : decode cX12_holds 74 = .ok (.iconst 1, 1) := by decide +kernel
theorem dX12_holds_75 : decode cX12_holds 75 = .ok (.if_icmp .ne 21, 3) := by decide +kernel
theorem dX12_holds_78 : decode cX12_holds 78 = .ok (.aload_n 0, 1) := by decide +kernel
theorem dX12_holds_79 : decode cX12_holds 79 = .ok (.getfield 60, 3) := by decide +kernel
theorem dX12_holds_82 : decode cX12_holds 82 = .ok (.iload_n 2, 1) := by decide +kernel
theorem dX12_holds_83 : decode cX12_holds 83 = .ok (.aload_n 0, 1) := by decide +kernel
theorem dX12_holds_84 : decode cX12_holds 84 = .ok (.getfield 60, 3) := by decide +kernel
theorem dX12_holds_87 : decode cX12_holds 87 = .ok (.iload_n 2, 1) := by decide +kernel
theorem dX12_holds_88 : decode cX12_holds 88 = .ok (.iaload, 1) := by decide +kernel
theorem dX12_holds_89 : decode cX12_holds 89 = .ok (.iload_n 3, 1) := by decide +kernel
theorem dX12_holds_90 : decode cX12_holds 90 = .ok (.iconst 1, 1) := by decide +kernel
theorem dX12_holds_91 : decode cX12_holds 91 = .ok (.iadd, 1) := by decide +kernel
theorem dX12_holds_92 : decode cX12_holds 92 = .ok (.invokestatic 219, 3) := by decide +kernel
theorem dX12_holds_95 : decode cX12_holds 95 = .ok (.iastore, 1) := by decide +kernel
theorem dX12_holds_96 : decode cX12_holds 96 = .ok (.return_, 1) := by decide +kernel
set_option maxHeartbeats 4000000 in
set_option maxRecDepth 100000 in
theorem sX12_holds (l : Launch) (dC : Nat → ClassId) (dI : Nat → Nat → Nat) (sz : Nat) (h0 : Nat) (mi : Nat → Int32) (mr : Nat → Nat) (km_reportMonth : ClassId) (fm_reportMonth : Nat → Int32) (km_reportDay : ClassId) (fm_reportDay : Nat → Int32) (km_reportKind : ClassId) (fm_reportKind : Nat → Int32) (km_must : ClassId) (fm_must : Nat → Int32) (km_least : ClassId) (fm_least : Nat → Int32) (p1 : Int32) (gmi_0 : gi (mi 0) 0 24) (gmi_1 : gi (mi 1) 0 5) (gmi_2 : gi (mi 2) 0 5) (gmi_4 : gi (mi 4) 0 1) (gmi_7 : gi (mi 7) 0 6) (gmi_10 : gi (mi 10) 0 24) (gmi_17 : gi (mi 17) 0 8) (gmi_23 : gi (mi 23) 0 300) (gmi_24 : gi (mi 24) 0 1) (gmi_26 : gi (mi 26) 0 1600) (gmi_29 : gi (mi 29) 0 1600) (gmi_30 : gi (mi 30) 0 1600) (gmi_33 : gi (mi 33) 0 1) (gmi_37 : gi (mi 37) 0 1) (gmi_41 : gi (mi 41) 0 24) (gmi_50 : gi (mi 50) 0 1) (gmi_51 : gi (mi 51) 0 1) (gmi_56 : gi (mi 56) 0 80) (gfm_reportMonth : ga fm_reportMonth 24 0 23) (gfm_reportDay : ga fm_reportDay 24 0 999) (gp1 : gi p1 0 23) : Met l yX12_holds (.code yX12_holds cX12_holds 4 none :: wsGB) ({ frames := 1, cells := 0, slots := 0, locals := 15 }) (va_Pc [.ref h0, .int p1] (fun U => U.heap.size = sz ∧ va_P (dC, dI) vwCl [(h0, .inr (12, fsMM mi mr)), ((mr 5), .inl (km_reportMonth, 24, .inl fm_reportMonth)), ((mr 6), .inl (km_reportDay, 24, .inl fm_reportDay)), ((mr 3), .inl (km_reportKind, 24, .inl fm_reportKind)), ((mr 14), .inl (km_must, 25, .inl fm_must)), ((mr 15), .inl (km_least, 25, .inl fm_least))] U.heap ∧ va_K (dC, dI) vwCl [(km_reportMonth, .int), (km_reportDay, .int), (km_reportKind, .int), (km_must, .int), (km_least, .int)] U ∧ va_D (fun _ => True) [(h0, .inr (12, fsMM mi mr)), ((mr 5), .inl (km_reportMonth, 24, .inl fm_reportMonth)), ((mr 6), .inl (km_reportDay, 24, .inl fm_reportDay)), ((mr 3), .inl (km_reportKind, 24, .inl fm_reportKind)), ((mr 14), .inl (km_must, 25, .inl fm_must)), ((mr 15), .inl (km_least, 25, .inl fm_least))])) (va_Qv (fun (u : Unit) => True) (fun _ t => ∃ (w0_37 : Int32) (z4 : Nat → Int32) (z5 : Nat → Int32), gi w0_37 0 1 ∧ va_P (dC, dI) vwCl [(h0, .inr (12, fsMM (upd mi 37 w0_37) mr)), ((mr 5), .inl (km_reportMonth, 24, .inl fm_reportMonth)), ((mr 6), .inl (km_reportDay, 24, .inl fm_reportDay)), ((mr 3), .inl (km_reportKind, 24, .inl fm_reportKind)), ((mr 14), .inl (km_must, 25, .inl z4)), ((mr 15), .inl (km_least, 25, .inl z5))] t.heap ∧ va_D (va_A [(h0, .inr (12, fsMM mi mr)), ((mr 5), .inl (km_reportMonth, 24, .inl fm_reportMonth)), ((mr 6), .inl (km_reportDay, 24, .inl fm_reportDay)), ((mr 3), .inl (km_reportKind, 24, .inl fm_reportKind)), ((mr 14), .inl (km_must, 25, .inl fm_must)), ((mr 15), .inl (km_least, 25, .inl fm_least))] sz) [(h0, .inr (12, fsMM (upd mi 37 w0_37) mr)), ((mr 5), .inl (km_reportMonth, 24, .inl fm_reportMonth)), ((mr 6), .inl (km_reportDay, 24, .inl fm_reportDay)), ((mr 3), .inl (km_reportKind, 24, .inl fm_reportKind)), ((mr 14), .inl (km_must, 25, .inl z4)), ((mr 15), .inl (km_least, 25, .inl z5))]) (va_A [(h0, .inr (12, fsMM mi mr)), ((mr 5), .inl (km_reportMonth, 24, .inl fm_reportMonth)), ((mr 6), .inl (km_reportDay, 24, .inl fm_reportDay)), ((mr 3), .inl (km_reportKind, 24, .inl fm_reportKind)), ((mr 14), .inl (km_must, 25, .inl fm_must)), ((mr 15), .inl (km_least, 25, .inl fm_least))] sz)) 0 0 (va_A [(h0, .inr (12, fsMM mi mr)), ((mr 5), .inl (km_reportMonth, 24, .inl fm_reportMonth)), ((mr 6), .inl (km_reportDay, 24, .inl fm_reportDay)), ((mr 3), .inl (km_reportKind, 24, .inl fm_reportKind)), ((mr 14), .inl (km_must, 25, .inl fm_must)), ((mr 15), .inl (km_least, 25, .inl fm_least))] sz) := by
  refine Met.ofW (cc := cX12_holds) (maxL := 4) (ret := none) (by decide) rfl ?_
  intro p e s m args below meth c s₁ B hml hv
  obtain ⟨rfl, hsz, hP, hK, hD0⟩ := hv
  have hx := B.exec
  have hb := B.bytes
  have hr := B.returns
  have hts := atoms_spec (ws := (.code yX12_holds cX12_holds 4 none :: wsGB)) B.pre
  have hown : s.vm.findClass RX12 = some m.cls := findClass_of_methodNamed B.named
  have hlocks := B.notSynchronized
  subst hsz
  have hD := hD0.self (sz := s.heap.size)
  generalize hAe : va_A [(h0, .inr (12, fsMM mi mr)), ((mr 5), .inl (km_reportMonth, 24, .inl fm_reportMonth)), ((mr 6), .inl (km_reportDay, 24, .inl fm_reportDay)), ((mr 3), .inl (km_reportKind, 24, .inl fm_reportKind)), ((mr 14), .inl (km_must, 25, .inl fm_must)), ((mr 15), .inl (km_least, 25, .inl fm_least))] s.heap.size = A at hD ⊢
  have hA : ∀ q : Nat, s.heap.size ≤ q → A q := fun q h => by rw [← hAe]; exact Or.inr h
  have hS : va_S A s.heap s.heap [] := va_S.rf
  have hl := lv_entry ([.ref h0, .int p1]) (n := 4) (Nat.le_of_ble_eq_true rfl)
  rw [lg_entry_eq]
  generalize (lg_sl ([.ref h0, .int p1]) ++ List.replicate (4 - (lg_sl ([.ref h0, .int p1])).length) Slot.unset).toArray = ls at hl ⊢
  have hl : lv_has ls 4 [(0, .ref h0), (1, .int p1)] := hl
  refine lv_aload_n hx hb dX12_holds_0 rfl (lv_at hl 0 rfl) ?_
  refine va_get (D := (dC, dI)) (ci := 12) (v := .ref (mr 5)) (C := RX12) (T := TX12) (N := 57) hx hb hts (fun w h => List.mem_cons_of_mem _ (jnGB_X12 w h)) hown hK hP 0 rfl rfl 14 (by decide) (hts _ (List.mem_cons_of_mem _ mGB_16)) (fun _ h9 => h9) rfl dX12_holds_1 ?_
  refine lv_iload_n hx hb dX12_holds_4 rfl (lv_at hl 1 rfl) ?_
  refine va_iald hx hb hK hP 1 0 rfl rfl (gi_in gp1 (by decide)) dX12_holds_5 ?_
  refine lv_topi (fun x_109 ex_109 => ?_)
  have gx_109 : gi x_109 0 23 := ga_at gfm_reportMonth (gi_in gp1 (by decide)) ex_109
  refine lv_istore_n (lv' := [(2, .int x_109), (0, .ref h0), (1, .int p1)]) hx hb dX12_holds_6 rfl hl (by decide) rfl (fun ls hl => ?_)
  refine lv_aload_n hx hb dX12_holds_7 rfl (lv_at hl 1 rfl) ?_
  refine va_get (D := (dC, dI)) (ci := 12) (v := .ref (mr 6)) (C := RX12) (T := TX12) (N := 57) hx hb hts (fun w h => List.mem_cons_of_mem _ (jnGB_X12 w h)) hown hK hP 0 rfl rfl 15 (by decide) (hts _ (List.mem_cons_of_mem _ mGB_17)) (fun _ h9 => h9) rfl dX12_holds_8 ?_
  refine lv_iload_n hx hb dX12_holds_11 rfl (lv_at hl 2 rfl) ?_
  refine va_iald hx hb hK hP 2 1 rfl rfl (gi_in gp1 (by decide)) dX12_holds_12 ?_
  refine lv_topi (fun x_110 ex_110 => ?_)
  have gx_110 : gi x_110 0 999 := ga_at gfm_reportDay (gi_in gp1 (by decide)) ex_110
  refine lv_iconst (v := 1) hx hb dX12_holds_13 (by decide) ?_
  refine lv_iadd hx hb dX12_holds_14 ?_
  refine lv_topi (fun x_111 ex_111 => ?_)
  have gx_111 : gi x_111 1 1000 := gi_add ex_111 gx_110 (gi_c 1 1 (by decide)) (by decide)
  refine lv_istore_n (lv' := [(3, .int x_111), (2, .int x_109), (0, .ref h0), (1, .int p1)]) hx hb dX12_holds_15 rfl hl (by decide) rfl (fun ls hl => ?_)
  refine lv_aload_n hx hb dX12_holds_16 rfl (lv_at hl 2 rfl) ?_
  refine va_get (D := (dC, dI)) (ci := 12) (v := .ref (mr 3)) (C := RX12) (T := TX12) (N := 57) hx hb hts (fun w h => List.mem_cons_of_mem _ (jnGB_X12 w h)) hown hK hP 0 rfl rfl 12 (by decide) (hts _ (List.mem_cons_of_mem _ mGB_13)) (fun _ h9 => h9) rfl dX12_holds_17 ?_
  refine lv_iload_n hx hb dX12_holds_20 rfl (lv_at hl 3 rfl) ?_
  refine va_iald hx hb hK hP 3 2 rfl rfl (gi_in gp1 (by decide)) dX12_holds_21 ?_
  refine lv_topi (fun x_112 ex_112 => ?_)
  refine lv_if_ne (tgt := 68) hx hb dX12_holds_22 (by decide) (fun c_113 => ?_) (fun c_113 => ?_)
  · refine lv_aload_n hx hb dX12_holds_68 rfl (lv_at hl 2 rfl) ?_
    refine va_get (D := (dC, dI)) (ci := 12) (v := .ref (mr 3)) (C := RX12) (T := TX12) (N := 57) hx hb hts (fun w h => List.mem_cons_of_mem _ (jnGB_X12 w h)) hown hK hP 0 rfl rfl 12 (by decide) (hts _ (List.mem_cons_of_mem _ mGB_13)) (fun _ h9 => h9) rfl dX12_holds_69 ?_
    refine lv_iload_n hx hb dX12_holds_72 rfl (lv_at hl 3 rfl) ?_
    refine va_iald hx hb hK hP 3 2 rfl rfl (gi_in gp1 (by decide)) dX12_holds_73 ?_
    refine lv_topi (fun x_114 ex_114 => ?_)
    refine lv_iconst (v := 1) hx hb dX12_holds_74 (by decide) ?_
    refine lv_icmp_ne (tgt := 96) hx hb dX12_holds_75 (by decide) (fun c_115 => ?_) (fun c_115 => ?_)
    · exact W.vret hx hb hr (fun t ht hW => ⟨⟨(), rfl, trivial, (mi 37), fm_must, fm_least, gmi_37, by rw [ht]; exact hP, hD⟩, hS.F ht⟩) hS.2.2 dX12_holds_96
    · have g_116 : gi x_114 1 1 := gi_eq c_115 (gi_c 1 1 (by decide))
      refine lv_aload_n hx hb dX12_holds_78 rfl (lv_at hl 2 rfl) ?_
      refine va_get (D := (dC, dI)) (ci := 12) (v := .ref (mr 15)) (C := RX12) (T := TX12) (N := 57) hx hb hts (fun w h => List.mem_cons_of_mem _ (jnGB_X12 w h)) hown hK hP 0 rfl rfl 35 (by decide) (hts _ (List.mem_cons_of_mem _ mGB_27)) (fun _ h9 => h9) rfl dX12_holds_79 ?_
      refine lv_iload_n hx hb dX12_holds_82 rfl (lv_at hl 1 rfl) ?_
      refine lv_aload_n hx hb dX12_holds_83 rfl (lv_at hl 2 rfl) ?_
      refine va_get (D := (dC, dI)) (ci := 12) (v := .ref (mr 15)) (C := RX12) (T := TX12) (N := 57) hx hb hts (fun w h => List.mem_cons_of_mem _ (jnGB_X12 w h)) hown hK hP 0 rfl rfl 35 (by decide) (hts _ (List.mem_cons_of_mem _ mGB_27)) (fun _ h9 => h9) rfl dX12_holds_84 ?_
      refine lv_iload_n hx hb dX12_holds_87 rfl (lv_at hl 1 rfl) ?_
      refine va_iald hx hb hK hP 5 4 rfl rfl (gi_in gx_109 (by decide)) dX12_holds_88 ?_
      refine lv_topi (fun x_117 ex_117 => ?_)
      refine lv_iload_n hx hb dX12_holds_89 rfl (lv_at hl 0 rfl) ?_
      refine lv_iconst (v := 1) hx hb dX12_holds_90 (by decide) ?_
      refine lv_iadd hx hb dX12_holds_91 ?_
      refine lv_topi (fun x_118 ex_118 => ?_)
      have gx_118 : gi x_118 2 1001 := gi_add ex_118 gx_111 (gi_c 1 1 (by decide)) (by decide)
      refine va_mmax (own := RX12) hx hb (by rw [hml]; exact hl.1.symm) hown (hts _ (List.mem_cons_of_mem _ mGB_202)) (hts _ (List.mem_cons_of_mem _ mGB_203)) (hts _ (List.mem_cons_of_mem _ mGB_98)) (hts _ (List.mem_cons_of_mem _ mGB_204)) (Nat.le_of_ble_eq_true rfl) (Nat.le_of_ble_eq_true rfl) (Nat.zero_le _) (Nat.zero_le _) dX12_holds_92 ?_
      refine lv_topi (fun x_119 ex_119 => ?_)
      have gx_119 : gi x_119 2 2147483647 := gi_max ex_119 (gi_any x_117) gx_118 (by decide)
      refine va_iast hx hb hK hP hD hS 5 4 rfl rfl (gi_in gx_109 (by decide)) dX12_holds_95 (fun H locs hP hD hS => ?_)
      have hP : va_P (dC, dI) vwCl [(h0, .inr (12, fsMM mi mr)), ((mr 5), .inl (km_reportMonth, 24, .inl fm_reportMonth)), ((mr 6), .inl (km_reportDay, 24, .inl fm_reportDay)), ((mr 3), .inl (km_reportKind, 24, .inl fm_reportKind)), ((mr 14), .inl (km_must, 25, .inl fm_must)), ((mr 15), .inl (km_least, 25, .inl (upd fm_least (x_109 : Int32).toNatClampNeg x_119)))] H := hP
      have hD : va_D A [(h0, .inr (12, fsMM mi mr)), ((mr 5), .inl (km_reportMonth, 24, .inl fm_reportMonth)), ((mr 6), .inl (km_reportDay, 24, .inl fm_reportDay)), ((mr 3), .inl (km_reportKind, 24, .inl fm_reportKind)), ((mr 14), .inl (km_must, 25, .inl fm_must)), ((mr 15), .inl (km_least, 25, .inl (upd fm_least (x_109 : Int32).toNatClampNeg x_119)))] := hD
      generalize upd fm_least (x_109 : Int32).toNatClampNeg x_119 = f_120 at hP hD
      exact W.vret hx hb hr (fun t ht hW => ⟨⟨(), rfl, trivial, (mi 37), fm_must, f_120, gmi_37, by rw [ht]; exact hP, hD⟩, hS.F ht⟩) hS.2.2 dX12_holds_96
  · have g_121 : gi x_112 0 0 := gi_eq c_113 (gi_c 0 0 (by decide))
    refine lv_aload_n hx hb dX12_holds_25 rfl (lv_at hl 2 rfl) ?_
    refine lv_aload_n hx hb dX12_holds_26 rfl (lv_at hl 2 rfl) ?_
    refine va_get (D := (dC, dI)) (ci := 12) (v := .int (mi 37)) (C := RX12) (T := TX12) (N := 57) hx hb hts (fun w h => List.mem_cons_of_mem _ (jnGB_X12 w h)) hown hK hP 0 rfl rfl 37 (by decide) (hts _ (List.mem_cons_of_mem _ mGB_270)) (fun _ h9 => h9) rfl dX12_holds_27 ?_
    refine lv_if_ne (tgt := 53) hx hb dX12_holds_30 (by decide) (fun c_122 => ?_) (fun c_122 => ?_)
    · have g_123 : gi (mi 37) 1 1 := gi_ne_lo c_122 gmi_37 (gi_c 0 0 (by decide)) (by decide)
      refine lv_iconst (v := 1) hx hb dX12_holds_53 (by decide) ?_
      refine lv_goto (tgt := 58) hx hb dX12_holds_54 (by decide) ?_
      refine va_put (D := (dC, dI)) (ci := 12) (v := .int 1) (ty := .boolean) (C := RX12) (T := TX12) (N := 57) hx hb hts (fun w h => List.mem_cons_of_mem _ (jnGB_X12 w h)) tyX12 tyX12_ok nmX12 hown hK hP hD hS 0 rfl rfl 37 (by decide) (hts _ (List.mem_cons_of_mem _ mGB_270)) (fun _ h9 => h9) rfl (by decide +kernel) rfl rfl (Nat.le_of_ble_eq_true rfl) dX12_holds_58 (fun H locs hP hD hS => ?_)
      have hP : va_P (dC, dI) vwCl [(h0, .inr (12, fsMM (upd mi 37 1) mr)), ((mr 5), .inl (km_reportMonth, 24, .inl fm_reportMonth)), ((mr 6), .inl (km_reportDay, 24, .inl fm_reportDay)), ((mr 3), .inl (km_reportKind, 24, .inl fm_reportKind)), ((mr 14), .inl (km_must, 25, .inl fm_must)), ((mr 15), .inl (km_least, 25, .inl fm_least))] H := hP
      have hD : va_D A [(h0, .inr (12, fsMM (upd mi 37 1) mr)), ((mr 5), .inl (km_reportMonth, 24, .inl fm_reportMonth)), ((mr 6), .inl (km_reportDay, 24, .inl fm_reportDay)), ((mr 3), .inl (km_reportKind, 24, .inl fm_reportKind)), ((mr 14), .inl (km_must, 25, .inl fm_must)), ((mr 15), .inl (km_least, 25, .inl fm_least))] := hD
      refine lv_aload_n hx hb dX12_holds_61 rfl (lv_at hl 2 rfl) ?_
      refine va_get (D := (dC, dI)) (ci := 12) (v := .ref (mr 14)) (C := RX12) (T := TX12) (N := 57) hx hb hts (fun w h => List.mem_cons_of_mem _ (jnGB_X12 w h)) hown hK hP 0 rfl rfl 34 (by decide) (hts _ (List.mem_cons_of_mem _ mGB_26)) (fun _ h9 => h9) rfl dX12_holds_62 ?_
      refine lv_iload_n hx hb dX12_holds_65 rfl (lv_at hl 1 rfl) ?_
      refine lv_iload_n hx hb dX12_holds_66 rfl (lv_at hl 0 rfl) ?_
      refine va_iast hx hb hK hP hD hS 4 3 rfl rfl (gi_in gx_109 (by decide)) dX12_holds_67 (fun H locs hP hD hS => ?_)
      have hP : va_P (dC, dI) vwCl [(h0, .inr (12, fsMM (upd mi 37 1) mr)), ((mr 5), .inl (km_reportMonth, 24, .inl fm_reportMonth)), ((mr 6), .inl (km_reportDay, 24, .inl fm_reportDay)), ((mr 3), .inl (km_reportKind, 24, .inl fm_reportKind)), ((mr 14), .inl (km_must, 25, .inl (upd fm_must (x_109 : Int32).toNatClampNeg x_111))), ((mr 15), .inl (km_least, 25, .inl fm_least))] H := hP
      have hD : va_D A [(h0, .inr (12, fsMM (upd mi 37 1) mr)), ((mr 5), .inl (km_reportMonth, 24, .inl fm_reportMonth)), ((mr 6), .inl (km_reportDay, 24, .inl fm_reportDay)), ((mr 3), .inl (km_reportKind, 24, .inl fm_reportKind)), ((mr 14), .inl (km_must, 25, .inl (upd fm_must (x_109 : Int32).toNatClampNeg x_111))), ((mr 15), .inl (km_least, 25, .inl fm_least))] := hD
      generalize upd fm_must (x_109 : Int32).toNatClampNeg x_111 = f_124 at hP hD
      refine lv_aload_n hx hb dX12_holds_68 rfl (lv_at hl 2 rfl) ?_
      refine va_get (D := (dC, dI)) (ci := 12) (v := .ref (mr 3)) (C := RX12) (T := TX12) (N := 57) hx hb hts (fun w h => List.mem_cons_of_mem _ (jnGB_X12 w h)) hown hK hP 0 rfl rfl 12 (by decide) (hts _ (List.mem_cons_of_mem _ mGB_13)) (fun _ h9 => h9) rfl dX12_holds_69 ?_
      refine lv_iload_n hx hb dX12_holds_72 rfl (lv_at hl 3 rfl) ?_
      refine va_iald hx hb hK hP 3 2 rfl rfl (gi_in gp1 (by decide)) dX12_holds_73 ?_
      refine lv_topi (fun x_125 ex_125 => ?_)
      refine lv_iconst (v := 1) hx hb dX12_holds_74 (by decide) ?_
      refine lv_icmp_ne (tgt := 96) hx hb dX12_holds_75 (by decide) (fun c_126 => ?_) (fun c_126 => ?_)
      · exact W.vret hx hb hr (fun t ht hW => ⟨⟨(), rfl, trivial, 1, f_124, fm_least, (gi_w (gi_c 1 1 (by decide)) (by decide)), by rw [ht]; exact hP, hD⟩, hS.F ht⟩) hS.2.2 dX12_holds_96
      · have g_127 : gi x_125 1 1 := gi_eq c_126 (gi_c 1 1 (by decide))
        refine lv_aload_n hx hb dX12_holds_78 rfl (lv_at hl 2 rfl) ?_
        refine va_get (D := (dC, dI)) (ci := 12) (v := .ref (mr 15)) (C := RX12) (T := TX12) (N := 57) hx hb hts (fun w h => List.mem_cons_of_mem _ (jnGB_X12 w h)) hown hK hP 0 rfl rfl 35 (by decide) (hts _ (List.mem_cons_of_mem _ mGB_27)) (fun _ h9 => h9) rfl dX12_holds_79 ?_
        refine lv_iload_n hx hb dX12_holds_82 rfl (lv_at hl 1 rfl) ?_
        refine lv_aload_n hx hb dX12_holds_83 rfl (lv_at hl 2 rfl) ?_
        refine va_get (D := (dC, dI)) (ci := 12) (v := .ref (mr 15)) (C := RX12) (T := TX12) (N := 57) hx hb hts (fun w h => List.mem_cons_of_mem _ (jnGB_X12 w h)) hown hK hP 0 rfl rfl 35 (by decide) (hts _ (List.mem_cons_of_mem _ mGB_27)) (fun _ h9 => h9) rfl dX12_holds_84 ?_
        refine lv_iload_n hx hb dX12_holds_87 rfl (lv_at hl 1 rfl) ?_
        refine va_iald hx hb hK hP 5 4 rfl rfl (gi_in gx_109 (by decide)) dX12_holds_88 ?_
        refine lv_topi (fun x_128 ex_128 => ?_)
        refine lv_iload_n hx hb dX12_holds_89 rfl (lv_at hl 0 rfl) ?_
        refine lv_iconst (v := 1) hx hb dX12_holds_90 (by decide) ?_
        refine lv_iadd hx hb dX12_holds_91 ?_
        refine lv_topi (fun x_129 ex_129 => ?_)
        have gx_129 : gi x_129 2 1001 := gi_add ex_129 gx_111 (gi_c 1 1 (by decide)) (by decide)
        refine va_mmax (own := RX12) hx hb (by rw [hml]; exact hl.1.symm) hown (hts _ (List.mem_cons_of_mem _ mGB_202)) (hts _ (List.mem_cons_of_mem _ mGB_203)) (hts _ (List.mem_cons_of_mem _ mGB_98)) (hts _ (List.mem_cons_of_mem _ mGB_204)) (Nat.le_of_ble_eq_true rfl) (Nat.le_of_ble_eq_true rfl) (Nat.zero_le _) (Nat.zero_le _) dX12_holds_92 ?_
        refine lv_topi (fun x_130 ex_130 => ?_)
        have gx_130 : gi x_130 2 2147483647 := gi_max ex_130 (gi_any x_128) gx_129 (by decide)
        refine va_iast hx hb hK hP hD hS 5 4 rfl rfl (gi_in gx_109 (by decide)) dX12_holds_95 (fun H locs hP hD hS => ?_)
        have hP : va_P (dC, dI) vwCl [(h0, .inr (12, fsMM (upd mi 37 1) mr)), ((mr 5), .inl (km_reportMonth, 24, .inl fm_reportMonth)), ((mr 6), .inl (km_reportDay, 24, .inl fm_reportDay)), ((mr 3), .inl (km_reportKind, 24, .inl fm_reportKind)), ((mr 14), .inl (km_must, 25, .inl f_124)), ((mr 15), .inl (km_least, 25, .inl (upd fm_least (x_109 : Int32).toNatClampNeg x_130)))] H := hP
        have hD : va_D A [(h0, .inr (12, fsMM (upd mi 37 1) mr)), ((mr 5), .inl (km_reportMonth, 24, .inl fm_reportMonth)), ((mr 6), .inl (km_reportDay, 24, .inl fm_reportDay)), ((mr 3), .inl (km_reportKind, 24, .inl fm_reportKind)), ((mr 14), .inl (km_must, 25, .inl f_124)), ((mr 15), .inl (km_least, 25, .inl (upd fm_least (x_109 : Int32).toNatClampNeg x_130)))] := hD
        generalize upd fm_least (x_109 : Int32).toNatClampNeg x_130 = f_131 at hP hD
        exact W.vret hx hb hr (fun t ht hW => ⟨⟨(), rfl, trivial, 1, f_124, f_131, (gi_w (gi_c 1 1 (by decide)) (by decide)), by rw [ht]; exact hP, hD⟩, hS.F ht⟩) hS.2.2 dX12_holds_96
    · have g_132 : gi (mi 37) 0 0 := gi_eq c_122 (gi_c 0 0 (by decide))
      refine lv_aload_n hx hb dX12_holds_33 rfl (lv_at hl 2 rfl) ?_
      refine va_get (D := (dC, dI)) (ci := 12) (v := .ref (mr 14)) (C := RX12) (T := TX12) (N := 57) hx hb hts (fun w h => List.mem_cons_of_mem _ (jnGB_X12 w h)) hown hK hP 0 rfl rfl 34 (by decide) (hts _ (List.mem_cons_of_mem _ mGB_26)) (fun _ h9 => h9) rfl dX12_holds_34 ?_
      refine lv_iload_n hx hb dX12_holds_37 rfl (lv_at hl 1 rfl) ?_
      refine va_iald hx hb hK hP 4 3 rfl rfl (gi_in gx_109 (by decide)) dX12_holds_38 ?_
      refine lv_topi (fun x_133 ex_133 => ?_)
      refine lv_iconst (v := (-1)) hx hb dX12_holds_39 (by decide) ?_
      refine lv_icmp_eq (tgt := 57) hx hb dX12_holds_40 (by decide) (fun c_134 => ?_) (fun c_134 => ?_)
      · have g_135 : gi x_133 (-1) (-1) := gi_eq c_134 (gi_c (-1) (-1) (by decide))
        refine lv_iconst (v := 0) hx hb dX12_holds_57 (by decide) ?_
        refine va_put (D := (dC, dI)) (ci := 12) (v := .int 0) (ty := .boolean) (C := RX12) (T := TX12) (N := 57) hx hb hts (fun w h => List.mem_cons_of_mem _ (jnGB_X12 w h)) tyX12 tyX12_ok nmX12 hown hK hP hD hS 0 rfl rfl 37 (by decide) (hts _ (List.mem_cons_of_mem _ mGB_270)) (fun _ h9 => h9) rfl (by decide +kernel) rfl rfl (Nat.le_of_ble_eq_true rfl) dX12_holds_58 (fun H locs hP hD hS => ?_)
        have hP : va_P (dC, dI) vwCl [(h0, .inr (12, fsMM (upd mi 37 0) mr)), ((mr 5), .inl (km_reportMonth, 24, .inl fm_reportMonth)), ((mr 6), .inl (km_reportDay, 24, .inl fm_reportDay)), ((mr 3), .inl (km_reportKind, 24, .inl fm_reportKind)), ((mr 14), .inl (km_must, 25, .inl fm_must)), ((mr 15), .inl (km_least, 25, .inl fm_least))] H := hP
        have hD : va_D A [(h0, .inr (12, fsMM (upd mi 37 0) mr)), ((mr 5), .inl (km_reportMonth, 24, .inl fm_reportMonth)), ((mr 6), .inl (km_reportDay, 24, .inl fm_reportDay)), ((mr 3), .inl (km_reportKind, 24, .inl fm_reportKind)), ((mr 14), .inl (km_must, 25, .inl fm_must)), ((mr 15), .inl (km_least, 25, .inl fm_least))] := hD
        refine lv_aload_n hx hb dX12_holds_61 rfl (lv_at hl 2 rfl) ?_
        refine va_get (D := (dC, dI)) (ci := 12) (v := .ref (mr 14)) (C := RX12) (T := TX12) (N := 57) hx hb hts (fun w h => List.mem_cons_of_mem _ (jnGB_X12 w h)) hown hK hP 0 rfl rfl 34 (by decide) (hts _ (List.mem_cons_of_mem _ mGB_26)) (fun _ h9 => h9) rfl dX12_holds_62 ?_
        refine lv_iload_n hx hb dX12_holds_65 rfl (lv_at hl 1 rfl) ?_
        refine lv_iload_n hx hb dX12_holds_66 rfl (lv_at hl 0 rfl) ?_
        refine va_iast hx hb hK hP hD hS 4 3 rfl rfl (gi_in gx_109 (by decide)) dX12_holds_67 (fun H locs hP hD hS => ?_)
        have hP : va_P (dC, dI) vwCl [(h0, .inr (12, fsMM (upd mi 37 0) mr)), ((mr 5), .inl (km_reportMonth, 24, .inl fm_reportMonth)), ((mr 6), .inl (km_reportDay, 24, .inl fm_reportDay)), ((mr 3), .inl (km_reportKind, 24, .inl fm_reportKind)), ((mr 14), .inl (km_must, 25, .inl (upd fm_must (x_109 : Int32).toNatClampNeg x_111))), ((mr 15), .inl (km_least, 25, .inl fm_least))] H := hP
        have hD : va_D A [(h0, .inr (12, fsMM (upd mi 37 0) mr)), ((mr 5), .inl (km_reportMonth, 24, .inl fm_reportMonth)), ((mr 6), .inl (km_reportDay, 24, .inl fm_reportDay)), ((mr 3), .inl (km_reportKind, 24, .inl fm_reportKind)), ((mr 14), .inl (km_must, 25, .inl (upd fm_must (x_109 : Int32).toNatClampNeg x_111))), ((mr 15), .inl (km_least, 25, .inl fm_least))] := hD
        generalize upd fm_must (x_109 : Int32).toNatClampNeg x_111 = f_136 at hP hD
        refine lv_aload_n hx hb dX12_holds_68 rfl (lv_at hl 2 rfl) ?_
        refine va_get (D := (dC, dI)) (ci := 12) (v := .ref (mr 3)) (C := RX12) (T := TX12) (N := 57) hx hb hts (fun w h => List.mem_cons_of_mem _ (jnGB_X12 w h)) hown hK hP 0 rfl rfl 12 (by decide) (hts _ (List.mem_cons_of_mem _ mGB_13)) (fun _ h9 => h9) rfl dX12_holds_69 ?_
        refine lv_iload_n hx hb dX12_holds_72 rfl (lv_at hl 3 rfl) ?_
        refine va_iald hx hb hK hP 3 2 rfl rfl (gi_in gp1 (by decide)) dX12_holds_73 ?_
        refine lv_topi (fun x_137 ex_137 => ?_)
        refine lv_iconst (v := 1) hx hb dX12_holds_74 (by decide) ?_
        refine lv_icmp_ne (tgt := 96) hx hb dX12_holds_75 (by decide) (fun c_138 => ?_) (fun c_138 => ?_)
        · exact W.vret hx hb hr (fun t ht hW => ⟨⟨(), rfl, trivial, 0, f_136, fm_least, (gi_w (gi_c 0 0 (by decide)) (by decide)), by rw [ht]; exact hP, hD⟩, hS.F ht⟩) hS.2.2 dX12_holds_96
        · have g_139 : gi x_137 1 1 := gi_eq c_138 (gi_c 1 1 (by decide))
          refine lv_aload_n hx hb dX12_holds_78 rfl (lv_at hl 2 rfl) ?_
          refine va_get (D := (dC, dI)) (ci := 12) (v := .ref (mr 15)) (C := RX12) (T := TX12) (N := 57) hx hb hts (fun w h => List.mem_cons_of_mem _ (jnGB_X12 w h)) hown hK hP 0 rfl rfl 35 (by decide) (hts _ (List.mem_cons_of_mem _ mGB_27)) (fun _ h9 => h9) rfl dX12_holds_79 ?_
          refine lv_iload_n hx hb dX12_holds_82 rfl (lv_at hl 1 rfl) ?_
          refine lv_aload_n hx hb dX12_holds_83 rfl (lv_at hl 2 rfl) ?_
          refine va_get (D := (dC, dI)) (ci := 12) (v := .ref (mr 15)) (C := RX12) (T := TX12) (N := 57) hx hb hts (fun w h => List.mem_cons_of_mem _ (jnGB_X12 w h)) hown hK hP 0 rfl rfl 35 (by decide) (hts _ (List.mem_cons_of_mem _ mGB_27)) (fun _ h9 => h9) rfl dX12_holds_84 ?_
          refine lv_iload_n hx hb dX12_holds_87 rfl (lv_at hl 1 rfl) ?_
          refine va_iald hx hb hK hP 5 4 rfl rfl (gi_in gx_109 (by decide)) dX12_holds_88 ?_
          refine lv_topi (fun x_140 ex_140 => ?_)
          refine lv_iload_n hx hb dX12_holds_89 rfl (lv_at hl 0 rfl) ?_
          refine lv_iconst (v := 1) hx hb dX12_holds_90 (by decide) ?_
          refine lv_iadd hx hb dX12_holds_91 ?_
          refine lv_topi (fun x_141 ex_141 => ?_)
          have gx_141 : gi x_141 2 1001 := gi_add ex_141 gx_111 (gi_c 1 1 (by decide)) (by decide)
          refine va_mmax (own := RX12) hx hb (by rw [hml]; exact hl.1.symm) hown (hts _ (List.mem_cons_of_mem _ mGB_202)) (hts _ (List.mem_cons_of_mem _ mGB_203)) (hts _ (List.mem_cons_of_mem _ mGB_98)) (hts _ (List.mem_cons_of_mem _ mGB_204)) (Nat.le_of_ble_eq_true rfl) (Nat.le_of_ble_eq_true rfl) (Nat.zero_le _) (Nat.zero_le _) dX12_holds_92 ?_
          refine lv_topi (fun x_142 ex_142 => ?_)
          have gx_142 : gi x_142 2 2147483647 := gi_max ex_142 (gi_any x_140) gx_141 (by decide)
          refine va_iast hx hb hK hP hD hS 5 4 rfl rfl (gi_in gx_109 (by decide)) dX12_holds_95 (fun H locs hP hD hS => ?_)
          have hP : va_P (dC, dI) vwCl [(h0, .inr (12, fsMM (upd mi 37 0) mr)), ((mr 5), .inl (km_reportMonth, 24, .inl fm_reportMonth)), ((mr 6), .inl (km_reportDay, 24, .inl fm_reportDay)), ((mr 3), .inl (km_reportKind, 24, .inl fm_reportKind)), ((mr 14), .inl (km_must, 25, .inl f_136)), ((mr 15), .inl (km_least, 25, .inl (upd fm_least (x_109 : Int32).toNatClampNeg x_142)))] H := hP
          have hD : va_D A [(h0, .inr (12, fsMM (upd mi 37 0) mr)), ((mr 5), .inl (km_reportMonth, 24, .inl fm_reportMonth)), ((mr 6), .inl (km_reportDay, 24, .inl fm_reportDay)), ((mr 3), .inl (km_reportKind, 24, .inl fm_reportKind)), ((mr 14), .inl (km_must, 25, .inl f_136)), ((mr 15), .inl (km_least, 25, .inl (upd fm_least (x_109 : Int32).toNatClampNeg x_142)))] := hD
          generalize upd fm_least (x_109 : Int32).toNatClampNeg x_142 = f_143 at hP hD
          exact W.vret hx hb hr (fun t ht hW => ⟨⟨(), rfl, trivial, 0, f_136, f_143, (gi_w (gi_c 0 0 (by decide)) (by decide)), by rw [ht]; exact hP, hD⟩, hS.F ht⟩) hS.2.2 dX12_holds_96
      · refine lv_aload_n hx hb dX12_holds_43 rfl (lv_at hl 2 rfl) ?_
        refine va_get (D := (dC, dI)) (ci := 12) (v := .ref (mr 14)) (C := RX12) (T := TX12) (N := 57) hx hb hts (fun w h => List.mem_cons_of_mem _ (jnGB_X12 w h)) hown hK hP 0 rfl rfl 34 (by decide) (hts _ (List.mem_cons_of_mem _ mGB_26)) (fun _ h9 => h9) rfl dX12_holds_44 ?_
        refine lv_iload_n hx hb dX12_holds_47 rfl (lv_at hl 1 rfl) ?_
        refine va_iald hx hb hK hP 4 3 rfl rfl (gi_in gx_109 (by decide)) dX12_holds_48 ?_
        refine lv_topi (fun x_144 ex_144 => ?_)
        refine lv_iload_n hx hb dX12_holds_49 rfl (lv_at hl 0 rfl) ?_
        refine lv_icmp_eq (tgt := 57) hx hb dX12_holds_50 (by decide) (fun c_145 => ?_) (fun c_145 => ?_)
        · have g_146 : gi x_144 1 1000 := gi_eq c_145 gx_111
          refine lv_iconst (v := 0) hx hb dX12_holds_57 (by decide) ?_
          refine va_put (D := (dC, dI)) (ci := 12) (v := .int 0) (ty := .boolean) (C := RX12) (T := TX12) (N := 57) hx hb hts (fun w h => List.mem_cons_of_mem _ (jnGB_X12 w h)) tyX12 tyX12_ok nmX12 hown hK hP hD hS 0 rfl rfl 37 (by decide) (hts _ (List.mem_cons_of_mem _ mGB_270)) (fun _ h9 => h9) rfl (by decide +kernel) rfl rfl (Nat.le_of_ble_eq_true rfl) dX12_holds_58 (fun H locs hP hD hS => ?_)
          have hP : va_P (dC, dI) vwCl [(h0, .inr (12, fsMM (upd mi 37 0) mr)), ((mr 5), .inl (km_reportMonth, 24, .inl fm_reportMonth)), ((mr 6), .inl (km_reportDay, 24, .inl fm_reportDay)), ((mr 3), .inl (km_reportKind, 24, .inl fm_reportKind)), ((mr 14), .inl (km_must, 25, .inl fm_must)), ((mr 15), .inl (km_least, 25, .inl fm_least))] H := hP
          have hD : va_D A [(h0, .inr (12, fsMM (upd mi 37 0) mr)), ((mr 5), .inl (km_reportMonth, 24, .inl fm_reportMonth)), ((mr 6), .inl (km_reportDay, 24, .inl fm_reportDay)), ((mr 3), .inl (km_reportKind, 24, .inl fm_reportKind)), ((mr 14), .inl (km_must, 25, .inl fm_must)), ((mr 15), .inl (km_least, 25, .inl fm_least))] := hD
          refine lv_aload_n hx hb dX12_holds_61 rfl (lv_at hl 2 rfl) ?_
          refine va_get (D := (dC, dI)) (ci := 12) (v := .ref (mr 14)) (C := RX12) (T := TX12) (N := 57) hx hb hts (fun w h => List.mem_cons_of_mem _ (jnGB_X12 w h)) hown hK hP 0 rfl rfl 34 (by decide) (hts _ (List.mem_cons_of_mem _ mGB_26)) (fun _ h9 => h9) rfl dX12_holds_62 ?_
          refine lv_iload_n hx hb dX12_holds_65 rfl (lv_at hl 1 rfl) ?_
          refine lv_iload_n hx hb dX12_holds_66 rfl (lv_at hl 0 rfl) ?_
          refine va_iast hx hb hK hP hD hS 4 3 rfl rfl (gi_in gx_109 (by decide)) dX12_holds_67 (fun H locs hP hD hS => ?_)
          have hP : va_P (dC, dI) vwCl [(h0, .inr (12, fsMM (upd mi 37 0) mr)), ((mr 5), .inl (km_reportMonth, 24, .inl fm_reportMonth)), ((mr 6), .inl (km_reportDay, 24, .inl fm_reportDay)), ((mr 3), .inl (km_reportKind, 24, .inl fm_reportKind)), ((mr 14), .inl (km_must, 25, .inl (upd fm_must (x_109 : Int32).toNatClampNeg x_111))), ((mr 15), .inl (km_least, 25, .inl fm_least))] H := hP
          have hD : va_D A [(h0, .inr (12, fsMM (upd mi 37 0) mr)), ((mr 5), .inl (km_reportMonth, 24, .inl fm_reportMonth)), ((mr 6), .inl (km_reportDay, 24, .inl fm_reportDay)), ((mr 3), .inl (km_reportKind, 24, .inl fm_reportKind)), ((mr 14), .inl (km_must, 25, .inl (upd fm_must (x_109 : Int32).toNatClampNeg x_111))), ((mr 15), .inl (km_least, 25, .inl fm_least))] := hD
          generalize upd fm_must (x_109 : Int32).toNatClampNeg x_111 = f_147 at hP hD
          refine lv_aload_n hx hb dX12_holds_68 rfl (lv_at hl 2 rfl) ?_
          refine va_get (D := (dC, dI)) (ci := 12) (v := .ref (mr 3)) (C := RX12) (T := TX12) (N := 57) hx hb hts (fun w h => List.mem_cons_of_mem _ (jnGB_X12 w h)) hown hK hP 0 rfl rfl 12 (by decide) (hts _ (List.mem_cons_of_mem _ mGB_13)) (fun _ h9 => h9) rfl dX12_holds_69 ?_
          refine lv_iload_n hx hb dX12_holds_72 rfl (lv_at hl 3 rfl) ?_
          refine va_iald hx hb hK hP 3 2 rfl rfl (gi_in gp1 (by decide)) dX12_holds_73 ?_
          refine lv_topi (fun x_148 ex_148 => ?_)
          refine lv_iconst (v := 1) hx hb dX12_holds_74 (by decide) ?_
          refine lv_icmp_ne (tgt := 96) hx hb dX12_holds_75 (by decide) (fun c_149 => ?_) (fun c_149 => ?_)
          · exact W.vret hx hb hr (fun t ht hW => ⟨⟨(), rfl, trivial, 0, f_147, fm_least, (gi_w (gi_c 0 0 (by decide)) (by decide)), by rw [ht]; exact hP, hD⟩, hS.F ht⟩) hS.2.2 dX12_holds_96
          · have g_150 : gi x_148 1 1 := gi_eq c_149 (gi_c 1 1 (by decide))
            refine lv_aload_n hx hb dX12_holds_78 rfl (lv_at hl 2 rfl) ?_
            refine va_get (D := (dC, dI)) (ci := 12) (v := .ref (mr 15)) (C := RX12) (T := TX12) (N := 57) hx hb hts (fun w h => List.mem_cons_of_mem _ (jnGB_X12 w h)) hown hK hP 0 rfl rfl 35 (by decide) (hts _ (List.mem_cons_of_mem _ mGB_27)) (fun _ h9 => h9) rfl dX12_holds_79 ?_
            refine lv_iload_n hx hb dX12_holds_82 rfl (lv_at hl 1 rfl) ?_
            refine lv_aload_n hx hb dX12_holds_83 rfl (lv_at hl 2 rfl) ?_
            refine va_get (D := (dC, dI)) (ci := 12) (v := .ref (mr 15)) (C := RX12) (T := TX12) (N := 57) hx hb hts (fun w h => List.mem_cons_of_mem _ (jnGB_X12 w h)) hown hK hP 0 rfl rfl 35 (by decide) (hts _ (List.mem_cons_of_mem _ mGB_27)) (fun _ h9 => h9) rfl dX12_holds_84 ?_
            refine lv_iload_n hx hb dX12_holds_87 rfl (lv_at hl 1 rfl) ?_
            refine va_iald hx hb hK hP 5 4 rfl rfl (gi_in gx_109 (by decide)) dX12_holds_88 ?_
            refine lv_topi (fun x_151 ex_151 => ?_)
            refine lv_iload_n hx hb dX12_holds_89 rfl (lv_at hl 0 rfl) ?_
            refine lv_iconst (v := 1) hx hb dX12_holds_90 (by decide) ?_
            refine lv_iadd hx hb dX12_holds_91 ?_
            refine lv_topi (fun x_152 ex_152 => ?_)
            have gx_152 : gi x_152 2 1001 := gi_add ex_152 gx_111 (gi_c 1 1 (by decide)) (by decide)
            refine va_mmax (own := RX12) hx hb (by rw [hml]; exact hl.1.symm) hown (hts _ (List.mem_cons_of_mem _ mGB_202)) (hts _ (List.mem_cons_of_mem _ mGB_203)) (hts _ (List.mem_cons_of_mem _ mGB_98)) (hts _ (List.mem_cons_of_mem _ mGB_204)) (Nat.le_of_ble_eq_true rfl) (Nat.le_of_ble_eq_true rfl) (Nat.zero_le _) (Nat.zero_le _) dX12_holds_92 ?_
            refine lv_topi (fun x_153 ex_153 => ?_)
            have gx_153 : gi x_153 2 2147483647 := gi_max ex_153 (gi_any x_151) gx_152 (by decide)
            refine va_iast hx hb hK hP hD hS 5 4 rfl rfl (gi_in gx_109 (by decide)) dX12_holds_95 (fun H locs hP hD hS => ?_)
            have hP : va_P (dC, dI) vwCl [(h0, .inr (12, fsMM (upd mi 37 0) mr)), ((mr 5), .inl (km_reportMonth, 24, .inl fm_reportMonth)), ((mr 6), .inl (km_reportDay, 24, .inl fm_reportDay)), ((mr 3), .inl (km_reportKind, 24, .inl fm_reportKind)), ((mr 14), .inl (km_must, 25, .inl f_147)), ((mr 15), .inl (km_least, 25, .inl (upd fm_least (x_109 : Int32).toNatClampNeg x_153)))] H := hP
            have hD : va_D A [(h0, .inr (12, fsMM (upd mi 37 0) mr)), ((mr 5), .inl (km_reportMonth, 24, .inl fm_reportMonth)), ((mr 6), .inl (km_reportDay, 24, .inl fm_reportDay)), ((mr 3), .inl (km_reportKind, 24, .inl fm_reportKind)), ((mr 14), .inl (km_must, 25, .inl f_147)), ((mr 15), .inl (km_least, 25, .inl (upd fm_least (x_109 : Int32).toNatClampNeg x_153)))] := hD
            generalize upd fm_least (x_109 : Int32).toNatClampNeg x_153 = f_154 at hP hD
            exact W.vret hx hb hr (fun t ht hW => ⟨⟨(), rfl, trivial, 0, f_147, f_154, (gi_w (gi_c 0 0 (by decide)) (by decide)), by rw [ht]; exact hP, hD⟩, hS.F ht⟩) hS.2.2 dX12_holds_96
        · refine lv_iconst (v := 1) hx hb dX12_holds_53 (by decide) ?_
          refine lv_goto (tgt := 58) hx hb dX12_holds_54 (by decide) ?_
          refine va_put (D := (dC, dI)) (ci := 12) (v := .int 1) (ty := .boolean) (C := RX12) (T := TX12) (N := 57) hx hb hts (fun w h => List.mem_cons_of_mem _ (jnGB_X12 w h)) tyX12 tyX12_ok nmX12 hown hK hP hD hS 0 rfl rfl 37 (by decide) (hts _ (List.mem_cons_of_mem _ mGB_270)) (fun _ h9 => h9) rfl (by decide +kernel) rfl rfl (Nat.le_of_ble_eq_true rfl) dX12_holds_58 (fun H locs hP hD hS => ?_)
          have hP : va_P (dC, dI) vwCl [(h0, .inr (12, fsMM (upd mi 37 1) mr)), ((mr 5), .inl (km_reportMonth, 24, .inl fm_reportMonth)), ((mr 6), .inl (km_reportDay, 24, .inl fm_reportDay)), ((mr 3), .inl (km_reportKind, 24, .inl fm_reportKind)), ((mr 14), .inl (km_must, 25, .inl fm_must)), ((mr 15), .inl (km_least, 25, .inl fm_least))] H := hP
          have hD : va_D A [(h0, .inr (12, fsMM (upd mi 37 1) mr)), ((mr 5), .inl (km_reportMonth, 24, .inl fm_reportMonth)), ((mr 6), .inl (km_reportDay, 24, .inl fm_reportDay)), ((mr 3), .inl (km_reportKind, 24, .inl fm_reportKind)), ((mr 14), .inl (km_must, 25, .inl fm_must)), ((mr 15), .inl (km_least, 25, .inl fm_least))] := hD
          refine lv_aload_n hx hb dX12_holds_61 rfl (lv_at hl 2 rfl) ?_
          refine va_get (D := (dC, dI)) (ci := 12) (v := .ref (mr 14)) (C := RX12) (T := TX12) (N := 57) hx hb hts (fun w h => List.mem_cons_of_mem _ (jnGB_X12 w h)) hown hK hP 0 rfl rfl 34 (by decide) (hts _ (List.mem_cons_of_mem _ mGB_26)) (fun _ h9 => h9) rfl dX12_holds_62 ?_
          refine lv_iload_n hx hb dX12_holds_65 rfl (lv_at hl 1 rfl) ?_
          refine lv_iload_n hx hb dX12_holds_66 rfl (lv_at hl 0 rfl) ?_
          refine va_iast hx hb hK hP hD hS 4 3 rfl rfl (gi_in gx_109 (by decide)) dX12_holds_67 (fun H locs hP hD hS => ?_)
          have hP : va_P (dC, dI) vwCl [(h0, .inr (12, fsMM (upd mi 37 1) mr)), ((mr 5), .inl (km_reportMonth, 24, .inl fm_reportMonth)), ((mr 6), .inl (km_reportDay, 24, .inl fm_reportDay)), ((mr 3), .inl (km_reportKind, 24, .inl fm_reportKind)), ((mr 14), .inl (km_must, 25, .inl (upd fm_must (x_109 : Int32).toNatClampNeg x_111))), ((mr 15), .inl (km_least, 25, .inl fm_least))] H := hP
          have hD : va_D A [(h0, .inr (12, fsMM (upd mi 37 1) mr)), ((mr 5), .inl (km_reportMonth, 24, .inl fm_reportMonth)), ((mr 6), .inl (km_reportDay, 24, .inl fm_reportDay)), ((mr 3), .inl (km_reportKind, 24, .inl fm_reportKind)), ((mr 14), .inl (km_must, 25, .inl (upd fm_must (x_109 : Int32).toNatClampNeg x_111))), ((mr 15), .inl (km_least, 25, .inl fm_least))] := hD
          generalize upd fm_must (x_109 : Int32).toNatClampNeg x_111 = f_155 at hP hD
          refine lv_aload_n hx hb dX12_holds_68 rfl (lv_at hl 2 rfl) ?_
          refine va_get (D := (dC, dI)) (ci := 12) (v := .ref (mr 3)) (C := RX12) (T := TX12) (N := 57) hx hb hts (fun w h => List.mem_cons_of_mem _ (jnGB_X12 w h)) hown hK hP 0 rfl rfl 12 (by decide) (hts _ (List.mem_cons_of_mem _ mGB_13)) (fun _ h9 => h9) rfl dX12_holds_69 ?_
          refine lv_iload_n hx hb dX12_holds_72 rfl (lv_at hl 3 rfl) ?_
          refine va_iald hx hb hK hP 3 2 rfl rfl (gi_in gp1 (by decide)) dX12_holds_73 ?_
          refine lv_topi (fun x_156 ex_156 => ?_)
          refine lv_iconst (v := 1) hx hb dX12_holds_74 (by decide) ?_
          refine lv_icmp_ne (tgt := 96) hx hb dX12_holds_75 (by decide) (fun c_157 => ?_) (fun c_157 => ?_)
          · exact W.vret hx hb hr (fun t ht hW => ⟨⟨(), rfl, trivial, 1, f_155, fm_least, (gi_w (gi_c 1 1 (by decide)) (by decide)), by rw [ht]; exact hP, hD⟩, hS.F ht⟩) hS.2.2 dX12_holds_96
          · have g_158 : gi x_156 1 1 := gi_eq c_157 (gi_c 1 1 (by decide))
            refine lv_aload_n hx hb dX12_holds_78 rfl (lv_at hl 2 rfl) ?_
            refine va_get (D := (dC, dI)) (ci := 12) (v := .ref (mr 15)) (C := RX12) (T := TX12) (N := 57) hx hb hts (fun w h => List.mem_cons_of_mem _ (jnGB_X12 w h)) hown hK hP 0 rfl rfl 35 (by decide) (hts _ (List.mem_cons_of_mem _ mGB_27)) (fun _ h9 => h9) rfl dX12_holds_79 ?_
            refine lv_iload_n hx hb dX12_holds_82 rfl (lv_at hl 1 rfl) ?_
            refine lv_aload_n hx hb dX12_holds_83 rfl (lv_at hl 2 rfl) ?_
            refine va_get (D := (dC, dI)) (ci := 12) (v := .ref (mr 15)) (C := RX12) (T := TX12) (N := 57) hx hb hts (fun w h => List.mem_cons_of_mem _ (jnGB_X12 w h)) hown hK hP 0 rfl rfl 35 (by decide) (hts _ (List.mem_cons_of_mem _ mGB_27)) (fun _ h9 => h9) rfl dX12_holds_84 ?_
            refine lv_iload_n hx hb dX12_holds_87 rfl (lv_at hl 1 rfl) ?_
            refine va_iald hx hb hK hP 5 4 rfl rfl (gi_in gx_109 (by decide)) dX12_holds_88 ?_
            refine lv_topi (fun x_159 ex_159 => ?_)
            refine lv_iload_n hx hb dX12_holds_89 rfl (lv_at hl 0 rfl) ?_
            refine lv_iconst (v := 1) hx hb dX12_holds_90 (by decide) ?_
            refine lv_iadd hx hb dX12_holds_91 ?_
            refine lv_topi (fun x_160 ex_160 => ?_)
            have gx_160 : gi x_160 2 1001 := gi_add ex_160 gx_111 (gi_c 1 1 (by decide)) (by decide)
            refine va_mmax (own := RX12) hx hb (by rw [hml]; exact hl.1.symm) hown (hts _ (List.mem_cons_of_mem _ mGB_202)) (hts _ (List.mem_cons_of_mem _ mGB_203)) (hts _ (List.mem_cons_of_mem _ mGB_98)) (hts _ (List.mem_cons_of_mem _ mGB_204)) (Nat.le_of_ble_eq_true rfl) (Nat.le_of_ble_eq_true rfl) (Nat.zero_le _) (Nat.zero_le _) dX12_holds_92 ?_
            refine lv_topi (fun x_161 ex_161 => ?_)
            have gx_161 : gi x_161 2 2147483647 := gi_max ex_161 (gi_any x_159) gx_160 (by decide)
            refine va_iast hx hb hK hP hD hS 5 4 rfl rfl (gi_in gx_109 (by decide)) dX12_holds_95 (fun H locs hP hD hS => ?_)
            have hP : va_P (dC, dI) vwCl [(h0, .inr (12, fsMM (upd mi 37 1) mr)), ((mr 5), .inl (km_reportMonth, 24, .inl fm_reportMonth)), ((mr 6), .inl (km_reportDay, 24, .inl fm_reportDay)), ((mr 3), .inl (km_reportKind, 24, .inl fm_reportKind)), ((mr 14), .inl (km_must, 25, .inl f_155)), ((mr 15), .inl (km_least, 25, .inl (upd fm_least (x_109 : Int32).toNatClampNeg x_161)))] H := hP
            have hD : va_D A [(h0, .inr (12, fsMM (upd mi 37 1) mr)), ((mr 5), .inl (km_reportMonth, 24, .inl fm_reportMonth)), ((mr 6), .inl (km_reportDay, 24, .inl fm_reportDay)), ((mr 3), .inl (km_reportKind, 24, .inl fm_reportKind)), ((mr 14), .inl (km_must, 25, .inl f_155)), ((mr 15), .inl (km_least, 25, .inl (upd fm_least (x_109 : Int32).toNatClampNeg x_161)))] := hD
            generalize upd fm_least (x_109 : Int32).toNatClampNeg x_161 = f_162 at hP hD
            exact W.vret hx hb hr (fun t ht hW => ⟨⟨(), rfl, trivial, 1, f_155, f_162, (gi_w (gi_c 1 1 (by decide)) (by decide)), by rw [ht]; exact hP, hD⟩, hS.F ht⟩) hS.2.2 dX12_holds_96
theorem dX12_takenBits_0 : decode cX12_takenBits 0 = .ok (.iconst 0, 1) := by decide +kernel
theorem dX12_takenBits_1 : decode cX12_takenBits 1 = .ok (.istore_n 1, 1) := by decide +kernel
theorem dX12_takenBits_2 : decode cX12_takenBits 2 = .ok (.iconst 0, 1) := by decide +kernel
theorem dX12_takenBits_3 : decode cX12_takenBits 3 = .ok (.istore_n 2, 1) := by decide +kernel
theorem dX12_takenBits_4 : decode cX12_takenBits 4 = .ok (.iload_n 2, 1) := by decide +kernel
theorem dX12_takenBits_5 : decode cX12_takenBits 5 = .ok (.aload_n 0, 1) := by decide +kernel
theorem dX12_takenBits_6 : decode cX12_takenBits 6 = .ok (.getfield 141, 3) := by decide +kernel
theorem dX12_takenBits_9 : decode cX12_takenBits 9 = .ok (.if_icmp .ge 28, 3) := by decide +kernel
theorem dX12_takenBits_12 : decode cX12_takenBits 12 = .ok (.iload_n 1, 1) := by decide +kernel
theorem dX12_takenBits_13 : decode cX12_takenBits 13 = .ok (.aload_n 0, 1) := by decide +kernel
theorem dX12_takenBits_14 : decode cX12_takenBits 14 = .ok (.getfield 69, 3) := by decide +kernel
theorem dX12_takenBits_17 : decode cX12_takenBits 17 = .ok (.iload_n 2, 1) := by decide +kernel
theorem dX12_takenBits_18 : decode cX12_takenBits 18 = .ok (.iaload, 1) := by decide +kernel
theorem dX12_takenBits_19 : decode cX12_takenBits 19 = .ok (.ifCond .ne 9, 3) := by decide +kernel
theorem dX12_takenBits_22 : decode cX12_takenBits 22 = .ok (.iconst 1, 1) := by decide +kernel
theorem dX12_takenBits_23 : decode cX12_takenBits 23 = .ok (.iload_n 2, 1) := by decide +kernel
theorem dX12_takenBits_24 : decode cX12_takenBits 24 = .ok (.ishl, 1) := by decide +kernel
theorem dX12_takenBits_25 : decode cX12_takenBits 25 = .ok (.goto 4, 3) := by decide +kernel
theorem dX12_takenBits_28 : decode cX12_takenBits 28 = .ok (.iconst 0, 1) := by decide +kernel
theorem dX12_takenBits_29 : decode cX12_takenBits 29 = .ok (.ior, 1) := by decide +kernel
theorem dX12_takenBits_30 : decode cX12_takenBits 30 = .ok (.istore_n 1, 1) := by decide +kernel
theorem dX12_takenBits_31 : decode cX12_takenBits 31 = .ok (.iinc 2 1, 3) := by decide +kernel
theorem dX12_takenBits_34 : decode cX12_takenBits 34 = .ok (.goto (-30), 3) := by decide +kernel
theorem dX12_takenBits_37 : decode cX12_takenBits 37 = .ok (.iload_n 1, 1) := by decide +kernel
theorem dX12_takenBits_38 : decode cX12_takenBits 38 = .ok (.ireturn, 1) := by decide +kernel
set_option maxHeartbeats 4000000 in
set_option maxRecDepth 100000 in
theorem lp_sX12_takenBits {p : Program} {l : Launch} {e : Env} {R : Room} {s : State} {m : MethodId} {args : Array Value} {below : List Frame} {meth : Method} {c : Code} {Q : State → Prop} {A : Nat → Prop} {cells slots : Nat} {dC : Nat → ClassId} {dI : Nat → Nat → Nat} (h0 : Nat) (mi : Nat → Int32) (mr : Nat → Nat) (km_verdict : ClassId) (fm_verdict : Nat → Int32) (gmi_0 : gi (mi 0) 0 24) (gmi_1 : gi (mi 1) 0 5) (gmi_2 : gi (mi 2) 0 5) (gmi_4 : gi (mi 4) 0 1) (gmi_7 : gi (mi 7) 0 6) (gmi_10 : gi (mi 10) 0 24) (gmi_17 : gi (mi 17) 0 8) (gmi_23 : gi (mi 23) 0 300) (gmi_24 : gi (mi 24) 0 1) (gmi_26 : gi (mi 26) 0 1600) (gmi_29 : gi (mi 29) 0 1600) (gmi_30 : gi (mi 30) 0 1600) (gmi_33 : gi (mi 33) 0 1) (gmi_37 : gi (mi 37) 0 1) (gmi_41 : gi (mi 41) 0 24) (gmi_50 : gi (mi 50) 0 1) (gmi_51 : gi (mi 51) 0 1) (gmi_56 : gi (mi 56) 0 80) (hx : p.tables.exec = Jvm.exec) (hb : c.code = cX12_takenBits) (hml : c.maxLocals = 3) (hown : s.vm.findClass RX12 = some m.cls) (hts : ∀ w ∈ ((.code yX12_takenBits cX12_takenBits 3 (some .int) :: wsGB) : List Cond), w.before args s = true) (hK : va_K (dC, dI) vwCl [(km_verdict, .int)] s) (hRf : 0 ≤ R.frames) (hRl : 0 ≤ R.locals) (hRc : cells ≤ R.cells) (hRs : slots ≤ R.slots) (kr38 : ∀ (v : Int32) (H : Heap) (locs : List Loc) (ls : Array Slot), va_P (dC, dI) vwCl [(h0, .inr (12, fsMM mi mr)), ((mr 18), .inl (km_verdict, 24, .inl fm_verdict))] H → va_S A s.heap H locs → lv_has ls 3 [] → W p l e R s m args below meth c H locs cells slots Q (F0 m 38 ls [.int v])) : ∀ z : Nat, (∀ (v1 : Int32) (v2 : Int32) (H : Heap) (locs : List Loc) (ls : Array Slot), gi v2 0 24 → 49 + (-2) * v2.toInt < (z : Int) → va_P (dC, dI) vwCl [(h0, .inr (12, fsMM mi mr)), ((mr 18), .inl (km_verdict, 24, .inl fm_verdict))] H → va_S A s.heap H locs → lv_has ls 3 [(0, .ref h0), (1, .int v1), (2, .int v2)] → W p l e R s m args below meth c H locs cells slots Q (F0 m 4 ls [])) := by
  intro z
  induction z with
  | zero =>
    intro v1 v2 H locs ls gv2 hmu hP hS hl
    exact absurd hmu (by have hv21 := gv2.1; have hv22 := gv2.2; omega)
  | succ z ih =>
      intro v1 v2 H locs ls gv2 hmu hP hS hl
      refine lv_iload_n hx hb dX12_takenBits_4 rfl (lv_at hl 2 rfl) ?_
      refine lv_aload_n hx hb dX12_takenBits_5 rfl (lv_at hl 0 rfl) ?_
      refine va_get (D := (dC, dI)) (ci := 12) (v := .int (mi 10)) (C := RX12) (T := TX12) (N := 57) hx hb hts (fun w h => List.mem_cons_of_mem _ (jnGB_X12 w h)) hown hK hP 0 rfl rfl 10 (by decide) (hts _ (List.mem_cons_of_mem _ mGB_111)) (fun _ h9 => h9) rfl dX12_takenBits_6 ?_
      refine lv_icmp_ge (tgt := 37) hx hb dX12_takenBits_9 (by decide) (fun c_166 => ?_) (fun c_166 => ?_)
      · refine lv_iload_n hx hb dX12_takenBits_37 rfl (lv_at hl 1 rfl) ?_
        exact kr38 v1 _ _ _ hP hS (lv_sub hl [] rfl)
      · have g_167 : gi v2 0 23 := gi_lt_l (Int32.not_le.mp c_166) gv2 gmi_10 (by decide)
        have g_168 : gi (mi 10) 1 24 := gi_lt_r (Int32.not_le.mp c_166) gv2 gmi_10 (by decide)
        refine lv_iload_n hx hb dX12_takenBits_12 rfl (lv_at hl 1 rfl) ?_
        refine lv_aload_n hx hb dX12_takenBits_13 rfl (lv_at hl 0 rfl) ?_
        refine va_get (D := (dC, dI)) (ci := 12) (v := .ref (mr 18)) (C := RX12) (T := TX12) (N := 57) hx hb hts (fun w h => List.mem_cons_of_mem _ (jnGB_X12 w h)) hown hK hP 0 rfl rfl 39 (by decide) (hts _ (List.mem_cons_of_mem _ mGB_30)) (fun _ h9 => h9) rfl dX12_takenBits_14 ?_
        refine lv_iload_n hx hb dX12_takenBits_17 rfl (lv_at hl 2 rfl) ?_
        refine va_iald hx hb hK hP 1 0 rfl rfl (gi_in g_167 (by decide)) dX12_takenBits_18 ?_
        refine lv_topi (fun x_169 ex_169 => ?_)
        refine lv_if_ne (tgt := 28) hx hb dX12_takenBits_19 (by decide) (fun c_170 => ?_) (fun c_170 => ?_)
        · refine lv_iconst (v := 0) hx hb dX12_takenBits_28 (by decide) ?_
          refine lv_ior hx hb dX12_takenBits_29 ?_
          refine lv_topi (fun x_171 ex_171 => ?_)
          refine lv_istore_n (lv' := [(1, .int x_171), (0, .ref h0), (2, .int v2)]) hx hb dX12_takenBits_30 rfl hl (by decide) rfl (fun ls hl => ?_)
          obtain ⟨x_172, ex_172⟩ : ∃ y : Int32, y = v2 + 1 := ⟨_, rfl⟩
          have gx_172 : gi x_172 1 24 := gi_add ex_172 g_167 (gi_c 1 1 (by decide)) (by decide)
          refine lv_iinc (v := x_172) (lv' := [(2, .int x_172), (1, .int x_171), (0, .ref h0)]) hx hb dX12_takenBits_31 hl (k := 2) rfl (by rw [ex_172]; rfl) (by decide) rfl (fun ls hl => ?_)
          refine lv_goto (tgt := 4) hx hb dX12_takenBits_34 (by decide) ?_
          exact ih x_171 x_172 _ _ _ (gi_w gx_172 (by decide)) (by have av2 := gv2.1; have bv2 := gv2.2; have qgx_172 := gx_172.1; have rgx_172 := gx_172.2; have igx_172 : x_172.toInt = v2.toInt + 1 := (by have hc1 : (1 : Int32).toInt = 1 := (by decide); have h9 := gi_addI ex_172 (by have h1 := g_167.1; have h2 := (gi_c 1 1 (by decide)).1; have h3 := g_167.2; have h4 := (gi_c 1 1 (by decide)).2; omega) (by have h1 := g_167.1; have h2 := (gi_c 1 1 (by decide)).1; have h3 := g_167.2; have h4 := (gi_c 1 1 (by decide)).2; omega); rw [hc1] at h9; exact h9); have qgv2 := g_167.1; have rgv2 := g_167.2; omega) hP hS (lv_sub hl [2, 1, 0] rfl)
        · have g_173 : gi x_169 0 0 := gi_eq c_170 (gi_c 0 0 (by decide))
          refine lv_iconst (v := 1) hx hb dX12_takenBits_22 (by decide) ?_
          refine lv_iload_n hx hb dX12_takenBits_23 rfl (lv_at hl 2 rfl) ?_
          refine lv_ishl hx hb dX12_takenBits_24 ?_
          refine lv_topi (fun x_174 ex_174 => ?_)
          refine lv_goto (tgt := 29) hx hb dX12_takenBits_25 (by decide) ?_
          refine lv_ior hx hb dX12_takenBits_29 ?_
          refine lv_topi (fun x_175 ex_175 => ?_)
          refine lv_istore_n (lv' := [(1, .int x_175), (0, .ref h0), (2, .int v2)]) hx hb dX12_takenBits_30 rfl hl (by decide) rfl (fun ls hl => ?_)
          obtain ⟨x_176, ex_176⟩ : ∃ y : Int32, y = v2 + 1 := ⟨_, rfl⟩
          have gx_176 : gi x_176 1 24 := gi_add ex_176 g_167 (gi_c 1 1 (by decide)) (by decide)
          refine lv_iinc (v := x_176) (lv' := [(2, .int x_176), (1, .int x_175), (0, .ref h0)]) hx hb dX12_takenBits_31 hl (k := 2) rfl (by rw [ex_176]; rfl) (by decide) rfl (fun ls hl => ?_)
          refine lv_goto (tgt := 4) hx hb dX12_takenBits_34 (by decide) ?_
          exact ih x_175 x_176 _ _ _ (gi_w gx_176 (by decide)) (by have av2 := gv2.1; have bv2 := gv2.2; have qgx_176 := gx_176.1; have rgx_176 := gx_176.2; have igx_176 : x_176.toInt = v2.toInt + 1 := (by have hc1 : (1 : Int32).toInt = 1 := (by decide); have h9 := gi_addI ex_176 (by have h1 := g_167.1; have h2 := (gi_c 1 1 (by decide)).1; have h3 := g_167.2; have h4 := (gi_c 1 1 (by decide)).2; omega) (by have h1 := g_167.1; have h2 := (gi_c 1 1 (by decide)).1; have h3 := g_167.2; have h4 := (gi_c 1 1 (by decide)).2; omega); rw [hc1] at h9; exact h9); have qgv2 := g_167.1; have rgv2 := g_167.2; omega) hP hS (lv_sub hl [2, 1, 0] rfl)
set_option maxHeartbeats 4000000 in
set_option maxRecDepth 100000 in
theorem sX12_takenBits (l : Launch) (dC : Nat → ClassId) (dI : Nat → Nat → Nat) (h0 : Nat) (mi : Nat → Int32) (mr : Nat → Nat) (km_verdict : ClassId) (fm_verdict : Nat → Int32) (gmi_0 : gi (mi 0) 0 24) (gmi_1 : gi (mi 1) 0 5) (gmi_2 : gi (mi 2) 0 5) (gmi_4 : gi (mi 4) 0 1) (gmi_7 : gi (mi 7) 0 6) (gmi_10 : gi (mi 10) 0 24) (gmi_17 : gi (mi 17) 0 8) (gmi_23 : gi (mi 23) 0 300) (gmi_24 : gi (mi 24) 0 1) (gmi_26 : gi (mi 26) 0 1600) (gmi_29 : gi (mi 29) 0 1600) (gmi_30 : gi (mi 30) 0 1600) (gmi_33 : gi (mi 33) 0 1) (gmi_37 : gi (mi 37) 0 1) (gmi_41 : gi (mi 41) 0 24) (gmi_50 : gi (mi 50) 0 1) (gmi_51 : gi (mi 51) 0 1) (gmi_56 : gi (mi 56) 0 80) : Met l yX12_takenBits (.code yX12_takenBits cX12_takenBits 3 (some .int) :: wsGB) ({ frames := 0, cells := 0, slots := 0, locals := 0 }) (va_Pc [.ref h0] (fun U => va_P (dC, dI) vwCl [(h0, .inr (12, fsMM mi mr)), ((mr 18), .inl (km_verdict, 24, .inl fm_verdict))] U.heap ∧ va_K (dC, dI) vwCl [(km_verdict, .int)] U)) (va_Qi (fun (r : Int32) (u : Unit) => gi r (-2147483648) 2147483647) (fun _ _ => True) (fun _ => False)) 0 0 (fun _ => False) := by
  refine Met.ofW (cc := cX12_takenBits) (maxL := 3) (ret := (some .int)) (by decide) rfl ?_
  intro p e s m args below meth c s₁ B hml hv
  obtain ⟨rfl, hP, hK⟩ := hv
  have hx := B.exec
  have hb := B.bytes
  have hr := B.returns
  have hts := atoms_spec (ws := (.code yX12_takenBits cX12_takenBits 3 (some .int) :: wsGB)) B.pre
  have hown : s.vm.findClass RX12 = some m.cls := findClass_of_methodNamed B.named
  have hlocks := B.notSynchronized
  have hS : va_S (fun _ => False) s.heap s.heap [] := va_S.rf
  have hl := lv_entry ([.ref h0]) (n := 3) (Nat.le_of_ble_eq_true rfl)
  rw [lg_entry_eq]
  generalize (lg_sl ([.ref h0]) ++ List.replicate (3 - (lg_sl ([.ref h0])).length) Slot.unset).toArray = ls at hl ⊢
  have hl : lv_has ls 3 [(0, .ref h0)] := hl
  refine lv_iconst (v := 0) hx hb dX12_takenBits_0 (by decide) ?_
  refine lv_istore_n (lv' := [(1, .int 0), (0, .ref h0)]) hx hb dX12_takenBits_1 rfl hl (by decide) rfl (fun ls hl => ?_)
  refine lv_iconst (v := 0) hx hb dX12_takenBits_2 (by decide) ?_
  refine lv_istore_n (lv' := [(2, .int 0), (1, .int 0), (0, .ref h0)]) hx hb dX12_takenBits_3 rfl hl (by decide) rfl (fun ls hl => ?_)
  refine (lp_sX12_takenBits h0 mi mr km_verdict fm_verdict gmi_0 gmi_1 gmi_2 gmi_4 gmi_7 gmi_10 gmi_17 gmi_23 gmi_24 gmi_26 gmi_29 gmi_30 gmi_33 gmi_37 gmi_41 gmi_50 gmi_51 gmi_56 hx hb hml hown hts hK (Nat.le_of_ble_eq_true rfl) (Nat.le_of_ble_eq_true rfl) (Nat.zero_le _) (Nat.zero_le _) (fun v H locs ls hP hS hl => ?_) 62) 0 0 _ _ _ (gi_w (gi_c 0 0 (by decide)) (by decide)) (by have k0 : (0 : Int32).toInt = 0 := (by decide); omega) hP hS (lv_sub hl [2, 1, 0] rfl)
  · skip
    exact W.iret (v := v) hx hb hr (fun t ht hW => ⟨⟨v, (), rfl, (gi_any v), trivial⟩, hS.F ht⟩) hS.2.2 dX12_takenBits_38
theorem dX12_laysRow_0 : decode cX12_laysRow 0 = .ok (.aload_n 0, 1) := by decide +kernel
theorem dX12_laysRow_1 : decode cX12_laysRow 1 = .ok (.iconst 0, 1) := by decide +kernel
theorem dX12_laysRow_2 : decode cX12_laysRow 2 = .ok (.putfield 338, 3) := by decide +kernel
theorem dX12_laysRow_5 : decode cX12_laysRow 5 = .ok (.iconst 0, 1) := by decide +kernel
theorem dX12_laysRow_6 : decode cX12_laysRow 6 = .ok (.istore_n 2, 1) := by decide +kernel
theorem dX12_laysRow_7 : decode cX12_laysRow 7 = .ok (.iload_n 2, 1) := by decide +kernel
theorem dX12_laysRow_8 : decode cX12_laysRow 8 = .ok (.aload_n 0, 1) := by decide +kernel
theorem dX12_laysRow_9 : decode cX12_laysRow 9 = .ok (.getfield 141, 3) := by decide +kernel
theorem dX12_laysRow_12 : decode cX12_laysRow 12 = .ok (.if_icmp .ge 119, 3) := by decide +kernel
theorem dX12_laysRow_15 : decode cX12_laysRow 15 = .ok (.aload_n 0, 1) := by decide +kernel
theorem dX12_laysRow_16 : decode cX12_laysRow 16 = .ok (.getfield 69, 3) := by decide +kernel
theorem dX12_laysRow_19 : decode cX12_laysRow 19 = .ok (.iload_n 2, 1) := by decide +kernel
theorem dX12_laysRow_20 : decode cX12_laysRow 20 = .ok (.iconst 3, 1) := by decide +kernel
theorem dX12_laysRow_21 : decode cX12_laysRow 21 = .ok (.iastore, 1) := by decide +kernel
theorem dX12_laysRow_22 : decode cX12_laysRow 22 = .ok (.aload_n 0, 1) := by decide +kernel
theorem dX12_laysRow_23 : decode cX12_laysRow 23 = .ok (.iload_n 2, 1) := by decide +kernel
theorem dX12_laysRow_24 : decode cX12_laysRow 24 = .ok (.iload_n 1, 1) := by decide +kernel
theorem dX12_laysRow_25 : decode cX12_laysRow 25 = .ok (.invokevirtual 341, 3) := by decide +kernel
theorem dX12_laysRow_28 : decode cX12_laysRow 28 = .ok (.ifCond .eq 97, 3) := by decide +kernel
theorem dX12_laysRow_31 : decode cX12_laysRow 31 = .ok (.iload_n 2, 1) := by decide +kernel
theorem dX12_laysRow_32 : decode cX12_laysRow 32 = .ok (.aload_n 0, 1) := by decide +kernel
theorem dX12_laysRow_33 : decode cX12_laysRow 33 = .ok (.getfield 78, 3) := by decide +kernel
theorem dX12_laysRow_36 : decode cX12_laysRow 36 = .ok (.if_icmp .eq 89, 3) := by decide +kernel
theorem dX12_laysRow_39 : decode cX12_laysRow 39 = .ok (.aload_n 0, 1) := by decide +kernel
theorem dX12_laysRow_40 : decode cX12_laysRow 40 = .ok (.getfield 75, 3) := by decide +kernel
theorem dX12_laysRow_43 : decode cX12_laysRow 43 = .ok (.iconst (-1), 1) := by decide +kernel
theorem dX12_laysRow_44 : decode cX12_laysRow 44 = .ok (.if_icmp .eq 19, 3) := by decide +kernel
theorem dX12_laysRow_47 : decode cX12_laysRow 47 = .ok (.aload_n 0, 1) := by decide +kernel
theorem dX12_laysRow_48 : decode cX12_laysRow 48 = .ok (.getfield 16, 3) := by decide +kernel
theorem dX12_laysRow_51 : decode cX12_laysRow 51 = .ok (.iload_n 2, 1) := by decide +kernel
theorem dX12_laysRow_52 : decode cX12_laysRow 52 = .ok (.iaload, 1) := by decide +kernel
theorem dX12_laysRow_53 : decode cX12_laysRow 53 = .ok (.aload_n 0, 1) := by decide +kernel
theorem dX12_laysRow_54 : decode cX12_laysRow 54 = .ok (.getfield 75, 3) := by decide +kernel
theorem dX12_laysRow_57 : decode cX12_laysRow 57 = .ok (.if_icmp .eq 6, 3) := by decide +kernel
theorem dX12_laysRow_60 : decode cX12_laysRow 60 = .ok (.goto 65, 3) := by decide +kernel
theorem dX12_laysRow_63 : decode cX12_laysRow 63 = .ok (.aload_n 0, 1) := by decide +kernel
theorem dX12_laysRow_64 : decode cX12_laysRow 64 = .ok (.getfield 338, 3) := by decide +kernel
theorem dX12_laysRow_67 : decode cX12_laysRow 67 = .ok (.istore_n 3, 1) := by decide +kernel
theorem dX12_laysRow_68 : decode cX12_laysRow 68 = .ok (.iload_n 3, 1) := by decide +kernel
theorem dX12_laysRow_69 : decode cX12_laysRow 69 = .ok (.ifCond .le 39, 3) := by decide +kernel
theorem dX12_laysRow_72 : decode cX12_laysRow 72 = .ok (.aload_n 0, 1) := by decide +kernel
theorem dX12_laysRow_73 : decode cX12_laysRow 73 = .ok (.iload_n 2, 1) := by decide +kernel
theorem dX12_laysRow_74 : decode cX12_laysRow 74 = .ok (.aload_n 0, 1) := by decide +kernel
theorem dX12_laysRow_75 : decode cX12_laysRow 75 = .ok (.getfield 72, 3) := by decide +kernel
theorem dX12_laysRow_78 : decode cX12_laysRow 78 = .ok (.iload_n 3, 1) := by decide +kernel
theorem dX12_laysRow_79 : decode cX12_laysRow 79 = .ok (.iconst 1, 1) := by decide +kernel
theorem dX12_laysRow_80 : decode cX12_laysRow 80 = .ok (.isub, 1) := by decide +kernel
theorem dX12_laysRow_81 : decode cX12_laysRow 81 = .ok (.iaload, 1) := by decide +kernel
theorem dX12_laysRow_82 : decode cX12_laysRow 82 = .ok (.invokevirtual 344, 3) := by decide +kernel
theorem dX12_laysRow_85 : decode cX12_laysRow 85 = .ok (.ifCond .eq 23, 3) := by decide +kernel
theorem dX12_laysRow_88 : decode cX12_laysRow 88 = .ok (.aload_n 0, 1) := by decide +kernel
theorem dX12_laysRow_89 : decode cX12_laysRow 89 = .ok (.getfield 72, 3) := by decide +kernel
theorem dX12_laysRow_92 : decode cX12_laysRow 92 = .ok (.iload_n 3, 1) := by decide +kernel
theorem dX12_laysRow_93 : decode cX12_laysRow 93 = .ok (.aload_n 0, 1) := by decide +kernel
theorem dX12_laysRow_94 : decode cX12_laysRow 94 = .ok (.getfield 72, 3) := by decide +kernel
theorem dX12_laysRow_97 : decode cX12_laysRow 97 = .ok (.iload_n 3, 1) := by decide +kernel
theorem dX12_laysRow_98 : decode cX12_laysRow 98 = .ok (.iconst 1, 1) := by decide +kernel
theorem dX12_laysRow_99 : decode cX12_laysRow 99 = .ok (.isub, 1) := by decide +kernel
theorem dX12_laysRow_100 : decode cX12_laysRow 100 = .ok (.iaload, 1) := by decide +kernel
theorem dX12_laysRow_101 : decode cX12_laysRow 101 = .ok (.iastore, 1) := by decide +kernel
theorem dX12_laysRow_102 : decode cX12_laysRow 102 = .ok (.iinc 3 (-1), 3) := by decide +kernel
theorem dX12_laysRow_105 : decode cX12_laysRow 105 = .ok (.goto (-37), 3) := by decide +kernel
theorem dX12_laysRow_108 : decode cX12_laysRow 108 = .ok (.aload_n 0, 1) := by decide +kernel
theorem dX12_laysRow_109 : decode cX12_laysRow 109 = .ok (.getfield 72, 3) := by decide +kernel
theorem dX12_laysRow_112 : decode cX12_laysRow 112 = .ok (.iload_n 3, 1) := by decide +kernel
theorem dX12_laysRow_113 : decode cX12_laysRow 113 = .ok (.iload_n 2, 1) := by decide +kernel
theorem dX12_laysRow_114 : decode cX12_laysRow 114 = .ok (.iastore, 1) := by decide +kernel
theorem dX12_laysRow_115 : decode cX12_laysRow 115 = .ok (.aload_n 0, 1) := by decide +kernel
theorem dX12_laysRow_116 : decode cX12_laysRow 116 = .ok (.dup, 1) := by decide +kernel
theorem dX12_laysRow_117 : decode cX12_laysRow 117 = .ok (.getfield 338, 3) := by decide +kernel
theorem dX12_laysRow_120 : decode cX12_laysRow 120 = .ok (.iconst 1, 1) := by decide +kernel
theorem dX12_laysRow_121 : decode cX12_laysRow 121 = .ok (.iadd, 1) := by decide +kernel
theorem dX12_laysRow_122 : decode cX12_laysRow 122 = .ok (.putfield 338, 3) := by decide +kernel
theorem dX12_laysRow_125 : decode cX12_laysRow 125 = .ok (.iinc 2 1, 3) := by decide +kernel
theorem dX12_laysRow_128 : decode cX12_laysRow 128 = .ok (.goto (-121), 3) := by decide +kernel
theorem dX12_laysRow_131 : decode cX12_laysRow 131 = .ok (.return_, 1) := by decide +kernel
set_option maxHeartbeats 4000000 in
set_option maxRecDepth 100000 in
theorem lp_sX12_laysRow {p : Program} {l : Launch} {e : Env} {R : Room} {s : State} {m : MethodId} {args : Array Value} {below : List Frame} {meth : Method} {c : Code} {Q : State → Prop} {A : Nat → Prop} {cells slots : Nat} {dC : Nat → ClassId} {dI : Nat → Nat → Nat} (h0 : Nat) (mi : Nat → Int32) (mr : Nat → Nat) (km_verdict : ClassId) (fm_verdict : Nat → Int32) (km_row : ClassId) (fm_row : Nat → Int32) (km_struck : ClassId) (fm_struck : Nat → Int32) (km_reportKnown : ClassId) (fm_reportKnown : Nat → Int32) (km_reportPlace : ClassId) (fm_reportPlace : Nat → Int32) (km_reportMonth : ClassId) (fm_reportMonth : Nat → Int32) (km_reportDay : ClassId) (fm_reportDay : Nat → Int32) (km_reportKind : ClassId) (fm_reportKind : Nat → Int32) (km_trust : ClassId) (fm_trust : Nat → Int32) (km_letter : ClassId) (fm_letter : Nat → Int32) (p1 : Int32) (gmi_0 : gi (mi 0) 0 24) (gmi_1 : gi (mi 1) 0 5) (gmi_2 : gi (mi 2) 0 5) (gmi_4 : gi (mi 4) 0 1) (gmi_7 : gi (mi 7) 0 6) (gmi_10 : gi (mi 10) 0 24) (gmi_17 : gi (mi 17) 0 8) (gmi_23 : gi (mi 23) 0 300) (gmi_24 : gi (mi 24) 0 1) (gmi_26 : gi (mi 26) 0 1600) (gmi_29 : gi (mi 29) 0 1600) (gmi_30 : gi (mi 30) 0 1600) (gmi_33 : gi (mi 33) 0 1) (gmi_37 : gi (mi 37) 0 1) (gmi_41 : gi (mi 41) 0 24) (gmi_50 : gi (mi 50) 0 1) (gmi_51 : gi (mi 51) 0 1) (gmi_56 : gi (mi 56) 0 80) (gfm_row : ga fm_row 24 0 23) (gfm_struck : ga fm_struck 24 0 1) (gfm_reportKnown : ga fm_reportKnown 24 0 999) (gfm_reportPlace : ga fm_reportPlace 24 0 5) (gfm_reportMonth : ga fm_reportMonth 24 0 23) (gfm_reportDay : ga fm_reportDay 24 0 999) (hx : p.tables.exec = Jvm.exec) (hb : c.code = cX12_laysRow) (hml : c.maxLocals = 4) (hown : s.vm.findClass RX12 = some m.cls) (hts : ∀ w ∈ ((.code yX12_laysRow cX12_laysRow 4 none :: wsGB) : List Cond), w.before args s = true) (hK : va_K (dC, dI) vwCl [(km_verdict, .int), (km_row, .int), (km_struck, .boolean), (km_reportKnown, .int), (km_reportPlace, .int), (km_reportMonth, .int), (km_reportDay, .int), (km_reportKind, .int), (km_trust, .int), (km_letter, .int)] s) (hA : ∀ q : Nat, s.heap.size ≤ q → A q) (hRf : 2 ≤ R.frames) (hRl : 49 ≤ R.locals) (hRc : cells ≤ R.cells) (hRs : slots ≤ R.slots) (kr131 : ∀ (w0_41 : Int32) (z1 : Nat → Int32) (z2 : Nat → Int32) (H : Heap) (locs : List Loc) (ls : Array Slot), gi w0_41 0 24 → ga z2 24 0 23 → va_P (dC, dI) vwCl [(h0, .inr (12, fsMM (upd mi 41 w0_41) mr)), ((mr 18), .inl (km_verdict, 24, .inl z1)), ((mr 19), .inl (km_row, 24, .inl z2)), ((mr 4), .inl (km_struck, 24, .inl fm_struck)), ((mr 7), .inl (km_reportKnown, 24, .inl fm_reportKnown)), ((mr 2), .inl (km_reportPlace, 24, .inl fm_reportPlace)), ((mr 5), .inl (km_reportMonth, 24, .inl fm_reportMonth)), ((mr 6), .inl (km_reportDay, 24, .inl fm_reportDay)), ((mr 3), .inl (km_reportKind, 24, .inl fm_reportKind)), ((mr 0), .inl (km_trust, 6, .inl fm_trust)), ((mr 1), .inl (km_letter, 36, .inl fm_letter))] H → va_D A [(h0, .inr (12, fsMM (upd mi 41 w0_41) mr)), ((mr 18), .inl (km_verdict, 24, .inl z1)), ((mr 19), .inl (km_row, 24, .inl z2)), ((mr 4), .inl (km_struck, 24, .inl fm_struck)), ((mr 7), .inl (km_reportKnown, 24, .inl fm_reportKnown)), ((mr 2), .inl (km_reportPlace, 24, .inl fm_reportPlace)), ((mr 5), .inl (km_reportMonth, 24, .inl fm_reportMonth)), ((mr 6), .inl (km_reportDay, 24, .inl fm_reportDay)), ((mr 3), .inl (km_reportKind, 24, .inl fm_reportKind)), ((mr 0), .inl (km_trust, 6, .inl fm_trust)), ((mr 1), .inl (km_letter, 36, .inl fm_letter))] → va_S A s.heap H locs → lv_has ls 4 [] → W p l e R s m args below meth c H locs cells slots Q (F0 m 131 ls [])) : ∀ z : Nat, (∀ (v2 : Int32) (w0_41 : Int32) (z1 : Nat → Int32) (z2 : Nat → Int32) (H : Heap) (locs : List Loc) (ls : Array Slot), gi v2 0 24 → gi w0_41 0 24 → ga z2 24 0 23 → w0_41.toInt ≤ v2.toInt → 1249 + (-52) * v2.toInt < (z : Int) → va_P (dC, dI) vwCl [(h0, .inr (12, fsMM (upd mi 41 w0_41) mr)), ((mr 18), .inl (km_verdict, 24, .inl z1)), ((mr 19), .inl (km_row, 24, .inl z2)), ((mr 4), .inl (km_struck, 24, .inl fm_struck)), ((mr 7), .inl (km_reportKnown, 24, .inl fm_reportKnown)), ((mr 2), .inl (km_reportPlace, 24, .inl fm_reportPlace)), ((mr 5), .inl (km_reportMonth, 24, .inl fm_reportMonth)), ((mr 6), .inl (km_reportDay, 24, .inl fm_reportDay)), ((mr 3), .inl (km_reportKind, 24, .inl fm_reportKind)), ((mr 0), .inl (km_trust, 6, .inl fm_trust)), ((mr 1), .inl (km_letter, 36, .inl fm_letter))] H → va_D A [(h0, .inr (12, fsMM (upd mi 41 w0_41) mr)), ((mr 18), .inl (km_verdict, 24, .inl z1)), ((mr 19), .inl (km_row, 24, .inl z2)), ((mr 4), .inl (km_struck, 24, .inl fm_struck)), ((mr 7), .inl (km_reportKnown, 24, .inl fm_reportKnown)), ((mr 2), .inl (km_reportPlace, 24, .inl fm_reportPlace)), ((mr 5), .inl (km_reportMonth, 24, .inl fm_reportMonth)), ((mr 6), .inl (km_reportDay, 24, .inl fm_reportDay)), ((mr 3), .inl (km_reportKind, 24, .inl fm_reportKind)), ((mr 0), .inl (km_trust, 6, .inl fm_trust)), ((mr 1), .inl (km_letter, 36, .inl fm_letter))] → va_S A s.heap H locs → lv_has ls 4 [(0, .ref h0), (1, .int p1), (2, .int v2)] → W p l e R s m args below meth c H locs cells slots Q (F0 m 7 ls [])) ∧ (∀ (v2 : Int32) (v3 : Int32) (w0_41 : Int32) (z1 : Nat → Int32) (z2 : Nat → Int32) (H : Heap) (locs : List Loc) (ls : Array Slot), gi v2 0 23 → gi v3 0 23 → gi w0_41 0 24 → ga z2 24 0 23 → w0_41.toInt ≤ v2.toInt → 1198 + (-52) * v2.toInt + 2 * v3.toInt < (z : Int) → va_P (dC, dI) vwCl [(h0, .inr (12, fsMM (upd mi 41 w0_41) mr)), ((mr 18), .inl (km_verdict, 24, .inl z1)), ((mr 19), .inl (km_row, 24, .inl z2)), ((mr 4), .inl (km_struck, 24, .inl fm_struck)), ((mr 7), .inl (km_reportKnown, 24, .inl fm_reportKnown)), ((mr 2), .inl (km_reportPlace, 24, .inl fm_reportPlace)), ((mr 5), .inl (km_reportMonth, 24, .inl fm_reportMonth)), ((mr 6), .inl (km_reportDay, 24, .inl fm_reportDay)), ((mr 3), .inl (km_reportKind, 24, .inl fm_reportKind)), ((mr 0), .inl (km_trust, 6, .inl fm_trust)), ((mr 1), .inl (km_letter, 36, .inl fm_letter))] H → va_D A [(h0, .inr (12, fsMM (upd mi 41 w0_41) mr)), ((mr 18), .inl (km_verdict, 24, .inl z1)), ((mr 19), .inl (km_row, 24, .inl z2)), ((mr 4), .inl (km_struck, 24, .inl fm_struck)), ((mr 7), .inl (km_reportKnown, 24, .inl fm_reportKnown)), ((mr 2), .inl (km_reportPlace, 24, .inl fm_reportPlace)), ((mr 5), .inl (km_reportMonth, 24, .inl fm_reportMonth)), ((mr 6), .inl (km_reportDay, 24, .inl fm_reportDay)), ((mr 3), .inl (km_reportKind, 24, .inl fm_reportKind)), ((mr 0), .inl (km_trust, 6, .inl fm_trust)), ((mr 1), .inl (km_letter, 36, .inl fm_letter))] → va_S A s.heap H locs → lv_has ls 4 [(0, .ref h0), (1, .int p1), (2, .int v2), (3, .int v3)] → W p l e R s m args below meth c H locs cells slots Q (F0 m 68 ls [])) := by
  intro z
  induction z with
  | zero =>
    refine ⟨?_, ?_⟩
    · intro v2 w0_41 z1 z2 H locs ls gv2 gw0_41 gz2 hle_gw0_41_gv2 hmu hP hD hS hl
      exact absurd hmu (by have hv21 := gv2.1; have hv22 := gv2.2; omega)
    · intro v2 v3 w0_41 z1 z2 H locs ls gv2 gv3 gw0_41 gz2 hle_gw0_41_gv2 hmu hP hD hS hl
      exact absurd hmu (by have hv21 := gv2.1; have hv22 := gv2.2; have hv31 := gv3.1; have hv32 := gv3.2; omega)
  | succ z ih =>
    refine ⟨?_, ?_⟩
    · intro v2 w0_41 z1 z2 H locs ls gv2 gw0_41 gz2 hle_gw0_41_gv2 hmu hP hD hS hl
      refine lv_iload_n hx hb dX12_laysRow_7 rfl (lv_at hl 2 rfl) ?_
      refine lv_aload_n hx hb dX12_laysRow_8 rfl (lv_at hl 0 rfl) ?_
      refine va_get (D := (dC, dI)) (ci := 12) (v := .int (mi 10)) (C := RX12) (T := TX12) (N := 57) hx hb hts (fun w h => List.mem_cons_of_mem _ (jnGB_X12 w h)) hown hK hP 0 rfl rfl 10 (by decide) (hts _ (List.mem_cons_of_mem _ mGB_111)) (fun _ h9 => h9) rfl dX12_laysRow_9 ?_
      refine lv_icmp_ge (tgt := 131) hx hb dX12_laysRow_12 (by decide) (fun c_571 => ?_) (fun c_571 => ?_)
      · exact kr131 w0_41 z1 z2 _ _ _ gw0_41 gz2 hP hD hS (lv_sub hl [] rfl)
      · have g_572 : gi v2 0 23 := gi_lt_l (Int32.not_le.mp c_571) gv2 gmi_10 (by decide)
        have g_573 : gi w0_41 0 23 := gi_rel hle_gw0_41_gv2 gw0_41 g_572
        have g_574 : gi (mi 10) 1 24 := gi_lt_r (Int32.not_le.mp c_571) gv2 gmi_10 (by decide)
        refine lv_aload_n hx hb dX12_laysRow_15 rfl (lv_at hl 0 rfl) ?_
        refine va_get (D := (dC, dI)) (ci := 12) (v := .ref (mr 18)) (C := RX12) (T := TX12) (N := 57) hx hb hts (fun w h => List.mem_cons_of_mem _ (jnGB_X12 w h)) hown hK hP 0 rfl rfl 39 (by decide) (hts _ (List.mem_cons_of_mem _ mGB_30)) (fun _ h9 => h9) rfl dX12_laysRow_16 ?_
        refine lv_iload_n hx hb dX12_laysRow_19 rfl (lv_at hl 2 rfl) ?_
        refine lv_iconst (v := 3) hx hb dX12_laysRow_20 (by decide) ?_
        refine va_iast hx hb hK hP hD hS 1 0 rfl rfl (gi_in g_572 (by decide)) dX12_laysRow_21 (fun H locs hP hD hS => ?_)
        have hP : va_P (dC, dI) vwCl [(h0, .inr (12, fsMM (upd mi 41 w0_41) mr)), ((mr 18), .inl (km_verdict, 24, .inl (upd z1 (v2 : Int32).toNatClampNeg 3))), ((mr 19), .inl (km_row, 24, .inl z2)), ((mr 4), .inl (km_struck, 24, .inl fm_struck)), ((mr 7), .inl (km_reportKnown, 24, .inl fm_reportKnown)), ((mr 2), .inl (km_reportPlace, 24, .inl fm_reportPlace)), ((mr 5), .inl (km_reportMonth, 24, .inl fm_reportMonth)), ((mr 6), .inl (km_reportDay, 24, .inl fm_reportDay)), ((mr 3), .inl (km_reportKind, 24, .inl fm_reportKind)), ((mr 0), .inl (km_trust, 6, .inl fm_trust)), ((mr 1), .inl (km_letter, 36, .inl fm_letter))] H := hP
        have hD : va_D A [(h0, .inr (12, fsMM (upd mi 41 w0_41) mr)), ((mr 18), .inl (km_verdict, 24, .inl (upd z1 (v2 : Int32).toNatClampNeg 3))), ((mr 19), .inl (km_row, 24, .inl z2)), ((mr 4), .inl (km_struck, 24, .inl fm_struck)), ((mr 7), .inl (km_reportKnown, 24, .inl fm_reportKnown)), ((mr 2), .inl (km_reportPlace, 24, .inl fm_reportPlace)), ((mr 5), .inl (km_reportMonth, 24, .inl fm_reportMonth)), ((mr 6), .inl (km_reportDay, 24, .inl fm_reportDay)), ((mr 3), .inl (km_reportKind, 24, .inl fm_reportKind)), ((mr 0), .inl (km_trust, 6, .inl fm_trust)), ((mr 1), .inl (km_letter, 36, .inl fm_letter))] := hD
        generalize upd z1 (v2 : Int32).toNatClampNeg 3 = f_575 at hP hD
        refine lv_aload_n hx hb dX12_laysRow_22 rfl (lv_at hl 0 rfl) ?_
        refine lv_iload_n hx hb dX12_laysRow_23 rfl (lv_at hl 2 rfl) ?_
        refine lv_iload_n hx hb dX12_laysRow_24 rfl (lv_at hl 1 rfl) ?_
        have hPc := hP.sub (ws' := [(h0, .inr (12, fsMM (upd mi 41 w0_41) mr)), ((mr 4), .inl (km_struck, 24, .inl fm_struck)), ((mr 7), .inl (km_reportKnown, 24, .inl fm_reportKnown))]) [0, 3, 4] rfl
        have hKc := hK.sub (tys' := [(km_struck, .boolean), (km_reportKnown, .int)]) [2, 3] rfl
        refine va_calli (va_runV (As := [.int v2, .int p1]) (rest := []) ⟨hx, hb, hml, hown, hts⟩ (sX12_isKnown l dC dI h0 (upd mi 41 w0_41) mr km_struck fm_struck km_reportKnown fm_reportKnown v2 p1 gmi_0 gmi_1 gmi_2 gmi_4 gmi_7 (gi_w g_574 (by decide)) gmi_17 gmi_23 gmi_24 gmi_26 gmi_29 gmi_30 gmi_33 gmi_37 (gi_w g_573 (by decide)) gmi_50 gmi_51 gmi_56 gfm_struck gfm_reportKnown g_572) (cwV 2 hts (gz_gV mGB_279 mGB_280 mGB_281 mGB_1 mGB_282 goodGB) rfl rfl rfl (by decide +kernel) ⟨Nat.le_trans (Nat.le_of_ble_eq_true rfl) hRf, Nat.le_trans (Nat.le_of_ble_eq_true rfl) hRl⟩) ⟨fun a U g mk q => by obtain ⟨q0, qP, qK⟩ := q; exact ⟨q0, qP, va_K.moved (u := U) (U := U.calling g mk a) (Vm.Alike.refl U.vm) qK⟩, va_recv hKc hPc (ci := 12) (q0 := 0) rfl rfl, fun U hU hW => ⟨rfl, by rw [hU]; exact hPc, va_K.moved hW.alike hKc⟩⟩ rfl rfl hl.1 rfl (lv_room (Nat.le_of_ble_eq_true rfl)) dX12_laysRow_25 ⟨hRc, hRs⟩) hS (fun q _ h => h.elim) (fun q h => h.elim) (fun r_576 u t H1 locs ht hvm hw hB hz1 hk1 hS => ?_)
        have hP := gz_keep hP hk1
        generalize H1 = H at hP hS ⊢
        have gr_576 : gi r_576 0 1 := hw
        refine lv_if_eq (tgt := 125) hx hb dX12_laysRow_28 (by decide) (fun c_577 => ?_) (fun c_577 => ?_)
        · have g_578 : gi r_576 0 0 := gi_eq c_577 (gi_c 0 0 (by decide))
          obtain ⟨x_579, ex_579⟩ : ∃ y : Int32, y = v2 + 1 := ⟨_, rfl⟩
          have gx_579 : gi x_579 1 24 := gi_add ex_579 g_572 (gi_c 1 1 (by decide)) (by decide)
          refine lv_iinc (v := x_579) (lv' := [(2, .int x_579), (0, .ref h0), (1, .int p1)]) hx hb dX12_laysRow_125 hl (k := 2) rfl (by rw [ex_579]; rfl) (by decide) rfl (fun ls hl => ?_)
          refine lv_goto (tgt := 7) hx hb dX12_laysRow_128 (by decide) ?_
          exact ih.1 x_579 w0_41 f_575 z2 _ _ _ (gi_w gx_579 (by decide)) (gi_w g_573 (by decide)) gz2 (by have qgx_579 := gx_579.1; have rgx_579 := gx_579.2; have igx_579 : x_579.toInt = v2.toInt + 1 := (by have hc1 : (1 : Int32).toInt = 1 := (by decide); have h9 := gi_addI ex_579 (by have h1 := g_572.1; have h2 := (gi_c 1 1 (by decide)).1; have h3 := g_572.2; have h4 := (gi_c 1 1 (by decide)).2; omega) (by have h1 := g_572.1; have h2 := (gi_c 1 1 (by decide)).1; have h3 := g_572.2; have h4 := (gi_c 1 1 (by decide)).2; omega); rw [hc1] at h9; exact h9); have qgv2 := g_572.1; have rgv2 := g_572.2; have qgw0_41 := g_573.1; have rgw0_41 := g_573.2; have y1 := (Int32.lt_iff_toInt_lt.mp (Int32.not_le.mp c_571)); omega) (by have av2 := gv2.1; have bv2 := gv2.2; have qgx_579 := gx_579.1; have rgx_579 := gx_579.2; have igx_579 : x_579.toInt = v2.toInt + 1 := (by have hc1 : (1 : Int32).toInt = 1 := (by decide); have h9 := gi_addI ex_579 (by have h1 := g_572.1; have h2 := (gi_c 1 1 (by decide)).1; have h3 := g_572.2; have h4 := (gi_c 1 1 (by decide)).2; omega) (by have h1 := g_572.1; have h2 := (gi_c 1 1 (by decide)).1; have h3 := g_572.2; have h4 := (gi_c 1 1 (by decide)).2; omega); rw [hc1] at h9; exact h9); have qgv2 := g_572.1; have rgv2 := g_572.2; omega) hP hD hS (lv_sub hl [1, 2, 0] rfl)
        · have g_580 : gi r_576 1 1 := gi_ne_lo c_577 gr_576 (gi_c 0 0 (by decide)) (by decide)
          refine lv_iload_n hx hb dX12_laysRow_31 rfl (lv_at hl 2 rfl) ?_
          refine lv_aload_n hx hb dX12_laysRow_32 rfl (lv_at hl 0 rfl) ?_
          refine va_get (D := (dC, dI)) (ci := 12) (v := .int (mi 43)) (C := RX12) (T := TX12) (N := 57) hx hb hts (fun w h => List.mem_cons_of_mem _ (jnGB_X12 w h)) hown hK hP 0 rfl rfl 43 (by decide) (hts _ (List.mem_cons_of_mem _ mGB_33)) (fun _ h9 => h9) rfl dX12_laysRow_33 ?_
          refine lv_icmp_eq (tgt := 125) hx hb dX12_laysRow_36 (by decide) (fun c_581 => ?_) (fun c_581 => ?_)
          · have g_582 : gi (mi 43) 0 23 := gi_eq c_581.symm g_572
            obtain ⟨x_583, ex_583⟩ : ∃ y : Int32, y = v2 + 1 := ⟨_, rfl⟩
            have gx_583 : gi x_583 1 24 := gi_add ex_583 g_572 (gi_c 1 1 (by decide)) (by decide)
            refine lv_iinc (v := x_583) (lv' := [(2, .int x_583), (0, .ref h0), (1, .int p1)]) hx hb dX12_laysRow_125 hl (k := 2) rfl (by rw [ex_583]; rfl) (by decide) rfl (fun ls hl => ?_)
            refine lv_goto (tgt := 7) hx hb dX12_laysRow_128 (by decide) ?_
            exact ih.1 x_583 w0_41 f_575 z2 _ _ _ (gi_w gx_583 (by decide)) (gi_w g_573 (by decide)) gz2 (by have qgx_583 := gx_583.1; have rgx_583 := gx_583.2; have igx_583 : x_583.toInt = v2.toInt + 1 := (by have hc1 : (1 : Int32).toInt = 1 := (by decide); have h9 := gi_addI ex_583 (by have h1 := g_572.1; have h2 := (gi_c 1 1 (by decide)).1; have h3 := g_572.2; have h4 := (gi_c 1 1 (by decide)).2; omega) (by have h1 := g_572.1; have h2 := (gi_c 1 1 (by decide)).1; have h3 := g_572.2; have h4 := (gi_c 1 1 (by decide)).2; omega); rw [hc1] at h9; exact h9); have qgv2 := g_572.1; have rgv2 := g_572.2; have qgw0_41 := g_573.1; have rgw0_41 := g_573.2; have y1 := (Int32.lt_iff_toInt_lt.mp (Int32.not_le.mp c_571)); omega) (by have av2 := gv2.1; have bv2 := gv2.2; have qgx_583 := gx_583.1; have rgx_583 := gx_583.2; have igx_583 : x_583.toInt = v2.toInt + 1 := (by have hc1 : (1 : Int32).toInt = 1 := (by decide); have h9 := gi_addI ex_583 (by have h1 := g_572.1; have h2 := (gi_c 1 1 (by decide)).1; have h3 := g_572.2; have h4 := (gi_c 1 1 (by decide)).2; omega) (by have h1 := g_572.1; have h2 := (gi_c 1 1 (by decide)).1; have h3 := g_572.2; have h4 := (gi_c 1 1 (by decide)).2; omega); rw [hc1] at h9; exact h9); have qgv2 := g_572.1; have rgv2 := g_572.2; omega) hP hD hS (lv_sub hl [1, 2, 0] rfl)
          · refine lv_aload_n hx hb dX12_laysRow_39 rfl (lv_at hl 0 rfl) ?_
            refine va_get (D := (dC, dI)) (ci := 12) (v := .int (mi 42)) (C := RX12) (T := TX12) (N := 57) hx hb hts (fun w h => List.mem_cons_of_mem _ (jnGB_X12 w h)) hown hK hP 0 rfl rfl 42 (by decide) (hts _ (List.mem_cons_of_mem _ mGB_32)) (fun _ h9 => h9) rfl dX12_laysRow_40 ?_
            refine lv_iconst (v := (-1)) hx hb dX12_laysRow_43 (by decide) ?_
            refine lv_icmp_eq (tgt := 63) hx hb dX12_laysRow_44 (by decide) (fun c_584 => ?_) (fun c_584 => ?_)
            · have g_585 : gi (mi 42) (-1) (-1) := gi_eq c_584 (gi_c (-1) (-1) (by decide))
              refine lv_aload_n hx hb dX12_laysRow_63 rfl (lv_at hl 0 rfl) ?_
              refine va_get (D := (dC, dI)) (ci := 12) (v := .int w0_41) (C := RX12) (T := TX12) (N := 57) hx hb hts (fun w h => List.mem_cons_of_mem _ (jnGB_X12 w h)) hown hK hP 0 rfl rfl 41 (by decide) (hts _ (List.mem_cons_of_mem _ mGB_265)) (fun _ h9 => h9) rfl dX12_laysRow_64 ?_
              refine lv_istore_n (lv' := [(3, .int w0_41), (0, .ref h0), (1, .int p1), (2, .int v2)]) hx hb dX12_laysRow_67 rfl hl (by decide) rfl (fun ls hl => ?_)
              exact ih.2 v2 w0_41 w0_41 f_575 z2 _ _ _ g_572 g_573 (gi_w g_573 (by decide)) gz2 (by have qgv2 := g_572.1; have rgv2 := g_572.2; have qgw0_41 := g_573.1; have rgw0_41 := g_573.2; have y1 := (Int32.lt_iff_toInt_lt.mp (Int32.not_le.mp c_571)); omega) (by have av2 := gv2.1; have bv2 := gv2.2; have qgw0_41 := g_573.1; have rgw0_41 := g_573.2; have qgv2 := g_572.1; have rgv2 := g_572.2; omega) hP hD hS (lv_sub hl [1, 2, 3, 0] rfl)
            · refine lv_aload_n hx hb dX12_laysRow_47 rfl (lv_at hl 0 rfl) ?_
              refine va_get (D := (dC, dI)) (ci := 12) (v := .ref (mr 2)) (C := RX12) (T := TX12) (N := 57) hx hb hts (fun w h => List.mem_cons_of_mem _ (jnGB_X12 w h)) hown hK hP 0 rfl rfl 11 (by decide) (hts _ (List.mem_cons_of_mem _ mGB_12)) (fun _ h9 => h9) rfl dX12_laysRow_48 ?_
              refine lv_iload_n hx hb dX12_laysRow_51 rfl (lv_at hl 2 rfl) ?_
              refine va_iald hx hb hK hP 5 4 rfl rfl (gi_in g_572 (by decide)) dX12_laysRow_52 ?_
              refine lv_topi (fun x_586 ex_586 => ?_)
              have gx_586 : gi x_586 0 5 := ga_at gfm_reportPlace (gi_in g_572 (by decide)) ex_586
              refine lv_aload_n hx hb dX12_laysRow_53 rfl (lv_at hl 0 rfl) ?_
              refine va_get (D := (dC, dI)) (ci := 12) (v := .int (mi 42)) (C := RX12) (T := TX12) (N := 57) hx hb hts (fun w h => List.mem_cons_of_mem _ (jnGB_X12 w h)) hown hK hP 0 rfl rfl 42 (by decide) (hts _ (List.mem_cons_of_mem _ mGB_32)) (fun _ h9 => h9) rfl dX12_laysRow_54 ?_
              refine lv_icmp_eq (tgt := 63) hx hb dX12_laysRow_57 (by decide) (fun c_587 => ?_) (fun c_587 => ?_)
              · have g_588 : gi (mi 42) 0 5 := gi_eq c_587.symm gx_586
                refine lv_aload_n hx hb dX12_laysRow_63 rfl (lv_at hl 0 rfl) ?_
                refine va_get (D := (dC, dI)) (ci := 12) (v := .int w0_41) (C := RX12) (T := TX12) (N := 57) hx hb hts (fun w h => List.mem_cons_of_mem _ (jnGB_X12 w h)) hown hK hP 0 rfl rfl 41 (by decide) (hts _ (List.mem_cons_of_mem _ mGB_265)) (fun _ h9 => h9) rfl dX12_laysRow_64 ?_
                refine lv_istore_n (lv' := [(3, .int w0_41), (0, .ref h0), (1, .int p1), (2, .int v2)]) hx hb dX12_laysRow_67 rfl hl (by decide) rfl (fun ls hl => ?_)
                exact ih.2 v2 w0_41 w0_41 f_575 z2 _ _ _ g_572 g_573 (gi_w g_573 (by decide)) gz2 (by have qgv2 := g_572.1; have rgv2 := g_572.2; have qgw0_41 := g_573.1; have rgw0_41 := g_573.2; have y1 := (Int32.lt_iff_toInt_lt.mp (Int32.not_le.mp c_571)); omega) (by have av2 := gv2.1; have bv2 := gv2.2; have qgw0_41 := g_573.1; have rgw0_41 := g_573.2; have qgv2 := g_572.1; have rgv2 := g_572.2; omega) hP hD hS (lv_sub hl [1, 2, 3, 0] rfl)
              · refine lv_goto (tgt := 125) hx hb dX12_laysRow_60 (by decide) ?_
                obtain ⟨x_589, ex_589⟩ : ∃ y : Int32, y = v2 + 1 := ⟨_, rfl⟩
                have gx_589 : gi x_589 1 24 := gi_add ex_589 g_572 (gi_c 1 1 (by decide)) (by decide)
                refine lv_iinc (v := x_589) (lv' := [(2, .int x_589), (0, .ref h0), (1, .int p1)]) hx hb dX12_laysRow_125 hl (k := 2) rfl (by rw [ex_589]; rfl) (by decide) rfl (fun ls hl => ?_)
                refine lv_goto (tgt := 7) hx hb dX12_laysRow_128 (by decide) ?_
                exact ih.1 x_589 w0_41 f_575 z2 _ _ _ (gi_w gx_589 (by decide)) (gi_w g_573 (by decide)) gz2 (by have qgx_589 := gx_589.1; have rgx_589 := gx_589.2; have igx_589 : x_589.toInt = v2.toInt + 1 := (by have hc1 : (1 : Int32).toInt = 1 := (by decide); have h9 := gi_addI ex_589 (by have h1 := g_572.1; have h2 := (gi_c 1 1 (by decide)).1; have h3 := g_572.2; have h4 := (gi_c 1 1 (by decide)).2; omega) (by have h1 := g_572.1; have h2 := (gi_c 1 1 (by decide)).1; have h3 := g_572.2; have h4 := (gi_c 1 1 (by decide)).2; omega); rw [hc1] at h9; exact h9); have qgv2 := g_572.1; have rgv2 := g_572.2; have qgw0_41 := g_573.1; have rgw0_41 := g_573.2; have y1 := (Int32.lt_iff_toInt_lt.mp (Int32.not_le.mp c_571)); omega) (by have av2 := gv2.1; have bv2 := gv2.2; have qgx_589 := gx_589.1; have rgx_589 := gx_589.2; have igx_589 : x_589.toInt = v2.toInt + 1 := (by have hc1 : (1 : Int32).toInt = 1 := (by decide); have h9 := gi_addI ex_589 (by have h1 := g_572.1; have h2 := (gi_c 1 1 (by decide)).1; have h3 := g_572.2; have h4 := (gi_c 1 1 (by decide)).2; omega) (by have h1 := g_572.1; have h2 := (gi_c 1 1 (by decide)).1; have h3 := g_572.2; have h4 := (gi_c 1 1 (by decide)).2; omega); rw [hc1] at h9; exact h9); have qgv2 := g_572.1; have rgv2 := g_572.2; omega) hP hD hS (lv_sub hl [1, 2, 0] rfl)
    · intro v2 v3 w0_41 z1 z2 H locs ls gv2 gv3 gw0_41 gz2 hle_gw0_41_gv2 hmu hP hD hS hl
      have g_590 : gi w0_41 0 23 := gi_rel hle_gw0_41_gv2 gw0_41 gv2
      refine lv_iload_n hx hb dX12_laysRow_68 rfl (lv_at hl 3 rfl) ?_
      refine lv_if_le (tgt := 108) hx hb dX12_laysRow_69 (by decide) (fun c_591 => ?_) (fun c_591 => ?_)
      · have g_592 : gi v3 0 0 := gi_le_l c_591 gv3 (gi_c 0 0 (by decide))
        refine lv_aload_n hx hb dX12_laysRow_108 rfl (lv_at hl 0 rfl) ?_
        refine va_get (D := (dC, dI)) (ci := 12) (v := .ref (mr 19)) (C := RX12) (T := TX12) (N := 57) hx hb hts (fun w h => List.mem_cons_of_mem _ (jnGB_X12 w h)) hown hK hP 0 rfl rfl 40 (by decide) (hts _ (List.mem_cons_of_mem _ mGB_31)) (fun _ h9 => h9) rfl dX12_laysRow_109 ?_
        refine lv_iload_n hx hb dX12_laysRow_112 rfl (lv_at hl 3 rfl) ?_
        refine lv_iload_n hx hb dX12_laysRow_113 rfl (lv_at hl 2 rfl) ?_
        refine va_iast hx hb hK hP hD hS 2 1 rfl rfl (gi_in g_592 (by decide)) dX12_laysRow_114 (fun H locs hP hD hS => ?_)
        have hP : va_P (dC, dI) vwCl [(h0, .inr (12, fsMM (upd mi 41 w0_41) mr)), ((mr 18), .inl (km_verdict, 24, .inl z1)), ((mr 19), .inl (km_row, 24, .inl (upd z2 (v3 : Int32).toNatClampNeg v2))), ((mr 4), .inl (km_struck, 24, .inl fm_struck)), ((mr 7), .inl (km_reportKnown, 24, .inl fm_reportKnown)), ((mr 2), .inl (km_reportPlace, 24, .inl fm_reportPlace)), ((mr 5), .inl (km_reportMonth, 24, .inl fm_reportMonth)), ((mr 6), .inl (km_reportDay, 24, .inl fm_reportDay)), ((mr 3), .inl (km_reportKind, 24, .inl fm_reportKind)), ((mr 0), .inl (km_trust, 6, .inl fm_trust)), ((mr 1), .inl (km_letter, 36, .inl fm_letter))] H := hP
        have hD : va_D A [(h0, .inr (12, fsMM (upd mi 41 w0_41) mr)), ((mr 18), .inl (km_verdict, 24, .inl z1)), ((mr 19), .inl (km_row, 24, .inl (upd z2 (v3 : Int32).toNatClampNeg v2))), ((mr 4), .inl (km_struck, 24, .inl fm_struck)), ((mr 7), .inl (km_reportKnown, 24, .inl fm_reportKnown)), ((mr 2), .inl (km_reportPlace, 24, .inl fm_reportPlace)), ((mr 5), .inl (km_reportMonth, 24, .inl fm_reportMonth)), ((mr 6), .inl (km_reportDay, 24, .inl fm_reportDay)), ((mr 3), .inl (km_reportKind, 24, .inl fm_reportKind)), ((mr 0), .inl (km_trust, 6, .inl fm_trust)), ((mr 1), .inl (km_letter, 36, .inl fm_letter))] := hD
        have gf_593 : ga (upd z2 (v3 : Int32).toNatClampNeg v2) 24 0 23 := ga_upd gz2 gv2
        generalize upd z2 (v3 : Int32).toNatClampNeg v2 = f_593 at hP hD gf_593
        refine lv_aload_n hx hb dX12_laysRow_115 rfl (lv_at hl 0 rfl) ?_
        refine lv_dup hx hb dX12_laysRow_116 rfl ?_
        refine va_get (D := (dC, dI)) (ci := 12) (v := .int w0_41) (C := RX12) (T := TX12) (N := 57) hx hb hts (fun w h => List.mem_cons_of_mem _ (jnGB_X12 w h)) hown hK hP 0 rfl rfl 41 (by decide) (hts _ (List.mem_cons_of_mem _ mGB_265)) (fun _ h9 => h9) rfl dX12_laysRow_117 ?_
        refine lv_iconst (v := 1) hx hb dX12_laysRow_120 (by decide) ?_
        refine lv_iadd hx hb dX12_laysRow_121 ?_
        refine lv_topi (fun x_594 ex_594 => ?_)
        have gx_594 : gi x_594 1 24 := gi_add ex_594 g_590 (gi_c 1 1 (by decide)) (by decide)
        refine va_put (D := (dC, dI)) (ci := 12) (v := .int x_594) (ty := .int) (C := RX12) (T := TX12) (N := 57) hx hb hts (fun w h => List.mem_cons_of_mem _ (jnGB_X12 w h)) tyX12 tyX12_ok nmX12 hown hK hP hD hS 0 rfl rfl 41 (by decide) (hts _ (List.mem_cons_of_mem _ mGB_265)) (fun _ h9 => h9) rfl (by decide +kernel) rfl rfl (Nat.le_of_ble_eq_true rfl) dX12_laysRow_122 (fun H locs hP hD hS => ?_)
        have hP : va_P (dC, dI) vwCl [(h0, .inr (12, fsMM (upd mi 41 x_594) mr)), ((mr 18), .inl (km_verdict, 24, .inl z1)), ((mr 19), .inl (km_row, 24, .inl f_593)), ((mr 4), .inl (km_struck, 24, .inl fm_struck)), ((mr 7), .inl (km_reportKnown, 24, .inl fm_reportKnown)), ((mr 2), .inl (km_reportPlace, 24, .inl fm_reportPlace)), ((mr 5), .inl (km_reportMonth, 24, .inl fm_reportMonth)), ((mr 6), .inl (km_reportDay, 24, .inl fm_reportDay)), ((mr 3), .inl (km_reportKind, 24, .inl fm_reportKind)), ((mr 0), .inl (km_trust, 6, .inl fm_trust)), ((mr 1), .inl (km_letter, 36, .inl fm_letter))] H := hP
        have hD : va_D A [(h0, .inr (12, fsMM (upd mi 41 x_594) mr)), ((mr 18), .inl (km_verdict, 24, .inl z1)), ((mr 19), .inl (km_row, 24, .inl f_593)), ((mr 4), .inl (km_struck, 24, .inl fm_struck)), ((mr 7), .inl (km_reportKnown, 24, .inl fm_reportKnown)), ((mr 2), .inl (km_reportPlace, 24, .inl fm_reportPlace)), ((mr 5), .inl (km_reportMonth, 24, .inl fm_reportMonth)), ((mr 6), .inl (km_reportDay, 24, .inl fm_reportDay)), ((mr 3), .inl (km_reportKind, 24, .inl fm_reportKind)), ((mr 0), .inl (km_trust, 6, .inl fm_trust)), ((mr 1), .inl (km_letter, 36, .inl fm_letter))] := hD
        obtain ⟨x_595, ex_595⟩ : ∃ y : Int32, y = v2 + 1 := ⟨_, rfl⟩
        have gx_595 : gi x_595 1 24 := gi_add ex_595 gv2 (gi_c 1 1 (by decide)) (by decide)
        refine lv_iinc (v := x_595) (lv' := [(2, .int x_595), (0, .ref h0), (1, .int p1), (3, .int v3)]) hx hb dX12_laysRow_125 hl (k := 2) rfl (by rw [ex_595]; rfl) (by decide) rfl (fun ls hl => ?_)
        refine lv_goto (tgt := 7) hx hb dX12_laysRow_128 (by decide) ?_
        exact ih.1 x_595 x_594 z1 f_593 _ _ _ (gi_w gx_595 (by decide)) (gi_w gx_594 (by decide)) gf_593 (by have qgx_595 := gx_595.1; have rgx_595 := gx_595.2; have igx_595 : x_595.toInt = v2.toInt + 1 := (by have hc1 : (1 : Int32).toInt = 1 := (by decide); have h9 := gi_addI ex_595 (by have h1 := gv2.1; have h2 := (gi_c 1 1 (by decide)).1; have h3 := gv2.2; have h4 := (gi_c 1 1 (by decide)).2; omega) (by have h1 := gv2.1; have h2 := (gi_c 1 1 (by decide)).1; have h3 := gv2.2; have h4 := (gi_c 1 1 (by decide)).2; omega); rw [hc1] at h9; exact h9); have qgv2 := gv2.1; have rgv2 := gv2.2; have qgx_594 := gx_594.1; have rgx_594 := gx_594.2; have igx_594 : x_594.toInt = w0_41.toInt + 1 := (by have hc1 : (1 : Int32).toInt = 1 := (by decide); have h9 := gi_addI ex_594 (by have h1 := g_590.1; have h2 := (gi_c 1 1 (by decide)).1; have h3 := g_590.2; have h4 := (gi_c 1 1 (by decide)).2; omega) (by have h1 := g_590.1; have h2 := (gi_c 1 1 (by decide)).1; have h3 := g_590.2; have h4 := (gi_c 1 1 (by decide)).2; omega); rw [hc1] at h9; exact h9); have qgw0_41 := g_590.1; have rgw0_41 := g_590.2; omega) (by have av2 := gv2.1; have bv2 := gv2.2; have av3 := gv3.1; have bv3 := gv3.2; have qgx_595 := gx_595.1; have rgx_595 := gx_595.2; have igx_595 : x_595.toInt = v2.toInt + 1 := (by have hc1 : (1 : Int32).toInt = 1 := (by decide); have h9 := gi_addI ex_595 (by have h1 := gv2.1; have h2 := (gi_c 1 1 (by decide)).1; have h3 := gv2.2; have h4 := (gi_c 1 1 (by decide)).2; omega) (by have h1 := gv2.1; have h2 := (gi_c 1 1 (by decide)).1; have h3 := gv2.2; have h4 := (gi_c 1 1 (by decide)).2; omega); rw [hc1] at h9; exact h9); have qgv2 := gv2.1; have rgv2 := gv2.2; omega) hP hD hS (lv_sub hl [1, 2, 0] rfl)
      · have g_596 : gi v3 1 23 := gi_lt_r (Int32.not_le.mp c_591) (gi_c 0 0 (by decide)) gv3 (by decide)
        refine lv_aload_n hx hb dX12_laysRow_72 rfl (lv_at hl 0 rfl) ?_
        refine lv_iload_n hx hb dX12_laysRow_73 rfl (lv_at hl 2 rfl) ?_
        refine lv_aload_n hx hb dX12_laysRow_74 rfl (lv_at hl 0 rfl) ?_
        refine va_get (D := (dC, dI)) (ci := 12) (v := .ref (mr 19)) (C := RX12) (T := TX12) (N := 57) hx hb hts (fun w h => List.mem_cons_of_mem _ (jnGB_X12 w h)) hown hK hP 0 rfl rfl 40 (by decide) (hts _ (List.mem_cons_of_mem _ mGB_31)) (fun _ h9 => h9) rfl dX12_laysRow_75 ?_
        refine lv_iload_n hx hb dX12_laysRow_78 rfl (lv_at hl 3 rfl) ?_
        refine lv_iconst (v := 1) hx hb dX12_laysRow_79 (by decide) ?_
        refine lv_isub hx hb dX12_laysRow_80 ?_
        refine lv_topi (fun x_597 ex_597 => ?_)
        have gx_597 : gi x_597 0 22 := gi_sub ex_597 g_596 (gi_c 1 1 (by decide)) (by decide)
        refine va_iald hx hb hK hP 2 1 rfl rfl (gi_in gx_597 (by decide)) dX12_laysRow_81 ?_
        refine lv_topi (fun x_598 ex_598 => ?_)
        have gx_598 : gi x_598 0 23 := ga_at gz2 (gi_in gx_597 (by decide)) ex_598
        have hPc := hP.sub (ws' := [(h0, .inr (12, fsMM (upd mi 41 w0_41) mr)), ((mr 2), .inl (km_reportPlace, 24, .inl fm_reportPlace)), ((mr 5), .inl (km_reportMonth, 24, .inl fm_reportMonth)), ((mr 6), .inl (km_reportDay, 24, .inl fm_reportDay)), ((mr 3), .inl (km_reportKind, 24, .inl fm_reportKind)), ((mr 0), .inl (km_trust, 6, .inl fm_trust)), ((mr 1), .inl (km_letter, 36, .inl fm_letter))]) [0, 5, 6, 7, 8, 9, 10] rfl
        have hKc := hK.sub (tys' := [(km_reportPlace, .int), (km_reportMonth, .int), (km_reportDay, .int), (km_reportKind, .int), (km_trust, .int), (km_letter, .int)]) [4, 5, 6, 7, 8, 9] rfl
        refine va_calli (va_runV (As := [.int v2, .int x_598]) (rest := []) ⟨hx, hb, hml, hown, hts⟩ (sX12_isAhead l dC dI h0 (upd mi 41 w0_41) mr km_reportPlace fm_reportPlace km_reportMonth fm_reportMonth km_reportDay fm_reportDay km_reportKind fm_reportKind km_trust fm_trust km_letter fm_letter v2 x_598 gmi_0 gmi_1 gmi_2 gmi_4 gmi_7 gmi_10 gmi_17 gmi_23 gmi_24 gmi_26 gmi_29 gmi_30 gmi_33 gmi_37 (gi_w g_590 (by decide)) gmi_50 gmi_51 gmi_56 gfm_reportPlace gfm_reportMonth gfm_reportDay gv2 gx_598) (cwV 2 hts (gz_gV mGB_283 mGB_284 mGB_285 mGB_1 mGB_286 goodGB) rfl rfl rfl (by decide +kernel) ⟨Nat.le_trans (Nat.le_of_ble_eq_true rfl) hRf, Nat.le_trans (Nat.le_of_ble_eq_true rfl) hRl⟩) ⟨fun a U g mk q => by obtain ⟨q0, qP, qK⟩ := q; exact ⟨q0, qP, va_K.moved (u := U) (U := U.calling g mk a) (Vm.Alike.refl U.vm) qK⟩, va_recv hKc hPc (ci := 12) (q0 := 0) rfl rfl, fun U hU hW => ⟨rfl, by rw [hU]; exact hPc, va_K.moved hW.alike hKc⟩⟩ rfl rfl hl.1 rfl (lv_room (Nat.le_of_ble_eq_true rfl)) dX12_laysRow_82 ⟨hRc, hRs⟩) hS (fun q _ h => h.elim) (fun q h => h.elim) (fun r_599 u t H1 locs ht hvm hw hB hz1 hk1 hS => ?_)
        have hP := gz_keep hP hk1
        generalize H1 = H at hP hS ⊢
        have gr_599 : gi r_599 0 1 := hw
        refine lv_if_eq (tgt := 108) hx hb dX12_laysRow_85 (by decide) (fun c_600 => ?_) (fun c_600 => ?_)
        · have g_601 : gi r_599 0 0 := gi_eq c_600 (gi_c 0 0 (by decide))
          refine lv_aload_n hx hb dX12_laysRow_108 rfl (lv_at hl 0 rfl) ?_
          refine va_get (D := (dC, dI)) (ci := 12) (v := .ref (mr 19)) (C := RX12) (T := TX12) (N := 57) hx hb hts (fun w h => List.mem_cons_of_mem _ (jnGB_X12 w h)) hown hK hP 0 rfl rfl 40 (by decide) (hts _ (List.mem_cons_of_mem _ mGB_31)) (fun _ h9 => h9) rfl dX12_laysRow_109 ?_
          refine lv_iload_n hx hb dX12_laysRow_112 rfl (lv_at hl 3 rfl) ?_
          refine lv_iload_n hx hb dX12_laysRow_113 rfl (lv_at hl 2 rfl) ?_
          refine va_iast hx hb hK hP hD hS 2 1 rfl rfl (gi_in g_596 (by decide)) dX12_laysRow_114 (fun H locs hP hD hS => ?_)
          have hP : va_P (dC, dI) vwCl [(h0, .inr (12, fsMM (upd mi 41 w0_41) mr)), ((mr 18), .inl (km_verdict, 24, .inl z1)), ((mr 19), .inl (km_row, 24, .inl (upd z2 (v3 : Int32).toNatClampNeg v2))), ((mr 4), .inl (km_struck, 24, .inl fm_struck)), ((mr 7), .inl (km_reportKnown, 24, .inl fm_reportKnown)), ((mr 2), .inl (km_reportPlace, 24, .inl fm_reportPlace)), ((mr 5), .inl (km_reportMonth, 24, .inl fm_reportMonth)), ((mr 6), .inl (km_reportDay, 24, .inl fm_reportDay)), ((mr 3), .inl (km_reportKind, 24, .inl fm_reportKind)), ((mr 0), .inl (km_trust, 6, .inl fm_trust)), ((mr 1), .inl (km_letter, 36, .inl fm_letter))] H := hP
          have hD : va_D A [(h0, .inr (12, fsMM (upd mi 41 w0_41) mr)), ((mr 18), .inl (km_verdict, 24, .inl z1)), ((mr 19), .inl (km_row, 24, .inl (upd z2 (v3 : Int32).toNatClampNeg v2))), ((mr 4), .inl (km_struck, 24, .inl fm_struck)), ((mr 7), .inl (km_reportKnown, 24, .inl fm_reportKnown)), ((mr 2), .inl (km_reportPlace, 24, .inl fm_reportPlace)), ((mr 5), .inl (km_reportMonth, 24, .inl fm_reportMonth)), ((mr 6), .inl (km_reportDay, 24, .inl fm_reportDay)), ((mr 3), .inl (km_reportKind, 24, .inl fm_reportKind)), ((mr 0), .inl (km_trust, 6, .inl fm_trust)), ((mr 1), .inl (km_letter, 36, .inl fm_letter))] := hD
          have gf_602 : ga (upd z2 (v3 : Int32).toNatClampNeg v2) 24 0 23 := ga_upd gz2 gv2
          generalize upd z2 (v3 : Int32).toNatClampNeg v2 = f_602 at hP hD gf_602
          refine lv_aload_n hx hb dX12_laysRow_115 rfl (lv_at hl 0 rfl) ?_
          refine lv_dup hx hb dX12_laysRow_116 rfl ?_
          refine va_get (D := (dC, dI)) (ci := 12) (v := .int w0_41) (C := RX12) (T := TX12) (N := 57) hx hb hts (fun w h => List.mem_cons_of_mem _ (jnGB_X12 w h)) hown hK hP 0 rfl rfl 41 (by decide) (hts _ (List.mem_cons_of_mem _ mGB_265)) (fun _ h9 => h9) rfl dX12_laysRow_117 ?_
          refine lv_iconst (v := 1) hx hb dX12_laysRow_120 (by decide) ?_
          refine lv_iadd hx hb dX12_laysRow_121 ?_
          refine lv_topi (fun x_603 ex_603 => ?_)
          have gx_603 : gi x_603 1 24 := gi_add ex_603 g_590 (gi_c 1 1 (by decide)) (by decide)
          refine va_put (D := (dC, dI)) (ci := 12) (v := .int x_603) (ty := .int) (C := RX12) (T := TX12) (N := 57) hx hb hts (fun w h => List.mem_cons_of_mem _ (jnGB_X12 w h)) tyX12 tyX12_ok nmX12 hown hK hP hD hS 0 rfl rfl 41 (by decide) (hts _ (List.mem_cons_of_mem _ mGB_265)) (fun _ h9 => h9) rfl (by decide +kernel) rfl rfl (Nat.le_of_ble_eq_true rfl) dX12_laysRow_122 (fun H locs hP hD hS => ?_)
          have hP : va_P (dC, dI) vwCl [(h0, .inr (12, fsMM (upd mi 41 x_603) mr)), ((mr 18), .inl (km_verdict, 24, .inl z1)), ((mr 19), .inl (km_row, 24, .inl f_602)), ((mr 4), .inl (km_struck, 24, .inl fm_struck)), ((mr 7), .inl (km_reportKnown, 24, .inl fm_reportKnown)), ((mr 2), .inl (km_reportPlace, 24, .inl fm_reportPlace)), ((mr 5), .inl (km_reportMonth, 24, .inl fm_reportMonth)), ((mr 6), .inl (km_reportDay, 24, .inl fm_reportDay)), ((mr 3), .inl (km_reportKind, 24, .inl fm_reportKind)), ((mr 0), .inl (km_trust, 6, .inl fm_trust)), ((mr 1), .inl (km_letter, 36, .inl fm_letter))] H := hP
          have hD : va_D A [(h0, .inr (12, fsMM (upd mi 41 x_603) mr)), ((mr 18), .inl (km_verdict, 24, .inl z1)), ((mr 19), .inl (km_row, 24, .inl f_602)), ((mr 4), .inl (km_struck, 24, .inl fm_struck)), ((mr 7), .inl (km_reportKnown, 24, .inl fm_reportKnown)), ((mr 2), .inl (km_reportPlace, 24, .inl fm_reportPlace)), ((mr 5), .inl (km_reportMonth, 24, .inl fm_reportMonth)), ((mr 6), .inl (km_reportDay, 24, .inl fm_reportDay)), ((mr 3), .inl (km_reportKind, 24, .inl fm_reportKind)), ((mr 0), .inl (km_trust, 6, .inl fm_trust)), ((mr 1), .inl (km_letter, 36, .inl fm_letter))] := hD
          obtain ⟨x_604, ex_604⟩ : ∃ y : Int32, y = v2 + 1 := ⟨_, rfl⟩
          have gx_604 : gi x_604 1 24 := gi_add ex_604 gv2 (gi_c 1 1 (by decide)) (by decide)
          refine lv_iinc (v := x_604) (lv' := [(2, .int x_604), (0, .ref h0), (1, .int p1), (3, .int v3)]) hx hb dX12_laysRow_125 hl (k := 2) rfl (by rw [ex_604]; rfl) (by decide) rfl (fun ls hl => ?_)
          refine lv_goto (tgt := 7) hx hb dX12_laysRow_128 (by decide) ?_
          exact ih.1 x_604 x_603 z1 f_602 _ _ _ (gi_w gx_604 (by decide)) (gi_w gx_603 (by decide)) gf_602 (by have qgx_604 := gx_604.1; have rgx_604 := gx_604.2; have igx_604 : x_604.toInt = v2.toInt + 1 := (by have hc1 : (1 : Int32).toInt = 1 := (by decide); have h9 := gi_addI ex_604 (by have h1 := gv2.1; have h2 := (gi_c 1 1 (by decide)).1; have h3 := gv2.2; have h4 := (gi_c 1 1 (by decide)).2; omega) (by have h1 := gv2.1; have h2 := (gi_c 1 1 (by decide)).1; have h3 := gv2.2; have h4 := (gi_c 1 1 (by decide)).2; omega); rw [hc1] at h9; exact h9); have qgv2 := gv2.1; have rgv2 := gv2.2; have qgx_603 := gx_603.1; have rgx_603 := gx_603.2; have igx_603 : x_603.toInt = w0_41.toInt + 1 := (by have hc1 : (1 : Int32).toInt = 1 := (by decide); have h9 := gi_addI ex_603 (by have h1 := g_590.1; have h2 := (gi_c 1 1 (by decide)).1; have h3 := g_590.2; have h4 := (gi_c 1 1 (by decide)).2; omega) (by have h1 := g_590.1; have h2 := (gi_c 1 1 (by decide)).1; have h3 := g_590.2; have h4 := (gi_c 1 1 (by decide)).2; omega); rw [hc1] at h9; exact h9); have qgw0_41 := g_590.1; have rgw0_41 := g_590.2; omega) (by have av2 := gv2.1; have bv2 := gv2.2; have av3 := gv3.1; have bv3 := gv3.2; have qgx_604 := gx_604.1; have rgx_604 := gx_604.2; have igx_604 : x_604.toInt = v2.toInt + 1 := (by have hc1 : (1 : Int32).toInt = 1 := (by decide); have h9 := gi_addI ex_604 (by have h1 := gv2.1; have h2 := (gi_c 1 1 (by decide)).1; have h3 := gv2.2; have h4 := (gi_c 1 1 (by decide)).2; omega) (by have h1 := gv2.1; have h2 := (gi_c 1 1 (by decide)).1; have h3 := gv2.2; have h4 := (gi_c 1 1 (by decide)).2; omega); rw [hc1] at h9; exact h9); have qgv2 := gv2.1; have rgv2 := gv2.2; omega) hP hD hS (lv_sub hl [1, 2, 0] rfl)
        · have g_605 : gi r_599 1 1 := gi_ne_lo c_600 gr_599 (gi_c 0 0 (by decide)) (by decide)
          refine lv_aload_n hx hb dX12_laysRow_88 rfl (lv_at hl 0 rfl) ?_
          refine va_get (D := (dC, dI)) (ci := 12) (v := .ref (mr 19)) (C := RX12) (T := TX12) (N := 57) hx hb hts (fun w h => List.mem_cons_of_mem _ (jnGB_X12 w h)) hown hK hP 0 rfl rfl 40 (by decide) (hts _ (List.mem_cons_of_mem _ mGB_31)) (fun _ h9 => h9) rfl dX12_laysRow_89 ?_
          refine lv_iload_n hx hb dX12_laysRow_92 rfl (lv_at hl 3 rfl) ?_
          refine lv_aload_n hx hb dX12_laysRow_93 rfl (lv_at hl 0 rfl) ?_
          refine va_get (D := (dC, dI)) (ci := 12) (v := .ref (mr 19)) (C := RX12) (T := TX12) (N := 57) hx hb hts (fun w h => List.mem_cons_of_mem _ (jnGB_X12 w h)) hown hK hP 0 rfl rfl 40 (by decide) (hts _ (List.mem_cons_of_mem _ mGB_31)) (fun _ h9 => h9) rfl dX12_laysRow_94 ?_
          refine lv_iload_n hx hb dX12_laysRow_97 rfl (lv_at hl 3 rfl) ?_
          refine lv_iconst (v := 1) hx hb dX12_laysRow_98 (by decide) ?_
          refine lv_isub hx hb dX12_laysRow_99 ?_
          refine lv_topi (fun x_606 ex_606 => ?_)
          have gx_606 : gi x_606 0 22 := gi_sub ex_606 g_596 (gi_c 1 1 (by decide)) (by decide)
          refine va_iald hx hb hK hP 2 1 rfl rfl (gi_in gx_606 (by decide)) dX12_laysRow_100 ?_
          refine lv_topi (fun x_607 ex_607 => ?_)
          have gx_607 : gi x_607 0 23 := ga_at gz2 (gi_in gx_606 (by decide)) ex_607
          refine va_iast hx hb hK hP hD hS 2 1 rfl rfl (gi_in g_596 (by decide)) dX12_laysRow_101 (fun H locs hP hD hS => ?_)
          have hP : va_P (dC, dI) vwCl [(h0, .inr (12, fsMM (upd mi 41 w0_41) mr)), ((mr 18), .inl (km_verdict, 24, .inl z1)), ((mr 19), .inl (km_row, 24, .inl (upd z2 (v3 : Int32).toNatClampNeg x_607))), ((mr 4), .inl (km_struck, 24, .inl fm_struck)), ((mr 7), .inl (km_reportKnown, 24, .inl fm_reportKnown)), ((mr 2), .inl (km_reportPlace, 24, .inl fm_reportPlace)), ((mr 5), .inl (km_reportMonth, 24, .inl fm_reportMonth)), ((mr 6), .inl (km_reportDay, 24, .inl fm_reportDay)), ((mr 3), .inl (km_reportKind, 24, .inl fm_reportKind)), ((mr 0), .inl (km_trust, 6, .inl fm_trust)), ((mr 1), .inl (km_letter, 36, .inl fm_letter))] H := hP
          have hD : va_D A [(h0, .inr (12, fsMM (upd mi 41 w0_41) mr)), ((mr 18), .inl (km_verdict, 24, .inl z1)), ((mr 19), .inl (km_row, 24, .inl (upd z2 (v3 : Int32).toNatClampNeg x_607))), ((mr 4), .inl (km_struck, 24, .inl fm_struck)), ((mr 7), .inl (km_reportKnown, 24, .inl fm_reportKnown)), ((mr 2), .inl (km_reportPlace, 24, .inl fm_reportPlace)), ((mr 5), .inl (km_reportMonth, 24, .inl fm_reportMonth)), ((mr 6), .inl (km_reportDay, 24, .inl fm_reportDay)), ((mr 3), .inl (km_reportKind, 24, .inl fm_reportKind)), ((mr 0), .inl (km_trust, 6, .inl fm_trust)), ((mr 1), .inl (km_letter, 36, .inl fm_letter))] := hD
          have gf_608 : ga (upd z2 (v3 : Int32).toNatClampNeg x_607) 24 0 23 := ga_upd gz2 gx_607
          generalize upd z2 (v3 : Int32).toNatClampNeg x_607 = f_608 at hP hD gf_608
          obtain ⟨x_609, ex_609⟩ : ∃ y : Int32, y = v3 + (-1) := ⟨_, rfl⟩
          have gx_609 : gi x_609 0 22 := gi_add ex_609 g_596 (gi_c (-1) (-1) (by decide)) (by decide)
          refine lv_iinc (v := x_609) (lv' := [(3, .int x_609), (0, .ref h0), (1, .int p1), (2, .int v2)]) hx hb dX12_laysRow_102 hl (k := 3) rfl (by rw [ex_609]; rfl) (by decide) rfl (fun ls hl => ?_)
          refine lv_goto (tgt := 68) hx hb dX12_laysRow_105 (by decide) ?_
          exact ih.2 v2 x_609 w0_41 z1 f_608 _ _ _ gv2 (gi_w gx_609 (by decide)) (gi_w g_590 (by decide)) gf_608 (by have qgv2 := gv2.1; have rgv2 := gv2.2; have qgw0_41 := g_590.1; have rgw0_41 := g_590.2; omega) (by have av2 := gv2.1; have bv2 := gv2.2; have av3 := gv3.1; have bv3 := gv3.2; have qgx_609 := gx_609.1; have rgx_609 := gx_609.2; have igx_609 : x_609.toInt = v3.toInt + (-1) := (by have hcm1 : ((-1) : Int32).toInt = (-1) := (by decide); have h9 := gi_addI ex_609 (by have h1 := g_596.1; have h2 := (gi_c (-1) (-1) (by decide)).1; have h3 := g_596.2; have h4 := (gi_c (-1) (-1) (by decide)).2; omega) (by have h1 := g_596.1; have h2 := (gi_c (-1) (-1) (by decide)).1; have h3 := g_596.2; have h4 := (gi_c (-1) (-1) (by decide)).2; omega); rw [hcm1] at h9; exact h9); have qgv3 := g_596.1; have rgv3 := g_596.2; have qgv2 := gv2.1; have rgv2 := gv2.2; omega) hP hD hS (lv_sub hl [1, 2, 3, 0] rfl)
set_option maxHeartbeats 4000000 in
set_option maxRecDepth 100000 in
theorem sX12_laysRow (l : Launch) (dC : Nat → ClassId) (dI : Nat → Nat → Nat) (sz : Nat) (h0 : Nat) (mi : Nat → Int32) (mr : Nat → Nat) (km_verdict : ClassId) (fm_verdict : Nat → Int32) (km_row : ClassId) (fm_row : Nat → Int32) (km_struck : ClassId) (fm_struck : Nat → Int32) (km_reportKnown : ClassId) (fm_reportKnown : Nat → Int32) (km_reportPlace : ClassId) (fm_reportPlace : Nat → Int32) (km_reportMonth : ClassId) (fm_reportMonth : Nat → Int32) (km_reportDay : ClassId) (fm_reportDay : Nat → Int32) (km_reportKind : ClassId) (fm_reportKind : Nat → Int32) (km_trust : ClassId) (fm_trust : Nat → Int32) (km_letter : ClassId) (fm_letter : Nat → Int32) (p1 : Int32) (gmi_0 : gi (mi 0) 0 24) (gmi_1 : gi (mi 1) 0 5) (gmi_2 : gi (mi 2) 0 5) (gmi_4 : gi (mi 4) 0 1) (gmi_7 : gi (mi 7) 0 6) (gmi_10 : gi (mi 10) 0 24) (gmi_17 : gi (mi 17) 0 8) (gmi_23 : gi (mi 23) 0 300) (gmi_24 : gi (mi 24) 0 1) (gmi_26 : gi (mi 26) 0 1600) (gmi_29 : gi (mi 29) 0 1600) (gmi_30 : gi (mi 30) 0 1600) (gmi_33 : gi (mi 33) 0 1) (gmi_37 : gi (mi 37) 0 1) (gmi_41 : gi (mi 41) 0 24) (gmi_50 : gi (mi 50) 0 1) (gmi_51 : gi (mi 51) 0 1) (gmi_56 : gi (mi 56) 0 80) (gfm_row : ga fm_row 24 0 23) (gfm_struck : ga fm_struck 24 0 1) (gfm_reportKnown : ga fm_reportKnown 24 0 999) (gfm_reportPlace : ga fm_reportPlace 24 0 5) (gfm_reportMonth : ga fm_reportMonth 24 0 23) (gfm_reportDay : ga fm_reportDay 24 0 999) : Met l yX12_laysRow (.code yX12_laysRow cX12_laysRow 4 none :: wsGB) ({ frames := 2, cells := 0, slots := 0, locals := 49 }) (va_Pc [.ref h0, .int p1] (fun U => U.heap.size = sz ∧ va_P (dC, dI) vwCl [(h0, .inr (12, fsMM mi mr)), ((mr 18), .inl (km_verdict, 24, .inl fm_verdict)), ((mr 19), .inl (km_row, 24, .inl fm_row)), ((mr 4), .inl (km_struck, 24, .inl fm_struck)), ((mr 7), .inl (km_reportKnown, 24, .inl fm_reportKnown)), ((mr 2), .inl (km_reportPlace, 24, .inl fm_reportPlace)), ((mr 5), .inl (km_reportMonth, 24, .inl fm_reportMonth)), ((mr 6), .inl (km_reportDay, 24, .inl fm_reportDay)), ((mr 3), .inl (km_reportKind, 24, .inl fm_reportKind)), ((mr 0), .inl (km_trust, 6, .inl fm_trust)), ((mr 1), .inl (km_letter, 36, .inl fm_letter))] U.heap ∧ va_K (dC, dI) vwCl [(km_verdict, .int), (km_row, .int), (km_struck, .boolean), (km_reportKnown, .int), (km_reportPlace, .int), (km_reportMonth, .int), (km_reportDay, .int), (km_reportKind, .int), (km_trust, .int), (km_letter, .int)] U ∧ va_D (fun _ => True) [(h0, .inr (12, fsMM mi mr)), ((mr 18), .inl (km_verdict, 24, .inl fm_verdict)), ((mr 19), .inl (km_row, 24, .inl fm_row)), ((mr 4), .inl (km_struck, 24, .inl fm_struck)), ((mr 7), .inl (km_reportKnown, 24, .inl fm_reportKnown)), ((mr 2), .inl (km_reportPlace, 24, .inl fm_reportPlace)), ((mr 5), .inl (km_reportMonth, 24, .inl fm_reportMonth)), ((mr 6), .inl (km_reportDay, 24, .inl fm_reportDay)), ((mr 3), .inl (km_reportKind, 24, .inl fm_reportKind)), ((mr 0), .inl (km_trust, 6, .inl fm_trust)), ((mr 1), .inl (km_letter, 36, .inl fm_letter))])) (va_Qv (fun (u : Unit) => True) (fun _ t => ∃ (w0_41 : Int32) (z1 : Nat → Int32) (z2 : Nat → Int32), gi w0_41 0 24 ∧ ga z2 24 0 23 ∧ va_P (dC, dI) vwCl [(h0, .inr (12, fsMM (upd mi 41 w0_41) mr)), ((mr 18), .inl (km_verdict, 24, .inl z1)), ((mr 19), .inl (km_row, 24, .inl z2)), ((mr 4), .inl (km_struck, 24, .inl fm_struck)), ((mr 7), .inl (km_reportKnown, 24, .inl fm_reportKnown)), ((mr 2), .inl (km_reportPlace, 24, .inl fm_reportPlace)), ((mr 5), .inl (km_reportMonth, 24, .inl fm_reportMonth)), ((mr 6), .inl (km_reportDay, 24, .inl fm_reportDay)), ((mr 3), .inl (km_reportKind, 24, .inl fm_reportKind)), ((mr 0), .inl (km_trust, 6, .inl fm_trust)), ((mr 1), .inl (km_letter, 36, .inl fm_letter))] t.heap ∧ va_D (va_A [(h0, .inr (12, fsMM mi mr)), ((mr 18), .inl (km_verdict, 24, .inl fm_verdict)), ((mr 19), .inl (km_row, 24, .inl fm_row)), ((mr 4), .inl (km_struck, 24, .inl fm_struck)), ((mr 7), .inl (km_reportKnown, 24, .inl fm_reportKnown)), ((mr 2), .inl (km_reportPlace, 24, .inl fm_reportPlace)), ((mr 5), .inl (km_reportMonth, 24, .inl fm_reportMonth)), ((mr 6), .inl (km_reportDay, 24, .inl fm_reportDay)), ((mr 3), .inl (km_reportKind, 24, .inl fm_reportKind)), ((mr 0), .inl (km_trust, 6, .inl fm_trust)), ((mr 1), .inl (km_letter, 36, .inl fm_letter))] sz) [(h0, .inr (12, fsMM (upd mi 41 w0_41) mr)), ((mr 18), .inl (km_verdict, 24, .inl z1)), ((mr 19), .inl (km_row, 24, .inl z2)), ((mr 4), .inl (km_struck, 24, .inl fm_struck)), ((mr 7), .inl (km_reportKnown, 24, .inl fm_reportKnown)), ((mr 2), .inl (km_reportPlace, 24, .inl fm_reportPlace)), ((mr 5), .inl (km_reportMonth, 24, .inl fm_reportMonth)), ((mr 6), .inl (km_reportDay, 24, .inl fm_reportDay)), ((mr 3), .inl (km_reportKind, 24, .inl fm_reportKind)), ((mr 0), .inl (km_trust, 6, .inl fm_trust)), ((mr 1), .inl (km_letter, 36, .inl fm_letter))]) (va_A [(h0, .inr (12, fsMM mi mr)), ((mr 18), .inl (km_verdict, 24, .inl fm_verdict)), ((mr 19), .inl (km_row, 24, .inl fm_row)), ((mr 4), .inl (km_struck, 24, .inl fm_struck)), ((mr 7), .inl (km_reportKnown, 24, .inl fm_reportKnown)), ((mr 2), .inl (km_reportPlace, 24, .inl fm_reportPlace)), ((mr 5), .inl (km_reportMonth, 24, .inl fm_reportMonth)), ((mr 6), .inl (km_reportDay, 24, .inl fm_reportDay)), ((mr 3), .inl (km_reportKind, 24, .inl fm_reportKind)), ((mr 0), .inl (km_trust, 6, .inl fm_trust)), ((mr 1), .inl (km_letter, 36, .inl fm_letter))] sz)) 0 0 (va_A [(h0, .inr (12, fsMM mi mr)), ((mr 18), .inl (km_verdict, 24, .inl fm_verdict)), ((mr 19), .inl (km_row, 24, .inl fm_row)), ((mr 4), .inl (km_struck, 24, .inl fm_struck)), ((mr 7), .inl (km_reportKnown, 24, .inl fm_reportKnown)), ((mr 2), .inl (km_reportPlace, 24, .inl fm_reportPlace)), ((mr 5), .inl (km_reportMonth, 24, .inl fm_reportMonth)), ((mr 6), .inl (km_reportDay, 24, .inl fm_reportDay)), ((mr 3), .inl (km_reportKind, 24, .inl fm_reportKind)), ((mr 0), .inl (km_trust, 6, .inl fm_trust)), ((mr 1), .inl (km_letter, 36, .inl fm_letter))] sz) := by
  refine Met.ofW (cc := cX12_laysRow) (maxL := 4) (ret := none) (by decide) rfl ?_
  intro p e s m args below meth c s₁ B hml hv
  obtain ⟨rfl, hsz, hP, hK, hD0⟩ := hv
  have hx := B.exec
  have hb := B.bytes
  have hr := B.returns
  have hts := atoms_spec (ws := (.code yX12_laysRow cX12_laysRow 4 none :: wsGB)) B.pre
  have hown : s.vm.findClass RX12 = some m.cls := findClass_of_methodNamed B.named
  have hlocks := B.notSynchronized
  subst hsz
  have hD := hD0.self (sz := s.heap.size)
  generalize hAe : va_A [(h0, .inr (12, fsMM mi mr)), ((mr 18), .inl (km_verdict, 24, .inl fm_verdict)), ((mr 19), .inl (km_row, 24, .inl fm_row)), ((mr 4), .inl (km_struck, 24, .inl fm_struck)), ((mr 7), .inl (km_reportKnown, 24, .inl fm_reportKnown)), ((mr 2), .inl (km_reportPlace, 24, .inl fm_reportPlace)), ((mr 5), .inl (km_reportMonth, 24, .inl fm_reportMonth)), ((mr 6), .inl (km_reportDay, 24, .inl fm_reportDay)), ((mr 3), .inl (km_reportKind, 24, .inl fm_reportKind)), ((mr 0), .inl (km_trust, 6, .inl fm_trust)), ((mr 1), .inl (km_letter, 36, .inl fm_letter))] s.heap.size = A at hD ⊢
  have hA : ∀ q : Nat, s.heap.size ≤ q → A q := fun q h => by rw [← hAe]; exact Or.inr h
  have hS : va_S A s.heap s.heap [] := va_S.rf
  have hl := lv_entry ([.ref h0, .int p1]) (n := 4) (Nat.le_of_ble_eq_true rfl)
  rw [lg_entry_eq]
  generalize (lg_sl ([.ref h0, .int p1]) ++ List.replicate (4 - (lg_sl ([.ref h0, .int p1])).length) Slot.unset).toArray = ls at hl ⊢
  have hl : lv_has ls 4 [(0, .ref h0), (1, .int p1)] := hl
  refine lv_aload_n hx hb dX12_laysRow_0 rfl (lv_at hl 0 rfl) ?_
  refine lv_iconst (v := 0) hx hb dX12_laysRow_1 (by decide) ?_
  refine va_put (D := (dC, dI)) (ci := 12) (v := .int 0) (ty := .int) (C := RX12) (T := TX12) (N := 57) hx hb hts (fun w h => List.mem_cons_of_mem _ (jnGB_X12 w h)) tyX12 tyX12_ok nmX12 hown hK hP hD hS 0 rfl rfl 41 (by decide) (hts _ (List.mem_cons_of_mem _ mGB_265)) (fun _ h9 => h9) rfl (by decide +kernel) rfl rfl (Nat.le_of_ble_eq_true rfl) dX12_laysRow_2 (fun H locs hP hD hS => ?_)
  have hP : va_P (dC, dI) vwCl [(h0, .inr (12, fsMM (upd mi 41 0) mr)), ((mr 18), .inl (km_verdict, 24, .inl fm_verdict)), ((mr 19), .inl (km_row, 24, .inl fm_row)), ((mr 4), .inl (km_struck, 24, .inl fm_struck)), ((mr 7), .inl (km_reportKnown, 24, .inl fm_reportKnown)), ((mr 2), .inl (km_reportPlace, 24, .inl fm_reportPlace)), ((mr 5), .inl (km_reportMonth, 24, .inl fm_reportMonth)), ((mr 6), .inl (km_reportDay, 24, .inl fm_reportDay)), ((mr 3), .inl (km_reportKind, 24, .inl fm_reportKind)), ((mr 0), .inl (km_trust, 6, .inl fm_trust)), ((mr 1), .inl (km_letter, 36, .inl fm_letter))] H := hP
  have hD : va_D A [(h0, .inr (12, fsMM (upd mi 41 0) mr)), ((mr 18), .inl (km_verdict, 24, .inl fm_verdict)), ((mr 19), .inl (km_row, 24, .inl fm_row)), ((mr 4), .inl (km_struck, 24, .inl fm_struck)), ((mr 7), .inl (km_reportKnown, 24, .inl fm_reportKnown)), ((mr 2), .inl (km_reportPlace, 24, .inl fm_reportPlace)), ((mr 5), .inl (km_reportMonth, 24, .inl fm_reportMonth)), ((mr 6), .inl (km_reportDay, 24, .inl fm_reportDay)), ((mr 3), .inl (km_reportKind, 24, .inl fm_reportKind)), ((mr 0), .inl (km_trust, 6, .inl fm_trust)), ((mr 1), .inl (km_letter, 36, .inl fm_letter))] := hD
  refine lv_iconst (v := 0) hx hb dX12_laysRow_5 (by decide) ?_
  refine lv_istore_n (lv' := [(2, .int 0), (0, .ref h0), (1, .int p1)]) hx hb dX12_laysRow_6 rfl hl (by decide) rfl (fun ls hl => ?_)
  refine (lp_sX12_laysRow h0 mi mr km_verdict fm_verdict km_row fm_row km_struck fm_struck km_reportKnown fm_reportKnown km_reportPlace fm_reportPlace km_reportMonth fm_reportMonth km_reportDay fm_reportDay km_reportKind fm_reportKind km_trust fm_trust km_letter fm_letter p1 gmi_0 gmi_1 gmi_2 gmi_4 gmi_7 gmi_10 gmi_17 gmi_23 gmi_24 gmi_26 gmi_29 gmi_30 gmi_33 gmi_37 gmi_41 gmi_50 gmi_51 gmi_56 gfm_row gfm_struck gfm_reportKnown gfm_reportPlace gfm_reportMonth gfm_reportDay hx hb hml hown hts hK hA (Nat.le_of_ble_eq_true rfl) (Nat.le_of_ble_eq_true rfl) (Nat.zero_le _) (Nat.zero_le _) (fun w0_41 z1 z2 H locs ls gw0_41 gz2 hP hD hS hl => ?_) 1362).1 0 0 fm_verdict fm_row _ _ _ (gi_w (gi_c 0 0 (by decide)) (by decide)) (gi_w (gi_c 0 0 (by decide)) (by decide)) gfm_row (by have k0 : (0 : Int32).toInt = 0 := (by decide); have k0 : (0 : Int32).toInt = 0 := (by decide); omega) (by have k0 : (0 : Int32).toInt = 0 := (by decide); omega) hP hD hS (lv_sub hl [1, 2, 0] rfl)
  · skip
    exact W.vret hx hb hr (fun t ht hW => ⟨⟨(), rfl, trivial, w0_41, z1, z2, gw0_41, gz2, by rw [ht]; exact hP, hD⟩, hS.F ht⟩) hS.2.2 dX12_laysRow_131
theorem dX12_judges_0 : decode cX12_judges 0 = .ok (.aload_n 0, 1) := by decide +kernel
theorem dX12_judges_1 : decode cX12_judges 1 = .ok (.getfield 129, 3) := by decide +kernel
theorem dX12_judges_4 : decode cX12_judges 4 = .ok (.ifCond .eq 33, 3) := by decide +kernel
theorem dX12_judges_7 : decode cX12_judges 7 = .ok (.aload_n 0, 1) := by decide +kernel
theorem dX12_judges_8 : decode cX12_judges 8 = .ok (.getfield 19, 3) := by decide +kernel
theorem dX12_judges_11 : decode cX12_judges 11 = .ok (.iload_n 1, 1) := by decide +kernel
theorem dX12_judges_12 : decode cX12_judges 12 = .ok (.iaload, 1) := by decide +kernel
theorem dX12_judges_13 : decode cX12_judges 13 = .ok (.ifCond .ne 24, 3) := by decide +kernel
theorem dX12_judges_16 : decode cX12_judges 16 = .ok (.aload_n 0, 1) := by decide +kernel
theorem dX12_judges_17 : decode cX12_judges 17 = .ok (.getfield 29, 3) := by decide +kernel
theorem dX12_judges_20 : decode cX12_judges 20 = .ok (.iload_n 1, 1) := by decide +kernel
theorem dX12_judges_21 : decode cX12_judges 21 = .ok (.iaload, 1) := by decide +kernel
theorem dX12_judges_22 : decode cX12_judges 22 = .ok (.aload_n 0, 1) := by decide +kernel
theorem dX12_judges_23 : decode cX12_judges 23 = .ok (.aload_n 0, 1) := by decide +kernel
theorem dX12_judges_24 : decode cX12_judges 24 = .ok (.getfield 26, 3) := by decide +kernel
theorem dX12_judges_27 : decode cX12_judges 27 = .ok (.iload_n 1, 1) := by decide +kernel
theorem dX12_judges_28 : decode cX12_judges 28 = .ok (.iaload, 1) := by decide +kernel
theorem dX12_judges_29 : decode cX12_judges 29 = .ok (.invokevirtual 309, 3) := by decide +kernel
theorem dX12_judges_32 : decode cX12_judges 32 = .ok (.if_icmp .ge 5, 3) := by decide +kernel
theorem dX12_judges_35 : decode cX12_judges 35 = .ok (.iconst 1, 1) := by decide +kernel
theorem dX12_judges_36 : decode cX12_judges 36 = .ok (.ireturn, 1) := by decide +kernel
theorem dX12_judges_37 : decode cX12_judges 37 = .ok (.aload_n 0, 1) := by decide +kernel
theorem dX12_judges_38 : decode cX12_judges 38 = .ok (.getfield 26, 3) := by decide +kernel
theorem dX12_judges_41 : decode cX12_judges 41 = .ok (.iload_n 1, 1) := by decide +kernel
theorem dX12_judges_42 : decode cX12_judges 42 = .ok (.iaload, 1) := by decide +kernel
theorem dX12_judges_43 : decode cX12_judges 43 = .ok (.istore_n 2, 1) := by decide +kernel
theorem dX12_judges_44 : decode cX12_judges 44 = .ok (.aload_n 0, 1) := by decide +kernel
theorem dX12_judges_45 : decode cX12_judges 45 = .ok (.getfield 57, 3) := by decide +kernel
theorem dX12_judges_48 : decode cX12_judges 48 = .ok (.iload_n 2, 1) := by decide +kernel
theorem dX12_judges_49 : decode cX12_judges 49 = .ok (.iaload, 1) := by decide +kernel
theorem dX12_judges_50 : decode cX12_judges 50 = .ok (.istore_n 3, 1) := by decide +kernel
theorem dX12_judges_51 : decode cX12_judges 51 = .ok (.aload_n 0, 1) := by decide +kernel
theorem dX12_judges_52 : decode cX12_judges 52 = .ok (.getfield 60, 3) := by decide +kernel
theorem dX12_judges_55 : decode cX12_judges 55 = .ok (.iload_n 2, 1) := by decide +kernel
theorem dX12_judges_56 : decode cX12_judges 56 = .ok (.iaload, 1) := by decide +kernel
theorem dX12_judges_57 : decode cX12_judges 57 = .ok (.istore 4, 2) := by decide +kernel
theorem dX12_judges_59 : decode cX12_judges 59 = .ok (.aload_n 0, 1) := by decide +kernel
theorem dX12_judges_60 : decode cX12_judges 60 = .ok (.iload_n 1, 1) := by decide +kernel
theorem dX12_judges_61 : decode cX12_judges 61 = .ok (.invokevirtual 347, 3) := by decide +kernel
theorem dX12_judges_64 : decode cX12_judges 64 = .ok (.aload_n 0, 1) := by decide +kernel
theorem dX12_judges_65 : decode cX12_judges 65 = .ok (.invokevirtual 332, 3) := by decide +kernel
theorem dX12_judges_68 : decode cX12_judges 68 = .ok (.ifCond .le 5, 3) := by decide +kernel
theorem dX12_judges_71 : decode cX12_judges 71 = .ok (.iconst 0, 1) := by decide +kernel
theorem dX12_judges_72 : decode cX12_judges 72 = .ok (.ireturn, 1) := by decide +kernel
theorem dX12_judges_73 : decode cX12_judges 73 = .ok (.aload_n 0, 1) := by decide +kernel
theorem dX12_judges_74 : decode cX12_judges 74 = .ok (.getfield 57, 3) := by decide +kernel
theorem dX12_judges_77 : decode cX12_judges 77 = .ok (.iload_n 2, 1) := by decide +kernel
theorem dX12_judges_78 : decode cX12_judges 78 = .ok (.iload_n 3, 1) := by decide +kernel
theorem dX12_judges_79 : decode cX12_judges 79 = .ok (.iastore, 1) := by decide +kernel
theorem dX12_judges_80 : decode cX12_judges 80 = .ok (.aload_n 0, 1) := by decide +kernel
theorem dX12_judges_81 : decode cX12_judges 81 = .ok (.getfield 60, 3) := by decide +kernel
theorem dX12_judges_84 : decode cX12_judges 84 = .ok (.iload_n 2, 1) := by decide +kernel
theorem dX12_judges_85 : decode cX12_judges 85 = .ok (.iload 4, 2) := by decide +kernel
theorem dX12_judges_87 : decode cX12_judges 87 = .ok (.iastore, 1) := by decide +kernel
theorem dX12_judges_88 : decode cX12_judges 88 = .ok (.aload_n 0, 1) := by decide +kernel
theorem dX12_judges_89 : decode cX12_judges 89 = .ok (.iconst 0, 1) := by decide +kernel
theorem dX12_judges_90 : decode cX12_judges 90 = .ok (.putfield 312, 3) := by decide +kernel
theorem dX12_judges_93 : decode cX12_judges 93 = .ok (.iconst 2, 1) := by decide +kernel
theorem dX12_judges_94 : decode cX12_judges 94 = .ok (.ireturn, 1) := by decide +kernel
set_option maxHeartbeats 4000000 in
set_option maxRecDepth 100000 in
theorem sX12_judges (l : Launch) (dC : Nat → ClassId) (dI : Nat → Nat → Nat) (sz : Nat) (h0 : Nat) (mi : Nat → Int32) (mr : Nat → Nat) (km_must : ClassId) (fm_must : Nat → Int32) (km_least : ClassId) (fm_least : Nat → Int32) (km_pin : ClassId) (fm_pin : Nat → Int32) (km_ways : ClassId) (fm_ways : Nat → Int32) (km_reportMonth : ClassId) (fm_reportMonth : Nat → Int32) (km_reportDay : ClassId) (fm_reportDay : Nat → Int32) (km_reportKind : ClassId) (fm_reportKind : Nat → Int32) (p1 : Int32) (gmi_0 : gi (mi 0) 0 24) (gmi_1 : gi (mi 1) 0 5) (gmi_2 : gi (mi 2) 0 5) (gmi_4 : gi (mi 4) 0 1) (gmi_7 : gi (mi 7) 0 6) (gmi_10 : gi (mi 10) 0 24) (gmi_17 : gi (mi 17) 0 8) (gmi_23 : gi (mi 23) 0 300) (gmi_24 : gi (mi 24) 0 1) (gmi_26 : gi (mi 26) 0 1600) (gmi_29 : gi (mi 29) 0 1600) (gmi_30 : gi (mi 30) 0 1600) (gmi_33 : gi (mi 33) 0 1) (gmi_37 : gi (mi 37) 0 1) (gmi_41 : gi (mi 41) 0 24) (gmi_50 : gi (mi 50) 0 1) (gmi_51 : gi (mi 51) 0 1) (gmi_56 : gi (mi 56) 0 80) (gfm_reportMonth : ga fm_reportMonth 24 0 23) (gfm_reportDay : ga fm_reportDay 24 0 999) (gp1 : gi p1 0 23) : Met l yX12_judges (.code yX12_judges cX12_judges 5 (some .int) :: wsGB) ({ frames := 3, cells := 0, slots := 0, locals := 73 }) (va_Pc [.ref h0, .int p1] (fun U => U.heap.size = sz ∧ va_P (dC, dI) vwCl [(h0, .inr (12, fsMM mi mr)), ((mr 14), .inl (km_must, 25, .inl fm_must)), ((mr 15), .inl (km_least, 25, .inl fm_least)), ((mr 16), .inl (km_pin, 25, .inl fm_pin)), ((mr 17), .inl (km_ways, 6875, .inl fm_ways)), ((mr 5), .inl (km_reportMonth, 24, .inl fm_reportMonth)), ((mr 6), .inl (km_reportDay, 24, .inl fm_reportDay)), ((mr 3), .inl (km_reportKind, 24, .inl fm_reportKind))] U.heap ∧ va_K (dC, dI) vwCl [(km_must, .int), (km_least, .int), (km_pin, .int), (km_ways, .int), (km_reportMonth, .int), (km_reportDay, .int), (km_reportKind, .int)] U ∧ va_D (fun _ => True) [(h0, .inr (12, fsMM mi mr)), ((mr 14), .inl (km_must, 25, .inl fm_must)), ((mr 15), .inl (km_least, 25, .inl fm_least)), ((mr 16), .inl (km_pin, 25, .inl fm_pin)), ((mr 17), .inl (km_ways, 6875, .inl fm_ways)), ((mr 5), .inl (km_reportMonth, 24, .inl fm_reportMonth)), ((mr 6), .inl (km_reportDay, 24, .inl fm_reportDay)), ((mr 3), .inl (km_reportKind, 24, .inl fm_reportKind))])) (va_Qi (fun (r : Int32) (u : Unit) => gi r 0 2) (fun _ t => ∃ (w0_37 : Int32) (z1 : Nat → Int32) (z2 : Nat → Int32) (z4 : Nat → Int32), gi w0_37 0 1 ∧ va_P (dC, dI) vwCl [(h0, .inr (12, fsMM (upd mi 37 w0_37) mr)), ((mr 14), .inl (km_must, 25, .inl z1)), ((mr 15), .inl (km_least, 25, .inl z2)), ((mr 16), .inl (km_pin, 25, .inl fm_pin)), ((mr 17), .inl (km_ways, 6875, .inl z4)), ((mr 5), .inl (km_reportMonth, 24, .inl fm_reportMonth)), ((mr 6), .inl (km_reportDay, 24, .inl fm_reportDay)), ((mr 3), .inl (km_reportKind, 24, .inl fm_reportKind))] t.heap ∧ va_D (va_A [(h0, .inr (12, fsMM mi mr)), ((mr 14), .inl (km_must, 25, .inl fm_must)), ((mr 15), .inl (km_least, 25, .inl fm_least)), ((mr 16), .inl (km_pin, 25, .inl fm_pin)), ((mr 17), .inl (km_ways, 6875, .inl fm_ways)), ((mr 5), .inl (km_reportMonth, 24, .inl fm_reportMonth)), ((mr 6), .inl (km_reportDay, 24, .inl fm_reportDay)), ((mr 3), .inl (km_reportKind, 24, .inl fm_reportKind))] sz) [(h0, .inr (12, fsMM (upd mi 37 w0_37) mr)), ((mr 14), .inl (km_must, 25, .inl z1)), ((mr 15), .inl (km_least, 25, .inl z2)), ((mr 16), .inl (km_pin, 25, .inl fm_pin)), ((mr 17), .inl (km_ways, 6875, .inl z4)), ((mr 5), .inl (km_reportMonth, 24, .inl fm_reportMonth)), ((mr 6), .inl (km_reportDay, 24, .inl fm_reportDay)), ((mr 3), .inl (km_reportKind, 24, .inl fm_reportKind))]) (va_A [(h0, .inr (12, fsMM mi mr)), ((mr 14), .inl (km_must, 25, .inl fm_must)), ((mr 15), .inl (km_least, 25, .inl fm_least)), ((mr 16), .inl (km_pin, 25, .inl fm_pin)), ((mr 17), .inl (km_ways, 6875, .inl fm_ways)), ((mr 5), .inl (km_reportMonth, 24, .inl fm_reportMonth)), ((mr 6), .inl (km_reportDay, 24, .inl fm_reportDay)), ((mr 3), .inl (km_reportKind, 24, .inl fm_reportKind))] sz)) 0 0 (va_A [(h0, .inr (12, fsMM mi mr)), ((mr 14), .inl (km_must, 25, .inl fm_must)), ((mr 15), .inl (km_least, 25, .inl fm_least)), ((mr 16), .inl (km_pin, 25, .inl fm_pin)), ((mr 17), .inl (km_ways, 6875, .inl fm_ways)), ((mr 5), .inl (km_reportMonth, 24, .inl fm_reportMonth)), ((mr 6), .inl (km_reportDay, 24, .inl fm_reportDay)), ((mr 3), .inl (km_reportKind, 24, .inl fm_reportKind))] sz) := by
  refine Met.ofW (cc := cX12_judges) (maxL := 5) (ret := (some .int)) (by decide) rfl ?_
  intro p e s m args below meth c s₁ B hml hv
  obtain ⟨rfl, hsz, hP, hK, hD0⟩ := hv
  have hx := B.exec
  have hb := B.bytes
  have hr := B.returns
  have hts := atoms_spec (ws := (.code yX12_judges cX12_judges 5 (some .int) :: wsGB)) B.pre
  have hown : s.vm.findClass RX12 = some m.cls := findClass_of_methodNamed B.named
  have hlocks := B.notSynchronized
  subst hsz
  have hD := hD0.self (sz := s.heap.size)
  generalize hAe : va_A [(h0, .inr (12, fsMM mi mr)), ((mr 14), .inl (km_must, 25, .inl fm_must)), ((mr 15), .inl (km_least, 25, .inl fm_least)), ((mr 16), .inl (km_pin, 25, .inl fm_pin)), ((mr 17), .inl (km_ways, 6875, .inl fm_ways)), ((mr 5), .inl (km_reportMonth, 24, .inl fm_reportMonth)), ((mr 6), .inl (km_reportDay, 24, .inl fm_reportDay)), ((mr 3), .inl (km_reportKind, 24, .inl fm_reportKind))] s.heap.size = A at hD ⊢
  have hA : ∀ q : Nat, s.heap.size ≤ q → A q := fun q h => by rw [← hAe]; exact Or.inr h
  have hS : va_S A s.heap s.heap [] := va_S.rf
  have hl := lv_entry ([.ref h0, .int p1]) (n := 5) (Nat.le_of_ble_eq_true rfl)
  rw [lg_entry_eq]
  generalize (lg_sl ([.ref h0, .int p1]) ++ List.replicate (5 - (lg_sl ([.ref h0, .int p1])).length) Slot.unset).toArray = ls at hl ⊢
  have hl : lv_has ls 5 [(0, .ref h0), (1, .int p1)] := hl
  refine lv_aload_n hx hb dX12_judges_0 rfl (lv_at hl 0 rfl) ?_
  refine va_get (D := (dC, dI)) (ci := 12) (v := .int (mi 4)) (C := RX12) (T := TX12) (N := 57) hx hb hts (fun w h => List.mem_cons_of_mem _ (jnGB_X12 w h)) hown hK hP 0 rfl rfl 4 (by decide) (hts _ (List.mem_cons_of_mem _ mGB_107)) (fun _ h9 => h9) rfl dX12_judges_1 ?_
  refine lv_if_eq (tgt := 37) hx hb dX12_judges_4 (by decide) (fun c_109 => ?_) (fun c_109 => ?_)
  · have g_110 : gi (mi 4) 0 0 := gi_eq c_109 (gi_c 0 0 (by decide))
    refine lv_aload_n hx hb dX12_judges_37 rfl (lv_at hl 0 rfl) ?_
    refine va_get (D := (dC, dI)) (ci := 12) (v := .ref (mr 5)) (C := RX12) (T := TX12) (N := 57) hx hb hts (fun w h => List.mem_cons_of_mem _ (jnGB_X12 w h)) hown hK hP 0 rfl rfl 14 (by decide) (hts _ (List.mem_cons_of_mem _ mGB_16)) (fun _ h9 => h9) rfl dX12_judges_38 ?_
    refine lv_iload_n hx hb dX12_judges_41 rfl (lv_at hl 1 rfl) ?_
    refine va_iald hx hb hK hP 5 4 rfl rfl (gi_in gp1 (by decide)) dX12_judges_42 ?_
    refine lv_topi (fun x_111 ex_111 => ?_)
    have gx_111 : gi x_111 0 23 := ga_at gfm_reportMonth (gi_in gp1 (by decide)) ex_111
    refine lv_istore_n (lv' := [(2, .int x_111), (0, .ref h0), (1, .int p1)]) hx hb dX12_judges_43 rfl hl (by decide) rfl (fun ls hl => ?_)
    refine lv_aload_n hx hb dX12_judges_44 rfl (lv_at hl 1 rfl) ?_
    refine va_get (D := (dC, dI)) (ci := 12) (v := .ref (mr 14)) (C := RX12) (T := TX12) (N := 57) hx hb hts (fun w h => List.mem_cons_of_mem _ (jnGB_X12 w h)) hown hK hP 0 rfl rfl 34 (by decide) (hts _ (List.mem_cons_of_mem _ mGB_26)) (fun _ h9 => h9) rfl dX12_judges_45 ?_
    refine lv_iload_n hx hb dX12_judges_48 rfl (lv_at hl 0 rfl) ?_
    refine va_iald hx hb hK hP 1 0 rfl rfl (gi_in gx_111 (by decide)) dX12_judges_49 ?_
    refine lv_topi (fun x_112 ex_112 => ?_)
    refine lv_istore_n (lv' := [(3, .int x_112), (2, .int x_111), (0, .ref h0), (1, .int p1)]) hx hb dX12_judges_50 rfl hl (by decide) rfl (fun ls hl => ?_)
    refine lv_aload_n hx hb dX12_judges_51 rfl (lv_at hl 2 rfl) ?_
    refine va_get (D := (dC, dI)) (ci := 12) (v := .ref (mr 15)) (C := RX12) (T := TX12) (N := 57) hx hb hts (fun w h => List.mem_cons_of_mem _ (jnGB_X12 w h)) hown hK hP 0 rfl rfl 35 (by decide) (hts _ (List.mem_cons_of_mem _ mGB_27)) (fun _ h9 => h9) rfl dX12_judges_52 ?_
    refine lv_iload_n hx hb dX12_judges_55 rfl (lv_at hl 1 rfl) ?_
    refine va_iald hx hb hK hP 2 1 rfl rfl (gi_in gx_111 (by decide)) dX12_judges_56 ?_
    refine lv_topi (fun x_113 ex_113 => ?_)
    refine lv_istore (lv' := [(4, .int x_113), (3, .int x_112), (2, .int x_111), (0, .ref h0), (1, .int p1)]) hx hb dX12_judges_57 hl (by decide) rfl (fun ls hl => ?_)
    refine lv_aload_n hx hb dX12_judges_59 rfl (lv_at hl 3 rfl) ?_
    refine lv_iload_n hx hb dX12_judges_60 rfl (lv_at hl 4 rfl) ?_
    have hPc := hP.sub (ws' := [(h0, .inr (12, fsMM mi mr)), ((mr 5), .inl (km_reportMonth, 24, .inl fm_reportMonth)), ((mr 6), .inl (km_reportDay, 24, .inl fm_reportDay)), ((mr 3), .inl (km_reportKind, 24, .inl fm_reportKind)), ((mr 14), .inl (km_must, 25, .inl fm_must)), ((mr 15), .inl (km_least, 25, .inl fm_least))]) [0, 5, 6, 7, 1, 2] rfl
    have hKc := hK.sub (tys' := [(km_reportMonth, .int), (km_reportDay, .int), (km_reportKind, .int), (km_must, .int), (km_least, .int)]) [4, 5, 6, 0, 1] rfl
    have hDc := hD.sub (ws' := [(h0, .inr (12, fsMM mi mr)), ((mr 5), .inl (km_reportMonth, 24, .inl fm_reportMonth)), ((mr 6), .inl (km_reportDay, 24, .inl fm_reportDay)), ((mr 3), .inl (km_reportKind, 24, .inl fm_reportKind)), ((mr 14), .inl (km_must, 25, .inl fm_must)), ((mr 15), .inl (km_least, 25, .inl fm_least))]) [0, 5, 6, 7, 1, 2] (by decide) rfl
    have hFc := va_free (wc := [(h0, .inr (12, fsMM mi mr)), ((mr 5), .inl (km_reportMonth, 24, .inl fm_reportMonth)), ((mr 6), .inl (km_reportDay, 24, .inl fm_reportDay)), ((mr 3), .inl (km_reportKind, 24, .inl fm_reportKind)), ((mr 14), .inl (km_must, 25, .inl fm_must)), ((mr 15), .inl (km_least, 25, .inl fm_least))]) hD hS hA [0, 5, 6, 7, 1, 2] rfl
    refine va_callv (va_runV (As := [.int p1]) (rest := []) ⟨hx, hb, hml, hown, hts⟩ (sX12_holds l dC dI s.heap.size h0 mi mr km_reportMonth fm_reportMonth km_reportDay fm_reportDay km_reportKind fm_reportKind km_must fm_must km_least fm_least p1 gmi_0 gmi_1 gmi_2 (gi_w g_110 (by decide)) gmi_7 gmi_10 gmi_17 gmi_23 gmi_24 gmi_26 gmi_29 gmi_30 gmi_33 gmi_37 gmi_41 gmi_50 gmi_51 gmi_56 gfm_reportMonth gfm_reportDay gp1) (cwV 1 hts (gz_gV mGB_295 mGB_296 mGB_297 mGB_1 mGB_298 goodGB) rfl rfl rfl (by decide +kernel) ⟨Nat.le_of_ble_eq_true rfl, Nat.le_of_ble_eq_true rfl⟩) ⟨fun a U g mk q => by obtain ⟨q0, q1, qP, qK, qD⟩ := q; exact ⟨q0, q1, qP, va_K.moved (u := U) (U := U.calling g mk a) (Vm.Alike.refl U.vm) qK, qD⟩, va_recv hKc hPc (ci := 12) (q0 := 0) rfl rfl, fun U hU hW => ⟨rfl, by rw [hU], by rw [hU]; exact hPc, va_K.moved hW.alike hKc, hDc.weaken (fun _ _ _ _ => trivial)⟩⟩ rfl rfl hl.1 rfl (lv_room (Nat.le_of_ble_eq_true rfl)) dX12_judges_61 ⟨Nat.zero_le _, Nat.zero_le _⟩) hS (fun q _ h => hFc q h) hFc (fun u t H1 locs ht hvm hw hB hz1 hk1 hS => ?_)
    obtain ⟨y_115, f_116, f_117, gy_115, hP1, hD1⟩ := hB
    rw [ht] at hP1
    obtain ⟨hP, hD⟩ := va_join (wr := [((mr 16), .inl (km_pin, 25, .inl fm_pin)), ((mr 17), .inl (km_ways, 6875, .inl fm_ways))]) (w1 := [(h0, .inr (12, fsMM (upd mi 37 y_115) mr)), ((mr 5), .inl (km_reportMonth, 24, .inl fm_reportMonth)), ((mr 6), .inl (km_reportDay, 24, .inl fm_reportDay)), ((mr 3), .inl (km_reportKind, 24, .inl fm_reportKind)), ((mr 14), .inl (km_must, 25, .inl f_116)), ((mr 15), .inl (km_least, 25, .inl f_117))]) hP hD [0, 5, 6, 7, 1, 2] [3, 4] rfl rfl (by decide) (by decide) hk1 hFc hP1 hD1
    have hP := hP.sub (ws' := [(h0, .inr (12, fsMM (upd mi 37 y_115) mr)), ((mr 14), .inl (km_must, 25, .inl f_116)), ((mr 15), .inl (km_least, 25, .inl f_117)), ((mr 16), .inl (km_pin, 25, .inl fm_pin)), ((mr 17), .inl (km_ways, 6875, .inl fm_ways)), ((mr 5), .inl (km_reportMonth, 24, .inl fm_reportMonth)), ((mr 6), .inl (km_reportDay, 24, .inl fm_reportDay)), ((mr 3), .inl (km_reportKind, 24, .inl fm_reportKind))]) [2, 6, 7, 0, 1, 3, 4, 5] rfl
    have hD := hD.sub (ws' := [(h0, .inr (12, fsMM (upd mi 37 y_115) mr)), ((mr 14), .inl (km_must, 25, .inl f_116)), ((mr 15), .inl (km_least, 25, .inl f_117)), ((mr 16), .inl (km_pin, 25, .inl fm_pin)), ((mr 17), .inl (km_ways, 6875, .inl fm_ways)), ((mr 5), .inl (km_reportMonth, 24, .inl fm_reportMonth)), ((mr 6), .inl (km_reportDay, 24, .inl fm_reportDay)), ((mr 3), .inl (km_reportKind, 24, .inl fm_reportKind))]) [2, 6, 7, 0, 1, 3, 4, 5] (by decide) rfl
    generalize H1 = H at hP hS ⊢
    refine lv_aload_n hx hb dX12_judges_64 rfl (lv_at hl 3 rfl) ?_
    have hPc := hP.sub (ws' := [(h0, .inr (12, fsMM (upd mi 37 y_115) mr)), ((mr 14), .inl (km_must, 25, .inl f_116)), ((mr 15), .inl (km_least, 25, .inl f_117)), ((mr 16), .inl (km_pin, 25, .inl fm_pin)), ((mr 17), .inl (km_ways, 6875, .inl fm_ways))]) [0, 1, 2, 3, 4] rfl
    have hKc := hK.sub (tys' := [(km_must, .int), (km_least, .int), (km_pin, .int), (km_ways, .int)]) [0, 1, 2, 3] rfl
    have hDc := hD.sub (ws' := [(h0, .inr (12, fsMM (upd mi 37 y_115) mr)), ((mr 14), .inl (km_must, 25, .inl f_116)), ((mr 15), .inl (km_least, 25, .inl f_117)), ((mr 16), .inl (km_pin, 25, .inl fm_pin)), ((mr 17), .inl (km_ways, 6875, .inl fm_ways))]) [0, 1, 2, 3, 4] (by decide) rfl
    have hFc := va_free (wc := [(h0, .inr (12, fsMM (upd mi 37 y_115) mr)), ((mr 14), .inl (km_must, 25, .inl f_116)), ((mr 15), .inl (km_least, 25, .inl f_117)), ((mr 16), .inl (km_pin, 25, .inl fm_pin)), ((mr 17), .inl (km_ways, 6875, .inl fm_ways))]) hD hS hA [0, 1, 2, 3, 4] rfl
    refine va_calli (va_runV (As := []) (rest := []) ⟨hx, hb, hml, hown, hts⟩ (sX12_counts l dC dI H.size h0 (upd mi 37 y_115) mr km_must f_116 km_least f_117 km_pin fm_pin km_ways fm_ways gmi_0 gmi_1 gmi_2 (gi_w g_110 (by decide)) gmi_7 gmi_10 gmi_17 gmi_23 gmi_24 gmi_26 gmi_29 gmi_30 gmi_33 gy_115 gmi_41 gmi_50 gmi_51 gmi_56) (cwV 0 hts (gz_gV mGB_299 mGB_300 mGB_301 mGB_1 mGB_302 goodGB) rfl rfl rfl (by decide +kernel) ⟨Nat.le_of_ble_eq_true rfl, Nat.le_of_ble_eq_true rfl⟩) ⟨fun a U g mk q => by obtain ⟨q0, q1, qP, qK, qD⟩ := q; exact ⟨q0, q1, qP, va_K.moved (u := U) (U := U.calling g mk a) (Vm.Alike.refl U.vm) qK, qD⟩, va_recv hKc hPc (ci := 12) (q0 := 0) rfl rfl, fun U hU hW => ⟨rfl, by rw [hU], by rw [hU]; exact hPc, va_K.moved hW.alike hKc, hDc.weaken (fun _ _ _ _ => trivial)⟩⟩ rfl rfl hl.1 rfl (lv_room (Nat.le_of_ble_eq_true rfl)) dX12_judges_65 ⟨Nat.zero_le _, Nat.zero_le _⟩) hS (fun q _ h => hFc q h) hFc (fun r_118 u t H1 locs ht hvm hw hB hz1 hk1 hS => ?_)
    obtain ⟨f_119, hP1, hD1⟩ := hB
    rw [ht] at hP1
    obtain ⟨hP, hD⟩ := va_join (wr := [((mr 5), .inl (km_reportMonth, 24, .inl fm_reportMonth)), ((mr 6), .inl (km_reportDay, 24, .inl fm_reportDay)), ((mr 3), .inl (km_reportKind, 24, .inl fm_reportKind))]) (w1 := [(h0, .inr (12, fsMM (upd mi 37 y_115) mr)), ((mr 14), .inl (km_must, 25, .inl f_116)), ((mr 15), .inl (km_least, 25, .inl f_117)), ((mr 16), .inl (km_pin, 25, .inl fm_pin)), ((mr 17), .inl (km_ways, 6875, .inl f_119))]) hP hD [0, 1, 2, 3, 4] [5, 6, 7] rfl rfl (by decide) (by decide) hk1 hFc hP1 hD1
    have hP := hP.sub (ws' := [(h0, .inr (12, fsMM (upd mi 37 y_115) mr)), ((mr 14), .inl (km_must, 25, .inl f_116)), ((mr 15), .inl (km_least, 25, .inl f_117)), ((mr 16), .inl (km_pin, 25, .inl fm_pin)), ((mr 17), .inl (km_ways, 6875, .inl f_119)), ((mr 5), .inl (km_reportMonth, 24, .inl fm_reportMonth)), ((mr 6), .inl (km_reportDay, 24, .inl fm_reportDay)), ((mr 3), .inl (km_reportKind, 24, .inl fm_reportKind))]) [3, 4, 5, 6, 7, 0, 1, 2] rfl
    have hD := hD.sub (ws' := [(h0, .inr (12, fsMM (upd mi 37 y_115) mr)), ((mr 14), .inl (km_must, 25, .inl f_116)), ((mr 15), .inl (km_least, 25, .inl f_117)), ((mr 16), .inl (km_pin, 25, .inl fm_pin)), ((mr 17), .inl (km_ways, 6875, .inl f_119)), ((mr 5), .inl (km_reportMonth, 24, .inl fm_reportMonth)), ((mr 6), .inl (km_reportDay, 24, .inl fm_reportDay)), ((mr 3), .inl (km_reportKind, 24, .inl fm_reportKind))]) [3, 4, 5, 6, 7, 0, 1, 2] (by decide) rfl
    generalize H1 = H at hP hS ⊢
    refine lv_if_le (tgt := 73) hx hb dX12_judges_68 (by decide) (fun c_120 => ?_) (fun c_120 => ?_)
    · have g_121 : gi r_118 (-2147483648) 0 := gi_le_l c_120 (gi_any r_118) (gi_c 0 0 (by decide))
      refine lv_aload_n hx hb dX12_judges_73 rfl (lv_at hl 3 rfl) ?_
      refine va_get (D := (dC, dI)) (ci := 12) (v := .ref (mr 14)) (C := RX12) (T := TX12) (N := 57) hx hb hts (fun w h => List.mem_cons_of_mem _ (jnGB_X12 w h)) hown hK hP 0 rfl rfl 34 (by decide) (hts _ (List.mem_cons_of_mem _ mGB_26)) (fun _ h9 => h9) rfl dX12_judges_74 ?_
      refine lv_iload_n hx hb dX12_judges_77 rfl (lv_at hl 2 rfl) ?_
      refine lv_iload_n hx hb dX12_judges_78 rfl (lv_at hl 1 rfl) ?_
      refine va_iast hx hb hK hP hD hS 1 0 rfl rfl (gi_in gx_111 (by decide)) dX12_judges_79 (fun H locs hP hD hS => ?_)
      have hP : va_P (dC, dI) vwCl [(h0, .inr (12, fsMM (upd mi 37 y_115) mr)), ((mr 14), .inl (km_must, 25, .inl (upd f_116 (x_111 : Int32).toNatClampNeg x_112))), ((mr 15), .inl (km_least, 25, .inl f_117)), ((mr 16), .inl (km_pin, 25, .inl fm_pin)), ((mr 17), .inl (km_ways, 6875, .inl f_119)), ((mr 5), .inl (km_reportMonth, 24, .inl fm_reportMonth)), ((mr 6), .inl (km_reportDay, 24, .inl fm_reportDay)), ((mr 3), .inl (km_reportKind, 24, .inl fm_reportKind))] H := hP
      have hD : va_D A [(h0, .inr (12, fsMM (upd mi 37 y_115) mr)), ((mr 14), .inl (km_must, 25, .inl (upd f_116 (x_111 : Int32).toNatClampNeg x_112))), ((mr 15), .inl (km_least, 25, .inl f_117)), ((mr 16), .inl (km_pin, 25, .inl fm_pin)), ((mr 17), .inl (km_ways, 6875, .inl f_119)), ((mr 5), .inl (km_reportMonth, 24, .inl fm_reportMonth)), ((mr 6), .inl (km_reportDay, 24, .inl fm_reportDay)), ((mr 3), .inl (km_reportKind, 24, .inl fm_reportKind))] := hD
      generalize upd f_116 (x_111 : Int32).toNatClampNeg x_112 = f_122 at hP hD
      refine lv_aload_n hx hb dX12_judges_80 rfl (lv_at hl 3 rfl) ?_
      refine va_get (D := (dC, dI)) (ci := 12) (v := .ref (mr 15)) (C := RX12) (T := TX12) (N := 57) hx hb hts (fun w h => List.mem_cons_of_mem _ (jnGB_X12 w h)) hown hK hP 0 rfl rfl 35 (by decide) (hts _ (List.mem_cons_of_mem _ mGB_27)) (fun _ h9 => h9) rfl dX12_judges_81 ?_
      refine lv_iload_n hx hb dX12_judges_84 rfl (lv_at hl 2 rfl) ?_
      refine lv_iload hx hb dX12_judges_85 (lv_at hl 0 rfl) ?_
      refine va_iast hx hb hK hP hD hS 2 1 rfl rfl (gi_in gx_111 (by decide)) dX12_judges_87 (fun H locs hP hD hS => ?_)
      have hP : va_P (dC, dI) vwCl [(h0, .inr (12, fsMM (upd mi 37 y_115) mr)), ((mr 14), .inl (km_must, 25, .inl f_122)), ((mr 15), .inl (km_least, 25, .inl (upd f_117 (x_111 : Int32).toNatClampNeg x_113))), ((mr 16), .inl (km_pin, 25, .inl fm_pin)), ((mr 17), .inl (km_ways, 6875, .inl f_119)), ((mr 5), .inl (km_reportMonth, 24, .inl fm_reportMonth)), ((mr 6), .inl (km_reportDay, 24, .inl fm_reportDay)), ((mr 3), .inl (km_reportKind, 24, .inl fm_reportKind))] H := hP
      have hD : va_D A [(h0, .inr (12, fsMM (upd mi 37 y_115) mr)), ((mr 14), .inl (km_must, 25, .inl f_122)), ((mr 15), .inl (km_least, 25, .inl (upd f_117 (x_111 : Int32).toNatClampNeg x_113))), ((mr 16), .inl (km_pin, 25, .inl fm_pin)), ((mr 17), .inl (km_ways, 6875, .inl f_119)), ((mr 5), .inl (km_reportMonth, 24, .inl fm_reportMonth)), ((mr 6), .inl (km_reportDay, 24, .inl fm_reportDay)), ((mr 3), .inl (km_reportKind, 24, .inl fm_reportKind))] := hD
      generalize upd f_117 (x_111 : Int32).toNatClampNeg x_113 = f_123 at hP hD
      refine lv_aload_n hx hb dX12_judges_88 rfl (lv_at hl 3 rfl) ?_
      refine lv_iconst (v := 0) hx hb dX12_judges_89 (by decide) ?_
      refine va_put (D := (dC, dI)) (ci := 12) (v := .int 0) (ty := .boolean) (C := RX12) (T := TX12) (N := 57) hx hb hts (fun w h => List.mem_cons_of_mem _ (jnGB_X12 w h)) tyX12 tyX12_ok nmX12 hown hK hP hD hS 0 rfl rfl 37 (by decide) (hts _ (List.mem_cons_of_mem _ mGB_270)) (fun _ h9 => h9) rfl (by decide +kernel) rfl rfl (Nat.le_of_ble_eq_true rfl) dX12_judges_90 (fun H locs hP hD hS => ?_)
      have hP : va_P (dC, dI) vwCl [(h0, .inr (12, fsMM (upd mi 37 0) mr)), ((mr 14), .inl (km_must, 25, .inl f_122)), ((mr 15), .inl (km_least, 25, .inl f_123)), ((mr 16), .inl (km_pin, 25, .inl fm_pin)), ((mr 17), .inl (km_ways, 6875, .inl f_119)), ((mr 5), .inl (km_reportMonth, 24, .inl fm_reportMonth)), ((mr 6), .inl (km_reportDay, 24, .inl fm_reportDay)), ((mr 3), .inl (km_reportKind, 24, .inl fm_reportKind))] H := hP
      have hD : va_D A [(h0, .inr (12, fsMM (upd mi 37 0) mr)), ((mr 14), .inl (km_must, 25, .inl f_122)), ((mr 15), .inl (km_least, 25, .inl f_123)), ((mr 16), .inl (km_pin, 25, .inl fm_pin)), ((mr 17), .inl (km_ways, 6875, .inl f_119)), ((mr 5), .inl (km_reportMonth, 24, .inl fm_reportMonth)), ((mr 6), .inl (km_reportDay, 24, .inl fm_reportDay)), ((mr 3), .inl (km_reportKind, 24, .inl fm_reportKind))] := hD
      refine lv_iconst (v := 2) hx hb dX12_judges_93 (by decide) ?_
      exact W.iret (v := 2) hx hb hr (fun t ht hW => ⟨⟨2, (), rfl, (gi_w (gi_c 2 2 (by decide)) (by decide)), 0, f_122, f_123, f_119, (gi_w (gi_c 0 0 (by decide)) (by decide)), by rw [ht]; exact hP, hD⟩, hS.F ht⟩) hS.2.2 dX12_judges_94
    · have g_124 : gi r_118 1 2147483647 := gi_lt_r (Int32.not_le.mp c_120) (gi_c 0 0 (by decide)) (gi_any r_118) (by decide)
      refine lv_iconst (v := 0) hx hb dX12_judges_71 (by decide) ?_
      exact W.iret (v := 0) hx hb hr (fun t ht hW => ⟨⟨0, (), rfl, (gi_w (gi_c 0 0 (by decide)) (by decide)), y_115, f_116, f_117, f_119, gy_115, by rw [ht]; exact hP, hD⟩, hS.F ht⟩) hS.2.2 dX12_judges_72
  · have g_125 : gi (mi 4) 1 1 := gi_ne_lo c_109 gmi_4 (gi_c 0 0 (by decide)) (by decide)
    refine lv_aload_n hx hb dX12_judges_7 rfl (lv_at hl 0 rfl) ?_
    refine va_get (D := (dC, dI)) (ci := 12) (v := .ref (mr 3)) (C := RX12) (T := TX12) (N := 57) hx hb hts (fun w h => List.mem_cons_of_mem _ (jnGB_X12 w h)) hown hK hP 0 rfl rfl 12 (by decide) (hts _ (List.mem_cons_of_mem _ mGB_13)) (fun _ h9 => h9) rfl dX12_judges_8 ?_
    refine lv_iload_n hx hb dX12_judges_11 rfl (lv_at hl 1 rfl) ?_
    refine va_iald hx hb hK hP 7 6 rfl rfl (gi_in gp1 (by decide)) dX12_judges_12 ?_
    refine lv_topi (fun x_126 ex_126 => ?_)
    refine lv_if_ne (tgt := 37) hx hb dX12_judges_13 (by decide) (fun c_127 => ?_) (fun c_127 => ?_)
    · refine lv_aload_n hx hb dX12_judges_37 rfl (lv_at hl 0 rfl) ?_
      refine va_get (D := (dC, dI)) (ci := 12) (v := .ref (mr 5)) (C := RX12) (T := TX12) (N := 57) hx hb hts (fun w h => List.mem_cons_of_mem _ (jnGB_X12 w h)) hown hK hP 0 rfl rfl 14 (by decide) (hts _ (List.mem_cons_of_mem _ mGB_16)) (fun _ h9 => h9) rfl dX12_judges_38 ?_
      refine lv_iload_n hx hb dX12_judges_41 rfl (lv_at hl 1 rfl) ?_
      refine va_iald hx hb hK hP 5 4 rfl rfl (gi_in gp1 (by decide)) dX12_judges_42 ?_
      refine lv_topi (fun x_128 ex_128 => ?_)
      have gx_128 : gi x_128 0 23 := ga_at gfm_reportMonth (gi_in gp1 (by decide)) ex_128
      refine lv_istore_n (lv' := [(2, .int x_128), (0, .ref h0), (1, .int p1)]) hx hb dX12_judges_43 rfl hl (by decide) rfl (fun ls hl => ?_)
      refine lv_aload_n hx hb dX12_judges_44 rfl (lv_at hl 1 rfl) ?_
      refine va_get (D := (dC, dI)) (ci := 12) (v := .ref (mr 14)) (C := RX12) (T := TX12) (N := 57) hx hb hts (fun w h => List.mem_cons_of_mem _ (jnGB_X12 w h)) hown hK hP 0 rfl rfl 34 (by decide) (hts _ (List.mem_cons_of_mem _ mGB_26)) (fun _ h9 => h9) rfl dX12_judges_45 ?_
      refine lv_iload_n hx hb dX12_judges_48 rfl (lv_at hl 0 rfl) ?_
      refine va_iald hx hb hK hP 1 0 rfl rfl (gi_in gx_128 (by decide)) dX12_judges_49 ?_
      refine lv_topi (fun x_129 ex_129 => ?_)
      refine lv_istore_n (lv' := [(3, .int x_129), (2, .int x_128), (0, .ref h0), (1, .int p1)]) hx hb dX12_judges_50 rfl hl (by decide) rfl (fun ls hl => ?_)
      refine lv_aload_n hx hb dX12_judges_51 rfl (lv_at hl 2 rfl) ?_
      refine va_get (D := (dC, dI)) (ci := 12) (v := .ref (mr 15)) (C := RX12) (T := TX12) (N := 57) hx hb hts (fun w h => List.mem_cons_of_mem _ (jnGB_X12 w h)) hown hK hP 0 rfl rfl 35 (by decide) (hts _ (List.mem_cons_of_mem _ mGB_27)) (fun _ h9 => h9) rfl dX12_judges_52 ?_
      refine lv_iload_n hx hb dX12_judges_55 rfl (lv_at hl 1 rfl) ?_
      refine va_iald hx hb hK hP 2 1 rfl rfl (gi_in gx_128 (by decide)) dX12_judges_56 ?_
      refine lv_topi (fun x_130 ex_130 => ?_)
      refine lv_istore (lv' := [(4, .int x_130), (3, .int x_129), (2, .int x_128), (0, .ref h0), (1, .int p1)]) hx hb dX12_judges_57 hl (by decide) rfl (fun ls hl => ?_)
      refine lv_aload_n hx hb dX12_judges_59 rfl (lv_at hl 3 rfl) ?_
      refine lv_iload_n hx hb dX12_judges_60 rfl (lv_at hl 4 rfl) ?_
      have hPc := hP.sub (ws' := [(h0, .inr (12, fsMM mi mr)), ((mr 5), .inl (km_reportMonth, 24, .inl fm_reportMonth)), ((mr 6), .inl (km_reportDay, 24, .inl fm_reportDay)), ((mr 3), .inl (km_reportKind, 24, .inl fm_reportKind)), ((mr 14), .inl (km_must, 25, .inl fm_must)), ((mr 15), .inl (km_least, 25, .inl fm_least))]) [0, 5, 6, 7, 1, 2] rfl
      have hKc := hK.sub (tys' := [(km_reportMonth, .int), (km_reportDay, .int), (km_reportKind, .int), (km_must, .int), (km_least, .int)]) [4, 5, 6, 0, 1] rfl
      have hDc := hD.sub (ws' := [(h0, .inr (12, fsMM mi mr)), ((mr 5), .inl (km_reportMonth, 24, .inl fm_reportMonth)), ((mr 6), .inl (km_reportDay, 24, .inl fm_reportDay)), ((mr 3), .inl (km_reportKind, 24, .inl fm_reportKind)), ((mr 14), .inl (km_must, 25, .inl fm_must)), ((mr 15), .inl (km_least, 25, .inl fm_least))]) [0, 5, 6, 7, 1, 2] (by decide) rfl
      have hFc := va_free (wc := [(h0, .inr (12, fsMM mi mr)), ((mr 5), .inl (km_reportMonth, 24, .inl fm_reportMonth)), ((mr 6), .inl (km_reportDay, 24, .inl fm_reportDay)), ((mr 3), .inl (km_reportKind, 24, .inl fm_reportKind)), ((mr 14), .inl (km_must, 25, .inl fm_must)), ((mr 15), .inl (km_least, 25, .inl fm_least))]) hD hS hA [0, 5, 6, 7, 1, 2] rfl
      refine va_callv (va_runV (As := [.int p1]) (rest := []) ⟨hx, hb, hml, hown, hts⟩ (sX12_holds l dC dI s.heap.size h0 mi mr km_reportMonth fm_reportMonth km_reportDay fm_reportDay km_reportKind fm_reportKind km_must fm_must km_least fm_least p1 gmi_0 gmi_1 gmi_2 (gi_w g_125 (by decide)) gmi_7 gmi_10 gmi_17 gmi_23 gmi_24 gmi_26 gmi_29 gmi_30 gmi_33 gmi_37 gmi_41 gmi_50 gmi_51 gmi_56 gfm_reportMonth gfm_reportDay gp1) (cwV 1 hts (gz_gV mGB_295 mGB_296 mGB_297 mGB_1 mGB_298 goodGB) rfl rfl rfl (by decide +kernel) ⟨Nat.le_of_ble_eq_true rfl, Nat.le_of_ble_eq_true rfl⟩) ⟨fun a U g mk q => by obtain ⟨q0, q1, qP, qK, qD⟩ := q; exact ⟨q0, q1, qP, va_K.moved (u := U) (U := U.calling g mk a) (Vm.Alike.refl U.vm) qK, qD⟩, va_recv hKc hPc (ci := 12) (q0 := 0) rfl rfl, fun U hU hW => ⟨rfl, by rw [hU], by rw [hU]; exact hPc, va_K.moved hW.alike hKc, hDc.weaken (fun _ _ _ _ => trivial)⟩⟩ rfl rfl hl.1 rfl (lv_room (Nat.le_of_ble_eq_true rfl)) dX12_judges_61 ⟨Nat.zero_le _, Nat.zero_le _⟩) hS (fun q _ h => hFc q h) hFc (fun u t H1 locs ht hvm hw hB hz1 hk1 hS => ?_)
      obtain ⟨y_132, f_133, f_134, gy_132, hP1, hD1⟩ := hB
      rw [ht] at hP1
      obtain ⟨hP, hD⟩ := va_join (wr := [((mr 16), .inl (km_pin, 25, .inl fm_pin)), ((mr 17), .inl (km_ways, 6875, .inl fm_ways))]) (w1 := [(h0, .inr (12, fsMM (upd mi 37 y_132) mr)), ((mr 5), .inl (km_reportMonth, 24, .inl fm_reportMonth)), ((mr 6), .inl (km_reportDay, 24, .inl fm_reportDay)), ((mr 3), .inl (km_reportKind, 24, .inl fm_reportKind)), ((mr 14), .inl (km_must, 25, .inl f_133)), ((mr 15), .inl (km_least, 25, .inl f_134))]) hP hD [0, 5, 6, 7, 1, 2] [3, 4] rfl rfl (by decide) (by decide) hk1 hFc hP1 hD1
      have hP := hP.sub (ws' := [(h0, .inr (12, fsMM (upd mi 37 y_132) mr)), ((mr 14), .inl (km_must, 25, .inl f_133)), ((mr 15), .inl (km_least, 25, .inl f_134)), ((mr 16), .inl (km_pin, 25, .inl fm_pin)), ((mr 17), .inl (km_ways, 6875, .inl fm_ways)), ((mr 5), .inl (km_reportMonth, 24, .inl fm_reportMonth)), ((mr 6), .inl (km_reportDay, 24, .inl fm_reportDay)), ((mr 3), .inl (km_reportKind, 24, .inl fm_reportKind))]) [2, 6, 7, 0, 1, 3, 4, 5] rfl
      have hD := hD.sub (ws' := [(h0, .inr (12, fsMM (upd mi 37 y_132) mr)), ((mr 14), .inl (km_must, 25, .inl f_133)), ((mr 15), .inl (km_least, 25, .inl f_134)), ((mr 16), .inl (km_pin, 25, .inl fm_pin)), ((mr 17), .inl (km_ways, 6875, .inl fm_ways)), ((mr 5), .inl (km_reportMonth, 24, .inl fm_reportMonth)), ((mr 6), .inl (km_reportDay, 24, .inl fm_reportDay)), ((mr 3), .inl (km_reportKind, 24, .inl fm_reportKind))]) [2, 6, 7, 0, 1, 3, 4, 5] (by decide) rfl
      generalize H1 = H at hP hS ⊢
      refine lv_aload_n hx hb dX12_judges_64 rfl (lv_at hl 3 rfl) ?_
      have hPc := hP.sub (ws' := [(h0, .inr (12, fsMM (upd mi 37 y_132) mr)), ((mr 14), .inl (km_must, 25, .inl f_133)), ((mr 15), .inl (km_least, 25, .inl f_134)), ((mr 16), .inl (km_pin, 25, .inl fm_pin)), ((mr 17), .inl (km_ways, 6875, .inl fm_ways))]) [0, 1, 2, 3, 4] rfl
      have hKc := hK.sub (tys' := [(km_must, .int), (km_least, .int), (km_pin, .int), (km_ways, .int)]) [0, 1, 2, 3] rfl
      have hDc := hD.sub (ws' := [(h0, .inr (12, fsMM (upd mi 37 y_132) mr)), ((mr 14), .inl (km_must, 25, .inl f_133)), ((mr 15), .inl (km_least, 25, .inl f_134)), ((mr 16), .inl (km_pin, 25, .inl fm_pin)), ((mr 17), .inl (km_ways, 6875, .inl fm_ways))]) [0, 1, 2, 3, 4] (by decide) rfl
      have hFc := va_free (wc := [(h0, .inr (12, fsMM (upd mi 37 y_132) mr)), ((mr 14), .inl (km_must, 25, .inl f_133)), ((mr 15), .inl (km_least, 25, .inl f_134)), ((mr 16), .inl (km_pin, 25, .inl fm_pin)), ((mr 17), .inl (km_ways, 6875, .inl fm_ways))]) hD hS hA [0, 1, 2, 3, 4] rfl
      refine va_calli (va_runV (As := []) (rest := []) ⟨hx, hb, hml, hown, hts⟩ (sX12_counts l dC dI H.size h0 (upd mi 37 y_132) mr km_must f_133 km_least f_134 km_pin fm_pin km_ways fm_ways gmi_0 gmi_1 gmi_2 (gi_w g_125 (by decide)) gmi_7 gmi_10 gmi_17 gmi_23 gmi_24 gmi_26 gmi_29 gmi_30 gmi_33 gy_132 gmi_41 gmi_50 gmi_51 gmi_56) (cwV 0 hts (gz_gV mGB_299 mGB_300 mGB_301 mGB_1 mGB_302 goodGB) rfl rfl rfl (by decide +kernel) ⟨Nat.le_of_ble_eq_true rfl, Nat.le_of_ble_eq_true rfl⟩) ⟨fun a U g mk q => by obtain ⟨q0, q1, qP, qK, qD⟩ := q; exact ⟨q0, q1, qP, va_K.moved (u := U) (U := U.calling g mk a) (Vm.Alike.refl U.vm) qK, qD⟩, va_recv hKc hPc (ci := 12) (q0 := 0) rfl rfl, fun U hU hW => ⟨rfl, by rw [hU], by rw [hU]; exact hPc, va_K.moved hW.alike hKc, hDc.weaken (fun _ _ _ _ => trivial)⟩⟩ rfl rfl hl.1 rfl (lv_room (Nat.le_of_ble_eq_true rfl)) dX12_judges_65 ⟨Nat.zero_le _, Nat.zero_le _⟩) hS (fun q _ h => hFc q h) hFc (fun r_135 u t H1 locs ht hvm hw hB hz1 hk1 hS => ?_)
      obtain ⟨f_136, hP1, hD1⟩ := hB
      rw [ht] at hP1
      obtain ⟨hP, hD⟩ := va_join (wr := [((mr 5), .inl (km_reportMonth, 24, .inl fm_reportMonth)), ((mr 6), .inl (km_reportDay, 24, .inl fm_reportDay)), ((mr 3), .inl (km_reportKind, 24, .inl fm_reportKind))]) (w1 := [(h0, .inr (12, fsMM (upd mi 37 y_132) mr)), ((mr 14), .inl (km_must, 25, .inl f_133)), ((mr 15), .inl (km_least, 25, .inl f_134)), ((mr 16), .inl (km_pin, 25, .inl fm_pin)), ((mr 17), .inl (km_ways, 6875, .inl f_136))]) hP hD [0, 1, 2, 3, 4] [5, 6, 7] rfl rfl (by decide) (by decide) hk1 hFc hP1 hD1
      have hP := hP.sub (ws' := [(h0, .inr (12, fsMM (upd mi 37 y_132) mr)), ((mr 14), .inl (km_must, 25, .inl f_133)), ((mr 15), .inl (km_least, 25, .inl f_134)), ((mr 16), .inl (km_pin, 25, .inl fm_pin)), ((mr 17), .inl (km_ways, 6875, .inl f_136)), ((mr 5), .inl (km_reportMonth, 24, .inl fm_reportMonth)), ((mr 6), .inl (km_reportDay, 24, .inl fm_reportDay)), ((mr 3), .inl (km_reportKind, 24, .inl fm_reportKind))]) [3, 4, 5, 6, 7, 0, 1, 2] rfl
      have hD := hD.sub (ws' := [(h0, .inr (12, fsMM (upd mi 37 y_132) mr)), ((mr 14), .inl (km_must, 25, .inl f_133)), ((mr 15), .inl (km_least, 25, .inl f_134)), ((mr 16), .inl (km_pin, 25, .inl fm_pin)), ((mr 17), .inl (km_ways, 6875, .inl f_136)), ((mr 5), .inl (km_reportMonth, 24, .inl fm_reportMonth)), ((mr 6), .inl (km_reportDay, 24, .inl fm_reportDay)), ((mr 3), .inl (km_reportKind, 24, .inl fm_reportKind))]) [3, 4, 5, 6, 7, 0, 1, 2] (by decide) rfl
      generalize H1 = H at hP hS ⊢
      refine lv_if_le (tgt := 73) hx hb dX12_judges_68 (by decide) (fun c_137 => ?_) (fun c_137 => ?_)
      · have g_138 : gi r_135 (-2147483648) 0 := gi_le_l c_137 (gi_any r_135) (gi_c 0 0 (by decide))
        refine lv_aload_n hx hb dX12_judges_73 rfl (lv_at hl 3 rfl) ?_
        refine va_get (D := (dC, dI)) (ci := 12) (v := .ref (mr 14)) (C := RX12) (T := TX12) (N := 57) hx hb hts (fun w h => List.mem_cons_of_mem _ (jnGB_X12 w h)) hown hK hP 0 rfl rfl 34 (by decide) (hts _ (List.mem_cons_of_mem _ mGB_26)) (fun _ h9 => h9) rfl dX12_judges_74 ?_
        refine lv_iload_n hx hb dX12_judges_77 rfl (lv_at hl 2 rfl) ?_
        refine lv_iload_n hx hb dX12_judges_78 rfl (lv_at hl 1 rfl) ?_
        refine va_iast hx hb hK hP hD hS 1 0 rfl rfl (gi_in gx_128 (by decide)) dX12_judges_79 (fun H locs hP hD hS => ?_)
        have hP : va_P (dC, dI) vwCl [(h0, .inr (12, fsMM (upd mi 37 y_132) mr)), ((mr 14), .inl (km_must, 25, .inl (upd f_133 (x_128 : Int32).toNatClampNeg x_129))), ((mr 15), .inl (km_least, 25, .inl f_134)), ((mr 16), .inl (km_pin, 25, .inl fm_pin)), ((mr 17), .inl (km_ways, 6875, .inl f_136)), ((mr 5), .inl (km_reportMonth, 24, .inl fm_reportMonth)), ((mr 6), .inl (km_reportDay, 24, .inl fm_reportDay)), ((mr 3), .inl (km_reportKind, 24, .inl fm_reportKind))] H := hP
        have hD : va_D A [(h0, .inr (12, fsMM (upd mi 37 y_132) mr)), ((mr 14), .inl (km_must, 25, .inl (upd f_133 (x_128 : Int32).toNatClampNeg x_129))), ((mr 15), .inl (km_least, 25, .inl f_134)), ((mr 16), .inl (km_pin, 25, .inl fm_pin)), ((mr 17), .inl (km_ways, 6875, .inl f_136)), ((mr 5), .inl (km_reportMonth, 24, .inl fm_reportMonth)), ((mr 6), .inl (km_reportDay, 24, .inl fm_reportDay)), ((mr 3), .inl (km_reportKind, 24, .inl fm_reportKind))] := hD
        generalize upd f_133 (x_128 : Int32).toNatClampNeg x_129 = f_139 at hP hD
        refine lv_aload_n hx hb dX12_judges_80 rfl (lv_at hl 3 rfl) ?_
        refine va_get (D := (dC, dI)) (ci := 12) (v := .ref (mr 15)) (C := RX12) (T := TX12) (N := 57) hx hb hts (fun w h => List.mem_cons_of_mem _ (jnGB_X12 w h)) hown hK hP 0 rfl rfl 35 (by decide) (hts _ (List.mem_cons_of_mem _ mGB_27)) (fun _ h9 => h9) rfl dX12_judges_81 ?_
        refine lv_iload_n hx hb dX12_judges_84 rfl (lv_at hl 2 rfl) ?_
        refine lv_iload hx hb dX12_judges_85 (lv_at hl 0 rfl) ?_
        refine va_iast hx hb hK hP hD hS 2 1 rfl rfl (gi_in gx_128 (by decide)) dX12_judges_87 (fun H locs hP hD hS => ?_)
        have hP : va_P (dC, dI) vwCl [(h0, .inr (12, fsMM (upd mi 37 y_132) mr)), ((mr 14), .inl (km_must, 25, .inl f_139)), ((mr 15), .inl (km_least, 25, .inl (upd f_134 (x_128 : Int32).toNatClampNeg x_130))), ((mr 16), .inl (km_pin, 25, .inl fm_pin)), ((mr 17), .inl (km_ways, 6875, .inl f_136)), ((mr 5), .inl (km_reportMonth, 24, .inl fm_reportMonth)), ((mr 6), .inl (km_reportDay, 24, .inl fm_reportDay)), ((mr 3), .inl (km_reportKind, 24, .inl fm_reportKind))] H := hP
        have hD : va_D A [(h0, .inr (12, fsMM (upd mi 37 y_132) mr)), ((mr 14), .inl (km_must, 25, .inl f_139)), ((mr 15), .inl (km_least, 25, .inl (upd f_134 (x_128 : Int32).toNatClampNeg x_130))), ((mr 16), .inl (km_pin, 25, .inl fm_pin)), ((mr 17), .inl (km_ways, 6875, .inl f_136)), ((mr 5), .inl (km_reportMonth, 24, .inl fm_reportMonth)), ((mr 6), .inl (km_reportDay, 24, .inl fm_reportDay)), ((mr 3), .inl (km_reportKind, 24, .inl fm_reportKind))] := hD
        generalize upd f_134 (x_128 : Int32).toNatClampNeg x_130 = f_140 at hP hD
        refine lv_aload_n hx hb dX12_judges_88 rfl (lv_at hl 3 rfl) ?_
        refine lv_iconst (v := 0) hx hb dX12_judges_89 (by decide) ?_
        refine va_put (D := (dC, dI)) (ci := 12) (v := .int 0) (ty := .boolean) (C := RX12) (T := TX12) (N := 57) hx hb hts (fun w h => List.mem_cons_of_mem _ (jnGB_X12 w h)) tyX12 tyX12_ok nmX12 hown hK hP hD hS 0 rfl rfl 37 (by decide) (hts _ (List.mem_cons_of_mem _ mGB_270)) (fun _ h9 => h9) rfl (by decide +kernel) rfl rfl (Nat.le_of_ble_eq_true rfl) dX12_judges_90 (fun H locs hP hD hS => ?_)
        have hP : va_P (dC, dI) vwCl [(h0, .inr (12, fsMM (upd mi 37 0) mr)), ((mr 14), .inl (km_must, 25, .inl f_139)), ((mr 15), .inl (km_least, 25, .inl f_140)), ((mr 16), .inl (km_pin, 25, .inl fm_pin)), ((mr 17), .inl (km_ways, 6875, .inl f_136)), ((mr 5), .inl (km_reportMonth, 24, .inl fm_reportMonth)), ((mr 6), .inl (km_reportDay, 24, .inl fm_reportDay)), ((mr 3), .inl (km_reportKind, 24, .inl fm_reportKind))] H := hP
        have hD : va_D A [(h0, .inr (12, fsMM (upd mi 37 0) mr)), ((mr 14), .inl (km_must, 25, .inl f_139)), ((mr 15), .inl (km_least, 25, .inl f_140)), ((mr 16), .inl (km_pin, 25, .inl fm_pin)), ((mr 17), .inl (km_ways, 6875, .inl f_136)), ((mr 5), .inl (km_reportMonth, 24, .inl fm_reportMonth)), ((mr 6), .inl (km_reportDay, 24, .inl fm_reportDay)), ((mr 3), .inl (km_reportKind, 24, .inl fm_reportKind))] := hD
        refine lv_iconst (v := 2) hx hb dX12_judges_93 (by decide) ?_
        exact W.iret (v := 2) hx hb hr (fun t ht hW => ⟨⟨2, (), rfl, (gi_w (gi_c 2 2 (by decide)) (by decide)), 0, f_139, f_140, f_136, (gi_w (gi_c 0 0 (by decide)) (by decide)), by rw [ht]; exact hP, hD⟩, hS.F ht⟩) hS.2.2 dX12_judges_94
      · have g_141 : gi r_135 1 2147483647 := gi_lt_r (Int32.not_le.mp c_137) (gi_c 0 0 (by decide)) (gi_any r_135) (by decide)
        refine lv_iconst (v := 0) hx hb dX12_judges_71 (by decide) ?_
        exact W.iret (v := 0) hx hb hr (fun t ht hW => ⟨⟨0, (), rfl, (gi_w (gi_c 0 0 (by decide)) (by decide)), y_132, f_133, f_134, f_136, gy_132, by rw [ht]; exact hP, hD⟩, hS.F ht⟩) hS.2.2 dX12_judges_72
    · have g_142 : gi x_126 0 0 := gi_eq c_127 (gi_c 0 0 (by decide))
      refine lv_aload_n hx hb dX12_judges_16 rfl (lv_at hl 0 rfl) ?_
      refine va_get (D := (dC, dI)) (ci := 12) (v := .ref (mr 6)) (C := RX12) (T := TX12) (N := 57) hx hb hts (fun w h => List.mem_cons_of_mem _ (jnGB_X12 w h)) hown hK hP 0 rfl rfl 15 (by decide) (hts _ (List.mem_cons_of_mem _ mGB_17)) (fun _ h9 => h9) rfl dX12_judges_17 ?_
      refine lv_iload_n hx hb dX12_judges_20 rfl (lv_at hl 1 rfl) ?_
      refine va_iald hx hb hK hP 6 5 rfl rfl (gi_in gp1 (by decide)) dX12_judges_21 ?_
      refine lv_topi (fun x_143 ex_143 => ?_)
      have gx_143 : gi x_143 0 999 := ga_at gfm_reportDay (gi_in gp1 (by decide)) ex_143
      refine lv_aload_n hx hb dX12_judges_22 rfl (lv_at hl 0 rfl) ?_
      refine lv_aload_n hx hb dX12_judges_23 rfl (lv_at hl 0 rfl) ?_
      refine va_get (D := (dC, dI)) (ci := 12) (v := .ref (mr 5)) (C := RX12) (T := TX12) (N := 57) hx hb hts (fun w h => List.mem_cons_of_mem _ (jnGB_X12 w h)) hown hK hP 0 rfl rfl 14 (by decide) (hts _ (List.mem_cons_of_mem _ mGB_16)) (fun _ h9 => h9) rfl dX12_judges_24 ?_
      refine lv_iload_n hx hb dX12_judges_27 rfl (lv_at hl 1 rfl) ?_
      refine va_iald hx hb hK hP 5 4 rfl rfl (gi_in gp1 (by decide)) dX12_judges_28 ?_
      refine lv_topi (fun x_144 ex_144 => ?_)
      have gx_144 : gi x_144 0 23 := ga_at gfm_reportMonth (gi_in gp1 (by decide)) ex_144
      have hPc := hP.sub (ws' := [(h0, .inr (12, fsMM mi mr))]) [0] rfl
      have hKc := hK.sub (tys' := []) [] rfl
      refine va_calli (va_runV (As := [.int x_144]) (rest := [.int x_143]) ⟨hx, hb, hml, hown, hts⟩ (sX12_earlyOf l dC dI h0 mi mr x_144 gmi_0 gmi_1 gmi_2 (gi_w g_125 (by decide)) gmi_7 gmi_10 gmi_17 gmi_23 gmi_24 gmi_26 gmi_29 gmi_30 gmi_33 gmi_37 gmi_41 gmi_50 gmi_51 gmi_56) (cwV 1 hts (gz_gV mGB_249 mGB_250 mGB_251 mGB_1 mGB_252 goodGB) rfl rfl rfl (by decide +kernel) ⟨Nat.le_of_ble_eq_true rfl, Nat.le_of_ble_eq_true rfl⟩) ⟨fun a U g mk q => by obtain ⟨q0, qP, qK⟩ := q; exact ⟨q0, qP, va_K.moved (u := U) (U := U.calling g mk a) (Vm.Alike.refl U.vm) qK⟩, va_recv hKc hPc (ci := 12) (q0 := 0) rfl rfl, fun U hU hW => ⟨rfl, by rw [hU]; exact hPc, va_K.moved hW.alike hKc⟩⟩ rfl rfl hl.1 rfl (lv_room (Nat.le_of_ble_eq_true rfl)) dX12_judges_29 ⟨Nat.zero_le _, Nat.zero_le _⟩) hS (fun q _ h => h.elim) (fun q h => h.elim) (fun r_145 u t H1 locs ht hvm hw hB hz1 hk1 hS => ?_)
      have hP := gz_keep hP hk1
      generalize H1 = H at hP hS ⊢
      refine lv_icmp_ge (tgt := 37) hx hb dX12_judges_32 (by decide) (fun c_146 => ?_) (fun c_146 => ?_)
      · have g_147 : gi r_145 (-2147483648) 999 := gi_le_l c_146 (gi_any r_145) gx_143
        refine lv_aload_n hx hb dX12_judges_37 rfl (lv_at hl 0 rfl) ?_
        refine va_get (D := (dC, dI)) (ci := 12) (v := .ref (mr 5)) (C := RX12) (T := TX12) (N := 57) hx hb hts (fun w h => List.mem_cons_of_mem _ (jnGB_X12 w h)) hown hK hP 0 rfl rfl 14 (by decide) (hts _ (List.mem_cons_of_mem _ mGB_16)) (fun _ h9 => h9) rfl dX12_judges_38 ?_
        refine lv_iload_n hx hb dX12_judges_41 rfl (lv_at hl 1 rfl) ?_
        refine va_iald hx hb hK hP 5 4 rfl rfl (gi_in gp1 (by decide)) dX12_judges_42 ?_
        refine lv_topi (fun x_148 ex_148 => ?_)
        have gx_148 : gi x_148 0 23 := ga_at gfm_reportMonth (gi_in gp1 (by decide)) ex_148
        refine lv_istore_n (lv' := [(2, .int x_148), (0, .ref h0), (1, .int p1)]) hx hb dX12_judges_43 rfl hl (by decide) rfl (fun ls hl => ?_)
        refine lv_aload_n hx hb dX12_judges_44 rfl (lv_at hl 1 rfl) ?_
        refine va_get (D := (dC, dI)) (ci := 12) (v := .ref (mr 14)) (C := RX12) (T := TX12) (N := 57) hx hb hts (fun w h => List.mem_cons_of_mem _ (jnGB_X12 w h)) hown hK hP 0 rfl rfl 34 (by decide) (hts _ (List.mem_cons_of_mem _ mGB_26)) (fun _ h9 => h9) rfl dX12_judges_45 ?_
        refine lv_iload_n hx hb dX12_judges_48 rfl (lv_at hl 0 rfl) ?_
        refine va_iald hx hb hK hP 1 0 rfl rfl (gi_in gx_148 (by decide)) dX12_judges_49 ?_
        refine lv_topi (fun x_149 ex_149 => ?_)
        refine lv_istore_n (lv' := [(3, .int x_149), (2, .int x_148), (0, .ref h0), (1, .int p1)]) hx hb dX12_judges_50 rfl hl (by decide) rfl (fun ls hl => ?_)
        refine lv_aload_n hx hb dX12_judges_51 rfl (lv_at hl 2 rfl) ?_
        refine va_get (D := (dC, dI)) (ci := 12) (v := .ref (mr 15)) (C := RX12) (T := TX12) (N := 57) hx hb hts (fun w h => List.mem_cons_of_mem _ (jnGB_X12 w h)) hown hK hP 0 rfl rfl 35 (by decide) (hts _ (List.mem_cons_of_mem _ mGB_27)) (fun _ h9 => h9) rfl dX12_judges_52 ?_
        refine lv_iload_n hx hb dX12_judges_55 rfl (lv_at hl 1 rfl) ?_
        refine va_iald hx hb hK hP 2 1 rfl rfl (gi_in gx_148 (by decide)) dX12_judges_56 ?_
        refine lv_topi (fun x_150 ex_150 => ?_)
        refine lv_istore (lv' := [(4, .int x_150), (3, .int x_149), (2, .int x_148), (0, .ref h0), (1, .int p1)]) hx hb dX12_judges_57 hl (by decide) rfl (fun ls hl => ?_)
        refine lv_aload_n hx hb dX12_judges_59 rfl (lv_at hl 3 rfl) ?_
        refine lv_iload_n hx hb dX12_judges_60 rfl (lv_at hl 4 rfl) ?_
        have hPc := hP.sub (ws' := [(h0, .inr (12, fsMM mi mr)), ((mr 5), .inl (km_reportMonth, 24, .inl fm_reportMonth)), ((mr 6), .inl (km_reportDay, 24, .inl fm_reportDay)), ((mr 3), .inl (km_reportKind, 24, .inl fm_reportKind)), ((mr 14), .inl (km_must, 25, .inl fm_must)), ((mr 15), .inl (km_least, 25, .inl fm_least))]) [0, 5, 6, 7, 1, 2] rfl
        have hKc := hK.sub (tys' := [(km_reportMonth, .int), (km_reportDay, .int), (km_reportKind, .int), (km_must, .int), (km_least, .int)]) [4, 5, 6, 0, 1] rfl
        have hDc := hD.sub (ws' := [(h0, .inr (12, fsMM mi mr)), ((mr 5), .inl (km_reportMonth, 24, .inl fm_reportMonth)), ((mr 6), .inl (km_reportDay, 24, .inl fm_reportDay)), ((mr 3), .inl (km_reportKind, 24, .inl fm_reportKind)), ((mr 14), .inl (km_must, 25, .inl fm_must)), ((mr 15), .inl (km_least, 25, .inl fm_least))]) [0, 5, 6, 7, 1, 2] (by decide) rfl
        have hFc := va_free (wc := [(h0, .inr (12, fsMM mi mr)), ((mr 5), .inl (km_reportMonth, 24, .inl fm_reportMonth)), ((mr 6), .inl (km_reportDay, 24, .inl fm_reportDay)), ((mr 3), .inl (km_reportKind, 24, .inl fm_reportKind)), ((mr 14), .inl (km_must, 25, .inl fm_must)), ((mr 15), .inl (km_least, 25, .inl fm_least))]) hD hS hA [0, 5, 6, 7, 1, 2] rfl
        refine va_callv (va_runV (As := [.int p1]) (rest := []) ⟨hx, hb, hml, hown, hts⟩ (sX12_holds l dC dI H.size h0 mi mr km_reportMonth fm_reportMonth km_reportDay fm_reportDay km_reportKind fm_reportKind km_must fm_must km_least fm_least p1 gmi_0 gmi_1 gmi_2 (gi_w g_125 (by decide)) gmi_7 gmi_10 gmi_17 gmi_23 gmi_24 gmi_26 gmi_29 gmi_30 gmi_33 gmi_37 gmi_41 gmi_50 gmi_51 gmi_56 gfm_reportMonth gfm_reportDay gp1) (cwV 1 hts (gz_gV mGB_295 mGB_296 mGB_297 mGB_1 mGB_298 goodGB) rfl rfl rfl (by decide +kernel) ⟨Nat.le_of_ble_eq_true rfl, Nat.le_of_ble_eq_true rfl⟩) ⟨fun a U g mk q => by obtain ⟨q0, q1, qP, qK, qD⟩ := q; exact ⟨q0, q1, qP, va_K.moved (u := U) (U := U.calling g mk a) (Vm.Alike.refl U.vm) qK, qD⟩, va_recv hKc hPc (ci := 12) (q0 := 0) rfl rfl, fun U hU hW => ⟨rfl, by rw [hU], by rw [hU]; exact hPc, va_K.moved hW.alike hKc, hDc.weaken (fun _ _ _ _ => trivial)⟩⟩ rfl rfl hl.1 rfl (lv_room (Nat.le_of_ble_eq_true rfl)) dX12_judges_61 ⟨Nat.zero_le _, Nat.zero_le _⟩) hS (fun q _ h => hFc q h) hFc (fun u t H1 locs ht hvm hw hB hz1 hk1 hS => ?_)
        obtain ⟨y_152, f_153, f_154, gy_152, hP1, hD1⟩ := hB
        rw [ht] at hP1
        obtain ⟨hP, hD⟩ := va_join (wr := [((mr 16), .inl (km_pin, 25, .inl fm_pin)), ((mr 17), .inl (km_ways, 6875, .inl fm_ways))]) (w1 := [(h0, .inr (12, fsMM (upd mi 37 y_152) mr)), ((mr 5), .inl (km_reportMonth, 24, .inl fm_reportMonth)), ((mr 6), .inl (km_reportDay, 24, .inl fm_reportDay)), ((mr 3), .inl (km_reportKind, 24, .inl fm_reportKind)), ((mr 14), .inl (km_must, 25, .inl f_153)), ((mr 15), .inl (km_least, 25, .inl f_154))]) hP hD [0, 5, 6, 7, 1, 2] [3, 4] rfl rfl (by decide) (by decide) hk1 hFc hP1 hD1
        have hP := hP.sub (ws' := [(h0, .inr (12, fsMM (upd mi 37 y_152) mr)), ((mr 14), .inl (km_must, 25, .inl f_153)), ((mr 15), .inl (km_least, 25, .inl f_154)), ((mr 16), .inl (km_pin, 25, .inl fm_pin)), ((mr 17), .inl (km_ways, 6875, .inl fm_ways)), ((mr 5), .inl (km_reportMonth, 24, .inl fm_reportMonth)), ((mr 6), .inl (km_reportDay, 24, .inl fm_reportDay)), ((mr 3), .inl (km_reportKind, 24, .inl fm_reportKind))]) [2, 6, 7, 0, 1, 3, 4, 5] rfl
        have hD := hD.sub (ws' := [(h0, .inr (12, fsMM (upd mi 37 y_152) mr)), ((mr 14), .inl (km_must, 25, .inl f_153)), ((mr 15), .inl (km_least, 25, .inl f_154)), ((mr 16), .inl (km_pin, 25, .inl fm_pin)), ((mr 17), .inl (km_ways, 6875, .inl fm_ways)), ((mr 5), .inl (km_reportMonth, 24, .inl fm_reportMonth)), ((mr 6), .inl (km_reportDay, 24, .inl fm_reportDay)), ((mr 3), .inl (km_reportKind, 24, .inl fm_reportKind))]) [2, 6, 7, 0, 1, 3, 4, 5] (by decide) rfl
        generalize H1 = H at hP hS ⊢
        refine lv_aload_n hx hb dX12_judges_64 rfl (lv_at hl 3 rfl) ?_
        have hPc := hP.sub (ws' := [(h0, .inr (12, fsMM (upd mi 37 y_152) mr)), ((mr 14), .inl (km_must, 25, .inl f_153)), ((mr 15), .inl (km_least, 25, .inl f_154)), ((mr 16), .inl (km_pin, 25, .inl fm_pin)), ((mr 17), .inl (km_ways, 6875, .inl fm_ways))]) [0, 1, 2, 3, 4] rfl
        have hKc := hK.sub (tys' := [(km_must, .int), (km_least, .int), (km_pin, .int), (km_ways, .int)]) [0, 1, 2, 3] rfl
        have hDc := hD.sub (ws' := [(h0, .inr (12, fsMM (upd mi 37 y_152) mr)), ((mr 14), .inl (km_must, 25, .inl f_153)), ((mr 15), .inl (km_least, 25, .inl f_154)), ((mr 16), .inl (km_pin, 25, .inl fm_pin)), ((mr 17), .inl (km_ways, 6875, .inl fm_ways))]) [0, 1, 2, 3, 4] (by decide) rfl
        have hFc := va_free (wc := [(h0, .inr (12, fsMM (upd mi 37 y_152) mr)), ((mr 14), .inl (km_must, 25, .inl f_153)), ((mr 15), .inl (km_least, 25, .inl f_154)), ((mr 16), .inl (km_pin, 25, .inl fm_pin)), ((mr 17), .inl (km_ways, 6875, .inl fm_ways))]) hD hS hA [0, 1, 2, 3, 4] rfl
        refine va_calli (va_runV (As := []) (rest := []) ⟨hx, hb, hml, hown, hts⟩ (sX12_counts l dC dI H.size h0 (upd mi 37 y_152) mr km_must f_153 km_least f_154 km_pin fm_pin km_ways fm_ways gmi_0 gmi_1 gmi_2 (gi_w g_125 (by decide)) gmi_7 gmi_10 gmi_17 gmi_23 gmi_24 gmi_26 gmi_29 gmi_30 gmi_33 gy_152 gmi_41 gmi_50 gmi_51 gmi_56) (cwV 0 hts (gz_gV mGB_299 mGB_300 mGB_301 mGB_1 mGB_302 goodGB) rfl rfl rfl (by decide +kernel) ⟨Nat.le_of_ble_eq_true rfl, Nat.le_of_ble_eq_true rfl⟩) ⟨fun a U g mk q => by obtain ⟨q0, q1, qP, qK, qD⟩ := q; exact ⟨q0, q1, qP, va_K.moved (u := U) (U := U.calling g mk a) (Vm.Alike.refl U.vm) qK, qD⟩, va_recv hKc hPc (ci := 12) (q0 := 0) rfl rfl, fun U hU hW => ⟨rfl, by rw [hU], by rw [hU]; exact hPc, va_K.moved hW.alike hKc, hDc.weaken (fun _ _ _ _ => trivial)⟩⟩ rfl rfl hl.1 rfl (lv_room (Nat.le_of_ble_eq_true rfl)) dX12_judges_65 ⟨Nat.zero_le _, Nat.zero_le _⟩) hS (fun q _ h => hFc q h) hFc (fun r_155 u t H1 locs ht hvm hw hB hz1 hk1 hS => ?_)
        obtain ⟨f_156, hP1, hD1⟩ := hB
        rw [ht] at hP1
        obtain ⟨hP, hD⟩ := va_join (wr := [((mr 5), .inl (km_reportMonth, 24, .inl fm_reportMonth)), ((mr 6), .inl (km_reportDay, 24, .inl fm_reportDay)), ((mr 3), .inl (km_reportKind, 24, .inl fm_reportKind))]) (w1 := [(h0, .inr (12, fsMM (upd mi 37 y_152) mr)), ((mr 14), .inl (km_must, 25, .inl f_153)), ((mr 15), .inl (km_least, 25, .inl f_154)), ((mr 16), .inl (km_pin, 25, .inl fm_pin)), ((mr 17), .inl (km_ways, 6875, .inl f_156))]) hP hD [0, 1, 2, 3, 4] [5, 6, 7] rfl rfl (by decide) (by decide) hk1 hFc hP1 hD1
        have hP := hP.sub (ws' := [(h0, .inr (12, fsMM (upd mi 37 y_152) mr)), ((mr 14), .inl (km_must, 25, .inl f_153)), ((mr 15), .inl (km_least, 25, .inl f_154)), ((mr 16), .inl (km_pin, 25, .inl fm_pin)), ((mr 17), .inl (km_ways, 6875, .inl f_156)), ((mr 5), .inl (km_reportMonth, 24, .inl fm_reportMonth)), ((mr 6), .inl (km_reportDay, 24, .inl fm_reportDay)), ((mr 3), .inl (km_reportKind, 24, .inl fm_reportKind))]) [3, 4, 5, 6, 7, 0, 1, 2] rfl
        have hD := hD.sub (ws' := [(h0, .inr (12, fsMM (upd mi 37 y_152) mr)), ((mr 14), .inl (km_must, 25, .inl f_153)), ((mr 15), .inl (km_least, 25, .inl f_154)), ((mr 16), .inl (km_pin, 25, .inl fm_pin)), ((mr 17), .inl (km_ways, 6875, .inl f_156)), ((mr 5), .inl (km_reportMonth, 24, .inl fm_reportMonth)), ((mr 6), .inl (km_reportDay, 24, .inl fm_reportDay)), ((mr 3), .inl (km_reportKind, 24, .inl fm_reportKind))]) [3, 4, 5, 6, 7, 0, 1, 2] (by decide) rfl
        generalize H1 = H at hP hS ⊢
        refine lv_if_le (tgt := 73) hx hb dX12_judges_68 (by decide) (fun c_157 => ?_) (fun c_157 => ?_)
        · have g_158 : gi r_155 (-2147483648) 0 := gi_le_l c_157 (gi_any r_155) (gi_c 0 0 (by decide))
          refine lv_aload_n hx hb dX12_judges_73 rfl (lv_at hl 3 rfl) ?_
          refine va_get (D := (dC, dI)) (ci := 12) (v := .ref (mr 14)) (C := RX12) (T := TX12) (N := 57) hx hb hts (fun w h => List.mem_cons_of_mem _ (jnGB_X12 w h)) hown hK hP 0 rfl rfl 34 (by decide) (hts _ (List.mem_cons_of_mem _ mGB_26)) (fun _ h9 => h9) rfl dX12_judges_74 ?_
          refine lv_iload_n hx hb dX12_judges_77 rfl (lv_at hl 2 rfl) ?_
          refine lv_iload_n hx hb dX12_judges_78 rfl (lv_at hl 1 rfl) ?_
          refine va_iast hx hb hK hP hD hS 1 0 rfl rfl (gi_in gx_148 (by decide)) dX12_judges_79 (fun H locs hP hD hS => ?_)
          have hP : va_P (dC, dI) vwCl [(h0, .inr (12, fsMM (upd mi 37 y_152) mr)), ((mr 14), .inl (km_must, 25, .inl (upd f_153 (x_148 : Int32).toNatClampNeg x_149))), ((mr 15), .inl (km_least, 25, .inl f_154)), ((mr 16), .inl (km_pin, 25, .inl fm_pin)), ((mr 17), .inl (km_ways, 6875, .inl f_156)), ((mr 5), .inl (km_reportMonth, 24, .inl fm_reportMonth)), ((mr 6), .inl (km_reportDay, 24, .inl fm_reportDay)), ((mr 3), .inl (km_reportKind, 24, .inl fm_reportKind))] H := hP
          have hD : va_D A [(h0, .inr (12, fsMM (upd mi 37 y_152) mr)), ((mr 14), .inl (km_must, 25, .inl (upd f_153 (x_148 : Int32).toNatClampNeg x_149))), ((mr 15), .inl (km_least, 25, .inl f_154)), ((mr 16), .inl (km_pin, 25, .inl fm_pin)), ((mr 17), .inl (km_ways, 6875, .inl f_156)), ((mr 5), .inl (km_reportMonth, 24, .inl fm_reportMonth)), ((mr 6), .inl (km_reportDay, 24, .inl fm_reportDay)), ((mr 3), .inl (km_reportKind, 24, .inl fm_reportKind))] := hD
          generalize upd f_153 (x_148 : Int32).toNatClampNeg x_149 = f_159 at hP hD
          refine lv_aload_n hx hb dX12_judges_80 rfl (lv_at hl 3 rfl) ?_
          refine va_get (D := (dC, dI)) (ci := 12) (v := .ref (mr 15)) (C := RX12) (T := TX12) (N := 57) hx hb hts (fun w h => List.mem_cons_of_mem _ (jnGB_X12 w h)) hown hK hP 0 rfl rfl 35 (by decide) (hts _ (List.mem_cons_of_mem _ mGB_27)) (fun _ h9 => h9) rfl dX12_judges_81 ?_
          refine lv_iload_n hx hb dX12_judges_84 rfl (lv_at hl 2 rfl) ?_
          refine lv_iload hx hb dX12_judges_85 (lv_at hl 0 rfl) ?_
          refine va_iast hx hb hK hP hD hS 2 1 rfl rfl (gi_in gx_148 (by decide)) dX12_judges_87 (fun H locs hP hD hS => ?_)
          have hP : va_P (dC, dI) vwCl [(h0, .inr (12, fsMM (upd mi 37 y_152) mr)), ((mr 14), .inl (km_must, 25, .inl f_159)), ((mr 15), .inl (km_least, 25, .inl (upd f_154 (x_148 : Int32).toNatClampNeg x_150))), ((mr 16), .inl (km_pin, 25, .inl fm_pin)), ((mr 17), .inl (km_ways, 6875, .inl f_156)), ((mr 5), .inl (km_reportMonth, 24, .inl fm_reportMonth)), ((mr 6), .inl (km_reportDay, 24, .inl fm_reportDay)), ((mr 3), .inl (km_reportKind, 24, .inl fm_reportKind))] H := hP
          have hD : va_D A [(h0, .inr (12, fsMM (upd mi 37 y_152) mr)), ((mr 14), .inl (km_must, 25, .inl f_159)), ((mr 15), .inl (km_least, 25, .inl (upd f_154 (x_148 : Int32).toNatClampNeg x_150))), ((mr 16), .inl (km_pin, 25, .inl fm_pin)), ((mr 17), .inl (km_ways, 6875, .inl f_156)), ((mr 5), .inl (km_reportMonth, 24, .inl fm_reportMonth)), ((mr 6), .inl (km_reportDay, 24, .inl fm_reportDay)), ((mr 3), .inl (km_reportKind, 24, .inl fm_reportKind))] := hD
          generalize upd f_154 (x_148 : Int32).toNatClampNeg x_150 = f_160 at hP hD
          refine lv_aload_n hx hb dX12_judges_88 rfl (lv_at hl 3 rfl) ?_
          refine lv_iconst (v := 0) hx hb dX12_judges_89 (by decide) ?_
          refine va_put (D := (dC, dI)) (ci := 12) (v := .int 0) (ty := .boolean) (C := RX12) (T := TX12) (N := 57) hx hb hts (fun w h => List.mem_cons_of_mem _ (jnGB_X12 w h)) tyX12 tyX12_ok nmX12 hown hK hP hD hS 0 rfl rfl 37 (by decide) (hts _ (List.mem_cons_of_mem _ mGB_270)) (fun _ h9 => h9) rfl (by decide +kernel) rfl rfl (Nat.le_of_ble_eq_true rfl) dX12_judges_90 (fun H locs hP hD hS => ?_)
          have hP : va_P (dC, dI) vwCl [(h0, .inr (12, fsMM (upd mi 37 0) mr)), ((mr 14), .inl (km_must, 25, .inl f_159)), ((mr 15), .inl (km_least, 25, .inl f_160)), ((mr 16), .inl (km_pin, 25, .inl fm_pin)), ((mr 17), .inl (km_ways, 6875, .inl f_156)), ((mr 5), .inl (km_reportMonth, 24, .inl fm_reportMonth)), ((mr 6), .inl (km_reportDay, 24, .inl fm_reportDay)), ((mr 3), .inl (km_reportKind, 24, .inl fm_reportKind))] H := hP
          have hD : va_D A [(h0, .inr (12, fsMM (upd mi 37 0) mr)), ((mr 14), .inl (km_must, 25, .inl f_159)), ((mr 15), .inl (km_least, 25, .inl f_160)), ((mr 16), .inl (km_pin, 25, .inl fm_pin)), ((mr 17), .inl (km_ways, 6875, .inl f_156)), ((mr 5), .inl (km_reportMonth, 24, .inl fm_reportMonth)), ((mr 6), .inl (km_reportDay, 24, .inl fm_reportDay)), ((mr 3), .inl (km_reportKind, 24, .inl fm_reportKind))] := hD
          refine lv_iconst (v := 2) hx hb dX12_judges_93 (by decide) ?_
          exact W.iret (v := 2) hx hb hr (fun t ht hW => ⟨⟨2, (), rfl, (gi_w (gi_c 2 2 (by decide)) (by decide)), 0, f_159, f_160, f_156, (gi_w (gi_c 0 0 (by decide)) (by decide)), by rw [ht]; exact hP, hD⟩, hS.F ht⟩) hS.2.2 dX12_judges_94
        · have g_161 : gi r_155 1 2147483647 := gi_lt_r (Int32.not_le.mp c_157) (gi_c 0 0 (by decide)) (gi_any r_155) (by decide)
          refine lv_iconst (v := 0) hx hb dX12_judges_71 (by decide) ?_
          exact W.iret (v := 0) hx hb hr (fun t ht hW => ⟨⟨0, (), rfl, (gi_w (gi_c 0 0 (by decide)) (by decide)), y_152, f_153, f_154, f_156, gy_152, by rw [ht]; exact hP, hD⟩, hS.F ht⟩) hS.2.2 dX12_judges_72
      · have g_162 : gi r_145 1 2147483647 := gi_lt_r (Int32.not_le.mp c_146) gx_143 (gi_any r_145) (by decide)
        refine lv_iconst (v := 1) hx hb dX12_judges_35 (by decide) ?_
        exact W.iret (v := 1) hx hb hr (fun t ht hW => ⟨⟨1, (), rfl, (gi_w (gi_c 1 1 (by decide)) (by decide)), (mi 37), fm_must, fm_least, fm_ways, gmi_37, by rw [ht]; exact hP, hD⟩, hS.F ht⟩) hS.2.2 dX12_judges_36
theorem dX12_judgesAll_0 : decode cX12_judgesAll 0 = .ok (.aload_n 0, 1) := by decide +kernel
theorem dX12_judgesAll_1 : decode cX12_judgesAll 1 = .ok (.invokevirtual 350, 3) := by decide +kernel
theorem dX12_judgesAll_4 : decode cX12_judgesAll 4 = .ok (.aload_n 0, 1) := by decide +kernel
theorem dX12_judgesAll_5 : decode cX12_judgesAll 5 = .ok (.iload_n 1, 1) := by decide +kernel
theorem dX12_judgesAll_6 : decode cX12_judgesAll 6 = .ok (.invokevirtual 353, 3) := by decide +kernel
theorem dX12_judgesAll_9 : decode cX12_judgesAll 9 = .ok (.iconst 0, 1) := by decide +kernel
theorem dX12_judgesAll_10 : decode cX12_judgesAll 10 = .ok (.istore_n 2, 1) := by decide +kernel
theorem dX12_judgesAll_11 : decode cX12_judgesAll 11 = .ok (.iload_n 2, 1) := by decide +kernel
theorem dX12_judgesAll_12 : decode cX12_judgesAll 12 = .ok (.aload_n 0, 1) := by decide +kernel
theorem dX12_judgesAll_13 : decode cX12_judgesAll 13 = .ok (.getfield 338, 3) := by decide +kernel
theorem dX12_judgesAll_16 : decode cX12_judgesAll 16 = .ok (.if_icmp .ge 30, 3) := by decide +kernel
theorem dX12_judgesAll_19 : decode cX12_judgesAll 19 = .ok (.aload_n 0, 1) := by decide +kernel
theorem dX12_judgesAll_20 : decode cX12_judgesAll 20 = .ok (.getfield 69, 3) := by decide +kernel
theorem dX12_judgesAll_23 : decode cX12_judgesAll 23 = .ok (.aload_n 0, 1) := by decide +kernel
theorem dX12_judgesAll_24 : decode cX12_judgesAll 24 = .ok (.getfield 72, 3) := by decide +kernel
theorem dX12_judgesAll_27 : decode cX12_judgesAll 27 = .ok (.iload_n 2, 1) := by decide +kernel
theorem dX12_judgesAll_28 : decode cX12_judgesAll 28 = .ok (.iaload, 1) := by decide +kernel
theorem dX12_judgesAll_29 : decode cX12_judgesAll 29 = .ok (.aload_n 0, 1) := by decide +kernel
theorem dX12_judgesAll_30 : decode cX12_judgesAll 30 = .ok (.aload_n 0, 1) := by decide +kernel
theorem dX12_judgesAll_31 : decode cX12_judgesAll 31 = .ok (.getfield 72, 3) := by decide +kernel
theorem dX12_judgesAll_34 : decode cX12_judgesAll 34 = .ok (.iload_n 2, 1) := by decide +kernel
theorem dX12_judgesAll_35 : decode cX12_judgesAll 35 = .ok (.iaload, 1) := by decide +kernel
theorem dX12_judgesAll_36 : decode cX12_judgesAll 36 = .ok (.invokevirtual 356, 3) := by decide +kernel
theorem dX12_judgesAll_39 : decode cX12_judgesAll 39 = .ok (.iastore, 1) := by decide +kernel
theorem dX12_judgesAll_40 : decode cX12_judgesAll 40 = .ok (.iinc 2 1, 3) := by decide +kernel
theorem dX12_judgesAll_43 : decode cX12_judgesAll 43 = .ok (.goto (-32), 3) := by decide +kernel
theorem dX12_judgesAll_46 : decode cX12_judgesAll 46 = .ok (.return_, 1) := by decide +kernel
set_option maxHeartbeats 4000000 in
set_option maxRecDepth 100000 in
theorem lp_sX12_judgesAll {p : Program} {l : Launch} {e : Env} {R : Room} {s : State} {m : MethodId} {args : Array Value} {below : List Frame} {meth : Method} {c : Code} {Q : State → Prop} {A : Nat → Prop} {cells slots : Nat} {dC : Nat → ClassId} {dI : Nat → Nat → Nat} (h0 : Nat) (mi : Nat → Int32) (mr : Nat → Nat) (km_must : ClassId) (fm_must : Nat → Int32) (km_least : ClassId) (fm_least : Nat → Int32) (km_pin : ClassId) (fm_pin : Nat → Int32) (km_ways : ClassId) (fm_ways : Nat → Int32) (km_verdict : ClassId) (fm_verdict : Nat → Int32) (km_row : ClassId) (fm_row : Nat → Int32) (km_struck : ClassId) (fm_struck : Nat → Int32) (km_reportKnown : ClassId) (fm_reportKnown : Nat → Int32) (km_reportPlace : ClassId) (fm_reportPlace : Nat → Int32) (km_reportMonth : ClassId) (fm_reportMonth : Nat → Int32) (km_reportDay : ClassId) (fm_reportDay : Nat → Int32) (km_reportKind : ClassId) (fm_reportKind : Nat → Int32) (km_trust : ClassId) (fm_trust : Nat → Int32) (km_letter : ClassId) (fm_letter : Nat → Int32) (p1 : Int32) (gmi_0 : gi (mi 0) 0 24) (gmi_1 : gi (mi 1) 0 5) (gmi_2 : gi (mi 2) 0 5) (gmi_4 : gi (mi 4) 0 1) (gmi_7 : gi (mi 7) 0 6) (gmi_10 : gi (mi 10) 0 24) (gmi_17 : gi (mi 17) 0 8) (gmi_23 : gi (mi 23) 0 300) (gmi_24 : gi (mi 24) 0 1) (gmi_26 : gi (mi 26) 0 1600) (gmi_29 : gi (mi 29) 0 1600) (gmi_30 : gi (mi 30) 0 1600) (gmi_33 : gi (mi 33) 0 1) (gmi_37 : gi (mi 37) 0 1) (gmi_41 : gi (mi 41) 0 24) (gmi_50 : gi (mi 50) 0 1) (gmi_51 : gi (mi 51) 0 1) (gmi_56 : gi (mi 56) 0 80) (gfm_row : ga fm_row 24 0 23) (gfm_struck : ga fm_struck 24 0 1) (gfm_reportKnown : ga fm_reportKnown 24 0 999) (gfm_reportPlace : ga fm_reportPlace 24 0 5) (gfm_reportMonth : ga fm_reportMonth 24 0 23) (gfm_reportDay : ga fm_reportDay 24 0 999) (hx : p.tables.exec = Jvm.exec) (hb : c.code = cX12_judgesAll) (hml : c.maxLocals = 3) (hown : s.vm.findClass RX12 = some m.cls) (hts : ∀ w ∈ ((.code yX12_judgesAll cX12_judgesAll 3 none :: wsGB) : List Cond), w.before args s = true) (hK : va_K (dC, dI) vwCl [(km_must, .int), (km_least, .int), (km_pin, .int), (km_ways, .int), (km_verdict, .int), (km_row, .int), (km_struck, .boolean), (km_reportKnown, .int), (km_reportPlace, .int), (km_reportMonth, .int), (km_reportDay, .int), (km_reportKind, .int), (km_trust, .int), (km_letter, .int)] s) (hA : ∀ q : Nat, s.heap.size ≤ q → A q) (hRf : 4 ≤ R.frames) (hRl : 97 ≤ R.locals) (hRc : cells ≤ R.cells) (hRs : slots ≤ R.slots) (kr46 : ∀ (w0_37 : Int32) (w0_41 : Int32) (z1 : Nat → Int32) (z2 : Nat → Int32) (z3 : Nat → Int32) (z4 : Nat → Int32) (z5 : Nat → Int32) (z6 : Nat → Int32) (H : Heap) (locs : List Loc) (ls : Array Slot), gi w0_37 0 1 → gi w0_41 0 24 → ga z6 24 0 23 → va_P (dC, dI) vwCl [(h0, .inr (12, fsMM (upd (upd mi 37 w0_37) 41 w0_41) mr)), ((mr 14), .inl (km_must, 25, .inl z1)), ((mr 15), .inl (km_least, 25, .inl z2)), ((mr 16), .inl (km_pin, 25, .inl z3)), ((mr 17), .inl (km_ways, 6875, .inl z4)), ((mr 18), .inl (km_verdict, 24, .inl z5)), ((mr 19), .inl (km_row, 24, .inl z6)), ((mr 4), .inl (km_struck, 24, .inl fm_struck)), ((mr 7), .inl (km_reportKnown, 24, .inl fm_reportKnown)), ((mr 2), .inl (km_reportPlace, 24, .inl fm_reportPlace)), ((mr 5), .inl (km_reportMonth, 24, .inl fm_reportMonth)), ((mr 6), .inl (km_reportDay, 24, .inl fm_reportDay)), ((mr 3), .inl (km_reportKind, 24, .inl fm_reportKind)), ((mr 0), .inl (km_trust, 6, .inl fm_trust)), ((mr 1), .inl (km_letter, 36, .inl fm_letter))] H → va_D A [(h0, .inr (12, fsMM (upd (upd mi 37 w0_37) 41 w0_41) mr)), ((mr 14), .inl (km_must, 25, .inl z1)), ((mr 15), .inl (km_least, 25, .inl z2)), ((mr 16), .inl (km_pin, 25, .inl z3)), ((mr 17), .inl (km_ways, 6875, .inl z4)), ((mr 18), .inl (km_verdict, 24, .inl z5)), ((mr 19), .inl (km_row, 24, .inl z6)), ((mr 4), .inl (km_struck, 24, .inl fm_struck)), ((mr 7), .inl (km_reportKnown, 24, .inl fm_reportKnown)), ((mr 2), .inl (km_reportPlace, 24, .inl fm_reportPlace)), ((mr 5), .inl (km_reportMonth, 24, .inl fm_reportMonth)), ((mr 6), .inl (km_reportDay, 24, .inl fm_reportDay)), ((mr 3), .inl (km_reportKind, 24, .inl fm_reportKind)), ((mr 0), .inl (km_trust, 6, .inl fm_trust)), ((mr 1), .inl (km_letter, 36, .inl fm_letter))] → va_S A s.heap H locs → lv_has ls 3 [] → W p l e R s m args below meth c H locs cells slots Q (F0 m 46 ls [])) : ∀ z : Nat, (∀ (v2 : Int32) (w0_37 : Int32) (w0_41 : Int32) (z1 : Nat → Int32) (z2 : Nat → Int32) (z3 : Nat → Int32) (z4 : Nat → Int32) (z5 : Nat → Int32) (z6 : Nat → Int32) (H : Heap) (locs : List Loc) (ls : Array Slot), gi v2 0 24 → gi w0_37 0 1 → gi w0_41 0 24 → ga z6 24 0 23 → 49 + (-2) * v2.toInt < (z : Int) → va_P (dC, dI) vwCl [(h0, .inr (12, fsMM (upd (upd mi 37 w0_37) 41 w0_41) mr)), ((mr 14), .inl (km_must, 25, .inl z1)), ((mr 15), .inl (km_least, 25, .inl z2)), ((mr 16), .inl (km_pin, 25, .inl z3)), ((mr 17), .inl (km_ways, 6875, .inl z4)), ((mr 18), .inl (km_verdict, 24, .inl z5)), ((mr 19), .inl (km_row, 24, .inl z6)), ((mr 4), .inl (km_struck, 24, .inl fm_struck)), ((mr 7), .inl (km_reportKnown, 24, .inl fm_reportKnown)), ((mr 2), .inl (km_reportPlace, 24, .inl fm_reportPlace)), ((mr 5), .inl (km_reportMonth, 24, .inl fm_reportMonth)), ((mr 6), .inl (km_reportDay, 24, .inl fm_reportDay)), ((mr 3), .inl (km_reportKind, 24, .inl fm_reportKind)), ((mr 0), .inl (km_trust, 6, .inl fm_trust)), ((mr 1), .inl (km_letter, 36, .inl fm_letter))] H → va_D A [(h0, .inr (12, fsMM (upd (upd mi 37 w0_37) 41 w0_41) mr)), ((mr 14), .inl (km_must, 25, .inl z1)), ((mr 15), .inl (km_least, 25, .inl z2)), ((mr 16), .inl (km_pin, 25, .inl z3)), ((mr 17), .inl (km_ways, 6875, .inl z4)), ((mr 18), .inl (km_verdict, 24, .inl z5)), ((mr 19), .inl (km_row, 24, .inl z6)), ((mr 4), .inl (km_struck, 24, .inl fm_struck)), ((mr 7), .inl (km_reportKnown, 24, .inl fm_reportKnown)), ((mr 2), .inl (km_reportPlace, 24, .inl fm_reportPlace)), ((mr 5), .inl (km_reportMonth, 24, .inl fm_reportMonth)), ((mr 6), .inl (km_reportDay, 24, .inl fm_reportDay)), ((mr 3), .inl (km_reportKind, 24, .inl fm_reportKind)), ((mr 0), .inl (km_trust, 6, .inl fm_trust)), ((mr 1), .inl (km_letter, 36, .inl fm_letter))] → va_S A s.heap H locs → lv_has ls 3 [(0, .ref h0), (1, .int p1), (2, .int v2)] → W p l e R s m args below meth c H locs cells slots Q (F0 m 11 ls [])) := by
  intro z
  induction z with
  | zero =>
    intro v2 w0_37 w0_41 z1 z2 z3 z4 z5 z6 H locs ls gv2 gw0_37 gw0_41 gz6 hmu hP hD hS hl
    exact absurd hmu (by have hv21 := gv2.1; have hv22 := gv2.2; omega)
  | succ z ih =>
      intro v2 w0_37 w0_41 z1 z2 z3 z4 z5 z6 H locs ls gv2 gw0_37 gw0_41 gz6 hmu hP hD hS hl
      refine lv_iload_n hx hb dX12_judgesAll_11 rfl (lv_at hl 2 rfl) ?_
      refine lv_aload_n hx hb dX12_judgesAll_12 rfl (lv_at hl 0 rfl) ?_
      refine va_get (D := (dC, dI)) (ci := 12) (v := .int w0_41) (C := RX12) (T := TX12) (N := 57) hx hb hts (fun w h => List.mem_cons_of_mem _ (jnGB_X12 w h)) hown hK hP 0 rfl rfl 41 (by decide) (hts _ (List.mem_cons_of_mem _ mGB_265)) (fun _ h9 => h9) rfl dX12_judgesAll_13 ?_
      refine lv_icmp_ge (tgt := 46) hx hb dX12_judgesAll_16 (by decide) (fun c_316 => ?_) (fun c_316 => ?_)
      · exact kr46 w0_37 w0_41 z1 z2 z3 z4 z5 z6 _ _ _ gw0_37 gw0_41 gz6 hP hD hS (lv_sub hl [] rfl)
      · have g_317 : gi v2 0 23 := gi_lt_l (Int32.not_le.mp c_316) gv2 gw0_41 (by decide)
        have g_318 : gi w0_41 1 24 := gi_lt_r (Int32.not_le.mp c_316) gv2 gw0_41 (by decide)
        refine lv_aload_n hx hb dX12_judgesAll_19 rfl (lv_at hl 0 rfl) ?_
        refine va_get (D := (dC, dI)) (ci := 12) (v := .ref (mr 18)) (C := RX12) (T := TX12) (N := 57) hx hb hts (fun w h => List.mem_cons_of_mem _ (jnGB_X12 w h)) hown hK hP 0 rfl rfl 39 (by decide) (hts _ (List.mem_cons_of_mem _ mGB_30)) (fun _ h9 => h9) rfl dX12_judgesAll_20 ?_
        refine lv_aload_n hx hb dX12_judgesAll_23 rfl (lv_at hl 0 rfl) ?_
        refine va_get (D := (dC, dI)) (ci := 12) (v := .ref (mr 19)) (C := RX12) (T := TX12) (N := 57) hx hb hts (fun w h => List.mem_cons_of_mem _ (jnGB_X12 w h)) hown hK hP 0 rfl rfl 40 (by decide) (hts _ (List.mem_cons_of_mem _ mGB_31)) (fun _ h9 => h9) rfl dX12_judgesAll_24 ?_
        refine lv_iload_n hx hb dX12_judgesAll_27 rfl (lv_at hl 2 rfl) ?_
        refine va_iald hx hb hK hP 6 5 rfl rfl (gi_in g_317 (by decide)) dX12_judgesAll_28 ?_
        refine lv_topi (fun x_319 ex_319 => ?_)
        have gx_319 : gi x_319 0 23 := ga_at gz6 (gi_in g_317 (by decide)) ex_319
        refine lv_aload_n hx hb dX12_judgesAll_29 rfl (lv_at hl 0 rfl) ?_
        refine lv_aload_n hx hb dX12_judgesAll_30 rfl (lv_at hl 0 rfl) ?_
        refine va_get (D := (dC, dI)) (ci := 12) (v := .ref (mr 19)) (C := RX12) (T := TX12) (N := 57) hx hb hts (fun w h => List.mem_cons_of_mem _ (jnGB_X12 w h)) hown hK hP 0 rfl rfl 40 (by decide) (hts _ (List.mem_cons_of_mem _ mGB_31)) (fun _ h9 => h9) rfl dX12_judgesAll_31 ?_
        refine lv_iload_n hx hb dX12_judgesAll_34 rfl (lv_at hl 2 rfl) ?_
        refine va_iald hx hb hK hP 6 5 rfl rfl (gi_in g_317 (by decide)) dX12_judgesAll_35 ?_
        refine lv_topi (fun x_320 ex_320 => ?_)
        have gx_320 : gi x_320 0 23 := ga_at gz6 (gi_in g_317 (by decide)) ex_320
        have hPc := hP.sub (ws' := [(h0, .inr (12, fsMM (upd (upd mi 37 w0_37) 41 w0_41) mr)), ((mr 14), .inl (km_must, 25, .inl z1)), ((mr 15), .inl (km_least, 25, .inl z2)), ((mr 16), .inl (km_pin, 25, .inl z3)), ((mr 17), .inl (km_ways, 6875, .inl z4)), ((mr 5), .inl (km_reportMonth, 24, .inl fm_reportMonth)), ((mr 6), .inl (km_reportDay, 24, .inl fm_reportDay)), ((mr 3), .inl (km_reportKind, 24, .inl fm_reportKind))]) [0, 1, 2, 3, 4, 10, 11, 12] rfl
        have hKc := hK.sub (tys' := [(km_must, .int), (km_least, .int), (km_pin, .int), (km_ways, .int), (km_reportMonth, .int), (km_reportDay, .int), (km_reportKind, .int)]) [0, 1, 2, 3, 9, 10, 11] rfl
        have hDc := hD.sub (ws' := [(h0, .inr (12, fsMM (upd (upd mi 37 w0_37) 41 w0_41) mr)), ((mr 14), .inl (km_must, 25, .inl z1)), ((mr 15), .inl (km_least, 25, .inl z2)), ((mr 16), .inl (km_pin, 25, .inl z3)), ((mr 17), .inl (km_ways, 6875, .inl z4)), ((mr 5), .inl (km_reportMonth, 24, .inl fm_reportMonth)), ((mr 6), .inl (km_reportDay, 24, .inl fm_reportDay)), ((mr 3), .inl (km_reportKind, 24, .inl fm_reportKind))]) [0, 1, 2, 3, 4, 10, 11, 12] (by decide) rfl
        have hFc := va_free (wc := [(h0, .inr (12, fsMM (upd (upd mi 37 w0_37) 41 w0_41) mr)), ((mr 14), .inl (km_must, 25, .inl z1)), ((mr 15), .inl (km_least, 25, .inl z2)), ((mr 16), .inl (km_pin, 25, .inl z3)), ((mr 17), .inl (km_ways, 6875, .inl z4)), ((mr 5), .inl (km_reportMonth, 24, .inl fm_reportMonth)), ((mr 6), .inl (km_reportDay, 24, .inl fm_reportDay)), ((mr 3), .inl (km_reportKind, 24, .inl fm_reportKind))]) hD hS hA [0, 1, 2, 3, 4, 10, 11, 12] rfl
        refine va_calli (va_runV (As := [.int x_320]) (rest := [.int x_319, .ref (mr 18)]) ⟨hx, hb, hml, hown, hts⟩ (sX12_judges l dC dI H.size h0 (upd (upd mi 37 w0_37) 41 w0_41) mr km_must z1 km_least z2 km_pin z3 km_ways z4 km_reportMonth fm_reportMonth km_reportDay fm_reportDay km_reportKind fm_reportKind x_320 gmi_0 gmi_1 gmi_2 gmi_4 gmi_7 gmi_10 gmi_17 gmi_23 gmi_24 gmi_26 gmi_29 gmi_30 gmi_33 gw0_37 (gi_w g_318 (by decide)) gmi_50 gmi_51 gmi_56 gfm_reportMonth gfm_reportDay gx_320) (cwV 1 hts (gz_gV mGB_291 mGB_292 mGB_293 mGB_1 mGB_294 goodGB) rfl rfl rfl (by decide +kernel) ⟨Nat.le_trans (Nat.le_of_ble_eq_true rfl) hRf, Nat.le_trans (Nat.le_of_ble_eq_true rfl) hRl⟩) ⟨fun a U g mk q => by obtain ⟨q0, q1, qP, qK, qD⟩ := q; exact ⟨q0, q1, qP, va_K.moved (u := U) (U := U.calling g mk a) (Vm.Alike.refl U.vm) qK, qD⟩, va_recv hKc hPc (ci := 12) (q0 := 0) rfl rfl, fun U hU hW => ⟨rfl, by rw [hU], by rw [hU]; exact hPc, va_K.moved hW.alike hKc, hDc.weaken (fun _ _ _ _ => trivial)⟩⟩ rfl rfl hl.1 rfl (lv_room (Nat.le_of_ble_eq_true rfl)) dX12_judgesAll_36 ⟨hRc, hRs⟩) hS (fun q _ h => hFc q h) hFc (fun r_321 u t H1 locs ht hvm hw hB hz1 hk1 hS => ?_)
        obtain ⟨y_322, f_323, f_324, f_325, gy_322, hP1, hD1⟩ := hB
        rw [ht] at hP1
        obtain ⟨hP, hD⟩ := va_join (wr := [((mr 18), .inl (km_verdict, 24, .inl z5)), ((mr 19), .inl (km_row, 24, .inl z6)), ((mr 4), .inl (km_struck, 24, .inl fm_struck)), ((mr 7), .inl (km_reportKnown, 24, .inl fm_reportKnown)), ((mr 2), .inl (km_reportPlace, 24, .inl fm_reportPlace)), ((mr 0), .inl (km_trust, 6, .inl fm_trust)), ((mr 1), .inl (km_letter, 36, .inl fm_letter))]) (w1 := [(h0, .inr (12, fsMM (upd (upd mi 37 y_322) 41 w0_41) mr)), ((mr 14), .inl (km_must, 25, .inl f_323)), ((mr 15), .inl (km_least, 25, .inl f_324)), ((mr 16), .inl (km_pin, 25, .inl z3)), ((mr 17), .inl (km_ways, 6875, .inl f_325)), ((mr 5), .inl (km_reportMonth, 24, .inl fm_reportMonth)), ((mr 6), .inl (km_reportDay, 24, .inl fm_reportDay)), ((mr 3), .inl (km_reportKind, 24, .inl fm_reportKind))]) hP hD [0, 1, 2, 3, 4, 10, 11, 12] [5, 6, 7, 8, 9, 13, 14] rfl rfl (by decide) (by decide) hk1 hFc hP1 hD1
        have hP := hP.sub (ws' := [(h0, .inr (12, fsMM (upd (upd mi 37 y_322) 41 w0_41) mr)), ((mr 14), .inl (km_must, 25, .inl f_323)), ((mr 15), .inl (km_least, 25, .inl f_324)), ((mr 16), .inl (km_pin, 25, .inl z3)), ((mr 17), .inl (km_ways, 6875, .inl f_325)), ((mr 18), .inl (km_verdict, 24, .inl z5)), ((mr 19), .inl (km_row, 24, .inl z6)), ((mr 4), .inl (km_struck, 24, .inl fm_struck)), ((mr 7), .inl (km_reportKnown, 24, .inl fm_reportKnown)), ((mr 2), .inl (km_reportPlace, 24, .inl fm_reportPlace)), ((mr 5), .inl (km_reportMonth, 24, .inl fm_reportMonth)), ((mr 6), .inl (km_reportDay, 24, .inl fm_reportDay)), ((mr 3), .inl (km_reportKind, 24, .inl fm_reportKind)), ((mr 0), .inl (km_trust, 6, .inl fm_trust)), ((mr 1), .inl (km_letter, 36, .inl fm_letter))]) [7, 8, 9, 10, 11, 0, 1, 2, 3, 4, 12, 13, 14, 5, 6] rfl
        have hD := hD.sub (ws' := [(h0, .inr (12, fsMM (upd (upd mi 37 y_322) 41 w0_41) mr)), ((mr 14), .inl (km_must, 25, .inl f_323)), ((mr 15), .inl (km_least, 25, .inl f_324)), ((mr 16), .inl (km_pin, 25, .inl z3)), ((mr 17), .inl (km_ways, 6875, .inl f_325)), ((mr 18), .inl (km_verdict, 24, .inl z5)), ((mr 19), .inl (km_row, 24, .inl z6)), ((mr 4), .inl (km_struck, 24, .inl fm_struck)), ((mr 7), .inl (km_reportKnown, 24, .inl fm_reportKnown)), ((mr 2), .inl (km_reportPlace, 24, .inl fm_reportPlace)), ((mr 5), .inl (km_reportMonth, 24, .inl fm_reportMonth)), ((mr 6), .inl (km_reportDay, 24, .inl fm_reportDay)), ((mr 3), .inl (km_reportKind, 24, .inl fm_reportKind)), ((mr 0), .inl (km_trust, 6, .inl fm_trust)), ((mr 1), .inl (km_letter, 36, .inl fm_letter))]) [7, 8, 9, 10, 11, 0, 1, 2, 3, 4, 12, 13, 14, 5, 6] (by decide) rfl
        generalize H1 = H at hP hS ⊢
        have gr_321 : gi r_321 0 2 := hw
        refine va_iast hx hb hK hP hD hS 5 4 rfl rfl (gi_in gx_319 (by decide)) dX12_judgesAll_39 (fun H locs hP hD hS => ?_)
        have hP : va_P (dC, dI) vwCl [(h0, .inr (12, fsMM (upd (upd mi 37 y_322) 41 w0_41) mr)), ((mr 14), .inl (km_must, 25, .inl f_323)), ((mr 15), .inl (km_least, 25, .inl f_324)), ((mr 16), .inl (km_pin, 25, .inl z3)), ((mr 17), .inl (km_ways, 6875, .inl f_325)), ((mr 18), .inl (km_verdict, 24, .inl (upd z5 (x_319 : Int32).toNatClampNeg r_321))), ((mr 19), .inl (km_row, 24, .inl z6)), ((mr 4), .inl (km_struck, 24, .inl fm_struck)), ((mr 7), .inl (km_reportKnown, 24, .inl fm_reportKnown)), ((mr 2), .inl (km_reportPlace, 24, .inl fm_reportPlace)), ((mr 5), .inl (km_reportMonth, 24, .inl fm_reportMonth)), ((mr 6), .inl (km_reportDay, 24, .inl fm_reportDay)), ((mr 3), .inl (km_reportKind, 24, .inl fm_reportKind)), ((mr 0), .inl (km_trust, 6, .inl fm_trust)), ((mr 1), .inl (km_letter, 36, .inl fm_letter))] H := hP
        have hD : va_D A [(h0, .inr (12, fsMM (upd (upd mi 37 y_322) 41 w0_41) mr)), ((mr 14), .inl (km_must, 25, .inl f_323)), ((mr 15), .inl (km_least, 25, .inl f_324)), ((mr 16), .inl (km_pin, 25, .inl z3)), ((mr 17), .inl (km_ways, 6875, .inl f_325)), ((mr 18), .inl (km_verdict, 24, .inl (upd z5 (x_319 : Int32).toNatClampNeg r_321))), ((mr 19), .inl (km_row, 24, .inl z6)), ((mr 4), .inl (km_struck, 24, .inl fm_struck)), ((mr 7), .inl (km_reportKnown, 24, .inl fm_reportKnown)), ((mr 2), .inl (km_reportPlace, 24, .inl fm_reportPlace)), ((mr 5), .inl (km_reportMonth, 24, .inl fm_reportMonth)), ((mr 6), .inl (km_reportDay, 24, .inl fm_reportDay)), ((mr 3), .inl (km_reportKind, 24, .inl fm_reportKind)), ((mr 0), .inl (km_trust, 6, .inl fm_trust)), ((mr 1), .inl (km_letter, 36, .inl fm_letter))] := hD
        generalize upd z5 (x_319 : Int32).toNatClampNeg r_321 = f_326 at hP hD
        obtain ⟨x_327, ex_327⟩ : ∃ y : Int32, y = v2 + 1 := ⟨_, rfl⟩
        have gx_327 : gi x_327 1 24 := gi_add ex_327 g_317 (gi_c 1 1 (by decide)) (by decide)
        refine lv_iinc (v := x_327) (lv' := [(2, .int x_327), (0, .ref h0), (1, .int p1)]) hx hb dX12_judgesAll_40 hl (k := 2) rfl (by rw [ex_327]; rfl) (by decide) rfl (fun ls hl => ?_)
        refine lv_goto (tgt := 11) hx hb dX12_judgesAll_43 (by decide) ?_
        exact ih x_327 y_322 w0_41 f_323 f_324 z3 f_325 f_326 z6 _ _ _ (gi_w gx_327 (by decide)) gy_322 (gi_w g_318 (by decide)) gz6 (by have av2 := gv2.1; have bv2 := gv2.2; have qgx_327 := gx_327.1; have rgx_327 := gx_327.2; have igx_327 : x_327.toInt = v2.toInt + 1 := (by have hc1 : (1 : Int32).toInt = 1 := (by decide); have h9 := gi_addI ex_327 (by have h1 := g_317.1; have h2 := (gi_c 1 1 (by decide)).1; have h3 := g_317.2; have h4 := (gi_c 1 1 (by decide)).2; omega) (by have h1 := g_317.1; have h2 := (gi_c 1 1 (by decide)).1; have h3 := g_317.2; have h4 := (gi_c 1 1 (by decide)).2; omega); rw [hc1] at h9; exact h9); have qgv2 := g_317.1; have rgv2 := g_317.2; omega) hP hD hS (lv_sub hl [1, 2, 0] rfl)
set_option maxHeartbeats 4000000 in
set_option maxRecDepth 100000 in
theorem sX12_judgesAll (l : Launch) (dC : Nat → ClassId) (dI : Nat → Nat → Nat) (sz : Nat) (h0 : Nat) (mi : Nat → Int32) (mr : Nat → Nat) (km_must : ClassId) (fm_must : Nat → Int32) (km_least : ClassId) (fm_least : Nat → Int32) (km_pin : ClassId) (fm_pin : Nat → Int32) (km_ways : ClassId) (fm_ways : Nat → Int32) (km_verdict : ClassId) (fm_verdict : Nat → Int32) (km_row : ClassId) (fm_row : Nat → Int32) (km_struck : ClassId) (fm_struck : Nat → Int32) (km_reportKnown : ClassId) (fm_reportKnown : Nat → Int32) (km_reportPlace : ClassId) (fm_reportPlace : Nat → Int32) (km_reportMonth : ClassId) (fm_reportMonth : Nat → Int32) (km_reportDay : ClassId) (fm_reportDay : Nat → Int32) (km_reportKind : ClassId) (fm_reportKind : Nat → Int32) (km_trust : ClassId) (fm_trust : Nat → Int32) (km_letter : ClassId) (fm_letter : Nat → Int32) (p1 : Int32) (gmi_0 : gi (mi 0) 0 24) (gmi_1 : gi (mi 1) 0 5) (gmi_2 : gi (mi 2) 0 5) (gmi_4 : gi (mi 4) 0 1) (gmi_7 : gi (mi 7) 0 6) (gmi_10 : gi (mi 10) 0 24) (gmi_17 : gi (mi 17) 0 8) (gmi_23 : gi (mi 23) 0 300) (gmi_24 : gi (mi 24) 0 1) (gmi_26 : gi (mi 26) 0 1600) (gmi_29 : gi (mi 29) 0 1600) (gmi_30 : gi (mi 30) 0 1600) (gmi_33 : gi (mi 33) 0 1) (gmi_37 : gi (mi 37) 0 1) (gmi_41 : gi (mi 41) 0 24) (gmi_50 : gi (mi 50) 0 1) (gmi_51 : gi (mi 51) 0 1) (gmi_56 : gi (mi 56) 0 80) (gfm_row : ga fm_row 24 0 23) (gfm_struck : ga fm_struck 24 0 1) (gfm_reportKnown : ga fm_reportKnown 24 0 999) (gfm_reportPlace : ga fm_reportPlace 24 0 5) (gfm_reportMonth : ga fm_reportMonth 24 0 23) (gfm_reportDay : ga fm_reportDay 24 0 999) : Met l yX12_judgesAll (.code yX12_judgesAll cX12_judgesAll 3 none :: wsGB) ({ frames := 4, cells := 0, slots := 0, locals := 97 }) (va_Pc [.ref h0, .int p1] (fun U => U.heap.size = sz ∧ va_P (dC, dI) vwCl [(h0, .inr (12, fsMM mi mr)), ((mr 14), .inl (km_must, 25, .inl fm_must)), ((mr 15), .inl (km_least, 25, .inl fm_least)), ((mr 16), .inl (km_pin, 25, .inl fm_pin)), ((mr 17), .inl (km_ways, 6875, .inl fm_ways)), ((mr 18), .inl (km_verdict, 24, .inl fm_verdict)), ((mr 19), .inl (km_row, 24, .inl fm_row)), ((mr 4), .inl (km_struck, 24, .inl fm_struck)), ((mr 7), .inl (km_reportKnown, 24, .inl fm_reportKnown)), ((mr 2), .inl (km_reportPlace, 24, .inl fm_reportPlace)), ((mr 5), .inl (km_reportMonth, 24, .inl fm_reportMonth)), ((mr 6), .inl (km_reportDay, 24, .inl fm_reportDay)), ((mr 3), .inl (km_reportKind, 24, .inl fm_reportKind)), ((mr 0), .inl (km_trust, 6, .inl fm_trust)), ((mr 1), .inl (km_letter, 36, .inl fm_letter))] U.heap ∧ va_K (dC, dI) vwCl [(km_must, .int), (km_least, .int), (km_pin, .int), (km_ways, .int), (km_verdict, .int), (km_row, .int), (km_struck, .boolean), (km_reportKnown, .int), (km_reportPlace, .int), (km_reportMonth, .int), (km_reportDay, .int), (km_reportKind, .int), (km_trust, .int), (km_letter, .int)] U ∧ va_D (fun _ => True) [(h0, .inr (12, fsMM mi mr)), ((mr 14), .inl (km_must, 25, .inl fm_must)), ((mr 15), .inl (km_least, 25, .inl fm_least)), ((mr 16), .inl (km_pin, 25, .inl fm_pin)), ((mr 17), .inl (km_ways, 6875, .inl fm_ways)), ((mr 18), .inl (km_verdict, 24, .inl fm_verdict)), ((mr 19), .inl (km_row, 24, .inl fm_row)), ((mr 4), .inl (km_struck, 24, .inl fm_struck)), ((mr 7), .inl (km_reportKnown, 24, .inl fm_reportKnown)), ((mr 2), .inl (km_reportPlace, 24, .inl fm_reportPlace)), ((mr 5), .inl (km_reportMonth, 24, .inl fm_reportMonth)), ((mr 6), .inl (km_reportDay, 24, .inl fm_reportDay)), ((mr 3), .inl (km_reportKind, 24, .inl fm_reportKind)), ((mr 0), .inl (km_trust, 6, .inl fm_trust)), ((mr 1), .inl (km_letter, 36, .inl fm_letter))])) (va_Qv (fun (u : Unit) => True) (fun _ t => ∃ (w0_37 : Int32) (w0_41 : Int32) (z1 : Nat → Int32) (z2 : Nat → Int32) (z3 : Nat → Int32) (z4 : Nat → Int32) (z5 : Nat → Int32) (z6 : Nat → Int32), gi w0_37 0 1 ∧ gi w0_41 0 24 ∧ ga z6 24 0 23 ∧ va_P (dC, dI) vwCl [(h0, .inr (12, fsMM (upd (upd mi 37 w0_37) 41 w0_41) mr)), ((mr 14), .inl (km_must, 25, .inl z1)), ((mr 15), .inl (km_least, 25, .inl z2)), ((mr 16), .inl (km_pin, 25, .inl z3)), ((mr 17), .inl (km_ways, 6875, .inl z4)), ((mr 18), .inl (km_verdict, 24, .inl z5)), ((mr 19), .inl (km_row, 24, .inl z6)), ((mr 4), .inl (km_struck, 24, .inl fm_struck)), ((mr 7), .inl (km_reportKnown, 24, .inl fm_reportKnown)), ((mr 2), .inl (km_reportPlace, 24, .inl fm_reportPlace)), ((mr 5), .inl (km_reportMonth, 24, .inl fm_reportMonth)), ((mr 6), .inl (km_reportDay, 24, .inl fm_reportDay)), ((mr 3), .inl (km_reportKind, 24, .inl fm_reportKind)), ((mr 0), .inl (km_trust, 6, .inl fm_trust)), ((mr 1), .inl (km_letter, 36, .inl fm_letter))] t.heap ∧ va_D (va_A [(h0, .inr (12, fsMM mi mr)), ((mr 14), .inl (km_must, 25, .inl fm_must)), ((mr 15), .inl (km_least, 25, .inl fm_least)), ((mr 16), .inl (km_pin, 25, .inl fm_pin)), ((mr 17), .inl (km_ways, 6875, .inl fm_ways)), ((mr 18), .inl (km_verdict, 24, .inl fm_verdict)), ((mr 19), .inl (km_row, 24, .inl fm_row)), ((mr 4), .inl (km_struck, 24, .inl fm_struck)), ((mr 7), .inl (km_reportKnown, 24, .inl fm_reportKnown)), ((mr 2), .inl (km_reportPlace, 24, .inl fm_reportPlace)), ((mr 5), .inl (km_reportMonth, 24, .inl fm_reportMonth)), ((mr 6), .inl (km_reportDay, 24, .inl fm_reportDay)), ((mr 3), .inl (km_reportKind, 24, .inl fm_reportKind)), ((mr 0), .inl (km_trust, 6, .inl fm_trust)), ((mr 1), .inl (km_letter, 36, .inl fm_letter))] sz) [(h0, .inr (12, fsMM (upd (upd mi 37 w0_37) 41 w0_41) mr)), ((mr 14), .inl (km_must, 25, .inl z1)), ((mr 15), .inl (km_least, 25, .inl z2)), ((mr 16), .inl (km_pin, 25, .inl z3)), ((mr 17), .inl (km_ways, 6875, .inl z4)), ((mr 18), .inl (km_verdict, 24, .inl z5)), ((mr 19), .inl (km_row, 24, .inl z6)), ((mr 4), .inl (km_struck, 24, .inl fm_struck)), ((mr 7), .inl (km_reportKnown, 24, .inl fm_reportKnown)), ((mr 2), .inl (km_reportPlace, 24, .inl fm_reportPlace)), ((mr 5), .inl (km_reportMonth, 24, .inl fm_reportMonth)), ((mr 6), .inl (km_reportDay, 24, .inl fm_reportDay)), ((mr 3), .inl (km_reportKind, 24, .inl fm_reportKind)), ((mr 0), .inl (km_trust, 6, .inl fm_trust)), ((mr 1), .inl (km_letter, 36, .inl fm_letter))]) (va_A [(h0, .inr (12, fsMM mi mr)), ((mr 14), .inl (km_must, 25, .inl fm_must)), ((mr 15), .inl (km_least, 25, .inl fm_least)), ((mr 16), .inl (km_pin, 25, .inl fm_pin)), ((mr 17), .inl (km_ways, 6875, .inl fm_ways)), ((mr 18), .inl (km_verdict, 24, .inl fm_verdict)), ((mr 19), .inl (km_row, 24, .inl fm_row)), ((mr 4), .inl (km_struck, 24, .inl fm_struck)), ((mr 7), .inl (km_reportKnown, 24, .inl fm_reportKnown)), ((mr 2), .inl (km_reportPlace, 24, .inl fm_reportPlace)), ((mr 5), .inl (km_reportMonth, 24, .inl fm_reportMonth)), ((mr 6), .inl (km_reportDay, 24, .inl fm_reportDay)), ((mr 3), .inl (km_reportKind, 24, .inl fm_reportKind)), ((mr 0), .inl (km_trust, 6, .inl fm_trust)), ((mr 1), .inl (km_letter, 36, .inl fm_letter))] sz)) 0 0 (va_A [(h0, .inr (12, fsMM mi mr)), ((mr 14), .inl (km_must, 25, .inl fm_must)), ((mr 15), .inl (km_least, 25, .inl fm_least)), ((mr 16), .inl (km_pin, 25, .inl fm_pin)), ((mr 17), .inl (km_ways, 6875, .inl fm_ways)), ((mr 18), .inl (km_verdict, 24, .inl fm_verdict)), ((mr 19), .inl (km_row, 24, .inl fm_row)), ((mr 4), .inl (km_struck, 24, .inl fm_struck)), ((mr 7), .inl (km_reportKnown, 24, .inl fm_reportKnown)), ((mr 2), .inl (km_reportPlace, 24, .inl fm_reportPlace)), ((mr 5), .inl (km_reportMonth, 24, .inl fm_reportMonth)), ((mr 6), .inl (km_reportDay, 24, .inl fm_reportDay)), ((mr 3), .inl (km_reportKind, 24, .inl fm_reportKind)), ((mr 0), .inl (km_trust, 6, .inl fm_trust)), ((mr 1), .inl (km_letter, 36, .inl fm_letter))] sz) := by
  refine Met.ofW (cc := cX12_judgesAll) (maxL := 3) (ret := none) (by decide) rfl ?_
  intro p e s m args below meth c s₁ B hml hv
  obtain ⟨rfl, hsz, hP, hK, hD0⟩ := hv
  have hx := B.exec
  have hb := B.bytes
  have hr := B.returns
  have hts := atoms_spec (ws := (.code yX12_judgesAll cX12_judgesAll 3 none :: wsGB)) B.pre
  have hown : s.vm.findClass RX12 = some m.cls := findClass_of_methodNamed B.named
  have hlocks := B.notSynchronized
  subst hsz
  have hD := hD0.self (sz := s.heap.size)
  generalize hAe : va_A [(h0, .inr (12, fsMM mi mr)), ((mr 14), .inl (km_must, 25, .inl fm_must)), ((mr 15), .inl (km_least, 25, .inl fm_least)), ((mr 16), .inl (km_pin, 25, .inl fm_pin)), ((mr 17), .inl (km_ways, 6875, .inl fm_ways)), ((mr 18), .inl (km_verdict, 24, .inl fm_verdict)), ((mr 19), .inl (km_row, 24, .inl fm_row)), ((mr 4), .inl (km_struck, 24, .inl fm_struck)), ((mr 7), .inl (km_reportKnown, 24, .inl fm_reportKnown)), ((mr 2), .inl (km_reportPlace, 24, .inl fm_reportPlace)), ((mr 5), .inl (km_reportMonth, 24, .inl fm_reportMonth)), ((mr 6), .inl (km_reportDay, 24, .inl fm_reportDay)), ((mr 3), .inl (km_reportKind, 24, .inl fm_reportKind)), ((mr 0), .inl (km_trust, 6, .inl fm_trust)), ((mr 1), .inl (km_letter, 36, .inl fm_letter))] s.heap.size = A at hD ⊢
  have hA : ∀ q : Nat, s.heap.size ≤ q → A q := fun q h => by rw [← hAe]; exact Or.inr h
  have hS : va_S A s.heap s.heap [] := va_S.rf
  have hl := lv_entry ([.ref h0, .int p1]) (n := 3) (Nat.le_of_ble_eq_true rfl)
  rw [lg_entry_eq]
  generalize (lg_sl ([.ref h0, .int p1]) ++ List.replicate (3 - (lg_sl ([.ref h0, .int p1])).length) Slot.unset).toArray = ls at hl ⊢
  have hl : lv_has ls 3 [(0, .ref h0), (1, .int p1)] := hl
  refine lv_aload_n hx hb dX12_judgesAll_0 rfl (lv_at hl 0 rfl) ?_
  have hPc := hP.sub (ws' := [(h0, .inr (12, fsMM mi mr)), ((mr 14), .inl (km_must, 25, .inl fm_must)), ((mr 15), .inl (km_least, 25, .inl fm_least)), ((mr 16), .inl (km_pin, 25, .inl fm_pin))]) [0, 1, 2, 3] rfl
  have hKc := hK.sub (tys' := [(km_must, .int), (km_least, .int), (km_pin, .int)]) [0, 1, 2] rfl
  have hDc := hD.sub (ws' := [(h0, .inr (12, fsMM mi mr)), ((mr 14), .inl (km_must, 25, .inl fm_must)), ((mr 15), .inl (km_least, 25, .inl fm_least)), ((mr 16), .inl (km_pin, 25, .inl fm_pin))]) [0, 1, 2, 3] (by decide) rfl
  have hFc := va_free (wc := [(h0, .inr (12, fsMM mi mr)), ((mr 14), .inl (km_must, 25, .inl fm_must)), ((mr 15), .inl (km_least, 25, .inl fm_least)), ((mr 16), .inl (km_pin, 25, .inl fm_pin))]) hD hS hA [0, 1, 2, 3] rfl
  refine va_callv (va_runV (As := []) (rest := []) ⟨hx, hb, hml, hown, hts⟩ (sX12_frees l dC dI s.heap.size h0 mi mr km_must fm_must km_least fm_least km_pin fm_pin gmi_0 gmi_1 gmi_2 gmi_4 gmi_7 gmi_10 gmi_17 gmi_23 gmi_24 gmi_26 gmi_29 gmi_30 gmi_33 gmi_37 gmi_41 gmi_50 gmi_51 gmi_56) (cwV 0 hts (gz_gV mGB_266 mGB_267 mGB_268 mGB_1 mGB_269 goodGB) rfl rfl rfl (by decide +kernel) ⟨Nat.le_of_ble_eq_true rfl, Nat.le_of_ble_eq_true rfl⟩) ⟨fun a U g mk q => by obtain ⟨q0, q1, qP, qK, qD⟩ := q; exact ⟨q0, q1, qP, va_K.moved (u := U) (U := U.calling g mk a) (Vm.Alike.refl U.vm) qK, qD⟩, va_recv hKc hPc (ci := 12) (q0 := 0) rfl rfl, fun U hU hW => ⟨rfl, by rw [hU], by rw [hU]; exact hPc, va_K.moved hW.alike hKc, hDc.weaken (fun _ _ _ _ => trivial)⟩⟩ rfl rfl hl.1 rfl (lv_room (Nat.le_of_ble_eq_true rfl)) dX12_judgesAll_1 ⟨Nat.zero_le _, Nat.zero_le _⟩) hS (fun q _ h => hFc q h) hFc (fun u t H1 locs ht hvm hw hB hz1 hk1 hS => ?_)
  obtain ⟨y_329, f_330, f_331, f_332, gy_329, hP1, hD1⟩ := hB
  rw [ht] at hP1
  obtain ⟨hP, hD⟩ := va_join (wr := [((mr 17), .inl (km_ways, 6875, .inl fm_ways)), ((mr 18), .inl (km_verdict, 24, .inl fm_verdict)), ((mr 19), .inl (km_row, 24, .inl fm_row)), ((mr 4), .inl (km_struck, 24, .inl fm_struck)), ((mr 7), .inl (km_reportKnown, 24, .inl fm_reportKnown)), ((mr 2), .inl (km_reportPlace, 24, .inl fm_reportPlace)), ((mr 5), .inl (km_reportMonth, 24, .inl fm_reportMonth)), ((mr 6), .inl (km_reportDay, 24, .inl fm_reportDay)), ((mr 3), .inl (km_reportKind, 24, .inl fm_reportKind)), ((mr 0), .inl (km_trust, 6, .inl fm_trust)), ((mr 1), .inl (km_letter, 36, .inl fm_letter))]) (w1 := [(h0, .inr (12, fsMM (upd mi 37 y_329) mr)), ((mr 14), .inl (km_must, 25, .inl f_330)), ((mr 15), .inl (km_least, 25, .inl f_331)), ((mr 16), .inl (km_pin, 25, .inl f_332))]) hP hD [0, 1, 2, 3] [4, 5, 6, 7, 8, 9, 10, 11, 12, 13, 14] rfl rfl (by decide) (by decide) hk1 hFc hP1 hD1
  have hP := hP.sub (ws' := [(h0, .inr (12, fsMM (upd mi 37 y_329) mr)), ((mr 14), .inl (km_must, 25, .inl f_330)), ((mr 15), .inl (km_least, 25, .inl f_331)), ((mr 16), .inl (km_pin, 25, .inl f_332)), ((mr 17), .inl (km_ways, 6875, .inl fm_ways)), ((mr 18), .inl (km_verdict, 24, .inl fm_verdict)), ((mr 19), .inl (km_row, 24, .inl fm_row)), ((mr 4), .inl (km_struck, 24, .inl fm_struck)), ((mr 7), .inl (km_reportKnown, 24, .inl fm_reportKnown)), ((mr 2), .inl (km_reportPlace, 24, .inl fm_reportPlace)), ((mr 5), .inl (km_reportMonth, 24, .inl fm_reportMonth)), ((mr 6), .inl (km_reportDay, 24, .inl fm_reportDay)), ((mr 3), .inl (km_reportKind, 24, .inl fm_reportKind)), ((mr 0), .inl (km_trust, 6, .inl fm_trust)), ((mr 1), .inl (km_letter, 36, .inl fm_letter))]) [11, 12, 13, 14, 0, 1, 2, 3, 4, 5, 6, 7, 8, 9, 10] rfl
  have hD := hD.sub (ws' := [(h0, .inr (12, fsMM (upd mi 37 y_329) mr)), ((mr 14), .inl (km_must, 25, .inl f_330)), ((mr 15), .inl (km_least, 25, .inl f_331)), ((mr 16), .inl (km_pin, 25, .inl f_332)), ((mr 17), .inl (km_ways, 6875, .inl fm_ways)), ((mr 18), .inl (km_verdict, 24, .inl fm_verdict)), ((mr 19), .inl (km_row, 24, .inl fm_row)), ((mr 4), .inl (km_struck, 24, .inl fm_struck)), ((mr 7), .inl (km_reportKnown, 24, .inl fm_reportKnown)), ((mr 2), .inl (km_reportPlace, 24, .inl fm_reportPlace)), ((mr 5), .inl (km_reportMonth, 24, .inl fm_reportMonth)), ((mr 6), .inl (km_reportDay, 24, .inl fm_reportDay)), ((mr 3), .inl (km_reportKind, 24, .inl fm_reportKind)), ((mr 0), .inl (km_trust, 6, .inl fm_trust)), ((mr 1), .inl (km_letter, 36, .inl fm_letter))]) [11, 12, 13, 14, 0, 1, 2, 3, 4, 5, 6, 7, 8, 9, 10] (by decide) rfl
  generalize H1 = H at hP hS ⊢
  refine lv_aload_n hx hb dX12_judgesAll_4 rfl (lv_at hl 0 rfl) ?_
  refine lv_iload_n hx hb dX12_judgesAll_5 rfl (lv_at hl 1 rfl) ?_
  have hPc := hP.sub (ws' := [(h0, .inr (12, fsMM (upd mi 37 y_329) mr)), ((mr 18), .inl (km_verdict, 24, .inl fm_verdict)), ((mr 19), .inl (km_row, 24, .inl fm_row)), ((mr 4), .inl (km_struck, 24, .inl fm_struck)), ((mr 7), .inl (km_reportKnown, 24, .inl fm_reportKnown)), ((mr 2), .inl (km_reportPlace, 24, .inl fm_reportPlace)), ((mr 5), .inl (km_reportMonth, 24, .inl fm_reportMonth)), ((mr 6), .inl (km_reportDay, 24, .inl fm_reportDay)), ((mr 3), .inl (km_reportKind, 24, .inl fm_reportKind)), ((mr 0), .inl (km_trust, 6, .inl fm_trust)), ((mr 1), .inl (km_letter, 36, .inl fm_letter))]) [0, 5, 6, 7, 8, 9, 10, 11, 12, 13, 14] rfl
  have hKc := hK.sub (tys' := [(km_verdict, .int), (km_row, .int), (km_struck, .boolean), (km_reportKnown, .int), (km_reportPlace, .int), (km_reportMonth, .int), (km_reportDay, .int), (km_reportKind, .int), (km_trust, .int), (km_letter, .int)]) [4, 5, 6, 7, 8, 9, 10, 11, 12, 13] rfl
  have hDc := hD.sub (ws' := [(h0, .inr (12, fsMM (upd mi 37 y_329) mr)), ((mr 18), .inl (km_verdict, 24, .inl fm_verdict)), ((mr 19), .inl (km_row, 24, .inl fm_row)), ((mr 4), .inl (km_struck, 24, .inl fm_struck)), ((mr 7), .inl (km_reportKnown, 24, .inl fm_reportKnown)), ((mr 2), .inl (km_reportPlace, 24, .inl fm_reportPlace)), ((mr 5), .inl (km_reportMonth, 24, .inl fm_reportMonth)), ((mr 6), .inl (km_reportDay, 24, .inl fm_reportDay)), ((mr 3), .inl (km_reportKind, 24, .inl fm_reportKind)), ((mr 0), .inl (km_trust, 6, .inl fm_trust)), ((mr 1), .inl (km_letter, 36, .inl fm_letter))]) [0, 5, 6, 7, 8, 9, 10, 11, 12, 13, 14] (by decide) rfl
  have hFc := va_free (wc := [(h0, .inr (12, fsMM (upd mi 37 y_329) mr)), ((mr 18), .inl (km_verdict, 24, .inl fm_verdict)), ((mr 19), .inl (km_row, 24, .inl fm_row)), ((mr 4), .inl (km_struck, 24, .inl fm_struck)), ((mr 7), .inl (km_reportKnown, 24, .inl fm_reportKnown)), ((mr 2), .inl (km_reportPlace, 24, .inl fm_reportPlace)), ((mr 5), .inl (km_reportMonth, 24, .inl fm_reportMonth)), ((mr 6), .inl (km_reportDay, 24, .inl fm_reportDay)), ((mr 3), .inl (km_reportKind, 24, .inl fm_reportKind)), ((mr 0), .inl (km_trust, 6, .inl fm_trust)), ((mr 1), .inl (km_letter, 36, .inl fm_letter))]) hD hS hA [0, 5, 6, 7, 8, 9, 10, 11, 12, 13, 14] rfl
  refine va_callv (va_runV (As := [.int p1]) (rest := []) ⟨hx, hb, hml, hown, hts⟩ (sX12_laysRow l dC dI H.size h0 (upd mi 37 y_329) mr km_verdict fm_verdict km_row fm_row km_struck fm_struck km_reportKnown fm_reportKnown km_reportPlace fm_reportPlace km_reportMonth fm_reportMonth km_reportDay fm_reportDay km_reportKind fm_reportKind km_trust fm_trust km_letter fm_letter p1 gmi_0 gmi_1 gmi_2 gmi_4 gmi_7 gmi_10 gmi_17 gmi_23 gmi_24 gmi_26 gmi_29 gmi_30 gmi_33 gy_329 gmi_41 gmi_50 gmi_51 gmi_56 gfm_row gfm_struck gfm_reportKnown gfm_reportPlace gfm_reportMonth gfm_reportDay) (cwV 1 hts (gz_gV mGB_275 mGB_276 mGB_277 mGB_1 mGB_278 goodGB) rfl rfl rfl (by decide +kernel) ⟨Nat.le_of_ble_eq_true rfl, Nat.le_of_ble_eq_true rfl⟩) ⟨fun a U g mk q => by obtain ⟨q0, q1, qP, qK, qD⟩ := q; exact ⟨q0, q1, qP, va_K.moved (u := U) (U := U.calling g mk a) (Vm.Alike.refl U.vm) qK, qD⟩, va_recv hKc hPc (ci := 12) (q0 := 0) rfl rfl, fun U hU hW => ⟨rfl, by rw [hU], by rw [hU]; exact hPc, va_K.moved hW.alike hKc, hDc.weaken (fun _ _ _ _ => trivial)⟩⟩ rfl rfl hl.1 rfl (lv_room (Nat.le_of_ble_eq_true rfl)) dX12_judgesAll_6 ⟨Nat.zero_le _, Nat.zero_le _⟩) hS (fun q _ h => hFc q h) hFc (fun u t H1 locs ht hvm hw hB hz1 hk1 hS => ?_)
  obtain ⟨y_334, f_335, f_336, gy_334, gf_336, hP1, hD1⟩ := hB
  rw [ht] at hP1
  obtain ⟨hP, hD⟩ := va_join (wr := [((mr 14), .inl (km_must, 25, .inl f_330)), ((mr 15), .inl (km_least, 25, .inl f_331)), ((mr 16), .inl (km_pin, 25, .inl f_332)), ((mr 17), .inl (km_ways, 6875, .inl fm_ways))]) (w1 := [(h0, .inr (12, fsMM (upd (upd mi 37 y_329) 41 y_334) mr)), ((mr 18), .inl (km_verdict, 24, .inl f_335)), ((mr 19), .inl (km_row, 24, .inl f_336)), ((mr 4), .inl (km_struck, 24, .inl fm_struck)), ((mr 7), .inl (km_reportKnown, 24, .inl fm_reportKnown)), ((mr 2), .inl (km_reportPlace, 24, .inl fm_reportPlace)), ((mr 5), .inl (km_reportMonth, 24, .inl fm_reportMonth)), ((mr 6), .inl (km_reportDay, 24, .inl fm_reportDay)), ((mr 3), .inl (km_reportKind, 24, .inl fm_reportKind)), ((mr 0), .inl (km_trust, 6, .inl fm_trust)), ((mr 1), .inl (km_letter, 36, .inl fm_letter))]) hP hD [0, 5, 6, 7, 8, 9, 10, 11, 12, 13, 14] [1, 2, 3, 4] rfl rfl (by decide) (by decide) hk1 hFc hP1 hD1
  have hP := hP.sub (ws' := [(h0, .inr (12, fsMM (upd (upd mi 37 y_329) 41 y_334) mr)), ((mr 14), .inl (km_must, 25, .inl f_330)), ((mr 15), .inl (km_least, 25, .inl f_331)), ((mr 16), .inl (km_pin, 25, .inl f_332)), ((mr 17), .inl (km_ways, 6875, .inl fm_ways)), ((mr 18), .inl (km_verdict, 24, .inl f_335)), ((mr 19), .inl (km_row, 24, .inl f_336)), ((mr 4), .inl (km_struck, 24, .inl fm_struck)), ((mr 7), .inl (km_reportKnown, 24, .inl fm_reportKnown)), ((mr 2), .inl (km_reportPlace, 24, .inl fm_reportPlace)), ((mr 5), .inl (km_reportMonth, 24, .inl fm_reportMonth)), ((mr 6), .inl (km_reportDay, 24, .inl fm_reportDay)), ((mr 3), .inl (km_reportKind, 24, .inl fm_reportKind)), ((mr 0), .inl (km_trust, 6, .inl fm_trust)), ((mr 1), .inl (km_letter, 36, .inl fm_letter))]) [4, 0, 1, 2, 3, 5, 6, 7, 8, 9, 10, 11, 12, 13, 14] rfl
  have hD := hD.sub (ws' := [(h0, .inr (12, fsMM (upd (upd mi 37 y_329) 41 y_334) mr)), ((mr 14), .inl (km_must, 25, .inl f_330)), ((mr 15), .inl (km_least, 25, .inl f_331)), ((mr 16), .inl (km_pin, 25, .inl f_332)), ((mr 17), .inl (km_ways, 6875, .inl fm_ways)), ((mr 18), .inl (km_verdict, 24, .inl f_335)), ((mr 19), .inl (km_row, 24, .inl f_336)), ((mr 4), .inl (km_struck, 24, .inl fm_struck)), ((mr 7), .inl (km_reportKnown, 24, .inl fm_reportKnown)), ((mr 2), .inl (km_reportPlace, 24, .inl fm_reportPlace)), ((mr 5), .inl (km_reportMonth, 24, .inl fm_reportMonth)), ((mr 6), .inl (km_reportDay, 24, .inl fm_reportDay)), ((mr 3), .inl (km_reportKind, 24, .inl fm_reportKind)), ((mr 0), .inl (km_trust, 6, .inl fm_trust)), ((mr 1), .inl (km_letter, 36, .inl fm_letter))]) [4, 0, 1, 2, 3, 5, 6, 7, 8, 9, 10, 11, 12, 13, 14] (by decide) rfl
  generalize H1 = H at hP hS ⊢
  refine lv_iconst (v := 0) hx hb dX12_judgesAll_9 (by decide) ?_
  refine lv_istore_n (lv' := [(2, .int 0), (0, .ref h0), (1, .int p1)]) hx hb dX12_judgesAll_10 rfl hl (by decide) rfl (fun ls hl => ?_)
  refine (lp_sX12_judgesAll h0 mi mr km_must fm_must km_least fm_least km_pin fm_pin km_ways fm_ways km_verdict fm_verdict km_row fm_row km_struck fm_struck km_reportKnown fm_reportKnown km_reportPlace fm_reportPlace km_reportMonth fm_reportMonth km_reportDay fm_reportDay km_reportKind fm_reportKind km_trust fm_trust km_letter fm_letter p1 gmi_0 gmi_1 gmi_2 gmi_4 gmi_7 gmi_10 gmi_17 gmi_23 gmi_24 gmi_26 gmi_29 gmi_30 gmi_33 gmi_37 gmi_41 gmi_50 gmi_51 gmi_56 gfm_row gfm_struck gfm_reportKnown gfm_reportPlace gfm_reportMonth gfm_reportDay hx hb hml hown hts hK hA (Nat.le_of_ble_eq_true rfl) (Nat.le_of_ble_eq_true rfl) (Nat.zero_le _) (Nat.zero_le _) (fun w0_37 w0_41 z1 z2 z3 z4 z5 z6 H locs ls gw0_37 gw0_41 gz6 hP hD hS hl => ?_) 62) 0 y_329 y_334 f_330 f_331 f_332 fm_ways f_335 f_336 _ _ _ (gi_w (gi_c 0 0 (by decide)) (by decide)) gy_329 gy_334 gf_336 (by have k0 : (0 : Int32).toInt = 0 := (by decide); omega) hP hD hS (lv_sub hl [1, 2, 0] rfl)
  · skip
    exact W.vret hx hb hr (fun t ht hW => ⟨⟨(), rfl, trivial, w0_37, w0_41, z1, z2, z3, z4, z5, z6, gw0_37, gw0_41, gz6, by rw [ht]; exact hP, hD⟩, hS.F ht⟩) hS.2.2 dX12_judgesAll_46
theorem dX12_areBoth_0 : decode cX12_areBoth 0 = .ok (.aload_n 0, 1) := by decide +kernel
theorem dX12_areBoth_1 : decode cX12_areBoth 1 = .ok (.invokevirtual 350, 3) := by decide +kernel
theorem dX12_areBoth_4 : decode cX12_areBoth 4 = .ok (.aload_n 0, 1) := by decide +kernel
theorem dX12_areBoth_5 : decode cX12_areBoth 5 = .ok (.iload_n 1, 1) := by decide +kernel
theorem dX12_areBoth_6 : decode cX12_areBoth 6 = .ok (.invokevirtual 347, 3) := by decide +kernel
theorem dX12_areBoth_9 : decode cX12_areBoth 9 = .ok (.aload_n 0, 1) := by decide +kernel
theorem dX12_areBoth_10 : decode cX12_areBoth 10 = .ok (.iload_n 2, 1) := by decide +kernel
theorem dX12_areBoth_11 : decode cX12_areBoth 11 = .ok (.invokevirtual 347, 3) := by decide +kernel
theorem dX12_areBoth_14 : decode cX12_areBoth 14 = .ok (.aload_n 0, 1) := by decide +kernel
theorem dX12_areBoth_15 : decode cX12_areBoth 15 = .ok (.invokevirtual 332, 3) := by decide +kernel
theorem dX12_areBoth_18 : decode cX12_areBoth 18 = .ok (.ifCond .le 7, 3) := by decide +kernel
theorem dX12_areBoth_21 : decode cX12_areBoth 21 = .ok (.iconst 1, 1) := by decide +kernel
theorem dX12_areBoth_22 : decode cX12_areBoth 22 = .ok (.goto 4, 3) := by decide +kernel
theorem dX12_areBoth_25 : decode cX12_areBoth 25 = .ok (.iconst 0, 1) := by decide +kernel
theorem dX12_areBoth_26 : decode cX12_areBoth 26 = .ok (.ireturn, 1) := by decide +kernel
set_option maxHeartbeats 4000000 in
set_option maxRecDepth 100000 in
theorem sX12_areBoth (l : Launch) (dC : Nat → ClassId) (dI : Nat → Nat → Nat) (sz : Nat) (h0 : Nat) (mi : Nat → Int32) (mr : Nat → Nat) (km_must : ClassId) (fm_must : Nat → Int32) (km_least : ClassId) (fm_least : Nat → Int32) (km_pin : ClassId) (fm_pin : Nat → Int32) (km_ways : ClassId) (fm_ways : Nat → Int32) (km_reportMonth : ClassId) (fm_reportMonth : Nat → Int32) (km_reportDay : ClassId) (fm_reportDay : Nat → Int32) (km_reportKind : ClassId) (fm_reportKind : Nat → Int32) (p1 : Int32) (p2 : Int32) (gmi_0 : gi (mi 0) 0 24) (gmi_1 : gi (mi 1) 0 5) (gmi_2 : gi (mi 2) 0 5) (gmi_4 : gi (mi 4) 0 1) (gmi_7 : gi (mi 7) 0 6) (gmi_10 : gi (mi 10) 0 24) (gmi_17 : gi (mi 17) 0 8) (gmi_23 : gi (mi 23) 0 300) (gmi_24 : gi (mi 24) 0 1) (gmi_26 : gi (mi 26) 0 1600) (gmi_29 : gi (mi 29) 0 1600) (gmi_30 : gi (mi 30) 0 1600) (gmi_33 : gi (mi 33) 0 1) (gmi_37 : gi (mi 37) 0 1) (gmi_41 : gi (mi 41) 0 24) (gmi_50 : gi (mi 50) 0 1) (gmi_51 : gi (mi 51) 0 1) (gmi_56 : gi (mi 56) 0 80) (gfm_reportMonth : ga fm_reportMonth 24 0 23) (gfm_reportDay : ga fm_reportDay 24 0 999) (gp1 : gi p1 0 23) (gp2 : gi p2 0 23) : Met l yX12_areBoth (.code yX12_areBoth cX12_areBoth 3 (some .boolean) :: wsGB) ({ frames := 3, cells := 0, slots := 0, locals := 73 }) (va_Pc [.ref h0, .int p1, .int p2] (fun U => U.heap.size = sz ∧ va_P (dC, dI) vwCl [(h0, .inr (12, fsMM mi mr)), ((mr 14), .inl (km_must, 25, .inl fm_must)), ((mr 15), .inl (km_least, 25, .inl fm_least)), ((mr 16), .inl (km_pin, 25, .inl fm_pin)), ((mr 17), .inl (km_ways, 6875, .inl fm_ways)), ((mr 5), .inl (km_reportMonth, 24, .inl fm_reportMonth)), ((mr 6), .inl (km_reportDay, 24, .inl fm_reportDay)), ((mr 3), .inl (km_reportKind, 24, .inl fm_reportKind))] U.heap ∧ va_K (dC, dI) vwCl [(km_must, .int), (km_least, .int), (km_pin, .int), (km_ways, .int), (km_reportMonth, .int), (km_reportDay, .int), (km_reportKind, .int)] U ∧ va_D (fun _ => True) [(h0, .inr (12, fsMM mi mr)), ((mr 14), .inl (km_must, 25, .inl fm_must)), ((mr 15), .inl (km_least, 25, .inl fm_least)), ((mr 16), .inl (km_pin, 25, .inl fm_pin)), ((mr 17), .inl (km_ways, 6875, .inl fm_ways)), ((mr 5), .inl (km_reportMonth, 24, .inl fm_reportMonth)), ((mr 6), .inl (km_reportDay, 24, .inl fm_reportDay)), ((mr 3), .inl (km_reportKind, 24, .inl fm_reportKind))])) (va_Qi (fun (r : Int32) (u : Unit) => gi r 0 1) (fun _ t => ∃ (w0_37 : Int32) (z1 : Nat → Int32) (z2 : Nat → Int32) (z3 : Nat → Int32) (z4 : Nat → Int32), gi w0_37 0 1 ∧ va_P (dC, dI) vwCl [(h0, .inr (12, fsMM (upd mi 37 w0_37) mr)), ((mr 14), .inl (km_must, 25, .inl z1)), ((mr 15), .inl (km_least, 25, .inl z2)), ((mr 16), .inl (km_pin, 25, .inl z3)), ((mr 17), .inl (km_ways, 6875, .inl z4)), ((mr 5), .inl (km_reportMonth, 24, .inl fm_reportMonth)), ((mr 6), .inl (km_reportDay, 24, .inl fm_reportDay)), ((mr 3), .inl (km_reportKind, 24, .inl fm_reportKind))] t.heap ∧ va_D (va_A [(h0, .inr (12, fsMM mi mr)), ((mr 14), .inl (km_must, 25, .inl fm_must)), ((mr 15), .inl (km_least, 25, .inl fm_least)), ((mr 16), .inl (km_pin, 25, .inl fm_pin)), ((mr 17), .inl (km_ways, 6875, .inl fm_ways)), ((mr 5), .inl (km_reportMonth, 24, .inl fm_reportMonth)), ((mr 6), .inl (km_reportDay, 24, .inl fm_reportDay)), ((mr 3), .inl (km_reportKind, 24, .inl fm_reportKind))] sz) [(h0, .inr (12, fsMM (upd mi 37 w0_37) mr)), ((mr 14), .inl (km_must, 25, .inl z1)), ((mr 15), .inl (km_least, 25, .inl z2)), ((mr 16), .inl (km_pin, 25, .inl z3)), ((mr 17), .inl (km_ways, 6875, .inl z4)), ((mr 5), .inl (km_reportMonth, 24, .inl fm_reportMonth)), ((mr 6), .inl (km_reportDay, 24, .inl fm_reportDay)), ((mr 3), .inl (km_reportKind, 24, .inl fm_reportKind))]) (va_A [(h0, .inr (12, fsMM mi mr)), ((mr 14), .inl (km_must, 25, .inl fm_must)), ((mr 15), .inl (km_least, 25, .inl fm_least)), ((mr 16), .inl (km_pin, 25, .inl fm_pin)), ((mr 17), .inl (km_ways, 6875, .inl fm_ways)), ((mr 5), .inl (km_reportMonth, 24, .inl fm_reportMonth)), ((mr 6), .inl (km_reportDay, 24, .inl fm_reportDay)), ((mr 3), .inl (km_reportKind, 24, .inl fm_reportKind))] sz)) 0 0 (va_A [(h0, .inr (12, fsMM mi mr)), ((mr 14), .inl (km_must, 25, .inl fm_must)), ((mr 15), .inl (km_least, 25, .inl fm_least)), ((mr 16), .inl (km_pin, 25, .inl fm_pin)), ((mr 17), .inl (km_ways, 6875, .inl fm_ways)), ((mr 5), .inl (km_reportMonth, 24, .inl fm_reportMonth)), ((mr 6), .inl (km_reportDay, 24, .inl fm_reportDay)), ((mr 3), .inl (km_reportKind, 24, .inl fm_reportKind))] sz) := by
  refine Met.ofW (cc := cX12_areBoth) (maxL := 3) (ret := (some .boolean)) (by decide) rfl ?_
  intro p e s m args below meth c s₁ B hml hv
  obtain ⟨rfl, hsz, hP, hK, hD0⟩ := hv
  have hx := B.exec
  have hb := B.bytes
  have hr := B.returns
  have hts := atoms_spec (ws := (.code yX12_areBoth cX12_areBoth 3 (some .boolean) :: wsGB)) B.pre
  have hown : s.vm.findClass RX12 = some m.cls := findClass_of_methodNamed B.named
  have hlocks := B.notSynchronized
  subst hsz
  have hD := hD0.self (sz := s.heap.size)
  generalize hAe : va_A [(h0, .inr (12, fsMM mi mr)), ((mr 14), .inl (km_must, 25, .inl fm_must)), ((mr 15), .inl (km_least, 25, .inl fm_least)), ((mr 16), .inl (km_pin, 25, .inl fm_pin)), ((mr 17), .inl (km_ways, 6875, .inl fm_ways)), ((mr 5), .inl (km_reportMonth, 24, .inl fm_reportMonth)), ((mr 6), .inl (km_reportDay, 24, .inl fm_reportDay)), ((mr 3), .inl (km_reportKind, 24, .inl fm_reportKind))] s.heap.size = A at hD ⊢
  have hA : ∀ q : Nat, s.heap.size ≤ q → A q := fun q h => by rw [← hAe]; exact Or.inr h
  have hS : va_S A s.heap s.heap [] := va_S.rf
  have hl := lv_entry ([.ref h0, .int p1, .int p2]) (n := 3) (Nat.le_of_ble_eq_true rfl)
  rw [lg_entry_eq]
  generalize (lg_sl ([.ref h0, .int p1, .int p2]) ++ List.replicate (3 - (lg_sl ([.ref h0, .int p1, .int p2])).length) Slot.unset).toArray = ls at hl ⊢
  have hl : lv_has ls 3 [(0, .ref h0), (1, .int p1), (2, .int p2)] := hl
  refine lv_aload_n hx hb dX12_areBoth_0 rfl (lv_at hl 0 rfl) ?_
  have hPc := hP.sub (ws' := [(h0, .inr (12, fsMM mi mr)), ((mr 14), .inl (km_must, 25, .inl fm_must)), ((mr 15), .inl (km_least, 25, .inl fm_least)), ((mr 16), .inl (km_pin, 25, .inl fm_pin))]) [0, 1, 2, 3] rfl
  have hKc := hK.sub (tys' := [(km_must, .int), (km_least, .int), (km_pin, .int)]) [0, 1, 2] rfl
  have hDc := hD.sub (ws' := [(h0, .inr (12, fsMM mi mr)), ((mr 14), .inl (km_must, 25, .inl fm_must)), ((mr 15), .inl (km_least, 25, .inl fm_least)), ((mr 16), .inl (km_pin, 25, .inl fm_pin))]) [0, 1, 2, 3] (by decide) rfl
  have hFc := va_free (wc := [(h0, .inr (12, fsMM mi mr)), ((mr 14), .inl (km_must, 25, .inl fm_must)), ((mr 15), .inl (km_least, 25, .inl fm_least)), ((mr 16), .inl (km_pin, 25, .inl fm_pin))]) hD hS hA [0, 1, 2, 3] rfl
  refine va_callv (va_runV (As := []) (rest := []) ⟨hx, hb, hml, hown, hts⟩ (sX12_frees l dC dI s.heap.size h0 mi mr km_must fm_must km_least fm_least km_pin fm_pin gmi_0 gmi_1 gmi_2 gmi_4 gmi_7 gmi_10 gmi_17 gmi_23 gmi_24 gmi_26 gmi_29 gmi_30 gmi_33 gmi_37 gmi_41 gmi_50 gmi_51 gmi_56) (cwV 0 hts (gz_gV mGB_266 mGB_267 mGB_268 mGB_1 mGB_269 goodGB) rfl rfl rfl (by decide +kernel) ⟨Nat.le_of_ble_eq_true rfl, Nat.le_of_ble_eq_true rfl⟩) ⟨fun a U g mk q => by obtain ⟨q0, q1, qP, qK, qD⟩ := q; exact ⟨q0, q1, qP, va_K.moved (u := U) (U := U.calling g mk a) (Vm.Alike.refl U.vm) qK, qD⟩, va_recv hKc hPc (ci := 12) (q0 := 0) rfl rfl, fun U hU hW => ⟨rfl, by rw [hU], by rw [hU]; exact hPc, va_K.moved hW.alike hKc, hDc.weaken (fun _ _ _ _ => trivial)⟩⟩ rfl rfl hl.1 rfl (lv_room (Nat.le_of_ble_eq_true rfl)) dX12_areBoth_1 ⟨Nat.zero_le _, Nat.zero_le _⟩) hS (fun q _ h => hFc q h) hFc (fun u t H1 locs ht hvm hw hB hz1 hk1 hS => ?_)
  obtain ⟨y_38, f_39, f_40, f_41, gy_38, hP1, hD1⟩ := hB
  rw [ht] at hP1
  obtain ⟨hP, hD⟩ := va_join (wr := [((mr 17), .inl (km_ways, 6875, .inl fm_ways)), ((mr 5), .inl (km_reportMonth, 24, .inl fm_reportMonth)), ((mr 6), .inl (km_reportDay, 24, .inl fm_reportDay)), ((mr 3), .inl (km_reportKind, 24, .inl fm_reportKind))]) (w1 := [(h0, .inr (12, fsMM (upd mi 37 y_38) mr)), ((mr 14), .inl (km_must, 25, .inl f_39)), ((mr 15), .inl (km_least, 25, .inl f_40)), ((mr 16), .inl (km_pin, 25, .inl f_41))]) hP hD [0, 1, 2, 3] [4, 5, 6, 7] rfl rfl (by decide) (by decide) hk1 hFc hP1 hD1
  have hP := hP.sub (ws' := [(h0, .inr (12, fsMM (upd mi 37 y_38) mr)), ((mr 14), .inl (km_must, 25, .inl f_39)), ((mr 15), .inl (km_least, 25, .inl f_40)), ((mr 16), .inl (km_pin, 25, .inl f_41)), ((mr 17), .inl (km_ways, 6875, .inl fm_ways)), ((mr 5), .inl (km_reportMonth, 24, .inl fm_reportMonth)), ((mr 6), .inl (km_reportDay, 24, .inl fm_reportDay)), ((mr 3), .inl (km_reportKind, 24, .inl fm_reportKind))]) [4, 5, 6, 7, 0, 1, 2, 3] rfl
  have hD := hD.sub (ws' := [(h0, .inr (12, fsMM (upd mi 37 y_38) mr)), ((mr 14), .inl (km_must, 25, .inl f_39)), ((mr 15), .inl (km_least, 25, .inl f_40)), ((mr 16), .inl (km_pin, 25, .inl f_41)), ((mr 17), .inl (km_ways, 6875, .inl fm_ways)), ((mr 5), .inl (km_reportMonth, 24, .inl fm_reportMonth)), ((mr 6), .inl (km_reportDay, 24, .inl fm_reportDay)), ((mr 3), .inl (km_reportKind, 24, .inl fm_reportKind))]) [4, 5, 6, 7, 0, 1, 2, 3] (by decide) rfl
  generalize H1 = H at hP hS ⊢
  refine lv_aload_n hx hb dX12_areBoth_4 rfl (lv_at hl 0 rfl) ?_
  refine lv_iload_n hx hb dX12_areBoth_5 rfl (lv_at hl 1 rfl) ?_
  have hPc := hP.sub (ws' := [(h0, .inr (12, fsMM (upd mi 37 y_38) mr)), ((mr 5), .inl (km_reportMonth, 24, .inl fm_reportMonth)), ((mr 6), .inl (km_reportDay, 24, .inl fm_reportDay)), ((mr 3), .inl (km_reportKind, 24, .inl fm_reportKind)), ((mr 14), .inl (km_must, 25, .inl f_39)), ((mr 15), .inl (km_least, 25, .inl f_40))]) [0, 5, 6, 7, 1, 2] rfl
  have hKc := hK.sub (tys' := [(km_reportMonth, .int), (km_reportDay, .int), (km_reportKind, .int), (km_must, .int), (km_least, .int)]) [4, 5, 6, 0, 1] rfl
  have hDc := hD.sub (ws' := [(h0, .inr (12, fsMM (upd mi 37 y_38) mr)), ((mr 5), .inl (km_reportMonth, 24, .inl fm_reportMonth)), ((mr 6), .inl (km_reportDay, 24, .inl fm_reportDay)), ((mr 3), .inl (km_reportKind, 24, .inl fm_reportKind)), ((mr 14), .inl (km_must, 25, .inl f_39)), ((mr 15), .inl (km_least, 25, .inl f_40))]) [0, 5, 6, 7, 1, 2] (by decide) rfl
  have hFc := va_free (wc := [(h0, .inr (12, fsMM (upd mi 37 y_38) mr)), ((mr 5), .inl (km_reportMonth, 24, .inl fm_reportMonth)), ((mr 6), .inl (km_reportDay, 24, .inl fm_reportDay)), ((mr 3), .inl (km_reportKind, 24, .inl fm_reportKind)), ((mr 14), .inl (km_must, 25, .inl f_39)), ((mr 15), .inl (km_least, 25, .inl f_40))]) hD hS hA [0, 5, 6, 7, 1, 2] rfl
  refine va_callv (va_runV (As := [.int p1]) (rest := []) ⟨hx, hb, hml, hown, hts⟩ (sX12_holds l dC dI H.size h0 (upd mi 37 y_38) mr km_reportMonth fm_reportMonth km_reportDay fm_reportDay km_reportKind fm_reportKind km_must f_39 km_least f_40 p1 gmi_0 gmi_1 gmi_2 gmi_4 gmi_7 gmi_10 gmi_17 gmi_23 gmi_24 gmi_26 gmi_29 gmi_30 gmi_33 gy_38 gmi_41 gmi_50 gmi_51 gmi_56 gfm_reportMonth gfm_reportDay gp1) (cwV 1 hts (gz_gV mGB_295 mGB_296 mGB_297 mGB_1 mGB_298 goodGB) rfl rfl rfl (by decide +kernel) ⟨Nat.le_of_ble_eq_true rfl, Nat.le_of_ble_eq_true rfl⟩) ⟨fun a U g mk q => by obtain ⟨q0, q1, qP, qK, qD⟩ := q; exact ⟨q0, q1, qP, va_K.moved (u := U) (U := U.calling g mk a) (Vm.Alike.refl U.vm) qK, qD⟩, va_recv hKc hPc (ci := 12) (q0 := 0) rfl rfl, fun U hU hW => ⟨rfl, by rw [hU], by rw [hU]; exact hPc, va_K.moved hW.alike hKc, hDc.weaken (fun _ _ _ _ => trivial)⟩⟩ rfl rfl hl.1 rfl (lv_room (Nat.le_of_ble_eq_true rfl)) dX12_areBoth_6 ⟨Nat.zero_le _, Nat.zero_le _⟩) hS (fun q _ h => hFc q h) hFc (fun u t H1 locs ht hvm hw hB hz1 hk1 hS => ?_)
  obtain ⟨y_43, f_44, f_45, gy_43, hP1, hD1⟩ := hB
  rw [ht] at hP1
  obtain ⟨hP, hD⟩ := va_join (wr := [((mr 16), .inl (km_pin, 25, .inl f_41)), ((mr 17), .inl (km_ways, 6875, .inl fm_ways))]) (w1 := [(h0, .inr (12, fsMM (upd mi 37 y_43) mr)), ((mr 5), .inl (km_reportMonth, 24, .inl fm_reportMonth)), ((mr 6), .inl (km_reportDay, 24, .inl fm_reportDay)), ((mr 3), .inl (km_reportKind, 24, .inl fm_reportKind)), ((mr 14), .inl (km_must, 25, .inl f_44)), ((mr 15), .inl (km_least, 25, .inl f_45))]) hP hD [0, 5, 6, 7, 1, 2] [3, 4] rfl rfl (by decide) (by decide) hk1 hFc hP1 hD1
  have hP := hP.sub (ws' := [(h0, .inr (12, fsMM (upd mi 37 y_43) mr)), ((mr 14), .inl (km_must, 25, .inl f_44)), ((mr 15), .inl (km_least, 25, .inl f_45)), ((mr 16), .inl (km_pin, 25, .inl f_41)), ((mr 17), .inl (km_ways, 6875, .inl fm_ways)), ((mr 5), .inl (km_reportMonth, 24, .inl fm_reportMonth)), ((mr 6), .inl (km_reportDay, 24, .inl fm_reportDay)), ((mr 3), .inl (km_reportKind, 24, .inl fm_reportKind))]) [2, 6, 7, 0, 1, 3, 4, 5] rfl
  have hD := hD.sub (ws' := [(h0, .inr (12, fsMM (upd mi 37 y_43) mr)), ((mr 14), .inl (km_must, 25, .inl f_44)), ((mr 15), .inl (km_least, 25, .inl f_45)), ((mr 16), .inl (km_pin, 25, .inl f_41)), ((mr 17), .inl (km_ways, 6875, .inl fm_ways)), ((mr 5), .inl (km_reportMonth, 24, .inl fm_reportMonth)), ((mr 6), .inl (km_reportDay, 24, .inl fm_reportDay)), ((mr 3), .inl (km_reportKind, 24, .inl fm_reportKind))]) [2, 6, 7, 0, 1, 3, 4, 5] (by decide) rfl
  generalize H1 = H at hP hS ⊢
  refine lv_aload_n hx hb dX12_areBoth_9 rfl (lv_at hl 0 rfl) ?_
  refine lv_iload_n hx hb dX12_areBoth_10 rfl (lv_at hl 2 rfl) ?_
  have hPc := hP.sub (ws' := [(h0, .inr (12, fsMM (upd mi 37 y_43) mr)), ((mr 5), .inl (km_reportMonth, 24, .inl fm_reportMonth)), ((mr 6), .inl (km_reportDay, 24, .inl fm_reportDay)), ((mr 3), .inl (km_reportKind, 24, .inl fm_reportKind)), ((mr 14), .inl (km_must, 25, .inl f_44)), ((mr 15), .inl (km_least, 25, .inl f_45))]) [0, 5, 6, 7, 1, 2] rfl
  have hKc := hK.sub (tys' := [(km_reportMonth, .int), (km_reportDay, .int), (km_reportKind, .int), (km_must, .int), (km_least, .int)]) [4, 5, 6, 0, 1] rfl
  have hDc := hD.sub (ws' := [(h0, .inr (12, fsMM (upd mi 37 y_43) mr)), ((mr 5), .inl (km_reportMonth, 24, .inl fm_reportMonth)), ((mr 6), .inl (km_reportDay, 24, .inl fm_reportDay)), ((mr 3), .inl (km_reportKind, 24, .inl fm_reportKind)), ((mr 14), .inl (km_must, 25, .inl f_44)), ((mr 15), .inl (km_least, 25, .inl f_45))]) [0, 5, 6, 7, 1, 2] (by decide) rfl
  have hFc := va_free (wc := [(h0, .inr (12, fsMM (upd mi 37 y_43) mr)), ((mr 5), .inl (km_reportMonth, 24, .inl fm_reportMonth)), ((mr 6), .inl (km_reportDay, 24, .inl fm_reportDay)), ((mr 3), .inl (km_reportKind, 24, .inl fm_reportKind)), ((mr 14), .inl (km_must, 25, .inl f_44)), ((mr 15), .inl (km_least, 25, .inl f_45))]) hD hS hA [0, 5, 6, 7, 1, 2] rfl
  refine va_callv (va_runV (As := [.int p2]) (rest := []) ⟨hx, hb, hml, hown, hts⟩ (sX12_holds l dC dI H.size h0 (upd mi 37 y_43) mr km_reportMonth fm_reportMonth km_reportDay fm_reportDay km_reportKind fm_reportKind km_must f_44 km_least f_45 p2 gmi_0 gmi_1 gmi_2 gmi_4 gmi_7 gmi_10 gmi_17 gmi_23 gmi_24 gmi_26 gmi_29 gmi_30 gmi_33 gy_43 gmi_41 gmi_50 gmi_51 gmi_56 gfm_reportMonth gfm_reportDay gp2) (cwV 1 hts (gz_gV mGB_295 mGB_296 mGB_297 mGB_1 mGB_298 goodGB) rfl rfl rfl (by decide +kernel) ⟨Nat.le_of_ble_eq_true rfl, Nat.le_of_ble_eq_true rfl⟩) ⟨fun a U g mk q => by obtain ⟨q0, q1, qP, qK, qD⟩ := q; exact ⟨q0, q1, qP, va_K.moved (u := U) (U := U.calling g mk a) (Vm.Alike.refl U.vm) qK, qD⟩, va_recv hKc hPc (ci := 12) (q0 := 0) rfl rfl, fun U hU hW => ⟨rfl, by rw [hU], by rw [hU]; exact hPc, va_K.moved hW.alike hKc, hDc.weaken (fun _ _ _ _ => trivial)⟩⟩ rfl rfl hl.1 rfl (lv_room (Nat.le_of_ble_eq_true rfl)) dX12_areBoth_11 ⟨Nat.zero_le _, Nat.zero_le _⟩) hS (fun q _ h => hFc q h) hFc (fun u t H1 locs ht hvm hw hB hz1 hk1 hS => ?_)
  obtain ⟨y_47, f_48, f_49, gy_47, hP1, hD1⟩ := hB
  rw [ht] at hP1
  obtain ⟨hP, hD⟩ := va_join (wr := [((mr 16), .inl (km_pin, 25, .inl f_41)), ((mr 17), .inl (km_ways, 6875, .inl fm_ways))]) (w1 := [(h0, .inr (12, fsMM (upd mi 37 y_47) mr)), ((mr 5), .inl (km_reportMonth, 24, .inl fm_reportMonth)), ((mr 6), .inl (km_reportDay, 24, .inl fm_reportDay)), ((mr 3), .inl (km_reportKind, 24, .inl fm_reportKind)), ((mr 14), .inl (km_must, 25, .inl f_48)), ((mr 15), .inl (km_least, 25, .inl f_49))]) hP hD [0, 5, 6, 7, 1, 2] [3, 4] rfl rfl (by decide) (by decide) hk1 hFc hP1 hD1
  have hP := hP.sub (ws' := [(h0, .inr (12, fsMM (upd mi 37 y_47) mr)), ((mr 14), .inl (km_must, 25, .inl f_48)), ((mr 15), .inl (km_least, 25, .inl f_49)), ((mr 16), .inl (km_pin, 25, .inl f_41)), ((mr 17), .inl (km_ways, 6875, .inl fm_ways)), ((mr 5), .inl (km_reportMonth, 24, .inl fm_reportMonth)), ((mr 6), .inl (km_reportDay, 24, .inl fm_reportDay)), ((mr 3), .inl (km_reportKind, 24, .inl fm_reportKind))]) [2, 6, 7, 0, 1, 3, 4, 5] rfl
  have hD := hD.sub (ws' := [(h0, .inr (12, fsMM (upd mi 37 y_47) mr)), ((mr 14), .inl (km_must, 25, .inl f_48)), ((mr 15), .inl (km_least, 25, .inl f_49)), ((mr 16), .inl (km_pin, 25, .inl f_41)), ((mr 17), .inl (km_ways, 6875, .inl fm_ways)), ((mr 5), .inl (km_reportMonth, 24, .inl fm_reportMonth)), ((mr 6), .inl (km_reportDay, 24, .inl fm_reportDay)), ((mr 3), .inl (km_reportKind, 24, .inl fm_reportKind))]) [2, 6, 7, 0, 1, 3, 4, 5] (by decide) rfl
  generalize H1 = H at hP hS ⊢
  refine lv_aload_n hx hb dX12_areBoth_14 rfl (lv_at hl 0 rfl) ?_
  have hPc := hP.sub (ws' := [(h0, .inr (12, fsMM (upd mi 37 y_47) mr)), ((mr 14), .inl (km_must, 25, .inl f_48)), ((mr 15), .inl (km_least, 25, .inl f_49)), ((mr 16), .inl (km_pin, 25, .inl f_41)), ((mr 17), .inl (km_ways, 6875, .inl fm_ways))]) [0, 1, 2, 3, 4] rfl
  have hKc := hK.sub (tys' := [(km_must, .int), (km_least, .int), (km_pin, .int), (km_ways, .int)]) [0, 1, 2, 3] rfl
  have hDc := hD.sub (ws' := [(h0, .inr (12, fsMM (upd mi 37 y_47) mr)), ((mr 14), .inl (km_must, 25, .inl f_48)), ((mr 15), .inl (km_least, 25, .inl f_49)), ((mr 16), .inl (km_pin, 25, .inl f_41)), ((mr 17), .inl (km_ways, 6875, .inl fm_ways))]) [0, 1, 2, 3, 4] (by decide) rfl
  have hFc := va_free (wc := [(h0, .inr (12, fsMM (upd mi 37 y_47) mr)), ((mr 14), .inl (km_must, 25, .inl f_48)), ((mr 15), .inl (km_least, 25, .inl f_49)), ((mr 16), .inl (km_pin, 25, .inl f_41)), ((mr 17), .inl (km_ways, 6875, .inl fm_ways))]) hD hS hA [0, 1, 2, 3, 4] rfl
  refine va_calli (va_runV (As := []) (rest := []) ⟨hx, hb, hml, hown, hts⟩ (sX12_counts l dC dI H.size h0 (upd mi 37 y_47) mr km_must f_48 km_least f_49 km_pin f_41 km_ways fm_ways gmi_0 gmi_1 gmi_2 gmi_4 gmi_7 gmi_10 gmi_17 gmi_23 gmi_24 gmi_26 gmi_29 gmi_30 gmi_33 gy_47 gmi_41 gmi_50 gmi_51 gmi_56) (cwV 0 hts (gz_gV mGB_299 mGB_300 mGB_301 mGB_1 mGB_302 goodGB) rfl rfl rfl (by decide +kernel) ⟨Nat.le_of_ble_eq_true rfl, Nat.le_of_ble_eq_true rfl⟩) ⟨fun a U g mk q => by obtain ⟨q0, q1, qP, qK, qD⟩ := q; exact ⟨q0, q1, qP, va_K.moved (u := U) (U := U.calling g mk a) (Vm.Alike.refl U.vm) qK, qD⟩, va_recv hKc hPc (ci := 12) (q0 := 0) rfl rfl, fun U hU hW => ⟨rfl, by rw [hU], by rw [hU]; exact hPc, va_K.moved hW.alike hKc, hDc.weaken (fun _ _ _ _ => trivial)⟩⟩ rfl rfl hl.1 rfl (lv_room (Nat.le_of_ble_eq_true rfl)) dX12_areBoth_15 ⟨Nat.zero_le _, Nat.zero_le _⟩) hS (fun q _ h => hFc q h) hFc (fun r_50 u t H1 locs ht hvm hw hB hz1 hk1 hS => ?_)
  obtain ⟨f_51, hP1, hD1⟩ := hB
  rw [ht] at hP1
  obtain ⟨hP, hD⟩ := va_join (wr := [((mr 5), .inl (km_reportMonth, 24, .inl fm_reportMonth)), ((mr 6), .inl (km_reportDay, 24, .inl fm_reportDay)), ((mr 3), .inl (km_reportKind, 24, .inl fm_reportKind))]) (w1 := [(h0, .inr (12, fsMM (upd mi 37 y_47) mr)), ((mr 14), .inl (km_must, 25, .inl f_48)), ((mr 15), .inl (km_least, 25, .inl f_49)), ((mr 16), .inl (km_pin, 25, .inl f_41)), ((mr 17), .inl (km_ways, 6875, .inl f_51))]) hP hD [0, 1, 2, 3, 4] [5, 6, 7] rfl rfl (by decide) (by decide) hk1 hFc hP1 hD1
  have hP := hP.sub (ws' := [(h0, .inr (12, fsMM (upd mi 37 y_47) mr)), ((mr 14), .inl (km_must, 25, .inl f_48)), ((mr 15), .inl (km_least, 25, .inl f_49)), ((mr 16), .inl (km_pin, 25, .inl f_41)), ((mr 17), .inl (km_ways, 6875, .inl f_51)), ((mr 5), .inl (km_reportMonth, 24, .inl fm_reportMonth)), ((mr 6), .inl (km_reportDay, 24, .inl fm_reportDay)), ((mr 3), .inl (km_reportKind, 24, .inl fm_reportKind))]) [3, 4, 5, 6, 7, 0, 1, 2] rfl
  have hD := hD.sub (ws' := [(h0, .inr (12, fsMM (upd mi 37 y_47) mr)), ((mr 14), .inl (km_must, 25, .inl f_48)), ((mr 15), .inl (km_least, 25, .inl f_49)), ((mr 16), .inl (km_pin, 25, .inl f_41)), ((mr 17), .inl (km_ways, 6875, .inl f_51)), ((mr 5), .inl (km_reportMonth, 24, .inl fm_reportMonth)), ((mr 6), .inl (km_reportDay, 24, .inl fm_reportDay)), ((mr 3), .inl (km_reportKind, 24, .inl fm_reportKind))]) [3, 4, 5, 6, 7, 0, 1, 2] (by decide) rfl
  generalize H1 = H at hP hS ⊢
  refine lv_if_le (tgt := 25) hx hb dX12_areBoth_18 (by decide) (fun c_52 => ?_) (fun c_52 => ?_)
  · have g_53 : gi r_50 (-2147483648) 0 := gi_le_l c_52 (gi_any r_50) (gi_c 0 0 (by decide))
    refine lv_iconst (v := 0) hx hb dX12_areBoth_25 (by decide) ?_
    exact W.zret (v := 0) hx hb hr (by decide) (fun t ht hW => ⟨⟨0, (), rfl, (gi_w (gi_c 0 0 (by decide)) (by decide)), y_47, f_48, f_49, f_41, f_51, gy_47, by rw [ht]; exact hP, hD⟩, hS.F ht⟩) hS.2.2 dX12_areBoth_26
  · have g_54 : gi r_50 1 2147483647 := gi_lt_r (Int32.not_le.mp c_52) (gi_c 0 0 (by decide)) (gi_any r_50) (by decide)
    refine lv_iconst (v := 1) hx hb dX12_areBoth_21 (by decide) ?_
    refine lv_goto (tgt := 26) hx hb dX12_areBoth_22 (by decide) ?_
    exact W.zret (v := 1) hx hb hr (by decide) (fun t ht hW => ⟨⟨1, (), rfl, (gi_w (gi_c 1 1 (by decide)) (by decide)), y_47, f_48, f_49, f_41, f_51, gy_47, by rw [ht]; exact hP, hD⟩, hS.F ht⟩) hS.2.2 dX12_areBoth_26
theorem dX12_laysOfficial_0 : decode cX12_laysOfficial 0 = .ok (.aload_n 0, 1) := by decide +kernel
theorem dX12_laysOfficial_1 : decode cX12_laysOfficial 1 = .ok (.invokevirtual 332, 3) := by decide +kernel
theorem dX12_laysOfficial_4 : decode cX12_laysOfficial 4 = .ok (.pop, 1) := by decide +kernel
theorem dX12_laysOfficial_5 : decode cX12_laysOfficial 5 = .ok (.iconst 0, 1) := by decide +kernel
theorem dX12_laysOfficial_6 : decode cX12_laysOfficial 6 = .ok (.istore_n 1, 1) := by decide +kernel
theorem dX12_laysOfficial_7 : decode cX12_laysOfficial 7 = .ok (.iconst 0, 1) := by decide +kernel
theorem dX12_laysOfficial_8 : decode cX12_laysOfficial 8 = .ok (.istore_n 2, 1) := by decide +kernel
theorem dX12_laysOfficial_9 : decode cX12_laysOfficial 9 = .ok (.aload_n 0, 1) := by decide +kernel
theorem dX12_laysOfficial_10 : decode cX12_laysOfficial 10 = .ok (.getfield 87, 3) := by decide +kernel
theorem dX12_laysOfficial_13 : decode cX12_laysOfficial 13 = .ok (.iconst 0, 1) := by decide +kernel
theorem dX12_laysOfficial_14 : decode cX12_laysOfficial 14 = .ok (.iconst 0, 1) := by decide +kernel
theorem dX12_laysOfficial_15 : decode cX12_laysOfficial 15 = .ok (.iastore, 1) := by decide +kernel
theorem dX12_laysOfficial_16 : decode cX12_laysOfficial 16 = .ok (.iconst 0, 1) := by decide +kernel
theorem dX12_laysOfficial_17 : decode cX12_laysOfficial 17 = .ok (.istore_n 3, 1) := by decide +kernel
theorem dX12_laysOfficial_18 : decode cX12_laysOfficial 18 = .ok (.iload_n 3, 1) := by decide +kernel
theorem dX12_laysOfficial_19 : decode cX12_laysOfficial 19 = .ok (.aload_n 0, 1) := by decide +kernel
theorem dX12_laysOfficial_20 : decode cX12_laysOfficial 20 = .ok (.getfield 117, 3) := by decide +kernel
theorem dX12_laysOfficial_23 : decode cX12_laysOfficial 23 = .ok (.if_icmp .ge 56, 3) := by decide +kernel
theorem dX12_laysOfficial_26 : decode cX12_laysOfficial 26 = .ok (.aload_n 0, 1) := by decide +kernel
theorem dX12_laysOfficial_27 : decode cX12_laysOfficial 27 = .ok (.iload_n 3, 1) := by decide +kernel
theorem dX12_laysOfficial_28 : decode cX12_laysOfficial 28 = .ok (.iload_n 1, 1) := by decide +kernel
theorem dX12_laysOfficial_29 : decode cX12_laysOfficial 29 = .ok (.iload_n 2, 1) := by decide +kernel
theorem dX12_laysOfficial_30 : decode cX12_laysOfficial 30 = .ok (.iconst 1, 1) := by decide +kernel
theorem dX12_laysOfficial_31 : decode cX12_laysOfficial 31 = .ok (.invokevirtual 328, 3) := by decide +kernel
theorem dX12_laysOfficial_34 : decode cX12_laysOfficial 34 = .ok (.ifCond .le 7, 3) := by decide +kernel
theorem dX12_laysOfficial_37 : decode cX12_laysOfficial 37 = .ok (.iconst 1, 1) := by decide +kernel
theorem dX12_laysOfficial_38 : decode cX12_laysOfficial 38 = .ok (.goto 4, 3) := by decide +kernel
theorem dX12_laysOfficial_41 : decode cX12_laysOfficial 41 = .ok (.iconst 0, 1) := by decide +kernel
theorem dX12_laysOfficial_42 : decode cX12_laysOfficial 42 = .ok (.istore 4, 2) := by decide +kernel
theorem dX12_laysOfficial_44 : decode cX12_laysOfficial 44 = .ok (.aload_n 0, 1) := by decide +kernel
theorem dX12_laysOfficial_45 : decode cX12_laysOfficial 45 = .ok (.iload_n 2, 1) := by decide +kernel
theorem dX12_laysOfficial_46 : decode cX12_laysOfficial 46 = .ok (.iload 4, 2) := by decide +kernel
theorem dX12_laysOfficial_48 : decode cX12_laysOfficial 48 = .ok (.invokevirtual 318, 3) := by decide +kernel
theorem dX12_laysOfficial_51 : decode cX12_laysOfficial 51 = .ok (.istore_n 2, 1) := by decide +kernel
theorem dX12_laysOfficial_52 : decode cX12_laysOfficial 52 = .ok (.iload_n 1, 1) := by decide +kernel
theorem dX12_laysOfficial_53 : decode cX12_laysOfficial 53 = .ok (.iload 4, 2) := by decide +kernel
theorem dX12_laysOfficial_55 : decode cX12_laysOfficial 55 = .ok (.iadd, 1) := by decide +kernel
theorem dX12_laysOfficial_56 : decode cX12_laysOfficial 56 = .ok (.istore_n 1, 1) := by decide +kernel
theorem dX12_laysOfficial_57 : decode cX12_laysOfficial 57 = .ok (.aload_n 0, 1) := by decide +kernel
theorem dX12_laysOfficial_58 : decode cX12_laysOfficial 58 = .ok (.getfield 87, 3) := by decide +kernel
theorem dX12_laysOfficial_61 : decode cX12_laysOfficial 61 = .ok (.iload_n 3, 1) := by decide +kernel
theorem dX12_laysOfficial_62 : decode cX12_laysOfficial 62 = .ok (.iconst 1, 1) := by decide +kernel
theorem dX12_laysOfficial_63 : decode cX12_laysOfficial 63 = .ok (.iadd, 1) := by decide +kernel
theorem dX12_laysOfficial_64 : decode cX12_laysOfficial 64 = .ok (.bipush 29, 2) := by decide +kernel
theorem dX12_laysOfficial_66 : decode cX12_laysOfficial 66 = .ok (.iload_n 3, 1) := by decide +kernel
theorem dX12_laysOfficial_67 : decode cX12_laysOfficial 67 = .ok (.iconst 1, 1) := by decide +kernel
theorem dX12_laysOfficial_68 : decode cX12_laysOfficial 68 = .ok (.iadd, 1) := by decide +kernel
theorem dX12_laysOfficial_69 : decode cX12_laysOfficial 69 = .ok (.imul, 1) := by decide +kernel
theorem dX12_laysOfficial_70 : decode cX12_laysOfficial 70 = .ok (.iload_n 1, 1) := by decide +kernel
theorem dX12_laysOfficial_71 : decode cX12_laysOfficial 71 = .ok (.iadd, 1) := by decide +kernel
theorem dX12_laysOfficial_72 : decode cX12_laysOfficial 72 = .ok (.iastore, 1) := by decide +kernel
theorem dX12_laysOfficial_73 : decode cX12_laysOfficial 73 = .ok (.iinc 3 1, 3) := by decide +kernel
theorem dX12_laysOfficial_76 : decode cX12_laysOfficial 76 = .ok (.goto (-58), 3) := by decide +kernel
theorem dX12_laysOfficial_79 : decode cX12_laysOfficial 79 = .ok (.return_, 1) := by decide +kernel
set_option maxHeartbeats 4000000 in
set_option maxRecDepth 100000 in
theorem lp_sX12_laysOfficial {p : Program} {l : Launch} {e : Env} {R : Room} {s : State} {m : MethodId} {args : Array Value} {below : List Frame} {meth : Method} {c : Code} {Q : State → Prop} {A : Nat → Prop} {cells slots : Nat} {dC : Nat → ClassId} {dI : Nat → Nat → Nat} (h0 : Nat) (mi : Nat → Int32) (mr : Nat → Nat) (km_must : ClassId) (fm_must : Nat → Int32) (km_least : ClassId) (fm_least : Nat → Int32) (km_pin : ClassId) (fm_pin : Nat → Int32) (km_ways : ClassId) (fm_ways : Nat → Int32) (km_official : ClassId) (fm_official : Nat → Int32) (gmi_0 : gi (mi 0) 0 24) (gmi_1 : gi (mi 1) 0 5) (gmi_2 : gi (mi 2) 0 5) (gmi_4 : gi (mi 4) 0 1) (gmi_7 : gi (mi 7) 0 6) (gmi_10 : gi (mi 10) 0 24) (gmi_17 : gi (mi 17) 0 8) (gmi_23 : gi (mi 23) 0 300) (gmi_24 : gi (mi 24) 0 1) (gmi_26 : gi (mi 26) 0 1600) (gmi_29 : gi (mi 29) 0 1600) (gmi_30 : gi (mi 30) 0 1600) (gmi_33 : gi (mi 33) 0 1) (gmi_37 : gi (mi 37) 0 1) (gmi_41 : gi (mi 41) 0 24) (gmi_50 : gi (mi 50) 0 1) (gmi_51 : gi (mi 51) 0 1) (gmi_56 : gi (mi 56) 0 80) (hx : p.tables.exec = Jvm.exec) (hb : c.code = cX12_laysOfficial) (hml : c.maxLocals = 5) (hown : s.vm.findClass RX12 = some m.cls) (hts : ∀ w ∈ ((.code yX12_laysOfficial cX12_laysOfficial 5 none :: wsGB) : List Cond), w.before args s = true) (hK : va_K (dC, dI) vwCl [(km_must, .int), (km_least, .int), (km_pin, .int), (km_ways, .int), (km_official, .int)] s) (hA : ∀ q : Nat, s.heap.size ≤ q → A q) (hRf : 3 ≤ R.frames) (hRl : 73 ≤ R.locals) (hRc : cells ≤ R.cells) (hRs : slots ≤ R.slots) (kr79 : ∀ (z4 : Nat → Int32) (z5 : Nat → Int32) (H : Heap) (locs : List Loc) (ls : Array Slot), va_P (dC, dI) vwCl [(h0, .inr (12, fsMM mi mr)), ((mr 14), .inl (km_must, 25, .inl fm_must)), ((mr 15), .inl (km_least, 25, .inl fm_least)), ((mr 16), .inl (km_pin, 25, .inl fm_pin)), ((mr 17), .inl (km_ways, 6875, .inl z4)), ((mr 20), .inl (km_official, 25, .inl z5))] H → va_D A [(h0, .inr (12, fsMM mi mr)), ((mr 14), .inl (km_must, 25, .inl fm_must)), ((mr 15), .inl (km_least, 25, .inl fm_least)), ((mr 16), .inl (km_pin, 25, .inl fm_pin)), ((mr 17), .inl (km_ways, 6875, .inl z4)), ((mr 20), .inl (km_official, 25, .inl z5))] → va_S A s.heap H locs → lv_has ls 5 [] → W p l e R s m args below meth c H locs cells slots Q (F0 m 79 ls [])) : ∀ z : Nat, (∀ (v1 : Int32) (v2 : Int32) (v3 : Int32) (z4 : Nat → Int32) (z5 : Nat → Int32) (H : Heap) (locs : List Loc) (ls : Array Slot), gi v1 0 24 → gi v2 (-1) 10 → gi v3 0 24 → v1.toInt ≤ v3.toInt → 49 + (-2) * v3.toInt < (z : Int) → va_P (dC, dI) vwCl [(h0, .inr (12, fsMM mi mr)), ((mr 14), .inl (km_must, 25, .inl fm_must)), ((mr 15), .inl (km_least, 25, .inl fm_least)), ((mr 16), .inl (km_pin, 25, .inl fm_pin)), ((mr 17), .inl (km_ways, 6875, .inl z4)), ((mr 20), .inl (km_official, 25, .inl z5))] H → va_D A [(h0, .inr (12, fsMM mi mr)), ((mr 14), .inl (km_must, 25, .inl fm_must)), ((mr 15), .inl (km_least, 25, .inl fm_least)), ((mr 16), .inl (km_pin, 25, .inl fm_pin)), ((mr 17), .inl (km_ways, 6875, .inl z4)), ((mr 20), .inl (km_official, 25, .inl z5))] → va_S A s.heap H locs → lv_has ls 5 [(0, .ref h0), (1, .int v1), (2, .int v2), (3, .int v3)] → W p l e R s m args below meth c H locs cells slots Q (F0 m 18 ls [])) := by
  intro z
  induction z with
  | zero =>
    intro v1 v2 v3 z4 z5 H locs ls gv1 gv2 gv3 hle_gv1_gv3 hmu hP hD hS hl
    exact absurd hmu (by have hv31 := gv3.1; have hv32 := gv3.2; omega)
  | succ z ih =>
      intro v1 v2 v3 z4 z5 H locs ls gv1 gv2 gv3 hle_gv1_gv3 hmu hP hD hS hl
      refine lv_iload_n hx hb dX12_laysOfficial_18 rfl (lv_at hl 3 rfl) ?_
      refine lv_aload_n hx hb dX12_laysOfficial_19 rfl (lv_at hl 0 rfl) ?_
      refine va_get (D := (dC, dI)) (ci := 12) (v := .int (mi 0)) (C := RX12) (T := TX12) (N := 57) hx hb hts (fun w h => List.mem_cons_of_mem _ (jnGB_X12 w h)) hown hK hP 0 rfl rfl 0 (by decide) (hts _ (List.mem_cons_of_mem _ mGB_103)) (fun _ h9 => h9) rfl dX12_laysOfficial_20 ?_
      refine lv_icmp_ge (tgt := 79) hx hb dX12_laysOfficial_23 (by decide) (fun c_392 => ?_) (fun c_392 => ?_)
      · exact kr79 z4 z5 _ _ _ hP hD hS (lv_sub hl [] rfl)
      · have g_393 : gi v3 0 23 := gi_lt_l (Int32.not_le.mp c_392) gv3 gmi_0 (by decide)
        have g_394 : gi v1 0 23 := gi_rel hle_gv1_gv3 gv1 g_393
        have g_395 : gi (mi 0) 1 24 := gi_lt_r (Int32.not_le.mp c_392) gv3 gmi_0 (by decide)
        refine lv_aload_n hx hb dX12_laysOfficial_26 rfl (lv_at hl 0 rfl) ?_
        refine lv_iload_n hx hb dX12_laysOfficial_27 rfl (lv_at hl 3 rfl) ?_
        refine lv_iload_n hx hb dX12_laysOfficial_28 rfl (lv_at hl 1 rfl) ?_
        refine lv_iload_n hx hb dX12_laysOfficial_29 rfl (lv_at hl 2 rfl) ?_
        refine lv_iconst (v := 1) hx hb dX12_laysOfficial_30 (by decide) ?_
        have hPc := hP.sub (ws' := [(h0, .inr (12, fsMM mi mr)), ((mr 17), .inl (km_ways, 6875, .inl z4))]) [0, 4] rfl
        have hKc := hK.sub (tys' := [(km_ways, .int)]) [3] rfl
        refine va_calli (va_runV (As := [.int v3, .int v1, .int v2, .int 1]) (rest := []) ⟨hx, hb, hml, hown, hts⟩ (sX12_waysBy l dC dI h0 mi mr km_ways z4 v3 v1 v2 1 (gi_w g_395 (by decide)) gmi_1 gmi_2 gmi_4 gmi_7 gmi_10 gmi_17 gmi_23 gmi_24 gmi_26 gmi_29 gmi_30 gmi_33 gmi_37 gmi_41 gmi_50 gmi_51 gmi_56 g_393 g_394 gv2 (gi_w (gi_c 1 1 (by decide)) (by decide))) (cwV 4 hts (gz_gV mGB_307 mGB_308 mGB_309 mGB_1 mGB_310 goodGB) rfl rfl rfl (by decide +kernel) ⟨Nat.le_trans (Nat.le_of_ble_eq_true rfl) hRf, Nat.le_trans (Nat.le_of_ble_eq_true rfl) hRl⟩) ⟨fun a U g mk q => by obtain ⟨q0, qP, qK⟩ := q; exact ⟨q0, qP, va_K.moved (u := U) (U := U.calling g mk a) (Vm.Alike.refl U.vm) qK⟩, va_recv hKc hPc (ci := 12) (q0 := 0) rfl rfl, fun U hU hW => ⟨rfl, by rw [hU]; exact hPc, va_K.moved hW.alike hKc⟩⟩ rfl rfl hl.1 rfl (lv_room (Nat.le_of_ble_eq_true rfl)) dX12_laysOfficial_31 ⟨hRc, hRs⟩) hS (fun q _ h => h.elim) (fun q h => h.elim) (fun r_396 u t H1 locs ht hvm hw hB hz1 hk1 hS => ?_)
        have hP := gz_keep hP hk1
        generalize H1 = H at hP hS ⊢
        refine lv_if_le (tgt := 41) hx hb dX12_laysOfficial_34 (by decide) (fun c_397 => ?_) (fun c_397 => ?_)
        · have g_398 : gi r_396 (-2147483648) 0 := gi_le_l c_397 (gi_any r_396) (gi_c 0 0 (by decide))
          refine lv_iconst (v := 0) hx hb dX12_laysOfficial_41 (by decide) ?_
          refine lv_istore (lv' := [(4, .int 0), (0, .ref h0), (1, .int v1), (2, .int v2), (3, .int v3)]) hx hb dX12_laysOfficial_42 hl (by decide) rfl (fun ls hl => ?_)
          refine lv_aload_n hx hb dX12_laysOfficial_44 rfl (lv_at hl 1 rfl) ?_
          refine lv_iload_n hx hb dX12_laysOfficial_45 rfl (lv_at hl 3 rfl) ?_
          refine lv_iload hx hb dX12_laysOfficial_46 (lv_at hl 0 rfl) ?_
          have hPc := hP.sub (ws' := [(h0, .inr (12, fsMM mi mr))]) [0] rfl
          have hKc := hK.sub (tys' := []) [] rfl
          refine va_calli (va_runV (As := [.int v2, .int 0]) (rest := []) ⟨hx, hb, hml, hown, hts⟩ (sX12_runBehind l dC dI h0 mi mr v2 0 (gi_w g_395 (by decide)) gmi_1 gmi_2 gmi_4 gmi_7 gmi_10 gmi_17 gmi_23 gmi_24 gmi_26 gmi_29 gmi_30 gmi_33 gmi_37 gmi_41 gmi_50 gmi_51 gmi_56 gv2 (gi_w (gi_c 0 0 (by decide)) (by decide))) (cwV 2 hts (gz_gV mGB_311 mGB_312 mGB_313 mGB_1 mGB_314 goodGB) rfl rfl rfl (by decide +kernel) ⟨Nat.le_trans (Nat.le_of_ble_eq_true rfl) hRf, Nat.le_trans (Nat.le_of_ble_eq_true rfl) hRl⟩) ⟨fun a U g mk q => by obtain ⟨q0, qP, qK⟩ := q; exact ⟨q0, qP, va_K.moved (u := U) (U := U.calling g mk a) (Vm.Alike.refl U.vm) qK⟩, va_recv hKc hPc (ci := 12) (q0 := 0) rfl rfl, fun U hU hW => ⟨rfl, by rw [hU]; exact hPc, va_K.moved hW.alike hKc⟩⟩ rfl rfl hl.1 rfl (lv_room (Nat.le_of_ble_eq_true rfl)) dX12_laysOfficial_48 ⟨hRc, hRs⟩) hS (fun q _ h => h.elim) (fun q h => h.elim) (fun r_399 u t H1 locs ht hvm hw hB hz1 hk1 hS => ?_)
          have hP := gz_keep hP hk1
          generalize H1 = H at hP hS ⊢
          have gr_399 : gi r_399 (-1) 10 := hw
          refine lv_istore_n (lv' := [(2, .int r_399), (4, .int 0), (0, .ref h0), (1, .int v1), (3, .int v3)]) hx hb dX12_laysOfficial_51 rfl hl (by decide) rfl (fun ls hl => ?_)
          refine lv_iload_n hx hb dX12_laysOfficial_52 rfl (lv_at hl 3 rfl) ?_
          refine lv_iload hx hb dX12_laysOfficial_53 (lv_at hl 1 rfl) ?_
          refine lv_iadd hx hb dX12_laysOfficial_55 ?_
          refine lv_topi (fun x_400 ex_400 => ?_)
          have gx_400 : gi x_400 0 23 := gi_add ex_400 g_394 (gi_c 0 0 (by decide)) (by decide)
          refine lv_istore_n (lv' := [(1, .int x_400), (2, .int r_399), (4, .int 0), (0, .ref h0), (3, .int v3)]) hx hb dX12_laysOfficial_56 rfl hl (by decide) rfl (fun ls hl => ?_)
          refine lv_aload_n hx hb dX12_laysOfficial_57 rfl (lv_at hl 3 rfl) ?_
          refine va_get (D := (dC, dI)) (ci := 12) (v := .ref (mr 20)) (C := RX12) (T := TX12) (N := 57) hx hb hts (fun w h => List.mem_cons_of_mem _ (jnGB_X12 w h)) hown hK hP 0 rfl rfl 46 (by decide) (hts _ (List.mem_cons_of_mem _ mGB_36)) (fun _ h9 => h9) rfl dX12_laysOfficial_58 ?_
          refine lv_iload_n hx hb dX12_laysOfficial_61 rfl (lv_at hl 4 rfl) ?_
          refine lv_iconst (v := 1) hx hb dX12_laysOfficial_62 (by decide) ?_
          refine lv_iadd hx hb dX12_laysOfficial_63 ?_
          refine lv_topi (fun x_401 ex_401 => ?_)
          have gx_401 : gi x_401 1 24 := gi_add ex_401 g_393 (gi_c 1 1 (by decide)) (by decide)
          refine lv_bipush (v := 29) hx hb dX12_laysOfficial_64 (by decide) ?_
          refine lv_iload_n hx hb dX12_laysOfficial_66 rfl (lv_at hl 4 rfl) ?_
          refine lv_iconst (v := 1) hx hb dX12_laysOfficial_67 (by decide) ?_
          refine lv_iadd hx hb dX12_laysOfficial_68 ?_
          refine lv_topi (fun x_402 ex_402 => ?_)
          have gx_402 : gi x_402 1 24 := gi_add ex_402 g_393 (gi_c 1 1 (by decide)) (by decide)
          refine lv_imul hx hb dX12_laysOfficial_69 ?_
          refine lv_topi (fun x_403 ex_403 => ?_)
          have gx_403 : gi x_403 29 696 := gi_mul ex_403 (gi_c 29 29 (by decide)) gx_402 (by decide)
          refine lv_iload_n hx hb dX12_laysOfficial_70 rfl (lv_at hl 0 rfl) ?_
          refine lv_iadd hx hb dX12_laysOfficial_71 ?_
          refine lv_topi (fun x_404 ex_404 => ?_)
          have gx_404 : gi x_404 29 719 := gi_add ex_404 gx_403 gx_400 (by decide)
          refine va_iast hx hb hK hP hD hS 5 4 rfl rfl (gi_in gx_401 (by decide)) dX12_laysOfficial_72 (fun H locs hP hD hS => ?_)
          have hP : va_P (dC, dI) vwCl [(h0, .inr (12, fsMM mi mr)), ((mr 14), .inl (km_must, 25, .inl fm_must)), ((mr 15), .inl (km_least, 25, .inl fm_least)), ((mr 16), .inl (km_pin, 25, .inl fm_pin)), ((mr 17), .inl (km_ways, 6875, .inl z4)), ((mr 20), .inl (km_official, 25, .inl (upd z5 (x_401 : Int32).toNatClampNeg x_404)))] H := hP
          have hD : va_D A [(h0, .inr (12, fsMM mi mr)), ((mr 14), .inl (km_must, 25, .inl fm_must)), ((mr 15), .inl (km_least, 25, .inl fm_least)), ((mr 16), .inl (km_pin, 25, .inl fm_pin)), ((mr 17), .inl (km_ways, 6875, .inl z4)), ((mr 20), .inl (km_official, 25, .inl (upd z5 (x_401 : Int32).toNatClampNeg x_404)))] := hD
          generalize upd z5 (x_401 : Int32).toNatClampNeg x_404 = f_405 at hP hD
          obtain ⟨x_406, ex_406⟩ : ∃ y : Int32, y = v3 + 1 := ⟨_, rfl⟩
          have gx_406 : gi x_406 1 24 := gi_add ex_406 g_393 (gi_c 1 1 (by decide)) (by decide)
          refine lv_iinc (v := x_406) (lv' := [(3, .int x_406), (1, .int x_400), (2, .int r_399), (4, .int 0), (0, .ref h0)]) hx hb dX12_laysOfficial_73 hl (k := 4) rfl (by rw [ex_406]; rfl) (by decide) rfl (fun ls hl => ?_)
          refine lv_goto (tgt := 18) hx hb dX12_laysOfficial_76 (by decide) ?_
          exact ih x_400 r_399 x_406 z4 f_405 _ _ _ (gi_w gx_400 (by decide)) gr_399 (gi_w gx_406 (by decide)) (by have qgx_406 := gx_406.1; have rgx_406 := gx_406.2; have igx_406 : x_406.toInt = v3.toInt + 1 := (by have hc1 : (1 : Int32).toInt = 1 := (by decide); have h9 := gi_addI ex_406 (by have h1 := g_393.1; have h2 := (gi_c 1 1 (by decide)).1; have h3 := g_393.2; have h4 := (gi_c 1 1 (by decide)).2; omega) (by have h1 := g_393.1; have h2 := (gi_c 1 1 (by decide)).1; have h3 := g_393.2; have h4 := (gi_c 1 1 (by decide)).2; omega); rw [hc1] at h9; exact h9); have qgv3 := g_393.1; have rgv3 := g_393.2; have qgx_400 := gx_400.1; have rgx_400 := gx_400.2; have igx_400 : x_400.toInt = v1.toInt + 0 := (by have hc0 : (0 : Int32).toInt = 0 := (by decide); have h9 := gi_addI ex_400 (by have h1 := g_394.1; have h2 := (gi_c 0 0 (by decide)).1; have h3 := g_394.2; have h4 := (gi_c 0 0 (by decide)).2; omega) (by have h1 := g_394.1; have h2 := (gi_c 0 0 (by decide)).1; have h3 := g_394.2; have h4 := (gi_c 0 0 (by decide)).2; omega); rw [hc0] at h9; exact h9); have qgv1 := g_394.1; have rgv1 := g_394.2; have y1 := (Int32.lt_iff_toInt_lt.mp (Int32.not_le.mp c_392)); omega) (by have av3 := gv3.1; have bv3 := gv3.2; have qgx_406 := gx_406.1; have rgx_406 := gx_406.2; have igx_406 : x_406.toInt = v3.toInt + 1 := (by have hc1 : (1 : Int32).toInt = 1 := (by decide); have h9 := gi_addI ex_406 (by have h1 := g_393.1; have h2 := (gi_c 1 1 (by decide)).1; have h3 := g_393.2; have h4 := (gi_c 1 1 (by decide)).2; omega) (by have h1 := g_393.1; have h2 := (gi_c 1 1 (by decide)).1; have h3 := g_393.2; have h4 := (gi_c 1 1 (by decide)).2; omega); rw [hc1] at h9; exact h9); have qgv3 := g_393.1; have rgv3 := g_393.2; omega) hP hD hS (lv_sub hl [4, 1, 2, 0] rfl)
        · have g_407 : gi r_396 1 2147483647 := gi_lt_r (Int32.not_le.mp c_397) (gi_c 0 0 (by decide)) (gi_any r_396) (by decide)
          refine lv_iconst (v := 1) hx hb dX12_laysOfficial_37 (by decide) ?_
          refine lv_goto (tgt := 42) hx hb dX12_laysOfficial_38 (by decide) ?_
          refine lv_istore (lv' := [(4, .int 1), (0, .ref h0), (1, .int v1), (2, .int v2), (3, .int v3)]) hx hb dX12_laysOfficial_42 hl (by decide) rfl (fun ls hl => ?_)
          refine lv_aload_n hx hb dX12_laysOfficial_44 rfl (lv_at hl 1 rfl) ?_
          refine lv_iload_n hx hb dX12_laysOfficial_45 rfl (lv_at hl 3 rfl) ?_
          refine lv_iload hx hb dX12_laysOfficial_46 (lv_at hl 0 rfl) ?_
          have hPc := hP.sub (ws' := [(h0, .inr (12, fsMM mi mr))]) [0] rfl
          have hKc := hK.sub (tys' := []) [] rfl
          refine va_calli (va_runV (As := [.int v2, .int 1]) (rest := []) ⟨hx, hb, hml, hown, hts⟩ (sX12_runBehind l dC dI h0 mi mr v2 1 (gi_w g_395 (by decide)) gmi_1 gmi_2 gmi_4 gmi_7 gmi_10 gmi_17 gmi_23 gmi_24 gmi_26 gmi_29 gmi_30 gmi_33 gmi_37 gmi_41 gmi_50 gmi_51 gmi_56 gv2 (gi_w (gi_c 1 1 (by decide)) (by decide))) (cwV 2 hts (gz_gV mGB_311 mGB_312 mGB_313 mGB_1 mGB_314 goodGB) rfl rfl rfl (by decide +kernel) ⟨Nat.le_trans (Nat.le_of_ble_eq_true rfl) hRf, Nat.le_trans (Nat.le_of_ble_eq_true rfl) hRl⟩) ⟨fun a U g mk q => by obtain ⟨q0, qP, qK⟩ := q; exact ⟨q0, qP, va_K.moved (u := U) (U := U.calling g mk a) (Vm.Alike.refl U.vm) qK⟩, va_recv hKc hPc (ci := 12) (q0 := 0) rfl rfl, fun U hU hW => ⟨rfl, by rw [hU]; exact hPc, va_K.moved hW.alike hKc⟩⟩ rfl rfl hl.1 rfl (lv_room (Nat.le_of_ble_eq_true rfl)) dX12_laysOfficial_48 ⟨hRc, hRs⟩) hS (fun q _ h => h.elim) (fun q h => h.elim) (fun r_408 u t H1 locs ht hvm hw hB hz1 hk1 hS => ?_)
          have hP := gz_keep hP hk1
          generalize H1 = H at hP hS ⊢
          have gr_408 : gi r_408 (-1) 10 := hw
          refine lv_istore_n (lv' := [(2, .int r_408), (4, .int 1), (0, .ref h0), (1, .int v1), (3, .int v3)]) hx hb dX12_laysOfficial_51 rfl hl (by decide) rfl (fun ls hl => ?_)
          refine lv_iload_n hx hb dX12_laysOfficial_52 rfl (lv_at hl 3 rfl) ?_
          refine lv_iload hx hb dX12_laysOfficial_53 (lv_at hl 1 rfl) ?_
          refine lv_iadd hx hb dX12_laysOfficial_55 ?_
          refine lv_topi (fun x_409 ex_409 => ?_)
          have gx_409 : gi x_409 1 24 := gi_add ex_409 g_394 (gi_c 1 1 (by decide)) (by decide)
          refine lv_istore_n (lv' := [(1, .int x_409), (2, .int r_408), (4, .int 1), (0, .ref h0), (3, .int v3)]) hx hb dX12_laysOfficial_56 rfl hl (by decide) rfl (fun ls hl => ?_)
          refine lv_aload_n hx hb dX12_laysOfficial_57 rfl (lv_at hl 3 rfl) ?_
          refine va_get (D := (dC, dI)) (ci := 12) (v := .ref (mr 20)) (C := RX12) (T := TX12) (N := 57) hx hb hts (fun w h => List.mem_cons_of_mem _ (jnGB_X12 w h)) hown hK hP 0 rfl rfl 46 (by decide) (hts _ (List.mem_cons_of_mem _ mGB_36)) (fun _ h9 => h9) rfl dX12_laysOfficial_58 ?_
          refine lv_iload_n hx hb dX12_laysOfficial_61 rfl (lv_at hl 4 rfl) ?_
          refine lv_iconst (v := 1) hx hb dX12_laysOfficial_62 (by decide) ?_
          refine lv_iadd hx hb dX12_laysOfficial_63 ?_
          refine lv_topi (fun x_410 ex_410 => ?_)
          have gx_410 : gi x_410 1 24 := gi_add ex_410 g_393 (gi_c 1 1 (by decide)) (by decide)
          refine lv_bipush (v := 29) hx hb dX12_laysOfficial_64 (by decide) ?_
          refine lv_iload_n hx hb dX12_laysOfficial_66 rfl (lv_at hl 4 rfl) ?_
          refine lv_iconst (v := 1) hx hb dX12_laysOfficial_67 (by decide) ?_
          refine lv_iadd hx hb dX12_laysOfficial_68 ?_
          refine lv_topi (fun x_411 ex_411 => ?_)
          have gx_411 : gi x_411 1 24 := gi_add ex_411 g_393 (gi_c 1 1 (by decide)) (by decide)
          refine lv_imul hx hb dX12_laysOfficial_69 ?_
          refine lv_topi (fun x_412 ex_412 => ?_)
          have gx_412 : gi x_412 29 696 := gi_mul ex_412 (gi_c 29 29 (by decide)) gx_411 (by decide)
          refine lv_iload_n hx hb dX12_laysOfficial_70 rfl (lv_at hl 0 rfl) ?_
          refine lv_iadd hx hb dX12_laysOfficial_71 ?_
          refine lv_topi (fun x_413 ex_413 => ?_)
          have gx_413 : gi x_413 30 720 := gi_add ex_413 gx_412 gx_409 (by decide)
          refine va_iast hx hb hK hP hD hS 5 4 rfl rfl (gi_in gx_410 (by decide)) dX12_laysOfficial_72 (fun H locs hP hD hS => ?_)
          have hP : va_P (dC, dI) vwCl [(h0, .inr (12, fsMM mi mr)), ((mr 14), .inl (km_must, 25, .inl fm_must)), ((mr 15), .inl (km_least, 25, .inl fm_least)), ((mr 16), .inl (km_pin, 25, .inl fm_pin)), ((mr 17), .inl (km_ways, 6875, .inl z4)), ((mr 20), .inl (km_official, 25, .inl (upd z5 (x_410 : Int32).toNatClampNeg x_413)))] H := hP
          have hD : va_D A [(h0, .inr (12, fsMM mi mr)), ((mr 14), .inl (km_must, 25, .inl fm_must)), ((mr 15), .inl (km_least, 25, .inl fm_least)), ((mr 16), .inl (km_pin, 25, .inl fm_pin)), ((mr 17), .inl (km_ways, 6875, .inl z4)), ((mr 20), .inl (km_official, 25, .inl (upd z5 (x_410 : Int32).toNatClampNeg x_413)))] := hD
          generalize upd z5 (x_410 : Int32).toNatClampNeg x_413 = f_414 at hP hD
          obtain ⟨x_415, ex_415⟩ : ∃ y : Int32, y = v3 + 1 := ⟨_, rfl⟩
          have gx_415 : gi x_415 1 24 := gi_add ex_415 g_393 (gi_c 1 1 (by decide)) (by decide)
          refine lv_iinc (v := x_415) (lv' := [(3, .int x_415), (1, .int x_409), (2, .int r_408), (4, .int 1), (0, .ref h0)]) hx hb dX12_laysOfficial_73 hl (k := 4) rfl (by rw [ex_415]; rfl) (by decide) rfl (fun ls hl => ?_)
          refine lv_goto (tgt := 18) hx hb dX12_laysOfficial_76 (by decide) ?_
          exact ih x_409 r_408 x_415 z4 f_414 _ _ _ (gi_w gx_409 (by decide)) gr_408 (gi_w gx_415 (by decide)) (by have qgx_415 := gx_415.1; have rgx_415 := gx_415.2; have igx_415 : x_415.toInt = v3.toInt + 1 := (by have hc1 : (1 : Int32).toInt = 1 := (by decide); have h9 := gi_addI ex_415 (by have h1 := g_393.1; have h2 := (gi_c 1 1 (by decide)).1; have h3 := g_393.2; have h4 := (gi_c 1 1 (by decide)).2; omega) (by have h1 := g_393.1; have h2 := (gi_c 1 1 (by decide)).1; have h3 := g_393.2; have h4 := (gi_c 1 1 (by decide)).2; omega); rw [hc1] at h9; exact h9); have qgv3 := g_393.1; have rgv3 := g_393.2; have qgx_409 := gx_409.1; have rgx_409 := gx_409.2; have igx_409 : x_409.toInt = v1.toInt + 1 := (by have hc1 : (1 : Int32).toInt = 1 := (by decide); have h9 := gi_addI ex_409 (by have h1 := g_394.1; have h2 := (gi_c 1 1 (by decide)).1; have h3 := g_394.2; have h4 := (gi_c 1 1 (by decide)).2; omega) (by have h1 := g_394.1; have h2 := (gi_c 1 1 (by decide)).1; have h3 := g_394.2; have h4 := (gi_c 1 1 (by decide)).2; omega); rw [hc1] at h9; exact h9); have qgv1 := g_394.1; have rgv1 := g_394.2; have y1 := (Int32.lt_iff_toInt_lt.mp (Int32.not_le.mp c_392)); omega) (by have av3 := gv3.1; have bv3 := gv3.2; have qgx_415 := gx_415.1; have rgx_415 := gx_415.2; have igx_415 : x_415.toInt = v3.toInt + 1 := (by have hc1 : (1 : Int32).toInt = 1 := (by decide); have h9 := gi_addI ex_415 (by have h1 := g_393.1; have h2 := (gi_c 1 1 (by decide)).1; have h3 := g_393.2; have h4 := (gi_c 1 1 (by decide)).2; omega) (by have h1 := g_393.1; have h2 := (gi_c 1 1 (by decide)).1; have h3 := g_393.2; have h4 := (gi_c 1 1 (by decide)).2; omega); rw [hc1] at h9; exact h9); have qgv3 := g_393.1; have rgv3 := g_393.2; omega) hP hD hS (lv_sub hl [4, 1, 2, 0] rfl)
set_option maxHeartbeats 4000000 in
set_option maxRecDepth 100000 in
theorem sX12_laysOfficial (l : Launch) (dC : Nat → ClassId) (dI : Nat → Nat → Nat) (sz : Nat) (h0 : Nat) (mi : Nat → Int32) (mr : Nat → Nat) (km_must : ClassId) (fm_must : Nat → Int32) (km_least : ClassId) (fm_least : Nat → Int32) (km_pin : ClassId) (fm_pin : Nat → Int32) (km_ways : ClassId) (fm_ways : Nat → Int32) (km_official : ClassId) (fm_official : Nat → Int32) (gmi_0 : gi (mi 0) 0 24) (gmi_1 : gi (mi 1) 0 5) (gmi_2 : gi (mi 2) 0 5) (gmi_4 : gi (mi 4) 0 1) (gmi_7 : gi (mi 7) 0 6) (gmi_10 : gi (mi 10) 0 24) (gmi_17 : gi (mi 17) 0 8) (gmi_23 : gi (mi 23) 0 300) (gmi_24 : gi (mi 24) 0 1) (gmi_26 : gi (mi 26) 0 1600) (gmi_29 : gi (mi 29) 0 1600) (gmi_30 : gi (mi 30) 0 1600) (gmi_33 : gi (mi 33) 0 1) (gmi_37 : gi (mi 37) 0 1) (gmi_41 : gi (mi 41) 0 24) (gmi_50 : gi (mi 50) 0 1) (gmi_51 : gi (mi 51) 0 1) (gmi_56 : gi (mi 56) 0 80) : Met l yX12_laysOfficial (.code yX12_laysOfficial cX12_laysOfficial 5 none :: wsGB) ({ frames := 3, cells := 0, slots := 0, locals := 73 }) (va_Pc [.ref h0] (fun U => U.heap.size = sz ∧ va_P (dC, dI) vwCl [(h0, .inr (12, fsMM mi mr)), ((mr 14), .inl (km_must, 25, .inl fm_must)), ((mr 15), .inl (km_least, 25, .inl fm_least)), ((mr 16), .inl (km_pin, 25, .inl fm_pin)), ((mr 17), .inl (km_ways, 6875, .inl fm_ways)), ((mr 20), .inl (km_official, 25, .inl fm_official))] U.heap ∧ va_K (dC, dI) vwCl [(km_must, .int), (km_least, .int), (km_pin, .int), (km_ways, .int), (km_official, .int)] U ∧ va_D (fun _ => True) [(h0, .inr (12, fsMM mi mr)), ((mr 14), .inl (km_must, 25, .inl fm_must)), ((mr 15), .inl (km_least, 25, .inl fm_least)), ((mr 16), .inl (km_pin, 25, .inl fm_pin)), ((mr 17), .inl (km_ways, 6875, .inl fm_ways)), ((mr 20), .inl (km_official, 25, .inl fm_official))])) (va_Qv (fun (u : Unit) => True) (fun _ t => ∃ (z4 : Nat → Int32) (z5 : Nat → Int32), va_P (dC, dI) vwCl [(h0, .inr (12, fsMM mi mr)), ((mr 14), .inl (km_must, 25, .inl fm_must)), ((mr 15), .inl (km_least, 25, .inl fm_least)), ((mr 16), .inl (km_pin, 25, .inl fm_pin)), ((mr 17), .inl (km_ways, 6875, .inl z4)), ((mr 20), .inl (km_official, 25, .inl z5))] t.heap ∧ va_D (va_A [(h0, .inr (12, fsMM mi mr)), ((mr 14), .inl (km_must, 25, .inl fm_must)), ((mr 15), .inl (km_least, 25, .inl fm_least)), ((mr 16), .inl (km_pin, 25, .inl fm_pin)), ((mr 17), .inl (km_ways, 6875, .inl fm_ways)), ((mr 20), .inl (km_official, 25, .inl fm_official))] sz) [(h0, .inr (12, fsMM mi mr)), ((mr 14), .inl (km_must, 25, .inl fm_must)), ((mr 15), .inl (km_least, 25, .inl fm_least)), ((mr 16), .inl (km_pin, 25, .inl fm_pin)), ((mr 17), .inl (km_ways, 6875, .inl z4)), ((mr 20), .inl (km_official, 25, .inl z5))]) (va_A [(h0, .inr (12, fsMM mi mr)), ((mr 14), .inl (km_must, 25, .inl fm_must)), ((mr 15), .inl (km_least, 25, .inl fm_least)), ((mr 16), .inl (km_pin, 25, .inl fm_pin)), ((mr 17), .inl (km_ways, 6875, .inl fm_ways)), ((mr 20), .inl (km_official, 25, .inl fm_official))] sz)) 0 0 (va_A [(h0, .inr (12, fsMM mi mr)), ((mr 14), .inl (km_must, 25, .inl fm_must)), ((mr 15), .inl (km_least, 25, .inl fm_least)), ((mr 16), .inl (km_pin, 25, .inl fm_pin)), ((mr 17), .inl (km_ways, 6875, .inl fm_ways)), ((mr 20), .inl (km_official, 25, .inl fm_official))] sz) := by
  refine Met.ofW (cc := cX12_laysOfficial) (maxL := 5) (ret := none) (by decide) rfl ?_
  intro p e s m args below meth c s₁ B hml hv
  obtain ⟨rfl, hsz, hP, hK, hD0⟩ := hv
  have hx := B.exec
  have hb := B.bytes
  have hr := B.returns
  have hts := atoms_spec (ws := (.code yX12_laysOfficial cX12_laysOfficial 5 none :: wsGB)) B.pre
  have hown : s.vm.findClass RX12 = some m.cls := findClass_of_methodNamed B.named
  have hlocks := B.notSynchronized
  subst hsz
  have hD := hD0.self (sz := s.heap.size)
  generalize hAe : va_A [(h0, .inr (12, fsMM mi mr)), ((mr 14), .inl (km_must, 25, .inl fm_must)), ((mr 15), .inl (km_least, 25, .inl fm_least)), ((mr 16), .inl (km_pin, 25, .inl fm_pin)), ((mr 17), .inl (km_ways, 6875, .inl fm_ways)), ((mr 20), .inl (km_official, 25, .inl fm_official))] s.heap.size = A at hD ⊢
  have hA : ∀ q : Nat, s.heap.size ≤ q → A q := fun q h => by rw [← hAe]; exact Or.inr h
  have hS : va_S A s.heap s.heap [] := va_S.rf
  have hl := lv_entry ([.ref h0]) (n := 5) (Nat.le_of_ble_eq_true rfl)
  rw [lg_entry_eq]
  generalize (lg_sl ([.ref h0]) ++ List.replicate (5 - (lg_sl ([.ref h0])).length) Slot.unset).toArray = ls at hl ⊢
  have hl : lv_has ls 5 [(0, .ref h0)] := hl
  refine lv_aload_n hx hb dX12_laysOfficial_0 rfl (lv_at hl 0 rfl) ?_
  have hPc := hP.sub (ws' := [(h0, .inr (12, fsMM mi mr)), ((mr 14), .inl (km_must, 25, .inl fm_must)), ((mr 15), .inl (km_least, 25, .inl fm_least)), ((mr 16), .inl (km_pin, 25, .inl fm_pin)), ((mr 17), .inl (km_ways, 6875, .inl fm_ways))]) [0, 1, 2, 3, 4] rfl
  have hKc := hK.sub (tys' := [(km_must, .int), (km_least, .int), (km_pin, .int), (km_ways, .int)]) [0, 1, 2, 3] rfl
  have hDc := hD.sub (ws' := [(h0, .inr (12, fsMM mi mr)), ((mr 14), .inl (km_must, 25, .inl fm_must)), ((mr 15), .inl (km_least, 25, .inl fm_least)), ((mr 16), .inl (km_pin, 25, .inl fm_pin)), ((mr 17), .inl (km_ways, 6875, .inl fm_ways))]) [0, 1, 2, 3, 4] (by decide) rfl
  have hFc := va_free (wc := [(h0, .inr (12, fsMM mi mr)), ((mr 14), .inl (km_must, 25, .inl fm_must)), ((mr 15), .inl (km_least, 25, .inl fm_least)), ((mr 16), .inl (km_pin, 25, .inl fm_pin)), ((mr 17), .inl (km_ways, 6875, .inl fm_ways))]) hD hS hA [0, 1, 2, 3, 4] rfl
  refine va_calli (va_runV (As := []) (rest := []) ⟨hx, hb, hml, hown, hts⟩ (sX12_counts l dC dI s.heap.size h0 mi mr km_must fm_must km_least fm_least km_pin fm_pin km_ways fm_ways gmi_0 gmi_1 gmi_2 gmi_4 gmi_7 gmi_10 gmi_17 gmi_23 gmi_24 gmi_26 gmi_29 gmi_30 gmi_33 gmi_37 gmi_41 gmi_50 gmi_51 gmi_56) (cwV 0 hts (gz_gV mGB_299 mGB_300 mGB_301 mGB_1 mGB_302 goodGB) rfl rfl rfl (by decide +kernel) ⟨Nat.le_of_ble_eq_true rfl, Nat.le_of_ble_eq_true rfl⟩) ⟨fun a U g mk q => by obtain ⟨q0, q1, qP, qK, qD⟩ := q; exact ⟨q0, q1, qP, va_K.moved (u := U) (U := U.calling g mk a) (Vm.Alike.refl U.vm) qK, qD⟩, va_recv hKc hPc (ci := 12) (q0 := 0) rfl rfl, fun U hU hW => ⟨rfl, by rw [hU], by rw [hU]; exact hPc, va_K.moved hW.alike hKc, hDc.weaken (fun _ _ _ _ => trivial)⟩⟩ rfl rfl hl.1 rfl (lv_room (Nat.le_of_ble_eq_true rfl)) dX12_laysOfficial_1 ⟨Nat.zero_le _, Nat.zero_le _⟩) hS (fun q _ h => hFc q h) hFc (fun r_416 u t H1 locs ht hvm hw hB hz1 hk1 hS => ?_)
  obtain ⟨f_417, hP1, hD1⟩ := hB
  rw [ht] at hP1
  obtain ⟨hP, hD⟩ := va_join (wr := [((mr 20), .inl (km_official, 25, .inl fm_official))]) (w1 := [(h0, .inr (12, fsMM mi mr)), ((mr 14), .inl (km_must, 25, .inl fm_must)), ((mr 15), .inl (km_least, 25, .inl fm_least)), ((mr 16), .inl (km_pin, 25, .inl fm_pin)), ((mr 17), .inl (km_ways, 6875, .inl f_417))]) hP hD [0, 1, 2, 3, 4] [5] rfl rfl (by decide) (by decide) hk1 hFc hP1 hD1
  have hP := hP.sub (ws' := [(h0, .inr (12, fsMM mi mr)), ((mr 14), .inl (km_must, 25, .inl fm_must)), ((mr 15), .inl (km_least, 25, .inl fm_least)), ((mr 16), .inl (km_pin, 25, .inl fm_pin)), ((mr 17), .inl (km_ways, 6875, .inl f_417)), ((mr 20), .inl (km_official, 25, .inl fm_official))]) [1, 2, 3, 4, 5, 0] rfl
  have hD := hD.sub (ws' := [(h0, .inr (12, fsMM mi mr)), ((mr 14), .inl (km_must, 25, .inl fm_must)), ((mr 15), .inl (km_least, 25, .inl fm_least)), ((mr 16), .inl (km_pin, 25, .inl fm_pin)), ((mr 17), .inl (km_ways, 6875, .inl f_417)), ((mr 20), .inl (km_official, 25, .inl fm_official))]) [1, 2, 3, 4, 5, 0] (by decide) rfl
  generalize H1 = H at hP hS ⊢
  refine lv_pop hx hb dX12_laysOfficial_4 rfl ?_
  refine lv_iconst (v := 0) hx hb dX12_laysOfficial_5 (by decide) ?_
  refine lv_istore_n (lv' := [(1, .int 0), (0, .ref h0)]) hx hb dX12_laysOfficial_6 rfl hl (by decide) rfl (fun ls hl => ?_)
  refine lv_iconst (v := 0) hx hb dX12_laysOfficial_7 (by decide) ?_
  refine lv_istore_n (lv' := [(2, .int 0), (1, .int 0), (0, .ref h0)]) hx hb dX12_laysOfficial_8 rfl hl (by decide) rfl (fun ls hl => ?_)
  refine lv_aload_n hx hb dX12_laysOfficial_9 rfl (lv_at hl 2 rfl) ?_
  refine va_get (D := (dC, dI)) (ci := 12) (v := .ref (mr 20)) (C := RX12) (T := TX12) (N := 57) hx hb hts (fun w h => List.mem_cons_of_mem _ (jnGB_X12 w h)) hown hK hP 0 rfl rfl 46 (by decide) (hts _ (List.mem_cons_of_mem _ mGB_36)) (fun _ h9 => h9) rfl dX12_laysOfficial_10 ?_
  refine lv_iconst (v := 0) hx hb dX12_laysOfficial_13 (by decide) ?_
  refine lv_iconst (v := 0) hx hb dX12_laysOfficial_14 (by decide) ?_
  refine va_iast hx hb hK hP hD hS 5 4 rfl rfl (gi_in (gi_c 0 0 (by decide)) (by decide)) dX12_laysOfficial_15 (fun H locs hP hD hS => ?_)
  have hP : va_P (dC, dI) vwCl [(h0, .inr (12, fsMM mi mr)), ((mr 14), .inl (km_must, 25, .inl fm_must)), ((mr 15), .inl (km_least, 25, .inl fm_least)), ((mr 16), .inl (km_pin, 25, .inl fm_pin)), ((mr 17), .inl (km_ways, 6875, .inl f_417)), ((mr 20), .inl (km_official, 25, .inl (upd fm_official (0 : Int32).toNatClampNeg 0)))] H := hP
  have hD : va_D A [(h0, .inr (12, fsMM mi mr)), ((mr 14), .inl (km_must, 25, .inl fm_must)), ((mr 15), .inl (km_least, 25, .inl fm_least)), ((mr 16), .inl (km_pin, 25, .inl fm_pin)), ((mr 17), .inl (km_ways, 6875, .inl f_417)), ((mr 20), .inl (km_official, 25, .inl (upd fm_official (0 : Int32).toNatClampNeg 0)))] := hD
  generalize upd fm_official (0 : Int32).toNatClampNeg 0 = f_418 at hP hD
  refine lv_iconst (v := 0) hx hb dX12_laysOfficial_16 (by decide) ?_
  refine lv_istore_n (lv' := [(3, .int 0), (2, .int 0), (1, .int 0), (0, .ref h0)]) hx hb dX12_laysOfficial_17 rfl hl (by decide) rfl (fun ls hl => ?_)
  refine (lp_sX12_laysOfficial h0 mi mr km_must fm_must km_least fm_least km_pin fm_pin km_ways fm_ways km_official fm_official gmi_0 gmi_1 gmi_2 gmi_4 gmi_7 gmi_10 gmi_17 gmi_23 gmi_24 gmi_26 gmi_29 gmi_30 gmi_33 gmi_37 gmi_41 gmi_50 gmi_51 gmi_56 hx hb hml hown hts hK hA (Nat.le_of_ble_eq_true rfl) (Nat.le_of_ble_eq_true rfl) (Nat.zero_le _) (Nat.zero_le _) (fun z4 z5 H locs ls hP hD hS hl => ?_) 62) 0 0 0 f_417 f_418 _ _ _ (gi_w (gi_c 0 0 (by decide)) (by decide)) (gi_w (gi_c 0 0 (by decide)) (by decide)) (gi_w (gi_c 0 0 (by decide)) (by decide)) (by have k0 : (0 : Int32).toInt = 0 := (by decide); have k0 : (0 : Int32).toInt = 0 := (by decide); omega) (by have k0 : (0 : Int32).toInt = 0 := (by decide); omega) hP hD hS (lv_sub hl [3, 2, 1, 0] rfl)
  · skip
    exact W.vret hx hb hr (fun t ht hW => ⟨⟨(), rfl, trivial, z4, z5, by rw [ht]; exact hP, hD⟩, hS.F ht⟩) hS.2.2 dX12_laysOfficial_79
theorem dX12_officialBy_0 : decode cX12_officialBy 0 = .ok (.aload_n 0, 1) := by decide +kernel
theorem dX12_officialBy_1 : decode cX12_officialBy 1 = .ok (.iload_n 1, 1) := by decide +kernel
theorem dX12_officialBy_2 : decode cX12_officialBy 2 = .ok (.invokevirtual 362, 3) := by decide +kernel
theorem dX12_officialBy_5 : decode cX12_officialBy 5 = .ok (.aload_n 0, 1) := by decide +kernel
theorem dX12_officialBy_6 : decode cX12_officialBy 6 = .ok (.invokevirtual 376, 3) := by decide +kernel
theorem dX12_officialBy_9 : decode cX12_officialBy 9 = .ok (.return_, 1) := by decide +kernel
set_option maxHeartbeats 4000000 in
set_option maxRecDepth 100000 in
theorem sX12_officialBy (l : Launch) (dC : Nat → ClassId) (dI : Nat → Nat → Nat) (sz : Nat) (h0 : Nat) (mi : Nat → Int32) (mr : Nat → Nat) (km_must : ClassId) (fm_must : Nat → Int32) (km_least : ClassId) (fm_least : Nat → Int32) (km_pin : ClassId) (fm_pin : Nat → Int32) (km_ways : ClassId) (fm_ways : Nat → Int32) (km_verdict : ClassId) (fm_verdict : Nat → Int32) (km_row : ClassId) (fm_row : Nat → Int32) (km_struck : ClassId) (fm_struck : Nat → Int32) (km_reportKnown : ClassId) (fm_reportKnown : Nat → Int32) (km_reportPlace : ClassId) (fm_reportPlace : Nat → Int32) (km_reportMonth : ClassId) (fm_reportMonth : Nat → Int32) (km_reportDay : ClassId) (fm_reportDay : Nat → Int32) (km_reportKind : ClassId) (fm_reportKind : Nat → Int32) (km_trust : ClassId) (fm_trust : Nat → Int32) (km_letter : ClassId) (fm_letter : Nat → Int32) (km_official : ClassId) (fm_official : Nat → Int32) (p1 : Int32) (gmi_0 : gi (mi 0) 0 24) (gmi_1 : gi (mi 1) 0 5) (gmi_2 : gi (mi 2) 0 5) (gmi_4 : gi (mi 4) 0 1) (gmi_7 : gi (mi 7) 0 6) (gmi_10 : gi (mi 10) 0 24) (gmi_17 : gi (mi 17) 0 8) (gmi_23 : gi (mi 23) 0 300) (gmi_24 : gi (mi 24) 0 1) (gmi_26 : gi (mi 26) 0 1600) (gmi_29 : gi (mi 29) 0 1600) (gmi_30 : gi (mi 30) 0 1600) (gmi_33 : gi (mi 33) 0 1) (gmi_37 : gi (mi 37) 0 1) (gmi_41 : gi (mi 41) 0 24) (gmi_50 : gi (mi 50) 0 1) (gmi_51 : gi (mi 51) 0 1) (gmi_56 : gi (mi 56) 0 80) (gfm_row : ga fm_row 24 0 23) (gfm_struck : ga fm_struck 24 0 1) (gfm_reportKnown : ga fm_reportKnown 24 0 999) (gfm_reportPlace : ga fm_reportPlace 24 0 5) (gfm_reportMonth : ga fm_reportMonth 24 0 23) (gfm_reportDay : ga fm_reportDay 24 0 999) : Met l yX12_officialBy (.code yX12_officialBy cX12_officialBy 2 none :: wsGB) ({ frames := 5, cells := 0, slots := 0, locals := 119 }) (va_Pc [.ref h0, .int p1] (fun U => U.heap.size = sz ∧ va_P (dC, dI) vwCl [(h0, .inr (12, fsMM mi mr)), ((mr 14), .inl (km_must, 25, .inl fm_must)), ((mr 15), .inl (km_least, 25, .inl fm_least)), ((mr 16), .inl (km_pin, 25, .inl fm_pin)), ((mr 17), .inl (km_ways, 6875, .inl fm_ways)), ((mr 18), .inl (km_verdict, 24, .inl fm_verdict)), ((mr 19), .inl (km_row, 24, .inl fm_row)), ((mr 4), .inl (km_struck, 24, .inl fm_struck)), ((mr 7), .inl (km_reportKnown, 24, .inl fm_reportKnown)), ((mr 2), .inl (km_reportPlace, 24, .inl fm_reportPlace)), ((mr 5), .inl (km_reportMonth, 24, .inl fm_reportMonth)), ((mr 6), .inl (km_reportDay, 24, .inl fm_reportDay)), ((mr 3), .inl (km_reportKind, 24, .inl fm_reportKind)), ((mr 0), .inl (km_trust, 6, .inl fm_trust)), ((mr 1), .inl (km_letter, 36, .inl fm_letter)), ((mr 20), .inl (km_official, 25, .inl fm_official))] U.heap ∧ va_K (dC, dI) vwCl [(km_must, .int), (km_least, .int), (km_pin, .int), (km_ways, .int), (km_verdict, .int), (km_row, .int), (km_struck, .boolean), (km_reportKnown, .int), (km_reportPlace, .int), (km_reportMonth, .int), (km_reportDay, .int), (km_reportKind, .int), (km_trust, .int), (km_letter, .int), (km_official, .int)] U ∧ va_D (fun _ => True) [(h0, .inr (12, fsMM mi mr)), ((mr 14), .inl (km_must, 25, .inl fm_must)), ((mr 15), .inl (km_least, 25, .inl fm_least)), ((mr 16), .inl (km_pin, 25, .inl fm_pin)), ((mr 17), .inl (km_ways, 6875, .inl fm_ways)), ((mr 18), .inl (km_verdict, 24, .inl fm_verdict)), ((mr 19), .inl (km_row, 24, .inl fm_row)), ((mr 4), .inl (km_struck, 24, .inl fm_struck)), ((mr 7), .inl (km_reportKnown, 24, .inl fm_reportKnown)), ((mr 2), .inl (km_reportPlace, 24, .inl fm_reportPlace)), ((mr 5), .inl (km_reportMonth, 24, .inl fm_reportMonth)), ((mr 6), .inl (km_reportDay, 24, .inl fm_reportDay)), ((mr 3), .inl (km_reportKind, 24, .inl fm_reportKind)), ((mr 0), .inl (km_trust, 6, .inl fm_trust)), ((mr 1), .inl (km_letter, 36, .inl fm_letter)), ((mr 20), .inl (km_official, 25, .inl fm_official))])) (va_Qv (fun (u : Unit) => True) (fun _ t => ∃ (w0_37 : Int32) (w0_41 : Int32) (z1 : Nat → Int32) (z2 : Nat → Int32) (z3 : Nat → Int32) (z4 : Nat → Int32) (z5 : Nat → Int32) (z6 : Nat → Int32) (z15 : Nat → Int32), gi w0_37 0 1 ∧ gi w0_41 0 24 ∧ ga z6 24 0 23 ∧ va_P (dC, dI) vwCl [(h0, .inr (12, fsMM (upd (upd mi 37 w0_37) 41 w0_41) mr)), ((mr 14), .inl (km_must, 25, .inl z1)), ((mr 15), .inl (km_least, 25, .inl z2)), ((mr 16), .inl (km_pin, 25, .inl z3)), ((mr 17), .inl (km_ways, 6875, .inl z4)), ((mr 18), .inl (km_verdict, 24, .inl z5)), ((mr 19), .inl (km_row, 24, .inl z6)), ((mr 4), .inl (km_struck, 24, .inl fm_struck)), ((mr 7), .inl (km_reportKnown, 24, .inl fm_reportKnown)), ((mr 2), .inl (km_reportPlace, 24, .inl fm_reportPlace)), ((mr 5), .inl (km_reportMonth, 24, .inl fm_reportMonth)), ((mr 6), .inl (km_reportDay, 24, .inl fm_reportDay)), ((mr 3), .inl (km_reportKind, 24, .inl fm_reportKind)), ((mr 0), .inl (km_trust, 6, .inl fm_trust)), ((mr 1), .inl (km_letter, 36, .inl fm_letter)), ((mr 20), .inl (km_official, 25, .inl z15))] t.heap ∧ va_D (va_A [(h0, .inr (12, fsMM mi mr)), ((mr 14), .inl (km_must, 25, .inl fm_must)), ((mr 15), .inl (km_least, 25, .inl fm_least)), ((mr 16), .inl (km_pin, 25, .inl fm_pin)), ((mr 17), .inl (km_ways, 6875, .inl fm_ways)), ((mr 18), .inl (km_verdict, 24, .inl fm_verdict)), ((mr 19), .inl (km_row, 24, .inl fm_row)), ((mr 4), .inl (km_struck, 24, .inl fm_struck)), ((mr 7), .inl (km_reportKnown, 24, .inl fm_reportKnown)), ((mr 2), .inl (km_reportPlace, 24, .inl fm_reportPlace)), ((mr 5), .inl (km_reportMonth, 24, .inl fm_reportMonth)), ((mr 6), .inl (km_reportDay, 24, .inl fm_reportDay)), ((mr 3), .inl (km_reportKind, 24, .inl fm_reportKind)), ((mr 0), .inl (km_trust, 6, .inl fm_trust)), ((mr 1), .inl (km_letter, 36, .inl fm_letter)), ((mr 20), .inl (km_official, 25, .inl fm_official))] sz) [(h0, .inr (12, fsMM (upd (upd mi 37 w0_37) 41 w0_41) mr)), ((mr 14), .inl (km_must, 25, .inl z1)), ((mr 15), .inl (km_least, 25, .inl z2)), ((mr 16), .inl (km_pin, 25, .inl z3)), ((mr 17), .inl (km_ways, 6875, .inl z4)), ((mr 18), .inl (km_verdict, 24, .inl z5)), ((mr 19), .inl (km_row, 24, .inl z6)), ((mr 4), .inl (km_struck, 24, .inl fm_struck)), ((mr 7), .inl (km_reportKnown, 24, .inl fm_reportKnown)), ((mr 2), .inl (km_reportPlace, 24, .inl fm_reportPlace)), ((mr 5), .inl (km_reportMonth, 24, .inl fm_reportMonth)), ((mr 6), .inl (km_reportDay, 24, .inl fm_reportDay)), ((mr 3), .inl (km_reportKind, 24, .inl fm_reportKind)), ((mr 0), .inl (km_trust, 6, .inl fm_trust)), ((mr 1), .inl (km_letter, 36, .inl fm_letter)), ((mr 20), .inl (km_official, 25, .inl z15))]) (va_A [(h0, .inr (12, fsMM mi mr)), ((mr 14), .inl (km_must, 25, .inl fm_must)), ((mr 15), .inl (km_least, 25, .inl fm_least)), ((mr 16), .inl (km_pin, 25, .inl fm_pin)), ((mr 17), .inl (km_ways, 6875, .inl fm_ways)), ((mr 18), .inl (km_verdict, 24, .inl fm_verdict)), ((mr 19), .inl (km_row, 24, .inl fm_row)), ((mr 4), .inl (km_struck, 24, .inl fm_struck)), ((mr 7), .inl (km_reportKnown, 24, .inl fm_reportKnown)), ((mr 2), .inl (km_reportPlace, 24, .inl fm_reportPlace)), ((mr 5), .inl (km_reportMonth, 24, .inl fm_reportMonth)), ((mr 6), .inl (km_reportDay, 24, .inl fm_reportDay)), ((mr 3), .inl (km_reportKind, 24, .inl fm_reportKind)), ((mr 0), .inl (km_trust, 6, .inl fm_trust)), ((mr 1), .inl (km_letter, 36, .inl fm_letter)), ((mr 20), .inl (km_official, 25, .inl fm_official))] sz)) 0 0 (va_A [(h0, .inr (12, fsMM mi mr)), ((mr 14), .inl (km_must, 25, .inl fm_must)), ((mr 15), .inl (km_least, 25, .inl fm_least)), ((mr 16), .inl (km_pin, 25, .inl fm_pin)), ((mr 17), .inl (km_ways, 6875, .inl fm_ways)), ((mr 18), .inl (km_verdict, 24, .inl fm_verdict)), ((mr 19), .inl (km_row, 24, .inl fm_row)), ((mr 4), .inl (km_struck, 24, .inl fm_struck)), ((mr 7), .inl (km_reportKnown, 24, .inl fm_reportKnown)), ((mr 2), .inl (km_reportPlace, 24, .inl fm_reportPlace)), ((mr 5), .inl (km_reportMonth, 24, .inl fm_reportMonth)), ((mr 6), .inl (km_reportDay, 24, .inl fm_reportDay)), ((mr 3), .inl (km_reportKind, 24, .inl fm_reportKind)), ((mr 0), .inl (km_trust, 6, .inl fm_trust)), ((mr 1), .inl (km_letter, 36, .inl fm_letter)), ((mr 20), .inl (km_official, 25, .inl fm_official))] sz) := by
  refine Met.ofW (cc := cX12_officialBy) (maxL := 2) (ret := none) (by decide) rfl ?_
  intro p e s m args below meth c s₁ B hml hv
  obtain ⟨rfl, hsz, hP, hK, hD0⟩ := hv
  have hx := B.exec
  have hb := B.bytes
  have hr := B.returns
  have hts := atoms_spec (ws := (.code yX12_officialBy cX12_officialBy 2 none :: wsGB)) B.pre
  have hown : s.vm.findClass RX12 = some m.cls := findClass_of_methodNamed B.named
  have hlocks := B.notSynchronized
  subst hsz
  have hD := hD0.self (sz := s.heap.size)
  generalize hAe : va_A [(h0, .inr (12, fsMM mi mr)), ((mr 14), .inl (km_must, 25, .inl fm_must)), ((mr 15), .inl (km_least, 25, .inl fm_least)), ((mr 16), .inl (km_pin, 25, .inl fm_pin)), ((mr 17), .inl (km_ways, 6875, .inl fm_ways)), ((mr 18), .inl (km_verdict, 24, .inl fm_verdict)), ((mr 19), .inl (km_row, 24, .inl fm_row)), ((mr 4), .inl (km_struck, 24, .inl fm_struck)), ((mr 7), .inl (km_reportKnown, 24, .inl fm_reportKnown)), ((mr 2), .inl (km_reportPlace, 24, .inl fm_reportPlace)), ((mr 5), .inl (km_reportMonth, 24, .inl fm_reportMonth)), ((mr 6), .inl (km_reportDay, 24, .inl fm_reportDay)), ((mr 3), .inl (km_reportKind, 24, .inl fm_reportKind)), ((mr 0), .inl (km_trust, 6, .inl fm_trust)), ((mr 1), .inl (km_letter, 36, .inl fm_letter)), ((mr 20), .inl (km_official, 25, .inl fm_official))] s.heap.size = A at hD ⊢
  have hA : ∀ q : Nat, s.heap.size ≤ q → A q := fun q h => by rw [← hAe]; exact Or.inr h
  have hS : va_S A s.heap s.heap [] := va_S.rf
  have hl := lv_entry ([.ref h0, .int p1]) (n := 2) (Nat.le_of_ble_eq_true rfl)
  rw [lg_entry_eq]
  generalize (lg_sl ([.ref h0, .int p1]) ++ List.replicate (2 - (lg_sl ([.ref h0, .int p1])).length) Slot.unset).toArray = ls at hl ⊢
  have hl : lv_has ls 2 [(0, .ref h0), (1, .int p1)] := hl
  refine lv_aload_n hx hb dX12_officialBy_0 rfl (lv_at hl 0 rfl) ?_
  refine lv_iload_n hx hb dX12_officialBy_1 rfl (lv_at hl 1 rfl) ?_
  have hPc := hP.sub (ws' := [(h0, .inr (12, fsMM mi mr)), ((mr 14), .inl (km_must, 25, .inl fm_must)), ((mr 15), .inl (km_least, 25, .inl fm_least)), ((mr 16), .inl (km_pin, 25, .inl fm_pin)), ((mr 17), .inl (km_ways, 6875, .inl fm_ways)), ((mr 18), .inl (km_verdict, 24, .inl fm_verdict)), ((mr 19), .inl (km_row, 24, .inl fm_row)), ((mr 4), .inl (km_struck, 24, .inl fm_struck)), ((mr 7), .inl (km_reportKnown, 24, .inl fm_reportKnown)), ((mr 2), .inl (km_reportPlace, 24, .inl fm_reportPlace)), ((mr 5), .inl (km_reportMonth, 24, .inl fm_reportMonth)), ((mr 6), .inl (km_reportDay, 24, .inl fm_reportDay)), ((mr 3), .inl (km_reportKind, 24, .inl fm_reportKind)), ((mr 0), .inl (km_trust, 6, .inl fm_trust)), ((mr 1), .inl (km_letter, 36, .inl fm_letter))]) [0, 1, 2, 3, 4, 5, 6, 7, 8, 9, 10, 11, 12, 13, 14] rfl
  have hKc := hK.sub (tys' := [(km_must, .int), (km_least, .int), (km_pin, .int), (km_ways, .int), (km_verdict, .int), (km_row, .int), (km_struck, .boolean), (km_reportKnown, .int), (km_reportPlace, .int), (km_reportMonth, .int), (km_reportDay, .int), (km_reportKind, .int), (km_trust, .int), (km_letter, .int)]) [0, 1, 2, 3, 4, 5, 6, 7, 8, 9, 10, 11, 12, 13] rfl
  have hDc := hD.sub (ws' := [(h0, .inr (12, fsMM mi mr)), ((mr 14), .inl (km_must, 25, .inl fm_must)), ((mr 15), .inl (km_least, 25, .inl fm_least)), ((mr 16), .inl (km_pin, 25, .inl fm_pin)), ((mr 17), .inl (km_ways, 6875, .inl fm_ways)), ((mr 18), .inl (km_verdict, 24, .inl fm_verdict)), ((mr 19), .inl (km_row, 24, .inl fm_row)), ((mr 4), .inl (km_struck, 24, .inl fm_struck)), ((mr 7), .inl (km_reportKnown, 24, .inl fm_reportKnown)), ((mr 2), .inl (km_reportPlace, 24, .inl fm_reportPlace)), ((mr 5), .inl (km_reportMonth, 24, .inl fm_reportMonth)), ((mr 6), .inl (km_reportDay, 24, .inl fm_reportDay)), ((mr 3), .inl (km_reportKind, 24, .inl fm_reportKind)), ((mr 0), .inl (km_trust, 6, .inl fm_trust)), ((mr 1), .inl (km_letter, 36, .inl fm_letter))]) [0, 1, 2, 3, 4, 5, 6, 7, 8, 9, 10, 11, 12, 13, 14] (by decide) rfl
  have hFc := va_free (wc := [(h0, .inr (12, fsMM mi mr)), ((mr 14), .inl (km_must, 25, .inl fm_must)), ((mr 15), .inl (km_least, 25, .inl fm_least)), ((mr 16), .inl (km_pin, 25, .inl fm_pin)), ((mr 17), .inl (km_ways, 6875, .inl fm_ways)), ((mr 18), .inl (km_verdict, 24, .inl fm_verdict)), ((mr 19), .inl (km_row, 24, .inl fm_row)), ((mr 4), .inl (km_struck, 24, .inl fm_struck)), ((mr 7), .inl (km_reportKnown, 24, .inl fm_reportKnown)), ((mr 2), .inl (km_reportPlace, 24, .inl fm_reportPlace)), ((mr 5), .inl (km_reportMonth, 24, .inl fm_reportMonth)), ((mr 6), .inl (km_reportDay, 24, .inl fm_reportDay)), ((mr 3), .inl (km_reportKind, 24, .inl fm_reportKind)), ((mr 0), .inl (km_trust, 6, .inl fm_trust)), ((mr 1), .inl (km_letter, 36, .inl fm_letter))]) hD hS hA [0, 1, 2, 3, 4, 5, 6, 7, 8, 9, 10, 11, 12, 13, 14] rfl
  refine va_callv (va_runV (As := [.int p1]) (rest := []) ⟨hx, hb, hml, hown, hts⟩ (sX12_judgesAll l dC dI s.heap.size h0 mi mr km_must fm_must km_least fm_least km_pin fm_pin km_ways fm_ways km_verdict fm_verdict km_row fm_row km_struck fm_struck km_reportKnown fm_reportKnown km_reportPlace fm_reportPlace km_reportMonth fm_reportMonth km_reportDay fm_reportDay km_reportKind fm_reportKind km_trust fm_trust km_letter fm_letter p1 gmi_0 gmi_1 gmi_2 gmi_4 gmi_7 gmi_10 gmi_17 gmi_23 gmi_24 gmi_26 gmi_29 gmi_30 gmi_33 gmi_37 gmi_41 gmi_50 gmi_51 gmi_56 gfm_row gfm_struck gfm_reportKnown gfm_reportPlace gfm_reportMonth gfm_reportDay) (cwV 1 hts (gz_gV mGB_261 mGB_262 mGB_263 mGB_1 mGB_264 goodGB) rfl rfl rfl (by decide +kernel) ⟨Nat.le_of_ble_eq_true rfl, Nat.le_of_ble_eq_true rfl⟩) ⟨fun a U g mk q => by obtain ⟨q0, q1, qP, qK, qD⟩ := q; exact ⟨q0, q1, qP, va_K.moved (u := U) (U := U.calling g mk a) (Vm.Alike.refl U.vm) qK, qD⟩, va_recv hKc hPc (ci := 12) (q0 := 0) rfl rfl, fun U hU hW => ⟨rfl, by rw [hU], by rw [hU]; exact hPc, va_K.moved hW.alike hKc, hDc.weaken (fun _ _ _ _ => trivial)⟩⟩ rfl rfl hl.1 rfl (lv_room (Nat.le_of_ble_eq_true rfl)) dX12_officialBy_2 ⟨Nat.zero_le _, Nat.zero_le _⟩) hS (fun q _ h => hFc q h) hFc (fun u t H1 locs ht hvm hw hB hz1 hk1 hS => ?_)
  obtain ⟨y_26, y_27, f_28, f_29, f_30, f_31, f_32, f_33, gy_26, gy_27, gf_33, hP1, hD1⟩ := hB
  rw [ht] at hP1
  obtain ⟨hP, hD⟩ := va_join (wr := [((mr 20), .inl (km_official, 25, .inl fm_official))]) (w1 := [(h0, .inr (12, fsMM (upd (upd mi 37 y_26) 41 y_27) mr)), ((mr 14), .inl (km_must, 25, .inl f_28)), ((mr 15), .inl (km_least, 25, .inl f_29)), ((mr 16), .inl (km_pin, 25, .inl f_30)), ((mr 17), .inl (km_ways, 6875, .inl f_31)), ((mr 18), .inl (km_verdict, 24, .inl f_32)), ((mr 19), .inl (km_row, 24, .inl f_33)), ((mr 4), .inl (km_struck, 24, .inl fm_struck)), ((mr 7), .inl (km_reportKnown, 24, .inl fm_reportKnown)), ((mr 2), .inl (km_reportPlace, 24, .inl fm_reportPlace)), ((mr 5), .inl (km_reportMonth, 24, .inl fm_reportMonth)), ((mr 6), .inl (km_reportDay, 24, .inl fm_reportDay)), ((mr 3), .inl (km_reportKind, 24, .inl fm_reportKind)), ((mr 0), .inl (km_trust, 6, .inl fm_trust)), ((mr 1), .inl (km_letter, 36, .inl fm_letter))]) hP hD [0, 1, 2, 3, 4, 5, 6, 7, 8, 9, 10, 11, 12, 13, 14] [15] rfl rfl (by decide) (by decide) hk1 hFc hP1 hD1
  have hP := hP.sub (ws' := [(h0, .inr (12, fsMM (upd (upd mi 37 y_26) 41 y_27) mr)), ((mr 14), .inl (km_must, 25, .inl f_28)), ((mr 15), .inl (km_least, 25, .inl f_29)), ((mr 16), .inl (km_pin, 25, .inl f_30)), ((mr 17), .inl (km_ways, 6875, .inl f_31)), ((mr 18), .inl (km_verdict, 24, .inl f_32)), ((mr 19), .inl (km_row, 24, .inl f_33)), ((mr 4), .inl (km_struck, 24, .inl fm_struck)), ((mr 7), .inl (km_reportKnown, 24, .inl fm_reportKnown)), ((mr 2), .inl (km_reportPlace, 24, .inl fm_reportPlace)), ((mr 5), .inl (km_reportMonth, 24, .inl fm_reportMonth)), ((mr 6), .inl (km_reportDay, 24, .inl fm_reportDay)), ((mr 3), .inl (km_reportKind, 24, .inl fm_reportKind)), ((mr 0), .inl (km_trust, 6, .inl fm_trust)), ((mr 1), .inl (km_letter, 36, .inl fm_letter)), ((mr 20), .inl (km_official, 25, .inl fm_official))]) [1, 2, 3, 4, 5, 6, 7, 8, 9, 10, 11, 12, 13, 14, 15, 0] rfl
  have hD := hD.sub (ws' := [(h0, .inr (12, fsMM (upd (upd mi 37 y_26) 41 y_27) mr)), ((mr 14), .inl (km_must, 25, .inl f_28)), ((mr 15), .inl (km_least, 25, .inl f_29)), ((mr 16), .inl (km_pin, 25, .inl f_30)), ((mr 17), .inl (km_ways, 6875, .inl f_31)), ((mr 18), .inl (km_verdict, 24, .inl f_32)), ((mr 19), .inl (km_row, 24, .inl f_33)), ((mr 4), .inl (km_struck, 24, .inl fm_struck)), ((mr 7), .inl (km_reportKnown, 24, .inl fm_reportKnown)), ((mr 2), .inl (km_reportPlace, 24, .inl fm_reportPlace)), ((mr 5), .inl (km_reportMonth, 24, .inl fm_reportMonth)), ((mr 6), .inl (km_reportDay, 24, .inl fm_reportDay)), ((mr 3), .inl (km_reportKind, 24, .inl fm_reportKind)), ((mr 0), .inl (km_trust, 6, .inl fm_trust)), ((mr 1), .inl (km_letter, 36, .inl fm_letter)), ((mr 20), .inl (km_official, 25, .inl fm_official))]) [1, 2, 3, 4, 5, 6, 7, 8, 9, 10, 11, 12, 13, 14, 15, 0] (by decide) rfl
  generalize H1 = H at hP hS ⊢
  refine lv_aload_n hx hb dX12_officialBy_5 rfl (lv_at hl 0 rfl) ?_
  have hPc := hP.sub (ws' := [(h0, .inr (12, fsMM (upd (upd mi 37 y_26) 41 y_27) mr)), ((mr 14), .inl (km_must, 25, .inl f_28)), ((mr 15), .inl (km_least, 25, .inl f_29)), ((mr 16), .inl (km_pin, 25, .inl f_30)), ((mr 17), .inl (km_ways, 6875, .inl f_31)), ((mr 20), .inl (km_official, 25, .inl fm_official))]) [0, 1, 2, 3, 4, 15] rfl
  have hKc := hK.sub (tys' := [(km_must, .int), (km_least, .int), (km_pin, .int), (km_ways, .int), (km_official, .int)]) [0, 1, 2, 3, 14] rfl
  have hDc := hD.sub (ws' := [(h0, .inr (12, fsMM (upd (upd mi 37 y_26) 41 y_27) mr)), ((mr 14), .inl (km_must, 25, .inl f_28)), ((mr 15), .inl (km_least, 25, .inl f_29)), ((mr 16), .inl (km_pin, 25, .inl f_30)), ((mr 17), .inl (km_ways, 6875, .inl f_31)), ((mr 20), .inl (km_official, 25, .inl fm_official))]) [0, 1, 2, 3, 4, 15] (by decide) rfl
  have hFc := va_free (wc := [(h0, .inr (12, fsMM (upd (upd mi 37 y_26) 41 y_27) mr)), ((mr 14), .inl (km_must, 25, .inl f_28)), ((mr 15), .inl (km_least, 25, .inl f_29)), ((mr 16), .inl (km_pin, 25, .inl f_30)), ((mr 17), .inl (km_ways, 6875, .inl f_31)), ((mr 20), .inl (km_official, 25, .inl fm_official))]) hD hS hA [0, 1, 2, 3, 4, 15] rfl
  refine va_callv (va_runV (As := []) (rest := []) ⟨hx, hb, hml, hown, hts⟩ (sX12_laysOfficial l dC dI H.size h0 (upd (upd mi 37 y_26) 41 y_27) mr km_must f_28 km_least f_29 km_pin f_30 km_ways f_31 km_official fm_official gmi_0 gmi_1 gmi_2 gmi_4 gmi_7 gmi_10 gmi_17 gmi_23 gmi_24 gmi_26 gmi_29 gmi_30 gmi_33 gy_26 gy_27 gmi_50 gmi_51 gmi_56) (cwV 0 hts (gz_gV mGB_362 mGB_363 mGB_364 mGB_1 mGB_365 goodGB) rfl rfl rfl (by decide +kernel) ⟨Nat.le_of_ble_eq_true rfl, Nat.le_of_ble_eq_true rfl⟩) ⟨fun a U g mk q => by obtain ⟨q0, q1, qP, qK, qD⟩ := q; exact ⟨q0, q1, qP, va_K.moved (u := U) (U := U.calling g mk a) (Vm.Alike.refl U.vm) qK, qD⟩, va_recv hKc hPc (ci := 12) (q0 := 0) rfl rfl, fun U hU hW => ⟨rfl, by rw [hU], by rw [hU]; exact hPc, va_K.moved hW.alike hKc, hDc.weaken (fun _ _ _ _ => trivial)⟩⟩ rfl rfl hl.1 rfl (lv_room (Nat.le_of_ble_eq_true rfl)) dX12_officialBy_6 ⟨Nat.zero_le _, Nat.zero_le _⟩) hS (fun q _ h => hFc q h) hFc (fun u t H1 locs ht hvm hw hB hz1 hk1 hS => ?_)
  obtain ⟨f_35, f_36, hP1, hD1⟩ := hB
  rw [ht] at hP1
  obtain ⟨hP, hD⟩ := va_join (wr := [((mr 18), .inl (km_verdict, 24, .inl f_32)), ((mr 19), .inl (km_row, 24, .inl f_33)), ((mr 4), .inl (km_struck, 24, .inl fm_struck)), ((mr 7), .inl (km_reportKnown, 24, .inl fm_reportKnown)), ((mr 2), .inl (km_reportPlace, 24, .inl fm_reportPlace)), ((mr 5), .inl (km_reportMonth, 24, .inl fm_reportMonth)), ((mr 6), .inl (km_reportDay, 24, .inl fm_reportDay)), ((mr 3), .inl (km_reportKind, 24, .inl fm_reportKind)), ((mr 0), .inl (km_trust, 6, .inl fm_trust)), ((mr 1), .inl (km_letter, 36, .inl fm_letter))]) (w1 := [(h0, .inr (12, fsMM (upd (upd mi 37 y_26) 41 y_27) mr)), ((mr 14), .inl (km_must, 25, .inl f_28)), ((mr 15), .inl (km_least, 25, .inl f_29)), ((mr 16), .inl (km_pin, 25, .inl f_30)), ((mr 17), .inl (km_ways, 6875, .inl f_35)), ((mr 20), .inl (km_official, 25, .inl f_36))]) hP hD [0, 1, 2, 3, 4, 15] [5, 6, 7, 8, 9, 10, 11, 12, 13, 14] rfl rfl (by decide) (by decide) hk1 hFc hP1 hD1
  have hP := hP.sub (ws' := [(h0, .inr (12, fsMM (upd (upd mi 37 y_26) 41 y_27) mr)), ((mr 14), .inl (km_must, 25, .inl f_28)), ((mr 15), .inl (km_least, 25, .inl f_29)), ((mr 16), .inl (km_pin, 25, .inl f_30)), ((mr 17), .inl (km_ways, 6875, .inl f_35)), ((mr 18), .inl (km_verdict, 24, .inl f_32)), ((mr 19), .inl (km_row, 24, .inl f_33)), ((mr 4), .inl (km_struck, 24, .inl fm_struck)), ((mr 7), .inl (km_reportKnown, 24, .inl fm_reportKnown)), ((mr 2), .inl (km_reportPlace, 24, .inl fm_reportPlace)), ((mr 5), .inl (km_reportMonth, 24, .inl fm_reportMonth)), ((mr 6), .inl (km_reportDay, 24, .inl fm_reportDay)), ((mr 3), .inl (km_reportKind, 24, .inl fm_reportKind)), ((mr 0), .inl (km_trust, 6, .inl fm_trust)), ((mr 1), .inl (km_letter, 36, .inl fm_letter)), ((mr 20), .inl (km_official, 25, .inl f_36))]) [10, 11, 12, 13, 14, 0, 1, 2, 3, 4, 5, 6, 7, 8, 9, 15] rfl
  have hD := hD.sub (ws' := [(h0, .inr (12, fsMM (upd (upd mi 37 y_26) 41 y_27) mr)), ((mr 14), .inl (km_must, 25, .inl f_28)), ((mr 15), .inl (km_least, 25, .inl f_29)), ((mr 16), .inl (km_pin, 25, .inl f_30)), ((mr 17), .inl (km_ways, 6875, .inl f_35)), ((mr 18), .inl (km_verdict, 24, .inl f_32)), ((mr 19), .inl (km_row, 24, .inl f_33)), ((mr 4), .inl (km_struck, 24, .inl fm_struck)), ((mr 7), .inl (km_reportKnown, 24, .inl fm_reportKnown)), ((mr 2), .inl (km_reportPlace, 24, .inl fm_reportPlace)), ((mr 5), .inl (km_reportMonth, 24, .inl fm_reportMonth)), ((mr 6), .inl (km_reportDay, 24, .inl fm_reportDay)), ((mr 3), .inl (km_reportKind, 24, .inl fm_reportKind)), ((mr 0), .inl (km_trust, 6, .inl fm_trust)), ((mr 1), .inl (km_letter, 36, .inl fm_letter)), ((mr 20), .inl (km_official, 25, .inl f_36))]) [10, 11, 12, 13, 14, 0, 1, 2, 3, 4, 5, 6, 7, 8, 9, 15] (by decide) rfl
  generalize H1 = H at hP hS ⊢
  exact W.vret hx hb hr (fun t ht hW => ⟨⟨(), rfl, trivial, y_26, y_27, f_28, f_29, f_30, f_35, f_32, f_33, f_36, gy_26, gy_27, gf_33, by rw [ht]; exact hP, hD⟩, hS.F ht⟩) hS.2.2 dX12_officialBy_9
