theorem dX12_costOf_0 : decode cX12_costOf 0 = .ok (.iload_n 1, 1) := by decide +kernel
theorem dX12_costOf_1 : decode cX12_costOf 1 = .ok (.ifCond .ne 5, 3) := by decide +kernel
theorem dX12_costOf_4 : decode cX12_costOf 4 = .ok (.iconst 0, 1) := by decide +kernel
theorem dX12_costOf_5 : decode cX12_costOf 5 = .ok (.ireturn, 1) := by decide +kernel
theorem dX12_costOf_6 : decode cX12_costOf 6 = .ok (.iload 4, 2) := by decide +kernel
theorem dX12_costOf_8 : decode cX12_costOf 8 = .ok (.ifCond .eq 38, 3) := by decide +kernel
theorem dX12_costOf_11 : decode cX12_costOf 11 = .ok (.aload_n 0, 1) := by decide +kernel
theorem dX12_costOf_12 : decode cX12_costOf 12 = .ok (.getfield 312, 3) := by decide +kernel
theorem dX12_costOf_15 : decode cX12_costOf 15 = .ok (.ifCond .ne 12, 3) := by decide +kernel
theorem dX12_costOf_18 : decode cX12_costOf 18 = .ok (.aload_n 0, 1) := by decide +kernel
theorem dX12_costOf_19 : decode cX12_costOf 19 = .ok (.iload_n 1, 1) := by decide +kernel
theorem dX12_costOf_20 : decode cX12_costOf 20 = .ok (.iload_n 2, 1) := by decide +kernel
theorem dX12_costOf_21 : decode cX12_costOf 21 = .ok (.invokevirtual 325, 3) := by decide +kernel
theorem dX12_costOf_24 : decode cX12_costOf 24 = .ok (.ifCond .ne 9, 3) := by decide +kernel
theorem dX12_costOf_27 : decode cX12_costOf 27 = .ok (.ldc_w 468, 3) := by decide +kernel
theorem dX12_costOf_30 : decode cX12_costOf 30 = .ok (.goto 15, 3) := by decide +kernel
theorem dX12_costOf_33 : decode cX12_costOf 33 = .ok (.iload_n 2, 1) := by decide +kernel
theorem dX12_costOf_34 : decode cX12_costOf 34 = .ok (.aload_n 0, 1) := by decide +kernel
theorem dX12_costOf_35 : decode cX12_costOf 35 = .ok (.iload_n 1, 1) := by decide +kernel
theorem dX12_costOf_36 : decode cX12_costOf 36 = .ok (.invokevirtual 309, 3) := by decide +kernel
theorem dX12_costOf_39 : decode cX12_costOf 39 = .ok (.isub, 1) := by decide +kernel
theorem dX12_costOf_40 : decode cX12_costOf 40 = .ok (.iconst 1, 1) := by decide +kernel
theorem dX12_costOf_41 : decode cX12_costOf 41 = .ok (.isub, 1) := by decide +kernel
theorem dX12_costOf_42 : decode cX12_costOf 42 = .ok (.invokestatic 469, 3) := by decide +kernel
theorem dX12_costOf_45 : decode cX12_costOf 45 = .ok (.ireturn, 1) := by decide +kernel
theorem dX12_costOf_46 : decode cX12_costOf 46 = .ok (.iconst 0, 1) := by decide +kernel
theorem dX12_costOf_47 : decode cX12_costOf 47 = .ok (.istore 5, 2) := by decide +kernel
theorem dX12_costOf_49 : decode cX12_costOf 49 = .ok (.iconst 0, 1) := by decide +kernel
theorem dX12_costOf_50 : decode cX12_costOf 50 = .ok (.istore 6, 2) := by decide +kernel
theorem dX12_costOf_52 : decode cX12_costOf 52 = .ok (.iload 6, 2) := by decide +kernel
theorem dX12_costOf_54 : decode cX12_costOf 54 = .ok (.aload_n 0, 1) := by decide +kernel
theorem dX12_costOf_55 : decode cX12_costOf 55 = .ok (.getfield 141, 3) := by decide +kernel
theorem dX12_costOf_58 : decode cX12_costOf 58 = .ok (.if_icmp .ge 121, 3) := by decide +kernel
theorem dX12_costOf_61 : decode cX12_costOf 61 = .ok (.aload_n 0, 1) := by decide +kernel
theorem dX12_costOf_62 : decode cX12_costOf 62 = .ok (.getfield 26, 3) := by decide +kernel
theorem dX12_costOf_65 : decode cX12_costOf 65 = .ok (.iload 6, 2) := by decide +kernel
theorem dX12_costOf_67 : decode cX12_costOf 67 = .ok (.iaload, 1) := by decide +kernel
theorem dX12_costOf_68 : decode cX12_costOf 68 = .ok (.iload_n 1, 1) := by decide +kernel
theorem dX12_costOf_69 : decode cX12_costOf 69 = .ok (.if_icmp .ne 104, 3) := by decide +kernel
theorem dX12_costOf_72 : decode cX12_costOf 72 = .ok (.aload_n 0, 1) := by decide +kernel
theorem dX12_costOf_73 : decode cX12_costOf 73 = .ok (.iload 6, 2) := by decide +kernel
theorem dX12_costOf_75 : decode cX12_costOf 75 = .ok (.iload_n 3, 1) := by decide +kernel
theorem dX12_costOf_76 : decode cX12_costOf 76 = .ok (.invokevirtual 341, 3) := by decide +kernel
theorem dX12_costOf_79 : decode cX12_costOf 79 = .ok (.ifCond .eq 94, 3) := by decide +kernel
theorem dX12_costOf_82 : decode cX12_costOf 82 = .ok (.aload_n 0, 1) := by decide +kernel
theorem dX12_costOf_83 : decode cX12_costOf 83 = .ok (.getfield 19, 3) := by decide +kernel
theorem dX12_costOf_86 : decode cX12_costOf 86 = .ok (.iload 6, 2) := by decide +kernel
theorem dX12_costOf_88 : decode cX12_costOf 88 = .ok (.iaload, 1) := by decide +kernel
theorem dX12_costOf_89 : decode cX12_costOf 89 = .ok (.iconst 2, 1) := by decide +kernel
theorem dX12_costOf_90 : decode cX12_costOf 90 = .ok (.if_icmp .ne 6, 3) := by decide +kernel
theorem dX12_costOf_93 : decode cX12_costOf 93 = .ok (.goto 80, 3) := by decide +kernel
theorem dX12_costOf_96 : decode cX12_costOf 96 = .ok (.aload_n 0, 1) := by decide +kernel
theorem dX12_costOf_97 : decode cX12_costOf 97 = .ok (.getfield 19, 3) := by decide +kernel
theorem dX12_costOf_100 : decode cX12_costOf 100 = .ok (.iload 6, 2) := by decide +kernel
theorem dX12_costOf_102 : decode cX12_costOf 102 = .ok (.iaload, 1) := by decide +kernel
theorem dX12_costOf_103 : decode cX12_costOf 103 = .ok (.ifCond .ne 24, 3) := by decide +kernel
theorem dX12_costOf_106 : decode cX12_costOf 106 = .ok (.iload_n 2, 1) := by decide +kernel
theorem dX12_costOf_107 : decode cX12_costOf 107 = .ok (.aload_n 0, 1) := by decide +kernel
theorem dX12_costOf_108 : decode cX12_costOf 108 = .ok (.getfield 29, 3) := by decide +kernel
theorem dX12_costOf_111 : decode cX12_costOf 111 = .ok (.iload 6, 2) := by decide +kernel
theorem dX12_costOf_113 : decode cX12_costOf 113 = .ok (.iaload, 1) := by decide +kernel
theorem dX12_costOf_114 : decode cX12_costOf 114 = .ok (.iconst 1, 1) := by decide +kernel
theorem dX12_costOf_115 : decode cX12_costOf 115 = .ok (.iadd, 1) := by decide +kernel
theorem dX12_costOf_116 : decode cX12_costOf 116 = .ok (.if_icmp .ne 7, 3) := by decide +kernel
theorem dX12_costOf_119 : decode cX12_costOf 119 = .ok (.iconst 1, 1) := by decide +kernel
theorem dX12_costOf_120 : decode cX12_costOf 120 = .ok (.goto 25, 3) := by decide +kernel
theorem dX12_costOf_123 : decode cX12_costOf 123 = .ok (.iconst 0, 1) := by decide +kernel
theorem dX12_costOf_124 : decode cX12_costOf 124 = .ok (.goto 21, 3) := by decide +kernel
theorem dX12_costOf_127 : decode cX12_costOf 127 = .ok (.iload_n 2, 1) := by decide +kernel
theorem dX12_costOf_128 : decode cX12_costOf 128 = .ok (.aload_n 0, 1) := by decide +kernel
theorem dX12_costOf_129 : decode cX12_costOf 129 = .ok (.getfield 29, 3) := by decide +kernel
theorem dX12_costOf_132 : decode cX12_costOf 132 = .ok (.iload 6, 2) := by decide +kernel
theorem dX12_costOf_134 : decode cX12_costOf 134 = .ok (.iaload, 1) := by decide +kernel
theorem dX12_costOf_135 : decode cX12_costOf 135 = .ok (.iconst 1, 1) := by decide +kernel
theorem dX12_costOf_136 : decode cX12_costOf 136 = .ok (.iadd, 1) := by decide +kernel
theorem dX12_costOf_137 : decode cX12_costOf 137 = .ok (.if_icmp .le 7, 3) := by decide +kernel
theorem dX12_costOf_140 : decode cX12_costOf 140 = .ok (.iconst 1, 1) := by decide +kernel
theorem dX12_costOf_141 : decode cX12_costOf 141 = .ok (.goto 4, 3) := by decide +kernel
theorem dX12_costOf_144 : decode cX12_costOf 144 = .ok (.iconst 0, 1) := by decide +kernel
theorem dX12_costOf_145 : decode cX12_costOf 145 = .ok (.istore 7, 2) := by decide +kernel
theorem dX12_costOf_147 : decode cX12_costOf 147 = .ok (.iload 5, 2) := by decide +kernel
theorem dX12_costOf_149 : decode cX12_costOf 149 = .ok (.iload 7, 2) := by decide +kernel
theorem dX12_costOf_151 : decode cX12_costOf 151 = .ok (.ifCond .eq 7, 3) := by decide +kernel
theorem dX12_costOf_154 : decode cX12_costOf 154 = .ok (.iconst 0, 1) := by decide +kernel
theorem dX12_costOf_155 : decode cX12_costOf 155 = .ok (.goto 15, 3) := by decide +kernel
theorem dX12_costOf_158 : decode cX12_costOf 158 = .ok (.aload_n 0, 1) := by decide +kernel
theorem dX12_costOf_159 : decode cX12_costOf 159 = .ok (.getfield 7, 3) := by decide +kernel
theorem dX12_costOf_162 : decode cX12_costOf 162 = .ok (.aload_n 0, 1) := by decide +kernel
theorem dX12_costOf_163 : decode cX12_costOf 163 = .ok (.getfield 16, 3) := by decide +kernel
theorem dX12_costOf_166 : decode cX12_costOf 166 = .ok (.iload 6, 2) := by decide +kernel
theorem dX12_costOf_168 : decode cX12_costOf 168 = .ok (.iaload, 1) := by decide +kernel
theorem dX12_costOf_169 : decode cX12_costOf 169 = .ok (.iaload, 1) := by decide +kernel
theorem dX12_costOf_170 : decode cX12_costOf 170 = .ok (.iadd, 1) := by decide +kernel
theorem dX12_costOf_171 : decode cX12_costOf 171 = .ok (.istore 5, 2) := by decide +kernel
theorem dX12_costOf_173 : decode cX12_costOf 173 = .ok (.iinc 6 1, 3) := by decide +kernel
theorem dX12_costOf_176 : decode cX12_costOf 176 = .ok (.goto (-124), 3) := by decide +kernel
theorem dX12_costOf_179 : decode cX12_costOf 179 = .ok (.iload 5, 2) := by decide +kernel
theorem dX12_costOf_181 : decode cX12_costOf 181 = .ok (.ireturn, 1) := by decide +kernel
set_option maxHeartbeats 4000000 in
set_option maxRecDepth 100000 in
theorem lp_sX12_costOf {p : Program} {l : Launch} {e : Env} {R : Room} {s : State} {m : MethodId} {args : Array Value} {below : List Frame} {meth : Method} {c : Code} {Q : State → Prop} {A : Nat → Prop} {cells slots : Nat} {dC : Nat → ClassId} {dI : Nat → Nat → Nat} (h0 : Nat) (mi : Nat → Int32) (mr : Nat → Nat) (km_must : ClassId) (fm_must : Nat → Int32) (km_least : ClassId) (fm_least : Nat → Int32) (km_pin : ClassId) (fm_pin : Nat → Int32) (km_struck : ClassId) (fm_struck : Nat → Int32) (km_reportKnown : ClassId) (fm_reportKnown : Nat → Int32) (km_reportMonth : ClassId) (fm_reportMonth : Nat → Int32) (km_reportKind : ClassId) (fm_reportKind : Nat → Int32) (km_reportDay : ClassId) (fm_reportDay : Nat → Int32) (km_reportPlace : ClassId) (fm_reportPlace : Nat → Int32) (km_trust : ClassId) (fm_trust : Nat → Int32) (p1 : Int32) (p2 : Int32) (p3 : Int32) (p4 : Int32) (gmi_0 : gi (mi 0) 0 24) (gmi_1 : gi (mi 1) 0 5) (gmi_2 : gi (mi 2) 0 5) (gmi_4 : gi (mi 4) 0 1) (gmi_7 : gi (mi 7) 0 6) (gmi_10 : gi (mi 10) 0 24) (gmi_17 : gi (mi 17) 0 8) (gmi_23 : gi (mi 23) 0 300) (gmi_24 : gi (mi 24) 0 1) (gmi_26 : gi (mi 26) 0 1600) (gmi_29 : gi (mi 29) 0 1600) (gmi_30 : gi (mi 30) 0 1600) (gmi_33 : gi (mi 33) 0 1) (gmi_37 : gi (mi 37) 0 1) (gmi_41 : gi (mi 41) 0 24) (gmi_50 : gi (mi 50) 0 1) (gmi_51 : gi (mi 51) 0 1) (gmi_56 : gi (mi 56) 0 80) (gfm_struck : ga fm_struck 24 0 1) (gfm_reportKnown : ga fm_reportKnown 24 0 999) (gfm_reportMonth : ga fm_reportMonth 24 0 23) (gfm_reportDay : ga fm_reportDay 24 0 999) (gfm_reportPlace : ga fm_reportPlace 24 0 5) (gp1 : gi p1 0 24) (gp4 : gi p4 0 1) (hx : p.tables.exec = Jvm.exec) (hb : c.code = cX12_costOf) (hml : c.maxLocals = 8) (hown : s.vm.findClass RX12 = some m.cls) (hts : ∀ w ∈ ((.code yX12_costOf cX12_costOf 8 (some .int) :: wsGB) : List Cond), w.before args s = true) (hK : va_K (dC, dI) vwCl [(km_must, .int), (km_least, .int), (km_pin, .int), (km_struck, .boolean), (km_reportKnown, .int), (km_reportMonth, .int), (km_reportKind, .int), (km_reportDay, .int), (km_reportPlace, .int), (km_trust, .int)] s) (hRf : 1 ≤ R.frames) (hRl : 22 ≤ R.locals) (hRc : cells ≤ R.cells) (hRs : slots ≤ R.slots) (kr45 : ∀ (v : Int32) (H : Heap) (locs : List Loc) (ls : Array Slot), va_P (dC, dI) vwCl [(h0, .inr (12, fsMM mi mr)), ((mr 14), .inl (km_must, 25, .inl fm_must)), ((mr 15), .inl (km_least, 25, .inl fm_least)), ((mr 16), .inl (km_pin, 25, .inl fm_pin)), ((mr 4), .inl (km_struck, 24, .inl fm_struck)), ((mr 7), .inl (km_reportKnown, 24, .inl fm_reportKnown)), ((mr 5), .inl (km_reportMonth, 24, .inl fm_reportMonth)), ((mr 3), .inl (km_reportKind, 24, .inl fm_reportKind)), ((mr 6), .inl (km_reportDay, 24, .inl fm_reportDay)), ((mr 2), .inl (km_reportPlace, 24, .inl fm_reportPlace)), ((mr 0), .inl (km_trust, 6, .inl fm_trust))] H → va_S A s.heap H locs → lv_has ls 8 [] → W p l e R s m args below meth c H locs cells slots Q (F0 m 45 ls [.int v])) (kr5 : ∀ (v : Int32) (H : Heap) (locs : List Loc) (ls : Array Slot), gi v 0 0 → va_P (dC, dI) vwCl [(h0, .inr (12, fsMM mi mr)), ((mr 14), .inl (km_must, 25, .inl fm_must)), ((mr 15), .inl (km_least, 25, .inl fm_least)), ((mr 16), .inl (km_pin, 25, .inl fm_pin)), ((mr 4), .inl (km_struck, 24, .inl fm_struck)), ((mr 7), .inl (km_reportKnown, 24, .inl fm_reportKnown)), ((mr 5), .inl (km_reportMonth, 24, .inl fm_reportMonth)), ((mr 3), .inl (km_reportKind, 24, .inl fm_reportKind)), ((mr 6), .inl (km_reportDay, 24, .inl fm_reportDay)), ((mr 2), .inl (km_reportPlace, 24, .inl fm_reportPlace)), ((mr 0), .inl (km_trust, 6, .inl fm_trust))] H → va_S A s.heap H locs → lv_has ls 8 [] → W p l e R s m args below meth c H locs cells slots Q (F0 m 5 ls [.int v])) (kr181 : ∀ (v : Int32) (H : Heap) (locs : List Loc) (ls : Array Slot), va_P (dC, dI) vwCl [(h0, .inr (12, fsMM mi mr)), ((mr 14), .inl (km_must, 25, .inl fm_must)), ((mr 15), .inl (km_least, 25, .inl fm_least)), ((mr 16), .inl (km_pin, 25, .inl fm_pin)), ((mr 4), .inl (km_struck, 24, .inl fm_struck)), ((mr 7), .inl (km_reportKnown, 24, .inl fm_reportKnown)), ((mr 5), .inl (km_reportMonth, 24, .inl fm_reportMonth)), ((mr 3), .inl (km_reportKind, 24, .inl fm_reportKind)), ((mr 6), .inl (km_reportDay, 24, .inl fm_reportDay)), ((mr 2), .inl (km_reportPlace, 24, .inl fm_reportPlace)), ((mr 0), .inl (km_trust, 6, .inl fm_trust))] H → va_S A s.heap H locs → lv_has ls 8 [] → W p l e R s m args below meth c H locs cells slots Q (F0 m 181 ls [.int v])) : ∀ z : Nat, (∀ (v5 : Int32) (v6 : Int32) (H : Heap) (locs : List Loc) (ls : Array Slot), gi p1 1 24 → gi p4 0 0 → gi v6 0 24 → 49 + (-2) * v6.toInt < (z : Int) → va_P (dC, dI) vwCl [(h0, .inr (12, fsMM mi mr)), ((mr 14), .inl (km_must, 25, .inl fm_must)), ((mr 15), .inl (km_least, 25, .inl fm_least)), ((mr 16), .inl (km_pin, 25, .inl fm_pin)), ((mr 4), .inl (km_struck, 24, .inl fm_struck)), ((mr 7), .inl (km_reportKnown, 24, .inl fm_reportKnown)), ((mr 5), .inl (km_reportMonth, 24, .inl fm_reportMonth)), ((mr 3), .inl (km_reportKind, 24, .inl fm_reportKind)), ((mr 6), .inl (km_reportDay, 24, .inl fm_reportDay)), ((mr 2), .inl (km_reportPlace, 24, .inl fm_reportPlace)), ((mr 0), .inl (km_trust, 6, .inl fm_trust))] H → va_S A s.heap H locs → lv_has ls 8 [(0, .ref h0), (1, .int p1), (2, .int p2), (3, .int p3), (4, .int p4), (5, .int v5), (6, .int v6)] → W p l e R s m args below meth c H locs cells slots Q (F0 m 52 ls [])) := by
  intro z
  induction z with
  | zero =>
    intro v5 v6 H locs ls gf_p1 gf_p4 gv6 hmu hP hS hl
    exact absurd hmu (by have hv61 := gv6.1; have hv62 := gv6.2; omega)
  | succ z ih =>
      intro v5 v6 H locs ls gf_p1 gf_p4 gv6 hmu hP hS hl
      refine lv_iload hx hb dX12_costOf_52 (lv_at hl 6 rfl) ?_
      refine lv_aload_n hx hb dX12_costOf_54 rfl (lv_at hl 0 rfl) ?_
      refine va_get (D := (dC, dI)) (ci := 12) (v := .int (mi 10)) (C := RX12) (T := TX12) (N := 57) hx hb hts (fun w h => List.mem_cons_of_mem _ (jnGB_X12 w h)) hown hK hP 0 rfl rfl 10 (by decide) (hts _ (List.mem_cons_of_mem _ mGB_111)) (fun _ h9 => h9) rfl dX12_costOf_55 ?_
      refine lv_icmp_ge (tgt := 179) hx hb dX12_costOf_58 (by decide) (fun c_901 => ?_) (fun c_901 => ?_)
      · refine lv_iload hx hb dX12_costOf_179 (lv_at hl 5 rfl) ?_
        exact kr181 v5 _ _ _ hP hS (lv_sub hl [] rfl)
      · have g_902 : gi v6 0 23 := gi_lt_l (Int32.not_le.mp c_901) gv6 gmi_10 (by decide)
        have g_903 : gi (mi 10) 1 24 := gi_lt_r (Int32.not_le.mp c_901) gv6 gmi_10 (by decide)
        refine lv_aload_n hx hb dX12_costOf_61 rfl (lv_at hl 0 rfl) ?_
        refine va_get (D := (dC, dI)) (ci := 12) (v := .ref (mr 5)) (C := RX12) (T := TX12) (N := 57) hx hb hts (fun w h => List.mem_cons_of_mem _ (jnGB_X12 w h)) hown hK hP 0 rfl rfl 14 (by decide) (hts _ (List.mem_cons_of_mem _ mGB_16)) (fun _ h9 => h9) rfl dX12_costOf_62 ?_
        refine lv_iload hx hb dX12_costOf_65 (lv_at hl 6 rfl) ?_
        refine va_iald hx hb hK hP 6 5 rfl rfl (gi_in g_902 (by decide)) dX12_costOf_67 ?_
        refine lv_topi (fun x_904 ex_904 => ?_)
        have gx_904 : gi x_904 0 23 := ga_at gfm_reportMonth (gi_in g_902 (by decide)) ex_904
        refine lv_iload_n hx hb dX12_costOf_68 rfl (lv_at hl 1 rfl) ?_
        refine lv_icmp_ne (tgt := 173) hx hb dX12_costOf_69 (by decide) (fun c_905 => ?_) (fun c_905 => ?_)
        · obtain ⟨x_906, ex_906⟩ : ∃ y : Int32, y = v6 + 1 := ⟨_, rfl⟩
          have gx_906 : gi x_906 1 24 := gi_add ex_906 g_902 (gi_c 1 1 (by decide)) (by decide)
          refine lv_iinc (v := x_906) (lv' := [(6, .int x_906), (0, .ref h0), (1, .int p1), (2, .int p2), (3, .int p3), (4, .int p4), (5, .int v5)]) hx hb dX12_costOf_173 hl (k := 6) rfl (by rw [ex_906]; rfl) (by decide) rfl (fun ls hl => ?_)
          refine lv_goto (tgt := 52) hx hb dX12_costOf_176 (by decide) ?_
          exact ih v5 x_906 _ _ _ gf_p1 gf_p4 (gi_w gx_906 (by decide)) (by have av6 := gv6.1; have bv6 := gv6.2; have qgx_906 := gx_906.1; have rgx_906 := gx_906.2; have igx_906 : x_906.toInt = v6.toInt + 1 := (by have hc1 : (1 : Int32).toInt = 1 := (by decide); have h9 := gi_addI ex_906 (by have h1 := g_902.1; have h2 := (gi_c 1 1 (by decide)).1; have h3 := g_902.2; have h4 := (gi_c 1 1 (by decide)).2; omega) (by have h1 := g_902.1; have h2 := (gi_c 1 1 (by decide)).1; have h3 := g_902.2; have h4 := (gi_c 1 1 (by decide)).2; omega); rw [hc1] at h9; exact h9); have qgv6 := g_902.1; have rgv6 := g_902.2; omega) hP hS (lv_sub hl [1, 2, 3, 4, 5, 6, 0] rfl)
        · refine lv_aload_n hx hb dX12_costOf_72 rfl (lv_at hl 0 rfl) ?_
          refine lv_iload hx hb dX12_costOf_73 (lv_at hl 6 rfl) ?_
          refine lv_iload_n hx hb dX12_costOf_75 rfl (lv_at hl 3 rfl) ?_
          have hPc := hP.sub (ws' := [(h0, .inr (12, fsMM mi mr)), ((mr 4), .inl (km_struck, 24, .inl fm_struck)), ((mr 7), .inl (km_reportKnown, 24, .inl fm_reportKnown))]) [0, 4, 5] rfl
          have hKc := hK.sub (tys' := [(km_struck, .boolean), (km_reportKnown, .int)]) [3, 4] rfl
          refine va_calli (va_runV (As := [.int v6, .int p3]) (rest := []) ⟨hx, hb, hml, hown, hts⟩ (sX12_isKnown l dC dI h0 mi mr km_struck fm_struck km_reportKnown fm_reportKnown v6 p3 gmi_0 gmi_1 gmi_2 gmi_4 gmi_7 (gi_w g_903 (by decide)) gmi_17 gmi_23 gmi_24 gmi_26 gmi_29 gmi_30 gmi_33 gmi_37 gmi_41 gmi_50 gmi_51 gmi_56 gfm_struck gfm_reportKnown g_902) (cwV 2 hts (gz_gV mGB_279 mGB_280 mGB_281 mGB_1 mGB_282 goodGB) rfl rfl rfl (by decide +kernel) ⟨Nat.le_trans (Nat.le_of_ble_eq_true rfl) hRf, Nat.le_trans (Nat.le_of_ble_eq_true rfl) hRl⟩) ⟨fun a U g mk q => by obtain ⟨q0, qP, qK⟩ := q; exact ⟨q0, qP, va_K.moved (u := U) (U := U.calling g mk a) (Vm.Alike.refl U.vm) qK⟩, va_recv hKc hPc (ci := 12) (q0 := 0) rfl rfl, fun U hU hW => ⟨rfl, by rw [hU]; exact hPc, va_K.moved hW.alike hKc⟩⟩ rfl rfl hl.1 rfl (lv_room (Nat.le_of_ble_eq_true rfl)) dX12_costOf_76 ⟨hRc, hRs⟩) hS (fun q _ h => h.elim) (fun q h => h.elim) (fun r_907 u t H1 locs ht hvm hw hB hz1 hk1 hS => ?_)
          have hP := gz_keep hP hk1
          generalize H1 = H at hP hS ⊢
          have gr_907 : gi r_907 0 1 := hw
          refine lv_if_eq (tgt := 173) hx hb dX12_costOf_79 (by decide) (fun c_908 => ?_) (fun c_908 => ?_)
          · have g_909 : gi r_907 0 0 := gi_eq c_908 (gi_c 0 0 (by decide))
            obtain ⟨x_910, ex_910⟩ : ∃ y : Int32, y = v6 + 1 := ⟨_, rfl⟩
            have gx_910 : gi x_910 1 24 := gi_add ex_910 g_902 (gi_c 1 1 (by decide)) (by decide)
            refine lv_iinc (v := x_910) (lv' := [(6, .int x_910), (0, .ref h0), (1, .int p1), (2, .int p2), (3, .int p3), (4, .int p4), (5, .int v5)]) hx hb dX12_costOf_173 hl (k := 6) rfl (by rw [ex_910]; rfl) (by decide) rfl (fun ls hl => ?_)
            refine lv_goto (tgt := 52) hx hb dX12_costOf_176 (by decide) ?_
            exact ih v5 x_910 _ _ _ gf_p1 gf_p4 (gi_w gx_910 (by decide)) (by have av6 := gv6.1; have bv6 := gv6.2; have qgx_910 := gx_910.1; have rgx_910 := gx_910.2; have igx_910 : x_910.toInt = v6.toInt + 1 := (by have hc1 : (1 : Int32).toInt = 1 := (by decide); have h9 := gi_addI ex_910 (by have h1 := g_902.1; have h2 := (gi_c 1 1 (by decide)).1; have h3 := g_902.2; have h4 := (gi_c 1 1 (by decide)).2; omega) (by have h1 := g_902.1; have h2 := (gi_c 1 1 (by decide)).1; have h3 := g_902.2; have h4 := (gi_c 1 1 (by decide)).2; omega); rw [hc1] at h9; exact h9); have qgv6 := g_902.1; have rgv6 := g_902.2; omega) hP hS (lv_sub hl [1, 2, 3, 4, 5, 6, 0] rfl)
          · have g_911 : gi r_907 1 1 := gi_ne_lo c_908 gr_907 (gi_c 0 0 (by decide)) (by decide)
            refine lv_aload_n hx hb dX12_costOf_82 rfl (lv_at hl 0 rfl) ?_
            refine va_get (D := (dC, dI)) (ci := 12) (v := .ref (mr 3)) (C := RX12) (T := TX12) (N := 57) hx hb hts (fun w h => List.mem_cons_of_mem _ (jnGB_X12 w h)) hown hK hP 0 rfl rfl 12 (by decide) (hts _ (List.mem_cons_of_mem _ mGB_13)) (fun _ h9 => h9) rfl dX12_costOf_83 ?_
            refine lv_iload hx hb dX12_costOf_86 (lv_at hl 6 rfl) ?_
            refine va_iald hx hb hK hP 7 6 rfl rfl (gi_in g_902 (by decide)) dX12_costOf_88 ?_
            refine lv_topi (fun x_912 ex_912 => ?_)
            refine lv_iconst (v := 2) hx hb dX12_costOf_89 (by decide) ?_
            refine lv_icmp_ne (tgt := 96) hx hb dX12_costOf_90 (by decide) (fun c_913 => ?_) (fun c_913 => ?_)
            · refine lv_aload_n hx hb dX12_costOf_96 rfl (lv_at hl 0 rfl) ?_
              refine va_get (D := (dC, dI)) (ci := 12) (v := .ref (mr 3)) (C := RX12) (T := TX12) (N := 57) hx hb hts (fun w h => List.mem_cons_of_mem _ (jnGB_X12 w h)) hown hK hP 0 rfl rfl 12 (by decide) (hts _ (List.mem_cons_of_mem _ mGB_13)) (fun _ h9 => h9) rfl dX12_costOf_97 ?_
              refine lv_iload hx hb dX12_costOf_100 (lv_at hl 6 rfl) ?_
              refine va_iald hx hb hK hP 7 6 rfl rfl (gi_in g_902 (by decide)) dX12_costOf_102 ?_
              refine lv_topi (fun x_914 ex_914 => ?_)
              refine lv_if_ne (tgt := 127) hx hb dX12_costOf_103 (by decide) (fun c_915 => ?_) (fun c_915 => ?_)
              · refine lv_iload_n hx hb dX12_costOf_127 rfl (lv_at hl 2 rfl) ?_
                refine lv_aload_n hx hb dX12_costOf_128 rfl (lv_at hl 0 rfl) ?_
                refine va_get (D := (dC, dI)) (ci := 12) (v := .ref (mr 6)) (C := RX12) (T := TX12) (N := 57) hx hb hts (fun w h => List.mem_cons_of_mem _ (jnGB_X12 w h)) hown hK hP 0 rfl rfl 15 (by decide) (hts _ (List.mem_cons_of_mem _ mGB_17)) (fun _ h9 => h9) rfl dX12_costOf_129 ?_
                refine lv_iload hx hb dX12_costOf_132 (lv_at hl 6 rfl) ?_
                refine va_iald hx hb hK hP 8 7 rfl rfl (gi_in g_902 (by decide)) dX12_costOf_134 ?_
                refine lv_topi (fun x_916 ex_916 => ?_)
                have gx_916 : gi x_916 0 999 := ga_at gfm_reportDay (gi_in g_902 (by decide)) ex_916
                refine lv_iconst (v := 1) hx hb dX12_costOf_135 (by decide) ?_
                refine lv_iadd hx hb dX12_costOf_136 ?_
                refine lv_topi (fun x_917 ex_917 => ?_)
                have gx_917 : gi x_917 1 1000 := gi_add ex_917 gx_916 (gi_c 1 1 (by decide)) (by decide)
                refine lv_icmp_le (tgt := 144) hx hb dX12_costOf_137 (by decide) (fun c_918 => ?_) (fun c_918 => ?_)
                · have g_919 : gi p2 (-2147483648) 1000 := gi_le_l c_918 (gi_any p2) gx_917
                  refine lv_iconst (v := 0) hx hb dX12_costOf_144 (by decide) ?_
                  refine lv_istore (lv' := [(7, .int 0), (0, .ref h0), (1, .int p1), (2, .int p2), (3, .int p3), (4, .int p4), (5, .int v5), (6, .int v6)]) hx hb dX12_costOf_145 hl (by decide) rfl (fun ls hl => ?_)
                  refine lv_iload hx hb dX12_costOf_147 (lv_at hl 6 rfl) ?_
                  refine lv_iload hx hb dX12_costOf_149 (lv_at hl 0 rfl) ?_
                  refine lv_if_eq (tgt := 158) hx hb dX12_costOf_151 (by decide) (fun c_920 => ?_) (fun c_920 => absurd (gi_is_eq (gi_c 0 0 (by decide)) (gi_c 0 0 (by decide))) c_920)
                  refine lv_aload_n hx hb dX12_costOf_158 rfl (lv_at hl 1 rfl) ?_
                  refine va_get (D := (dC, dI)) (ci := 12) (v := .ref (mr 0)) (C := RX12) (T := TX12) (N := 57) hx hb hts (fun w h => List.mem_cons_of_mem _ (jnGB_X12 w h)) hown hK hP 0 rfl rfl 8 (by decide) (hts _ (List.mem_cons_of_mem _ mGB_10)) (fun _ h9 => h9) rfl dX12_costOf_159 ?_
                  refine lv_aload_n hx hb dX12_costOf_162 rfl (lv_at hl 1 rfl) ?_
                  refine va_get (D := (dC, dI)) (ci := 12) (v := .ref (mr 2)) (C := RX12) (T := TX12) (N := 57) hx hb hts (fun w h => List.mem_cons_of_mem _ (jnGB_X12 w h)) hown hK hP 0 rfl rfl 11 (by decide) (hts _ (List.mem_cons_of_mem _ mGB_12)) (fun _ h9 => h9) rfl dX12_costOf_163 ?_
                  refine lv_iload hx hb dX12_costOf_166 (lv_at hl 7 rfl) ?_
                  refine va_iald hx hb hK hP 9 8 rfl rfl (gi_in g_902 (by decide)) dX12_costOf_168 ?_
                  refine lv_topi (fun x_921 ex_921 => ?_)
                  have gx_921 : gi x_921 0 5 := ga_at gfm_reportPlace (gi_in g_902 (by decide)) ex_921
                  refine va_iald hx hb hK hP 10 9 rfl rfl (gi_in gx_921 (by decide)) dX12_costOf_169 ?_
                  refine lv_topi (fun x_922 ex_922 => ?_)
                  refine lv_iadd hx hb dX12_costOf_170 ?_
                  refine lv_topi (fun x_923 ex_923 => ?_)
                  refine lv_istore (lv' := [(5, .int x_923), (7, .int 0), (0, .ref h0), (1, .int p1), (2, .int p2), (3, .int p3), (4, .int p4), (6, .int v6)]) hx hb dX12_costOf_171 hl (by decide) rfl (fun ls hl => ?_)
                  obtain ⟨x_924, ex_924⟩ : ∃ y : Int32, y = v6 + 1 := ⟨_, rfl⟩
                  have gx_924 : gi x_924 1 24 := gi_add ex_924 g_902 (gi_c 1 1 (by decide)) (by decide)
                  refine lv_iinc (v := x_924) (lv' := [(6, .int x_924), (5, .int x_923), (7, .int 0), (0, .ref h0), (1, .int p1), (2, .int p2), (3, .int p3), (4, .int p4)]) hx hb dX12_costOf_173 hl (k := 7) rfl (by rw [ex_924]; rfl) (by decide) rfl (fun ls hl => ?_)
                  refine lv_goto (tgt := 52) hx hb dX12_costOf_176 (by decide) ?_
                  exact ih x_923 x_924 _ _ _ gf_p1 gf_p4 (gi_w gx_924 (by decide)) (by have av6 := gv6.1; have bv6 := gv6.2; have qgx_924 := gx_924.1; have rgx_924 := gx_924.2; have igx_924 : x_924.toInt = v6.toInt + 1 := (by have hc1 : (1 : Int32).toInt = 1 := (by decide); have h9 := gi_addI ex_924 (by have h1 := g_902.1; have h2 := (gi_c 1 1 (by decide)).1; have h3 := g_902.2; have h4 := (gi_c 1 1 (by decide)).2; omega) (by have h1 := g_902.1; have h2 := (gi_c 1 1 (by decide)).1; have h3 := g_902.2; have h4 := (gi_c 1 1 (by decide)).2; omega); rw [hc1] at h9; exact h9); have qgv6 := g_902.1; have rgv6 := g_902.2; omega) hP hS (lv_sub hl [3, 4, 5, 6, 7, 1, 0] rfl)
                · have g_925 : gi p2 2 2147483647 := gi_lt_r (Int32.not_le.mp c_918) gx_917 (gi_any p2) (by decide)
                  refine lv_iconst (v := 1) hx hb dX12_costOf_140 (by decide) ?_
                  refine lv_goto (tgt := 145) hx hb dX12_costOf_141 (by decide) ?_
                  refine lv_istore (lv' := [(7, .int 1), (0, .ref h0), (1, .int p1), (2, .int p2), (3, .int p3), (4, .int p4), (5, .int v5), (6, .int v6)]) hx hb dX12_costOf_145 hl (by decide) rfl (fun ls hl => ?_)
                  refine lv_iload hx hb dX12_costOf_147 (lv_at hl 6 rfl) ?_
                  refine lv_iload hx hb dX12_costOf_149 (lv_at hl 0 rfl) ?_
                  refine lv_if_eq (tgt := 158) hx hb dX12_costOf_151 (by decide) (fun c_926 => absurd c_926 (gi_no_eq (gi_c 1 1 (by decide)) (gi_c 0 0 (by decide)) (by decide))) (fun c_926 => ?_)
                  refine lv_iconst (v := 0) hx hb dX12_costOf_154 (by decide) ?_
                  refine lv_goto (tgt := 170) hx hb dX12_costOf_155 (by decide) ?_
                  refine lv_iadd hx hb dX12_costOf_170 ?_
                  refine lv_topi (fun x_927 ex_927 => ?_)
                  refine lv_istore (lv' := [(5, .int x_927), (7, .int 1), (0, .ref h0), (1, .int p1), (2, .int p2), (3, .int p3), (4, .int p4), (6, .int v6)]) hx hb dX12_costOf_171 hl (by decide) rfl (fun ls hl => ?_)
                  obtain ⟨x_928, ex_928⟩ : ∃ y : Int32, y = v6 + 1 := ⟨_, rfl⟩
                  have gx_928 : gi x_928 1 24 := gi_add ex_928 g_902 (gi_c 1 1 (by decide)) (by decide)
                  refine lv_iinc (v := x_928) (lv' := [(6, .int x_928), (5, .int x_927), (7, .int 1), (0, .ref h0), (1, .int p1), (2, .int p2), (3, .int p3), (4, .int p4)]) hx hb dX12_costOf_173 hl (k := 7) rfl (by rw [ex_928]; rfl) (by decide) rfl (fun ls hl => ?_)
                  refine lv_goto (tgt := 52) hx hb dX12_costOf_176 (by decide) ?_
                  exact ih x_927 x_928 _ _ _ gf_p1 gf_p4 (gi_w gx_928 (by decide)) (by have av6 := gv6.1; have bv6 := gv6.2; have qgx_928 := gx_928.1; have rgx_928 := gx_928.2; have igx_928 : x_928.toInt = v6.toInt + 1 := (by have hc1 : (1 : Int32).toInt = 1 := (by decide); have h9 := gi_addI ex_928 (by have h1 := g_902.1; have h2 := (gi_c 1 1 (by decide)).1; have h3 := g_902.2; have h4 := (gi_c 1 1 (by decide)).2; omega) (by have h1 := g_902.1; have h2 := (gi_c 1 1 (by decide)).1; have h3 := g_902.2; have h4 := (gi_c 1 1 (by decide)).2; omega); rw [hc1] at h9; exact h9); have qgv6 := g_902.1; have rgv6 := g_902.2; omega) hP hS (lv_sub hl [3, 4, 5, 6, 7, 1, 0] rfl)
              · have g_929 : gi x_914 0 0 := gi_eq c_915 (gi_c 0 0 (by decide))
                refine lv_iload_n hx hb dX12_costOf_106 rfl (lv_at hl 2 rfl) ?_
                refine lv_aload_n hx hb dX12_costOf_107 rfl (lv_at hl 0 rfl) ?_
                refine va_get (D := (dC, dI)) (ci := 12) (v := .ref (mr 6)) (C := RX12) (T := TX12) (N := 57) hx hb hts (fun w h => List.mem_cons_of_mem _ (jnGB_X12 w h)) hown hK hP 0 rfl rfl 15 (by decide) (hts _ (List.mem_cons_of_mem _ mGB_17)) (fun _ h9 => h9) rfl dX12_costOf_108 ?_
                refine lv_iload hx hb dX12_costOf_111 (lv_at hl 6 rfl) ?_
                refine va_iald hx hb hK hP 8 7 rfl rfl (gi_in g_902 (by decide)) dX12_costOf_113 ?_
                refine lv_topi (fun x_930 ex_930 => ?_)
                have gx_930 : gi x_930 0 999 := ga_at gfm_reportDay (gi_in g_902 (by decide)) ex_930
                refine lv_iconst (v := 1) hx hb dX12_costOf_114 (by decide) ?_
                refine lv_iadd hx hb dX12_costOf_115 ?_
                refine lv_topi (fun x_931 ex_931 => ?_)
                have gx_931 : gi x_931 1 1000 := gi_add ex_931 gx_930 (gi_c 1 1 (by decide)) (by decide)
                refine lv_icmp_ne (tgt := 123) hx hb dX12_costOf_116 (by decide) (fun c_932 => ?_) (fun c_932 => ?_)
                · refine lv_iconst (v := 0) hx hb dX12_costOf_123 (by decide) ?_
                  refine lv_goto (tgt := 145) hx hb dX12_costOf_124 (by decide) ?_
                  refine lv_istore (lv' := [(7, .int 0), (0, .ref h0), (1, .int p1), (2, .int p2), (3, .int p3), (4, .int p4), (5, .int v5), (6, .int v6)]) hx hb dX12_costOf_145 hl (by decide) rfl (fun ls hl => ?_)
                  refine lv_iload hx hb dX12_costOf_147 (lv_at hl 6 rfl) ?_
                  refine lv_iload hx hb dX12_costOf_149 (lv_at hl 0 rfl) ?_
                  refine lv_if_eq (tgt := 158) hx hb dX12_costOf_151 (by decide) (fun c_933 => ?_) (fun c_933 => absurd (gi_is_eq (gi_c 0 0 (by decide)) (gi_c 0 0 (by decide))) c_933)
                  refine lv_aload_n hx hb dX12_costOf_158 rfl (lv_at hl 1 rfl) ?_
                  refine va_get (D := (dC, dI)) (ci := 12) (v := .ref (mr 0)) (C := RX12) (T := TX12) (N := 57) hx hb hts (fun w h => List.mem_cons_of_mem _ (jnGB_X12 w h)) hown hK hP 0 rfl rfl 8 (by decide) (hts _ (List.mem_cons_of_mem _ mGB_10)) (fun _ h9 => h9) rfl dX12_costOf_159 ?_
                  refine lv_aload_n hx hb dX12_costOf_162 rfl (lv_at hl 1 rfl) ?_
                  refine va_get (D := (dC, dI)) (ci := 12) (v := .ref (mr 2)) (C := RX12) (T := TX12) (N := 57) hx hb hts (fun w h => List.mem_cons_of_mem _ (jnGB_X12 w h)) hown hK hP 0 rfl rfl 11 (by decide) (hts _ (List.mem_cons_of_mem _ mGB_12)) (fun _ h9 => h9) rfl dX12_costOf_163 ?_
                  refine lv_iload hx hb dX12_costOf_166 (lv_at hl 7 rfl) ?_
                  refine va_iald hx hb hK hP 9 8 rfl rfl (gi_in g_902 (by decide)) dX12_costOf_168 ?_
                  refine lv_topi (fun x_934 ex_934 => ?_)
                  have gx_934 : gi x_934 0 5 := ga_at gfm_reportPlace (gi_in g_902 (by decide)) ex_934
                  refine va_iald hx hb hK hP 10 9 rfl rfl (gi_in gx_934 (by decide)) dX12_costOf_169 ?_
                  refine lv_topi (fun x_935 ex_935 => ?_)
                  refine lv_iadd hx hb dX12_costOf_170 ?_
                  refine lv_topi (fun x_936 ex_936 => ?_)
                  refine lv_istore (lv' := [(5, .int x_936), (7, .int 0), (0, .ref h0), (1, .int p1), (2, .int p2), (3, .int p3), (4, .int p4), (6, .int v6)]) hx hb dX12_costOf_171 hl (by decide) rfl (fun ls hl => ?_)
                  obtain ⟨x_937, ex_937⟩ : ∃ y : Int32, y = v6 + 1 := ⟨_, rfl⟩
                  have gx_937 : gi x_937 1 24 := gi_add ex_937 g_902 (gi_c 1 1 (by decide)) (by decide)
                  refine lv_iinc (v := x_937) (lv' := [(6, .int x_937), (5, .int x_936), (7, .int 0), (0, .ref h0), (1, .int p1), (2, .int p2), (3, .int p3), (4, .int p4)]) hx hb dX12_costOf_173 hl (k := 7) rfl (by rw [ex_937]; rfl) (by decide) rfl (fun ls hl => ?_)
                  refine lv_goto (tgt := 52) hx hb dX12_costOf_176 (by decide) ?_
                  exact ih x_936 x_937 _ _ _ gf_p1 gf_p4 (gi_w gx_937 (by decide)) (by have av6 := gv6.1; have bv6 := gv6.2; have qgx_937 := gx_937.1; have rgx_937 := gx_937.2; have igx_937 : x_937.toInt = v6.toInt + 1 := (by have hc1 : (1 : Int32).toInt = 1 := (by decide); have h9 := gi_addI ex_937 (by have h1 := g_902.1; have h2 := (gi_c 1 1 (by decide)).1; have h3 := g_902.2; have h4 := (gi_c 1 1 (by decide)).2; omega) (by have h1 := g_902.1; have h2 := (gi_c 1 1 (by decide)).1; have h3 := g_902.2; have h4 := (gi_c 1 1 (by decide)).2; omega); rw [hc1] at h9; exact h9); have qgv6 := g_902.1; have rgv6 := g_902.2; omega) hP hS (lv_sub hl [3, 4, 5, 6, 7, 1, 0] rfl)
                · have g_938 : gi p2 1 1000 := gi_eq c_932 gx_931
                  refine lv_iconst (v := 1) hx hb dX12_costOf_119 (by decide) ?_
                  refine lv_goto (tgt := 145) hx hb dX12_costOf_120 (by decide) ?_
                  refine lv_istore (lv' := [(7, .int 1), (0, .ref h0), (1, .int p1), (2, .int p2), (3, .int p3), (4, .int p4), (5, .int v5), (6, .int v6)]) hx hb dX12_costOf_145 hl (by decide) rfl (fun ls hl => ?_)
                  refine lv_iload hx hb dX12_costOf_147 (lv_at hl 6 rfl) ?_
                  refine lv_iload hx hb dX12_costOf_149 (lv_at hl 0 rfl) ?_
                  refine lv_if_eq (tgt := 158) hx hb dX12_costOf_151 (by decide) (fun c_939 => absurd c_939 (gi_no_eq (gi_c 1 1 (by decide)) (gi_c 0 0 (by decide)) (by decide))) (fun c_939 => ?_)
                  refine lv_iconst (v := 0) hx hb dX12_costOf_154 (by decide) ?_
                  refine lv_goto (tgt := 170) hx hb dX12_costOf_155 (by decide) ?_
                  refine lv_iadd hx hb dX12_costOf_170 ?_
                  refine lv_topi (fun x_940 ex_940 => ?_)
                  refine lv_istore (lv' := [(5, .int x_940), (7, .int 1), (0, .ref h0), (1, .int p1), (2, .int p2), (3, .int p3), (4, .int p4), (6, .int v6)]) hx hb dX12_costOf_171 hl (by decide) rfl (fun ls hl => ?_)
                  obtain ⟨x_941, ex_941⟩ : ∃ y : Int32, y = v6 + 1 := ⟨_, rfl⟩
                  have gx_941 : gi x_941 1 24 := gi_add ex_941 g_902 (gi_c 1 1 (by decide)) (by decide)
                  refine lv_iinc (v := x_941) (lv' := [(6, .int x_941), (5, .int x_940), (7, .int 1), (0, .ref h0), (1, .int p1), (2, .int p2), (3, .int p3), (4, .int p4)]) hx hb dX12_costOf_173 hl (k := 7) rfl (by rw [ex_941]; rfl) (by decide) rfl (fun ls hl => ?_)
                  refine lv_goto (tgt := 52) hx hb dX12_costOf_176 (by decide) ?_
                  exact ih x_940 x_941 _ _ _ gf_p1 gf_p4 (gi_w gx_941 (by decide)) (by have av6 := gv6.1; have bv6 := gv6.2; have qgx_941 := gx_941.1; have rgx_941 := gx_941.2; have igx_941 : x_941.toInt = v6.toInt + 1 := (by have hc1 : (1 : Int32).toInt = 1 := (by decide); have h9 := gi_addI ex_941 (by have h1 := g_902.1; have h2 := (gi_c 1 1 (by decide)).1; have h3 := g_902.2; have h4 := (gi_c 1 1 (by decide)).2; omega) (by have h1 := g_902.1; have h2 := (gi_c 1 1 (by decide)).1; have h3 := g_902.2; have h4 := (gi_c 1 1 (by decide)).2; omega); rw [hc1] at h9; exact h9); have qgv6 := g_902.1; have rgv6 := g_902.2; omega) hP hS (lv_sub hl [3, 4, 5, 6, 7, 1, 0] rfl)
            · have g_942 : gi x_912 2 2 := gi_eq c_913 (gi_c 2 2 (by decide))
              refine lv_goto (tgt := 173) hx hb dX12_costOf_93 (by decide) ?_
              obtain ⟨x_943, ex_943⟩ : ∃ y : Int32, y = v6 + 1 := ⟨_, rfl⟩
              have gx_943 : gi x_943 1 24 := gi_add ex_943 g_902 (gi_c 1 1 (by decide)) (by decide)
              refine lv_iinc (v := x_943) (lv' := [(6, .int x_943), (0, .ref h0), (1, .int p1), (2, .int p2), (3, .int p3), (4, .int p4), (5, .int v5)]) hx hb dX12_costOf_173 hl (k := 6) rfl (by rw [ex_943]; rfl) (by decide) rfl (fun ls hl => ?_)
              refine lv_goto (tgt := 52) hx hb dX12_costOf_176 (by decide) ?_
              exact ih v5 x_943 _ _ _ gf_p1 gf_p4 (gi_w gx_943 (by decide)) (by have av6 := gv6.1; have bv6 := gv6.2; have qgx_943 := gx_943.1; have rgx_943 := gx_943.2; have igx_943 : x_943.toInt = v6.toInt + 1 := (by have hc1 : (1 : Int32).toInt = 1 := (by decide); have h9 := gi_addI ex_943 (by have h1 := g_902.1; have h2 := (gi_c 1 1 (by decide)).1; have h3 := g_902.2; have h4 := (gi_c 1 1 (by decide)).2; omega) (by have h1 := g_902.1; have h2 := (gi_c 1 1 (by decide)).1; have h3 := g_902.2; have h4 := (gi_c 1 1 (by decide)).2; omega); rw [hc1] at h9; exact h9); have qgv6 := g_902.1; have rgv6 := g_902.2; omega) hP hS (lv_sub hl [1, 2, 3, 4, 5, 6, 0] rfl)
set_option maxHeartbeats 4000000 in
set_option maxRecDepth 100000 in
theorem sX12_costOf (l : Launch) (dC : Nat → ClassId) (dI : Nat → Nat → Nat) (h0 : Nat) (mi : Nat → Int32) (mr : Nat → Nat) (km_must : ClassId) (fm_must : Nat → Int32) (km_least : ClassId) (fm_least : Nat → Int32) (km_pin : ClassId) (fm_pin : Nat → Int32) (km_struck : ClassId) (fm_struck : Nat → Int32) (km_reportKnown : ClassId) (fm_reportKnown : Nat → Int32) (km_reportMonth : ClassId) (fm_reportMonth : Nat → Int32) (km_reportKind : ClassId) (fm_reportKind : Nat → Int32) (km_reportDay : ClassId) (fm_reportDay : Nat → Int32) (km_reportPlace : ClassId) (fm_reportPlace : Nat → Int32) (km_trust : ClassId) (fm_trust : Nat → Int32) (p1 : Int32) (p2 : Int32) (p3 : Int32) (p4 : Int32) (gmi_0 : gi (mi 0) 0 24) (gmi_1 : gi (mi 1) 0 5) (gmi_2 : gi (mi 2) 0 5) (gmi_4 : gi (mi 4) 0 1) (gmi_7 : gi (mi 7) 0 6) (gmi_10 : gi (mi 10) 0 24) (gmi_17 : gi (mi 17) 0 8) (gmi_23 : gi (mi 23) 0 300) (gmi_24 : gi (mi 24) 0 1) (gmi_26 : gi (mi 26) 0 1600) (gmi_29 : gi (mi 29) 0 1600) (gmi_30 : gi (mi 30) 0 1600) (gmi_33 : gi (mi 33) 0 1) (gmi_37 : gi (mi 37) 0 1) (gmi_41 : gi (mi 41) 0 24) (gmi_50 : gi (mi 50) 0 1) (gmi_51 : gi (mi 51) 0 1) (gmi_56 : gi (mi 56) 0 80) (gfm_struck : ga fm_struck 24 0 1) (gfm_reportKnown : ga fm_reportKnown 24 0 999) (gfm_reportMonth : ga fm_reportMonth 24 0 23) (gfm_reportDay : ga fm_reportDay 24 0 999) (gfm_reportPlace : ga fm_reportPlace 24 0 5) (gp1 : gi p1 0 24) (gp4 : gi p4 0 1) : Met l yX12_costOf (.code yX12_costOf cX12_costOf 8 (some .int) :: wsGB) ({ frames := 1, cells := 0, slots := 0, locals := 22 }) (va_Pc [.ref h0, .int p1, .int p2, .int p3, .int p4] (fun U => va_P (dC, dI) vwCl [(h0, .inr (12, fsMM mi mr)), ((mr 14), .inl (km_must, 25, .inl fm_must)), ((mr 15), .inl (km_least, 25, .inl fm_least)), ((mr 16), .inl (km_pin, 25, .inl fm_pin)), ((mr 4), .inl (km_struck, 24, .inl fm_struck)), ((mr 7), .inl (km_reportKnown, 24, .inl fm_reportKnown)), ((mr 5), .inl (km_reportMonth, 24, .inl fm_reportMonth)), ((mr 3), .inl (km_reportKind, 24, .inl fm_reportKind)), ((mr 6), .inl (km_reportDay, 24, .inl fm_reportDay)), ((mr 2), .inl (km_reportPlace, 24, .inl fm_reportPlace)), ((mr 0), .inl (km_trust, 6, .inl fm_trust))] U.heap ∧ va_K (dC, dI) vwCl [(km_must, .int), (km_least, .int), (km_pin, .int), (km_struck, .boolean), (km_reportKnown, .int), (km_reportMonth, .int), (km_reportKind, .int), (km_reportDay, .int), (km_reportPlace, .int), (km_trust, .int)] U)) (va_Qi (fun (r : Int32) (u : Unit) => gi r (-2147483648) 2147483647) (fun _ _ => True) (fun _ => False)) 0 0 (fun _ => False) := by
  refine Met.ofW (cc := cX12_costOf) (maxL := 8) (ret := (some .int)) (by decide) rfl ?_
  intro p e s m args below meth c s₁ B hml hv
  obtain ⟨rfl, hP, hK⟩ := hv
  have hx := B.exec
  have hb := B.bytes
  have hr := B.returns
  have hts := atoms_spec (ws := (.code yX12_costOf cX12_costOf 8 (some .int) :: wsGB)) B.pre
  have hown : s.vm.findClass RX12 = some m.cls := findClass_of_methodNamed B.named
  have hlocks := B.notSynchronized
  have hS : va_S (fun _ => False) s.heap s.heap [] := va_S.rf
  have hl := lv_entry ([.ref h0, .int p1, .int p2, .int p3, .int p4]) (n := 8) (Nat.le_of_ble_eq_true rfl)
  rw [lg_entry_eq]
  generalize (lg_sl ([.ref h0, .int p1, .int p2, .int p3, .int p4]) ++ List.replicate (8 - (lg_sl ([.ref h0, .int p1, .int p2, .int p3, .int p4])).length) Slot.unset).toArray = ls at hl ⊢
  have hl : lv_has ls 8 [(0, .ref h0), (1, .int p1), (2, .int p2), (3, .int p3), (4, .int p4)] := hl
  refine lv_iload_n hx hb dX12_costOf_0 rfl (lv_at hl 1 rfl) ?_
  refine lv_if_ne (tgt := 6) hx hb dX12_costOf_1 (by decide) (fun c_944 => ?_) (fun c_944 => ?_)
  · have g_945 : gi p1 1 24 := gi_ne_lo c_944 gp1 (gi_c 0 0 (by decide)) (by decide)
    refine lv_iload hx hb dX12_costOf_6 (lv_at hl 4 rfl) ?_
    refine lv_if_eq (tgt := 46) hx hb dX12_costOf_8 (by decide) (fun c_946 => ?_) (fun c_946 => ?_)
    · have g_947 : gi p4 0 0 := gi_eq c_946 (gi_c 0 0 (by decide))
      refine lv_iconst (v := 0) hx hb dX12_costOf_46 (by decide) ?_
      refine lv_istore (lv' := [(5, .int 0), (0, .ref h0), (1, .int p1), (2, .int p2), (3, .int p3), (4, .int p4)]) hx hb dX12_costOf_47 hl (by decide) rfl (fun ls hl => ?_)
      refine lv_iconst (v := 0) hx hb dX12_costOf_49 (by decide) ?_
      refine lv_istore (lv' := [(6, .int 0), (5, .int 0), (0, .ref h0), (1, .int p1), (2, .int p2), (3, .int p3), (4, .int p4)]) hx hb dX12_costOf_50 hl (by decide) rfl (fun ls hl => ?_)
      refine (lp_sX12_costOf h0 mi mr km_must fm_must km_least fm_least km_pin fm_pin km_struck fm_struck km_reportKnown fm_reportKnown km_reportMonth fm_reportMonth km_reportKind fm_reportKind km_reportDay fm_reportDay km_reportPlace fm_reportPlace km_trust fm_trust p1 p2 p3 p4 gmi_0 gmi_1 gmi_2 gmi_4 gmi_7 gmi_10 gmi_17 gmi_23 gmi_24 gmi_26 gmi_29 gmi_30 gmi_33 gmi_37 gmi_41 gmi_50 gmi_51 gmi_56 gfm_struck gfm_reportKnown gfm_reportMonth gfm_reportDay gfm_reportPlace gp1 gp4 hx hb hml hown hts hK (Nat.le_of_ble_eq_true rfl) (Nat.le_of_ble_eq_true rfl) (Nat.zero_le _) (Nat.zero_le _) (fun v H locs ls hP hS hl => ?_) (fun v H locs ls gv hP hS hl => ?_) (fun v H locs ls hP hS hl => ?_) 62) 0 0 _ _ _ g_945 g_947 (gi_w (gi_c 0 0 (by decide)) (by decide)) (by have k0 : (0 : Int32).toInt = 0 := (by decide); omega) hP hS (lv_sub hl [2, 3, 4, 5, 6, 1, 0] rfl)
      · skip
        exact W.iret (v := v) hx hb hr (fun t ht hW => ⟨⟨v, (), rfl, (gi_any v), trivial⟩, hS.F ht⟩) hS.2.2 dX12_costOf_45
      · skip
        exact W.iret (v := v) hx hb hr (fun t ht hW => ⟨⟨v, (), rfl, (gi_any v), trivial⟩, hS.F ht⟩) hS.2.2 dX12_costOf_5
      · skip
        exact W.iret (v := v) hx hb hr (fun t ht hW => ⟨⟨v, (), rfl, (gi_any v), trivial⟩, hS.F ht⟩) hS.2.2 dX12_costOf_181
    · have g_948 : gi p4 1 1 := gi_ne_lo c_946 gp4 (gi_c 0 0 (by decide)) (by decide)
      refine lv_aload_n hx hb dX12_costOf_11 rfl (lv_at hl 0 rfl) ?_
      refine va_get (D := (dC, dI)) (ci := 12) (v := .int (mi 37)) (C := RX12) (T := TX12) (N := 57) hx hb hts (fun w h => List.mem_cons_of_mem _ (jnGB_X12 w h)) hown hK hP 0 rfl rfl 37 (by decide) (hts _ (List.mem_cons_of_mem _ mGB_270)) (fun _ h9 => h9) rfl dX12_costOf_12 ?_
      refine lv_if_ne (tgt := 27) hx hb dX12_costOf_15 (by decide) (fun c_949 => ?_) (fun c_949 => ?_)
      · have g_950 : gi (mi 37) 1 1 := gi_ne_lo c_949 gmi_37 (gi_c 0 0 (by decide)) (by decide)
        refine lv_ldcw (own := RX12) (v := 100000000) hx hb hown (hts _ (List.mem_cons_of_mem _ mGB_557)) dX12_costOf_27 ?_
        refine lv_goto (tgt := 45) hx hb dX12_costOf_30 (by decide) ?_
        exact W.iret (v := 100000000) hx hb hr (fun t ht hW => ⟨⟨100000000, (), rfl, (gi_any 100000000), trivial⟩, hS.F ht⟩) hS.2.2 dX12_costOf_45
      · have g_951 : gi (mi 37) 0 0 := gi_eq c_949 (gi_c 0 0 (by decide))
        refine lv_aload_n hx hb dX12_costOf_18 rfl (lv_at hl 0 rfl) ?_
        refine lv_iload_n hx hb dX12_costOf_19 rfl (lv_at hl 1 rfl) ?_
        refine lv_iload_n hx hb dX12_costOf_20 rfl (lv_at hl 2 rfl) ?_
        have hPc := hP.sub (ws' := [(h0, .inr (12, fsMM mi mr)), ((mr 14), .inl (km_must, 25, .inl fm_must)), ((mr 15), .inl (km_least, 25, .inl fm_least)), ((mr 16), .inl (km_pin, 25, .inl fm_pin))]) [0, 1, 2, 3] rfl
        have hKc := hK.sub (tys' := [(km_must, .int), (km_least, .int), (km_pin, .int)]) [0, 1, 2] rfl
        refine va_calli (va_runV (As := [.int p1, .int p2]) (rest := []) ⟨hx, hb, hml, hown, hts⟩ (sX12_isOpen l dC dI h0 mi mr km_must fm_must km_least fm_least km_pin fm_pin p1 p2 gmi_0 gmi_1 gmi_2 gmi_4 gmi_7 gmi_10 gmi_17 gmi_23 gmi_24 gmi_26 gmi_29 gmi_30 gmi_33 (gi_w g_951 (by decide)) gmi_41 gmi_50 gmi_51 gmi_56 (gi_w g_945 (by decide))) (cwV 2 hts (gz_gV mGB_303 mGB_304 mGB_305 mGB_1 mGB_306 goodGB) rfl rfl rfl (by decide +kernel) ⟨Nat.le_of_ble_eq_true rfl, Nat.le_of_ble_eq_true rfl⟩) ⟨fun a U g mk q => by obtain ⟨q0, qP, qK⟩ := q; exact ⟨q0, qP, va_K.moved (u := U) (U := U.calling g mk a) (Vm.Alike.refl U.vm) qK⟩, va_recv hKc hPc (ci := 12) (q0 := 0) rfl rfl, fun U hU hW => ⟨rfl, by rw [hU]; exact hPc, va_K.moved hW.alike hKc⟩⟩ rfl rfl hl.1 rfl (lv_room (Nat.le_of_ble_eq_true rfl)) dX12_costOf_21 ⟨Nat.zero_le _, Nat.zero_le _⟩) hS (fun q _ h => h.elim) (fun q h => h.elim) (fun r_952 u t H1 locs ht hvm hw hB hz1 hk1 hS => ?_)
        have hP := gz_keep hP hk1
        generalize H1 = H at hP hS ⊢
        have gr_952 : gi r_952 0 1 := hw
        refine lv_if_ne (tgt := 33) hx hb dX12_costOf_24 (by decide) (fun c_953 => ?_) (fun c_953 => ?_)
        · have g_954 : gi r_952 1 1 := gi_ne_lo c_953 gr_952 (gi_c 0 0 (by decide)) (by decide)
          refine lv_iload_n hx hb dX12_costOf_33 rfl (lv_at hl 2 rfl) ?_
          refine lv_aload_n hx hb dX12_costOf_34 rfl (lv_at hl 0 rfl) ?_
          refine lv_iload_n hx hb dX12_costOf_35 rfl (lv_at hl 1 rfl) ?_
          have hPc := hP.sub (ws' := [(h0, .inr (12, fsMM mi mr))]) [0] rfl
          have hKc := hK.sub (tys' := []) [] rfl
          refine va_calli (va_runV (As := [.int p1]) (rest := [.int p2]) ⟨hx, hb, hml, hown, hts⟩ (sX12_earlyOf l dC dI h0 mi mr p1 gmi_0 gmi_1 gmi_2 gmi_4 gmi_7 gmi_10 gmi_17 gmi_23 gmi_24 gmi_26 gmi_29 gmi_30 gmi_33 (gi_w g_951 (by decide)) gmi_41 gmi_50 gmi_51 gmi_56) (cwV 1 hts (gz_gV mGB_249 mGB_250 mGB_251 mGB_1 mGB_252 goodGB) rfl rfl rfl (by decide +kernel) ⟨Nat.le_of_ble_eq_true rfl, Nat.le_of_ble_eq_true rfl⟩) ⟨fun a U g mk q => by obtain ⟨q0, qP, qK⟩ := q; exact ⟨q0, qP, va_K.moved (u := U) (U := U.calling g mk a) (Vm.Alike.refl U.vm) qK⟩, va_recv hKc hPc (ci := 12) (q0 := 0) rfl rfl, fun U hU hW => ⟨rfl, by rw [hU]; exact hPc, va_K.moved hW.alike hKc⟩⟩ rfl rfl hl.1 rfl (lv_room (Nat.le_of_ble_eq_true rfl)) dX12_costOf_36 ⟨Nat.zero_le _, Nat.zero_le _⟩) hS (fun q _ h => h.elim) (fun q h => h.elim) (fun r_955 u t H1 locs ht hvm hw hB hz1 hk1 hS => ?_)
          have hP := gz_keep hP hk1
          generalize H1 = H at hP hS ⊢
          refine lv_isub hx hb dX12_costOf_39 ?_
          refine lv_topi (fun x_956 ex_956 => ?_)
          refine lv_iconst (v := 1) hx hb dX12_costOf_40 (by decide) ?_
          refine lv_isub hx hb dX12_costOf_41 ?_
          refine lv_topi (fun x_957 ex_957 => ?_)
          refine va_mabs (own := RX12) hx hb (by rw [hml]; exact hl.1.symm) hown (hts _ (List.mem_cons_of_mem _ mGB_562)) (hts _ (List.mem_cons_of_mem _ mGB_547)) (hts _ (List.mem_cons_of_mem _ mGB_98)) (hts _ (List.mem_cons_of_mem _ mGB_548)) (Nat.le_of_ble_eq_true rfl) (Nat.le_of_ble_eq_true rfl) (Nat.zero_le _) (Nat.zero_le _) dX12_costOf_42 ?_
          refine lv_topi (fun x_958 ex_958 => ?_)
          exact W.iret (v := x_958) hx hb hr (fun t ht hW => ⟨⟨x_958, (), rfl, (gi_any x_958), trivial⟩, hS.F ht⟩) hS.2.2 dX12_costOf_45
        · have g_959 : gi r_952 0 0 := gi_eq c_953 (gi_c 0 0 (by decide))
          refine lv_ldcw (own := RX12) (v := 100000000) hx hb hown (hts _ (List.mem_cons_of_mem _ mGB_557)) dX12_costOf_27 ?_
          refine lv_goto (tgt := 45) hx hb dX12_costOf_30 (by decide) ?_
          exact W.iret (v := 100000000) hx hb hr (fun t ht hW => ⟨⟨100000000, (), rfl, (gi_any 100000000), trivial⟩, hS.F ht⟩) hS.2.2 dX12_costOf_45
  · have g_960 : gi p1 0 0 := gi_eq c_944 (gi_c 0 0 (by decide))
    refine lv_iconst (v := 0) hx hb dX12_costOf_4 (by decide) ?_
    exact W.iret (v := 0) hx hb hr (fun t ht hW => ⟨⟨0, (), rfl, (gi_any 0), trivial⟩, hS.F ht⟩) hS.2.2 dX12_costOf_5
