theorem dX12_laysWorth_0 : decode cX12_laysWorth 0 = .ok (.aload_n 0, 1) := by decide +kernel
theorem dX12_laysWorth_1 : decode cX12_laysWorth 1 = .ok (.getfield 117, 3) := by decide +kernel
theorem dX12_laysWorth_4 : decode cX12_laysWorth 4 = .ok (.istore_n 3, 1) := by decide +kernel
theorem dX12_laysWorth_5 : decode cX12_laysWorth 5 = .ok (.iload_n 3, 1) := by decide +kernel
theorem dX12_laysWorth_6 : decode cX12_laysWorth 6 = .ok (.ifCond .lt 117, 3) := by decide +kernel
theorem dX12_laysWorth_9 : decode cX12_laysWorth 9 = .ok (.iconst 0, 1) := by decide +kernel
theorem dX12_laysWorth_10 : decode cX12_laysWorth 10 = .ok (.istore 4, 2) := by decide +kernel
theorem dX12_laysWorth_12 : decode cX12_laysWorth 12 = .ok (.iload 4, 2) := by decide +kernel
theorem dX12_laysWorth_14 : decode cX12_laysWorth 14 = .ok (.iload_n 3, 1) := by decide +kernel
theorem dX12_laysWorth_15 : decode cX12_laysWorth 15 = .ok (.if_icmp .gt 102, 3) := by decide +kernel
theorem dX12_laysWorth_18 : decode cX12_laysWorth 18 = .ok (.aload_n 0, 1) := by decide +kernel
theorem dX12_laysWorth_19 : decode cX12_laysWorth 19 = .ok (.iload_n 3, 1) := by decide +kernel
theorem dX12_laysWorth_20 : decode cX12_laysWorth 20 = .ok (.bipush 29, 2) := by decide +kernel
theorem dX12_laysWorth_22 : decode cX12_laysWorth 22 = .ok (.iload_n 3, 1) := by decide +kernel
theorem dX12_laysWorth_23 : decode cX12_laysWorth 23 = .ok (.imul, 1) := by decide +kernel
theorem dX12_laysWorth_24 : decode cX12_laysWorth 24 = .ok (.iload 4, 2) := by decide +kernel
theorem dX12_laysWorth_26 : decode cX12_laysWorth 26 = .ok (.iadd, 1) := by decide +kernel
theorem dX12_laysWorth_27 : decode cX12_laysWorth 27 = .ok (.iload_n 1, 1) := by decide +kernel
theorem dX12_laysWorth_28 : decode cX12_laysWorth 28 = .ok (.iload_n 2, 1) := by decide +kernel
theorem dX12_laysWorth_29 : decode cX12_laysWorth 29 = .ok (.invokevirtual 472, 3) := by decide +kernel
theorem dX12_laysWorth_32 : decode cX12_laysWorth 32 = .ok (.istore 5, 2) := by decide +kernel
theorem dX12_laysWorth_34 : decode cX12_laysWorth 34 = .ok (.iconst 0, 1) := by decide +kernel
theorem dX12_laysWorth_35 : decode cX12_laysWorth 35 = .ok (.istore 6, 2) := by decide +kernel
theorem dX12_laysWorth_37 : decode cX12_laysWorth 37 = .ok (.iload 6, 2) := by decide +kernel
theorem dX12_laysWorth_39 : decode cX12_laysWorth 39 = .ok (.bipush 10, 2) := by decide +kernel
theorem dX12_laysWorth_41 : decode cX12_laysWorth 41 = .ok (.if_icmp .gt 70, 3) := by decide +kernel
theorem dX12_laysWorth_44 : decode cX12_laysWorth 44 = .ok (.iload_n 3, 1) := by decide +kernel
theorem dX12_laysWorth_45 : decode cX12_laysWorth 45 = .ok (.aload_n 0, 1) := by decide +kernel
theorem dX12_laysWorth_46 : decode cX12_laysWorth 46 = .ok (.getfield 117, 3) := by decide +kernel
theorem dX12_laysWorth_49 : decode cX12_laysWorth 49 = .ok (.if_icmp .ne 7, 3) := by decide +kernel
theorem dX12_laysWorth_52 : decode cX12_laysWorth 52 = .ok (.iconst 0, 1) := by decide +kernel
theorem dX12_laysWorth_53 : decode cX12_laysWorth 53 = .ok (.goto 26, 3) := by decide +kernel
theorem dX12_laysWorth_56 : decode cX12_laysWorth 56 = .ok (.aload_n 0, 1) := by decide +kernel
theorem dX12_laysWorth_57 : decode cX12_laysWorth 57 = .ok (.iload_n 3, 1) := by decide +kernel
theorem dX12_laysWorth_58 : decode cX12_laysWorth 58 = .ok (.iload 4, 2) := by decide +kernel
theorem dX12_laysWorth_60 : decode cX12_laysWorth 60 = .ok (.iload 6, 2) := by decide +kernel
theorem dX12_laysWorth_62 : decode cX12_laysWorth 62 = .ok (.iconst 0, 1) := by decide +kernel
theorem dX12_laysWorth_63 : decode cX12_laysWorth 63 = .ok (.invokevirtual 476, 3) := by decide +kernel
theorem dX12_laysWorth_66 : decode cX12_laysWorth 66 = .ok (.aload_n 0, 1) := by decide +kernel
theorem dX12_laysWorth_67 : decode cX12_laysWorth 67 = .ok (.iload_n 3, 1) := by decide +kernel
theorem dX12_laysWorth_68 : decode cX12_laysWorth 68 = .ok (.iload 4, 2) := by decide +kernel
theorem dX12_laysWorth_70 : decode cX12_laysWorth 70 = .ok (.iload 6, 2) := by decide +kernel
theorem dX12_laysWorth_72 : decode cX12_laysWorth 72 = .ok (.iconst 1, 1) := by decide +kernel
theorem dX12_laysWorth_73 : decode cX12_laysWorth 73 = .ok (.invokevirtual 476, 3) := by decide +kernel
theorem dX12_laysWorth_76 : decode cX12_laysWorth 76 = .ok (.invokestatic 168, 3) := by decide +kernel
theorem dX12_laysWorth_79 : decode cX12_laysWorth 79 = .ok (.istore 7, 2) := by decide +kernel
theorem dX12_laysWorth_81 : decode cX12_laysWorth 81 = .ok (.aload_n 0, 1) := by decide +kernel
theorem dX12_laysWorth_82 : decode cX12_laysWorth 82 = .ok (.getfield 93, 3) := by decide +kernel
theorem dX12_laysWorth_85 : decode cX12_laysWorth 85 = .ok (.iload_n 3, 1) := by decide +kernel
theorem dX12_laysWorth_86 : decode cX12_laysWorth 86 = .ok (.iload 4, 2) := by decide +kernel
theorem dX12_laysWorth_88 : decode cX12_laysWorth 88 = .ok (.iload 6, 2) := by decide +kernel
theorem dX12_laysWorth_90 : decode cX12_laysWorth 90 = .ok (.invokestatic 321, 3) := by decide +kernel
theorem dX12_laysWorth_93 : decode cX12_laysWorth 93 = .ok (.ldc_w 468, 3) := by decide +kernel
theorem dX12_laysWorth_96 : decode cX12_laysWorth 96 = .ok (.iload 5, 2) := by decide +kernel
theorem dX12_laysWorth_98 : decode cX12_laysWorth 98 = .ok (.iload 7, 2) := by decide +kernel
theorem dX12_laysWorth_100 : decode cX12_laysWorth 100 = .ok (.iadd, 1) := by decide +kernel
theorem dX12_laysWorth_101 : decode cX12_laysWorth 101 = .ok (.invokestatic 168, 3) := by decide +kernel
theorem dX12_laysWorth_104 : decode cX12_laysWorth 104 = .ok (.iastore, 1) := by decide +kernel
theorem dX12_laysWorth_105 : decode cX12_laysWorth 105 = .ok (.iinc 6 1, 3) := by decide +kernel
theorem dX12_laysWorth_108 : decode cX12_laysWorth 108 = .ok (.goto (-71), 3) := by decide +kernel
theorem dX12_laysWorth_111 : decode cX12_laysWorth 111 = .ok (.iinc 4 1, 3) := by decide +kernel
theorem dX12_laysWorth_114 : decode cX12_laysWorth 114 = .ok (.goto (-102), 3) := by decide +kernel
theorem dX12_laysWorth_117 : decode cX12_laysWorth 117 = .ok (.iinc 3 (-1), 3) := by decide +kernel
theorem dX12_laysWorth_120 : decode cX12_laysWorth 120 = .ok (.goto (-115), 3) := by decide +kernel
theorem dX12_laysWorth_123 : decode cX12_laysWorth 123 = .ok (.aload_n 0, 1) := by decide +kernel
theorem dX12_laysWorth_124 : decode cX12_laysWorth 124 = .ok (.iconst 0, 1) := by decide +kernel
theorem dX12_laysWorth_125 : decode cX12_laysWorth 125 = .ok (.putfield 479, 3) := by decide +kernel
theorem dX12_laysWorth_128 : decode cX12_laysWorth 128 = .ok (.iconst 0, 1) := by decide +kernel
theorem dX12_laysWorth_129 : decode cX12_laysWorth 129 = .ok (.istore_n 3, 1) := by decide +kernel
theorem dX12_laysWorth_130 : decode cX12_laysWorth 130 = .ok (.iconst 0, 1) := by decide +kernel
theorem dX12_laysWorth_131 : decode cX12_laysWorth 131 = .ok (.istore 4, 2) := by decide +kernel
theorem dX12_laysWorth_133 : decode cX12_laysWorth 133 = .ok (.iconst 0, 1) := by decide +kernel
theorem dX12_laysWorth_134 : decode cX12_laysWorth 134 = .ok (.istore 5, 2) := by decide +kernel
theorem dX12_laysWorth_136 : decode cX12_laysWorth 136 = .ok (.iload 5, 2) := by decide +kernel
theorem dX12_laysWorth_138 : decode cX12_laysWorth 138 = .ok (.aload_n 0, 1) := by decide +kernel
theorem dX12_laysWorth_139 : decode cX12_laysWorth 139 = .ok (.getfield 117, 3) := by decide +kernel
theorem dX12_laysWorth_142 : decode cX12_laysWorth 142 = .ok (.if_icmp .ge 68, 3) := by decide +kernel
theorem dX12_laysWorth_145 : decode cX12_laysWorth 145 = .ok (.aload_n 0, 1) := by decide +kernel
theorem dX12_laysWorth_146 : decode cX12_laysWorth 146 = .ok (.iload 5, 2) := by decide +kernel
theorem dX12_laysWorth_148 : decode cX12_laysWorth 148 = .ok (.iload_n 3, 1) := by decide +kernel
theorem dX12_laysWorth_149 : decode cX12_laysWorth 149 = .ok (.iload 4, 2) := by decide +kernel
theorem dX12_laysWorth_151 : decode cX12_laysWorth 151 = .ok (.iconst 0, 1) := by decide +kernel
theorem dX12_laysWorth_152 : decode cX12_laysWorth 152 = .ok (.invokevirtual 476, 3) := by decide +kernel
theorem dX12_laysWorth_155 : decode cX12_laysWorth 155 = .ok (.aload_n 0, 1) := by decide +kernel
theorem dX12_laysWorth_156 : decode cX12_laysWorth 156 = .ok (.iload 5, 2) := by decide +kernel
theorem dX12_laysWorth_158 : decode cX12_laysWorth 158 = .ok (.iload_n 3, 1) := by decide +kernel
theorem dX12_laysWorth_159 : decode cX12_laysWorth 159 = .ok (.iload 4, 2) := by decide +kernel
theorem dX12_laysWorth_161 : decode cX12_laysWorth 161 = .ok (.iconst 1, 1) := by decide +kernel
theorem dX12_laysWorth_162 : decode cX12_laysWorth 162 = .ok (.invokevirtual 476, 3) := by decide +kernel
theorem dX12_laysWorth_165 : decode cX12_laysWorth 165 = .ok (.if_icmp .gt 7, 3) := by decide +kernel
theorem dX12_laysWorth_168 : decode cX12_laysWorth 168 = .ok (.iconst 0, 1) := by decide +kernel
theorem dX12_laysWorth_169 : decode cX12_laysWorth 169 = .ok (.goto 4, 3) := by decide +kernel
theorem dX12_laysWorth_172 : decode cX12_laysWorth 172 = .ok (.iconst 1, 1) := by decide +kernel
theorem dX12_laysWorth_173 : decode cX12_laysWorth 173 = .ok (.istore 6, 2) := by decide +kernel
theorem dX12_laysWorth_175 : decode cX12_laysWorth 175 = .ok (.aload_n 0, 1) := by decide +kernel
theorem dX12_laysWorth_176 : decode cX12_laysWorth 176 = .ok (.iload 4, 2) := by decide +kernel
theorem dX12_laysWorth_178 : decode cX12_laysWorth 178 = .ok (.iload 6, 2) := by decide +kernel
theorem dX12_laysWorth_180 : decode cX12_laysWorth 180 = .ok (.invokevirtual 318, 3) := by decide +kernel
theorem dX12_laysWorth_183 : decode cX12_laysWorth 183 = .ok (.istore 4, 2) := by decide +kernel
theorem dX12_laysWorth_185 : decode cX12_laysWorth 185 = .ok (.iload_n 3, 1) := by decide +kernel
theorem dX12_laysWorth_186 : decode cX12_laysWorth 186 = .ok (.iload 6, 2) := by decide +kernel
theorem dX12_laysWorth_188 : decode cX12_laysWorth 188 = .ok (.iadd, 1) := by decide +kernel
theorem dX12_laysWorth_189 : decode cX12_laysWorth 189 = .ok (.istore_n 3, 1) := by decide +kernel
theorem dX12_laysWorth_190 : decode cX12_laysWorth 190 = .ok (.aload_n 0, 1) := by decide +kernel
theorem dX12_laysWorth_191 : decode cX12_laysWorth 191 = .ok (.dup, 1) := by decide +kernel
theorem dX12_laysWorth_192 : decode cX12_laysWorth 192 = .ok (.getfield 479, 3) := by decide +kernel
theorem dX12_laysWorth_195 : decode cX12_laysWorth 195 = .ok (.iload 6, 2) := by decide +kernel
theorem dX12_laysWorth_197 : decode cX12_laysWorth 197 = .ok (.iload 5, 2) := by decide +kernel
theorem dX12_laysWorth_199 : decode cX12_laysWorth 199 = .ok (.ishl, 1) := by decide +kernel
theorem dX12_laysWorth_200 : decode cX12_laysWorth 200 = .ok (.ior, 1) := by decide +kernel
theorem dX12_laysWorth_201 : decode cX12_laysWorth 201 = .ok (.putfield 479, 3) := by decide +kernel
theorem dX12_laysWorth_204 : decode cX12_laysWorth 204 = .ok (.iinc 5 1, 3) := by decide +kernel
theorem dX12_laysWorth_207 : decode cX12_laysWorth 207 = .ok (.goto (-71), 3) := by decide +kernel
theorem dX12_laysWorth_210 : decode cX12_laysWorth 210 = .ok (.aload_n 0, 1) := by decide +kernel
theorem dX12_laysWorth_211 : decode cX12_laysWorth 211 = .ok (.getfield 93, 3) := by decide +kernel
theorem dX12_laysWorth_214 : decode cX12_laysWorth 214 = .ok (.iconst 0, 1) := by decide +kernel
theorem dX12_laysWorth_215 : decode cX12_laysWorth 215 = .ok (.iaload, 1) := by decide +kernel
theorem dX12_laysWorth_216 : decode cX12_laysWorth 216 = .ok (.ireturn, 1) := by decide +kernel
set_option maxHeartbeats 4000000 in
set_option maxRecDepth 100000 in
theorem lp_sX12_laysWorth {p : Program} {l : Launch} {e : Env} {R : Room} {s : State} {m : MethodId} {args : Array Value} {below : List Frame} {meth : Method} {c : Code} {Q : State → Prop} {A : Nat → Prop} {cells slots : Nat} {dC : Nat → ClassId} {dI : Nat → Nat → Nat} (h0 : Nat) (mi : Nat → Int32) (mr : Nat → Nat) (km_worth : ClassId) (fm_worth : Nat → Int32) (km_must : ClassId) (fm_must : Nat → Int32) (km_least : ClassId) (fm_least : Nat → Int32) (km_pin : ClassId) (fm_pin : Nat → Int32) (km_struck : ClassId) (fm_struck : Nat → Int32) (km_reportKnown : ClassId) (fm_reportKnown : Nat → Int32) (km_reportMonth : ClassId) (fm_reportMonth : Nat → Int32) (km_reportKind : ClassId) (fm_reportKind : Nat → Int32) (km_reportDay : ClassId) (fm_reportDay : Nat → Int32) (km_reportPlace : ClassId) (fm_reportPlace : Nat → Int32) (km_trust : ClassId) (fm_trust : Nat → Int32) (p1 : Int32) (p2 : Int32) (gmi_0 : gi (mi 0) 0 24) (gmi_1 : gi (mi 1) 0 5) (gmi_2 : gi (mi 2) 0 5) (gmi_4 : gi (mi 4) 0 1) (gmi_7 : gi (mi 7) 0 6) (gmi_10 : gi (mi 10) 0 24) (gmi_17 : gi (mi 17) 0 8) (gmi_23 : gi (mi 23) 0 300) (gmi_24 : gi (mi 24) 0 1) (gmi_26 : gi (mi 26) 0 1600) (gmi_29 : gi (mi 29) 0 1600) (gmi_30 : gi (mi 30) 0 1600) (gmi_33 : gi (mi 33) 0 1) (gmi_37 : gi (mi 37) 0 1) (gmi_41 : gi (mi 41) 0 24) (gmi_50 : gi (mi 50) 0 1) (gmi_51 : gi (mi 51) 0 1) (gmi_56 : gi (mi 56) 0 80) (gfm_struck : ga fm_struck 24 0 1) (gfm_reportKnown : ga fm_reportKnown 24 0 999) (gfm_reportMonth : ga fm_reportMonth 24 0 23) (gfm_reportDay : ga fm_reportDay 24 0 999) (gfm_reportPlace : ga fm_reportPlace 24 0 5) (gp2 : gi p2 0 1) (hx : p.tables.exec = Jvm.exec) (hb : c.code = cX12_laysWorth) (hml : c.maxLocals = 8) (hown : s.vm.findClass RX12 = some m.cls) (hts : ∀ w ∈ ((.code yX12_laysWorth cX12_laysWorth 8 (some .int) :: wsGB) : List Cond), w.before args s = true) (hK : va_K (dC, dI) vwCl [(km_worth, .int), (km_must, .int), (km_least, .int), (km_pin, .int), (km_struck, .boolean), (km_reportKnown, .int), (km_reportMonth, .int), (km_reportKind, .int), (km_reportDay, .int), (km_reportPlace, .int), (km_trust, .int)] s) (hA : ∀ q : Nat, s.heap.size ≤ q → A q) (hRf : 2 ≤ R.frames) (hRl : 49 ≤ R.locals) (hRc : cells ≤ R.cells) (hRs : slots ≤ R.slots) (kr216 : ∀ (v : Int32) (w0_54 : Int32) (z1 : Nat → Int32) (H : Heap) (locs : List Loc) (ls : Array Slot), va_P (dC, dI) vwCl [(h0, .inr (12, fsMM (upd mi 54 w0_54) mr)), ((mr 22), .inl (km_worth, 6875, .inl z1)), ((mr 14), .inl (km_must, 25, .inl fm_must)), ((mr 15), .inl (km_least, 25, .inl fm_least)), ((mr 16), .inl (km_pin, 25, .inl fm_pin)), ((mr 4), .inl (km_struck, 24, .inl fm_struck)), ((mr 7), .inl (km_reportKnown, 24, .inl fm_reportKnown)), ((mr 5), .inl (km_reportMonth, 24, .inl fm_reportMonth)), ((mr 3), .inl (km_reportKind, 24, .inl fm_reportKind)), ((mr 6), .inl (km_reportDay, 24, .inl fm_reportDay)), ((mr 2), .inl (km_reportPlace, 24, .inl fm_reportPlace)), ((mr 0), .inl (km_trust, 6, .inl fm_trust))] H → va_D A [(h0, .inr (12, fsMM (upd mi 54 w0_54) mr)), ((mr 22), .inl (km_worth, 6875, .inl z1)), ((mr 14), .inl (km_must, 25, .inl fm_must)), ((mr 15), .inl (km_least, 25, .inl fm_least)), ((mr 16), .inl (km_pin, 25, .inl fm_pin)), ((mr 4), .inl (km_struck, 24, .inl fm_struck)), ((mr 7), .inl (km_reportKnown, 24, .inl fm_reportKnown)), ((mr 5), .inl (km_reportMonth, 24, .inl fm_reportMonth)), ((mr 3), .inl (km_reportKind, 24, .inl fm_reportKind)), ((mr 6), .inl (km_reportDay, 24, .inl fm_reportDay)), ((mr 2), .inl (km_reportPlace, 24, .inl fm_reportPlace)), ((mr 0), .inl (km_trust, 6, .inl fm_trust))] → va_S A s.heap H locs → lv_has ls 8 [] → W p l e R s m args below meth c H locs cells slots Q (F0 m 216 ls [.int v])) : ∀ z : Nat, (∀ (v3 : Int32) (z1 : Nat → Int32) (H : Heap) (locs : List Loc) (ls : Array Slot), gi v3 (-1) 24 → v3.toInt ≤ (mi 0).toInt → 811 + 758 * v3.toInt < (z : Int) → va_P (dC, dI) vwCl [(h0, .inr (12, fsMM mi mr)), ((mr 22), .inl (km_worth, 6875, .inl z1)), ((mr 14), .inl (km_must, 25, .inl fm_must)), ((mr 15), .inl (km_least, 25, .inl fm_least)), ((mr 16), .inl (km_pin, 25, .inl fm_pin)), ((mr 4), .inl (km_struck, 24, .inl fm_struck)), ((mr 7), .inl (km_reportKnown, 24, .inl fm_reportKnown)), ((mr 5), .inl (km_reportMonth, 24, .inl fm_reportMonth)), ((mr 3), .inl (km_reportKind, 24, .inl fm_reportKind)), ((mr 6), .inl (km_reportDay, 24, .inl fm_reportDay)), ((mr 2), .inl (km_reportPlace, 24, .inl fm_reportPlace)), ((mr 0), .inl (km_trust, 6, .inl fm_trust))] H → va_D A [(h0, .inr (12, fsMM mi mr)), ((mr 22), .inl (km_worth, 6875, .inl z1)), ((mr 14), .inl (km_must, 25, .inl fm_must)), ((mr 15), .inl (km_least, 25, .inl fm_least)), ((mr 16), .inl (km_pin, 25, .inl fm_pin)), ((mr 4), .inl (km_struck, 24, .inl fm_struck)), ((mr 7), .inl (km_reportKnown, 24, .inl fm_reportKnown)), ((mr 5), .inl (km_reportMonth, 24, .inl fm_reportMonth)), ((mr 3), .inl (km_reportKind, 24, .inl fm_reportKind)), ((mr 6), .inl (km_reportDay, 24, .inl fm_reportDay)), ((mr 2), .inl (km_reportPlace, 24, .inl fm_reportPlace)), ((mr 0), .inl (km_trust, 6, .inl fm_trust))] → va_S A s.heap H locs → lv_has ls 8 [(0, .ref h0), (1, .int p1), (2, .int p2), (3, .int v3)] → W p l e R s m args below meth c H locs cells slots Q (F0 m 5 ls [])) ∧ (∀ (v3 : Int32) (v4 : Int32) (z1 : Nat → Int32) (H : Heap) (locs : List Loc) (ls : Array Slot), gi v3 0 24 → gi v4 0 25 → v3.toInt ≤ (mi 0).toInt → 754 + 758 * v3.toInt + (-28) * v4.toInt < (z : Int) → va_P (dC, dI) vwCl [(h0, .inr (12, fsMM mi mr)), ((mr 22), .inl (km_worth, 6875, .inl z1)), ((mr 14), .inl (km_must, 25, .inl fm_must)), ((mr 15), .inl (km_least, 25, .inl fm_least)), ((mr 16), .inl (km_pin, 25, .inl fm_pin)), ((mr 4), .inl (km_struck, 24, .inl fm_struck)), ((mr 7), .inl (km_reportKnown, 24, .inl fm_reportKnown)), ((mr 5), .inl (km_reportMonth, 24, .inl fm_reportMonth)), ((mr 3), .inl (km_reportKind, 24, .inl fm_reportKind)), ((mr 6), .inl (km_reportDay, 24, .inl fm_reportDay)), ((mr 2), .inl (km_reportPlace, 24, .inl fm_reportPlace)), ((mr 0), .inl (km_trust, 6, .inl fm_trust))] H → va_D A [(h0, .inr (12, fsMM mi mr)), ((mr 22), .inl (km_worth, 6875, .inl z1)), ((mr 14), .inl (km_must, 25, .inl fm_must)), ((mr 15), .inl (km_least, 25, .inl fm_least)), ((mr 16), .inl (km_pin, 25, .inl fm_pin)), ((mr 4), .inl (km_struck, 24, .inl fm_struck)), ((mr 7), .inl (km_reportKnown, 24, .inl fm_reportKnown)), ((mr 5), .inl (km_reportMonth, 24, .inl fm_reportMonth)), ((mr 3), .inl (km_reportKind, 24, .inl fm_reportKind)), ((mr 6), .inl (km_reportDay, 24, .inl fm_reportDay)), ((mr 2), .inl (km_reportPlace, 24, .inl fm_reportPlace)), ((mr 0), .inl (km_trust, 6, .inl fm_trust))] → va_S A s.heap H locs → lv_has ls 8 [(0, .ref h0), (1, .int p1), (2, .int p2), (3, .int v3), (4, .int v4)] → W p l e R s m args below meth c H locs cells slots Q (F0 m 12 ls [])) ∧ (∀ (v3 : Int32) (v4 : Int32) (v5 : Int32) (v6 : Int32) (z1 : Nat → Int32) (H : Heap) (locs : List Loc) (ls : Array Slot), gi v3 0 24 → gi v4 0 24 → gi v6 0 11 → v3.toInt ≤ (mi 0).toInt → v4.toInt ≤ v3.toInt → 749 + 758 * v3.toInt + (-28) * v4.toInt + (-2) * v6.toInt < (z : Int) → va_P (dC, dI) vwCl [(h0, .inr (12, fsMM mi mr)), ((mr 22), .inl (km_worth, 6875, .inl z1)), ((mr 14), .inl (km_must, 25, .inl fm_must)), ((mr 15), .inl (km_least, 25, .inl fm_least)), ((mr 16), .inl (km_pin, 25, .inl fm_pin)), ((mr 4), .inl (km_struck, 24, .inl fm_struck)), ((mr 7), .inl (km_reportKnown, 24, .inl fm_reportKnown)), ((mr 5), .inl (km_reportMonth, 24, .inl fm_reportMonth)), ((mr 3), .inl (km_reportKind, 24, .inl fm_reportKind)), ((mr 6), .inl (km_reportDay, 24, .inl fm_reportDay)), ((mr 2), .inl (km_reportPlace, 24, .inl fm_reportPlace)), ((mr 0), .inl (km_trust, 6, .inl fm_trust))] H → va_D A [(h0, .inr (12, fsMM mi mr)), ((mr 22), .inl (km_worth, 6875, .inl z1)), ((mr 14), .inl (km_must, 25, .inl fm_must)), ((mr 15), .inl (km_least, 25, .inl fm_least)), ((mr 16), .inl (km_pin, 25, .inl fm_pin)), ((mr 4), .inl (km_struck, 24, .inl fm_struck)), ((mr 7), .inl (km_reportKnown, 24, .inl fm_reportKnown)), ((mr 5), .inl (km_reportMonth, 24, .inl fm_reportMonth)), ((mr 3), .inl (km_reportKind, 24, .inl fm_reportKind)), ((mr 6), .inl (km_reportDay, 24, .inl fm_reportDay)), ((mr 2), .inl (km_reportPlace, 24, .inl fm_reportPlace)), ((mr 0), .inl (km_trust, 6, .inl fm_trust))] → va_S A s.heap H locs → lv_has ls 8 [(0, .ref h0), (1, .int p1), (2, .int p2), (3, .int v3), (4, .int v4), (5, .int v5), (6, .int v6)] → W p l e R s m args below meth c H locs cells slots Q (F0 m 37 ls [])) ∧ (∀ (v3 : Int32) (v4 : Int32) (v5 : Int32) (w0_54 : Int32) (z1 : Nat → Int32) (H : Heap) (locs : List Loc) (ls : Array Slot), gi v3 0 24 → gi v4 (-1) 10 → gi v5 0 24 → v3.toInt ≤ v5.toInt → 49 + (-2) * v5.toInt < (z : Int) → va_P (dC, dI) vwCl [(h0, .inr (12, fsMM (upd mi 54 w0_54) mr)), ((mr 22), .inl (km_worth, 6875, .inl z1)), ((mr 14), .inl (km_must, 25, .inl fm_must)), ((mr 15), .inl (km_least, 25, .inl fm_least)), ((mr 16), .inl (km_pin, 25, .inl fm_pin)), ((mr 4), .inl (km_struck, 24, .inl fm_struck)), ((mr 7), .inl (km_reportKnown, 24, .inl fm_reportKnown)), ((mr 5), .inl (km_reportMonth, 24, .inl fm_reportMonth)), ((mr 3), .inl (km_reportKind, 24, .inl fm_reportKind)), ((mr 6), .inl (km_reportDay, 24, .inl fm_reportDay)), ((mr 2), .inl (km_reportPlace, 24, .inl fm_reportPlace)), ((mr 0), .inl (km_trust, 6, .inl fm_trust))] H → va_D A [(h0, .inr (12, fsMM (upd mi 54 w0_54) mr)), ((mr 22), .inl (km_worth, 6875, .inl z1)), ((mr 14), .inl (km_must, 25, .inl fm_must)), ((mr 15), .inl (km_least, 25, .inl fm_least)), ((mr 16), .inl (km_pin, 25, .inl fm_pin)), ((mr 4), .inl (km_struck, 24, .inl fm_struck)), ((mr 7), .inl (km_reportKnown, 24, .inl fm_reportKnown)), ((mr 5), .inl (km_reportMonth, 24, .inl fm_reportMonth)), ((mr 3), .inl (km_reportKind, 24, .inl fm_reportKind)), ((mr 6), .inl (km_reportDay, 24, .inl fm_reportDay)), ((mr 2), .inl (km_reportPlace, 24, .inl fm_reportPlace)), ((mr 0), .inl (km_trust, 6, .inl fm_trust))] → va_S A s.heap H locs → lv_has ls 8 [(0, .ref h0), (1, .int p1), (2, .int p2), (3, .int v3), (4, .int v4), (5, .int v5)] → W p l e R s m args below meth c H locs cells slots Q (F0 m 136 ls [])) := by
  intro z
  induction z with
  | zero =>
    refine ⟨?_, ?_, ?_, ?_⟩
    · intro v3 z1 H locs ls gv3 hle_gv3_gmi_0 hmu hP hD hS hl
      exact absurd hmu (by have hv31 := gv3.1; have hv32 := gv3.2; omega)
    · intro v3 v4 z1 H locs ls gv3 gv4 hle_gv3_gmi_0 hmu hP hD hS hl
      exact absurd hmu (by have hv31 := gv3.1; have hv32 := gv3.2; have hv41 := gv4.1; have hv42 := gv4.2; omega)
    · intro v3 v4 v5 v6 z1 H locs ls gv3 gv4 gv6 hle_gv3_gmi_0 hle_gv4_gv3 hmu hP hD hS hl
      exact absurd hmu (by have hv31 := gv3.1; have hv32 := gv3.2; have hv41 := gv4.1; have hv42 := gv4.2; have hv61 := gv6.1; have hv62 := gv6.2; omega)
    · intro v3 v4 v5 w0_54 z1 H locs ls gv3 gv4 gv5 hle_gv3_gv5 hmu hP hD hS hl
      exact absurd hmu (by have hv51 := gv5.1; have hv52 := gv5.2; omega)
  | succ z ih =>
    refine ⟨?_, ?_, ?_, ?_⟩
    · intro v3 z1 H locs ls gv3 hle_gv3_gmi_0 hmu hP hD hS hl
      refine lv_iload_n hx hb dX12_laysWorth_5 rfl (lv_at hl 3 rfl) ?_
      refine lv_if_lt (tgt := 123) hx hb dX12_laysWorth_6 (by decide) (fun c_986 => ?_) (fun c_986 => ?_)
      · have g_987 : gi v3 (-1) (-1) := gi_lt_l c_986 gv3 (gi_c 0 0 (by decide)) (by decide)
        refine lv_aload_n hx hb dX12_laysWorth_123 rfl (lv_at hl 0 rfl) ?_
        refine lv_iconst (v := 0) hx hb dX12_laysWorth_124 (by decide) ?_
        refine va_put (D := (dC, dI)) (ci := 12) (v := .int 0) (ty := .int) (C := RX12) (T := TX12) (N := 57) hx hb hts (fun w h => List.mem_cons_of_mem _ (jnGB_X12 w h)) tyX12 tyX12_ok nmX12 hown hK hP hD hS 0 rfl rfl 54 (by decide) (hts _ (List.mem_cons_of_mem _ mGB_552)) (fun _ h9 => h9) rfl (by decide +kernel) rfl rfl (Nat.le_of_ble_eq_true rfl) dX12_laysWorth_125 (fun H locs hP hD hS => ?_)
        have hP : va_P (dC, dI) vwCl [(h0, .inr (12, fsMM (upd mi 54 0) mr)), ((mr 22), .inl (km_worth, 6875, .inl z1)), ((mr 14), .inl (km_must, 25, .inl fm_must)), ((mr 15), .inl (km_least, 25, .inl fm_least)), ((mr 16), .inl (km_pin, 25, .inl fm_pin)), ((mr 4), .inl (km_struck, 24, .inl fm_struck)), ((mr 7), .inl (km_reportKnown, 24, .inl fm_reportKnown)), ((mr 5), .inl (km_reportMonth, 24, .inl fm_reportMonth)), ((mr 3), .inl (km_reportKind, 24, .inl fm_reportKind)), ((mr 6), .inl (km_reportDay, 24, .inl fm_reportDay)), ((mr 2), .inl (km_reportPlace, 24, .inl fm_reportPlace)), ((mr 0), .inl (km_trust, 6, .inl fm_trust))] H := hP
        have hD : va_D A [(h0, .inr (12, fsMM (upd mi 54 0) mr)), ((mr 22), .inl (km_worth, 6875, .inl z1)), ((mr 14), .inl (km_must, 25, .inl fm_must)), ((mr 15), .inl (km_least, 25, .inl fm_least)), ((mr 16), .inl (km_pin, 25, .inl fm_pin)), ((mr 4), .inl (km_struck, 24, .inl fm_struck)), ((mr 7), .inl (km_reportKnown, 24, .inl fm_reportKnown)), ((mr 5), .inl (km_reportMonth, 24, .inl fm_reportMonth)), ((mr 3), .inl (km_reportKind, 24, .inl fm_reportKind)), ((mr 6), .inl (km_reportDay, 24, .inl fm_reportDay)), ((mr 2), .inl (km_reportPlace, 24, .inl fm_reportPlace)), ((mr 0), .inl (km_trust, 6, .inl fm_trust))] := hD
        refine lv_iconst (v := 0) hx hb dX12_laysWorth_128 (by decide) ?_
        refine lv_istore_n (lv' := [(3, .int 0), (0, .ref h0), (1, .int p1), (2, .int p2)]) hx hb dX12_laysWorth_129 rfl hl (by decide) rfl (fun ls hl => ?_)
        refine lv_iconst (v := 0) hx hb dX12_laysWorth_130 (by decide) ?_
        refine lv_istore (lv' := [(4, .int 0), (3, .int 0), (0, .ref h0), (1, .int p1), (2, .int p2)]) hx hb dX12_laysWorth_131 hl (by decide) rfl (fun ls hl => ?_)
        refine lv_iconst (v := 0) hx hb dX12_laysWorth_133 (by decide) ?_
        refine lv_istore (lv' := [(5, .int 0), (4, .int 0), (3, .int 0), (0, .ref h0), (1, .int p1), (2, .int p2)]) hx hb dX12_laysWorth_134 hl (by decide) rfl (fun ls hl => ?_)
        exact ih.2.2.2 0 0 0 0 z1 _ _ _ (gi_w (gi_c 0 0 (by decide)) (by decide)) (gi_w (gi_c 0 0 (by decide)) (by decide)) (gi_w (gi_c 0 0 (by decide)) (by decide)) (by have k0 : (0 : Int32).toInt = 0 := (by decide); have k0 : (0 : Int32).toInt = 0 := (by decide); omega) (by have k0 : (0 : Int32).toInt = 0 := (by decide); have av3 := gv3.1; have bv3 := gv3.2; omega) hP hD hS (lv_sub hl [3, 4, 5, 2, 1, 0] rfl)
      · have g_988 : gi v3 0 24 := gi_le_r (Int32.not_lt.mp c_986) (gi_c 0 0 (by decide)) gv3
        refine lv_iconst (v := 0) hx hb dX12_laysWorth_9 (by decide) ?_
        refine lv_istore (lv' := [(4, .int 0), (0, .ref h0), (1, .int p1), (2, .int p2), (3, .int v3)]) hx hb dX12_laysWorth_10 hl (by decide) rfl (fun ls hl => ?_)
        exact ih.2.1 v3 0 z1 _ _ _ g_988 (gi_w (gi_c 0 0 (by decide)) (by decide)) (by have qgmi_0 := gmi_0.1; have rgmi_0 := gmi_0.2; have qgv3 := g_988.1; have rgv3 := g_988.2; omega) (by have k0 : (0 : Int32).toInt = 0 := (by decide); have av3 := gv3.1; have bv3 := gv3.2; have qgv3 := g_988.1; have rgv3 := g_988.2; omega) hP hD hS (lv_sub hl [1, 2, 3, 4, 0] rfl)
    · intro v3 v4 z1 H locs ls gv3 gv4 hle_gv3_gmi_0 hmu hP hD hS hl
      refine lv_iload hx hb dX12_laysWorth_12 (lv_at hl 4 rfl) ?_
      refine lv_iload_n hx hb dX12_laysWorth_14 rfl (lv_at hl 3 rfl) ?_
      refine lv_icmp_gt (tgt := 117) hx hb dX12_laysWorth_15 (by decide) (fun c_989 => ?_) (fun c_989 => ?_)
      · have g_990 : gi v4 1 25 := gi_lt_r c_989 gv3 gv4 (by decide)
        obtain ⟨x_991, ex_991⟩ : ∃ y : Int32, y = v3 + (-1) := ⟨_, rfl⟩
        have gx_991 : gi x_991 (-1) 23 := gi_add ex_991 gv3 (gi_c (-1) (-1) (by decide)) (by decide)
        refine lv_iinc (v := x_991) (lv' := [(3, .int x_991), (0, .ref h0), (1, .int p1), (2, .int p2), (4, .int v4)]) hx hb dX12_laysWorth_117 hl (k := 3) rfl (by rw [ex_991]; rfl) (by decide) rfl (fun ls hl => ?_)
        refine lv_goto (tgt := 5) hx hb dX12_laysWorth_120 (by decide) ?_
        exact ih.1 x_991 z1 _ _ _ (gi_w gx_991 (by decide)) (by have qgmi_0 := gmi_0.1; have rgmi_0 := gmi_0.2; have qgx_991 := gx_991.1; have rgx_991 := gx_991.2; have igx_991 : x_991.toInt = v3.toInt + (-1) := (by have hcm1 : ((-1) : Int32).toInt = (-1) := (by decide); have h9 := gi_addI ex_991 (by have h1 := gv3.1; have h2 := (gi_c (-1) (-1) (by decide)).1; have h3 := gv3.2; have h4 := (gi_c (-1) (-1) (by decide)).2; omega) (by have h1 := gv3.1; have h2 := (gi_c (-1) (-1) (by decide)).1; have h3 := gv3.2; have h4 := (gi_c (-1) (-1) (by decide)).2; omega); rw [hcm1] at h9; exact h9); have qgv3 := gv3.1; have rgv3 := gv3.2; have y1 := (Int32.lt_iff_toInt_lt.mp c_989); omega) (by have av3 := gv3.1; have bv3 := gv3.2; have av4 := gv4.1; have bv4 := gv4.2; have qgx_991 := gx_991.1; have rgx_991 := gx_991.2; have igx_991 : x_991.toInt = v3.toInt + (-1) := (by have hcm1 : ((-1) : Int32).toInt = (-1) := (by decide); have h9 := gi_addI ex_991 (by have h1 := gv3.1; have h2 := (gi_c (-1) (-1) (by decide)).1; have h3 := gv3.2; have h4 := (gi_c (-1) (-1) (by decide)).2; omega) (by have h1 := gv3.1; have h2 := (gi_c (-1) (-1) (by decide)).1; have h3 := gv3.2; have h4 := (gi_c (-1) (-1) (by decide)).2; omega); rw [hcm1] at h9; exact h9); have qgv3 := gv3.1; have rgv3 := gv3.2; omega) hP hD hS (lv_sub hl [1, 2, 3, 0] rfl)
      · have g_992 : gi v4 0 24 := gi_le_l (Int32.not_lt.mp c_989) gv4 gv3
        refine lv_aload_n hx hb dX12_laysWorth_18 rfl (lv_at hl 0 rfl) ?_
        refine lv_iload_n hx hb dX12_laysWorth_19 rfl (lv_at hl 3 rfl) ?_
        refine lv_bipush (v := 29) hx hb dX12_laysWorth_20 (by decide) ?_
        refine lv_iload_n hx hb dX12_laysWorth_22 rfl (lv_at hl 3 rfl) ?_
        refine lv_imul hx hb dX12_laysWorth_23 ?_
        refine lv_topi (fun x_993 ex_993 => ?_)
        have gx_993 : gi x_993 0 696 := gi_mul ex_993 (gi_c 29 29 (by decide)) gv3 (by decide)
        refine lv_iload hx hb dX12_laysWorth_24 (lv_at hl 4 rfl) ?_
        refine lv_iadd hx hb dX12_laysWorth_26 ?_
        refine lv_topi (fun x_994 ex_994 => ?_)
        have gx_994 : gi x_994 0 720 := gi_add ex_994 gx_993 g_992 (by decide)
        refine lv_iload_n hx hb dX12_laysWorth_27 rfl (lv_at hl 1 rfl) ?_
        refine lv_iload_n hx hb dX12_laysWorth_28 rfl (lv_at hl 2 rfl) ?_
        have hPc := hP.sub (ws' := [(h0, .inr (12, fsMM mi mr)), ((mr 14), .inl (km_must, 25, .inl fm_must)), ((mr 15), .inl (km_least, 25, .inl fm_least)), ((mr 16), .inl (km_pin, 25, .inl fm_pin)), ((mr 4), .inl (km_struck, 24, .inl fm_struck)), ((mr 7), .inl (km_reportKnown, 24, .inl fm_reportKnown)), ((mr 5), .inl (km_reportMonth, 24, .inl fm_reportMonth)), ((mr 3), .inl (km_reportKind, 24, .inl fm_reportKind)), ((mr 6), .inl (km_reportDay, 24, .inl fm_reportDay)), ((mr 2), .inl (km_reportPlace, 24, .inl fm_reportPlace)), ((mr 0), .inl (km_trust, 6, .inl fm_trust))]) [0, 2, 3, 4, 5, 6, 7, 8, 9, 10, 11] rfl
        have hKc := hK.sub (tys' := [(km_must, .int), (km_least, .int), (km_pin, .int), (km_struck, .boolean), (km_reportKnown, .int), (km_reportMonth, .int), (km_reportKind, .int), (km_reportDay, .int), (km_reportPlace, .int), (km_trust, .int)]) [1, 2, 3, 4, 5, 6, 7, 8, 9, 10] rfl
        refine va_calli (va_runV (As := [.int v3, .int x_994, .int p1, .int p2]) (rest := []) ⟨hx, hb, hml, hown, hts⟩ (sX12_costOf l dC dI h0 mi mr km_must fm_must km_least fm_least km_pin fm_pin km_struck fm_struck km_reportKnown fm_reportKnown km_reportMonth fm_reportMonth km_reportKind fm_reportKind km_reportDay fm_reportDay km_reportPlace fm_reportPlace km_trust fm_trust v3 x_994 p1 p2 gmi_0 gmi_1 gmi_2 gmi_4 gmi_7 gmi_10 gmi_17 gmi_23 gmi_24 gmi_26 gmi_29 gmi_30 gmi_33 gmi_37 gmi_41 gmi_50 gmi_51 gmi_56 gfm_struck gfm_reportKnown gfm_reportMonth gfm_reportDay gfm_reportPlace gv3 gp2) (cwV 4 hts (gz_gV mGB_558 mGB_559 mGB_560 mGB_1 mGB_561 goodGB) rfl rfl rfl (by decide +kernel) ⟨Nat.le_trans (Nat.le_of_ble_eq_true rfl) hRf, Nat.le_trans (Nat.le_of_ble_eq_true rfl) hRl⟩) ⟨fun a U g mk q => by obtain ⟨q0, qP, qK⟩ := q; exact ⟨q0, qP, va_K.moved (u := U) (U := U.calling g mk a) (Vm.Alike.refl U.vm) qK⟩, va_recv hKc hPc (ci := 12) (q0 := 0) rfl rfl, fun U hU hW => ⟨rfl, by rw [hU]; exact hPc, va_K.moved hW.alike hKc⟩⟩ rfl rfl hl.1 rfl (lv_room (Nat.le_of_ble_eq_true rfl)) dX12_laysWorth_29 ⟨hRc, hRs⟩) hS (fun q _ h => h.elim) (fun q h => h.elim) (fun r_995 u t H1 locs ht hvm hw hB hz1 hk1 hS => ?_)
        have hP := gz_keep hP hk1
        generalize H1 = H at hP hS ⊢
        refine lv_istore (lv' := [(5, .int r_995), (0, .ref h0), (1, .int p1), (2, .int p2), (3, .int v3), (4, .int v4)]) hx hb dX12_laysWorth_32 hl (by decide) rfl (fun ls hl => ?_)
        refine lv_iconst (v := 0) hx hb dX12_laysWorth_34 (by decide) ?_
        refine lv_istore (lv' := [(6, .int 0), (5, .int r_995), (0, .ref h0), (1, .int p1), (2, .int p2), (3, .int v3), (4, .int v4)]) hx hb dX12_laysWorth_35 hl (by decide) rfl (fun ls hl => ?_)
        exact ih.2.2.1 v3 v4 r_995 0 z1 _ _ _ gv3 g_992 (gi_w (gi_c 0 0 (by decide)) (by decide)) (by have qgmi_0 := gmi_0.1; have rgmi_0 := gmi_0.2; have qgv3 := gv3.1; have rgv3 := gv3.2; have y1 := (Int32.le_iff_toInt_le.mp (Int32.not_lt.mp c_989)); omega) (by have qgv3 := gv3.1; have rgv3 := gv3.2; have qgv4 := g_992.1; have rgv4 := g_992.2; have y1 := (Int32.le_iff_toInt_le.mp (Int32.not_lt.mp c_989)); omega) (by have k0 : (0 : Int32).toInt = 0 := (by decide); have av3 := gv3.1; have bv3 := gv3.2; have av4 := gv4.1; have bv4 := gv4.2; have qgv4 := g_992.1; have rgv4 := g_992.2; have qgv3 := gv3.1; have rgv3 := gv3.2; omega) hP hD hS (lv_sub hl [2, 3, 4, 5, 6, 1, 0] rfl)
    · intro v3 v4 v5 v6 z1 H locs ls gv3 gv4 gv6 hle_gv3_gmi_0 hle_gv4_gv3 hmu hP hD hS hl
      refine lv_iload hx hb dX12_laysWorth_37 (lv_at hl 6 rfl) ?_
      refine lv_bipush (v := 10) hx hb dX12_laysWorth_39 (by decide) ?_
      refine lv_icmp_gt (tgt := 111) hx hb dX12_laysWorth_41 (by decide) (fun c_996 => ?_) (fun c_996 => ?_)
      · have g_997 : gi v6 11 11 := gi_lt_r c_996 (gi_c 10 10 (by decide)) gv6 (by decide)
        obtain ⟨x_998, ex_998⟩ : ∃ y : Int32, y = v4 + 1 := ⟨_, rfl⟩
        have gx_998 : gi x_998 1 25 := gi_add ex_998 gv4 (gi_c 1 1 (by decide)) (by decide)
        refine lv_iinc (v := x_998) (lv' := [(4, .int x_998), (0, .ref h0), (1, .int p1), (2, .int p2), (3, .int v3), (5, .int v5), (6, .int v6)]) hx hb dX12_laysWorth_111 hl (k := 4) rfl (by rw [ex_998]; rfl) (by decide) rfl (fun ls hl => ?_)
        refine lv_goto (tgt := 12) hx hb dX12_laysWorth_114 (by decide) ?_
        exact ih.2.1 v3 x_998 z1 _ _ _ gv3 (gi_w gx_998 (by decide)) (by have qgmi_0 := gmi_0.1; have rgmi_0 := gmi_0.2; have qgv3 := gv3.1; have rgv3 := gv3.2; omega) (by have av3 := gv3.1; have bv3 := gv3.2; have av4 := gv4.1; have bv4 := gv4.2; have av6 := gv6.1; have bv6 := gv6.2; have qgx_998 := gx_998.1; have rgx_998 := gx_998.2; have igx_998 : x_998.toInt = v4.toInt + 1 := (by have hc1 : (1 : Int32).toInt = 1 := (by decide); have h9 := gi_addI ex_998 (by have h1 := gv4.1; have h2 := (gi_c 1 1 (by decide)).1; have h3 := gv4.2; have h4 := (gi_c 1 1 (by decide)).2; omega) (by have h1 := gv4.1; have h2 := (gi_c 1 1 (by decide)).1; have h3 := gv4.2; have h4 := (gi_c 1 1 (by decide)).2; omega); rw [hc1] at h9; exact h9); have qgv4 := gv4.1; have rgv4 := gv4.2; have qgv3 := gv3.1; have rgv3 := gv3.2; omega) hP hD hS (lv_sub hl [1, 2, 3, 4, 0] rfl)
      · have g_999 : gi v6 0 10 := gi_le_l (Int32.not_lt.mp c_996) gv6 (gi_c 10 10 (by decide))
        refine lv_iload_n hx hb dX12_laysWorth_44 rfl (lv_at hl 3 rfl) ?_
        refine lv_aload_n hx hb dX12_laysWorth_45 rfl (lv_at hl 0 rfl) ?_
        refine va_get (D := (dC, dI)) (ci := 12) (v := .int (mi 0)) (C := RX12) (T := TX12) (N := 57) hx hb hts (fun w h => List.mem_cons_of_mem _ (jnGB_X12 w h)) hown hK hP 0 rfl rfl 0 (by decide) (hts _ (List.mem_cons_of_mem _ mGB_103)) (fun _ h9 => h9) rfl dX12_laysWorth_46 ?_
        refine lv_icmp_ne (tgt := 56) hx hb dX12_laysWorth_49 (by decide) (fun c_1000 => ?_) (fun c_1000 => ?_)
        · have g_1001 : gi v3 0 23 := gi_nele hle_gv3_gmi_0 c_1000 gv3 gmi_0 (by decide)
          have g_1002 : gi v4 0 23 := gi_rel hle_gv4_gv3 gv4 g_1001
          refine lv_aload_n hx hb dX12_laysWorth_56 rfl (lv_at hl 0 rfl) ?_
          refine lv_iload_n hx hb dX12_laysWorth_57 rfl (lv_at hl 3 rfl) ?_
          refine lv_iload hx hb dX12_laysWorth_58 (lv_at hl 4 rfl) ?_
          refine lv_iload hx hb dX12_laysWorth_60 (lv_at hl 6 rfl) ?_
          refine lv_iconst (v := 0) hx hb dX12_laysWorth_62 (by decide) ?_
          have hPc := hP.sub (ws' := [(h0, .inr (12, fsMM mi mr)), ((mr 22), .inl (km_worth, 6875, .inl z1))]) [0, 1] rfl
          have hKc := hK.sub (tys' := [(km_worth, .int)]) [0] rfl
          refine va_calli (va_runV (As := [.int v3, .int v4, .int v6, .int 0]) (rest := []) ⟨hx, hb, hml, hown, hts⟩ (sX12_worthBy l dC dI h0 mi mr km_worth z1 v3 v4 v6 0 gmi_0 gmi_1 gmi_2 gmi_4 gmi_7 gmi_10 gmi_17 gmi_23 gmi_24 gmi_26 gmi_29 gmi_30 gmi_33 gmi_37 gmi_41 gmi_50 gmi_51 gmi_56 g_1001 g_1002 (gi_w g_999 (by decide)) (gi_w (gi_c 0 0 (by decide)) (by decide))) (cwV 4 hts (gz_gV mGB_563 mGB_564 mGB_565 mGB_1 mGB_566 goodGB) rfl rfl rfl (by decide +kernel) ⟨Nat.le_trans (Nat.le_of_ble_eq_true rfl) hRf, Nat.le_trans (Nat.le_of_ble_eq_true rfl) hRl⟩) ⟨fun a U g mk q => by obtain ⟨q0, qP, qK⟩ := q; exact ⟨q0, qP, va_K.moved (u := U) (U := U.calling g mk a) (Vm.Alike.refl U.vm) qK⟩, va_recv hKc hPc (ci := 12) (q0 := 0) rfl rfl, fun U hU hW => ⟨rfl, by rw [hU]; exact hPc, va_K.moved hW.alike hKc⟩⟩ rfl rfl hl.1 rfl (lv_room (Nat.le_of_ble_eq_true rfl)) dX12_laysWorth_63 ⟨hRc, hRs⟩) hS (fun q _ h => h.elim) (fun q h => h.elim) (fun r_1003 u t H1 locs ht hvm hw hB hz1 hk1 hS => ?_)
          have hP := gz_keep hP hk1
          generalize H1 = H at hP hS ⊢
          refine lv_aload_n hx hb dX12_laysWorth_66 rfl (lv_at hl 0 rfl) ?_
          refine lv_iload_n hx hb dX12_laysWorth_67 rfl (lv_at hl 3 rfl) ?_
          refine lv_iload hx hb dX12_laysWorth_68 (lv_at hl 4 rfl) ?_
          refine lv_iload hx hb dX12_laysWorth_70 (lv_at hl 6 rfl) ?_
          refine lv_iconst (v := 1) hx hb dX12_laysWorth_72 (by decide) ?_
          have hPc := hP.sub (ws' := [(h0, .inr (12, fsMM mi mr)), ((mr 22), .inl (km_worth, 6875, .inl z1))]) [0, 1] rfl
          have hKc := hK.sub (tys' := [(km_worth, .int)]) [0] rfl
          refine va_calli (va_runV (As := [.int v3, .int v4, .int v6, .int 1]) (rest := [.int r_1003]) ⟨hx, hb, hml, hown, hts⟩ (sX12_worthBy l dC dI h0 mi mr km_worth z1 v3 v4 v6 1 gmi_0 gmi_1 gmi_2 gmi_4 gmi_7 gmi_10 gmi_17 gmi_23 gmi_24 gmi_26 gmi_29 gmi_30 gmi_33 gmi_37 gmi_41 gmi_50 gmi_51 gmi_56 g_1001 g_1002 (gi_w g_999 (by decide)) (gi_w (gi_c 1 1 (by decide)) (by decide))) (cwV 4 hts (gz_gV mGB_563 mGB_564 mGB_565 mGB_1 mGB_566 goodGB) rfl rfl rfl (by decide +kernel) ⟨Nat.le_trans (Nat.le_of_ble_eq_true rfl) hRf, Nat.le_trans (Nat.le_of_ble_eq_true rfl) hRl⟩) ⟨fun a U g mk q => by obtain ⟨q0, qP, qK⟩ := q; exact ⟨q0, qP, va_K.moved (u := U) (U := U.calling g mk a) (Vm.Alike.refl U.vm) qK⟩, va_recv hKc hPc (ci := 12) (q0 := 0) rfl rfl, fun U hU hW => ⟨rfl, by rw [hU]; exact hPc, va_K.moved hW.alike hKc⟩⟩ rfl rfl hl.1 rfl (lv_room (Nat.le_of_ble_eq_true rfl)) dX12_laysWorth_73 ⟨hRc, hRs⟩) hS (fun q _ h => h.elim) (fun q h => h.elim) (fun r_1004 u t H1 locs ht hvm hw hB hz1 hk1 hS => ?_)
          have hP := gz_keep hP hk1
          generalize H1 = H at hP hS ⊢
          refine va_mmin (own := RX12) hx hb (by rw [hml]; exact hl.1.symm) hown (hts _ (List.mem_cons_of_mem _ mGB_138)) (hts _ (List.mem_cons_of_mem _ mGB_97)) (hts _ (List.mem_cons_of_mem _ mGB_98)) (hts _ (List.mem_cons_of_mem _ mGB_99)) (Nat.le_trans (Nat.le_of_ble_eq_true rfl) hRf) (Nat.le_trans (Nat.le_of_ble_eq_true rfl) hRl) hRc hRs dX12_laysWorth_76 ?_
          refine lv_topi (fun x_1005 ex_1005 => ?_)
          refine lv_istore (lv' := [(7, .int x_1005), (0, .ref h0), (1, .int p1), (2, .int p2), (3, .int v3), (4, .int v4), (5, .int v5), (6, .int v6)]) hx hb dX12_laysWorth_79 hl (by decide) rfl (fun ls hl => ?_)
          refine lv_aload_n hx hb dX12_laysWorth_81 rfl (lv_at hl 1 rfl) ?_
          refine va_get (D := (dC, dI)) (ci := 12) (v := .ref (mr 22)) (C := RX12) (T := TX12) (N := 57) hx hb hts (fun w h => List.mem_cons_of_mem _ (jnGB_X12 w h)) hown hK hP 0 rfl rfl 53 (by decide) (hts _ (List.mem_cons_of_mem _ mGB_38)) (fun _ h9 => h9) rfl dX12_laysWorth_82 ?_
          refine lv_iload_n hx hb dX12_laysWorth_85 rfl (lv_at hl 4 rfl) ?_
          refine lv_iload hx hb dX12_laysWorth_86 (lv_at hl 5 rfl) ?_
          refine lv_iload hx hb dX12_laysWorth_88 (lv_at hl 7 rfl) ?_
          have hPc := hP.sub (ws' := []) [] rfl
          have hKc := hK.sub (tys' := []) [] rfl
          refine va_calli (va_runS (As := [.int v3, .int v4, .int v6]) (rest := [.ref (mr 22)]) ⟨hx, hb, hml, hown, hts⟩ (sX12_placeOf l dC dI v3 v4 v6 (gi_w g_1001 (by decide)) (gi_w g_1002 (by decide)) g_999) (cwS 3 hts (gz_gS mGB_315 mGB_316 mGB_1 mGB_317 goodGB) rfl rfl rfl (by decide +kernel) ⟨Nat.le_trans (Nat.le_of_ble_eq_true rfl) hRf, Nat.le_trans (Nat.le_of_ble_eq_true rfl) hRl⟩) ⟨fun a U g mk q => by obtain ⟨q0, qP, qK⟩ := q; exact ⟨q0, qP, va_K.moved (u := U) (U := U.calling g mk a) (Vm.Alike.refl U.vm) qK⟩, fun U hU hW => ⟨rfl, by rw [hU]; exact hPc, va_K.moved hW.alike hKc⟩⟩ rfl rfl hl.1 rfl (lv_room (Nat.le_of_ble_eq_true rfl)) dX12_laysWorth_90 ⟨hRc, hRs⟩) hS (fun q _ h => h.elim) (fun q h => h.elim) (fun r_1006 u t H1 locs ht hvm hw hB hz1 hk1 hS => ?_)
          have hP := gz_keep hP hk1
          generalize H1 = H at hP hS ⊢
          have gr_1006 : gi r_1006 0 6874 := hw
          refine lv_ldcw (own := RX12) (v := 100000000) hx hb hown (hts _ (List.mem_cons_of_mem _ mGB_557)) dX12_laysWorth_93 ?_
          refine lv_iload hx hb dX12_laysWorth_96 (lv_at hl 6 rfl) ?_
          refine lv_iload hx hb dX12_laysWorth_98 (lv_at hl 0 rfl) ?_
          refine lv_iadd hx hb dX12_laysWorth_100 ?_
          refine lv_topi (fun x_1007 ex_1007 => ?_)
          refine va_mmin (own := RX12) hx hb (by rw [hml]; exact hl.1.symm) hown (hts _ (List.mem_cons_of_mem _ mGB_138)) (hts _ (List.mem_cons_of_mem _ mGB_97)) (hts _ (List.mem_cons_of_mem _ mGB_98)) (hts _ (List.mem_cons_of_mem _ mGB_99)) (Nat.le_trans (Nat.le_of_ble_eq_true rfl) hRf) (Nat.le_trans (Nat.le_of_ble_eq_true rfl) hRl) hRc hRs dX12_laysWorth_101 ?_
          refine lv_topi (fun x_1008 ex_1008 => ?_)
          have gx_1008 : gi x_1008 (-2147483648) 100000000 := gi_min ex_1008 (gi_c 100000000 100000000 (by decide)) (gi_any x_1007) (by decide)
          refine va_iast hx hb hK hP hD hS 1 0 rfl rfl (gi_in gr_1006 (by decide)) dX12_laysWorth_104 (fun H locs hP hD hS => ?_)
          have hP : va_P (dC, dI) vwCl [(h0, .inr (12, fsMM mi mr)), ((mr 22), .inl (km_worth, 6875, .inl (upd z1 (r_1006 : Int32).toNatClampNeg x_1008))), ((mr 14), .inl (km_must, 25, .inl fm_must)), ((mr 15), .inl (km_least, 25, .inl fm_least)), ((mr 16), .inl (km_pin, 25, .inl fm_pin)), ((mr 4), .inl (km_struck, 24, .inl fm_struck)), ((mr 7), .inl (km_reportKnown, 24, .inl fm_reportKnown)), ((mr 5), .inl (km_reportMonth, 24, .inl fm_reportMonth)), ((mr 3), .inl (km_reportKind, 24, .inl fm_reportKind)), ((mr 6), .inl (km_reportDay, 24, .inl fm_reportDay)), ((mr 2), .inl (km_reportPlace, 24, .inl fm_reportPlace)), ((mr 0), .inl (km_trust, 6, .inl fm_trust))] H := hP
          have hD : va_D A [(h0, .inr (12, fsMM mi mr)), ((mr 22), .inl (km_worth, 6875, .inl (upd z1 (r_1006 : Int32).toNatClampNeg x_1008))), ((mr 14), .inl (km_must, 25, .inl fm_must)), ((mr 15), .inl (km_least, 25, .inl fm_least)), ((mr 16), .inl (km_pin, 25, .inl fm_pin)), ((mr 4), .inl (km_struck, 24, .inl fm_struck)), ((mr 7), .inl (km_reportKnown, 24, .inl fm_reportKnown)), ((mr 5), .inl (km_reportMonth, 24, .inl fm_reportMonth)), ((mr 3), .inl (km_reportKind, 24, .inl fm_reportKind)), ((mr 6), .inl (km_reportDay, 24, .inl fm_reportDay)), ((mr 2), .inl (km_reportPlace, 24, .inl fm_reportPlace)), ((mr 0), .inl (km_trust, 6, .inl fm_trust))] := hD
          generalize upd z1 (r_1006 : Int32).toNatClampNeg x_1008 = f_1009 at hP hD
          obtain ⟨x_1010, ex_1010⟩ : ∃ y : Int32, y = v6 + 1 := ⟨_, rfl⟩
          have gx_1010 : gi x_1010 1 11 := gi_add ex_1010 g_999 (gi_c 1 1 (by decide)) (by decide)
          refine lv_iinc (v := x_1010) (lv' := [(6, .int x_1010), (7, .int x_1005), (0, .ref h0), (1, .int p1), (2, .int p2), (3, .int v3), (4, .int v4), (5, .int v5)]) hx hb dX12_laysWorth_105 hl (k := 7) rfl (by rw [ex_1010]; rfl) (by decide) rfl (fun ls hl => ?_)
          refine lv_goto (tgt := 37) hx hb dX12_laysWorth_108 (by decide) ?_
          exact ih.2.2.1 v3 v4 v5 x_1010 f_1009 _ _ _ (gi_w g_1001 (by decide)) (gi_w g_1002 (by decide)) (gi_w gx_1010 (by decide)) (by have qgmi_0 := gmi_0.1; have rgmi_0 := gmi_0.2; have qgv3 := g_1001.1; have rgv3 := g_1001.2; omega) (by have qgv3 := g_1001.1; have rgv3 := g_1001.2; have qgv4 := g_1002.1; have rgv4 := g_1002.2; omega) (by have av3 := gv3.1; have bv3 := gv3.2; have av4 := gv4.1; have bv4 := gv4.2; have av6 := gv6.1; have bv6 := gv6.2; have qgx_1010 := gx_1010.1; have rgx_1010 := gx_1010.2; have igx_1010 : x_1010.toInt = v6.toInt + 1 := (by have hc1 : (1 : Int32).toInt = 1 := (by decide); have h9 := gi_addI ex_1010 (by have h1 := g_999.1; have h2 := (gi_c 1 1 (by decide)).1; have h3 := g_999.2; have h4 := (gi_c 1 1 (by decide)).2; omega) (by have h1 := g_999.1; have h2 := (gi_c 1 1 (by decide)).1; have h3 := g_999.2; have h4 := (gi_c 1 1 (by decide)).2; omega); rw [hc1] at h9; exact h9); have qgv6 := g_999.1; have rgv6 := g_999.2; have qgv4 := g_1002.1; have rgv4 := g_1002.2; have qgv3 := g_1001.1; have rgv3 := g_1001.2; omega) hP hD hS (lv_sub hl [2, 3, 4, 5, 6, 7, 0] rfl)
        · refine lv_iconst (v := 0) hx hb dX12_laysWorth_52 (by decide) ?_
          refine lv_goto (tgt := 79) hx hb dX12_laysWorth_53 (by decide) ?_
          refine lv_istore (lv' := [(7, .int 0), (0, .ref h0), (1, .int p1), (2, .int p2), (3, .int v3), (4, .int v4), (5, .int v5), (6, .int v6)]) hx hb dX12_laysWorth_79 hl (by decide) rfl (fun ls hl => ?_)
          refine lv_aload_n hx hb dX12_laysWorth_81 rfl (lv_at hl 1 rfl) ?_
          refine va_get (D := (dC, dI)) (ci := 12) (v := .ref (mr 22)) (C := RX12) (T := TX12) (N := 57) hx hb hts (fun w h => List.mem_cons_of_mem _ (jnGB_X12 w h)) hown hK hP 0 rfl rfl 53 (by decide) (hts _ (List.mem_cons_of_mem _ mGB_38)) (fun _ h9 => h9) rfl dX12_laysWorth_82 ?_
          refine lv_iload_n hx hb dX12_laysWorth_85 rfl (lv_at hl 4 rfl) ?_
          refine lv_iload hx hb dX12_laysWorth_86 (lv_at hl 5 rfl) ?_
          refine lv_iload hx hb dX12_laysWorth_88 (lv_at hl 7 rfl) ?_
          have hPc := hP.sub (ws' := []) [] rfl
          have hKc := hK.sub (tys' := []) [] rfl
          refine va_calli (va_runS (As := [.int v3, .int v4, .int v6]) (rest := [.ref (mr 22)]) ⟨hx, hb, hml, hown, hts⟩ (sX12_placeOf l dC dI v3 v4 v6 gv3 gv4 g_999) (cwS 3 hts (gz_gS mGB_315 mGB_316 mGB_1 mGB_317 goodGB) rfl rfl rfl (by decide +kernel) ⟨Nat.le_trans (Nat.le_of_ble_eq_true rfl) hRf, Nat.le_trans (Nat.le_of_ble_eq_true rfl) hRl⟩) ⟨fun a U g mk q => by obtain ⟨q0, qP, qK⟩ := q; exact ⟨q0, qP, va_K.moved (u := U) (U := U.calling g mk a) (Vm.Alike.refl U.vm) qK⟩, fun U hU hW => ⟨rfl, by rw [hU]; exact hPc, va_K.moved hW.alike hKc⟩⟩ rfl rfl hl.1 rfl (lv_room (Nat.le_of_ble_eq_true rfl)) dX12_laysWorth_90 ⟨hRc, hRs⟩) hS (fun q _ h => h.elim) (fun q h => h.elim) (fun r_1011 u t H1 locs ht hvm hw hB hz1 hk1 hS => ?_)
          have hP := gz_keep hP hk1
          generalize H1 = H at hP hS ⊢
          have gr_1011 : gi r_1011 0 6874 := hw
          refine lv_ldcw (own := RX12) (v := 100000000) hx hb hown (hts _ (List.mem_cons_of_mem _ mGB_557)) dX12_laysWorth_93 ?_
          refine lv_iload hx hb dX12_laysWorth_96 (lv_at hl 6 rfl) ?_
          refine lv_iload hx hb dX12_laysWorth_98 (lv_at hl 0 rfl) ?_
          refine lv_iadd hx hb dX12_laysWorth_100 ?_
          refine lv_topi (fun x_1012 ex_1012 => ?_)
          refine va_mmin (own := RX12) hx hb (by rw [hml]; exact hl.1.symm) hown (hts _ (List.mem_cons_of_mem _ mGB_138)) (hts _ (List.mem_cons_of_mem _ mGB_97)) (hts _ (List.mem_cons_of_mem _ mGB_98)) (hts _ (List.mem_cons_of_mem _ mGB_99)) (Nat.le_trans (Nat.le_of_ble_eq_true rfl) hRf) (Nat.le_trans (Nat.le_of_ble_eq_true rfl) hRl) hRc hRs dX12_laysWorth_101 ?_
          refine lv_topi (fun x_1013 ex_1013 => ?_)
          have gx_1013 : gi x_1013 (-2147483648) 100000000 := gi_min ex_1013 (gi_c 100000000 100000000 (by decide)) (gi_any x_1012) (by decide)
          refine va_iast hx hb hK hP hD hS 1 0 rfl rfl (gi_in gr_1011 (by decide)) dX12_laysWorth_104 (fun H locs hP hD hS => ?_)
          have hP : va_P (dC, dI) vwCl [(h0, .inr (12, fsMM mi mr)), ((mr 22), .inl (km_worth, 6875, .inl (upd z1 (r_1011 : Int32).toNatClampNeg x_1013))), ((mr 14), .inl (km_must, 25, .inl fm_must)), ((mr 15), .inl (km_least, 25, .inl fm_least)), ((mr 16), .inl (km_pin, 25, .inl fm_pin)), ((mr 4), .inl (km_struck, 24, .inl fm_struck)), ((mr 7), .inl (km_reportKnown, 24, .inl fm_reportKnown)), ((mr 5), .inl (km_reportMonth, 24, .inl fm_reportMonth)), ((mr 3), .inl (km_reportKind, 24, .inl fm_reportKind)), ((mr 6), .inl (km_reportDay, 24, .inl fm_reportDay)), ((mr 2), .inl (km_reportPlace, 24, .inl fm_reportPlace)), ((mr 0), .inl (km_trust, 6, .inl fm_trust))] H := hP
          have hD : va_D A [(h0, .inr (12, fsMM mi mr)), ((mr 22), .inl (km_worth, 6875, .inl (upd z1 (r_1011 : Int32).toNatClampNeg x_1013))), ((mr 14), .inl (km_must, 25, .inl fm_must)), ((mr 15), .inl (km_least, 25, .inl fm_least)), ((mr 16), .inl (km_pin, 25, .inl fm_pin)), ((mr 4), .inl (km_struck, 24, .inl fm_struck)), ((mr 7), .inl (km_reportKnown, 24, .inl fm_reportKnown)), ((mr 5), .inl (km_reportMonth, 24, .inl fm_reportMonth)), ((mr 3), .inl (km_reportKind, 24, .inl fm_reportKind)), ((mr 6), .inl (km_reportDay, 24, .inl fm_reportDay)), ((mr 2), .inl (km_reportPlace, 24, .inl fm_reportPlace)), ((mr 0), .inl (km_trust, 6, .inl fm_trust))] := hD
          generalize upd z1 (r_1011 : Int32).toNatClampNeg x_1013 = f_1014 at hP hD
          obtain ⟨x_1015, ex_1015⟩ : ∃ y : Int32, y = v6 + 1 := ⟨_, rfl⟩
          have gx_1015 : gi x_1015 1 11 := gi_add ex_1015 g_999 (gi_c 1 1 (by decide)) (by decide)
          refine lv_iinc (v := x_1015) (lv' := [(6, .int x_1015), (7, .int 0), (0, .ref h0), (1, .int p1), (2, .int p2), (3, .int v3), (4, .int v4), (5, .int v5)]) hx hb dX12_laysWorth_105 hl (k := 7) rfl (by rw [ex_1015]; rfl) (by decide) rfl (fun ls hl => ?_)
          refine lv_goto (tgt := 37) hx hb dX12_laysWorth_108 (by decide) ?_
          exact ih.2.2.1 v3 v4 v5 x_1015 f_1014 _ _ _ gv3 gv4 (gi_w gx_1015 (by decide)) (by have qgmi_0 := gmi_0.1; have rgmi_0 := gmi_0.2; have qgv3 := gv3.1; have rgv3 := gv3.2; omega) (by have qgv3 := gv3.1; have rgv3 := gv3.2; have qgv4 := gv4.1; have rgv4 := gv4.2; omega) (by have av3 := gv3.1; have bv3 := gv3.2; have av4 := gv4.1; have bv4 := gv4.2; have av6 := gv6.1; have bv6 := gv6.2; have qgx_1015 := gx_1015.1; have rgx_1015 := gx_1015.2; have igx_1015 : x_1015.toInt = v6.toInt + 1 := (by have hc1 : (1 : Int32).toInt = 1 := (by decide); have h9 := gi_addI ex_1015 (by have h1 := g_999.1; have h2 := (gi_c 1 1 (by decide)).1; have h3 := g_999.2; have h4 := (gi_c 1 1 (by decide)).2; omega) (by have h1 := g_999.1; have h2 := (gi_c 1 1 (by decide)).1; have h3 := g_999.2; have h4 := (gi_c 1 1 (by decide)).2; omega); rw [hc1] at h9; exact h9); have qgv6 := g_999.1; have rgv6 := g_999.2; have qgv4 := gv4.1; have rgv4 := gv4.2; have qgv3 := gv3.1; have rgv3 := gv3.2; omega) hP hD hS (lv_sub hl [2, 3, 4, 5, 6, 7, 0] rfl)
    · intro v3 v4 v5 w0_54 z1 H locs ls gv3 gv4 gv5 hle_gv3_gv5 hmu hP hD hS hl
      refine lv_iload hx hb dX12_laysWorth_136 (lv_at hl 5 rfl) ?_
      refine lv_aload_n hx hb dX12_laysWorth_138 rfl (lv_at hl 0 rfl) ?_
      refine va_get (D := (dC, dI)) (ci := 12) (v := .int (mi 0)) (C := RX12) (T := TX12) (N := 57) hx hb hts (fun w h => List.mem_cons_of_mem _ (jnGB_X12 w h)) hown hK hP 0 rfl rfl 0 (by decide) (hts _ (List.mem_cons_of_mem _ mGB_103)) (fun _ h9 => h9) rfl dX12_laysWorth_139 ?_
      refine lv_icmp_ge (tgt := 210) hx hb dX12_laysWorth_142 (by decide) (fun c_1016 => ?_) (fun c_1016 => ?_)
      · refine lv_aload_n hx hb dX12_laysWorth_210 rfl (lv_at hl 0 rfl) ?_
        refine va_get (D := (dC, dI)) (ci := 12) (v := .ref (mr 22)) (C := RX12) (T := TX12) (N := 57) hx hb hts (fun w h => List.mem_cons_of_mem _ (jnGB_X12 w h)) hown hK hP 0 rfl rfl 53 (by decide) (hts _ (List.mem_cons_of_mem _ mGB_38)) (fun _ h9 => h9) rfl dX12_laysWorth_211 ?_
        refine lv_iconst (v := 0) hx hb dX12_laysWorth_214 (by decide) ?_
        refine va_iald hx hb hK hP 1 0 rfl rfl (gi_in (gi_c 0 0 (by decide)) (by decide)) dX12_laysWorth_215 ?_
        refine lv_topi (fun x_1017 ex_1017 => ?_)
        exact kr216 x_1017 w0_54 z1 _ _ _ hP hD hS (lv_sub hl [] rfl)
      · have g_1018 : gi v5 0 23 := gi_lt_l (Int32.not_le.mp c_1016) gv5 gmi_0 (by decide)
        have g_1019 : gi v3 0 23 := gi_rel hle_gv3_gv5 gv3 g_1018
        have g_1020 : gi (mi 0) 1 24 := gi_lt_r (Int32.not_le.mp c_1016) gv5 gmi_0 (by decide)
        refine lv_aload_n hx hb dX12_laysWorth_145 rfl (lv_at hl 0 rfl) ?_
        refine lv_iload hx hb dX12_laysWorth_146 (lv_at hl 5 rfl) ?_
        refine lv_iload_n hx hb dX12_laysWorth_148 rfl (lv_at hl 3 rfl) ?_
        refine lv_iload hx hb dX12_laysWorth_149 (lv_at hl 4 rfl) ?_
        refine lv_iconst (v := 0) hx hb dX12_laysWorth_151 (by decide) ?_
        have hPc := hP.sub (ws' := [(h0, .inr (12, fsMM (upd mi 54 w0_54) mr)), ((mr 22), .inl (km_worth, 6875, .inl z1))]) [0, 1] rfl
        have hKc := hK.sub (tys' := [(km_worth, .int)]) [0] rfl
        refine va_calli (va_runV (As := [.int v5, .int v3, .int v4, .int 0]) (rest := []) ⟨hx, hb, hml, hown, hts⟩ (sX12_worthBy l dC dI h0 (upd mi 54 w0_54) mr km_worth z1 v5 v3 v4 0 (gi_w g_1020 (by decide)) gmi_1 gmi_2 gmi_4 gmi_7 gmi_10 gmi_17 gmi_23 gmi_24 gmi_26 gmi_29 gmi_30 gmi_33 gmi_37 gmi_41 gmi_50 gmi_51 gmi_56 g_1018 g_1019 gv4 (gi_w (gi_c 0 0 (by decide)) (by decide))) (cwV 4 hts (gz_gV mGB_563 mGB_564 mGB_565 mGB_1 mGB_566 goodGB) rfl rfl rfl (by decide +kernel) ⟨Nat.le_trans (Nat.le_of_ble_eq_true rfl) hRf, Nat.le_trans (Nat.le_of_ble_eq_true rfl) hRl⟩) ⟨fun a U g mk q => by obtain ⟨q0, qP, qK⟩ := q; exact ⟨q0, qP, va_K.moved (u := U) (U := U.calling g mk a) (Vm.Alike.refl U.vm) qK⟩, va_recv hKc hPc (ci := 12) (q0 := 0) rfl rfl, fun U hU hW => ⟨rfl, by rw [hU]; exact hPc, va_K.moved hW.alike hKc⟩⟩ rfl rfl hl.1 rfl (lv_room (Nat.le_of_ble_eq_true rfl)) dX12_laysWorth_152 ⟨hRc, hRs⟩) hS (fun q _ h => h.elim) (fun q h => h.elim) (fun r_1021 u t H1 locs ht hvm hw hB hz1 hk1 hS => ?_)
        have hP := gz_keep hP hk1
        generalize H1 = H at hP hS ⊢
        refine lv_aload_n hx hb dX12_laysWorth_155 rfl (lv_at hl 0 rfl) ?_
        refine lv_iload hx hb dX12_laysWorth_156 (lv_at hl 5 rfl) ?_
        refine lv_iload_n hx hb dX12_laysWorth_158 rfl (lv_at hl 3 rfl) ?_
        refine lv_iload hx hb dX12_laysWorth_159 (lv_at hl 4 rfl) ?_
        refine lv_iconst (v := 1) hx hb dX12_laysWorth_161 (by decide) ?_
        have hPc := hP.sub (ws' := [(h0, .inr (12, fsMM (upd mi 54 w0_54) mr)), ((mr 22), .inl (km_worth, 6875, .inl z1))]) [0, 1] rfl
        have hKc := hK.sub (tys' := [(km_worth, .int)]) [0] rfl
        refine va_calli (va_runV (As := [.int v5, .int v3, .int v4, .int 1]) (rest := [.int r_1021]) ⟨hx, hb, hml, hown, hts⟩ (sX12_worthBy l dC dI h0 (upd mi 54 w0_54) mr km_worth z1 v5 v3 v4 1 (gi_w g_1020 (by decide)) gmi_1 gmi_2 gmi_4 gmi_7 gmi_10 gmi_17 gmi_23 gmi_24 gmi_26 gmi_29 gmi_30 gmi_33 gmi_37 gmi_41 gmi_50 gmi_51 gmi_56 g_1018 g_1019 gv4 (gi_w (gi_c 1 1 (by decide)) (by decide))) (cwV 4 hts (gz_gV mGB_563 mGB_564 mGB_565 mGB_1 mGB_566 goodGB) rfl rfl rfl (by decide +kernel) ⟨Nat.le_trans (Nat.le_of_ble_eq_true rfl) hRf, Nat.le_trans (Nat.le_of_ble_eq_true rfl) hRl⟩) ⟨fun a U g mk q => by obtain ⟨q0, qP, qK⟩ := q; exact ⟨q0, qP, va_K.moved (u := U) (U := U.calling g mk a) (Vm.Alike.refl U.vm) qK⟩, va_recv hKc hPc (ci := 12) (q0 := 0) rfl rfl, fun U hU hW => ⟨rfl, by rw [hU]; exact hPc, va_K.moved hW.alike hKc⟩⟩ rfl rfl hl.1 rfl (lv_room (Nat.le_of_ble_eq_true rfl)) dX12_laysWorth_162 ⟨hRc, hRs⟩) hS (fun q _ h => h.elim) (fun q h => h.elim) (fun r_1022 u t H1 locs ht hvm hw hB hz1 hk1 hS => ?_)
        have hP := gz_keep hP hk1
        generalize H1 = H at hP hS ⊢
        refine lv_icmp_gt (tgt := 172) hx hb dX12_laysWorth_165 (by decide) (fun c_1023 => ?_) (fun c_1023 => ?_)
        · have g_1024 : gi r_1022 (-2147483648) 2147483646 := gi_lt_l c_1023 (gi_any r_1022) (gi_any r_1021) (by decide)
          have g_1025 : gi r_1021 (-2147483647) 2147483647 := gi_lt_r c_1023 (gi_any r_1022) (gi_any r_1021) (by decide)
          refine lv_iconst (v := 1) hx hb dX12_laysWorth_172 (by decide) ?_
          refine lv_istore (lv' := [(6, .int 1), (0, .ref h0), (1, .int p1), (2, .int p2), (3, .int v3), (4, .int v4), (5, .int v5)]) hx hb dX12_laysWorth_173 hl (by decide) rfl (fun ls hl => ?_)
          refine lv_aload_n hx hb dX12_laysWorth_175 rfl (lv_at hl 1 rfl) ?_
          refine lv_iload hx hb dX12_laysWorth_176 (lv_at hl 5 rfl) ?_
          refine lv_iload hx hb dX12_laysWorth_178 (lv_at hl 0 rfl) ?_
          have hPc := hP.sub (ws' := [(h0, .inr (12, fsMM (upd mi 54 w0_54) mr))]) [0] rfl
          have hKc := hK.sub (tys' := []) [] rfl
          refine va_calli (va_runV (As := [.int v4, .int 1]) (rest := []) ⟨hx, hb, hml, hown, hts⟩ (sX12_runBehind l dC dI h0 (upd mi 54 w0_54) mr v4 1 (gi_w g_1020 (by decide)) gmi_1 gmi_2 gmi_4 gmi_7 gmi_10 gmi_17 gmi_23 gmi_24 gmi_26 gmi_29 gmi_30 gmi_33 gmi_37 gmi_41 gmi_50 gmi_51 gmi_56 gv4 (gi_w (gi_c 1 1 (by decide)) (by decide))) (cwV 2 hts (gz_gV mGB_311 mGB_312 mGB_313 mGB_1 mGB_314 goodGB) rfl rfl rfl (by decide +kernel) ⟨Nat.le_trans (Nat.le_of_ble_eq_true rfl) hRf, Nat.le_trans (Nat.le_of_ble_eq_true rfl) hRl⟩) ⟨fun a U g mk q => by obtain ⟨q0, qP, qK⟩ := q; exact ⟨q0, qP, va_K.moved (u := U) (U := U.calling g mk a) (Vm.Alike.refl U.vm) qK⟩, va_recv hKc hPc (ci := 12) (q0 := 0) rfl rfl, fun U hU hW => ⟨rfl, by rw [hU]; exact hPc, va_K.moved hW.alike hKc⟩⟩ rfl rfl hl.1 rfl (lv_room (Nat.le_of_ble_eq_true rfl)) dX12_laysWorth_180 ⟨hRc, hRs⟩) hS (fun q _ h => h.elim) (fun q h => h.elim) (fun r_1026 u t H1 locs ht hvm hw hB hz1 hk1 hS => ?_)
          have hP := gz_keep hP hk1
          generalize H1 = H at hP hS ⊢
          have gr_1026 : gi r_1026 (-1) 10 := hw
          refine lv_istore (lv' := [(4, .int r_1026), (6, .int 1), (0, .ref h0), (1, .int p1), (2, .int p2), (3, .int v3), (5, .int v5)]) hx hb dX12_laysWorth_183 hl (by decide) rfl (fun ls hl => ?_)
          refine lv_iload_n hx hb dX12_laysWorth_185 rfl (lv_at hl 5 rfl) ?_
          refine lv_iload hx hb dX12_laysWorth_186 (lv_at hl 1 rfl) ?_
          refine lv_iadd hx hb dX12_laysWorth_188 ?_
          refine lv_topi (fun x_1027 ex_1027 => ?_)
          have gx_1027 : gi x_1027 1 24 := gi_add ex_1027 g_1019 (gi_c 1 1 (by decide)) (by decide)
          refine lv_istore_n (lv' := [(3, .int x_1027), (4, .int r_1026), (6, .int 1), (0, .ref h0), (1, .int p1), (2, .int p2), (5, .int v5)]) hx hb dX12_laysWorth_189 rfl hl (by decide) rfl (fun ls hl => ?_)
          refine lv_aload_n hx hb dX12_laysWorth_190 rfl (lv_at hl 3 rfl) ?_
          refine lv_dup hx hb dX12_laysWorth_191 rfl ?_
          refine va_get (D := (dC, dI)) (ci := 12) (v := .int w0_54) (C := RX12) (T := TX12) (N := 57) hx hb hts (fun w h => List.mem_cons_of_mem _ (jnGB_X12 w h)) hown hK hP 0 rfl rfl 54 (by decide) (hts _ (List.mem_cons_of_mem _ mGB_552)) (fun _ h9 => h9) rfl dX12_laysWorth_192 ?_
          refine lv_iload hx hb dX12_laysWorth_195 (lv_at hl 2 rfl) ?_
          refine lv_iload hx hb dX12_laysWorth_197 (lv_at hl 6 rfl) ?_
          refine lv_ishl hx hb dX12_laysWorth_199 ?_
          refine lv_topi (fun x_1028 ex_1028 => ?_)
          refine lv_ior hx hb dX12_laysWorth_200 ?_
          refine lv_topi (fun x_1029 ex_1029 => ?_)
          refine va_put (D := (dC, dI)) (ci := 12) (v := .int x_1029) (ty := .int) (C := RX12) (T := TX12) (N := 57) hx hb hts (fun w h => List.mem_cons_of_mem _ (jnGB_X12 w h)) tyX12 tyX12_ok nmX12 hown hK hP hD hS 0 rfl rfl 54 (by decide) (hts _ (List.mem_cons_of_mem _ mGB_552)) (fun _ h9 => h9) rfl (by decide +kernel) rfl rfl (Nat.le_of_ble_eq_true rfl) dX12_laysWorth_201 (fun H locs hP hD hS => ?_)
          have hP : va_P (dC, dI) vwCl [(h0, .inr (12, fsMM (upd mi 54 x_1029) mr)), ((mr 22), .inl (km_worth, 6875, .inl z1)), ((mr 14), .inl (km_must, 25, .inl fm_must)), ((mr 15), .inl (km_least, 25, .inl fm_least)), ((mr 16), .inl (km_pin, 25, .inl fm_pin)), ((mr 4), .inl (km_struck, 24, .inl fm_struck)), ((mr 7), .inl (km_reportKnown, 24, .inl fm_reportKnown)), ((mr 5), .inl (km_reportMonth, 24, .inl fm_reportMonth)), ((mr 3), .inl (km_reportKind, 24, .inl fm_reportKind)), ((mr 6), .inl (km_reportDay, 24, .inl fm_reportDay)), ((mr 2), .inl (km_reportPlace, 24, .inl fm_reportPlace)), ((mr 0), .inl (km_trust, 6, .inl fm_trust))] H := hP
          have hD : va_D A [(h0, .inr (12, fsMM (upd mi 54 x_1029) mr)), ((mr 22), .inl (km_worth, 6875, .inl z1)), ((mr 14), .inl (km_must, 25, .inl fm_must)), ((mr 15), .inl (km_least, 25, .inl fm_least)), ((mr 16), .inl (km_pin, 25, .inl fm_pin)), ((mr 4), .inl (km_struck, 24, .inl fm_struck)), ((mr 7), .inl (km_reportKnown, 24, .inl fm_reportKnown)), ((mr 5), .inl (km_reportMonth, 24, .inl fm_reportMonth)), ((mr 3), .inl (km_reportKind, 24, .inl fm_reportKind)), ((mr 6), .inl (km_reportDay, 24, .inl fm_reportDay)), ((mr 2), .inl (km_reportPlace, 24, .inl fm_reportPlace)), ((mr 0), .inl (km_trust, 6, .inl fm_trust))] := hD
          obtain ⟨x_1030, ex_1030⟩ : ∃ y : Int32, y = v5 + 1 := ⟨_, rfl⟩
          have gx_1030 : gi x_1030 1 24 := gi_add ex_1030 g_1018 (gi_c 1 1 (by decide)) (by decide)
          refine lv_iinc (v := x_1030) (lv' := [(5, .int x_1030), (3, .int x_1027), (4, .int r_1026), (6, .int 1), (0, .ref h0), (1, .int p1), (2, .int p2)]) hx hb dX12_laysWorth_204 hl (k := 6) rfl (by rw [ex_1030]; rfl) (by decide) rfl (fun ls hl => ?_)
          refine lv_goto (tgt := 136) hx hb dX12_laysWorth_207 (by decide) ?_
          exact ih.2.2.2 x_1027 r_1026 x_1030 x_1029 z1 _ _ _ (gi_w gx_1027 (by decide)) gr_1026 (gi_w gx_1030 (by decide)) (by have qgx_1030 := gx_1030.1; have rgx_1030 := gx_1030.2; have igx_1030 : x_1030.toInt = v5.toInt + 1 := (by have hc1 : (1 : Int32).toInt = 1 := (by decide); have h9 := gi_addI ex_1030 (by have h1 := g_1018.1; have h2 := (gi_c 1 1 (by decide)).1; have h3 := g_1018.2; have h4 := (gi_c 1 1 (by decide)).2; omega) (by have h1 := g_1018.1; have h2 := (gi_c 1 1 (by decide)).1; have h3 := g_1018.2; have h4 := (gi_c 1 1 (by decide)).2; omega); rw [hc1] at h9; exact h9); have qgv5 := g_1018.1; have rgv5 := g_1018.2; have qgx_1027 := gx_1027.1; have rgx_1027 := gx_1027.2; have igx_1027 : x_1027.toInt = v3.toInt + 1 := (by have hc1 : (1 : Int32).toInt = 1 := (by decide); have h9 := gi_addI ex_1027 (by have h1 := g_1019.1; have h2 := (gi_c 1 1 (by decide)).1; have h3 := g_1019.2; have h4 := (gi_c 1 1 (by decide)).2; omega) (by have h1 := g_1019.1; have h2 := (gi_c 1 1 (by decide)).1; have h3 := g_1019.2; have h4 := (gi_c 1 1 (by decide)).2; omega); rw [hc1] at h9; exact h9); have qgv3 := g_1019.1; have rgv3 := g_1019.2; have y1 := (Int32.lt_iff_toInt_lt.mp (Int32.not_le.mp c_1016)); have y2 := (Int32.lt_iff_toInt_lt.mp c_1023); omega) (by have av5 := gv5.1; have bv5 := gv5.2; have qgx_1030 := gx_1030.1; have rgx_1030 := gx_1030.2; have igx_1030 : x_1030.toInt = v5.toInt + 1 := (by have hc1 : (1 : Int32).toInt = 1 := (by decide); have h9 := gi_addI ex_1030 (by have h1 := g_1018.1; have h2 := (gi_c 1 1 (by decide)).1; have h3 := g_1018.2; have h4 := (gi_c 1 1 (by decide)).2; omega) (by have h1 := g_1018.1; have h2 := (gi_c 1 1 (by decide)).1; have h3 := g_1018.2; have h4 := (gi_c 1 1 (by decide)).2; omega); rw [hc1] at h9; exact h9); have qgv5 := g_1018.1; have rgv5 := g_1018.2; omega) hP hD hS (lv_sub hl [4, 5, 6, 1, 2, 0] rfl)
        · refine lv_iconst (v := 0) hx hb dX12_laysWorth_168 (by decide) ?_
          refine lv_goto (tgt := 173) hx hb dX12_laysWorth_169 (by decide) ?_
          refine lv_istore (lv' := [(6, .int 0), (0, .ref h0), (1, .int p1), (2, .int p2), (3, .int v3), (4, .int v4), (5, .int v5)]) hx hb dX12_laysWorth_173 hl (by decide) rfl (fun ls hl => ?_)
          refine lv_aload_n hx hb dX12_laysWorth_175 rfl (lv_at hl 1 rfl) ?_
          refine lv_iload hx hb dX12_laysWorth_176 (lv_at hl 5 rfl) ?_
          refine lv_iload hx hb dX12_laysWorth_178 (lv_at hl 0 rfl) ?_
          have hPc := hP.sub (ws' := [(h0, .inr (12, fsMM (upd mi 54 w0_54) mr))]) [0] rfl
          have hKc := hK.sub (tys' := []) [] rfl
          refine va_calli (va_runV (As := [.int v4, .int 0]) (rest := []) ⟨hx, hb, hml, hown, hts⟩ (sX12_runBehind l dC dI h0 (upd mi 54 w0_54) mr v4 0 (gi_w g_1020 (by decide)) gmi_1 gmi_2 gmi_4 gmi_7 gmi_10 gmi_17 gmi_23 gmi_24 gmi_26 gmi_29 gmi_30 gmi_33 gmi_37 gmi_41 gmi_50 gmi_51 gmi_56 gv4 (gi_w (gi_c 0 0 (by decide)) (by decide))) (cwV 2 hts (gz_gV mGB_311 mGB_312 mGB_313 mGB_1 mGB_314 goodGB) rfl rfl rfl (by decide +kernel) ⟨Nat.le_trans (Nat.le_of_ble_eq_true rfl) hRf, Nat.le_trans (Nat.le_of_ble_eq_true rfl) hRl⟩) ⟨fun a U g mk q => by obtain ⟨q0, qP, qK⟩ := q; exact ⟨q0, qP, va_K.moved (u := U) (U := U.calling g mk a) (Vm.Alike.refl U.vm) qK⟩, va_recv hKc hPc (ci := 12) (q0 := 0) rfl rfl, fun U hU hW => ⟨rfl, by rw [hU]; exact hPc, va_K.moved hW.alike hKc⟩⟩ rfl rfl hl.1 rfl (lv_room (Nat.le_of_ble_eq_true rfl)) dX12_laysWorth_180 ⟨hRc, hRs⟩) hS (fun q _ h => h.elim) (fun q h => h.elim) (fun r_1031 u t H1 locs ht hvm hw hB hz1 hk1 hS => ?_)
          have hP := gz_keep hP hk1
          generalize H1 = H at hP hS ⊢
          have gr_1031 : gi r_1031 (-1) 10 := hw
          refine lv_istore (lv' := [(4, .int r_1031), (6, .int 0), (0, .ref h0), (1, .int p1), (2, .int p2), (3, .int v3), (5, .int v5)]) hx hb dX12_laysWorth_183 hl (by decide) rfl (fun ls hl => ?_)
          refine lv_iload_n hx hb dX12_laysWorth_185 rfl (lv_at hl 5 rfl) ?_
          refine lv_iload hx hb dX12_laysWorth_186 (lv_at hl 1 rfl) ?_
          refine lv_iadd hx hb dX12_laysWorth_188 ?_
          refine lv_topi (fun x_1032 ex_1032 => ?_)
          have gx_1032 : gi x_1032 0 23 := gi_add ex_1032 g_1019 (gi_c 0 0 (by decide)) (by decide)
          refine lv_istore_n (lv' := [(3, .int x_1032), (4, .int r_1031), (6, .int 0), (0, .ref h0), (1, .int p1), (2, .int p2), (5, .int v5)]) hx hb dX12_laysWorth_189 rfl hl (by decide) rfl (fun ls hl => ?_)
          refine lv_aload_n hx hb dX12_laysWorth_190 rfl (lv_at hl 3 rfl) ?_
          refine lv_dup hx hb dX12_laysWorth_191 rfl ?_
          refine va_get (D := (dC, dI)) (ci := 12) (v := .int w0_54) (C := RX12) (T := TX12) (N := 57) hx hb hts (fun w h => List.mem_cons_of_mem _ (jnGB_X12 w h)) hown hK hP 0 rfl rfl 54 (by decide) (hts _ (List.mem_cons_of_mem _ mGB_552)) (fun _ h9 => h9) rfl dX12_laysWorth_192 ?_
          refine lv_iload hx hb dX12_laysWorth_195 (lv_at hl 2 rfl) ?_
          refine lv_iload hx hb dX12_laysWorth_197 (lv_at hl 6 rfl) ?_
          refine lv_ishl hx hb dX12_laysWorth_199 ?_
          refine lv_topi (fun x_1033 ex_1033 => ?_)
          refine lv_ior hx hb dX12_laysWorth_200 ?_
          refine lv_topi (fun x_1034 ex_1034 => ?_)
          refine va_put (D := (dC, dI)) (ci := 12) (v := .int x_1034) (ty := .int) (C := RX12) (T := TX12) (N := 57) hx hb hts (fun w h => List.mem_cons_of_mem _ (jnGB_X12 w h)) tyX12 tyX12_ok nmX12 hown hK hP hD hS 0 rfl rfl 54 (by decide) (hts _ (List.mem_cons_of_mem _ mGB_552)) (fun _ h9 => h9) rfl (by decide +kernel) rfl rfl (Nat.le_of_ble_eq_true rfl) dX12_laysWorth_201 (fun H locs hP hD hS => ?_)
          have hP : va_P (dC, dI) vwCl [(h0, .inr (12, fsMM (upd mi 54 x_1034) mr)), ((mr 22), .inl (km_worth, 6875, .inl z1)), ((mr 14), .inl (km_must, 25, .inl fm_must)), ((mr 15), .inl (km_least, 25, .inl fm_least)), ((mr 16), .inl (km_pin, 25, .inl fm_pin)), ((mr 4), .inl (km_struck, 24, .inl fm_struck)), ((mr 7), .inl (km_reportKnown, 24, .inl fm_reportKnown)), ((mr 5), .inl (km_reportMonth, 24, .inl fm_reportMonth)), ((mr 3), .inl (km_reportKind, 24, .inl fm_reportKind)), ((mr 6), .inl (km_reportDay, 24, .inl fm_reportDay)), ((mr 2), .inl (km_reportPlace, 24, .inl fm_reportPlace)), ((mr 0), .inl (km_trust, 6, .inl fm_trust))] H := hP
          have hD : va_D A [(h0, .inr (12, fsMM (upd mi 54 x_1034) mr)), ((mr 22), .inl (km_worth, 6875, .inl z1)), ((mr 14), .inl (km_must, 25, .inl fm_must)), ((mr 15), .inl (km_least, 25, .inl fm_least)), ((mr 16), .inl (km_pin, 25, .inl fm_pin)), ((mr 4), .inl (km_struck, 24, .inl fm_struck)), ((mr 7), .inl (km_reportKnown, 24, .inl fm_reportKnown)), ((mr 5), .inl (km_reportMonth, 24, .inl fm_reportMonth)), ((mr 3), .inl (km_reportKind, 24, .inl fm_reportKind)), ((mr 6), .inl (km_reportDay, 24, .inl fm_reportDay)), ((mr 2), .inl (km_reportPlace, 24, .inl fm_reportPlace)), ((mr 0), .inl (km_trust, 6, .inl fm_trust))] := hD
          obtain ⟨x_1035, ex_1035⟩ : ∃ y : Int32, y = v5 + 1 := ⟨_, rfl⟩
          have gx_1035 : gi x_1035 1 24 := gi_add ex_1035 g_1018 (gi_c 1 1 (by decide)) (by decide)
          refine lv_iinc (v := x_1035) (lv' := [(5, .int x_1035), (3, .int x_1032), (4, .int r_1031), (6, .int 0), (0, .ref h0), (1, .int p1), (2, .int p2)]) hx hb dX12_laysWorth_204 hl (k := 6) rfl (by rw [ex_1035]; rfl) (by decide) rfl (fun ls hl => ?_)
          refine lv_goto (tgt := 136) hx hb dX12_laysWorth_207 (by decide) ?_
          exact ih.2.2.2 x_1032 r_1031 x_1035 x_1034 z1 _ _ _ (gi_w gx_1032 (by decide)) gr_1031 (gi_w gx_1035 (by decide)) (by have qgx_1035 := gx_1035.1; have rgx_1035 := gx_1035.2; have igx_1035 : x_1035.toInt = v5.toInt + 1 := (by have hc1 : (1 : Int32).toInt = 1 := (by decide); have h9 := gi_addI ex_1035 (by have h1 := g_1018.1; have h2 := (gi_c 1 1 (by decide)).1; have h3 := g_1018.2; have h4 := (gi_c 1 1 (by decide)).2; omega) (by have h1 := g_1018.1; have h2 := (gi_c 1 1 (by decide)).1; have h3 := g_1018.2; have h4 := (gi_c 1 1 (by decide)).2; omega); rw [hc1] at h9; exact h9); have qgv5 := g_1018.1; have rgv5 := g_1018.2; have qgx_1032 := gx_1032.1; have rgx_1032 := gx_1032.2; have igx_1032 : x_1032.toInt = v3.toInt + 0 := (by have hc0 : (0 : Int32).toInt = 0 := (by decide); have h9 := gi_addI ex_1032 (by have h1 := g_1019.1; have h2 := (gi_c 0 0 (by decide)).1; have h3 := g_1019.2; have h4 := (gi_c 0 0 (by decide)).2; omega) (by have h1 := g_1019.1; have h2 := (gi_c 0 0 (by decide)).1; have h3 := g_1019.2; have h4 := (gi_c 0 0 (by decide)).2; omega); rw [hc0] at h9; exact h9); have qgv3 := g_1019.1; have rgv3 := g_1019.2; have y1 := (Int32.lt_iff_toInt_lt.mp (Int32.not_le.mp c_1016)); have y2 := (Int32.le_iff_toInt_le.mp (Int32.not_lt.mp c_1023)); omega) (by have av5 := gv5.1; have bv5 := gv5.2; have qgx_1035 := gx_1035.1; have rgx_1035 := gx_1035.2; have igx_1035 : x_1035.toInt = v5.toInt + 1 := (by have hc1 : (1 : Int32).toInt = 1 := (by decide); have h9 := gi_addI ex_1035 (by have h1 := g_1018.1; have h2 := (gi_c 1 1 (by decide)).1; have h3 := g_1018.2; have h4 := (gi_c 1 1 (by decide)).2; omega) (by have h1 := g_1018.1; have h2 := (gi_c 1 1 (by decide)).1; have h3 := g_1018.2; have h4 := (gi_c 1 1 (by decide)).2; omega); rw [hc1] at h9; exact h9); have qgv5 := g_1018.1; have rgv5 := g_1018.2; omega) hP hD hS (lv_sub hl [4, 5, 6, 1, 2, 0] rfl)
set_option maxHeartbeats 4000000 in
set_option maxRecDepth 100000 in
theorem sX12_laysWorth (l : Launch) (dC : Nat → ClassId) (dI : Nat → Nat → Nat) (sz : Nat) (h0 : Nat) (mi : Nat → Int32) (mr : Nat → Nat) (km_worth : ClassId) (fm_worth : Nat → Int32) (km_must : ClassId) (fm_must : Nat → Int32) (km_least : ClassId) (fm_least : Nat → Int32) (km_pin : ClassId) (fm_pin : Nat → Int32) (km_struck : ClassId) (fm_struck : Nat → Int32) (km_reportKnown : ClassId) (fm_reportKnown : Nat → Int32) (km_reportMonth : ClassId) (fm_reportMonth : Nat → Int32) (km_reportKind : ClassId) (fm_reportKind : Nat → Int32) (km_reportDay : ClassId) (fm_reportDay : Nat → Int32) (km_reportPlace : ClassId) (fm_reportPlace : Nat → Int32) (km_trust : ClassId) (fm_trust : Nat → Int32) (p1 : Int32) (p2 : Int32) (gmi_0 : gi (mi 0) 0 24) (gmi_1 : gi (mi 1) 0 5) (gmi_2 : gi (mi 2) 0 5) (gmi_4 : gi (mi 4) 0 1) (gmi_7 : gi (mi 7) 0 6) (gmi_10 : gi (mi 10) 0 24) (gmi_17 : gi (mi 17) 0 8) (gmi_23 : gi (mi 23) 0 300) (gmi_24 : gi (mi 24) 0 1) (gmi_26 : gi (mi 26) 0 1600) (gmi_29 : gi (mi 29) 0 1600) (gmi_30 : gi (mi 30) 0 1600) (gmi_33 : gi (mi 33) 0 1) (gmi_37 : gi (mi 37) 0 1) (gmi_41 : gi (mi 41) 0 24) (gmi_50 : gi (mi 50) 0 1) (gmi_51 : gi (mi 51) 0 1) (gmi_56 : gi (mi 56) 0 80) (gfm_struck : ga fm_struck 24 0 1) (gfm_reportKnown : ga fm_reportKnown 24 0 999) (gfm_reportMonth : ga fm_reportMonth 24 0 23) (gfm_reportDay : ga fm_reportDay 24 0 999) (gfm_reportPlace : ga fm_reportPlace 24 0 5) (gp2 : gi p2 0 1) : Met l yX12_laysWorth (.code yX12_laysWorth cX12_laysWorth 8 (some .int) :: wsGB) ({ frames := 2, cells := 0, slots := 0, locals := 49 }) (va_Pc [.ref h0, .int p1, .int p2] (fun U => U.heap.size = sz ∧ va_P (dC, dI) vwCl [(h0, .inr (12, fsMM mi mr)), ((mr 22), .inl (km_worth, 6875, .inl fm_worth)), ((mr 14), .inl (km_must, 25, .inl fm_must)), ((mr 15), .inl (km_least, 25, .inl fm_least)), ((mr 16), .inl (km_pin, 25, .inl fm_pin)), ((mr 4), .inl (km_struck, 24, .inl fm_struck)), ((mr 7), .inl (km_reportKnown, 24, .inl fm_reportKnown)), ((mr 5), .inl (km_reportMonth, 24, .inl fm_reportMonth)), ((mr 3), .inl (km_reportKind, 24, .inl fm_reportKind)), ((mr 6), .inl (km_reportDay, 24, .inl fm_reportDay)), ((mr 2), .inl (km_reportPlace, 24, .inl fm_reportPlace)), ((mr 0), .inl (km_trust, 6, .inl fm_trust))] U.heap ∧ va_K (dC, dI) vwCl [(km_worth, .int), (km_must, .int), (km_least, .int), (km_pin, .int), (km_struck, .boolean), (km_reportKnown, .int), (km_reportMonth, .int), (km_reportKind, .int), (km_reportDay, .int), (km_reportPlace, .int), (km_trust, .int)] U ∧ va_D (fun _ => True) [(h0, .inr (12, fsMM mi mr)), ((mr 22), .inl (km_worth, 6875, .inl fm_worth)), ((mr 14), .inl (km_must, 25, .inl fm_must)), ((mr 15), .inl (km_least, 25, .inl fm_least)), ((mr 16), .inl (km_pin, 25, .inl fm_pin)), ((mr 4), .inl (km_struck, 24, .inl fm_struck)), ((mr 7), .inl (km_reportKnown, 24, .inl fm_reportKnown)), ((mr 5), .inl (km_reportMonth, 24, .inl fm_reportMonth)), ((mr 3), .inl (km_reportKind, 24, .inl fm_reportKind)), ((mr 6), .inl (km_reportDay, 24, .inl fm_reportDay)), ((mr 2), .inl (km_reportPlace, 24, .inl fm_reportPlace)), ((mr 0), .inl (km_trust, 6, .inl fm_trust))])) (va_Qi (fun (r : Int32) (u : Unit) => gi r (-2147483648) 2147483647) (fun _ t => ∃ (w0_54 : Int32) (z1 : Nat → Int32), va_P (dC, dI) vwCl [(h0, .inr (12, fsMM (upd mi 54 w0_54) mr)), ((mr 22), .inl (km_worth, 6875, .inl z1)), ((mr 14), .inl (km_must, 25, .inl fm_must)), ((mr 15), .inl (km_least, 25, .inl fm_least)), ((mr 16), .inl (km_pin, 25, .inl fm_pin)), ((mr 4), .inl (km_struck, 24, .inl fm_struck)), ((mr 7), .inl (km_reportKnown, 24, .inl fm_reportKnown)), ((mr 5), .inl (km_reportMonth, 24, .inl fm_reportMonth)), ((mr 3), .inl (km_reportKind, 24, .inl fm_reportKind)), ((mr 6), .inl (km_reportDay, 24, .inl fm_reportDay)), ((mr 2), .inl (km_reportPlace, 24, .inl fm_reportPlace)), ((mr 0), .inl (km_trust, 6, .inl fm_trust))] t.heap ∧ va_D (va_A [(h0, .inr (12, fsMM mi mr)), ((mr 22), .inl (km_worth, 6875, .inl fm_worth)), ((mr 14), .inl (km_must, 25, .inl fm_must)), ((mr 15), .inl (km_least, 25, .inl fm_least)), ((mr 16), .inl (km_pin, 25, .inl fm_pin)), ((mr 4), .inl (km_struck, 24, .inl fm_struck)), ((mr 7), .inl (km_reportKnown, 24, .inl fm_reportKnown)), ((mr 5), .inl (km_reportMonth, 24, .inl fm_reportMonth)), ((mr 3), .inl (km_reportKind, 24, .inl fm_reportKind)), ((mr 6), .inl (km_reportDay, 24, .inl fm_reportDay)), ((mr 2), .inl (km_reportPlace, 24, .inl fm_reportPlace)), ((mr 0), .inl (km_trust, 6, .inl fm_trust))] sz) [(h0, .inr (12, fsMM (upd mi 54 w0_54) mr)), ((mr 22), .inl (km_worth, 6875, .inl z1)), ((mr 14), .inl (km_must, 25, .inl fm_must)), ((mr 15), .inl (km_least, 25, .inl fm_least)), ((mr 16), .inl (km_pin, 25, .inl fm_pin)), ((mr 4), .inl (km_struck, 24, .inl fm_struck)), ((mr 7), .inl (km_reportKnown, 24, .inl fm_reportKnown)), ((mr 5), .inl (km_reportMonth, 24, .inl fm_reportMonth)), ((mr 3), .inl (km_reportKind, 24, .inl fm_reportKind)), ((mr 6), .inl (km_reportDay, 24, .inl fm_reportDay)), ((mr 2), .inl (km_reportPlace, 24, .inl fm_reportPlace)), ((mr 0), .inl (km_trust, 6, .inl fm_trust))]) (va_A [(h0, .inr (12, fsMM mi mr)), ((mr 22), .inl (km_worth, 6875, .inl fm_worth)), ((mr 14), .inl (km_must, 25, .inl fm_must)), ((mr 15), .inl (km_least, 25, .inl fm_least)), ((mr 16), .inl (km_pin, 25, .inl fm_pin)), ((mr 4), .inl (km_struck, 24, .inl fm_struck)), ((mr 7), .inl (km_reportKnown, 24, .inl fm_reportKnown)), ((mr 5), .inl (km_reportMonth, 24, .inl fm_reportMonth)), ((mr 3), .inl (km_reportKind, 24, .inl fm_reportKind)), ((mr 6), .inl (km_reportDay, 24, .inl fm_reportDay)), ((mr 2), .inl (km_reportPlace, 24, .inl fm_reportPlace)), ((mr 0), .inl (km_trust, 6, .inl fm_trust))] sz)) 0 0 (va_A [(h0, .inr (12, fsMM mi mr)), ((mr 22), .inl (km_worth, 6875, .inl fm_worth)), ((mr 14), .inl (km_must, 25, .inl fm_must)), ((mr 15), .inl (km_least, 25, .inl fm_least)), ((mr 16), .inl (km_pin, 25, .inl fm_pin)), ((mr 4), .inl (km_struck, 24, .inl fm_struck)), ((mr 7), .inl (km_reportKnown, 24, .inl fm_reportKnown)), ((mr 5), .inl (km_reportMonth, 24, .inl fm_reportMonth)), ((mr 3), .inl (km_reportKind, 24, .inl fm_reportKind)), ((mr 6), .inl (km_reportDay, 24, .inl fm_reportDay)), ((mr 2), .inl (km_reportPlace, 24, .inl fm_reportPlace)), ((mr 0), .inl (km_trust, 6, .inl fm_trust))] sz) := by
  refine Met.ofW (cc := cX12_laysWorth) (maxL := 8) (ret := (some .int)) (by decide) rfl ?_
  intro p e s m args below meth c s₁ B hml hv
  obtain ⟨rfl, hsz, hP, hK, hD0⟩ := hv
  have hx := B.exec
  have hb := B.bytes
  have hr := B.returns
  have hts := atoms_spec (ws := (.code yX12_laysWorth cX12_laysWorth 8 (some .int) :: wsGB)) B.pre
  have hown : s.vm.findClass RX12 = some m.cls := findClass_of_methodNamed B.named
  have hlocks := B.notSynchronized
  subst hsz
  have hD := hD0.self (sz := s.heap.size)
  generalize hAe : va_A [(h0, .inr (12, fsMM mi mr)), ((mr 22), .inl (km_worth, 6875, .inl fm_worth)), ((mr 14), .inl (km_must, 25, .inl fm_must)), ((mr 15), .inl (km_least, 25, .inl fm_least)), ((mr 16), .inl (km_pin, 25, .inl fm_pin)), ((mr 4), .inl (km_struck, 24, .inl fm_struck)), ((mr 7), .inl (km_reportKnown, 24, .inl fm_reportKnown)), ((mr 5), .inl (km_reportMonth, 24, .inl fm_reportMonth)), ((mr 3), .inl (km_reportKind, 24, .inl fm_reportKind)), ((mr 6), .inl (km_reportDay, 24, .inl fm_reportDay)), ((mr 2), .inl (km_reportPlace, 24, .inl fm_reportPlace)), ((mr 0), .inl (km_trust, 6, .inl fm_trust))] s.heap.size = A at hD ⊢
  have hA : ∀ q : Nat, s.heap.size ≤ q → A q := fun q h => by rw [← hAe]; exact Or.inr h
  have hS : va_S A s.heap s.heap [] := va_S.rf
  have hl := lv_entry ([.ref h0, .int p1, .int p2]) (n := 8) (Nat.le_of_ble_eq_true rfl)
  rw [lg_entry_eq]
  generalize (lg_sl ([.ref h0, .int p1, .int p2]) ++ List.replicate (8 - (lg_sl ([.ref h0, .int p1, .int p2])).length) Slot.unset).toArray = ls at hl ⊢
  have hl : lv_has ls 8 [(0, .ref h0), (1, .int p1), (2, .int p2)] := hl
  refine lv_aload_n hx hb dX12_laysWorth_0 rfl (lv_at hl 0 rfl) ?_
  refine va_get (D := (dC, dI)) (ci := 12) (v := .int (mi 0)) (C := RX12) (T := TX12) (N := 57) hx hb hts (fun w h => List.mem_cons_of_mem _ (jnGB_X12 w h)) hown hK hP 0 rfl rfl 0 (by decide) (hts _ (List.mem_cons_of_mem _ mGB_103)) (fun _ h9 => h9) rfl dX12_laysWorth_1 ?_
  refine lv_istore_n (lv' := [(3, .int (mi 0)), (0, .ref h0), (1, .int p1), (2, .int p2)]) hx hb dX12_laysWorth_4 rfl hl (by decide) rfl (fun ls hl => ?_)
  refine (lp_sX12_laysWorth h0 mi mr km_worth fm_worth km_must fm_must km_least fm_least km_pin fm_pin km_struck fm_struck km_reportKnown fm_reportKnown km_reportMonth fm_reportMonth km_reportKind fm_reportKind km_reportDay fm_reportDay km_reportPlace fm_reportPlace km_trust fm_trust p1 p2 gmi_0 gmi_1 gmi_2 gmi_4 gmi_7 gmi_10 gmi_17 gmi_23 gmi_24 gmi_26 gmi_29 gmi_30 gmi_33 gmi_37 gmi_41 gmi_50 gmi_51 gmi_56 gfm_struck gfm_reportKnown gfm_reportMonth gfm_reportDay gfm_reportPlace gp2 hx hb hml hown hts hK hA (Nat.le_of_ble_eq_true rfl) (Nat.le_of_ble_eq_true rfl) (Nat.zero_le _) (Nat.zero_le _) (fun v w0_54 z1 H locs ls hP hD hS hl => ?_) 20528).1 (mi 0) fm_worth _ _ _ (gi_w gmi_0 (by decide)) (by have qgmi_0 := gmi_0.1; have rgmi_0 := gmi_0.2; omega) (by have qgmi_0 := gmi_0.1; have rgmi_0 := gmi_0.2; omega) hP hD hS (lv_sub hl [1, 2, 3, 0] rfl)
  · skip
    exact W.iret (v := v) hx hb hr (fun t ht hW => ⟨⟨v, (), rfl, (gi_any v), w0_54, z1, by rw [ht]; exact hP, hD⟩, hS.F ht⟩) hS.2.2 dX12_laysWorth_216
