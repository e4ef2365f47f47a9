theorem dX12_laysWorth_0 : decode cX12_laysWorth 0 = .ok (.aload_n 0, 1) := by decide +kernel
theorem dX12_laysWorth_1 : decode cX12_laysWorth 1 = .ok (.getfield 117, 3) := by decide +kernel
theorem dX12_laysWorth_4 : decode cX12_laysWorth 4 = .ok (.istore_n 3, 1) := by decide +kernel
theorem dX12_laysWorth_5 : decode cX12_laysWorth 5 = .ok (.iload_n 3, 1) := by decide +kernel
theorem dX12_laysWorth_6 : decode cX12_laysWorth 6 = .ok (.ifCond .lt 117, 3) := by decide +kernel
theorem dX12_laysWorth_9 : decode cX12_laysWorth 9 = .ok (.iconst 0, 1) := by decide +kernel
theorem dX12_laysWorth_10 : decode cX12_laysWorth 10 = .ok (.istore 4, 2) := by decide +kernel
theorem dX12_laysWorth_12 : decode cX12_laysWorth 12 = .ok (.iload 4, 2) := by decide +kernel
theorem dX12_laysWorth_14 : decode cX12_laysWorth 14 = .ok (.iload_n 3, 1) := by decide +kernel
theorem dX12_laysWorth_15 : decode cX12_laysWorth 15 = .ok (.if_icmp .gt 102, 3) := by decide +kernel
theorem dX12_laysWorth_18 : decode cX12_laysWorth 18 = .ok (.aload_n 0, 1) := by decide +kernel
theorem dX12_laysWorth_19 : decode cX12_laysWorth 19 = .ok (.iload_n 3, 1) := by decide +kernel
theorem dX12_laysWorth_20 : decode cX12_laysWorth 20 = .ok (.bipush 29, 2) := by decide +kernel
theorem dX12_laysWorth_22 : decode cX12_laysWorth 22 = .ok (.iload_n 3, 1) := by decide +kernel
theorem dX12_laysWorth_23 : decode cX12_laysWorth 23 = .ok (.imul, 1) := by decide +kernel
theorem dX12_laysWorth_24 : decode cX12_laysWorth 24 = .ok (.iload 4, 2) := by decide +kernel
theorem dX12_laysWorth_26 : decode cX12_laysWorth 26 = .ok (.iadd, 1) := by decide +kernel
theorem dX12_laysWorth_27 : decode cX12_laysWorth 27 = .ok (.iload_n 1, 1) := by decide +kernel
theorem dX12_laysWorth_28 : decode cX12_laysWorth 28 = .ok (.iload_n 2, 1) := by decide +kernel
theorem dX12_laysWorth_29 : decode cX12_laysWorth 29 = .ok (.invokevirtual 472, 3) := by decide +kernel
theorem dX12_laysWorth_32 : decode cX12_laysWorth 32 = .ok (.istore 5, 2) := by decide +kernel
theorem dX12_laysWorth_34 : decode cX12_laysWorth 34 = .ok (.iconst 0, 1) := by decide +kernel
theorem dX12_laysWorth_35 : decode cX12_laysWorth 35 = .ok (.istore 6, 2) := by decide +kernel
theorem dX12_laysWorth_37 : decode cX12_laysWorth 37 = .ok (.iload 6, 2) := by decide +kernel
theorem dX12_laysWorth_39 : decode cX12_laysWorth 39 = .ok (.bipush 10, 2) := by decide +kernel
theorem dX12_laysWorth_41 : decode cX12_laysWorth 41 = .ok (.if_icmp .gt 70, 3) := by decide +kernel
theorem dX12_laysWorth_44 : decode cX12_laysWorth 44 = .ok (.iload_n 3, 1) := by decide +kernel
theorem dX12_laysWorth_45 : decode cX12_laysWorth 45 = .ok (.aload_n 0, 1) := by decide +kernel
theorem dX12_laysWorth_46 : decode cX12_laysWorth 46 = .ok (.getfield 117, 3) := by decide +kernel
theorem dX12_laysWorth_49 : decode cX12_laysWorth 49 = .ok (.if_icmp .ne 7, 3) := by decide +kernel
theorem dX12_laysWorth_52 : decode cX12_laysWorth 52 = .ok (.iconst 0, 1) := by decide +kernel
theorem dX12_laysWorth_53 : decode cX12_laysWorth 53 = .ok (.goto 26, 3) := by decide +kernel
theorem dX12_laysWorth_56 : decode cX12_laysWorth 56 = .ok (.aload_n 0, 1) := by decide +kernel
theorem dX12_laysWorth_57 : decode cX12_laysWorth 57 = .ok (.iload_n 3, 1) := by decide +kernel
theorem dX12_laysWorth_58 : decode cX12_laysWorth 58 = .ok (.iload 4, 2) := by decide +kernel
theorem dX12_laysWorth_60 : decode cX12_laysWorth 60 = .ok (.iload 6, 2) := by decide +kernel
theorem dX12_laysWorth_62 : decode cX12_laysWorth 62 = .ok (.iconst 0, 1) := by decide +kernel
theorem dX12_laysWorth_63 : decode cX12_laysWorth 63 = .ok (.invokevirtual 476, 3) := by decide +kernel
theorem dX12_laysWorth_66 : decode cX12_laysWorth 66 = .ok (.aload_n 0, 1) := by decide +kernel
theorem dX12_laysWorth_67 : decode cX12_laysWorth 67 = .ok (.iload_n 3, 1) := by decide +kernel
theorem dX12_laysWorth_68 : decode cX12_laysWorth 68 = .ok (.iload 4, 2) := by decide +kernel
theorem dX12_laysWorth_70 : decode cX12_laysWorth 70 = .ok (.iload 6, 2) := by decide +kernel
theorem dX12_laysWorth_72 : decode cX12_laysWorth 72 = .ok (.iconst 1, 1) := by decide +kernel
theorem dX12_laysWorth_73 : decode cX12_laysWorth 73 = .ok (.invokevirtual 476, 3) := by decide +kernel
theorem dX12_laysWorth_76 : decode cX12_laysWorth 76 = .ok (.invokestatic 168, 3) := by decide +kernel
theorem dX12_laysWorth_79 : decode cX12_laysWorth 79 = .ok (.istore 7, 2) := by decide +kernel
theorem dX12_laysWorth_81 : decode cX12_laysWorth 81 = .ok (.aload_n 0, 1) := by decide +kernel
theorem dX12_laysWorth_82 : decode cX12_laysWorth 82 = .ok (.getfield 93, 3) := by decide +kernel
theorem dX12_laysWorth_85 : decode cX12_laysWorth 85 = .ok (.iload_n 3, 1) := by decide +kernel
theorem dX12_laysWorth_86 : decode cX12_laysWorth 86 = .ok (.iload 4, 2) := by decide +kernel
theorem dX12_laysWorth_88 : decode cX12_laysWorth 88 = .ok (.iload 6, 2) := by decide +kernel
theorem dX12_laysWorth_90 : decode cX12_laysWorth 90 = .ok (.invokestatic 321, 3) := by decide +kernel
theorem dX12_laysWorth_93 : decode cX12_laysWorth 93 = .ok (.ldc_w 468, 3) := by decide +kernel
theorem dX12_laysWorth_96 : decode cX12_laysWorth 96 = .ok (.iload 5, 2) := by decide +kernel
theorem dX12_laysWorth_98 : decode cX12_laysWorth 98 = .ok (.iload 7, 2) := by decide +kernel
theorem dX12_laysWorth_100 : decode cX12_laysWorth 100 = .ok (.iadd, 1) := by decide +kernel
theorem dX12_laysWorth_101 : decode cX12_laysWorth 101 = .ok (.invokestatic 168, 3) := by decide +kernel
theorem dX12_laysWorth_104 : decode cX12_laysWorth 104 = .ok (.iastore, 1) := by decide +kernel
theorem dX12_laysWorth_105 : decode cX12_laysWorth 105 = .ok (.iinc 6 1, 3) := by decide +kernel
theorem dX12_laysWorth_108 : decode cX12_laysWorth 108 = .ok (.goto (-71), 3) := by decide +kernel
theorem dX12_laysWorth_111 : decode cX12_laysWorth 111 = .ok (.iinc 4 1, 3) := by decide +kernel
theorem dX12_laysWorth_114 : decode cX12_laysWorth 114 = .ok (.goto (-102), 3) := by decide +kernel
theorem dX12_laysWorth_117 : decode cX12_laysWorth 117 = .ok (.iinc 3 (-1), 3) := by decide +kernel
theorem dX12_laysWorth_120 : decode cX12_laysWorth 120 = .ok (.goto (-115), 3) := by decide +kernel
theorem dX12_laysWorth_123 : decode cX12_laysWorth 123 = .ok (.aload_n 0, 1) := by decide +kernel
theorem dX12_laysWorth_124 : decode cX12_laysWorth 124 = .ok (.iconst 0, 1) := by decide +kernel
theorem dX12_laysWorth_125 : decode cX12_laysWorth 125 = .ok (.putfield 479, 3) := by decide +kernel
theorem dX12_laysWorth_128 : decode cX12_laysWorth 128 = .ok (.iconst 0, 1) := by decide +kernel
theorem dX12_laysWorth_129 : decode cX12_laysWorth 129 = .ok (.istore_n 3, 1) := by decide +kernel
theorem dX12_laysWorth_130 : decode cX12_laysWorth 130 = .ok (.iconst 0, 1) := by decide +kernel
theorem dX12_laysWorth_131 : decode cX12_laysWorth 131 = .ok (.istore 4, 2) := by decide +kernel
theorem dX12_laysWorth_133 : decode cX12_laysWorth 133 = .ok (.iconst 0, 1) := by decide +kernel
theorem dX12_laysWorth_134 : decode cX12_laysWorth 134 = .ok (.istore 5, 2) := by decide +kernel
theorem dX12_laysWorth_136 : decode cX12_laysWorth 136 = .ok (.iload 5, 2) := by decide +kernel
theorem dX12_laysWorth_138 : decode cX12_laysWorth 138 = .ok (.aload_n 0, 1) := by decide +kernel
theorem dX12_laysWorth_139 : decode cX12_laysWorth 139 = .ok (.getfield 117, 3) := by decide +kernel
theorem dX12_laysWorth_142 : decode cX12_laysWorth 142 = .ok (.if_icmp .ge 68, 3) := by decide +kernel
theorem dX12_laysWorth_145 : decode cX12_laysWorth 145 = .ok (.aload_n 0, 1) := by decide +kernel
theorem dX12_laysWorth_146 : decode cX12_laysWorth 146 = .ok (.iload 5, 2) := by decide +kernel
theorem dX12_laysWorth_148 : decode cX12_laysWorth 148 = .ok (.iload_n 3, 1) := by decide +kernel
theorem dX12_laysWorth_149 : decode cX12_laysWorth 149 = .ok (.iload 4, 2) := by decide +kernel
theorem dX12_laysWorth_151 : decode cX12_laysWorth 151 = .ok (.iconst 0, 1) := by decide +kernel
theorem dX12_laysWorth_152 : decode cX12_laysWorth 152 = .ok (.invokevirtual 476, 3) := by decide +kernel
theorem dX12_laysWorth_155 : decode cX12_laysWorth 155 = .ok (.aload_n 0, 1) := by decide +kernel
theorem dX12_laysWorth_156 : decode cX12_laysWorth 156 = .ok (.iload 5, 2) := by decide +kernel
theorem dX12_laysWorth_158 : decode cX12_laysWorth 158 = .ok (.iload_n 3, 1) := by decide +kernel
theorem dX12_laysWorth_159 : decode cX12_laysWorth 159 = .ok (.iload 4, 2) := by decide +kernel
theorem dX12_laysWorth_161 : decode cX12_laysWorth 161 = .ok (.iconst 1, 1) := by decide +kernel
theorem dX12_laysWorth_162 : decode cX12_laysWorth 162 = .ok (.invokevirtual 476, 3) := by decide +kernel
theorem dX12_laysWorth_165 : decode cX12_laysWorth 165 = .ok (.if_icmp .gt 7, 3) := by decide +kernel
theorem dX12_laysWorth_168 : decode cX12_laysWorth 168 = .ok (.iconst 0, 1) := by decide +kernel
theorem dX12_laysWorth_169 : decode cX12_laysWorth 169 = .ok (.goto 4, 3) := by decide +kernel
theorem dX12_laysWorth_172 : decode cX12_laysWorth 172 = .ok (.iconst 1, 1) := by decide +kernel
theorem dX12_laysWorth_173 : decode cX12_laysWorth 173 = .ok (.istore 6, 2) := by decide +kernel
theorem dX12_laysWorth_175 : decode cX12_laysWorth 175 = .ok (.aload_n 0, 1) := by decide +kernel
theorem dX12_laysWorth_176 : decode cX12_laysWorth 176 = .ok (.iload 4, 2) := by decide +kernel
theorem dX12_laysWorth_178 : decode cX12_laysWorth 178 = .ok (.iload 6, 2) := by decide +kernel
theorem dX12_laysWorth_180 : decode cX12_laysWorth 180 = .ok (.invokevirtual 318, 3) := by decide +kernel
theorem dX12_laysWorth_183 : decode cX12_laysWorth 183 = .ok (.istore 4, 2) := by decide +kernel
theorem dX12_laysWorth_185 : decode cX12_laysWorth 185 = .ok (.iload_n 3, 1) := by decide +kernel
theorem dX12_laysWorth_186 : decode cX12_laysWorth 186 = .ok (.iload 6, 2) := by decide +kernel
theorem dX12_laysWorth_188 : decode cX12_laysWorth 188 = .ok (.iadd, 1) := by decide +kernel
theorem dX12_laysWorth_189 : decode cX12_laysWorth 189 = .ok (.istore_n 3, 1) := by decide +kernel
theorem dX12_laysWorth_190 : decode cX12_laysWorth 190 = .ok (.aload_n 0, 1) := by decide +kernel
theorem dX12_laysWorth_191 : decode cX12_laysWorth 191 = .ok (.dup, 1) := by decide +kernel
theorem dX12_laysWorth_192 : decode cX12_laysWorth 192 = .ok (.getfield 479, 3) := by decide +kernel
theorem dX12_laysWorth_195 : decode cX12_laysWorth 195 = .ok (.iload 6, 2) := by decide +kernel
theorem dX12_laysWorth_197 : decode cX12_laysWorth 197 = .ok (.iload 5, 2) := by decide +kernel
theorem dX12_laysWorth_199 : decode cX12_laysWorth 199 = .ok (.ishl, 1) := by decide +kernel
theorem dX12_laysWorth_200 : decode cX12_laysWorth 200 = .ok (.ior, 1) := by decide +kernel
theorem dX12_laysWorth_201 : decode cX12_laysWorth 201 = .ok (.putfield 479, 3) := by decide +kernel
theorem dX12_laysWorth_204 : decode cX12_laysWorth 204 = .ok (.iinc 5 1, 3) := by decide +kernel
theorem dX12_laysWorth_207 : decode cX12_laysWorth 207 = .ok (.goto (-71), 3) := by decide +kernel
theorem dX12_laysWorth_210 : decode cX12_laysWorth 210 = .ok (.aload_n 0, 1) := by decide +kernel
theorem dX12_laysWorth_211 : decode cX12_laysWorth 211 = .ok (.getfield 93, 3) := by decide +kernel
theorem dX12_laysWorth_214 : decode cX12_laysWorth 214 = .ok (.iconst 0, 1) := by decide +kernel
theorem dX12_laysWorth_215 : decode cX12_laysWorth 215 = .ok (.iaload, 1) := by decide +kernel
theorem dX12_laysWorth_216 : decode cX12_laysWorth 216 = .ok (.ireturn, 1) := by decide +kernel
set_option maxHeartbeats 4000000 in
set_option maxRecDepth 100000 in
theorem lp_sX12_laysWorth {p : Program} {l : Launch} {e : Env} {R : Room} {s : State} {m : MethodId} {args : Array Value} {below : List Frame} {meth : Method} {c : Code} {Q : State → Prop} {A : Nat → Prop} {cells slots : Nat} {dC : Nat → ClassId} {dI : Nat → Nat → Nat} (h0 : Nat) (mi : Nat → Int32) (mr : Nat → Nat) (km : Nat → ClassId) (fm_worth : Nat → Int32) (fm_must : Nat → Int32) (fm_least : Nat → Int32) (fm_pin : Nat → Int32) (fm_struck : Nat → Int32) (fm_reportKnown : Nat → Int32) (fm_reportMonth : Nat → Int32) (fm_reportKind : Nat → Int32) (fm_reportDay : Nat → Int32) (fm_reportPlace : Nat → Int32) (fm_trust : Nat → Int32) (fm_letter : Nat → Int32) (fm_deedMonth : Nat → Int32) (fm_deedDay : Nat → Int32) (fm_deedLong : Nat → Int32) (fm_deedKind : Nat → Int32) (fm_kept : Nat → Int32) (fm_tape : Nat → Int32) (fm_ways : Nat → Int32) (fm_verdict : Nat → Int32) (fm_row : Nat → Int32) (fm_official : Nat → Int32) (fm_aside : Nat → Int32) (fm_out : Nat → Int32) (p1 : Int32) (p2 : Int32) (gmi_0 : gi (mi 0) 0 24) (gmi_1 : gi (mi 1) 0 5) (gmi_2 : gi (mi 2) 0 5) (gmi_4 : gi (mi 4) 0 1) (gmi_7 : gi (mi 7) 0 6) (gmi_10 : gi (mi 10) 0 24) (gmi_17 : gi (mi 17) 0 8) (gmi_23 : gi (mi 23) 0 300) (gmi_24 : gi (mi 24) 0 1) (gmi_26 : gi (mi 26) 0 1600) (gmi_29 : gi (mi 29) 0 1600) (gmi_30 : gi (mi 30) 0 1600) (gmi_33 : gi (mi 33) 0 1) (gmi_37 : gi (mi 37) 0 1) (gmi_41 : gi (mi 41) 0 24) (gmi_50 : gi (mi 50) 0 1) (gmi_51 : gi (mi 51) 0 1) (gmi_56 : gi (mi 56) 0 80) (gfm_struck : ga fm_struck 24 0 1) (gfm_reportKnown : ga fm_reportKnown 24 0 999) (gfm_reportMonth : ga fm_reportMonth 24 0 23) (gfm_reportDay : ga fm_reportDay 24 0 999) (gfm_reportPlace : ga fm_reportPlace 24 0 5) (gp2 : gi p2 0 1) (hx : p.tables.exec = Jvm.exec) (hb : c.code = cX12_laysWorth) (hml : c.maxLocals = 8) (hown : s.vm.findClass RX12 = some m.cls) (hts : ∀ w ∈ ((.code yX12_laysWorth cX12_laysWorth 8 (some .int) :: wsGB) : List Cond), w.before args s = true) (hK : va_K (dC, dI) vwCl (MT km) s) (hA : ∀ q : Nat, s.heap.size ≤ q → A q) (hRf : 2 ≤ R.frames) (hRl : 49 ≤ R.locals) (hRc : cells ≤ R.cells) (hRs : slots ≤ R.slots) (kr216 : ∀ (v : Int32) (w0_54 : Int32) (z1 : Nat → Int32) (H : Heap) (locs : List Loc) (ls : Array Slot), va_P (dC, dI) vwCl (MWn h0 mr km (mi 0) (mi 1) (mi 2) (mi 3) (mi 4) (mi 5) (mi 6) (mi 7) (mi 10) (mi 17) (mi 23) (mi 24) (mi 26) (mi 27) (mi 28) (mi 29) (mi 30) (mi 31) (mi 32) (mi 33) (mi 37) (mi 41) (mi 42) (mi 43) (mi 44) (mi 45) (mi 47) (mi 48) (mi 49) (mi 50) (mi 51) w0_54 (mi 56) fm_trust fm_letter fm_reportPlace fm_reportKind fm_struck fm_reportMonth fm_reportDay fm_reportKnown fm_deedMonth fm_deedDay fm_deedLong fm_deedKind fm_kept fm_tape fm_must fm_least fm_pin fm_ways fm_verdict fm_row fm_official fm_aside z1 fm_out) H → va_D A (MWn h0 mr km (mi 0) (mi 1) (mi 2) (mi 3) (mi 4) (mi 5) (mi 6) (mi 7) (mi 10) (mi 17) (mi 23) (mi 24) (mi 26) (mi 27) (mi 28) (mi 29) (mi 30) (mi 31) (mi 32) (mi 33) (mi 37) (mi 41) (mi 42) (mi 43) (mi 44) (mi 45) (mi 47) (mi 48) (mi 49) (mi 50) (mi 51) w0_54 (mi 56) fm_trust fm_letter fm_reportPlace fm_reportKind fm_struck fm_reportMonth fm_reportDay fm_reportKnown fm_deedMonth fm_deedDay fm_deedLong fm_deedKind fm_kept fm_tape fm_must fm_least fm_pin fm_ways fm_verdict fm_row fm_official fm_aside z1 fm_out) → va_S A s.heap H locs → lv_has ls 8 [] → W p l e R s m args below meth c H locs cells slots Q (F0 m 216 ls [.int v])) : ∀ z : Nat, (∀ (v3 : Int32) (z1 : Nat → Int32) (H : Heap) (locs : List Loc) (ls : Array Slot), gi v3 (-1) 24 → v3.toInt ≤ (mi 0).toInt → 811 + 758 * v3.toInt < (z : Int) → va_P (dC, dI) vwCl (MWn h0 mr km (mi 0) (mi 1) (mi 2) (mi 3) (mi 4) (mi 5) (mi 6) (mi 7) (mi 10) (mi 17) (mi 23) (mi 24) (mi 26) (mi 27) (mi 28) (mi 29) (mi 30) (mi 31) (mi 32) (mi 33) (mi 37) (mi 41) (mi 42) (mi 43) (mi 44) (mi 45) (mi 47) (mi 48) (mi 49) (mi 50) (mi 51) (mi 54) (mi 56) fm_trust fm_letter fm_reportPlace fm_reportKind fm_struck fm_reportMonth fm_reportDay fm_reportKnown fm_deedMonth fm_deedDay fm_deedLong fm_deedKind fm_kept fm_tape fm_must fm_least fm_pin fm_ways fm_verdict fm_row fm_official fm_aside z1 fm_out) H → va_D A (MWn h0 mr km (mi 0) (mi 1) (mi 2) (mi 3) (mi 4) (mi 5) (mi 6) (mi 7) (mi 10) (mi 17) (mi 23) (mi 24) (mi 26) (mi 27) (mi 28) (mi 29) (mi 30) (mi 31) (mi 32) (mi 33) (mi 37) (mi 41) (mi 42) (mi 43) (mi 44) (mi 45) (mi 47) (mi 48) (mi 49) (mi 50) (mi 51) (mi 54) (mi 56) fm_trust fm_letter fm_reportPlace fm_reportKind fm_struck fm_reportMonth fm_reportDay fm_reportKnown fm_deedMonth fm_deedDay fm_deedLong fm_deedKind fm_kept fm_tape fm_must fm_least fm_pin fm_ways fm_verdict fm_row fm_official fm_aside z1 fm_out) → va_S A s.heap H locs → lv_has ls 8 [(0, .ref h0), (1, .int p1), (2, .int p2), (3, .int v3)] → W p l e R s m args below meth c H locs cells slots Q (F0 m 5 ls [])) ∧ (∀ (v3 : Int32) (v4 : Int32) (z1 : Nat → Int32) (H : Heap) (locs : List Loc) (ls : Array Slot), gi v3 0 24 → gi v4 0 25 → v3.toInt ≤ (mi 0).toInt → 754 + 758 * v3.toInt + (-28) * v4.toInt < (z : Int) → va_P (dC, dI) vwCl (MWn h0 mr km (mi 0) (mi 1) (mi 2) (mi 3) (mi 4) (mi 5) (mi 6) (mi 7) (mi 10) (mi 17) (mi 23) (mi 24) (mi 26) (mi 27) (mi 28) (mi 29) (mi 30) (mi 31) (mi 32) (mi 33) (mi 37) (mi 41) (mi 42) (mi 43) (mi 44) (mi 45) (mi 47) (mi 48) (mi 49) (mi 50) (mi 51) (mi 54) (mi 56) fm_trust fm_letter fm_reportPlace fm_reportKind fm_struck fm_reportMonth fm_reportDay fm_reportKnown fm_deedMonth fm_deedDay fm_deedLong fm_deedKind fm_kept fm_tape fm_must fm_least fm_pin fm_ways fm_verdict fm_row fm_official fm_aside z1 fm_out) H → va_D A (MWn h0 mr km (mi 0) (mi 1) (mi 2) (mi 3) (mi 4) (mi 5) (mi 6) (mi 7) (mi 10) (mi 17) (mi 23) (mi 24) (mi 26) (mi 27) (mi 28) (mi 29) (mi 30) (mi 31) (mi 32) (mi 33) (mi 37) (mi 41) (mi 42) (mi 43) (mi 44) (mi 45) (mi 47) (mi 48) (mi 49) (mi 50) (mi 51) (mi 54) (mi 56) fm_trust fm_letter fm_reportPlace fm_reportKind fm_struck fm_reportMonth fm_reportDay fm_reportKnown fm_deedMonth fm_deedDay fm_deedLong fm_deedKind fm_kept fm_tape fm_must fm_least fm_pin fm_ways fm_verdict fm_row fm_official fm_aside z1 fm_out) → va_S A s.heap H locs → lv_has ls 8 [(0, .ref h0), (1, .int p1), (2, .int p2), (3, .int v3), (4, .int v4)] → W p l e R s m args below meth c H locs cells slots Q (F0 m 12 ls [])) ∧ (∀ (v3 : Int32) (v4 : Int32) (v5 : Int32) (v6 : Int32) (z1 : Nat → Int32) (H : Heap) (locs : List Loc) (ls : Array Slot), gi v3 0 24 → gi v4 0 24 → gi v6 0 11 → v3.toInt ≤ (mi 0).toInt → v4.toInt ≤ v3.toInt → 749 + 758 * v3.toInt + (-28) * v4.toInt + (-2) * v6.toInt < (z : Int) → va_P (dC, dI) vwCl (MWn h0 mr km (mi 0) (mi 1) (mi 2) (mi 3) (mi 4) (mi 5) (mi 6) (mi 7) (mi 10) (mi 17) (mi 23) (mi 24) (mi 26) (mi 27) (mi 28) (mi 29) (mi 30) (mi 31) (mi 32) (mi 33) (mi 37) (mi 41) (mi 42) (mi 43) (mi 44) (mi 45) (mi 47) (mi 48) (mi 49) (mi 50) (mi 51) (mi 54) (mi 56) fm_trust fm_letter fm_reportPlace fm_reportKind fm_struck fm_reportMonth fm_reportDay fm_reportKnown fm_deedMonth fm_deedDay fm_deedLong fm_deedKind fm_kept fm_tape fm_must fm_least fm_pin fm_ways fm_verdict fm_row fm_official fm_aside z1 fm_out) H → va_D A (MWn h0 mr km (mi 0) (mi 1) (mi 2) (mi 3) (mi 4) (mi 5) (mi 6) (mi 7) (mi 10) (mi 17) (mi 23) (mi 24) (mi 26) (mi 27) (mi 28) (mi 29) (mi 30) (mi 31) (mi 32) (mi 33) (mi 37) (mi 41) (mi 42) (mi 43) (mi 44) (mi 45) (mi 47) (mi 48) (mi 49) (mi 50) (mi 51) (mi 54) (mi 56) fm_trust fm_letter fm_reportPlace fm_reportKind fm_struck fm_reportMonth fm_reportDay fm_reportKnown fm_deedMonth fm_deedDay fm_deedLong fm_deedKind fm_kept fm_tape fm_must fm_least fm_pin fm_ways fm_verdict fm_row fm_official fm_aside z1 fm_out) → va_S A s.heap H locs → lv_has ls 8 [(0, .ref h0), (1, .int p1), (2, .int p2), (3, .int v3), (4, .int v4), (5, .int v5), (6, .int v6)] → W p l e R s m args below meth c H locs cells slots Q (F0 m 37 ls [])) ∧ (∀ (v3 : Int32) (v4 : Int32) (v5 : Int32) (w0_54 : Int32) (z1 : Nat → Int32) (H : Heap) (locs : List Loc) (ls : Array Slot), gi v3 0 24 → gi v4 (-1) 10 → gi v5 0 24 → v3.toInt ≤ v5.toInt → 49 + (-2) * v5.toInt < (z : Int) → va_P (dC, dI) vwCl (MWn h0 mr km (mi 0) (mi 1) (mi 2) (mi 3) (mi 4) (mi 5) (mi 6) (mi 7) (mi 10) (mi 17) (mi 23) (mi 24) (mi 26) (mi 27) (mi 28) (mi 29) (mi 30) (mi 31) (mi 32) (mi 33) (mi 37) (mi 41) (mi 42) (mi 43) (mi 44) (mi 45) (mi 47) (mi 48) (mi 49) (mi 50) (mi 51) w0_54 (mi 56) fm_trust fm_letter fm_reportPlace fm_reportKind fm_struck fm_reportMonth fm_reportDay fm_reportKnown fm_deedMonth fm_deedDay fm_deedLong fm_deedKind fm_kept fm_tape fm_must fm_least fm_pin fm_ways fm_verdict fm_row fm_official fm_aside z1 fm_out) H → va_D A (MWn h0 mr km (mi 0) (mi 1) (mi 2) (mi 3) (mi 4) (mi 5) (mi 6) (mi 7) (mi 10) (mi 17) (mi 23) (mi 24) (mi 26) (mi 27) (mi 28) (mi 29) (mi 30) (mi 31) (mi 32) (mi 33) (mi 37) (mi 41) (mi 42) (mi 43) (mi 44) (mi 45) (mi 47) (mi 48) (mi 49) (mi 50) (mi 51) w0_54 (mi 56) fm_trust fm_letter fm_reportPlace fm_reportKind fm_struck fm_reportMonth fm_reportDay fm_reportKnown fm_deedMonth fm_deedDay fm_deedLong fm_deedKind fm_kept fm_tape fm_must fm_least fm_pin fm_ways fm_verdict fm_row fm_official fm_aside z1 fm_out) → va_S A s.heap H locs → lv_has ls 8 [(0, .ref h0), (1, .int p1), (2, .int p2), (3, .int v3), (4, .int v4), (5, .int v5)] → W p l e R s m args below meth c H locs cells slots Q (F0 m 136 ls [])) := by
  intro z
  induction z with
  | zero =>
    refine ⟨?_, ?_, ?_, ?_⟩
    · intro v3 z1 H locs ls gv3 hle_gv3_gmi_0 hmu hP hD hS hl
      exact absurd hmu (by have hv31 := gv3.1; have hv32 := gv3.2; omega)
    · intro v3 v4 z1 H locs ls gv3 gv4 hle_gv3_gmi_0 hmu hP hD hS hl
      exact absurd hmu (by have hv31 := gv3.1; have hv32 := gv3.2; have hv41 := gv4.1; have hv42 := gv4.2; omega)
    · intro v3 v4 v5 v6 z1 H locs ls gv3 gv4 gv6 hle_gv3_gmi_0 hle_gv4_gv3 hmu hP hD hS hl
      exact absurd hmu (by have hv31 := gv3.1; have hv32 := gv3.2; have hv41 := gv4.1; have hv42 := gv4.2; have hv61 := gv6.1; have hv62 := gv6.2; omega)
    · intro v3 v4 v5 w0_54 z1 H locs ls gv3 gv4 gv5 hle_gv3_gv5 hmu hP hD hS hl
      exact absurd hmu (by have hv51 := gv5.1; have hv52 := gv5.2; omega)
  | succ z ih =>
    refine ⟨?_, ?_, ?_, ?_⟩
    · intro v3 z1 H locs ls gv3 hle_gv3_gmi_0 hmu hP hD hS hl
      refine lv_iload_n hx hb dX12_laysWorth_5 rfl (lv_at hl 3 rfl) ?_
      refine lv_if_lt (tgt := 123) hx hb dX12_laysWorth_6 (by decide) (fun c_986 => ?_) (fun c_986 => ?_)
      · have g_987 : gi v3 (-1) (-1) := gi_lt_l c_986 gv3 (gi_c 0 0 (by decide)) (by decide)
        refine lv_aload_n hx hb dX12_laysWorth_123 rfl (lv_at hl 0 rfl) ?_
        refine lv_iconst (v := 0) hx hb dX12_laysWorth_124 (by decide) ?_
        refine va_put (D := (dC, dI)) (ci := 12) (v := .int 0) (ty := .int) (C := RX12) (T := TX12) (N := 57) hx hb hts (fun w h => List.mem_cons_of_mem _ (jnGB_X12 w h)) tyX12 tyX12_ok nmX12 hown hK hP hD hS 0 rfl rfl 54 (by decide) (hts _ (List.mem_cons_of_mem _ mGB_552)) (fun _ h9 => h9) rfl (by decide +kernel) rfl rfl (Nat.le_of_ble_eq_true rfl) dX12_laysWorth_125 (fun H locs hP hD hS => ?_)
        have hP : va_P (dC, dI) vwCl (MWn h0 mr km (mi 0) (mi 1) (mi 2) (mi 3) (mi 4) (mi 5) (mi 6) (mi 7) (mi 10) (mi 17) (mi 23) (mi 24) (mi 26) (mi 27) (mi 28) (mi 29) (mi 30) (mi 31) (mi 32) (mi 33) (mi 37) (mi 41) (mi 42) (mi 43) (mi 44) (mi 45) (mi 47) (mi 48) (mi 49) (mi 50) (mi 51) 0 (mi 56) fm_trust fm_letter fm_reportPlace fm_reportKind fm_struck fm_reportMonth fm_reportDay fm_reportKnown fm_deedMonth fm_deedDay fm_deedLong fm_deedKind fm_kept fm_tape fm_must fm_least fm_pin fm_ways fm_verdict fm_row fm_official fm_aside z1 fm_out) H := hP
        have hD : va_D A (MWn h0 mr km (mi 0) (mi 1) (mi 2) (mi 3) (mi 4) (mi 5) (mi 6) (mi 7) (mi 10) (mi 17) (mi 23) (mi 24) (mi 26) (mi 27) (mi 28) (mi 29) (mi 30) (mi 31) (mi 32) (mi 33) (mi 37) (mi 41) (mi 42) (mi 43) (mi 44) (mi 45) (mi 47) (mi 48) (mi 49) (mi 50) (mi 51) 0 (mi 56) fm_trust fm_letter fm_reportPlace fm_reportKind fm_struck fm_reportMonth fm_reportDay fm_reportKnown fm_deedMonth fm_deedDay fm_deedLong fm_deedKind fm_kept fm_tape fm_must fm_least fm_pin fm_ways fm_verdict fm_row fm_official fm_aside z1 fm_out) := hD
        refine lv_iconst (v := 0) hx hb dX12_laysWorth_128 (by decide) ?_
        refine lv_istore_n (lv' := [(3, .int 0), (0, .ref h0), (1, .int p1), (2, .int p2)]) hx hb dX12_laysWorth_129 rfl hl (by decide) rfl (fun ls hl => ?_)
        refine lv_iconst (v := 0) hx hb dX12_laysWorth_130 (by decide) ?_
        refine lv_istore (lv' := [(4, .int 0), (3, .int 0), (0, .ref h0), (1, .int p1), (2, .int p2)]) hx hb dX12_laysWorth_131 hl (by decide) rfl (fun ls hl => ?_)
        refine lv_iconst (v := 0) hx hb dX12_laysWorth_133 (by decide) ?_
        refine lv_istore (lv' := [(5, .int 0), (4, .int 0), (3, .int 0), (0, .ref h0), (1, .int p1), (2, .int p2)]) hx hb dX12_laysWorth_134 hl (by decide) rfl (fun ls hl => ?_)
        exact ih.2.2.2 0 0 0 0 z1 _ _ _ (gi_w (gi_c 0 0 (by decide)) (by decide)) (gi_w (gi_c 0 0 (by decide)) (by decide)) (gi_w (gi_c 0 0 (by decide)) (by decide)) (by have k0 : (0 : Int32).toInt = 0 := (by decide); have k0 : (0 : Int32).toInt = 0 := (by decide); omega) (by have k0 : (0 : Int32).toInt = 0 := (by decide); have av3 := gv3.1; have bv3 := gv3.2; omega) hP hD hS (lv_sub hl [3, 4, 5, 2, 1, 0] rfl)
      · have g_988 : gi v3 0 24 := gi_le_r (Int32.not_lt.mp c_986) (gi_c 0 0 (by decide)) gv3
        refine lv_iconst (v := 0) hx hb dX12_laysWorth_9 (by decide) ?_
        refine lv_istore (lv' := [(4, .int 0), (0, .ref h0), (1, .int p1), (2, .int p2), (3, .int v3)]) hx hb dX12_laysWorth_10 hl (by decide) rfl (fun ls hl => ?_)
        exact ih.2.1 v3 0 z1 _ _ _ g_988 (gi_w (gi_c 0 0 (by decide)) (by decide)) (by have qgmi_0 := gmi_0.1; have rgmi_0 := gmi_0.2; have qgv3 := g_988.1; have rgv3 := g_988.2; omega) (by have k0 : (0 : Int32).toInt = 0 := (by decide); have av3 := gv3.1; have bv3 := gv3.2; have qgv3 := g_988.1; have rgv3 := g_988.2; omega) hP hD hS (lv_sub hl [1, 2, 3, 4, 0] rfl)
    · intro v3 v4 z1 H locs ls gv3 gv4 hle_gv3_gmi_0 hmu hP hD hS hl
      refine lv_iload hx hb dX12_laysWorth_12 (lv_at hl 4 rfl) ?_
      refine lv_iload_n hx hb dX12_laysWorth_14 rfl (lv_at hl 3 rfl) ?_
      refine lv_icmp_gt (tgt := 117) hx hb dX12_laysWorth_15 (by decide) (fun c_989 => ?_) (fun c_989 => ?_)
      · have g_990 : gi v4 1 25 := gi_lt_r c_989 gv3 gv4 (by decide)
        obtain ⟨x_991, ex_991⟩ : ∃ y : Int32, y = v3 + (-1) := ⟨_, rfl⟩
        have gx_991 : gi x_991 (-1) 23 := gi_add ex_991 gv3 (gi_c (-1) (-1) (by decide)) (by decide)
        refine lv_iinc (v := x_991) (lv' := [(3, .int x_991), (0, .ref h0), (1, .int p1), (2, .int p2), (4, .int v4)]) hx hb dX12_laysWorth_117 hl (k := 3) rfl (by rw [ex_991]; rfl) (by decide) rfl (fun ls hl => ?_)
        refine lv_goto (tgt := 5) hx hb dX12_laysWorth_120 (by decide) ?_
        exact ih.1 x_991 z1 _ _ _ (gi_w gx_991 (by decide)) (by have qgmi_0 := gmi_0.1; have rgmi_0 := gmi_0.2; have qgx_991 := gx_991.1; have rgx_991 := gx_991.2; have igx_991 : x_991.toInt = v3.toInt + (-1) := (by have hcm1 : ((-1) : Int32).toInt = (-1) := (by decide); have h9 := gi_addI ex_991 (by have h1 := gv3.1; have h2 := (gi_c (-1) (-1) (by decide)).1; have h3 := gv3.2; have h4 := (gi_c (-1) (-1) (by decide)).2; omega) (by have h1 := gv3.1; have h2 := (gi_c (-1) (-1) (by decide)).1; have h3 := gv3.2; have h4 := (gi_c (-1) (-1) (by decide)).2; omega); rw [hcm1] at h9; exact h9); have qgv3 := gv3.1; have rgv3 := gv3.2; have y1 := (Int32.lt_iff_toInt_lt.mp c_989); omega) (by have av3 := gv3.1; have bv3 := gv3.2; have av4 := gv4.1; have bv4 := gv4.2; have qgx_991 := gx_991.1; have rgx_991 := gx_991.2; have igx_991 : x_991.toInt = v3.toInt + (-1) := (by have hcm1 : ((-1) : Int32).toInt = (-1) := (by decide); have h9 := gi_addI ex_991 (by have h1 := gv3.1; have h2 := (gi_c (-1) (-1) (by decide)).1; have h3 := gv3.2; have h4 := (gi_c (-1) (-1) (by decide)).2; omega) (by have h1 := gv3.1; have h2 := (gi_c (-1) (-1) (by decide)).1; have h3 := gv3.2; have h4 := (gi_c (-1) (-1) (by decide)).2; omega); rw [hcm1] at h9; exact h9); have qgv3 := gv3.1; have rgv3 := gv3.2; omega) hP hD hS (lv_sub hl [1, 2, 3, 0] rfl)
      · have g_992 : gi v4 0 24 := gi_le_l (Int32.not_lt.mp c_989) gv4 gv3
        refine lv_aload_n hx hb dX12_laysWorth_18 rfl (lv_at hl 0 rfl) ?_
        refine lv_iload_n hx hb dX12_laysWorth_19 rfl (lv_at hl 3 rfl) ?_
        refine lv_bipush (v := 29) hx hb dX12_laysWorth_20 (by decide) ?_
        refine lv_iload_n hx hb dX12_laysWorth_22 rfl (lv_at hl 3 rfl) ?_
        refine lv_imul hx hb dX12_laysWorth_23 ?_
        refine lv_topi (fun x_993 ex_993 => ?_)
        have gx_993 : gi x_993 0 696 := gi_mul ex_993 (gi_c 29 29 (by decide)) gv3 (by decide)
        refine lv_iload hx hb dX12_laysWorth_24 (lv_at hl 4 rfl) ?_
        refine lv_iadd hx hb dX12_laysWorth_26 ?_
        refine lv_topi (fun x_994 ex_994 => ?_)
        have gx_994 : gi x_994 0 720 := gi_add ex_994 gx_993 g_992 (by decide)
        refine lv_iload_n hx hb dX12_laysWorth_27 rfl (lv_at hl 1 rfl) ?_
        refine lv_iload_n hx hb dX12_laysWorth_28 rfl (lv_at hl 2 rfl) ?_
        refine va_calli (va_runV (As := [.int v3, .int x_994, .int p1, .int p2]) (rest := []) ⟨hx, hb, hml, hown, hts⟩ (sX12_costOf l dC dI h0 mi mr km fm_must fm_least fm_pin fm_struck fm_reportKnown fm_reportMonth fm_reportKind fm_reportDay fm_reportPlace fm_trust fm_letter fm_deedMonth fm_deedDay fm_deedLong fm_deedKind fm_kept fm_tape fm_ways fm_verdict fm_row fm_official fm_aside z1 fm_out v3 x_994 p1 p2 gmi_0 gmi_1 gmi_2 gmi_4 gmi_7 gmi_10 gmi_17 gmi_23 gmi_24 gmi_26 gmi_29 gmi_30 gmi_33 gmi_37 gmi_41 gmi_50 gmi_51 gmi_56 gfm_struck gfm_reportKnown gfm_reportMonth gfm_reportDay gfm_reportPlace gv3 gp2) (cwV 4 hts (gz_gV mGB_558 mGB_559 mGB_560 mGB_1 mGB_561 goodGB) rfl rfl rfl (by decide +kernel) ⟨Nat.le_trans (Nat.le_of_ble_eq_true rfl) hRf, Nat.le_trans (Nat.le_of_ble_eq_true rfl) hRl⟩) ⟨bl_R, mw_recv hK hP, fun U hU hW => ⟨rfl, by rw [hU]; exact hP, va_K.moved hW.alike hK⟩⟩ rfl rfl hl.1 rfl (lv_room (Nat.le_of_ble_eq_true rfl)) dX12_laysWorth_29 ⟨hRc, hRs⟩) hS (fun q _ h => h.elim) (fun q h => h.elim) (fun r_995 u t H1 locs ht hvm hw hB hz1 hk1 hS => ?_)
        have hP := gz_keep hP hk1
        generalize H1 = H at hP hS ⊢
        refine lv_istore (lv' := [(5, .int r_995), (0, .ref h0), (1, .int p1), (2, .int p2), (3, .int v3), (4, .int v4)]) hx hb dX12_laysWorth_32 hl (by decide) rfl (fun ls hl => ?_)
        refine lv_iconst (v := 0) hx hb dX12_laysWorth_34 (by decide) ?_
        refine lv_istore (lv' := [(6, .int 0), (5, .int r_995), (0, .ref h0), (1, .int p1), (2, .int p2), (3, .int v3), (4, .int v4)]) hx hb dX12_laysWorth_35 hl (by decide) rfl (fun ls hl => ?_)
        exact ih.2.2.1 v3 v4 r_995 0 z1 _ _ _ gv3 g_992 (gi_w (gi_c 0 0 (by decide)) (by decide)) (by have qgmi_0 := gmi_0.1; have rgmi_0 := gmi_0.2; have qgv3 := gv3.1; have rgv3 := gv3.2; have y1 := (Int32.le_iff_toInt_le.mp (Int32.not_lt.mp c_989)); omega) (by have qgv3 := gv3.1; have rgv3 := gv3.2; have qgv4 := g_992.1; have rgv4 := g_992.2; have y1 := (Int32.le_iff_toInt_le.mp (Int32.not_lt.mp c_989)); omega) (by have k0 : (0 : Int32).toInt = 0 := (by decide); have av3 := gv3.1; have bv3 := gv3.2; have av4 := gv4.1; have bv4 := gv4.2; have qgv4 := g_992.1; have rgv4 := g_992.2; have qgv3 := gv3.1; have rgv3 := gv3.2; omega) hP hD hS (lv_sub hl [2, 3, 4, 5, 6, 1, 0] rfl)
    · intro v3 v4 v5 v6 z1 H locs ls gv3 gv4 gv6 hle_gv3_gmi_0 hle_gv4_gv3 hmu hP hD hS hl
      refine lv_iload hx hb dX12_laysWorth_37 (lv_at hl 6 rfl) ?_
      refine lv_bipush (v := 10) hx hb dX12_laysWorth_39 (by decide) ?_
      refine lv_icmp_gt (tgt := 111) hx hb dX12_laysWorth_41 (by decide) (fun c_996 => ?_) (fun c_996 => ?_)
      · have g_997 : gi v6 11 11 := gi_lt_r c_996 (gi_c 10 10 (by decide)) gv6 (by decide)
        obtain ⟨x_998, ex_998⟩ : ∃ y : Int32, y = v4 + 1 := ⟨_, rfl⟩
        have gx_998 : gi x_998 1 25 := gi_add ex_998 gv4 (gi_c 1 1 (by decide)) (by decide)
        refine lv_iinc (v := x_998) (lv' := [(4, .int x_998), (0, .ref h0), (1, .int p1), (2, .int p2), (3, .int v3), (5, .int v5), (6, .int v6)]) hx hb dX12_laysWorth_111 hl (k := 4) rfl (by rw [ex_998]; rfl) (by decide) rfl (fun ls hl => ?_)
        refine lv_goto (tgt := 12) hx hb dX12_laysWorth_114 (by decide) ?_
        exact ih.2.1 v3 x_998 z1 _ _ _ gv3 (gi_w gx_998 (by decide)) (by have qgmi_0 := gmi_0.1; have rgmi_0 := gmi_0.2; have qgv3 := gv3.1; have rgv3 := gv3.2; omega) (by have av3 := gv3.1; have bv3 := gv3.2; have av4 := gv4.1; have bv4 := gv4.2; have av6 := gv6.1; have bv6 := gv6.2; have qgx_998 := gx_998.1; have rgx_998 := gx_998.2; have igx_998 : x_998.toInt = v4.toInt + 1 := (by have hc1 : (1 : Int32).toInt = 1 := (by decide); have h9 := gi_addI ex_998 (by have h1 := gv4.1; have h2 := (gi_c 1 1 (by decide)).1; have h3 := gv4.2; have h4 := (gi_c 1 1 (by decide)).2; omega) (by have h1 := gv4.1; have h2 := (gi_c 1 1 (by decide)).1; have h3 := gv4.2; have h4 := (gi_c 1 1 (by decide)).2; omega); rw [hc1] at h9; exact h9); have qgv4 := gv4.1; have rgv4 := gv4.2; have qgv3 := gv3.1; have rgv3 := gv3.2; omega) hP hD hS (lv_sub hl [1, 2, 3, 4, 0] rfl)
      · have g_999 : gi v6 0 10 := gi_le_l (Int32.not_lt.mp c_996) gv6 (gi_c 10 10 (by decide))
        refine lv_iload_n hx hb dX12_laysWorth_44 rfl (lv_at hl 3 rfl) ?_
        refine lv_aload_n hx hb dX12_laysWorth_45 rfl (lv_at hl 0 rfl) ?_
        refine va_get (D := (dC, dI)) (ci := 12) (v := .int (mi 0)) (C := RX12) (T := TX12) (N := 57) hx hb hts (fun w h => List.mem_cons_of_mem _ (jnGB_X12 w h)) hown hK hP 0 rfl rfl 0 (by decide) (hts _ (List.mem_cons_of_mem _ mGB_103)) (fun _ h9 => h9) rfl dX12_laysWorth_46 ?_
        refine lv_icmp_ne (tgt := 56) hx hb dX12_laysWorth_49 (by decide) (fun c_1000 => ?_) (fun c_1000 => ?_)
        · have g_1001 : gi v3 0 23 := gi_nele hle_gv3_gmi_0 c_1000 gv3 gmi_0 (by decide)
          have g_1002 : gi v4 0 23 := gi_rel hle_gv4_gv3 gv4 g_1001
          refine lv_aload_n hx hb dX12_laysWorth_56 rfl (lv_at hl 0 rfl) ?_
          refine lv_iload_n hx hb dX12_laysWorth_57 rfl (lv_at hl 3 rfl) ?_
          refine lv_iload hx hb dX12_laysWorth_58 (lv_at hl 4 rfl) ?_
          refine lv_iload hx hb dX12_laysWorth_60 (lv_at hl 6 rfl) ?_
          refine lv_iconst (v := 0) hx hb dX12_laysWorth_62 (by decide) ?_
          refine va_calli (va_runV (As := [.int v3, .int v4, .int v6, .int 0]) (rest := []) ⟨hx, hb, hml, hown, hts⟩ (sX12_worthBy l dC dI h0 mi mr km z1 fm_trust fm_letter fm_reportPlace fm_reportKind fm_struck fm_reportMonth fm_reportDay fm_reportKnown fm_deedMonth fm_deedDay fm_deedLong fm_deedKind fm_kept fm_tape fm_must fm_least fm_pin fm_ways fm_verdict fm_row fm_official fm_aside fm_out v3 v4 v6 0 gmi_0 gmi_1 gmi_2 gmi_4 gmi_7 gmi_10 gmi_17 gmi_23 gmi_24 gmi_26 gmi_29 gmi_30 gmi_33 gmi_37 gmi_41 gmi_50 gmi_51 gmi_56 g_1001 g_1002 (gi_w g_999 (by decide)) (gi_w (gi_c 0 0 (by decide)) (by decide))) (cwV 4 hts (gz_gV mGB_563 mGB_564 mGB_565 mGB_1 mGB_566 goodGB) rfl rfl rfl (by decide +kernel) ⟨Nat.le_trans (Nat.le_of_ble_eq_true rfl) hRf, Nat.le_trans (Nat.le_of_ble_eq_true rfl) hRl⟩) ⟨bl_R, mw_recv hK hP, fun U hU hW => ⟨rfl, by rw [hU]; exact hP, va_K.moved hW.alike hK⟩⟩ rfl rfl hl.1 rfl (lv_room (Nat.le_of_ble_eq_true rfl)) dX12_laysWorth_63 ⟨hRc, hRs⟩) hS (fun q _ h => h.elim) (fun q h => h.elim) (fun r_1003 u t H1 locs ht hvm hw hB hz1 hk1 hS => ?_)
          have hP := gz_keep hP hk1
          generalize H1 = H at hP hS ⊢
          refine lv_aload_n hx hb dX12_laysWorth_66 rfl (lv_at hl 0 rfl) ?_
          refine lv_iload_n hx hb dX12_laysWorth_67 rfl (lv_at hl 3 rfl) ?_
          refine lv_iload hx hb dX12_laysWorth_68 (lv_at hl 4 rfl) ?_
          refine lv_iload hx hb dX12_laysWorth_70 (lv_at hl 6 rfl) ?_
          refine lv_iconst (v := 1) hx hb dX12_laysWorth_72 (by decide) ?_
          refine va_calli (va_runV (As := [.int v3, .int v4, .int v6, .int 1]) (rest := [.int r_1003]) ⟨hx, hb, hml, hown, hts⟩ (sX12_worthBy l dC dI h0 mi mr km z1 fm_trust fm_letter fm_reportPlace fm_reportKind fm_struck fm_reportMonth fm_reportDay fm_reportKnown fm_deedMonth fm_deedDay fm_deedLong fm_deedKind fm_kept fm_tape fm_must fm_least fm_pin fm_ways fm_verdict fm_row fm_official fm_aside fm_out v3 v4 v6 1 gmi_0 gmi_1 gmi_2 gmi_4 gmi_7 gmi_10 gmi_17 gmi_23 gmi_24 gmi_26 gmi_29 gmi_30 gmi_33 gmi_37 gmi_41 gmi_50 gmi_51 gmi_56 g_1001 g_1002 (gi_w g_999 (by decide)) (gi_w (gi_c 1 1 (by decide)) (by decide))) (cwV 4 hts (gz_gV mGB_563 mGB_564 mGB_565 mGB_1 mGB_566 goodGB) rfl rfl rfl (by decide +kernel) ⟨Nat.le_trans (Nat.le_of_ble_eq_true rfl) hRf, Nat.le_trans (Nat.le_of_ble_eq_true rfl) hRl⟩) ⟨bl_R, mw_recv hK hP, fun U hU hW => ⟨rfl, by rw [hU]; exact hP, va_K.moved hW.alike hK⟩⟩ rfl rfl hl.1 rfl (lv_room (Nat.le_of_ble_eq_true rfl)) dX12_laysWorth_73 ⟨hRc, hRs⟩) hS (fun q _ h => h.elim) (fun q h => h.elim) (fun r_1004 u t H1 locs ht hvm hw hB hz1 hk1 hS => ?_)
          have hP := gz_keep hP hk1
          generalize H1 = H at hP hS ⊢
          refine va_mmin (own := RX12) hx hb (by rw [hml]; exact hl.1.symm) hown (hts _ (List.mem_cons_of_mem _ mGB_138)) (hts _ (List.mem_cons_of_mem _ mGB_97)) (hts _ (List.mem_cons_of_mem _ mGB_98)) (hts _ (List.mem_cons_of_mem _ mGB_99)) (Nat.le_trans (Nat.le_of_ble_eq_true rfl) hRf) (Nat.le_trans (Nat.le_of_ble_eq_true rfl) hRl) hRc hRs dX12_laysWorth_76 ?_
          refine lv_topi (fun x_1005 ex_1005 => ?_)
          refine lv_istore (lv' := [(7, .int x_1005), (0, .ref h0), (1, .int p1), (2, .int p2), (3, .int v3), (4, .int v4), (5, .int v5), (6, .int v6)]) hx hb dX12_laysWorth_79 hl (by decide) rfl (fun ls hl => ?_)
          refine lv_aload_n hx hb dX12_laysWorth_81 rfl (lv_at hl 1 rfl) ?_
          refine va_get (D := (dC, dI)) (ci := 12) (v := .ref (mr 22)) (C := RX12) (T := TX12) (N := 57) hx hb hts (fun w h => List.mem_cons_of_mem _ (jnGB_X12 w h)) hown hK hP 0 rfl rfl 53 (by decide) (hts _ (List.mem_cons_of_mem _ mGB_38)) (fun _ h9 => h9) rfl dX12_laysWorth_82 ?_
          refine lv_iload_n hx hb dX12_laysWorth_85 rfl (lv_at hl 4 rfl) ?_
          refine lv_iload hx hb dX12_laysWorth_86 (lv_at hl 5 rfl) ?_
          refine lv_iload hx hb dX12_laysWorth_88 (lv_at hl 7 rfl) ?_
          have hPc := hP.sub (ws' := []) [] rfl
          have hKc := hK.sub (tys' := []) [] rfl
          refine va_calli (va_runS (As := [.int v3, .int v4, .int v6]) (rest := [.ref (mr 22)]) ⟨hx, hb, hml, hown, hts⟩ (sX12_placeOf l dC dI v3 v4 v6 (gi_w g_1001 (by decide)) (gi_w g_1002 (by decide)) g_999) (cwS 3 hts (gz_gS mGB_315 mGB_316 mGB_1 mGB_317 goodGB) rfl rfl rfl (by decide +kernel) ⟨Nat.le_trans (Nat.le_of_ble_eq_true rfl) hRf, Nat.le_trans (Nat.le_of_ble_eq_true rfl) hRl⟩) ⟨bl_R, fun U hU hW => ⟨rfl, by rw [hU]; exact hPc, va_K.moved hW.alike hKc⟩⟩ rfl rfl hl.1 rfl (lv_room (Nat.le_of_ble_eq_true rfl)) dX12_laysWorth_90 ⟨hRc, hRs⟩) hS (fun q _ h => h.elim) (fun q h => h.elim) (fun r_1006 u t H1 locs ht hvm hw hB hz1 hk1 hS => ?_)
          have hP := gz_keep hP hk1
          generalize H1 = H at hP hS ⊢
          have gr_1006 : gi r_1006 0 6874 := hw
          refine lv_ldcw (own := RX12) (v := 100000000) hx hb hown (hts _ (List.mem_cons_of_mem _ mGB_557)) dX12_laysWorth_93 ?_
          refine lv_iload hx hb dX12_laysWorth_96 (lv_at hl 6 rfl) ?_
          refine lv_iload hx hb dX12_laysWorth_98 (lv_at hl 0 rfl) ?_
          refine lv_iadd hx hb dX12_laysWorth_100 ?_
          refine lv_topi (fun x_1007 ex_1007 => ?_)
          refine va_mmin (own := RX12) hx hb (by rw [hml]; exact hl.1.symm) hown (hts _ (List.mem_cons_of_mem _ mGB_138)) (hts _ (List.mem_cons_of_mem _ mGB_97)) (hts _ (List.mem_cons_of_mem _ mGB_98)) (hts _ (List.mem_cons_of_mem _ mGB_99)) (Nat.le_trans (Nat.le_of_ble_eq_true rfl) hRf) (Nat.le_trans (Nat.le_of_ble_eq_true rfl) hRl) hRc hRs dX12_laysWorth_101 ?_
          refine lv_topi (fun x_1008 ex_1008 => ?_)
          have gx_1008 : gi x_1008 (-2147483648) 100000000 := gi_min ex_1008 (gi_c 100000000 100000000 (by decide)) (gi_any x_1007) (by decide)
          refine va_iast hx hb hK hP hD hS 23 22 rfl rfl (gi_in gr_1006 (by decide)) dX12_laysWorth_104 (fun H locs hP hD hS => ?_)
          have hP : va_P (dC, dI) vwCl (MWn h0 mr km (mi 0) (mi 1) (mi 2) (mi 3) (mi 4) (mi 5) (mi 6) (mi 7) (mi 10) (mi 17) (mi 23) (mi 24) (mi 26) (mi 27) (mi 28) (mi 29) (mi 30) (mi 31) (mi 32) (mi 33) (mi 37) (mi 41) (mi 42) (mi 43) (mi 44) (mi 45) (mi 47) (mi 48) (mi 49) (mi 50) (mi 51) (mi 54) (mi 56) fm_trust fm_letter fm_reportPlace fm_reportKind fm_struck fm_reportMonth fm_reportDay fm_reportKnown fm_deedMonth fm_deedDay fm_deedLong fm_deedKind fm_kept fm_tape fm_must fm_least fm_pin fm_ways fm_verdict fm_row fm_official fm_aside (upd z1 (r_1006 : Int32).toNatClampNeg x_1008) fm_out) H := hP
          have hD : va_D A (MWn h0 mr km (mi 0) (mi 1) (mi 2) (mi 3) (mi 4) (mi 5) (mi 6) (mi 7) (mi 10) (mi 17) (mi 23) (mi 24) (mi 26) (mi 27) (mi 28) (mi 29) (mi 30) (mi 31) (mi 32) (mi 33) (mi 37) (mi 41) (mi 42) (mi 43) (mi 44) (mi 45) (mi 47) (mi 48) (mi 49) (mi 50) (mi 51) (mi 54) (mi 56) fm_trust fm_letter fm_reportPlace fm_reportKind fm_struck fm_reportMonth fm_reportDay fm_reportKnown fm_deedMonth fm_deedDay fm_deedLong fm_deedKind fm_kept fm_tape fm_must fm_least fm_pin fm_ways fm_verdict fm_row fm_official fm_aside (upd z1 (r_1006 : Int32).toNatClampNeg x_1008) fm_out) := hD
          generalize upd z1 (r_1006 : Int32).toNatClampNeg x_1008 = f_1009 at hP hD
          obtain ⟨x_1010, ex_1010⟩ : ∃ y : Int32, y = v6 + 1 := ⟨_, rfl⟩
          have gx_1010 : gi x_1010 1 11 := gi_add ex_1010 g_999 (gi_c 1 1 (by decide)) (by decide)
          refine lv_iinc (v := x_1010) (lv' := [(6, .int x_1010), (7, .int x_1005), (0, .ref h0), (1, .int p1), (2, .int p2), (3, .int v3), (4, .int v4), (5, .int v5)]) hx hb dX12_laysWorth_105 hl (k := 7) rfl (by rw [ex_1010]; rfl) (by decide) rfl (fun ls hl => ?_)
          refine lv_goto (tgt := 37) hx hb dX12_laysWorth_108 (by decide) ?_
          exact ih.2.2.1 v3 v4 v5 x_1010 f_1009 _ _ _ (gi_w g_1001 (by decide)) (gi_w g_1002 (by decide)) (gi_w gx_1010 (by decide)) (by have qgmi_0 := gmi_0.1; have rgmi_0 := gmi_0.2; have qgv3 := g_1001.1; have rgv3 := g_1001.2; omega) (by have qgv3 := g_1001.1; have rgv3 := g_1001.2; have qgv4 := g_1002.1; have rgv4 := g_1002.2; omega) (by have av3 := gv3.1; have bv3 := gv3.2; have av4 := gv4.1; have bv4 := gv4.2; have av6 := gv6.1; have bv6 := gv6.2; have qgx_1010 := gx_1010.1; have rgx_1010 := gx_1010.2; have igx_1010 : x_1010.toInt = v6.toInt + 1 := (by have hc1 : (1 : Int32).toInt = 1 := (by decide); have h9 := gi_addI ex_1010 (by have h1 := g_999.1; have h2 := (gi_c 1 1 (by decide)).1; have h3 := g_999.2; have h4 := (gi_c 1 1 (by decide)).2; omega) (by have h1 := g_999.1; have h2 := (gi_c 1 1 (by decide)).1; have h3 := g_999.2; have h4 := (gi_c 1 1 (by decide)).2; omega); rw [hc1] at h9; exact h9); have qgv6 := g_999.1; have rgv6 := g_999.2; have qgv4 := g_1002.1; have rgv4 := g_1002.2; have qgv3 := g_1001.1; have rgv3 := g_1001.2; omega) hP hD hS (lv_sub hl [2, 3, 4, 5, 6, 7, 0] rfl)
        · refine lv_iconst (v := 0) hx hb dX12_laysWorth_52 (by decide) ?_
          refine lv_goto (tgt := 79) hx hb dX12_laysWorth_53 (by decide) ?_
          refine lv_istore (lv' := [(7, .int 0), (0, .ref h0), (1, .int p1), (2, .int p2), (3, .int v3), (4, .int v4), (5, .int v5), (6, .int v6)]) hx hb dX12_laysWorth_79 hl (by decide) rfl (fun ls hl => ?_)
          refine lv_aload_n hx hb dX12_laysWorth_81 rfl (lv_at hl 1 rfl) ?_
          refine va_get (D := (dC, dI)) (ci := 12) (v := .ref (mr 22)) (C := RX12) (T := TX12) (N := 57) hx hb hts (fun w h => List.mem_cons_of_mem _ (jnGB_X12 w h)) hown hK hP 0 rfl rfl 53 (by decide) (hts _ (List.mem_cons_of_mem _ mGB_38)) (fun _ h9 => h9) rfl dX12_laysWorth_82 ?_
          refine lv_iload_n hx hb dX12_laysWorth_85 rfl (lv_at hl 4 rfl) ?_
          refine lv_iload hx hb dX12_laysWorth_86 (lv_at hl 5 rfl) ?_
          refine lv_iload hx hb dX12_laysWorth_88 (lv_at hl 7 rfl) ?_
          have hPc := hP.sub (ws' := []) [] rfl
          have hKc := hK.sub (tys' := []) [] rfl
          refine va_calli (va_runS (As := [.int v3, .int v4, .int v6]) (rest := [.ref (mr 22)]) ⟨hx, hb, hml, hown, hts⟩ (sX12_placeOf l dC dI v3 v4 v6 gv3 gv4 g_999) (cwS 3 hts (gz_gS mGB_315 mGB_316 mGB_1 mGB_317 goodGB) rfl rfl rfl (by decide +kernel) ⟨Nat.le_trans (Nat.le_of_ble_eq_true rfl) hRf, Nat.le_trans (Nat.le_of_ble_eq_true rfl) hRl⟩) ⟨bl_R, fun U hU hW => ⟨rfl, by rw [hU]; exact hPc, va_K.moved hW.alike hKc⟩⟩ rfl rfl hl.1 rfl (lv_room (Nat.le_of_ble_eq_true rfl)) dX12_laysWorth_90 ⟨hRc, hRs⟩) hS (fun q _ h => h.elim) (fun q h => h.elim) (fun r_1011 u t H1 locs ht hvm hw hB hz1 hk1 hS => ?_)
          have hP := gz_keep hP hk1
          generalize H1 = H at hP hS ⊢
          have gr_1011 : gi r_1011 0 6874 := hw
          refine lv_ldcw (own := RX12) (v := 100000000) hx hb hown (hts _ (List.mem_cons_of_mem _ mGB_557)) dX12_laysWorth_93 ?_
          refine lv_iload hx hb dX12_laysWorth_96 (lv_at hl 6 rfl) ?_
          refine lv_iload hx hb dX12_laysWorth_98 (lv_at hl 0 rfl) ?_
          refine lv_iadd hx hb dX12_laysWorth_100 ?_
          refine lv_topi (fun x_1012 ex_1012 => ?_)
          refine va_mmin (own := RX12) hx hb (by rw [hml]; exact hl.1.symm) hown (hts _ (List.mem_cons_of_mem _ mGB_138)) (hts _ (List.mem_cons_of_mem _ mGB_97)) (hts _ (List.mem_cons_of_mem _ mGB_98)) (hts _ (List.mem_cons_of_mem _ mGB_99)) (Nat.le_trans (Nat.le_of_ble_eq_true rfl) hRf) (Nat.le_trans (Nat.le_of_ble_eq_true rfl) hRl) hRc hRs dX12_laysWorth_101 ?_
          refine lv_topi (fun x_1013 ex_1013 => ?_)
          have gx_1013 : gi x_1013 (-2147483648) 100000000 := gi_min ex_1013 (gi_c 100000000 100000000 (by decide)) (gi_any x_1012) (by decide)
          refine va_iast hx hb hK hP hD hS 23 22 rfl rfl (gi_in gr_1011 (by decide)) dX12_laysWorth_104 (fun H locs hP hD hS => ?_)
          have hP : va_P (dC, dI) vwCl (MWn h0 mr km (mi 0) (mi 1) (mi 2) (mi 3) (mi 4) (mi 5) (mi 6) (mi 7) (mi 10) (mi 17) (mi 23) (mi 24) (mi 26) (mi 27) (mi 28) (mi 29) (mi 30) (mi 31) (mi 32) (mi 33) (mi 37) (mi 41) (mi 42) (mi 43) (mi 44) (mi 45) (mi 47) (mi 48) (mi 49) (mi 50) (mi 51) (mi 54) (mi 56) fm_trust fm_letter fm_reportPlace fm_reportKind fm_struck fm_reportMonth fm_reportDay fm_reportKnown fm_deedMonth fm_deedDay fm_deedLong fm_deedKind fm_kept fm_tape fm_must fm_least fm_pin fm_ways fm_verdict fm_row fm_official fm_aside (upd z1 (r_1011 : Int32).toNatClampNeg x_1013) fm_out) H := hP
          have hD : va_D A (MWn h0 mr km (mi 0) (mi 1) (mi 2) (mi 3) (mi 4) (mi 5) (mi 6) (mi 7) (mi 10) (mi 17) (mi 23) (mi 24) (mi 26) (mi 27) (mi 28) (mi 29) (mi 30) (mi 31) (mi 32) (mi 33) (mi 37) (mi 41) (mi 42) (mi 43) (mi 44) (mi 45) (mi 47) (mi 48) (mi 49) (mi 50) (mi 51) (mi 54) (mi 56) fm_trust fm_letter fm_reportPlace fm_reportKind fm_struck fm_reportMonth fm_reportDay fm_reportKnown fm_deedMonth fm_deedDay fm_deedLong fm_deedKind fm_kept fm_tape fm_must fm_least fm_pin fm_ways fm_verdict fm_row fm_official fm_aside (upd z1 (r_1011 : Int32).toNatClampNeg x_1013) fm_out) := hD
          generalize upd z1 (r_1011 : Int32).toNatClampNeg x_1013 = f_1014 at hP hD
          obtain ⟨x_1015, ex_1015⟩ : ∃ y : Int32, y = v6 + 1 := ⟨_, rfl⟩
          have gx_1015 : gi x_1015 1 11 := gi_add ex_1015 g_999 (gi_c 1 1 (by decide)) (by decide)
          refine lv_iinc (v := x_1015) (lv' := [(6, .int x_1015), (7, .int 0), (0, .ref h0), (1, .int p1), (2, .int p2), (3, .int v3), (4, .int v4), (5, .int v5)]) hx hb dX12_laysWorth_105 hl (k := 7) rfl (by rw [ex_1015]; rfl) (by decide) rfl (fun ls hl => ?_)
          refine lv_goto (tgt := 37) hx hb dX12_laysWorth_108 (by decide) ?_
          exact ih.2.2.1 v3 v4 v5 x_1015 f_1014 _ _ _ gv3 gv4 (gi_w gx_1015 (by decide)) (by have qgmi_0 := gmi_0.1; have rgmi_0 := gmi_0.2; have qgv3 := gv3.1; have rgv3 := gv3.2; omega) (by have qgv3 := gv3.1; have rgv3 := gv3.2; have qgv4 := gv4.1; have rgv4 := gv4.2; omega) (by have av3 := gv3.1; have bv3 := gv3.2; have av4 := gv4.1; have bv4 := gv4.2; have av6 := gv6.1; have bv6 := gv6.2; have qgx_1015 := gx_1015.1; have rgx_1015 := gx_1015.2; have igx_1015 : x_1015.toInt = v6.toInt + 1 := (by have hc1 : (1 : Int32).toInt = 1 := (by decide); have h9 := gi_addI ex_1015 (by have h1 := g_999.1; have h2 := (gi_c 1 1 (by decide)).1; have h3 := g_999.2; have h4 := (gi_c 1 1 (by decide)).2; omega) (by have h1 := g_999.1; have h2 := (gi_c 1 1 (by decide)).1; have h3 := g_999.2; have h4 := (gi_c 1 1 (by decide)).2; omega); rw [hc1] at h9; exact h9); have qgv6 := g_999.1; have rgv6 := g_999.2; have qgv4 := gv4.1; have rgv4 := gv4.2; have qgv3 := gv3.1; have rgv3 := gv3.2; omega) hP hD hS (lv_sub hl [2, 3, 4, 5, 6, 7, 0] rfl)
    · intro v3 v4 v5 w0_54 z1 H locs ls gv3 gv4 gv5 hle_gv3_gv5 hmu hP hD hS hl
      refine lv_iload hx hb dX12_laysWorth_136 (lv_at hl 5 rfl) ?_
      refine lv_aload_n hx hb dX12_laysWorth_138 rfl (lv_at hl 0 rfl) ?_
      refine va_get (D := (dC, dI)) (ci := 12) (v := .int (mi 0)) (C := RX12) (T := TX12) (N := 57) hx hb hts (fun w h => List.mem_cons_of_mem _ (jnGB_X12 w h)) hown hK hP 0 rfl rfl 0 (by decide) (hts _ (List.mem_cons_of_mem _ mGB_103)) (fun _ h9 => h9) rfl dX12_laysWorth_139 ?_
      refine lv_icmp_ge (tgt := 210) hx hb dX12_laysWorth_142 (by decide) (fun c_1016 => ?_) (fun c_1016 => ?_)
      · refine lv_aload_n hx hb dX12_laysWorth_210 rfl (lv_at hl 0 rfl) ?_
        refine va_get (D := (dC, dI)) (ci := 12) (v := .ref (mr 22)) (C := RX12) (T := TX12) (N := 57) hx hb hts (fun w h => List.mem_cons_of_mem _ (jnGB_X12 w h)) hown hK hP 0 rfl rfl 53 (by decide) (hts _ (List.mem_cons_of_mem _ mGB_38)) (fun _ h9 => h9) rfl dX12_laysWorth_211 ?_
        refine lv_iconst (v := 0) hx hb dX12_laysWorth_214 (by decide) ?_
        refine va_iald hx hb hK hP 23 22 rfl rfl (gi_in (gi_c 0 0 (by decide)) (by decide)) dX12_laysWorth_215 ?_
        refine lv_topi (fun x_1017 ex_1017 => ?_)
        exact kr216 x_1017 w0_54 z1 _ _ _ hP hD hS (lv_sub hl [] rfl)
      · have g_1018 : gi v5 0 23 := gi_lt_l (Int32.not_le.mp c_1016) gv5 gmi_0 (by decide)
        have g_1019 : gi v3 0 23 := gi_rel hle_gv3_gv5 gv3 g_1018
        have g_1020 : gi (mi 0) 1 24 := gi_lt_r (Int32.not_le.mp c_1016) gv5 gmi_0 (by decide)
        refine lv_aload_n hx hb dX12_laysWorth_145 rfl (lv_at hl 0 rfl) ?_
        refine lv_iload hx hb dX12_laysWorth_146 (lv_at hl 5 rfl) ?_
        refine lv_iload_n hx hb dX12_laysWorth_148 rfl (lv_at hl 3 rfl) ?_
        refine lv_iload hx hb dX12_laysWorth_149 (lv_at hl 4 rfl) ?_
        refine lv_iconst (v := 0) hx hb dX12_laysWorth_151 (by decide) ?_
        refine va_calli (va_runV (As := [.int v5, .int v3, .int v4, .int 0]) (rest := []) ⟨hx, hb, hml, hown, hts⟩ (sX12_worthBy l dC dI h0 (upd mi 54 w0_54) mr km z1 fm_trust fm_letter fm_reportPlace fm_reportKind fm_struck fm_reportMonth fm_reportDay fm_reportKnown fm_deedMonth fm_deedDay fm_deedLong fm_deedKind fm_kept fm_tape fm_must fm_least fm_pin fm_ways fm_verdict fm_row fm_official fm_aside fm_out v5 v3 v4 0 (gi_w g_1020 (by decide)) gmi_1 gmi_2 gmi_4 gmi_7 gmi_10 gmi_17 gmi_23 gmi_24 gmi_26 gmi_29 gmi_30 gmi_33 gmi_37 gmi_41 gmi_50 gmi_51 gmi_56 g_1018 g_1019 gv4 (gi_w (gi_c 0 0 (by decide)) (by decide))) (cwV 4 hts (gz_gV mGB_563 mGB_564 mGB_565 mGB_1 mGB_566 goodGB) rfl rfl rfl (by decide +kernel) ⟨Nat.le_trans (Nat.le_of_ble_eq_true rfl) hRf, Nat.le_trans (Nat.le_of_ble_eq_true rfl) hRl⟩) ⟨bl_R, mw_recv hK hP, fun U hU hW => ⟨rfl, by rw [hU]; exact hP, va_K.moved hW.alike hK⟩⟩ rfl rfl hl.1 rfl (lv_room (Nat.le_of_ble_eq_true rfl)) dX12_laysWorth_152 ⟨hRc, hRs⟩) hS (fun q _ h => h.elim) (fun q h => h.elim) (fun r_1021 u t H1 locs ht hvm hw hB hz1 hk1 hS => ?_)
        have hP := gz_keep hP hk1
        generalize H1 = H at hP hS ⊢
        refine lv_aload_n hx hb dX12_laysWorth_155 rfl (lv_at hl 0 rfl) ?_
        refine lv_iload hx hb dX12_laysWorth_156 (lv_at hl 5 rfl) ?_
        refine lv_iload_n hx hb dX12_laysWorth_158 rfl (lv_at hl 3 rfl) ?_
        refine lv_iload hx hb dX12_laysWorth_159 (lv_at hl 4 rfl) ?_
        refine lv_iconst (v := 1) hx hb dX12_laysWorth_161 (by decide) ?_
        refine va_calli (va_runV (As := [.int v5, .int v3, .int v4, .int 1]) (rest := [.int r_1021]) ⟨hx, hb, hml, hown, hts⟩ (sX12_worthBy l dC dI h0 (upd mi 54 w0_54) mr km z1 fm_trust fm_letter fm_reportPlace fm_reportKind fm_struck fm_reportMonth fm_reportDay fm_reportKnown fm_deedMonth fm_deedDay fm_deedLong fm_deedKind fm_kept fm_tape fm_must fm_least fm_pin fm_ways fm_verdict fm_row fm_official fm_aside fm_out v5 v3 v4 1 (gi_w g_1020 (by decide)) gmi_1 gmi_2 gmi_4 gmi_7 gmi_10 gmi_17 gmi_23 gmi_24 gmi_26 gmi_29 gmi_30 gmi_33 gmi_37 gmi_41 gmi_50 gmi_51 gmi_56 g_1018 g_1019 gv4 (gi_w (gi_c 1 1 (by decide)) (by decide))) (cwV 4 hts (gz_gV mGB_563 mGB_564 mGB_565 mGB_1 mGB_566 goodGB) rfl rfl rfl (by decide +kernel) ⟨Nat.le_trans (Nat.le_of_ble_eq_true rfl) hRf, Nat.le_trans (Nat.le_of_ble_eq_true rfl) hRl⟩) ⟨bl_R, mw_recv hK hP, fun U hU hW => ⟨rfl, by rw [hU]; exact hP, va_K.moved hW.alike hK⟩⟩ rfl rfl hl.1 rfl (lv_room (Nat.le_of_ble_eq_true rfl)) dX12_laysWorth_162 ⟨hRc, hRs⟩) hS (fun q _ h => h.elim) (fun q h => h.elim) (fun r_1022 u t H1 locs ht hvm hw hB hz1 hk1 hS => ?_)
        have hP := gz_keep hP hk1
        generalize H1 = H at hP hS ⊢
        refine lv_icmp_gt (tgt := 172) hx hb dX12_laysWorth_165 (by decide) (fun c_1023 => ?_) (fun c_1023 => ?_)
        · have g_1024 : gi r_1022 (-2147483648) 2147483646 := gi_lt_l c_1023 (gi_any r_1022) (gi_any r_1021) (by decide)
          have g_1025 : gi r_1021 (-2147483647) 2147483647 := gi_lt_r c_1023 (gi_any r_1022) (gi_any r_1021) (by decide)
          refine lv_iconst (v := 1) hx hb dX12_laysWorth_172 (by decide) ?_
          refine lv_istore (lv' := [(6, .int 1), (0, .ref h0), (1, .int p1), (2, .int p2), (3, .int v3), (4, .int v4), (5, .int v5)]) hx hb dX12_laysWorth_173 hl (by decide) rfl (fun ls hl => ?_)
          refine lv_aload_n hx hb dX12_laysWorth_175 rfl (lv_at hl 1 rfl) ?_
          refine lv_iload hx hb dX12_laysWorth_176 (lv_at hl 5 rfl) ?_
          refine lv_iload hx hb dX12_laysWorth_178 (lv_at hl 0 rfl) ?_
          refine va_calli (va_runV (As := [.int v4, .int 1]) (rest := []) ⟨hx, hb, hml, hown, hts⟩ (sX12_runBehind l dC dI h0 (upd mi 54 w0_54) mr km fm_trust fm_letter fm_reportPlace fm_reportKind fm_struck fm_reportMonth fm_reportDay fm_reportKnown fm_deedMonth fm_deedDay fm_deedLong fm_deedKind fm_kept fm_tape fm_must fm_least fm_pin fm_ways fm_verdict fm_row fm_official fm_aside z1 fm_out v4 1 (gi_w g_1020 (by decide)) gmi_1 gmi_2 gmi_4 gmi_7 gmi_10 gmi_17 gmi_23 gmi_24 gmi_26 gmi_29 gmi_30 gmi_33 gmi_37 gmi_41 gmi_50 gmi_51 gmi_56 gv4 (gi_w (gi_c 1 1 (by decide)) (by decide))) (cwV 2 hts (gz_gV mGB_311 mGB_312 mGB_313 mGB_1 mGB_314 goodGB) rfl rfl rfl (by decide +kernel) ⟨Nat.le_trans (Nat.le_of_ble_eq_true rfl) hRf, Nat.le_trans (Nat.le_of_ble_eq_true rfl) hRl⟩) ⟨bl_R, mw_recv hK hP, fun U hU hW => ⟨rfl, by rw [hU]; exact hP, va_K.moved hW.alike hK⟩⟩ rfl rfl hl.1 rfl (lv_room (Nat.le_of_ble_eq_true rfl)) dX12_laysWorth_180 ⟨hRc, hRs⟩) hS (fun q _ h => h.elim) (fun q h => h.elim) (fun r_1026 u t H1 locs ht hvm hw hB hz1 hk1 hS => ?_)
          have hP := gz_keep hP hk1
          generalize H1 = H at hP hS ⊢
          have gr_1026 : gi r_1026 (-1) 10 := hw
          refine lv_istore (lv' := [(4, .int r_1026), (6, .int 1), (0, .ref h0), (1, .int p1), (2, .int p2), (3, .int v3), (5, .int v5)]) hx hb dX12_laysWorth_183 hl (by decide) rfl (fun ls hl => ?_)
          refine lv_iload_n hx hb dX12_laysWorth_185 rfl (lv_at hl 5 rfl) ?_
          refine lv_iload hx hb dX12_laysWorth_186 (lv_at hl 1 rfl) ?_
          refine lv_iadd hx hb dX12_laysWorth_188 ?_
          refine lv_topi (fun x_1027 ex_1027 => ?_)
          have gx_1027 : gi x_1027 1 24 := gi_add ex_1027 g_1019 (gi_c 1 1 (by decide)) (by decide)
          refine lv_istore_n (lv' := [(3, .int x_1027), (4, .int r_1026), (6, .int 1), (0, .ref h0), (1, .int p1), (2, .int p2), (5, .int v5)]) hx hb dX12_laysWorth_189 rfl hl (by decide) rfl (fun ls hl => ?_)
          refine lv_aload_n hx hb dX12_laysWorth_190 rfl (lv_at hl 3 rfl) ?_
          refine lv_dup hx hb dX12_laysWorth_191 rfl ?_
          refine va_get (D := (dC, dI)) (ci := 12) (v := .int w0_54) (C := RX12) (T := TX12) (N := 57) hx hb hts (fun w h => List.mem_cons_of_mem _ (jnGB_X12 w h)) hown hK hP 0 rfl rfl 54 (by decide) (hts _ (List.mem_cons_of_mem _ mGB_552)) (fun _ h9 => h9) rfl dX12_laysWorth_192 ?_
          refine lv_iload hx hb dX12_laysWorth_195 (lv_at hl 2 rfl) ?_
          refine lv_iload hx hb dX12_laysWorth_197 (lv_at hl 6 rfl) ?_
          refine lv_ishl hx hb dX12_laysWorth_199 ?_
          refine lv_topi (fun x_1028 ex_1028 => ?_)
          refine lv_ior hx hb dX12_laysWorth_200 ?_
          refine lv_topi (fun x_1029 ex_1029 => ?_)
          refine va_put (D := (dC, dI)) (ci := 12) (v := .int x_1029) (ty := .int) (C := RX12) (T := TX12) (N := 57) hx hb hts (fun w h => List.mem_cons_of_mem _ (jnGB_X12 w h)) tyX12 tyX12_ok nmX12 hown hK hP hD hS 0 rfl rfl 54 (by decide) (hts _ (List.mem_cons_of_mem _ mGB_552)) (fun _ h9 => h9) rfl (by decide +kernel) rfl rfl (Nat.le_of_ble_eq_true rfl) dX12_laysWorth_201 (fun H locs hP hD hS => ?_)
          have hP : va_P (dC, dI) vwCl (MWn h0 mr km (mi 0) (mi 1) (mi 2) (mi 3) (mi 4) (mi 5) (mi 6) (mi 7) (mi 10) (mi 17) (mi 23) (mi 24) (mi 26) (mi 27) (mi 28) (mi 29) (mi 30) (mi 31) (mi 32) (mi 33) (mi 37) (mi 41) (mi 42) (mi 43) (mi 44) (mi 45) (mi 47) (mi 48) (mi 49) (mi 50) (mi 51) x_1029 (mi 56) fm_trust fm_letter fm_reportPlace fm_reportKind fm_struck fm_reportMonth fm_reportDay fm_reportKnown fm_deedMonth fm_deedDay fm_deedLong fm_deedKind fm_kept fm_tape fm_must fm_least fm_pin fm_ways fm_verdict fm_row fm_official fm_aside z1 fm_out) H := hP
          have hD : va_D A (MWn h0 mr km (mi 0) (mi 1) (mi 2) (mi 3) (mi 4) (mi 5) (mi 6) (mi 7) (mi 10) (mi 17) (mi 23) (mi 24) (mi 26) (mi 27) (mi 28) (mi 29) (mi 30) (mi 31) (mi 32) (mi 33) (mi 37) (mi 41) (mi 42) (mi 43) (mi 44) (mi 45) (mi 47) (mi 48) (mi 49) (mi 50) (mi 51) x_1029 (mi 56) fm_trust fm_letter fm_reportPlace fm_reportKind fm_struck fm_reportMonth fm_reportDay fm_reportKnown fm_deedMonth fm_deedDay fm_deedLong fm_deedKind fm_kept fm_tape fm_must fm_least fm_pin fm_ways fm_verdict fm_row fm_official fm_aside z1 fm_out) := hD
          obtain ⟨x_1030, ex_1030⟩ : ∃ y : Int32, y = v5 + 1 := ⟨_, rfl⟩
          have gx_1030 : gi x_1030 1 24 := gi_add ex_1030 g_1018 (gi_c 1 1 (by decide)) (by decide)
          refine lv_iinc (v := x_1030) (lv' := [(5, .int x_1030), (3, .int x_1027), (4, .int r_1026), (6, .int 1), (0, .ref h0), (1, .int p1), (2, .int p2)]) hx hb dX12_laysWorth_204 hl (k := 6) rfl (by rw [ex_1030]; rfl) (by decide) rfl (fun ls hl => ?_)
          refine lv_goto (tgt := 136) hx hb dX12_laysWorth_207 (by decide) ?_
          exact ih.2.2.2 x_1027 r_1026 x_1030 x_1029 z1 _ _ _ (gi_w gx_1027 (by decide)) gr_1026 (gi_w gx_1030 (by decide)) (by have qgx_1030 := gx_1030.1; have rgx_1030 := gx_1030.2; have igx_1030 : x_1030.toInt = v5.toInt + 1 := (by have hc1 : (1 : Int32).toInt = 1 := (by decide); have h9 := gi_addI ex_1030 (by have h1 := g_1018.1; have h2 := (gi_c 1 1 (by decide)).1; have h3 := g_1018.2; have h4 := (gi_c 1 1 (by decide)).2; omega) (by have h1 := g_1018.1; have h2 := (gi_c 1 1 (by decide)).1; have h3 := g_1018.2; have h4 := (gi_c 1 1 (by decide)).2; omega); rw [hc1] at h9; exact h9); have qgv5 := g_1018.1; have rgv5 := g_1018.2; have qgx_1027 := gx_1027.1; have rgx_1027 := gx_1027.2; have igx_1027 : x_1027.toInt = v3.toInt + 1 := (by have hc1 : (1 : Int32).toInt = 1 := (by decide); have h9 := gi_addI ex_1027 (by have h1 := g_1019.1; have h2 := (gi_c 1 1 (by decide)).1; have h3 := g_1019.2; have h4 := (gi_c 1 1 (by decide)).2; omega) (by have h1 := g_1019.1; have h2 := (gi_c 1 1 (by decide)).1; have h3 := g_1019.2; have h4 := (gi_c 1 1 (by decide)).2; omega); rw [hc1] at h9; exact h9); have qgv3 := g_1019.1; have rgv3 := g_1019.2; have y1 := (Int32.lt_iff_toInt_lt.mp (Int32.not_le.mp c_1016)); have y2 := (Int32.lt_iff_toInt_lt.mp c_1023); omega) (by have av5 := gv5.1; have bv5 := gv5.2; have qgx_1030 := gx_1030.1; have rgx_1030 := gx_1030.2; have igx_1030 : x_1030.toInt = v5.toInt + 1 := (by have hc1 : (1 : Int32).toInt = 1 := (by decide); have h9 := gi_addI ex_1030 (by have h1 := g_1018.1; have h2 := (gi_c 1 1 (by decide)).1; have h3 := g_1018.2; have h4 := (gi_c 1 1 (by decide)).2; omega) (by have h1 := g_1018.1; have h2 := (gi_c 1 1 (by decide)).1; have h3 := g_1018.2; have h4 := (gi_c 1 1 (by decide)).2; omega); rw [hc1] at h9; exact h9); have qgv5 := g_1018.1; have rgv5 := g_1018.2; omega) hP hD hS (lv_sub hl [4, 5, 6, 1, 2, 0] rfl)
        · refine lv_iconst (v := 0) hx hb dX12_laysWorth_168 (by decide) ?_
          refine lv_goto (tgt := 173) hx hb dX12_laysWorth_169 (by decide) ?_
          refine lv_istore (lv' := [(6, .int 0), (0, .ref h0), (1, .int p1), (2, .int p2), (3, .int v3), (4, .int v4), (5, .int v5)]) hx hb dX12_laysWorth_173 hl (by decide) rfl (fun ls hl => ?_)
          refine lv_aload_n hx hb dX12_laysWorth_175 rfl (lv_at hl 1 rfl) ?_
          refine lv_iload hx hb dX12_laysWorth_176 (lv_at hl 5 rfl) ?_
          refine lv_iload hx hb dX12_laysWorth_178 (lv_at hl 0 rfl) ?_
          refine va_calli (va_runV (As := [.int v4, .int 0]) (rest := []) ⟨hx, hb, hml, hown, hts⟩ (sX12_runBehind l dC dI h0 (upd mi 54 w0_54) mr km fm_trust fm_letter fm_reportPlace fm_reportKind fm_struck fm_reportMonth fm_reportDay fm_reportKnown fm_deedMonth fm_deedDay fm_deedLong fm_deedKind fm_kept fm_tape fm_must fm_least fm_pin fm_ways fm_verdict fm_row fm_official fm_aside z1 fm_out v4 0 (gi_w g_1020 (by decide)) gmi_1 gmi_2 gmi_4 gmi_7 gmi_10 gmi_17 gmi_23 gmi_24 gmi_26 gmi_29 gmi_30 gmi_33 gmi_37 gmi_41 gmi_50 gmi_51 gmi_56 gv4 (gi_w (gi_c 0 0 (by decide)) (by decide))) (cwV 2 hts (gz_gV mGB_311 mGB_312 mGB_313 mGB_1 mGB_314 goodGB) rfl rfl rfl (by decide +kernel) ⟨Nat.le_trans (Nat.le_of_ble_eq_true rfl) hRf, Nat.le_trans (Nat.le_of_ble_eq_true rfl) hRl⟩) ⟨bl_R, mw_recv hK hP, fun U hU hW => ⟨rfl, by rw [hU]; exact hP, va_K.moved hW.alike hK⟩⟩ rfl rfl hl.1 rfl (lv_room (Nat.le_of_ble_eq_true rfl)) dX12_laysWorth_180 ⟨hRc, hRs⟩) hS (fun q _ h => h.elim) (fun q h => h.elim) (fun r_1031 u t H1 locs ht hvm hw hB hz1 hk1 hS => ?_)
          have hP := gz_keep hP hk1
          generalize H1 = H at hP hS ⊢
          have gr_1031 : gi r_1031 (-1) 10 := hw
          refine lv_istore (lv' := [(4, .int r_1031), (6, .int 0), (0, .ref h0), (1, .int p1), (2, .int p2), (3, .int v3), (5, .int v5)]) hx hb dX12_laysWorth_183 hl (by decide) rfl (fun ls hl => ?_)
          refine lv_iload_n hx hb dX12_laysWorth_185 rfl (lv_at hl 5 rfl) ?_
          refine lv_iload hx hb dX12_laysWorth_186 (lv_at hl 1 rfl) ?_
          refine lv_iadd hx hb dX12_laysWorth_188 ?_
          refine lv_topi (fun x_1032 ex_1032 => ?_)
          have gx_1032 : gi x_1032 0 23 := gi_add ex_1032 g_1019 (gi_c 0 0 (by decide)) (by decide)
          refine lv_istore_n (lv' := [(3, .int x_1032), (4, .int r_1031), (6, .int 0), (0, .ref h0), (1, .int p1), (2, .int p2), (5, .int v5)]) hx hb dX12_laysWorth_189 rfl hl (by decide) rfl (fun ls hl => ?_)
          refine lv_aload_n hx hb dX12_laysWorth_190 rfl (lv_at hl 3 rfl) ?_
          refine lv_dup hx hb dX12_laysWorth_191 rfl ?_
          refine va_get (D := (dC, dI)) (ci := 12) (v := .int w0_54) (C := RX12) (T := TX12) (N := 57) hx hb hts (fun w h => List.mem_cons_of_mem _ (jnGB_X12 w h)) hown hK hP 0 rfl rfl 54 (by decide) (hts _ (List.mem_cons_of_mem _ mGB_552)) (fun _ h9 => h9) rfl dX12_laysWorth_192 ?_
          refine lv_iload hx hb dX12_laysWorth_195 (lv_at hl 2 rfl) ?_
          refine lv_iload hx hb dX12_laysWorth_197 (lv_at hl 6 rfl) ?_
          refine lv_ishl hx hb dX12_laysWorth_199 ?_
          refine lv_topi (fun x_1033 ex_1033 => ?_)
          refine lv_ior hx hb dX12_laysWorth_200 ?_
          refine lv_topi (fun x_1034 ex_1034 => ?_)
          refine va_put (D := (dC, dI)) (ci := 12) (v := .int x_1034) (ty := .int) (C := RX12) (T := TX12) (N := 57) hx hb hts (fun w h => List.mem_cons_of_mem _ (jnGB_X12 w h)) tyX12 tyX12_ok nmX12 hown hK hP hD hS 0 rfl rfl 54 (by decide) (hts _ (List.mem_cons_of_mem _ mGB_552)) (fun _ h9 => h9) rfl (by decide +kernel) rfl rfl (Nat.le_of_ble_eq_true rfl) dX12_laysWorth_201 (fun H locs hP hD hS => ?_)
          have hP : va_P (dC, dI) vwCl (MWn h0 mr km (mi 0) (mi 1) (mi 2) (mi 3) (mi 4) (mi 5) (mi 6) (mi 7) (mi 10) (mi 17) (mi 23) (mi 24) (mi 26) (mi 27) (mi 28) (mi 29) (mi 30) (mi 31) (mi 32) (mi 33) (mi 37) (mi 41) (mi 42) (mi 43) (mi 44) (mi 45) (mi 47) (mi 48) (mi 49) (mi 50) (mi 51) x_1034 (mi 56) fm_trust fm_letter fm_reportPlace fm_reportKind fm_struck fm_reportMonth fm_reportDay fm_reportKnown fm_deedMonth fm_deedDay fm_deedLong fm_deedKind fm_kept fm_tape fm_must fm_least fm_pin fm_ways fm_verdict fm_row fm_official fm_aside z1 fm_out) H := hP
          have hD : va_D A (MWn h0 mr km (mi 0) (mi 1) (mi 2) (mi 3) (mi 4) (mi 5) (mi 6) (mi 7) (mi 10) (mi 17) (mi 23) (mi 24) (mi 26) (mi 27) (mi 28) (mi 29) (mi 30) (mi 31) (mi 32) (mi 33) (mi 37) (mi 41) (mi 42) (mi 43) (mi 44) (mi 45) (mi 47) (mi 48) (mi 49) (mi 50) (mi 51) x_1034 (mi 56) fm_trust fm_letter fm_reportPlace fm_reportKind fm_struck fm_reportMonth fm_reportDay fm_reportKnown fm_deedMonth fm_deedDay fm_deedLong fm_deedKind fm_kept fm_tape fm_must fm_least fm_pin fm_ways fm_verdict fm_row fm_official fm_aside z1 fm_out) := hD
          obtain ⟨x_1035, ex_1035⟩ : ∃ y : Int32, y = v5 + 1 := ⟨_, rfl⟩
          have gx_1035 : gi x_1035 1 24 := gi_add ex_1035 g_1018 (gi_c 1 1 (by decide)) (by decide)
          refine lv_iinc (v := x_1035) (lv' := [(5, .int x_1035), (3, .int x_1032), (4, .int r_1031), (6, .int 0), (0, .ref h0), (1, .int p1), (2, .int p2)]) hx hb dX12_laysWorth_204 hl (k := 6) rfl (by rw [ex_1035]; rfl) (by decide) rfl (fun ls hl => ?_)
          refine lv_goto (tgt := 136) hx hb dX12_laysWorth_207 (by decide) ?_
          exact ih.2.2.2 x_1032 r_1031 x_1035 x_1034 z1 _ _ _ (gi_w gx_1032 (by decide)) gr_1031 (gi_w gx_1035 (by decide)) (by have qgx_1035 := gx_1035.1; have rgx_1035 := gx_1035.2; have igx_1035 : x_1035.toInt = v5.toInt + 1 := (by have hc1 : (1 : Int32).toInt = 1 := (by decide); have h9 := gi_addI ex_1035 (by have h1 := g_1018.1; have h2 := (gi_c 1 1 (by decide)).1; have h3 := g_1018.2; have h4 := (gi_c 1 1 (by decide)).2; omega) (by have h1 := g_1018.1; have h2 := (gi_c 1 1 (by decide)).1; have h3 := g_1018.2; have h4 := (gi_c 1 1 (by decide)).2; omega); rw [hc1] at h9; exact h9); have qgv5 := g_1018.1; have rgv5 := g_1018.2; have qgx_1032 := gx_1032.1; have rgx_1032 := gx_1032.2; have igx_1032 : x_1032.toInt = v3.toInt + 0 := (by have hc0 : (0 : Int32).toInt = 0 := (by decide); have h9 := gi_addI ex_1032 (by have h1 := g_1019.1; have h2 := (gi_c 0 0 (by decide)).1; have h3 := g_1019.2; have h4 := (gi_c 0 0 (by decide)).2; omega) (by have h1 := g_1019.1; have h2 := (gi_c 0 0 (by decide)).1; have h3 := g_1019.2; have h4 := (gi_c 0 0 (by decide)).2; omega); rw [hc0] at h9; exact h9); have qgv3 := g_1019.1; have rgv3 := g_1019.2; have y1 := (Int32.lt_iff_toInt_lt.mp (Int32.not_le.mp c_1016)); have y2 := (Int32.le_iff_toInt_le.mp (Int32.not_lt.mp c_1023)); omega) (by have av5 := gv5.1; have bv5 := gv5.2; have qgx_1035 := gx_1035.1; have rgx_1035 := gx_1035.2; have igx_1035 : x_1035.toInt = v5.toInt + 1 := (by have hc1 : (1 : Int32).toInt = 1 := (by decide); have h9 := gi_addI ex_1035 (by have h1 := g_1018.1; have h2 := (gi_c 1 1 (by decide)).1; have h3 := g_1018.2; have h4 := (gi_c 1 1 (by decide)).2; omega) (by have h1 := g_1018.1; have h2 := (gi_c 1 1 (by decide)).1; have h3 := g_1018.2; have h4 := (gi_c 1 1 (by decide)).2; omega); rw [hc1] at h9; exact h9); have qgv5 := g_1018.1; have rgv5 := g_1018.2; omega) hP hD hS (lv_sub hl [4, 5, 6, 1, 2, 0] rfl)
abbrev pb_sX12_laysWorth (dC : Nat → ClassId) (dI : Nat → Nat → Nat) (A9 : Nat → Prop) (h0 : Nat) (mi : Nat → Int32) (mr : Nat → Nat) (km : Nat → ClassId) (fm_worth : Nat → Int32) (fm_must : Nat → Int32) (fm_least : Nat → Int32) (fm_pin : Nat → Int32) (fm_struck : Nat → Int32) (fm_reportKnown : Nat → Int32) (fm_reportMonth : Nat → Int32) (fm_reportKind : Nat → Int32) (fm_reportDay : Nat → Int32) (fm_reportPlace : Nat → Int32) (fm_trust : Nat → Int32) (fm_letter : Nat → Int32) (fm_deedMonth : Nat → Int32) (fm_deedDay : Nat → Int32) (fm_deedLong : Nat → Int32) (fm_deedKind : Nat → Int32) (fm_kept : Nat → Int32) (fm_tape : Nat → Int32) (fm_ways : Nat → Int32) (fm_verdict : Nat → Int32) (fm_row : Nat → Int32) (fm_official : Nat → Int32) (fm_aside : Nat → Int32) (fm_out : Nat → Int32) (p1 : Int32) (p2 : Int32) (w0_54 : Int32) (z1 : Nat → Int32) (t : State) : Prop := va_P (dC, dI) vwCl (MWn h0 mr km (mi 0) (mi 1) (mi 2) (mi 3) (mi 4) (mi 5) (mi 6) (mi 7) (mi 10) (mi 17) (mi 23) (mi 24) (mi 26) (mi 27) (mi 28) (mi 29) (mi 30) (mi 31) (mi 32) (mi 33) (mi 37) (mi 41) (mi 42) (mi 43) (mi 44) (mi 45) (mi 47) (mi 48) (mi 49) (mi 50) (mi 51) w0_54 (mi 56) fm_trust fm_letter fm_reportPlace fm_reportKind fm_struck fm_reportMonth fm_reportDay fm_reportKnown fm_deedMonth fm_deedDay fm_deedLong fm_deedKind fm_kept fm_tape fm_must fm_least fm_pin fm_ways fm_verdict fm_row fm_official fm_aside z1 fm_out) t.heap ∧ va_D A9 (MWn h0 mr km (mi 0) (mi 1) (mi 2) (mi 3) (mi 4) (mi 5) (mi 6) (mi 7) (mi 10) (mi 17) (mi 23) (mi 24) (mi 26) (mi 27) (mi 28) (mi 29) (mi 30) (mi 31) (mi 32) (mi 33) (mi 37) (mi 41) (mi 42) (mi 43) (mi 44) (mi 45) (mi 47) (mi 48) (mi 49) (mi 50) (mi 51) w0_54 (mi 56) fm_trust fm_letter fm_reportPlace fm_reportKind fm_struck fm_reportMonth fm_reportDay fm_reportKnown fm_deedMonth fm_deedDay fm_deedLong fm_deedKind fm_kept fm_tape fm_must fm_least fm_pin fm_ways fm_verdict fm_row fm_official fm_aside z1 fm_out)
set_option maxHeartbeats 4000000 in
set_option maxRecDepth 100000 in
theorem sX12_laysWorth (l : Launch) (dC : Nat → ClassId) (dI : Nat → Nat → Nat) (sz : Nat) (h0 : Nat) (mi : Nat → Int32) (mr : Nat → Nat) (km : Nat → ClassId) (fm_worth : Nat → Int32) (fm_must : Nat → Int32) (fm_least : Nat → Int32) (fm_pin : Nat → Int32) (fm_struck : Nat → Int32) (fm_reportKnown : Nat → Int32) (fm_reportMonth : Nat → Int32) (fm_reportKind : Nat → Int32) (fm_reportDay : Nat → Int32) (fm_reportPlace : Nat → Int32) (fm_trust : Nat → Int32) (fm_letter : Nat → Int32) (fm_deedMonth : Nat → Int32) (fm_deedDay : Nat → Int32) (fm_deedLong : Nat → Int32) (fm_deedKind : Nat → Int32) (fm_kept : Nat → Int32) (fm_tape : Nat → Int32) (fm_ways : Nat → Int32) (fm_verdict : Nat → Int32) (fm_row : Nat → Int32) (fm_official : Nat → Int32) (fm_aside : Nat → Int32) (fm_out : Nat → Int32) (p1 : Int32) (p2 : Int32) (gmi_0 : gi (mi 0) 0 24) (gmi_1 : gi (mi 1) 0 5) (gmi_2 : gi (mi 2) 0 5) (gmi_4 : gi (mi 4) 0 1) (gmi_7 : gi (mi 7) 0 6) (gmi_10 : gi (mi 10) 0 24) (gmi_17 : gi (mi 17) 0 8) (gmi_23 : gi (mi 23) 0 300) (gmi_24 : gi (mi 24) 0 1) (gmi_26 : gi (mi 26) 0 1600) (gmi_29 : gi (mi 29) 0 1600) (gmi_30 : gi (mi 30) 0 1600) (gmi_33 : gi (mi 33) 0 1) (gmi_37 : gi (mi 37) 0 1) (gmi_41 : gi (mi 41) 0 24) (gmi_50 : gi (mi 50) 0 1) (gmi_51 : gi (mi 51) 0 1) (gmi_56 : gi (mi 56) 0 80) (gfm_struck : ga fm_struck 24 0 1) (gfm_reportKnown : ga fm_reportKnown 24 0 999) (gfm_reportMonth : ga fm_reportMonth 24 0 23) (gfm_reportDay : ga fm_reportDay 24 0 999) (gfm_reportPlace : ga fm_reportPlace 24 0 5) (gp2 : gi p2 0 1) : Met l yX12_laysWorth (.code yX12_laysWorth cX12_laysWorth 8 (some .int) :: wsGB) ({ frames := 2, cells := 0, slots := 0, locals := 49 }) (va_Pc [.ref h0, .int p1, .int p2] (fun U => U.heap.size = sz ∧ va_P (dC, dI) vwCl (MWn h0 mr km (mi 0) (mi 1) (mi 2) (mi 3) (mi 4) (mi 5) (mi 6) (mi 7) (mi 10) (mi 17) (mi 23) (mi 24) (mi 26) (mi 27) (mi 28) (mi 29) (mi 30) (mi 31) (mi 32) (mi 33) (mi 37) (mi 41) (mi 42) (mi 43) (mi 44) (mi 45) (mi 47) (mi 48) (mi 49) (mi 50) (mi 51) (mi 54) (mi 56) fm_trust fm_letter fm_reportPlace fm_reportKind fm_struck fm_reportMonth fm_reportDay fm_reportKnown fm_deedMonth fm_deedDay fm_deedLong fm_deedKind fm_kept fm_tape fm_must fm_least fm_pin fm_ways fm_verdict fm_row fm_official fm_aside fm_worth fm_out) U.heap ∧ va_K (dC, dI) vwCl (MT km) U ∧ va_D (fun _ => True) (MWn h0 mr km (mi 0) (mi 1) (mi 2) (mi 3) (mi 4) (mi 5) (mi 6) (mi 7) (mi 10) (mi 17) (mi 23) (mi 24) (mi 26) (mi 27) (mi 28) (mi 29) (mi 30) (mi 31) (mi 32) (mi 33) (mi 37) (mi 41) (mi 42) (mi 43) (mi 44) (mi 45) (mi 47) (mi 48) (mi 49) (mi 50) (mi 51) (mi 54) (mi 56) fm_trust fm_letter fm_reportPlace fm_reportKind fm_struck fm_reportMonth fm_reportDay fm_reportKnown fm_deedMonth fm_deedDay fm_deedLong fm_deedKind fm_kept fm_tape fm_must fm_least fm_pin fm_ways fm_verdict fm_row fm_official fm_aside fm_worth fm_out))) (va_Qi (fun (r : Int32) (u : Unit) => gi r (-2147483648) 2147483647) (fun _ t => ∃ (w0_54 : Int32) (z1 : Nat → Int32), pb_sX12_laysWorth dC dI (va_A (MWn h0 mr km (mi 0) (mi 1) (mi 2) (mi 3) (mi 4) (mi 5) (mi 6) (mi 7) (mi 10) (mi 17) (mi 23) (mi 24) (mi 26) (mi 27) (mi 28) (mi 29) (mi 30) (mi 31) (mi 32) (mi 33) (mi 37) (mi 41) (mi 42) (mi 43) (mi 44) (mi 45) (mi 47) (mi 48) (mi 49) (mi 50) (mi 51) (mi 54) (mi 56) fm_trust fm_letter fm_reportPlace fm_reportKind fm_struck fm_reportMonth fm_reportDay fm_reportKnown fm_deedMonth fm_deedDay fm_deedLong fm_deedKind fm_kept fm_tape fm_must fm_least fm_pin fm_ways fm_verdict fm_row fm_official fm_aside fm_worth fm_out) sz) h0 mi mr km fm_worth fm_must fm_least fm_pin fm_struck fm_reportKnown fm_reportMonth fm_reportKind fm_reportDay fm_reportPlace fm_trust fm_letter fm_deedMonth fm_deedDay fm_deedLong fm_deedKind fm_kept fm_tape fm_ways fm_verdict fm_row fm_official fm_aside fm_out p1 p2 w0_54 z1 t) (va_A (MWn h0 mr km (mi 0) (mi 1) (mi 2) (mi 3) (mi 4) (mi 5) (mi 6) (mi 7) (mi 10) (mi 17) (mi 23) (mi 24) (mi 26) (mi 27) (mi 28) (mi 29) (mi 30) (mi 31) (mi 32) (mi 33) (mi 37) (mi 41) (mi 42) (mi 43) (mi 44) (mi 45) (mi 47) (mi 48) (mi 49) (mi 50) (mi 51) (mi 54) (mi 56) fm_trust fm_letter fm_reportPlace fm_reportKind fm_struck fm_reportMonth fm_reportDay fm_reportKnown fm_deedMonth fm_deedDay fm_deedLong fm_deedKind fm_kept fm_tape fm_must fm_least fm_pin fm_ways fm_verdict fm_row fm_official fm_aside fm_worth fm_out) sz)) 0 0 (va_A (MWn h0 mr km (mi 0) (mi 1) (mi 2) (mi 3) (mi 4) (mi 5) (mi 6) (mi 7) (mi 10) (mi 17) (mi 23) (mi 24) (mi 26) (mi 27) (mi 28) (mi 29) (mi 30) (mi 31) (mi 32) (mi 33) (mi 37) (mi 41) (mi 42) (mi 43) (mi 44) (mi 45) (mi 47) (mi 48) (mi 49) (mi 50) (mi 51) (mi 54) (mi 56) fm_trust fm_letter fm_reportPlace fm_reportKind fm_struck fm_reportMonth fm_reportDay fm_reportKnown fm_deedMonth fm_deedDay fm_deedLong fm_deedKind fm_kept fm_tape fm_must fm_least fm_pin fm_ways fm_verdict fm_row fm_official fm_aside fm_worth fm_out) sz) := by
  refine Met.ofW (cc := cX12_laysWorth) (maxL := 8) (ret := (some .int)) (by decide) rfl ?_
  intro p e s m args below meth c s₁ B hml hv
  obtain ⟨rfl, hsz, hP, hK, hD0⟩ := hv
  have hx := B.exec
  have hb := B.bytes
  have hr := B.returns
  have hts := atoms_spec (ws := (.code yX12_laysWorth cX12_laysWorth 8 (some .int) :: wsGB)) B.pre
  have hown : s.vm.findClass RX12 = some m.cls := findClass_of_methodNamed B.named
  have hlocks := B.notSynchronized
  subst hsz
  have hD := hD0.self (sz := s.heap.size)
  generalize hAe : va_A (MWn h0 mr km (mi 0) (mi 1) (mi 2) (mi 3) (mi 4) (mi 5) (mi 6) (mi 7) (mi 10) (mi 17) (mi 23) (mi 24) (mi 26) (mi 27) (mi 28) (mi 29) (mi 30) (mi 31) (mi 32) (mi 33) (mi 37) (mi 41) (mi 42) (mi 43) (mi 44) (mi 45) (mi 47) (mi 48) (mi 49) (mi 50) (mi 51) (mi 54) (mi 56) fm_trust fm_letter fm_reportPlace fm_reportKind fm_struck fm_reportMonth fm_reportDay fm_reportKnown fm_deedMonth fm_deedDay fm_deedLong fm_deedKind fm_kept fm_tape fm_must fm_least fm_pin fm_ways fm_verdict fm_row fm_official fm_aside fm_worth fm_out) s.heap.size = A at hD ⊢
  have hA : ∀ q : Nat, s.heap.size ≤ q → A q := fun q h => by rw [← hAe]; exact Or.inr h
  have hS : va_S A s.heap s.heap [] := va_S.rf
  have hl := lv_entry ([.ref h0, .int p1, .int p2]) (n := 8) (Nat.le_of_ble_eq_true rfl)
  rw [lg_entry_eq]
  generalize (lg_sl ([.ref h0, .int p1, .int p2]) ++ List.replicate (8 - (lg_sl ([.ref h0, .int p1, .int p2])).length) Slot.unset).toArray = ls at hl ⊢
  have hl : lv_has ls 8 [(0, .ref h0), (1, .int p1), (2, .int p2)] := hl
  refine lv_aload_n hx hb dX12_laysWorth_0 rfl (lv_at hl 0 rfl) ?_
  refine va_get (D := (dC, dI)) (ci := 12) (v := .int (mi 0)) (C := RX12) (T := TX12) (N := 57) hx hb hts (fun w h => List.mem_cons_of_mem _ (jnGB_X12 w h)) hown hK hP 0 rfl rfl 0 (by decide) (hts _ (List.mem_cons_of_mem _ mGB_103)) (fun _ h9 => h9) rfl dX12_laysWorth_1 ?_
  refine lv_istore_n (lv' := [(3, .int (mi 0)), (0, .ref h0), (1, .int p1), (2, .int p2)]) hx hb dX12_laysWorth_4 rfl hl (by decide) rfl (fun ls hl => ?_)
  refine (lp_sX12_laysWorth h0 mi mr km fm_worth fm_must fm_least fm_pin fm_struck fm_reportKnown fm_reportMonth fm_reportKind fm_reportDay fm_reportPlace fm_trust fm_letter fm_deedMonth fm_deedDay fm_deedLong fm_deedKind fm_kept fm_tape fm_ways fm_verdict fm_row fm_official fm_aside fm_out p1 p2 gmi_0 gmi_1 gmi_2 gmi_4 gmi_7 gmi_10 gmi_17 gmi_23 gmi_24 gmi_26 gmi_29 gmi_30 gmi_33 gmi_37 gmi_41 gmi_50 gmi_51 gmi_56 gfm_struck gfm_reportKnown gfm_reportMonth gfm_reportDay gfm_reportPlace gp2 hx hb hml hown hts hK hA (Nat.le_of_ble_eq_true rfl) (Nat.le_of_ble_eq_true rfl) (Nat.zero_le _) (Nat.zero_le _) (fun v w0_54 z1 H locs ls hP hD hS hl => ?_) 20528).1 (mi 0) fm_worth _ _ _ (gi_w gmi_0 (by decide)) (by have qgmi_0 := gmi_0.1; have rgmi_0 := gmi_0.2; omega) (by have qgmi_0 := gmi_0.1; have rgmi_0 := gmi_0.2; omega) hP hD hS (lv_sub hl [1, 2, 3, 0] rfl)
  · skip
    exact W.iret (v := v) hx hb hr (fun t ht hW => ⟨⟨v, (), rfl, (gi_any v), w0_54, z1, by rw [ht]; exact hP, hD⟩, hS.F ht⟩) hS.2.2 dX12_laysWorth_216
theorem dX12_nearest_0 : decode cX12_nearest 0 = .ok (.aload_n 0, 1) := by decide +kernel
theorem dX12_nearest_1 : decode cX12_nearest 1 = .ok (.iload_n 1, 1) := by decide +kernel
theorem dX12_nearest_2 : decode cX12_nearest 2 = .ok (.invokevirtual 359, 3) := by decide +kernel
theorem dX12_nearest_5 : decode cX12_nearest 5 = .ok (.ifCond .eq 20, 3) := by decide +kernel
theorem dX12_nearest_8 : decode cX12_nearest 8 = .ok (.aload_n 0, 1) := by decide +kernel
theorem dX12_nearest_9 : decode cX12_nearest 9 = .ok (.getfield 129, 3) := by decide +kernel
theorem dX12_nearest_12 : decode cX12_nearest 12 = .ok (.ifCond .eq 13, 3) := by decide +kernel
theorem dX12_nearest_15 : decode cX12_nearest 15 = .ok (.iload_n 2, 1) := by decide +kernel
theorem dX12_nearest_16 : decode cX12_nearest 16 = .ok (.i2l, 1) := by decide +kernel
theorem dX12_nearest_17 : decode cX12_nearest 17 = .ok (.lconst 0, 1) := by decide +kernel
theorem dX12_nearest_18 : decode cX12_nearest 18 = .ok (.lconst 1, 1) := by decide +kernel
theorem dX12_nearest_19 : decode cX12_nearest 19 = .ok (.invokestatic 102, 3) := by decide +kernel
theorem dX12_nearest_22 : decode cX12_nearest 22 = .ok (.ifCond .ne 6, 3) := by decide +kernel
theorem dX12_nearest_25 : decode cX12_nearest 25 = .ok (.bipush (-2), 2) := by decide +kernel
theorem dX12_nearest_27 : decode cX12_nearest 27 = .ok (.ireturn, 1) := by decide +kernel
theorem dX12_nearest_28 : decode cX12_nearest 28 = .ok (.aload_n 0, 1) := by decide +kernel
theorem dX12_nearest_29 : decode cX12_nearest 29 = .ok (.iload_n 1, 1) := by decide +kernel
theorem dX12_nearest_30 : decode cX12_nearest 30 = .ok (.invokevirtual 362, 3) := by decide +kernel
theorem dX12_nearest_33 : decode cX12_nearest 33 = .ok (.aload_n 0, 1) := by decide +kernel
theorem dX12_nearest_34 : decode cX12_nearest 34 = .ok (.iload_n 1, 1) := by decide +kernel
theorem dX12_nearest_35 : decode cX12_nearest 35 = .ok (.iconst 1, 1) := by decide +kernel
theorem dX12_nearest_36 : decode cX12_nearest 36 = .ok (.invokevirtual 482, 3) := by decide +kernel
theorem dX12_nearest_39 : decode cX12_nearest 39 = .ok (.istore_n 3, 1) := by decide +kernel
theorem dX12_nearest_40 : decode cX12_nearest 40 = .ok (.iload_n 2, 1) := by decide +kernel
theorem dX12_nearest_41 : decode cX12_nearest 41 = .ok (.ifCond .ne 7, 3) := by decide +kernel
theorem dX12_nearest_44 : decode cX12_nearest 44 = .ok (.iload_n 3, 1) := by decide +kernel
theorem dX12_nearest_45 : decode cX12_nearest 45 = .ok (.goto 7, 3) := by decide +kernel
theorem dX12_nearest_48 : decode cX12_nearest 48 = .ok (.aload_n 0, 1) := by decide +kernel
theorem dX12_nearest_49 : decode cX12_nearest 49 = .ok (.getfield 479, 3) := by decide +kernel
theorem dX12_nearest_52 : decode cX12_nearest 52 = .ok (.ireturn, 1) := by decide +kernel
abbrev pb_sX12_nearest (dC : Nat → ClassId) (dI : Nat → Nat → Nat) (A9 : Nat → Prop) (h0 : Nat) (mi : Nat → Int32) (mr : Nat → Nat) (km : Nat → ClassId) (fm_must : Nat → Int32) (fm_least : Nat → Int32) (fm_pin : Nat → Int32) (fm_ways : Nat → Int32) (fm_verdict : Nat → Int32) (fm_row : Nat → Int32) (fm_struck : Nat → Int32) (fm_reportKnown : Nat → Int32) (fm_reportPlace : Nat → Int32) (fm_reportMonth : Nat → Int32) (fm_reportDay : Nat → Int32) (fm_reportKind : Nat → Int32) (fm_trust : Nat → Int32) (fm_letter : Nat → Int32) (fm_worth : Nat → Int32) (fm_deedMonth : Nat → Int32) (fm_deedDay : Nat → Int32) (fm_deedLong : Nat → Int32) (fm_deedKind : Nat → Int32) (fm_kept : Nat → Int32) (fm_tape : Nat → Int32) (fm_official : Nat → Int32) (fm_aside : Nat → Int32) (fm_out : Nat → Int32) (p1 : Int32) (p2 : Int32) (w0_37 : Int32) (w0_41 : Int32) (w0_54 : Int32) (z1 : Nat → Int32) (z2 : Nat → Int32) (z3 : Nat → Int32) (z4 : Nat → Int32) (z5 : Nat → Int32) (z6 : Nat → Int32) (z15 : Nat → Int32) (t : State) : Prop := gi w0_37 0 1 ∧ gi w0_41 0 24 ∧ ga z6 24 0 23 ∧ va_P (dC, dI) vwCl (MWn h0 mr km (mi 0) (mi 1) (mi 2) (mi 3) (mi 4) (mi 5) (mi 6) (mi 7) (mi 10) (mi 17) (mi 23) (mi 24) (mi 26) (mi 27) (mi 28) (mi 29) (mi 30) (mi 31) (mi 32) (mi 33) w0_37 w0_41 (mi 42) (mi 43) (mi 44) (mi 45) (mi 47) (mi 48) (mi 49) (mi 50) (mi 51) w0_54 (mi 56) fm_trust fm_letter fm_reportPlace fm_reportKind fm_struck fm_reportMonth fm_reportDay fm_reportKnown fm_deedMonth fm_deedDay fm_deedLong fm_deedKind fm_kept fm_tape z1 z2 z3 z4 z5 z6 fm_official fm_aside z15 fm_out) t.heap ∧ va_D A9 (MWn h0 mr km (mi 0) (mi 1) (mi 2) (mi 3) (mi 4) (mi 5) (mi 6) (mi 7) (mi 10) (mi 17) (mi 23) (mi 24) (mi 26) (mi 27) (mi 28) (mi 29) (mi 30) (mi 31) (mi 32) (mi 33) w0_37 w0_41 (mi 42) (mi 43) (mi 44) (mi 45) (mi 47) (mi 48) (mi 49) (mi 50) (mi 51) w0_54 (mi 56) fm_trust fm_letter fm_reportPlace fm_reportKind fm_struck fm_reportMonth fm_reportDay fm_reportKnown fm_deedMonth fm_deedDay fm_deedLong fm_deedKind fm_kept fm_tape z1 z2 z3 z4 z5 z6 fm_official fm_aside z15 fm_out)
set_option maxHeartbeats 4000000 in
set_option maxRecDepth 100000 in
theorem sX12_nearest (l : Launch) (dC : Nat → ClassId) (dI : Nat → Nat → Nat) (sz : Nat) (h0 : Nat) (mi : Nat → Int32) (mr : Nat → Nat) (km : Nat → ClassId) (fm_must : Nat → Int32) (fm_least : Nat → Int32) (fm_pin : Nat → Int32) (fm_ways : Nat → Int32) (fm_verdict : Nat → Int32) (fm_row : Nat → Int32) (fm_struck : Nat → Int32) (fm_reportKnown : Nat → Int32) (fm_reportPlace : Nat → Int32) (fm_reportMonth : Nat → Int32) (fm_reportDay : Nat → Int32) (fm_reportKind : Nat → Int32) (fm_trust : Nat → Int32) (fm_letter : Nat → Int32) (fm_worth : Nat → Int32) (fm_deedMonth : Nat → Int32) (fm_deedDay : Nat → Int32) (fm_deedLong : Nat → Int32) (fm_deedKind : Nat → Int32) (fm_kept : Nat → Int32) (fm_tape : Nat → Int32) (fm_official : Nat → Int32) (fm_aside : Nat → Int32) (fm_out : Nat → Int32) (p1 : Int32) (p2 : Int32) (gmi_0 : gi (mi 0) 0 24) (gmi_1 : gi (mi 1) 0 5) (gmi_2 : gi (mi 2) 0 5) (gmi_4 : gi (mi 4) 0 1) (gmi_7 : gi (mi 7) 0 6) (gmi_10 : gi (mi 10) 0 24) (gmi_17 : gi (mi 17) 0 8) (gmi_23 : gi (mi 23) 0 300) (gmi_24 : gi (mi 24) 0 1) (gmi_26 : gi (mi 26) 0 1600) (gmi_29 : gi (mi 29) 0 1600) (gmi_30 : gi (mi 30) 0 1600) (gmi_33 : gi (mi 33) 0 1) (gmi_37 : gi (mi 37) 0 1) (gmi_41 : gi (mi 41) 0 24) (gmi_50 : gi (mi 50) 0 1) (gmi_51 : gi (mi 51) 0 1) (gmi_56 : gi (mi 56) 0 80) (gfm_row : ga fm_row 24 0 23) (gfm_struck : ga fm_struck 24 0 1) (gfm_reportKnown : ga fm_reportKnown 24 0 999) (gfm_reportPlace : ga fm_reportPlace 24 0 5) (gfm_reportMonth : ga fm_reportMonth 24 0 23) (gfm_reportDay : ga fm_reportDay 24 0 999) : Met l yX12_nearest (.code yX12_nearest cX12_nearest 4 (some .int) :: wsGB) ({ frames := 5, cells := 0, slots := 0, locals := 119 }) (va_Pc [.ref h0, .int p1, .int p2] (fun U => U.heap.size = sz ∧ va_P (dC, dI) vwCl (MWn h0 mr km (mi 0) (mi 1) (mi 2) (mi 3) (mi 4) (mi 5) (mi 6) (mi 7) (mi 10) (mi 17) (mi 23) (mi 24) (mi 26) (mi 27) (mi 28) (mi 29) (mi 30) (mi 31) (mi 32) (mi 33) (mi 37) (mi 41) (mi 42) (mi 43) (mi 44) (mi 45) (mi 47) (mi 48) (mi 49) (mi 50) (mi 51) (mi 54) (mi 56) fm_trust fm_letter fm_reportPlace fm_reportKind fm_struck fm_reportMonth fm_reportDay fm_reportKnown fm_deedMonth fm_deedDay fm_deedLong fm_deedKind fm_kept fm_tape fm_must fm_least fm_pin fm_ways fm_verdict fm_row fm_official fm_aside fm_worth fm_out) U.heap ∧ va_K (dC, dI) vwCl (MT km) U ∧ va_D (fun _ => True) (MWn h0 mr km (mi 0) (mi 1) (mi 2) (mi 3) (mi 4) (mi 5) (mi 6) (mi 7) (mi 10) (mi 17) (mi 23) (mi 24) (mi 26) (mi 27) (mi 28) (mi 29) (mi 30) (mi 31) (mi 32) (mi 33) (mi 37) (mi 41) (mi 42) (mi 43) (mi 44) (mi 45) (mi 47) (mi 48) (mi 49) (mi 50) (mi 51) (mi 54) (mi 56) fm_trust fm_letter fm_reportPlace fm_reportKind fm_struck fm_reportMonth fm_reportDay fm_reportKnown fm_deedMonth fm_deedDay fm_deedLong fm_deedKind fm_kept fm_tape fm_must fm_least fm_pin fm_ways fm_verdict fm_row fm_official fm_aside fm_worth fm_out))) (va_Qi (fun (r : Int32) (u : Unit) => gi r (-2147483648) 2147483647) (fun _ t => ∃ (w0_37 : Int32) (w0_41 : Int32) (w0_54 : Int32) (z1 : Nat → Int32) (z2 : Nat → Int32) (z3 : Nat → Int32) (z4 : Nat → Int32) (z5 : Nat → Int32) (z6 : Nat → Int32) (z15 : Nat → Int32), pb_sX12_nearest dC dI (va_A (MWn h0 mr km (mi 0) (mi 1) (mi 2) (mi 3) (mi 4) (mi 5) (mi 6) (mi 7) (mi 10) (mi 17) (mi 23) (mi 24) (mi 26) (mi 27) (mi 28) (mi 29) (mi 30) (mi 31) (mi 32) (mi 33) (mi 37) (mi 41) (mi 42) (mi 43) (mi 44) (mi 45) (mi 47) (mi 48) (mi 49) (mi 50) (mi 51) (mi 54) (mi 56) fm_trust fm_letter fm_reportPlace fm_reportKind fm_struck fm_reportMonth fm_reportDay fm_reportKnown fm_deedMonth fm_deedDay fm_deedLong fm_deedKind fm_kept fm_tape fm_must fm_least fm_pin fm_ways fm_verdict fm_row fm_official fm_aside fm_worth fm_out) sz) h0 mi mr km fm_must fm_least fm_pin fm_ways fm_verdict fm_row fm_struck fm_reportKnown fm_reportPlace fm_reportMonth fm_reportDay fm_reportKind fm_trust fm_letter fm_worth fm_deedMonth fm_deedDay fm_deedLong fm_deedKind fm_kept fm_tape fm_official fm_aside fm_out p1 p2 w0_37 w0_41 w0_54 z1 z2 z3 z4 z5 z6 z15 t) (va_A (MWn h0 mr km (mi 0) (mi 1) (mi 2) (mi 3) (mi 4) (mi 5) (mi 6) (mi 7) (mi 10) (mi 17) (mi 23) (mi 24) (mi 26) (mi 27) (mi 28) (mi 29) (mi 30) (mi 31) (mi 32) (mi 33) (mi 37) (mi 41) (mi 42) (mi 43) (mi 44) (mi 45) (mi 47) (mi 48) (mi 49) (mi 50) (mi 51) (mi 54) (mi 56) fm_trust fm_letter fm_reportPlace fm_reportKind fm_struck fm_reportMonth fm_reportDay fm_reportKnown fm_deedMonth fm_deedDay fm_deedLong fm_deedKind fm_kept fm_tape fm_must fm_least fm_pin fm_ways fm_verdict fm_row fm_official fm_aside fm_worth fm_out) sz)) 0 0 (va_A (MWn h0 mr km (mi 0) (mi 1) (mi 2) (mi 3) (mi 4) (mi 5) (mi 6) (mi 7) (mi 10) (mi 17) (mi 23) (mi 24) (mi 26) (mi 27) (mi 28) (mi 29) (mi 30) (mi 31) (mi 32) (mi 33) (mi 37) (mi 41) (mi 42) (mi 43) (mi 44) (mi 45) (mi 47) (mi 48) (mi 49) (mi 50) (mi 51) (mi 54) (mi 56) fm_trust fm_letter fm_reportPlace fm_reportKind fm_struck fm_reportMonth fm_reportDay fm_reportKnown fm_deedMonth fm_deedDay fm_deedLong fm_deedKind fm_kept fm_tape fm_must fm_least fm_pin fm_ways fm_verdict fm_row fm_official fm_aside fm_worth fm_out) sz) := by
  refine Met.ofW (cc := cX12_nearest) (maxL := 4) (ret := (some .int)) (by decide) rfl ?_
  intro p e s m args below meth c s₁ B hml hv
  obtain ⟨rfl, hsz, hP, hK, hD0⟩ := hv
  have hx := B.exec
  have hb := B.bytes
  have hr := B.returns
  have hts := atoms_spec (ws := (.code yX12_nearest cX12_nearest 4 (some .int) :: wsGB)) B.pre
  have hown : s.vm.findClass RX12 = some m.cls := findClass_of_methodNamed B.named
  have hlocks := B.notSynchronized
  subst hsz
  have hD := hD0.self (sz := s.heap.size)
  generalize hAe : va_A (MWn h0 mr km (mi 0) (mi 1) (mi 2) (mi 3) (mi 4) (mi 5) (mi 6) (mi 7) (mi 10) (mi 17) (mi 23) (mi 24) (mi 26) (mi 27) (mi 28) (mi 29) (mi 30) (mi 31) (mi 32) (mi 33) (mi 37) (mi 41) (mi 42) (mi 43) (mi 44) (mi 45) (mi 47) (mi 48) (mi 49) (mi 50) (mi 51) (mi 54) (mi 56) fm_trust fm_letter fm_reportPlace fm_reportKind fm_struck fm_reportMonth fm_reportDay fm_reportKnown fm_deedMonth fm_deedDay fm_deedLong fm_deedKind fm_kept fm_tape fm_must fm_least fm_pin fm_ways fm_verdict fm_row fm_official fm_aside fm_worth fm_out) s.heap.size = A at hD ⊢
  have hA : ∀ q : Nat, s.heap.size ≤ q → A q := fun q h => by rw [← hAe]; exact Or.inr h
  have hS : va_S A s.heap s.heap [] := va_S.rf
  have hl := lv_entry ([.ref h0, .int p1, .int p2]) (n := 4) (Nat.le_of_ble_eq_true rfl)
  rw [lg_entry_eq]
  generalize (lg_sl ([.ref h0, .int p1, .int p2]) ++ List.replicate (4 - (lg_sl ([.ref h0, .int p1, .int p2])).length) Slot.unset).toArray = ls at hl ⊢
  have hl : lv_has ls 4 [(0, .ref h0), (1, .int p1), (2, .int p2)] := hl
  refine lv_aload_n hx hb dX12_nearest_0 rfl (lv_at hl 0 rfl) ?_
  refine lv_iload_n hx hb dX12_nearest_1 rfl (lv_at hl 1 rfl) ?_
  refine va_calli (va_runV (As := [.int p1]) (rest := []) ⟨hx, hb, hml, hown, hts⟩ (sX12_isTime l dC dI h0 mi mr km fm_trust fm_letter fm_reportPlace fm_reportKind fm_struck fm_reportMonth fm_reportDay fm_reportKnown fm_deedMonth fm_deedDay fm_deedLong fm_deedKind fm_kept fm_tape fm_must fm_least fm_pin fm_ways fm_verdict fm_row fm_official fm_aside fm_worth fm_out p1 gmi_0 gmi_1 gmi_2 gmi_4 gmi_7 gmi_10 gmi_17 gmi_23 gmi_24 gmi_26 gmi_29 gmi_30 gmi_33 gmi_37 gmi_41 gmi_50 gmi_51 gmi_56) (cwV 1 hts (gz_gV mGB_256 mGB_257 mGB_258 mGB_1 mGB_259 goodGB) rfl rfl rfl (by decide +kernel) ⟨Nat.le_of_ble_eq_true rfl, Nat.le_of_ble_eq_true rfl⟩) ⟨bl_R, mw_recv hK hP, fun U hU hW => ⟨rfl, by rw [hU]; exact hP, va_K.moved hW.alike hK⟩⟩ rfl rfl hl.1 rfl (lv_room (Nat.le_of_ble_eq_true rfl)) dX12_nearest_2 ⟨Nat.zero_le _, Nat.zero_le _⟩) hS (fun q _ h => h.elim) (fun q h => h.elim) (fun r_59 u t H1 locs ht hvm hw hB hz1 hk1 hS => ?_)
  obtain ⟨hw, hE⟩ := hw
  have hP := gz_keep hP hk1
  generalize H1 = H at hP hS ⊢
  have gr_59 : gi r_59 0 1 := hw.1
  have hqr_59 := hw.2
  refine lv_if_eq (tgt := 25) hx hb dX12_nearest_5 (by decide) (fun c_60 => ?_) (fun c_60 => ?_)
  · have g_61 : gi r_59 0 0 := gi_eq c_60 (gi_c 0 0 (by decide))
    refine lv_bipush (v := (-2)) hx hb dX12_nearest_25 (by decide) ?_
    exact W.iret (v := (-2)) hx hb hr (fun t ht hW => ⟨⟨(-2), (), rfl, (gi_any (-2)), (mi 37), (mi 41), (mi 54), fm_must, fm_least, fm_pin, fm_ways, fm_verdict, fm_row, fm_worth, gmi_37, gmi_41, gfm_row, by rw [ht]; exact hP, hD⟩, hS.F ht⟩) hS.2.2 dX12_nearest_27
  · have g_62 : gi r_59 1 1 := gi_ne_lo c_60 gr_59 (gi_c 0 0 (by decide)) (by decide)
    have g_63 : gi p1 0 999 := gi_cap (gi_any p1) (hqr_59 (gz_one g_62)) (by decide)
    refine lv_aload_n hx hb dX12_nearest_8 rfl (lv_at hl 0 rfl) ?_
    refine va_get (D := (dC, dI)) (ci := 12) (v := .int (mi 4)) (C := RX12) (T := TX12) (N := 57) hx hb hts (fun w h => List.mem_cons_of_mem _ (jnGB_X12 w h)) hown hK hP 0 rfl rfl 4 (by decide) (hts _ (List.mem_cons_of_mem _ mGB_107)) (fun _ h9 => h9) rfl dX12_nearest_9 ?_
    refine lv_if_eq (tgt := 25) hx hb dX12_nearest_12 (by decide) (fun c_64 => ?_) (fun c_64 => ?_)
    · have g_65 : gi (mi 4) 0 0 := gi_eq c_64 (gi_c 0 0 (by decide))
      refine lv_bipush (v := (-2)) hx hb dX12_nearest_25 (by decide) ?_
      exact W.iret (v := (-2)) hx hb hr (fun t ht hW => ⟨⟨(-2), (), rfl, (gi_any (-2)), (mi 37), (mi 41), (mi 54), fm_must, fm_least, fm_pin, fm_ways, fm_verdict, fm_row, fm_worth, gmi_37, gmi_41, gfm_row, by rw [ht]; exact hP, hD⟩, hS.F ht⟩) hS.2.2 dX12_nearest_27
    · have g_66 : gi (mi 4) 1 1 := gi_ne_lo c_64 gmi_4 (gi_c 0 0 (by decide)) (by decide)
      refine lv_iload_n hx hb dX12_nearest_15 rfl (lv_at hl 2 rfl) ?_
      refine lv_i2l (v := (p2).toInt64) hx hb dX12_nearest_16 rfl ?_
      refine lv_topl (fun l_67 el_67 => ?_)
      refine lv_lconst (v := 0) hx hb dX12_nearest_17 (by decide) ?_
      refine lv_lconst (v := 1) hx hb dX12_nearest_18 (by decide) ?_
      have hPc := hP.sub (ws' := []) [] rfl
      have hKc := hK.sub (tys' := []) [] rfl
      refine va_calli (va_runS (As := [.long l_67, .long 0, .long 1]) (rest := []) ⟨hx, hb, hml, hown, hts⟩ (sX12_in l dC dI l_67 0 1) (cwS 3 hts (gz_gS mGB_47 mGB_48 mGB_1 mGB_49 goodGB) rfl rfl rfl (by decide +kernel) ⟨Nat.le_of_ble_eq_true rfl, Nat.le_of_ble_eq_true rfl⟩) ⟨bl_R, fun U hU hW => ⟨rfl, by rw [hU]; exact hPc, va_K.moved hW.alike hKc⟩⟩ rfl rfl hl.1 rfl (lv_room (Nat.le_of_ble_eq_true rfl)) dX12_nearest_19 ⟨Nat.zero_le _, Nat.zero_le _⟩) hS (fun q _ h => h.elim) (fun q h => h.elim) (fun r_68 u t H1 locs ht hvm hw hB hz1 hk1 hS => ?_)
      obtain ⟨hw, hE⟩ := hw
      have hP := gz_keep hP hk1
      generalize H1 = H at hP hS ⊢
      have gr_68 : gi r_68 0 1 := hw.1
      have hqr_68 := hw.2
      refine lv_if_ne (tgt := 28) hx hb dX12_nearest_22 (by decide) (fun c_69 => ?_) (fun c_69 => ?_)
      · have g_70 : gi r_68 1 1 := gi_ne_lo c_69 gr_68 (gi_c 0 0 (by decide)) (by decide)
        have g_71 : gi p2 0 1 := gi_cap (gi_any p2) (gz_inr (hqr_68.1 (gz_one g_70)) el_67 (A := 0) (B := 1) (by decide) (by decide)) (by decide)
        refine lv_aload_n hx hb dX12_nearest_28 rfl (lv_at hl 0 rfl) ?_
        refine lv_iload_n hx hb dX12_nearest_29 rfl (lv_at hl 1 rfl) ?_
        have hFc := gz_fullF hD hS hA
        refine va_callv (va_runV (As := [.int p1]) (rest := []) ⟨hx, hb, hml, hown, hts⟩ (sX12_judgesAll l dC dI H.size h0 mi mr km fm_must fm_least fm_pin fm_ways fm_verdict fm_row fm_struck fm_reportKnown fm_reportPlace fm_reportMonth fm_reportDay fm_reportKind fm_trust fm_letter fm_deedMonth fm_deedDay fm_deedLong fm_deedKind fm_kept fm_tape fm_official fm_aside fm_worth fm_out p1 gmi_0 gmi_1 gmi_2 (gi_w g_66 (by decide)) gmi_7 gmi_10 gmi_17 gmi_23 gmi_24 gmi_26 gmi_29 gmi_30 gmi_33 gmi_37 gmi_41 gmi_50 gmi_51 gmi_56 gfm_row gfm_struck gfm_reportKnown gfm_reportPlace gfm_reportMonth gfm_reportDay) (cwV 1 hts (gz_gV mGB_261 mGB_262 mGB_263 mGB_1 mGB_264 goodGB) rfl rfl rfl (by decide +kernel) ⟨Nat.le_of_ble_eq_true rfl, Nat.le_of_ble_eq_true rfl⟩) ⟨bl_W, mw_recv hK hP, fun U hU hW => ⟨rfl, by rw [hU], by rw [hU]; exact hP, va_K.moved hW.alike hK, hD.weaken (fun _ _ _ _ => trivial)⟩⟩ rfl rfl hl.1 rfl (lv_room (Nat.le_of_ble_eq_true rfl)) dX12_nearest_30 ⟨Nat.zero_le _, Nat.zero_le _⟩) hS (fun q _ h => hFc q h) hFc (fun u t H1 locs ht hvm hw hB hz1 hk1 hS => ?_)
        obtain ⟨y_73, y_74, f_75, f_76, f_77, f_78, f_79, f_80, hB⟩ := hB
        obtain ⟨gy_73, gy_74, gf_80, hP1, hD1⟩ := hB
        rw [ht] at hP1
        have hD : va_D A (MWn h0 mr km (mi 0) (mi 1) (mi 2) (mi 3) (mi 4) (mi 5) (mi 6) (mi 7) (mi 10) (mi 17) (mi 23) (mi 24) (mi 26) (mi 27) (mi 28) (mi 29) (mi 30) (mi 31) (mi 32) (mi 33) y_73 y_74 (mi 42) (mi 43) (mi 44) (mi 45) (mi 47) (mi 48) (mi 49) (mi 50) (mi 51) (mi 54) (mi 56) fm_trust fm_letter fm_reportPlace fm_reportKind fm_struck fm_reportMonth fm_reportDay fm_reportKnown fm_deedMonth fm_deedDay fm_deedLong fm_deedKind fm_kept fm_tape f_75 f_76 f_77 f_78 f_79 f_80 fm_official fm_aside fm_worth fm_out) := gz_fullD hFc hD1
        have hP : va_P (dC, dI) vwCl (MWn h0 mr km (mi 0) (mi 1) (mi 2) (mi 3) (mi 4) (mi 5) (mi 6) (mi 7) (mi 10) (mi 17) (mi 23) (mi 24) (mi 26) (mi 27) (mi 28) (mi 29) (mi 30) (mi 31) (mi 32) (mi 33) y_73 y_74 (mi 42) (mi 43) (mi 44) (mi 45) (mi 47) (mi 48) (mi 49) (mi 50) (mi 51) (mi 54) (mi 56) fm_trust fm_letter fm_reportPlace fm_reportKind fm_struck fm_reportMonth fm_reportDay fm_reportKnown fm_deedMonth fm_deedDay fm_deedLong fm_deedKind fm_kept fm_tape f_75 f_76 f_77 f_78 f_79 f_80 fm_official fm_aside fm_worth fm_out) H1 := hP1
        generalize H1 = H at hP hS ⊢
        refine lv_aload_n hx hb dX12_nearest_33 rfl (lv_at hl 0 rfl) ?_
        refine lv_iload_n hx hb dX12_nearest_34 rfl (lv_at hl 1 rfl) ?_
        refine lv_iconst (v := 1) hx hb dX12_nearest_35 (by decide) ?_
        have hFc := gz_fullF hD hS hA
        refine va_calli (va_runV (As := [.int p1, .int 1]) (rest := []) ⟨hx, hb, hml, hown, hts⟩ (sX12_laysWorth l dC dI H.size h0 (upd (upd mi 37 y_73) 41 y_74) mr km fm_worth f_75 f_76 f_77 fm_struck fm_reportKnown fm_reportMonth fm_reportKind fm_reportDay fm_reportPlace fm_trust fm_letter fm_deedMonth fm_deedDay fm_deedLong fm_deedKind fm_kept fm_tape f_78 f_79 f_80 fm_official fm_aside fm_out p1 1 gmi_0 gmi_1 gmi_2 (gi_w g_66 (by decide)) gmi_7 gmi_10 gmi_17 gmi_23 gmi_24 gmi_26 gmi_29 gmi_30 gmi_33 gy_73 gy_74 gmi_50 gmi_51 gmi_56 gfm_struck gfm_reportKnown gfm_reportMonth gfm_reportDay gfm_reportPlace (gi_w (gi_c 1 1 (by decide)) (by decide))) (cwV 2 hts (gz_gV mGB_553 mGB_554 mGB_555 mGB_1 mGB_556 goodGB) rfl rfl rfl (by decide +kernel) ⟨Nat.le_of_ble_eq_true rfl, Nat.le_of_ble_eq_true rfl⟩) ⟨bl_W, mw_recv hK hP, fun U hU hW => ⟨rfl, by rw [hU], by rw [hU]; exact hP, va_K.moved hW.alike hK, hD.weaken (fun _ _ _ _ => trivial)⟩⟩ rfl rfl hl.1 rfl (lv_room (Nat.le_of_ble_eq_true rfl)) dX12_nearest_36 ⟨Nat.zero_le _, Nat.zero_le _⟩) hS (fun q _ h => hFc q h) hFc (fun r_81 u t H1 locs ht hvm hw hB hz1 hk1 hS => ?_)
        obtain ⟨y_82, f_83, hB⟩ := hB
        obtain ⟨hP1, hD1⟩ := hB
        rw [ht] at hP1
        have hD : va_D A (MWn h0 mr km (mi 0) (mi 1) (mi 2) (mi 3) (mi 4) (mi 5) (mi 6) (mi 7) (mi 10) (mi 17) (mi 23) (mi 24) (mi 26) (mi 27) (mi 28) (mi 29) (mi 30) (mi 31) (mi 32) (mi 33) y_73 y_74 (mi 42) (mi 43) (mi 44) (mi 45) (mi 47) (mi 48) (mi 49) (mi 50) (mi 51) y_82 (mi 56) fm_trust fm_letter fm_reportPlace fm_reportKind fm_struck fm_reportMonth fm_reportDay fm_reportKnown fm_deedMonth fm_deedDay fm_deedLong fm_deedKind fm_kept fm_tape f_75 f_76 f_77 f_78 f_79 f_80 fm_official fm_aside f_83 fm_out) := gz_fullD hFc hD1
        have hP : va_P (dC, dI) vwCl (MWn h0 mr km (mi 0) (mi 1) (mi 2) (mi 3) (mi 4) (mi 5) (mi 6) (mi 7) (mi 10) (mi 17) (mi 23) (mi 24) (mi 26) (mi 27) (mi 28) (mi 29) (mi 30) (mi 31) (mi 32) (mi 33) y_73 y_74 (mi 42) (mi 43) (mi 44) (mi 45) (mi 47) (mi 48) (mi 49) (mi 50) (mi 51) y_82 (mi 56) fm_trust fm_letter fm_reportPlace fm_reportKind fm_struck fm_reportMonth fm_reportDay fm_reportKnown fm_deedMonth fm_deedDay fm_deedLong fm_deedKind fm_kept fm_tape f_75 f_76 f_77 f_78 f_79 f_80 fm_official fm_aside f_83 fm_out) H1 := hP1
        generalize H1 = H at hP hS ⊢
        refine lv_istore_n (lv' := [(3, .int r_81), (0, .ref h0), (1, .int p1), (2, .int p2)]) hx hb dX12_nearest_39 rfl hl (by decide) rfl (fun ls hl => ?_)
        refine lv_iload_n hx hb dX12_nearest_40 rfl (lv_at hl 3 rfl) ?_
        refine lv_if_ne (tgt := 48) hx hb dX12_nearest_41 (by decide) (fun c_84 => ?_) (fun c_84 => ?_)
        · have g_85 : gi p2 1 1 := gi_ne_lo c_84 g_71 (gi_c 0 0 (by decide)) (by decide)
          refine lv_aload_n hx hb dX12_nearest_48 rfl (lv_at hl 1 rfl) ?_
          refine va_get (D := (dC, dI)) (ci := 12) (v := .int y_82) (C := RX12) (T := TX12) (N := 57) hx hb hts (fun w h => List.mem_cons_of_mem _ (jnGB_X12 w h)) hown hK hP 0 rfl rfl 54 (by decide) (hts _ (List.mem_cons_of_mem _ mGB_552)) (fun _ h9 => h9) rfl dX12_nearest_49 ?_
          exact W.iret (v := y_82) hx hb hr (fun t ht hW => ⟨⟨y_82, (), rfl, (gi_any y_82), y_73, y_74, y_82, f_75, f_76, f_77, f_78, f_79, f_80, f_83, gy_73, gy_74, gf_80, by rw [ht]; exact hP, hD⟩, hS.F ht⟩) hS.2.2 dX12_nearest_52
        · have g_86 : gi p2 0 0 := gi_eq c_84 (gi_c 0 0 (by decide))
          refine lv_iload_n hx hb dX12_nearest_44 rfl (lv_at hl 0 rfl) ?_
          refine lv_goto (tgt := 52) hx hb dX12_nearest_45 (by decide) ?_
          exact W.iret (v := r_81) hx hb hr (fun t ht hW => ⟨⟨r_81, (), rfl, (gi_any r_81), y_73, y_74, y_82, f_75, f_76, f_77, f_78, f_79, f_80, f_83, gy_73, gy_74, gf_80, by rw [ht]; exact hP, hD⟩, hS.F ht⟩) hS.2.2 dX12_nearest_52
      · have g_87 : gi r_68 0 0 := gi_eq c_69 (gi_c 0 0 (by decide))
        refine lv_bipush (v := (-2)) hx hb dX12_nearest_25 (by decide) ?_
        exact W.iret (v := (-2)) hx hb hr (fun t ht hW => ⟨⟨(-2), (), rfl, (gi_any (-2)), (mi 37), (mi 41), (mi 54), fm_must, fm_least, fm_pin, fm_ways, fm_verdict, fm_row, fm_worth, gmi_37, gmi_41, gfm_row, by rw [ht]; exact hP, hD⟩, hS.F ht⟩) hS.2.2 dX12_nearest_27
theorem dX12_backed_0 : decode cX12_backed 0 = .ok (.aload_n 0, 1) := by decide +kernel
theorem dX12_backed_1 : decode cX12_backed 1 = .ok (.iload_n 1, 1) := by decide +kernel
theorem dX12_backed_2 : decode cX12_backed 2 = .ok (.invokevirtual 359, 3) := by decide +kernel
theorem dX12_backed_5 : decode cX12_backed 5 = .ok (.ifCond .eq 13, 3) := by decide +kernel
theorem dX12_backed_8 : decode cX12_backed 8 = .ok (.iload_n 2, 1) := by decide +kernel
theorem dX12_backed_9 : decode cX12_backed 9 = .ok (.i2l, 1) := by decide +kernel
theorem dX12_backed_10 : decode cX12_backed 10 = .ok (.lconst 0, 1) := by decide +kernel
theorem dX12_backed_11 : decode cX12_backed 11 = .ok (.lconst 1, 1) := by decide +kernel
theorem dX12_backed_12 : decode cX12_backed 12 = .ok (.invokestatic 102, 3) := by decide +kernel
theorem dX12_backed_15 : decode cX12_backed 15 = .ok (.ifCond .ne 6, 3) := by decide +kernel
theorem dX12_backed_18 : decode cX12_backed 18 = .ok (.bipush (-2), 2) := by decide +kernel
theorem dX12_backed_20 : decode cX12_backed 20 = .ok (.ireturn, 1) := by decide +kernel
theorem dX12_backed_21 : decode cX12_backed 21 = .ok (.iconst 0, 1) := by decide +kernel
theorem dX12_backed_22 : decode cX12_backed 22 = .ok (.istore_n 3, 1) := by decide +kernel
theorem dX12_backed_23 : decode cX12_backed 23 = .ok (.iconst 0, 1) := by decide +kernel
theorem dX12_backed_24 : decode cX12_backed 24 = .ok (.istore 4, 2) := by decide +kernel
theorem dX12_backed_26 : decode cX12_backed 26 = .ok (.iload 4, 2) := by decide +kernel
theorem dX12_backed_28 : decode cX12_backed 28 = .ok (.aload_n 0, 1) := by decide +kernel
theorem dX12_backed_29 : decode cX12_backed 29 = .ok (.getfield 141, 3) := by decide +kernel
theorem dX12_backed_32 : decode cX12_backed 32 = .ok (.if_icmp .ge 49, 3) := by decide +kernel
theorem dX12_backed_35 : decode cX12_backed 35 = .ok (.iload_n 3, 1) := by decide +kernel
theorem dX12_backed_36 : decode cX12_backed 36 = .ok (.aload_n 0, 1) := by decide +kernel
theorem dX12_backed_37 : decode cX12_backed 37 = .ok (.iload 4, 2) := by decide +kernel
theorem dX12_backed_39 : decode cX12_backed 39 = .ok (.iload_n 1, 1) := by decide +kernel
theorem dX12_backed_40 : decode cX12_backed 40 = .ok (.invokevirtual 341, 3) := by decide +kernel
theorem dX12_backed_43 : decode cX12_backed 43 = .ok (.ifCond .eq 29, 3) := by decide +kernel
theorem dX12_backed_46 : decode cX12_backed 46 = .ok (.aload_n 0, 1) := by decide +kernel
theorem dX12_backed_47 : decode cX12_backed 47 = .ok (.getfield 19, 3) := by decide +kernel
theorem dX12_backed_50 : decode cX12_backed 50 = .ok (.iload 4, 2) := by decide +kernel
theorem dX12_backed_52 : decode cX12_backed 52 = .ok (.iaload, 1) := by decide +kernel
theorem dX12_backed_53 : decode cX12_backed 53 = .ok (.iconst 2, 1) := by decide +kernel
theorem dX12_backed_54 : decode cX12_backed 54 = .ok (.if_icmp .eq 18, 3) := by decide +kernel
theorem dX12_backed_57 : decode cX12_backed 57 = .ok (.aload_n 0, 1) := by decide +kernel
theorem dX12_backed_58 : decode cX12_backed 58 = .ok (.getfield 7, 3) := by decide +kernel
theorem dX12_backed_61 : decode cX12_backed 61 = .ok (.aload_n 0, 1) := by decide +kernel
theorem dX12_backed_62 : decode cX12_backed 62 = .ok (.getfield 16, 3) := by decide +kernel
theorem dX12_backed_65 : decode cX12_backed 65 = .ok (.iload 4, 2) := by decide +kernel
theorem dX12_backed_67 : decode cX12_backed 67 = .ok (.iaload, 1) := by decide +kernel
theorem dX12_backed_68 : decode cX12_backed 68 = .ok (.iaload, 1) := by decide +kernel
theorem dX12_backed_69 : decode cX12_backed 69 = .ok (.goto 4, 3) := by decide +kernel
theorem dX12_backed_72 : decode cX12_backed 72 = .ok (.iconst 0, 1) := by decide +kernel
theorem dX12_backed_73 : decode cX12_backed 73 = .ok (.iadd, 1) := by decide +kernel
theorem dX12_backed_74 : decode cX12_backed 74 = .ok (.istore_n 3, 1) := by decide +kernel
theorem dX12_backed_75 : decode cX12_backed 75 = .ok (.iinc 4 1, 3) := by decide +kernel
theorem dX12_backed_78 : decode cX12_backed 78 = .ok (.goto (-52), 3) := by decide +kernel
theorem dX12_backed_81 : decode cX12_backed 81 = .ok (.aload_n 0, 1) := by decide +kernel
theorem dX12_backed_82 : decode cX12_backed 82 = .ok (.iload_n 1, 1) := by decide +kernel
theorem dX12_backed_83 : decode cX12_backed 83 = .ok (.iconst 0, 1) := by decide +kernel
theorem dX12_backed_84 : decode cX12_backed 84 = .ok (.invokevirtual 482, 3) := by decide +kernel
theorem dX12_backed_87 : decode cX12_backed 87 = .ok (.istore 4, 2) := by decide +kernel
theorem dX12_backed_89 : decode cX12_backed 89 = .ok (.iload_n 2, 1) := by decide +kernel
theorem dX12_backed_90 : decode cX12_backed 90 = .ok (.ifCond .ne 10, 3) := by decide +kernel
theorem dX12_backed_93 : decode cX12_backed 93 = .ok (.iload_n 3, 1) := by decide +kernel
theorem dX12_backed_94 : decode cX12_backed 94 = .ok (.iload 4, 2) := by decide +kernel
theorem dX12_backed_96 : decode cX12_backed 96 = .ok (.isub, 1) := by decide +kernel
theorem dX12_backed_97 : decode cX12_backed 97 = .ok (.goto 7, 3) := by decide +kernel
theorem dX12_backed_100 : decode cX12_backed 100 = .ok (.aload_n 0, 1) := by decide +kernel
theorem dX12_backed_101 : decode cX12_backed 101 = .ok (.getfield 479, 3) := by decide +kernel
theorem dX12_backed_104 : decode cX12_backed 104 = .ok (.ireturn, 1) := by decide +kernel
set_option maxHeartbeats 4000000 in
set_option maxRecDepth 100000 in
theorem lp_sX12_backed {p : Program} {l : Launch} {e : Env} {R : Room} {s : State} {m : MethodId} {args : Array Value} {below : List Frame} {meth : Method} {c : Code} {Q : State → Prop} {A : Nat → Prop} {cells slots : Nat} {dC : Nat → ClassId} {dI : Nat → Nat → Nat} (h0 : Nat) (mi : Nat → Int32) (mr : Nat → Nat) (km : Nat → ClassId) (fm_must : Nat → Int32) (fm_least : Nat → Int32) (fm_pin : Nat → Int32) (fm_ways : Nat → Int32) (fm_verdict : Nat → Int32) (fm_row : Nat → Int32) (fm_struck : Nat → Int32) (fm_reportKnown : Nat → Int32) (fm_reportPlace : Nat → Int32) (fm_reportMonth : Nat → Int32) (fm_reportDay : Nat → Int32) (fm_reportKind : Nat → Int32) (fm_trust : Nat → Int32) (fm_letter : Nat → Int32) (fm_worth : Nat → Int32) (fm_deedMonth : Nat → Int32) (fm_deedDay : Nat → Int32) (fm_deedLong : Nat → Int32) (fm_deedKind : Nat → Int32) (fm_kept : Nat → Int32) (fm_tape : Nat → Int32) (fm_official : Nat → Int32) (fm_aside : Nat → Int32) (fm_out : Nat → Int32) (p1 : Int32) (p2 : Int32) (gmi_0 : gi (mi 0) 0 24) (gmi_1 : gi (mi 1) 0 5) (gmi_2 : gi (mi 2) 0 5) (gmi_4 : gi (mi 4) 0 1) (gmi_7 : gi (mi 7) 0 6) (gmi_10 : gi (mi 10) 0 24) (gmi_17 : gi (mi 17) 0 8) (gmi_23 : gi (mi 23) 0 300) (gmi_24 : gi (mi 24) 0 1) (gmi_26 : gi (mi 26) 0 1600) (gmi_29 : gi (mi 29) 0 1600) (gmi_30 : gi (mi 30) 0 1600) (gmi_33 : gi (mi 33) 0 1) (gmi_37 : gi (mi 37) 0 1) (gmi_41 : gi (mi 41) 0 24) (gmi_50 : gi (mi 50) 0 1) (gmi_51 : gi (mi 51) 0 1) (gmi_56 : gi (mi 56) 0 80) (gfm_row : ga fm_row 24 0 23) (gfm_struck : ga fm_struck 24 0 1) (gfm_reportKnown : ga fm_reportKnown 24 0 999) (gfm_reportPlace : ga fm_reportPlace 24 0 5) (gfm_reportMonth : ga fm_reportMonth 24 0 23) (gfm_reportDay : ga fm_reportDay 24 0 999) (hx : p.tables.exec = Jvm.exec) (hb : c.code = cX12_backed) (hml : c.maxLocals = 5) (hown : s.vm.findClass RX12 = some m.cls) (hts : ∀ w ∈ ((.code yX12_backed cX12_backed 5 (some .int) :: wsGB) : List Cond), w.before args s = true) (hK : va_K (dC, dI) vwCl (MT km) s) (hA : ∀ q : Nat, s.heap.size ≤ q → A q) (hRf : 3 ≤ R.frames) (hRl : 76 ≤ R.locals) (hRc : cells ≤ R.cells) (hRs : slots ≤ R.slots) (kr20 : ∀ (v : Int32) (w0_54 : Int32) (z15 : Nat → Int32) (H : Heap) (locs : List Loc) (ls : Array Slot), gi v (-2) (-2) → va_P (dC, dI) vwCl (MWn h0 mr km (mi 0) (mi 1) (mi 2) (mi 3) (mi 4) (mi 5) (mi 6) (mi 7) (mi 10) (mi 17) (mi 23) (mi 24) (mi 26) (mi 27) (mi 28) (mi 29) (mi 30) (mi 31) (mi 32) (mi 33) (mi 37) (mi 41) (mi 42) (mi 43) (mi 44) (mi 45) (mi 47) (mi 48) (mi 49) (mi 50) (mi 51) w0_54 (mi 56) fm_trust fm_letter fm_reportPlace fm_reportKind fm_struck fm_reportMonth fm_reportDay fm_reportKnown fm_deedMonth fm_deedDay fm_deedLong fm_deedKind fm_kept fm_tape fm_must fm_least fm_pin fm_ways fm_verdict fm_row fm_official fm_aside z15 fm_out) H → va_D A (MWn h0 mr km (mi 0) (mi 1) (mi 2) (mi 3) (mi 4) (mi 5) (mi 6) (mi 7) (mi 10) (mi 17) (mi 23) (mi 24) (mi 26) (mi 27) (mi 28) (mi 29) (mi 30) (mi 31) (mi 32) (mi 33) (mi 37) (mi 41) (mi 42) (mi 43) (mi 44) (mi 45) (mi 47) (mi 48) (mi 49) (mi 50) (mi 51) w0_54 (mi 56) fm_trust fm_letter fm_reportPlace fm_reportKind fm_struck fm_reportMonth fm_reportDay fm_reportKnown fm_deedMonth fm_deedDay fm_deedLong fm_deedKind fm_kept fm_tape fm_must fm_least fm_pin fm_ways fm_verdict fm_row fm_official fm_aside z15 fm_out) → va_S A s.heap H locs → lv_has ls 5 [] → W p l e R s m args below meth c H locs cells slots Q (F0 m 20 ls [.int v])) (kr104 : ∀ (v : Int32) (w0_54 : Int32) (z15 : Nat → Int32) (H : Heap) (locs : List Loc) (ls : Array Slot), va_P (dC, dI) vwCl (MWn h0 mr km (mi 0) (mi 1) (mi 2) (mi 3) (mi 4) (mi 5) (mi 6) (mi 7) (mi 10) (mi 17) (mi 23) (mi 24) (mi 26) (mi 27) (mi 28) (mi 29) (mi 30) (mi 31) (mi 32) (mi 33) (mi 37) (mi 41) (mi 42) (mi 43) (mi 44) (mi 45) (mi 47) (mi 48) (mi 49) (mi 50) (mi 51) w0_54 (mi 56) fm_trust fm_letter fm_reportPlace fm_reportKind fm_struck fm_reportMonth fm_reportDay fm_reportKnown fm_deedMonth fm_deedDay fm_deedLong fm_deedKind fm_kept fm_tape fm_must fm_least fm_pin fm_ways fm_verdict fm_row fm_official fm_aside z15 fm_out) H → va_D A (MWn h0 mr km (mi 0) (mi 1) (mi 2) (mi 3) (mi 4) (mi 5) (mi 6) (mi 7) (mi 10) (mi 17) (mi 23) (mi 24) (mi 26) (mi 27) (mi 28) (mi 29) (mi 30) (mi 31) (mi 32) (mi 33) (mi 37) (mi 41) (mi 42) (mi 43) (mi 44) (mi 45) (mi 47) (mi 48) (mi 49) (mi 50) (mi 51) w0_54 (mi 56) fm_trust fm_letter fm_reportPlace fm_reportKind fm_struck fm_reportMonth fm_reportDay fm_reportKnown fm_deedMonth fm_deedDay fm_deedLong fm_deedKind fm_kept fm_tape fm_must fm_least fm_pin fm_ways fm_verdict fm_row fm_official fm_aside z15 fm_out) → va_S A s.heap H locs → lv_has ls 5 [] → W p l e R s m args below meth c H locs cells slots Q (F0 m 104 ls [.int v])) : ∀ z : Nat, (∀ (v3 : Int32) (v4 : Int32) (H : Heap) (locs : List Loc) (ls : Array Slot), gi p1 0 999 → gi p2 0 1 → gi v4 0 24 → 49 + (-2) * v4.toInt < (z : Int) → va_P (dC, dI) vwCl (MWn h0 mr km (mi 0) (mi 1) (mi 2) (mi 3) (mi 4) (mi 5) (mi 6) (mi 7) (mi 10) (mi 17) (mi 23) (mi 24) (mi 26) (mi 27) (mi 28) (mi 29) (mi 30) (mi 31) (mi 32) (mi 33) (mi 37) (mi 41) (mi 42) (mi 43) (mi 44) (mi 45) (mi 47) (mi 48) (mi 49) (mi 50) (mi 51) (mi 54) (mi 56) fm_trust fm_letter fm_reportPlace fm_reportKind fm_struck fm_reportMonth fm_reportDay fm_reportKnown fm_deedMonth fm_deedDay fm_deedLong fm_deedKind fm_kept fm_tape fm_must fm_least fm_pin fm_ways fm_verdict fm_row fm_official fm_aside fm_worth fm_out) H → va_D A (MWn h0 mr km (mi 0) (mi 1) (mi 2) (mi 3) (mi 4) (mi 5) (mi 6) (mi 7) (mi 10) (mi 17) (mi 23) (mi 24) (mi 26) (mi 27) (mi 28) (mi 29) (mi 30) (mi 31) (mi 32) (mi 33) (mi 37) (mi 41) (mi 42) (mi 43) (mi 44) (mi 45) (mi 47) (mi 48) (mi 49) (mi 50) (mi 51) (mi 54) (mi 56) fm_trust fm_letter fm_reportPlace fm_reportKind fm_struck fm_reportMonth fm_reportDay fm_reportKnown fm_deedMonth fm_deedDay fm_deedLong fm_deedKind fm_kept fm_tape fm_must fm_least fm_pin fm_ways fm_verdict fm_row fm_official fm_aside fm_worth fm_out) → va_S A s.heap H locs → lv_has ls 5 [(0, .ref h0), (1, .int p1), (2, .int p2), (3, .int v3), (4, .int v4)] → W p l e R s m args below meth c H locs cells slots Q (F0 m 26 ls [])) := by
  intro z
  induction z with
  | zero =>
    intro v3 v4 H locs ls gf_p1 gf_p2 gv4 hmu hP hD hS hl
    exact absurd hmu (by have hv41 := gv4.1; have hv42 := gv4.2; omega)
  | succ z ih =>
      intro v3 v4 H locs ls gf_p1 gf_p2 gv4 hmu hP hD hS hl
      refine lv_iload hx hb dX12_backed_26 (lv_at hl 4 rfl) ?_
      refine lv_aload_n hx hb dX12_backed_28 rfl (lv_at hl 0 rfl) ?_
      refine va_get (D := (dC, dI)) (ci := 12) (v := .int (mi 10)) (C := RX12) (T := TX12) (N := 57) hx hb hts (fun w h => List.mem_cons_of_mem _ (jnGB_X12 w h)) hown hK hP 0 rfl rfl 10 (by decide) (hts _ (List.mem_cons_of_mem _ mGB_111)) (fun _ h9 => h9) rfl dX12_backed_29 ?_
      refine lv_icmp_ge (tgt := 81) hx hb dX12_backed_32 (by decide) (fun c_541 => ?_) (fun c_541 => ?_)
      · refine lv_aload_n hx hb dX12_backed_81 rfl (lv_at hl 0 rfl) ?_
        refine lv_iload_n hx hb dX12_backed_82 rfl (lv_at hl 1 rfl) ?_
        refine lv_iconst (v := 0) hx hb dX12_backed_83 (by decide) ?_
        have hFc := gz_fullF hD hS hA
        refine va_calli (va_runV (As := [.int p1, .int 0]) (rest := []) ⟨hx, hb, hml, hown, hts⟩ (sX12_laysWorth l dC dI H.size h0 mi mr km fm_worth fm_must fm_least fm_pin fm_struck fm_reportKnown fm_reportMonth fm_reportKind fm_reportDay fm_reportPlace fm_trust fm_letter fm_deedMonth fm_deedDay fm_deedLong fm_deedKind fm_kept fm_tape fm_ways fm_verdict fm_row fm_official fm_aside fm_out p1 0 gmi_0 gmi_1 gmi_2 gmi_4 gmi_7 gmi_10 gmi_17 gmi_23 gmi_24 gmi_26 gmi_29 gmi_30 gmi_33 gmi_37 gmi_41 gmi_50 gmi_51 gmi_56 gfm_struck gfm_reportKnown gfm_reportMonth gfm_reportDay gfm_reportPlace (gi_w (gi_c 0 0 (by decide)) (by decide))) (cwV 2 hts (gz_gV mGB_553 mGB_554 mGB_555 mGB_1 mGB_556 goodGB) rfl rfl rfl (by decide +kernel) ⟨Nat.le_trans (Nat.le_of_ble_eq_true rfl) hRf, Nat.le_trans (Nat.le_of_ble_eq_true rfl) hRl⟩) ⟨bl_W, mw_recv hK hP, fun U hU hW => ⟨rfl, by rw [hU], by rw [hU]; exact hP, va_K.moved hW.alike hK, hD.weaken (fun _ _ _ _ => trivial)⟩⟩ rfl rfl hl.1 rfl (lv_room (Nat.le_of_ble_eq_true rfl)) dX12_backed_84 ⟨hRc, hRs⟩) hS (fun q _ h => hFc q h) hFc (fun r_542 u t H1 locs ht hvm hw hB hz1 hk1 hS => ?_)
        obtain ⟨y_543, f_544, hB⟩ := hB
        obtain ⟨hP1, hD1⟩ := hB
        rw [ht] at hP1
        have hD : va_D A (MWn h0 mr km (mi 0) (mi 1) (mi 2) (mi 3) (mi 4) (mi 5) (mi 6) (mi 7) (mi 10) (mi 17) (mi 23) (mi 24) (mi 26) (mi 27) (mi 28) (mi 29) (mi 30) (mi 31) (mi 32) (mi 33) (mi 37) (mi 41) (mi 42) (mi 43) (mi 44) (mi 45) (mi 47) (mi 48) (mi 49) (mi 50) (mi 51) y_543 (mi 56) fm_trust fm_letter fm_reportPlace fm_reportKind fm_struck fm_reportMonth fm_reportDay fm_reportKnown fm_deedMonth fm_deedDay fm_deedLong fm_deedKind fm_kept fm_tape fm_must fm_least fm_pin fm_ways fm_verdict fm_row fm_official fm_aside f_544 fm_out) := gz_fullD hFc hD1
        have hP : va_P (dC, dI) vwCl (MWn h0 mr km (mi 0) (mi 1) (mi 2) (mi 3) (mi 4) (mi 5) (mi 6) (mi 7) (mi 10) (mi 17) (mi 23) (mi 24) (mi 26) (mi 27) (mi 28) (mi 29) (mi 30) (mi 31) (mi 32) (mi 33) (mi 37) (mi 41) (mi 42) (mi 43) (mi 44) (mi 45) (mi 47) (mi 48) (mi 49) (mi 50) (mi 51) y_543 (mi 56) fm_trust fm_letter fm_reportPlace fm_reportKind fm_struck fm_reportMonth fm_reportDay fm_reportKnown fm_deedMonth fm_deedDay fm_deedLong fm_deedKind fm_kept fm_tape fm_must fm_least fm_pin fm_ways fm_verdict fm_row fm_official fm_aside f_544 fm_out) H1 := hP1
        generalize H1 = H at hP hS ⊢
        refine lv_istore (lv' := [(4, .int r_542), (0, .ref h0), (1, .int p1), (2, .int p2), (3, .int v3)]) hx hb dX12_backed_87 hl (by decide) rfl (fun ls hl => ?_)
        refine lv_iload_n hx hb dX12_backed_89 rfl (lv_at hl 3 rfl) ?_
        refine lv_if_ne (tgt := 100) hx hb dX12_backed_90 (by decide) (fun c_545 => ?_) (fun c_545 => ?_)
        · have g_546 : gi p2 1 1 := gi_ne_lo c_545 gf_p2 (gi_c 0 0 (by decide)) (by decide)
          refine lv_aload_n hx hb dX12_backed_100 rfl (lv_at hl 1 rfl) ?_
          refine va_get (D := (dC, dI)) (ci := 12) (v := .int y_543) (C := RX12) (T := TX12) (N := 57) hx hb hts (fun w h => List.mem_cons_of_mem _ (jnGB_X12 w h)) hown hK hP 0 rfl rfl 54 (by decide) (hts _ (List.mem_cons_of_mem _ mGB_552)) (fun _ h9 => h9) rfl dX12_backed_101 ?_
          exact kr104 y_543 y_543 f_544 _ _ _ hP hD hS (lv_sub hl [] rfl)
        · have g_547 : gi p2 0 0 := gi_eq c_545 (gi_c 0 0 (by decide))
          refine lv_iload_n hx hb dX12_backed_93 rfl (lv_at hl 4 rfl) ?_
          refine lv_iload hx hb dX12_backed_94 (lv_at hl 0 rfl) ?_
          refine lv_isub hx hb dX12_backed_96 ?_
          refine lv_topi (fun x_548 ex_548 => ?_)
          refine lv_goto (tgt := 104) hx hb dX12_backed_97 (by decide) ?_
          exact kr104 x_548 y_543 f_544 _ _ _ hP hD hS (lv_sub hl [] rfl)
      · have g_549 : gi v4 0 23 := gi_lt_l (Int32.not_le.mp c_541) gv4 gmi_10 (by decide)
        have g_550 : gi (mi 10) 1 24 := gi_lt_r (Int32.not_le.mp c_541) gv4 gmi_10 (by decide)
        refine lv_iload_n hx hb dX12_backed_35 rfl (lv_at hl 3 rfl) ?_
        refine lv_aload_n hx hb dX12_backed_36 rfl (lv_at hl 0 rfl) ?_
        refine lv_iload hx hb dX12_backed_37 (lv_at hl 4 rfl) ?_
        refine lv_iload_n hx hb dX12_backed_39 rfl (lv_at hl 1 rfl) ?_
        refine va_calli (va_runV (As := [.int v4, .int p1]) (rest := [.int v3]) ⟨hx, hb, hml, hown, hts⟩ (sX12_isKnown l dC dI h0 mi mr km fm_struck fm_reportKnown fm_trust fm_letter fm_reportPlace fm_reportKind fm_reportMonth fm_reportDay fm_deedMonth fm_deedDay fm_deedLong fm_deedKind fm_kept fm_tape fm_must fm_least fm_pin fm_ways fm_verdict fm_row fm_official fm_aside fm_worth fm_out v4 p1 gmi_0 gmi_1 gmi_2 gmi_4 gmi_7 (gi_w g_550 (by decide)) gmi_17 gmi_23 gmi_24 gmi_26 gmi_29 gmi_30 gmi_33 gmi_37 gmi_41 gmi_50 gmi_51 gmi_56 gfm_struck gfm_reportKnown g_549) (cwV 2 hts (gz_gV mGB_279 mGB_280 mGB_281 mGB_1 mGB_282 goodGB) rfl rfl rfl (by decide +kernel) ⟨Nat.le_trans (Nat.le_of_ble_eq_true rfl) hRf, Nat.le_trans (Nat.le_of_ble_eq_true rfl) hRl⟩) ⟨bl_R, mw_recv hK hP, fun U hU hW => ⟨rfl, by rw [hU]; exact hP, va_K.moved hW.alike hK⟩⟩ rfl rfl hl.1 rfl (lv_room (Nat.le_of_ble_eq_true rfl)) dX12_backed_40 ⟨hRc, hRs⟩) hS (fun q _ h => h.elim) (fun q h => h.elim) (fun r_551 u t H1 locs ht hvm hw hB hz1 hk1 hS => ?_)
        obtain ⟨hw, hE⟩ := hw
        have hP := gz_keep hP hk1
        generalize H1 = H at hP hS ⊢
        have gr_551 : gi r_551 0 1 := hw
        refine lv_if_eq (tgt := 72) hx hb dX12_backed_43 (by decide) (fun c_552 => ?_) (fun c_552 => ?_)
        · have g_553 : gi r_551 0 0 := gi_eq c_552 (gi_c 0 0 (by decide))
          refine lv_iconst (v := 0) hx hb dX12_backed_72 (by decide) ?_
          refine lv_iadd hx hb dX12_backed_73 ?_
          refine lv_topi (fun x_554 ex_554 => ?_)
          refine lv_istore_n (lv' := [(3, .int x_554), (0, .ref h0), (1, .int p1), (2, .int p2), (4, .int v4)]) hx hb dX12_backed_74 rfl hl (by decide) rfl (fun ls hl => ?_)
          obtain ⟨x_555, ex_555⟩ : ∃ y : Int32, y = v4 + 1 := ⟨_, rfl⟩
          have gx_555 : gi x_555 1 24 := gi_add ex_555 g_549 (gi_c 1 1 (by decide)) (by decide)
          refine lv_iinc (v := x_555) (lv' := [(4, .int x_555), (3, .int x_554), (0, .ref h0), (1, .int p1), (2, .int p2)]) hx hb dX12_backed_75 hl (k := 4) rfl (by rw [ex_555]; rfl) (by decide) rfl (fun ls hl => ?_)
          refine lv_goto (tgt := 26) hx hb dX12_backed_78 (by decide) ?_
          exact ih x_554 x_555 _ _ _ gf_p1 gf_p2 (gi_w gx_555 (by decide)) (by have av4 := gv4.1; have bv4 := gv4.2; have qgx_555 := gx_555.1; have rgx_555 := gx_555.2; have igx_555 : x_555.toInt = v4.toInt + 1 := (by have hc1 : (1 : Int32).toInt = 1 := (by decide); have h9 := gi_addI ex_555 (by have h1 := g_549.1; have h2 := (gi_c 1 1 (by decide)).1; have h3 := g_549.2; have h4 := (gi_c 1 1 (by decide)).2; omega) (by have h1 := g_549.1; have h2 := (gi_c 1 1 (by decide)).1; have h3 := g_549.2; have h4 := (gi_c 1 1 (by decide)).2; omega); rw [hc1] at h9; exact h9); have qgv4 := g_549.1; have rgv4 := g_549.2; omega) hP hD hS (lv_sub hl [2, 3, 4, 1, 0] rfl)
        · have g_556 : gi r_551 1 1 := gi_ne_lo c_552 gr_551 (gi_c 0 0 (by decide)) (by decide)
          refine lv_aload_n hx hb dX12_backed_46 rfl (lv_at hl 0 rfl) ?_
          refine va_get (D := (dC, dI)) (ci := 12) (v := .ref (mr 3)) (C := RX12) (T := TX12) (N := 57) hx hb hts (fun w h => List.mem_cons_of_mem _ (jnGB_X12 w h)) hown hK hP 0 rfl rfl 12 (by decide) (hts _ (List.mem_cons_of_mem _ mGB_13)) (fun _ h9 => h9) rfl dX12_backed_47 ?_
          refine lv_iload hx hb dX12_backed_50 (lv_at hl 4 rfl) ?_
          refine va_iald hx hb hK hP 4 3 rfl rfl (gi_in g_549 (by decide)) dX12_backed_52 ?_
          refine lv_topi (fun x_557 ex_557 => ?_)
          refine lv_iconst (v := 2) hx hb dX12_backed_53 (by decide) ?_
          refine lv_icmp_eq (tgt := 72) hx hb dX12_backed_54 (by decide) (fun c_558 => ?_) (fun c_558 => ?_)
          · have g_559 : gi x_557 2 2 := gi_eq c_558 (gi_c 2 2 (by decide))
            refine lv_iconst (v := 0) hx hb dX12_backed_72 (by decide) ?_
            refine lv_iadd hx hb dX12_backed_73 ?_
            refine lv_topi (fun x_560 ex_560 => ?_)
            refine lv_istore_n (lv' := [(3, .int x_560), (0, .ref h0), (1, .int p1), (2, .int p2), (4, .int v4)]) hx hb dX12_backed_74 rfl hl (by decide) rfl (fun ls hl => ?_)
            obtain ⟨x_561, ex_561⟩ : ∃ y : Int32, y = v4 + 1 := ⟨_, rfl⟩
            have gx_561 : gi x_561 1 24 := gi_add ex_561 g_549 (gi_c 1 1 (by decide)) (by decide)
            refine lv_iinc (v := x_561) (lv' := [(4, .int x_561), (3, .int x_560), (0, .ref h0), (1, .int p1), (2, .int p2)]) hx hb dX12_backed_75 hl (k := 4) rfl (by rw [ex_561]; rfl) (by decide) rfl (fun ls hl => ?_)
            refine lv_goto (tgt := 26) hx hb dX12_backed_78 (by decide) ?_
            exact ih x_560 x_561 _ _ _ gf_p1 gf_p2 (gi_w gx_561 (by decide)) (by have av4 := gv4.1; have bv4 := gv4.2; have qgx_561 := gx_561.1; have rgx_561 := gx_561.2; have igx_561 : x_561.toInt = v4.toInt + 1 := (by have hc1 : (1 : Int32).toInt = 1 := (by decide); have h9 := gi_addI ex_561 (by have h1 := g_549.1; have h2 := (gi_c 1 1 (by decide)).1; have h3 := g_549.2; have h4 := (gi_c 1 1 (by decide)).2; omega) (by have h1 := g_549.1; have h2 := (gi_c 1 1 (by decide)).1; have h3 := g_549.2; have h4 := (gi_c 1 1 (by decide)).2; omega); rw [hc1] at h9; exact h9); have qgv4 := g_549.1; have rgv4 := g_549.2; omega) hP hD hS (lv_sub hl [2, 3, 4, 1, 0] rfl)
          · refine lv_aload_n hx hb dX12_backed_57 rfl (lv_at hl 0 rfl) ?_
            refine va_get (D := (dC, dI)) (ci := 12) (v := .ref (mr 0)) (C := RX12) (T := TX12) (N := 57) hx hb hts (fun w h => List.mem_cons_of_mem _ (jnGB_X12 w h)) hown hK hP 0 rfl rfl 8 (by decide) (hts _ (List.mem_cons_of_mem _ mGB_10)) (fun _ h9 => h9) rfl dX12_backed_58 ?_
            refine lv_aload_n hx hb dX12_backed_61 rfl (lv_at hl 0 rfl) ?_
            refine va_get (D := (dC, dI)) (ci := 12) (v := .ref (mr 2)) (C := RX12) (T := TX12) (N := 57) hx hb hts (fun w h => List.mem_cons_of_mem _ (jnGB_X12 w h)) hown hK hP 0 rfl rfl 11 (by decide) (hts _ (List.mem_cons_of_mem _ mGB_12)) (fun _ h9 => h9) rfl dX12_backed_62 ?_
            refine lv_iload hx hb dX12_backed_65 (lv_at hl 4 rfl) ?_
            refine va_iald hx hb hK hP 3 2 rfl rfl (gi_in g_549 (by decide)) dX12_backed_67 ?_
            refine lv_topi (fun x_562 ex_562 => ?_)
            have gx_562 : gi x_562 0 5 := ga_at gfm_reportPlace (gi_in g_549 (by decide)) ex_562
            refine va_iald hx hb hK hP 1 0 rfl rfl (gi_in gx_562 (by decide)) dX12_backed_68 ?_
            refine lv_topi (fun x_563 ex_563 => ?_)
            refine lv_goto (tgt := 73) hx hb dX12_backed_69 (by decide) ?_
            refine lv_iadd hx hb dX12_backed_73 ?_
            refine lv_topi (fun x_564 ex_564 => ?_)
            refine lv_istore_n (lv' := [(3, .int x_564), (0, .ref h0), (1, .int p1), (2, .int p2), (4, .int v4)]) hx hb dX12_backed_74 rfl hl (by decide) rfl (fun ls hl => ?_)
            obtain ⟨x_565, ex_565⟩ : ∃ y : Int32, y = v4 + 1 := ⟨_, rfl⟩
            have gx_565 : gi x_565 1 24 := gi_add ex_565 g_549 (gi_c 1 1 (by decide)) (by decide)
            refine lv_iinc (v := x_565) (lv' := [(4, .int x_565), (3, .int x_564), (0, .ref h0), (1, .int p1), (2, .int p2)]) hx hb dX12_backed_75 hl (k := 4) rfl (by rw [ex_565]; rfl) (by decide) rfl (fun ls hl => ?_)
            refine lv_goto (tgt := 26) hx hb dX12_backed_78 (by decide) ?_
            exact ih x_564 x_565 _ _ _ gf_p1 gf_p2 (gi_w gx_565 (by decide)) (by have av4 := gv4.1; have bv4 := gv4.2; have qgx_565 := gx_565.1; have rgx_565 := gx_565.2; have igx_565 : x_565.toInt = v4.toInt + 1 := (by have hc1 : (1 : Int32).toInt = 1 := (by decide); have h9 := gi_addI ex_565 (by have h1 := g_549.1; have h2 := (gi_c 1 1 (by decide)).1; have h3 := g_549.2; have h4 := (gi_c 1 1 (by decide)).2; omega) (by have h1 := g_549.1; have h2 := (gi_c 1 1 (by decide)).1; have h3 := g_549.2; have h4 := (gi_c 1 1 (by decide)).2; omega); rw [hc1] at h9; exact h9); have qgv4 := g_549.1; have rgv4 := g_549.2; omega) hP hD hS (lv_sub hl [2, 3, 4, 1, 0] rfl)
abbrev pb_sX12_backed (dC : Nat → ClassId) (dI : Nat → Nat → Nat) (A9 : Nat → Prop) (h0 : Nat) (mi : Nat → Int32) (mr : Nat → Nat) (km : Nat → ClassId) (fm_must : Nat → Int32) (fm_least : Nat → Int32) (fm_pin : Nat → Int32) (fm_ways : Nat → Int32) (fm_verdict : Nat → Int32) (fm_row : Nat → Int32) (fm_struck : Nat → Int32) (fm_reportKnown : Nat → Int32) (fm_reportPlace : Nat → Int32) (fm_reportMonth : Nat → Int32) (fm_reportDay : Nat → Int32) (fm_reportKind : Nat → Int32) (fm_trust : Nat → Int32) (fm_letter : Nat → Int32) (fm_worth : Nat → Int32) (fm_deedMonth : Nat → Int32) (fm_deedDay : Nat → Int32) (fm_deedLong : Nat → Int32) (fm_deedKind : Nat → Int32) (fm_kept : Nat → Int32) (fm_tape : Nat → Int32) (fm_official : Nat → Int32) (fm_aside : Nat → Int32) (fm_out : Nat → Int32) (p1 : Int32) (p2 : Int32) (w0_54 : Int32) (z15 : Nat → Int32) (t : State) : Prop := va_P (dC, dI) vwCl (MWn h0 mr km (mi 0) (mi 1) (mi 2) (mi 3) (mi 4) (mi 5) (mi 6) (mi 7) (mi 10) (mi 17) (mi 23) (mi 24) (mi 26) (mi 27) (mi 28) (mi 29) (mi 30) (mi 31) (mi 32) (mi 33) (mi 37) (mi 41) (mi 42) (mi 43) (mi 44) (mi 45) (mi 47) (mi 48) (mi 49) (mi 50) (mi 51) w0_54 (mi 56) fm_trust fm_letter fm_reportPlace fm_reportKind fm_struck fm_reportMonth fm_reportDay fm_reportKnown fm_deedMonth fm_deedDay fm_deedLong fm_deedKind fm_kept fm_tape fm_must fm_least fm_pin fm_ways fm_verdict fm_row fm_official fm_aside z15 fm_out) t.heap ∧ va_D A9 (MWn h0 mr km (mi 0) (mi 1) (mi 2) (mi 3) (mi 4) (mi 5) (mi 6) (mi 7) (mi 10) (mi 17) (mi 23) (mi 24) (mi 26) (mi 27) (mi 28) (mi 29) (mi 30) (mi 31) (mi 32) (mi 33) (mi 37) (mi 41) (mi 42) (mi 43) (mi 44) (mi 45) (mi 47) (mi 48) (mi 49) (mi 50) (mi 51) w0_54 (mi 56) fm_trust fm_letter fm_reportPlace fm_reportKind fm_struck fm_reportMonth fm_reportDay fm_reportKnown fm_deedMonth fm_deedDay fm_deedLong fm_deedKind fm_kept fm_tape fm_must fm_least fm_pin fm_ways fm_verdict fm_row fm_official fm_aside z15 fm_out)
set_option maxHeartbeats 4000000 in
set_option maxRecDepth 100000 in
theorem sX12_backed (l : Launch) (dC : Nat → ClassId) (dI : Nat → Nat → Nat) (sz : Nat) (h0 : Nat) (mi : Nat → Int32) (mr : Nat → Nat) (km : Nat → ClassId) (fm_must : Nat → Int32) (fm_least : Nat → Int32) (fm_pin : Nat → Int32) (fm_ways : Nat → Int32) (fm_verdict : Nat → Int32) (fm_row : Nat → Int32) (fm_struck : Nat → Int32) (fm_reportKnown : Nat → Int32) (fm_reportPlace : Nat → Int32) (fm_reportMonth : Nat → Int32) (fm_reportDay : Nat → Int32) (fm_reportKind : Nat → Int32) (fm_trust : Nat → Int32) (fm_letter : Nat → Int32) (fm_worth : Nat → Int32) (fm_deedMonth : Nat → Int32) (fm_deedDay : Nat → Int32) (fm_deedLong : Nat → Int32) (fm_deedKind : Nat → Int32) (fm_kept : Nat → Int32) (fm_tape : Nat → Int32) (fm_official : Nat → Int32) (fm_aside : Nat → Int32) (fm_out : Nat → Int32) (p1 : Int32) (p2 : Int32) (gmi_0 : gi (mi 0) 0 24) (gmi_1 : gi (mi 1) 0 5) (gmi_2 : gi (mi 2) 0 5) (gmi_4 : gi (mi 4) 0 1) (gmi_7 : gi (mi 7) 0 6) (gmi_10 : gi (mi 10) 0 24) (gmi_17 : gi (mi 17) 0 8) (gmi_23 : gi (mi 23) 0 300) (gmi_24 : gi (mi 24) 0 1) (gmi_26 : gi (mi 26) 0 1600) (gmi_29 : gi (mi 29) 0 1600) (gmi_30 : gi (mi 30) 0 1600) (gmi_33 : gi (mi 33) 0 1) (gmi_37 : gi (mi 37) 0 1) (gmi_41 : gi (mi 41) 0 24) (gmi_50 : gi (mi 50) 0 1) (gmi_51 : gi (mi 51) 0 1) (gmi_56 : gi (mi 56) 0 80) (gfm_row : ga fm_row 24 0 23) (gfm_struck : ga fm_struck 24 0 1) (gfm_reportKnown : ga fm_reportKnown 24 0 999) (gfm_reportPlace : ga fm_reportPlace 24 0 5) (gfm_reportMonth : ga fm_reportMonth 24 0 23) (gfm_reportDay : ga fm_reportDay 24 0 999) : Met l yX12_backed (.code yX12_backed cX12_backed 5 (some .int) :: wsGB) ({ frames := 3, cells := 0, slots := 0, locals := 76 }) (va_Pc [.ref h0, .int p1, .int p2] (fun U => U.heap.size = sz ∧ va_P (dC, dI) vwCl (MWn h0 mr km (mi 0) (mi 1) (mi 2) (mi 3) (mi 4) (mi 5) (mi 6) (mi 7) (mi 10) (mi 17) (mi 23) (mi 24) (mi 26) (mi 27) (mi 28) (mi 29) (mi 30) (mi 31) (mi 32) (mi 33) (mi 37) (mi 41) (mi 42) (mi 43) (mi 44) (mi 45) (mi 47) (mi 48) (mi 49) (mi 50) (mi 51) (mi 54) (mi 56) fm_trust fm_letter fm_reportPlace fm_reportKind fm_struck fm_reportMonth fm_reportDay fm_reportKnown fm_deedMonth fm_deedDay fm_deedLong fm_deedKind fm_kept fm_tape fm_must fm_least fm_pin fm_ways fm_verdict fm_row fm_official fm_aside fm_worth fm_out) U.heap ∧ va_K (dC, dI) vwCl (MT km) U ∧ va_D (fun _ => True) (MWn h0 mr km (mi 0) (mi 1) (mi 2) (mi 3) (mi 4) (mi 5) (mi 6) (mi 7) (mi 10) (mi 17) (mi 23) (mi 24) (mi 26) (mi 27) (mi 28) (mi 29) (mi 30) (mi 31) (mi 32) (mi 33) (mi 37) (mi 41) (mi 42) (mi 43) (mi 44) (mi 45) (mi 47) (mi 48) (mi 49) (mi 50) (mi 51) (mi 54) (mi 56) fm_trust fm_letter fm_reportPlace fm_reportKind fm_struck fm_reportMonth fm_reportDay fm_reportKnown fm_deedMonth fm_deedDay fm_deedLong fm_deedKind fm_kept fm_tape fm_must fm_least fm_pin fm_ways fm_verdict fm_row fm_official fm_aside fm_worth fm_out))) (va_Qi (fun (r : Int32) (u : Unit) => gi r (-2147483648) 2147483647) (fun _ t => ∃ (w0_54 : Int32) (z15 : Nat → Int32), pb_sX12_backed dC dI (va_A (MWn h0 mr km (mi 0) (mi 1) (mi 2) (mi 3) (mi 4) (mi 5) (mi 6) (mi 7) (mi 10) (mi 17) (mi 23) (mi 24) (mi 26) (mi 27) (mi 28) (mi 29) (mi 30) (mi 31) (mi 32) (mi 33) (mi 37) (mi 41) (mi 42) (mi 43) (mi 44) (mi 45) (mi 47) (mi 48) (mi 49) (mi 50) (mi 51) (mi 54) (mi 56) fm_trust fm_letter fm_reportPlace fm_reportKind fm_struck fm_reportMonth fm_reportDay fm_reportKnown fm_deedMonth fm_deedDay fm_deedLong fm_deedKind fm_kept fm_tape fm_must fm_least fm_pin fm_ways fm_verdict fm_row fm_official fm_aside fm_worth fm_out) sz) h0 mi mr km fm_must fm_least fm_pin fm_ways fm_verdict fm_row fm_struck fm_reportKnown fm_reportPlace fm_reportMonth fm_reportDay fm_reportKind fm_trust fm_letter fm_worth fm_deedMonth fm_deedDay fm_deedLong fm_deedKind fm_kept fm_tape fm_official fm_aside fm_out p1 p2 w0_54 z15 t) (va_A (MWn h0 mr km (mi 0) (mi 1) (mi 2) (mi 3) (mi 4) (mi 5) (mi 6) (mi 7) (mi 10) (mi 17) (mi 23) (mi 24) (mi 26) (mi 27) (mi 28) (mi 29) (mi 30) (mi 31) (mi 32) (mi 33) (mi 37) (mi 41) (mi 42) (mi 43) (mi 44) (mi 45) (mi 47) (mi 48) (mi 49) (mi 50) (mi 51) (mi 54) (mi 56) fm_trust fm_letter fm_reportPlace fm_reportKind fm_struck fm_reportMonth fm_reportDay fm_reportKnown fm_deedMonth fm_deedDay fm_deedLong fm_deedKind fm_kept fm_tape fm_must fm_least fm_pin fm_ways fm_verdict fm_row fm_official fm_aside fm_worth fm_out) sz)) 0 0 (va_A (MWn h0 mr km (mi 0) (mi 1) (mi 2) (mi 3) (mi 4) (mi 5) (mi 6) (mi 7) (mi 10) (mi 17) (mi 23) (mi 24) (mi 26) (mi 27) (mi 28) (mi 29) (mi 30) (mi 31) (mi 32) (mi 33) (mi 37) (mi 41) (mi 42) (mi 43) (mi 44) (mi 45) (mi 47) (mi 48) (mi 49) (mi 50) (mi 51) (mi 54) (mi 56) fm_trust fm_letter fm_reportPlace fm_reportKind fm_struck fm_reportMonth fm_reportDay fm_reportKnown fm_deedMonth fm_deedDay fm_deedLong fm_deedKind fm_kept fm_tape fm_must fm_least fm_pin fm_ways fm_verdict fm_row fm_official fm_aside fm_worth fm_out) sz) := by
  refine Met.ofW (cc := cX12_backed) (maxL := 5) (ret := (some .int)) (by decide) rfl ?_
  intro p e s m args below meth c s₁ B hml hv
  obtain ⟨rfl, hsz, hP, hK, hD0⟩ := hv
  have hx := B.exec
  have hb := B.bytes
  have hr := B.returns
  have hts := atoms_spec (ws := (.code yX12_backed cX12_backed 5 (some .int) :: wsGB)) B.pre
  have hown : s.vm.findClass RX12 = some m.cls := findClass_of_methodNamed B.named
  have hlocks := B.notSynchronized
  subst hsz
  have hD := hD0.self (sz := s.heap.size)
  generalize hAe : va_A (MWn h0 mr km (mi 0) (mi 1) (mi 2) (mi 3) (mi 4) (mi 5) (mi 6) (mi 7) (mi 10) (mi 17) (mi 23) (mi 24) (mi 26) (mi 27) (mi 28) (mi 29) (mi 30) (mi 31) (mi 32) (mi 33) (mi 37) (mi 41) (mi 42) (mi 43) (mi 44) (mi 45) (mi 47) (mi 48) (mi 49) (mi 50) (mi 51) (mi 54) (mi 56) fm_trust fm_letter fm_reportPlace fm_reportKind fm_struck fm_reportMonth fm_reportDay fm_reportKnown fm_deedMonth fm_deedDay fm_deedLong fm_deedKind fm_kept fm_tape fm_must fm_least fm_pin fm_ways fm_verdict fm_row fm_official fm_aside fm_worth fm_out) s.heap.size = A at hD ⊢
  have hA : ∀ q : Nat, s.heap.size ≤ q → A q := fun q h => by rw [← hAe]; exact Or.inr h
  have hS : va_S A s.heap s.heap [] := va_S.rf
  have hl := lv_entry ([.ref h0, .int p1, .int p2]) (n := 5) (Nat.le_of_ble_eq_true rfl)
  rw [lg_entry_eq]
  generalize (lg_sl ([.ref h0, .int p1, .int p2]) ++ List.replicate (5 - (lg_sl ([.ref h0, .int p1, .int p2])).length) Slot.unset).toArray = ls at hl ⊢
  have hl : lv_has ls 5 [(0, .ref h0), (1, .int p1), (2, .int p2)] := hl
  refine lv_aload_n hx hb dX12_backed_0 rfl (lv_at hl 0 rfl) ?_
  refine lv_iload_n hx hb dX12_backed_1 rfl (lv_at hl 1 rfl) ?_
  refine va_calli (va_runV (As := [.int p1]) (rest := []) ⟨hx, hb, hml, hown, hts⟩ (sX12_isTime l dC dI h0 mi mr km fm_trust fm_letter fm_reportPlace fm_reportKind fm_struck fm_reportMonth fm_reportDay fm_reportKnown fm_deedMonth fm_deedDay fm_deedLong fm_deedKind fm_kept fm_tape fm_must fm_least fm_pin fm_ways fm_verdict fm_row fm_official fm_aside fm_worth fm_out p1 gmi_0 gmi_1 gmi_2 gmi_4 gmi_7 gmi_10 gmi_17 gmi_23 gmi_24 gmi_26 gmi_29 gmi_30 gmi_33 gmi_37 gmi_41 gmi_50 gmi_51 gmi_56) (cwV 1 hts (gz_gV mGB_256 mGB_257 mGB_258 mGB_1 mGB_259 goodGB) rfl rfl rfl (by decide +kernel) ⟨Nat.le_of_ble_eq_true rfl, Nat.le_of_ble_eq_true rfl⟩) ⟨bl_R, mw_recv hK hP, fun U hU hW => ⟨rfl, by rw [hU]; exact hP, va_K.moved hW.alike hK⟩⟩ rfl rfl hl.1 rfl (lv_room (Nat.le_of_ble_eq_true rfl)) dX12_backed_2 ⟨Nat.zero_le _, Nat.zero_le _⟩) hS (fun q _ h => h.elim) (fun q h => h.elim) (fun r_566 u t H1 locs ht hvm hw hB hz1 hk1 hS => ?_)
  obtain ⟨hw, hE⟩ := hw
  have hP := gz_keep hP hk1
  generalize H1 = H at hP hS ⊢
  have gr_566 : gi r_566 0 1 := hw.1
  have hqr_566 := hw.2
  refine lv_if_eq (tgt := 18) hx hb dX12_backed_5 (by decide) (fun c_567 => ?_) (fun c_567 => ?_)
  · have g_568 : gi r_566 0 0 := gi_eq c_567 (gi_c 0 0 (by decide))
    refine lv_bipush (v := (-2)) hx hb dX12_backed_18 (by decide) ?_
    exact W.iret (v := (-2)) hx hb hr (fun t ht hW => ⟨⟨(-2), (), rfl, (gi_any (-2)), (mi 54), fm_worth, by rw [ht]; exact hP, hD⟩, hS.F ht⟩) hS.2.2 dX12_backed_20
  · have g_569 : gi r_566 1 1 := gi_ne_lo c_567 gr_566 (gi_c 0 0 (by decide)) (by decide)
    have g_570 : gi p1 0 999 := gi_cap (gi_any p1) (hqr_566 (gz_one g_569)) (by decide)
    refine lv_iload_n hx hb dX12_backed_8 rfl (lv_at hl 2 rfl) ?_
    refine lv_i2l (v := (p2).toInt64) hx hb dX12_backed_9 rfl ?_
    refine lv_topl (fun l_571 el_571 => ?_)
    refine lv_lconst (v := 0) hx hb dX12_backed_10 (by decide) ?_
    refine lv_lconst (v := 1) hx hb dX12_backed_11 (by decide) ?_
    have hPc := hP.sub (ws' := []) [] rfl
    have hKc := hK.sub (tys' := []) [] rfl
    refine va_calli (va_runS (As := [.long l_571, .long 0, .long 1]) (rest := []) ⟨hx, hb, hml, hown, hts⟩ (sX12_in l dC dI l_571 0 1) (cwS 3 hts (gz_gS mGB_47 mGB_48 mGB_1 mGB_49 goodGB) rfl rfl rfl (by decide +kernel) ⟨Nat.le_of_ble_eq_true rfl, Nat.le_of_ble_eq_true rfl⟩) ⟨bl_R, fun U hU hW => ⟨rfl, by rw [hU]; exact hPc, va_K.moved hW.alike hKc⟩⟩ rfl rfl hl.1 rfl (lv_room (Nat.le_of_ble_eq_true rfl)) dX12_backed_12 ⟨Nat.zero_le _, Nat.zero_le _⟩) hS (fun q _ h => h.elim) (fun q h => h.elim) (fun r_572 u t H1 locs ht hvm hw hB hz1 hk1 hS => ?_)
    obtain ⟨hw, hE⟩ := hw
    have hP := gz_keep hP hk1
    generalize H1 = H at hP hS ⊢
    have gr_572 : gi r_572 0 1 := hw.1
    have hqr_572 := hw.2
    refine lv_if_ne (tgt := 21) hx hb dX12_backed_15 (by decide) (fun c_573 => ?_) (fun c_573 => ?_)
    · have g_574 : gi r_572 1 1 := gi_ne_lo c_573 gr_572 (gi_c 0 0 (by decide)) (by decide)
      have g_575 : gi p2 0 1 := gi_cap (gi_any p2) (gz_inr (hqr_572.1 (gz_one g_574)) el_571 (A := 0) (B := 1) (by decide) (by decide)) (by decide)
      refine lv_iconst (v := 0) hx hb dX12_backed_21 (by decide) ?_
      refine lv_istore_n (lv' := [(3, .int 0), (0, .ref h0), (1, .int p1), (2, .int p2)]) hx hb dX12_backed_22 rfl hl (by decide) rfl (fun ls hl => ?_)
      refine lv_iconst (v := 0) hx hb dX12_backed_23 (by decide) ?_
      refine lv_istore (lv' := [(4, .int 0), (3, .int 0), (0, .ref h0), (1, .int p1), (2, .int p2)]) hx hb dX12_backed_24 hl (by decide) rfl (fun ls hl => ?_)
      refine (lp_sX12_backed h0 mi mr km fm_must fm_least fm_pin fm_ways fm_verdict fm_row fm_struck fm_reportKnown fm_reportPlace fm_reportMonth fm_reportDay fm_reportKind fm_trust fm_letter fm_worth fm_deedMonth fm_deedDay fm_deedLong fm_deedKind fm_kept fm_tape fm_official fm_aside fm_out p1 p2 gmi_0 gmi_1 gmi_2 gmi_4 gmi_7 gmi_10 gmi_17 gmi_23 gmi_24 gmi_26 gmi_29 gmi_30 gmi_33 gmi_37 gmi_41 gmi_50 gmi_51 gmi_56 gfm_row gfm_struck gfm_reportKnown gfm_reportPlace gfm_reportMonth gfm_reportDay hx hb hml hown hts hK hA (Nat.le_of_ble_eq_true rfl) (Nat.le_of_ble_eq_true rfl) (Nat.zero_le _) (Nat.zero_le _) (fun v w0_54 z15 H locs ls gv hP hD hS hl => ?_) (fun v w0_54 z15 H locs ls hP hD hS hl => ?_) 62) 0 0 _ _ _ g_570 g_575 (gi_w (gi_c 0 0 (by decide)) (by decide)) (by have k0 : (0 : Int32).toInt = 0 := (by decide); omega) hP hD hS (lv_sub hl [2, 3, 4, 1, 0] rfl)
      · skip
        exact W.iret (v := v) hx hb hr (fun t ht hW => ⟨⟨v, (), rfl, (gi_any v), w0_54, z15, by rw [ht]; exact hP, hD⟩, hS.F ht⟩) hS.2.2 dX12_backed_20
      · skip
        exact W.iret (v := v) hx hb hr (fun t ht hW => ⟨⟨v, (), rfl, (gi_any v), w0_54, z15, by rw [ht]; exact hP, hD⟩, hS.F ht⟩) hS.2.2 dX12_backed_104
    · have g_576 : gi r_572 0 0 := gi_eq c_573 (gi_c 0 0 (by decide))
      refine lv_bipush (v := (-2)) hx hb dX12_backed_18 (by decide) ?_
      exact W.iret (v := (-2)) hx hb hr (fun t ht hW => ⟨⟨(-2), (), rfl, (gi_any (-2)), (mi 54), fm_worth, by rw [ht]; exact hP, hD⟩, hS.F ht⟩) hS.2.2 dX12_backed_20
theorem dX12_monthOf_0 : decode cX12_monthOf 0 = .ok (.aload_n 0, 1) := by decide +kernel
theorem dX12_monthOf_1 : decode cX12_monthOf 1 = .ok (.getfield 44, 3) := by decide +kernel
theorem dX12_monthOf_4 : decode cX12_monthOf 4 = .ok (.iload_n 1, 1) := by decide +kernel
theorem dX12_monthOf_5 : decode cX12_monthOf 5 = .ok (.iaload, 1) := by decide +kernel
theorem dX12_monthOf_6 : decode cX12_monthOf 6 = .ok (.ifCond .ne 19, 3) := by decide +kernel
theorem dX12_monthOf_9 : decode cX12_monthOf 9 = .ok (.aload_n 0, 1) := by decide +kernel
theorem dX12_monthOf_10 : decode cX12_monthOf 10 = .ok (.getfield 35, 3) := by decide +kernel
theorem dX12_monthOf_13 : decode cX12_monthOf 13 = .ok (.iload_n 1, 1) := by decide +kernel
theorem dX12_monthOf_14 : decode cX12_monthOf 14 = .ok (.iaload, 1) := by decide +kernel
theorem dX12_monthOf_15 : decode cX12_monthOf 15 = .ok (.aload_n 0, 1) := by decide +kernel
theorem dX12_monthOf_16 : decode cX12_monthOf 16 = .ok (.getfield 41, 3) := by decide +kernel
theorem dX12_monthOf_19 : decode cX12_monthOf 19 = .ok (.iload_n 1, 1) := by decide +kernel
theorem dX12_monthOf_20 : decode cX12_monthOf 20 = .ok (.iaload, 1) := by decide +kernel
theorem dX12_monthOf_21 : decode cX12_monthOf 21 = .ok (.iadd, 1) := by decide +kernel
theorem dX12_monthOf_22 : decode cX12_monthOf 22 = .ok (.goto 9, 3) := by decide +kernel
theorem dX12_monthOf_25 : decode cX12_monthOf 25 = .ok (.aload_n 0, 1) := by decide +kernel
theorem dX12_monthOf_26 : decode cX12_monthOf 26 = .ok (.getfield 35, 3) := by decide +kernel
theorem dX12_monthOf_29 : decode cX12_monthOf 29 = .ok (.iload_n 1, 1) := by decide +kernel
theorem dX12_monthOf_30 : decode cX12_monthOf 30 = .ok (.iaload, 1) := by decide +kernel
theorem dX12_monthOf_31 : decode cX12_monthOf 31 = .ok (.ireturn, 1) := by decide +kernel
set_option maxHeartbeats 4000000 in
set_option maxRecDepth 100000 in
theorem sX12_monthOf (l : Launch) (dC : Nat → ClassId) (dI : Nat → Nat → Nat) (h0 : Nat) (mi : Nat → Int32) (mr : Nat → Nat) (km : Nat → ClassId) (fm_deedMonth : Nat → Int32) (fm_deedLong : Nat → Int32) (fm_deedKind : Nat → Int32) (fm_trust : Nat → Int32) (fm_letter : Nat → Int32) (fm_reportPlace : Nat → Int32) (fm_reportKind : Nat → Int32) (fm_struck : Nat → Int32) (fm_reportMonth : Nat → Int32) (fm_reportDay : Nat → Int32) (fm_reportKnown : Nat → Int32) (fm_deedDay : Nat → Int32) (fm_kept : Nat → Int32) (fm_tape : Nat → Int32) (fm_must : Nat → Int32) (fm_least : Nat → Int32) (fm_pin : Nat → Int32) (fm_ways : Nat → Int32) (fm_verdict : Nat → Int32) (fm_row : Nat → Int32) (fm_official : Nat → Int32) (fm_aside : Nat → Int32) (fm_worth : Nat → Int32) (fm_out : Nat → Int32) (p1 : Int32) (gmi_0 : gi (mi 0) 0 24) (gmi_1 : gi (mi 1) 0 5) (gmi_2 : gi (mi 2) 0 5) (gmi_4 : gi (mi 4) 0 1) (gmi_7 : gi (mi 7) 0 6) (gmi_10 : gi (mi 10) 0 24) (gmi_17 : gi (mi 17) 0 8) (gmi_23 : gi (mi 23) 0 300) (gmi_24 : gi (mi 24) 0 1) (gmi_26 : gi (mi 26) 0 1600) (gmi_29 : gi (mi 29) 0 1600) (gmi_30 : gi (mi 30) 0 1600) (gmi_33 : gi (mi 33) 0 1) (gmi_37 : gi (mi 37) 0 1) (gmi_41 : gi (mi 41) 0 24) (gmi_50 : gi (mi 50) 0 1) (gmi_51 : gi (mi 51) 0 1) (gmi_56 : gi (mi 56) 0 80) (gfm_deedMonth : ga fm_deedMonth 8 0 23) (gfm_deedLong : ga fm_deedLong 8 0 600) (gp1 : gi p1 0 7) (hdd : ∀ j : Nat, j < 8 → ((fm_deedKind j).toInt ≠ 0 ∨ (fm_deedMonth j).toInt + (fm_deedLong j).toInt ≤ 23)) : Met l yX12_monthOf (.code yX12_monthOf cX12_monthOf 2 (some .int) :: wsGB) ({ frames := 0, cells := 0, slots := 0, locals := 0 }) (va_Pc [.ref h0, .int p1] (fun U => va_P (dC, dI) vwCl (MWn h0 mr km (mi 0) (mi 1) (mi 2) (mi 3) (mi 4) (mi 5) (mi 6) (mi 7) (mi 10) (mi 17) (mi 23) (mi 24) (mi 26) (mi 27) (mi 28) (mi 29) (mi 30) (mi 31) (mi 32) (mi 33) (mi 37) (mi 41) (mi 42) (mi 43) (mi 44) (mi 45) (mi 47) (mi 48) (mi 49) (mi 50) (mi 51) (mi 54) (mi 56) fm_trust fm_letter fm_reportPlace fm_reportKind fm_struck fm_reportMonth fm_reportDay fm_reportKnown fm_deedMonth fm_deedDay fm_deedLong fm_deedKind fm_kept fm_tape fm_must fm_least fm_pin fm_ways fm_verdict fm_row fm_official fm_aside fm_worth fm_out) U.heap ∧ va_K (dC, dI) vwCl (MT km) U)) (va_Qi (fun (r : Int32) (u : Unit) => gi r 0 23) (fun _ _ => True) (fun _ => False)) 0 0 (fun _ => False) := by
  refine Met.ofW (cc := cX12_monthOf) (maxL := 2) (ret := (some .int)) (by decide) rfl ?_
  intro p e s m args below meth c s₁ B hml hv
  obtain ⟨rfl, hP, hK⟩ := hv
  have hx := B.exec
  have hb := B.bytes
  have hr := B.returns
  have hts := atoms_spec (ws := (.code yX12_monthOf cX12_monthOf 2 (some .int) :: wsGB)) B.pre
  have hown : s.vm.findClass RX12 = some m.cls := findClass_of_methodNamed B.named
  have hlocks := B.notSynchronized
  have hS : va_S (fun _ => False) s.heap s.heap [] := va_S.rf
  have hl := lv_entry ([.ref h0, .int p1]) (n := 2) (Nat.le_of_ble_eq_true rfl)
  rw [lg_entry_eq]
  generalize (lg_sl ([.ref h0, .int p1]) ++ List.replicate (2 - (lg_sl ([.ref h0, .int p1])).length) Slot.unset).toArray = ls at hl ⊢
  have hl : lv_has ls 2 [(0, .ref h0), (1, .int p1)] := hl
  refine lv_aload_n hx hb dX12_monthOf_0 rfl (lv_at hl 0 rfl) ?_
  refine va_get (D := (dC, dI)) (ci := 12) (v := .ref (mr 11)) (C := RX12) (T := TX12) (N := 57) hx hb hts (fun w h => List.mem_cons_of_mem _ (jnGB_X12 w h)) hown hK hP 0 rfl rfl 21 (by decide) (hts _ (List.mem_cons_of_mem _ mGB_22)) (fun _ h9 => h9) rfl dX12_monthOf_1 ?_
  refine lv_iload_n hx hb dX12_monthOf_4 rfl (lv_at hl 1 rfl) ?_
  refine va_iald hx hb hK hP 12 11 rfl rfl (gi_in gp1 (by decide)) dX12_monthOf_5 ?_
  refine lv_topi (fun x_9 ex_9 => ?_)
  refine lv_if_ne (tgt := 25) hx hb dX12_monthOf_6 (by decide) (fun c_10 => ?_) (fun c_10 => ?_)
  · refine lv_aload_n hx hb dX12_monthOf_25 rfl (lv_at hl 0 rfl) ?_
    refine va_get (D := (dC, dI)) (ci := 12) (v := .ref (mr 8)) (C := RX12) (T := TX12) (N := 57) hx hb hts (fun w h => List.mem_cons_of_mem _ (jnGB_X12 w h)) hown hK hP 0 rfl rfl 18 (by decide) (hts _ (List.mem_cons_of_mem _ mGB_19)) (fun _ h9 => h9) rfl dX12_monthOf_26 ?_
    refine lv_iload_n hx hb dX12_monthOf_29 rfl (lv_at hl 1 rfl) ?_
    refine va_iald hx hb hK hP 9 8 rfl rfl (gi_in gp1 (by decide)) dX12_monthOf_30 ?_
    refine lv_topi (fun x_11 ex_11 => ?_)
    have gx_11 : gi x_11 0 23 := ga_at gfm_deedMonth (gi_in gp1 (by decide)) ex_11
    exact W.iret (v := x_11) hx hb hr (fun t ht hW => ⟨⟨x_11, (), rfl, gx_11, trivial⟩, hS.F ht⟩) hS.2.2 dX12_monthOf_31
  · have g_12 : gi x_9 0 0 := gi_eq c_10 (gi_c 0 0 (by decide))
    refine lv_aload_n hx hb dX12_monthOf_9 rfl (lv_at hl 0 rfl) ?_
    refine va_get (D := (dC, dI)) (ci := 12) (v := .ref (mr 8)) (C := RX12) (T := TX12) (N := 57) hx hb hts (fun w h => List.mem_cons_of_mem _ (jnGB_X12 w h)) hown hK hP 0 rfl rfl 18 (by decide) (hts _ (List.mem_cons_of_mem _ mGB_19)) (fun _ h9 => h9) rfl dX12_monthOf_10 ?_
    refine lv_iload_n hx hb dX12_monthOf_13 rfl (lv_at hl 1 rfl) ?_
    refine va_iald hx hb hK hP 9 8 rfl rfl (gi_in gp1 (by decide)) dX12_monthOf_14 ?_
    refine lv_topi (fun x_13 ex_13 => ?_)
    have gx_13 : gi x_13 0 23 := ga_at gfm_deedMonth (gi_in gp1 (by decide)) ex_13
    refine lv_aload_n hx hb dX12_monthOf_15 rfl (lv_at hl 0 rfl) ?_
    refine va_get (D := (dC, dI)) (ci := 12) (v := .ref (mr 10)) (C := RX12) (T := TX12) (N := 57) hx hb hts (fun w h => List.mem_cons_of_mem _ (jnGB_X12 w h)) hown hK hP 0 rfl rfl 20 (by decide) (hts _ (List.mem_cons_of_mem _ mGB_21)) (fun _ h9 => h9) rfl dX12_monthOf_16 ?_
    refine lv_iload_n hx hb dX12_monthOf_19 rfl (lv_at hl 1 rfl) ?_
    refine va_iald hx hb hK hP 11 10 rfl rfl (gi_in gp1 (by decide)) dX12_monthOf_20 ?_
    refine lv_topi (fun x_14 ex_14 => ?_)
    have gx_14 : gi x_14 0 600 := ga_at gfm_deedLong (gi_in gp1 (by decide)) ex_14
    refine lv_iadd hx hb dX12_monthOf_21 ?_
    refine lv_topi (fun x_15 ex_15 => ?_)
    have gx_15 : gi x_15 0 623 := gi_add ex_15 gx_13 gx_14 (by decide)
    have g_16 : gi x_15 0 23 := gz_deed hdd (gi_in gp1 (by decide)) ex_9 (gz_zero g_12) ex_13 ex_14 ex_15 gx_13 gx_14
    refine lv_goto (tgt := 31) hx hb dX12_monthOf_22 (by decide) ?_
    exact W.iret (v := x_15) hx hb hr (fun t ht hW => ⟨⟨x_15, (), rfl, g_16, trivial⟩, hS.F ht⟩) hS.2.2 dX12_monthOf_31
theorem dX12_behindOf_0 : decode cX12_behindOf 0 = .ok (.aload_n 0, 1) := by decide +kernel
theorem dX12_behindOf_1 : decode cX12_behindOf 1 = .ok (.getfield 44, 3) := by decide +kernel
theorem dX12_behindOf_4 : decode cX12_behindOf 4 = .ok (.iload_n 1, 1) := by decide +kernel
theorem dX12_behindOf_5 : decode cX12_behindOf 5 = .ok (.iaload, 1) := by decide +kernel
theorem dX12_behindOf_6 : decode cX12_behindOf 6 = .ok (.ifCond .ne 7, 3) := by decide +kernel
theorem dX12_behindOf_9 : decode cX12_behindOf 9 = .ok (.iconst 0, 1) := by decide +kernel
theorem dX12_behindOf_10 : decode cX12_behindOf 10 = .ok (.goto 9, 3) := by decide +kernel
theorem dX12_behindOf_13 : decode cX12_behindOf 13 = .ok (.aload_n 0, 1) := by decide +kernel
theorem dX12_behindOf_14 : decode cX12_behindOf 14 = .ok (.getfield 41, 3) := by decide +kernel
theorem dX12_behindOf_17 : decode cX12_behindOf 17 = .ok (.iload_n 1, 1) := by decide +kernel
theorem dX12_behindOf_18 : decode cX12_behindOf 18 = .ok (.iaload, 1) := by decide +kernel
theorem dX12_behindOf_19 : decode cX12_behindOf 19 = .ok (.ireturn, 1) := by decide +kernel
set_option maxHeartbeats 4000000 in
set_option maxRecDepth 100000 in
theorem sX12_behindOf (l : Launch) (dC : Nat → ClassId) (dI : Nat → Nat → Nat) (h0 : Nat) (mi : Nat → Int32) (mr : Nat → Nat) (km : Nat → ClassId) (fm_deedMonth : Nat → Int32) (fm_deedLong : Nat → Int32) (fm_deedKind : Nat → Int32) (fm_trust : Nat → Int32) (fm_letter : Nat → Int32) (fm_reportPlace : Nat → Int32) (fm_reportKind : Nat → Int32) (fm_struck : Nat → Int32) (fm_reportMonth : Nat → Int32) (fm_reportDay : Nat → Int32) (fm_reportKnown : Nat → Int32) (fm_deedDay : Nat → Int32) (fm_kept : Nat → Int32) (fm_tape : Nat → Int32) (fm_must : Nat → Int32) (fm_least : Nat → Int32) (fm_pin : Nat → Int32) (fm_ways : Nat → Int32) (fm_verdict : Nat → Int32) (fm_row : Nat → Int32) (fm_official : Nat → Int32) (fm_aside : Nat → Int32) (fm_worth : Nat → Int32) (fm_out : Nat → Int32) (p1 : Int32) (gmi_0 : gi (mi 0) 0 24) (gmi_1 : gi (mi 1) 0 5) (gmi_2 : gi (mi 2) 0 5) (gmi_4 : gi (mi 4) 0 1) (gmi_7 : gi (mi 7) 0 6) (gmi_10 : gi (mi 10) 0 24) (gmi_17 : gi (mi 17) 0 8) (gmi_23 : gi (mi 23) 0 300) (gmi_24 : gi (mi 24) 0 1) (gmi_26 : gi (mi 26) 0 1600) (gmi_29 : gi (mi 29) 0 1600) (gmi_30 : gi (mi 30) 0 1600) (gmi_33 : gi (mi 33) 0 1) (gmi_37 : gi (mi 37) 0 1) (gmi_41 : gi (mi 41) 0 24) (gmi_50 : gi (mi 50) 0 1) (gmi_51 : gi (mi 51) 0 1) (gmi_56 : gi (mi 56) 0 80) (gfm_deedMonth : ga fm_deedMonth 8 0 23) (gfm_deedLong : ga fm_deedLong 8 0 600) (gp1 : gi p1 0 7) : Met l yX12_behindOf (.code yX12_behindOf cX12_behindOf 2 (some .int) :: wsGB) ({ frames := 0, cells := 0, slots := 0, locals := 0 }) (va_Pc [.ref h0, .int p1] (fun U => va_P (dC, dI) vwCl (MWn h0 mr km (mi 0) (mi 1) (mi 2) (mi 3) (mi 4) (mi 5) (mi 6) (mi 7) (mi 10) (mi 17) (mi 23) (mi 24) (mi 26) (mi 27) (mi 28) (mi 29) (mi 30) (mi 31) (mi 32) (mi 33) (mi 37) (mi 41) (mi 42) (mi 43) (mi 44) (mi 45) (mi 47) (mi 48) (mi 49) (mi 50) (mi 51) (mi 54) (mi 56) fm_trust fm_letter fm_reportPlace fm_reportKind fm_struck fm_reportMonth fm_reportDay fm_reportKnown fm_deedMonth fm_deedDay fm_deedLong fm_deedKind fm_kept fm_tape fm_must fm_least fm_pin fm_ways fm_verdict fm_row fm_official fm_aside fm_worth fm_out) U.heap ∧ va_K (dC, dI) vwCl (MT km) U)) (va_Qi (fun (r : Int32) (u : Unit) => gi r 0 600) (fun _ _ => True) (fun _ => False)) 0 0 (fun _ => False) := by
  refine Met.ofW (cc := cX12_behindOf) (maxL := 2) (ret := (some .int)) (by decide) rfl ?_
  intro p e s m args below meth c s₁ B hml hv
  obtain ⟨rfl, hP, hK⟩ := hv
  have hx := B.exec
  have hb := B.bytes
  have hr := B.returns
  have hts := atoms_spec (ws := (.code yX12_behindOf cX12_behindOf 2 (some .int) :: wsGB)) B.pre
  have hown : s.vm.findClass RX12 = some m.cls := findClass_of_methodNamed B.named
  have hlocks := B.notSynchronized
  have hS : va_S (fun _ => False) s.heap s.heap [] := va_S.rf
  have hl := lv_entry ([.ref h0, .int p1]) (n := 2) (Nat.le_of_ble_eq_true rfl)
  rw [lg_entry_eq]
  generalize (lg_sl ([.ref h0, .int p1]) ++ List.replicate (2 - (lg_sl ([.ref h0, .int p1])).length) Slot.unset).toArray = ls at hl ⊢
  have hl : lv_has ls 2 [(0, .ref h0), (1, .int p1)] := hl
  refine lv_aload_n hx hb dX12_behindOf_0 rfl (lv_at hl 0 rfl) ?_
  refine va_get (D := (dC, dI)) (ci := 12) (v := .ref (mr 11)) (C := RX12) (T := TX12) (N := 57) hx hb hts (fun w h => List.mem_cons_of_mem _ (jnGB_X12 w h)) hown hK hP 0 rfl rfl 21 (by decide) (hts _ (List.mem_cons_of_mem _ mGB_22)) (fun _ h9 => h9) rfl dX12_behindOf_1 ?_
  refine lv_iload_n hx hb dX12_behindOf_4 rfl (lv_at hl 1 rfl) ?_
  refine va_iald hx hb hK hP 12 11 rfl rfl (gi_in gp1 (by decide)) dX12_behindOf_5 ?_
  refine lv_topi (fun x_5 ex_5 => ?_)
  refine lv_if_ne (tgt := 13) hx hb dX12_behindOf_6 (by decide) (fun c_6 => ?_) (fun c_6 => ?_)
  · refine lv_aload_n hx hb dX12_behindOf_13 rfl (lv_at hl 0 rfl) ?_
    refine va_get (D := (dC, dI)) (ci := 12) (v := .ref (mr 10)) (C := RX12) (T := TX12) (N := 57) hx hb hts (fun w h => List.mem_cons_of_mem _ (jnGB_X12 w h)) hown hK hP 0 rfl rfl 20 (by decide) (hts _ (List.mem_cons_of_mem _ mGB_21)) (fun _ h9 => h9) rfl dX12_behindOf_14 ?_
    refine lv_iload_n hx hb dX12_behindOf_17 rfl (lv_at hl 1 rfl) ?_
    refine va_iald hx hb hK hP 11 10 rfl rfl (gi_in gp1 (by decide)) dX12_behindOf_18 ?_
    refine lv_topi (fun x_7 ex_7 => ?_)
    have gx_7 : gi x_7 0 600 := ga_at gfm_deedLong (gi_in gp1 (by decide)) ex_7
    exact W.iret (v := x_7) hx hb hr (fun t ht hW => ⟨⟨x_7, (), rfl, gx_7, trivial⟩, hS.F ht⟩) hS.2.2 dX12_behindOf_19
  · have g_8 : gi x_5 0 0 := gi_eq c_6 (gi_c 0 0 (by decide))
    refine lv_iconst (v := 0) hx hb dX12_behindOf_9 (by decide) ?_
    refine lv_goto (tgt := 19) hx hb dX12_behindOf_10 (by decide) ?_
    exact W.iret (v := 0) hx hb hr (fun t ht hW => ⟨⟨0, (), rfl, (gi_w (gi_c 0 0 (by decide)) (by decide)), trivial⟩, hS.F ht⟩) hS.2.2 dX12_behindOf_19
theorem dX12_dueBy_0 : decode cX12_dueBy 0 = .ok (.aload_n 0, 1) := by decide +kernel
theorem dX12_dueBy_1 : decode cX12_dueBy 1 = .ok (.aload_n 0, 1) := by decide +kernel
theorem dX12_dueBy_2 : decode cX12_dueBy 2 = .ok (.iload_n 1, 1) := by decide +kernel
theorem dX12_dueBy_3 : decode cX12_dueBy 3 = .ok (.invokevirtual 438, 3) := by decide +kernel
theorem dX12_dueBy_6 : decode cX12_dueBy 6 = .ok (.aload_n 0, 1) := by decide +kernel
theorem dX12_dueBy_7 : decode cX12_dueBy 7 = .ok (.getfield 38, 3) := by decide +kernel
theorem dX12_dueBy_10 : decode cX12_dueBy 10 = .ok (.iload_n 1, 1) := by decide +kernel
theorem dX12_dueBy_11 : decode cX12_dueBy 11 = .ok (.iaload, 1) := by decide +kernel
theorem dX12_dueBy_12 : decode cX12_dueBy 12 = .ok (.invokevirtual 412, 3) := by decide +kernel
theorem dX12_dueBy_15 : decode cX12_dueBy 15 = .ok (.aload_n 0, 1) := by decide +kernel
theorem dX12_dueBy_16 : decode cX12_dueBy 16 = .ok (.iload_n 1, 1) := by decide +kernel
theorem dX12_dueBy_17 : decode cX12_dueBy 17 = .ok (.invokevirtual 441, 3) := by decide +kernel
theorem dX12_dueBy_20 : decode cX12_dueBy 20 = .ok (.iadd, 1) := by decide +kernel
theorem dX12_dueBy_21 : decode cX12_dueBy 21 = .ok (.ireturn, 1) := by decide +kernel
set_option maxHeartbeats 4000000 in
set_option maxRecDepth 100000 in
theorem sX12_dueBy (l : Launch) (dC : Nat → ClassId) (dI : Nat → Nat → Nat) (h0 : Nat) (mi : Nat → Int32) (mr : Nat → Nat) (km : Nat → ClassId) (fm_deedMonth : Nat → Int32) (fm_deedLong : Nat → Int32) (fm_deedKind : Nat → Int32) (fm_deedDay : Nat → Int32) (fm_official : Nat → Int32) (fm_trust : Nat → Int32) (fm_letter : Nat → Int32) (fm_reportPlace : Nat → Int32) (fm_reportKind : Nat → Int32) (fm_struck : Nat → Int32) (fm_reportMonth : Nat → Int32) (fm_reportDay : Nat → Int32) (fm_reportKnown : Nat → Int32) (fm_kept : Nat → Int32) (fm_tape : Nat → Int32) (fm_must : Nat → Int32) (fm_least : Nat → Int32) (fm_pin : Nat → Int32) (fm_ways : Nat → Int32) (fm_verdict : Nat → Int32) (fm_row : Nat → Int32) (fm_aside : Nat → Int32) (fm_worth : Nat → Int32) (fm_out : Nat → Int32) (p1 : Int32) (gmi_0 : gi (mi 0) 0 24) (gmi_1 : gi (mi 1) 0 5) (gmi_2 : gi (mi 2) 0 5) (gmi_4 : gi (mi 4) 0 1) (gmi_7 : gi (mi 7) 0 6) (gmi_10 : gi (mi 10) 0 24) (gmi_17 : gi (mi 17) 0 8) (gmi_23 : gi (mi 23) 0 300) (gmi_24 : gi (mi 24) 0 1) (gmi_26 : gi (mi 26) 0 1600) (gmi_29 : gi (mi 29) 0 1600) (gmi_30 : gi (mi 30) 0 1600) (gmi_33 : gi (mi 33) 0 1) (gmi_37 : gi (mi 37) 0 1) (gmi_41 : gi (mi 41) 0 24) (gmi_50 : gi (mi 50) 0 1) (gmi_51 : gi (mi 51) 0 1) (gmi_56 : gi (mi 56) 0 80) (gfm_deedMonth : ga fm_deedMonth 8 0 23) (gfm_deedLong : ga fm_deedLong 8 0 600) (gp1 : gi p1 0 7) (hdd : ∀ j : Nat, j < 8 → ((fm_deedKind j).toInt ≠ 0 ∨ (fm_deedMonth j).toInt + (fm_deedLong j).toInt ≤ 23)) : Met l yX12_dueBy (.code yX12_dueBy cX12_dueBy 2 (some .int) :: wsGB) ({ frames := 2, cells := 0, slots := 0, locals := 43 }) (va_Pc [.ref h0, .int p1] (fun U => va_P (dC, dI) vwCl (MWn h0 mr km (mi 0) (mi 1) (mi 2) (mi 3) (mi 4) (mi 5) (mi 6) (mi 7) (mi 10) (mi 17) (mi 23) (mi 24) (mi 26) (mi 27) (mi 28) (mi 29) (mi 30) (mi 31) (mi 32) (mi 33) (mi 37) (mi 41) (mi 42) (mi 43) (mi 44) (mi 45) (mi 47) (mi 48) (mi 49) (mi 50) (mi 51) (mi 54) (mi 56) fm_trust fm_letter fm_reportPlace fm_reportKind fm_struck fm_reportMonth fm_reportDay fm_reportKnown fm_deedMonth fm_deedDay fm_deedLong fm_deedKind fm_kept fm_tape fm_must fm_least fm_pin fm_ways fm_verdict fm_row fm_official fm_aside fm_worth fm_out) U.heap ∧ va_K (dC, dI) vwCl (MT km) U)) (va_Qi (fun (r : Int32) (u : Unit) => gi r (-2147483648) 2147483647) (fun _ _ => True) (fun _ => False)) 0 0 (fun _ => False) := by
  refine Met.ofW (cc := cX12_dueBy) (maxL := 2) (ret := (some .int)) (by decide) rfl ?_
  intro p e s m args below meth c s₁ B hml hv
  obtain ⟨rfl, hP, hK⟩ := hv
  have hx := B.exec
  have hb := B.bytes
  have hr := B.returns
  have hts := atoms_spec (ws := (.code yX12_dueBy cX12_dueBy 2 (some .int) :: wsGB)) B.pre
  have hown : s.vm.findClass RX12 = some m.cls := findClass_of_methodNamed B.named
  have hlocks := B.notSynchronized
  have hS : va_S (fun _ => False) s.heap s.heap [] := va_S.rf
  have hl := lv_entry ([.ref h0, .int p1]) (n := 2) (Nat.le_of_ble_eq_true rfl)
  rw [lg_entry_eq]
  generalize (lg_sl ([.ref h0, .int p1]) ++ List.replicate (2 - (lg_sl ([.ref h0, .int p1])).length) Slot.unset).toArray = ls at hl ⊢
  have hl : lv_has ls 2 [(0, .ref h0), (1, .int p1)] := hl
  refine lv_aload_n hx hb dX12_dueBy_0 rfl (lv_at hl 0 rfl) ?_
  refine lv_aload_n hx hb dX12_dueBy_1 rfl (lv_at hl 0 rfl) ?_
  refine lv_iload_n hx hb dX12_dueBy_2 rfl (lv_at hl 1 rfl) ?_
  refine va_calli (va_runV (As := [.int p1]) (rest := [.ref h0]) ⟨hx, hb, hml, hown, hts⟩ (sX12_monthOf l dC dI h0 mi mr km fm_deedMonth fm_deedLong fm_deedKind fm_trust fm_letter fm_reportPlace fm_reportKind fm_struck fm_reportMonth fm_reportDay fm_reportKnown fm_deedDay fm_kept fm_tape fm_must fm_least fm_pin fm_ways fm_verdict fm_row fm_official fm_aside fm_worth fm_out p1 gmi_0 gmi_1 gmi_2 gmi_4 gmi_7 gmi_10 gmi_17 gmi_23 gmi_24 gmi_26 gmi_29 gmi_30 gmi_33 gmi_37 gmi_41 gmi_50 gmi_51 gmi_56 gfm_deedMonth gfm_deedLong gp1 hdd) (cwV 1 hts (gz_gV mGB_459 mGB_460 mGB_461 mGB_1 mGB_462 goodGB) rfl rfl rfl (by decide +kernel) ⟨Nat.le_of_ble_eq_true rfl, Nat.le_of_ble_eq_true rfl⟩) ⟨bl_R, mw_recv hK hP, fun U hU hW => ⟨rfl, by rw [hU]; exact hP, va_K.moved hW.alike hK⟩⟩ rfl rfl hl.1 rfl (lv_room (Nat.le_of_ble_eq_true rfl)) dX12_dueBy_3 ⟨Nat.zero_le _, Nat.zero_le _⟩) hS (fun q _ h => h.elim) (fun q h => h.elim) (fun r_6 u t H1 locs ht hvm hw hB hz1 hk1 hS => ?_)
  have hP := gz_keep hP hk1
  generalize H1 = H at hP hS ⊢
  have gr_6 : gi r_6 0 23 := hw
  refine lv_aload_n hx hb dX12_dueBy_6 rfl (lv_at hl 0 rfl) ?_
  refine va_get (D := (dC, dI)) (ci := 12) (v := .ref (mr 9)) (C := RX12) (T := TX12) (N := 57) hx hb hts (fun w h => List.mem_cons_of_mem _ (jnGB_X12 w h)) hown hK hP 0 rfl rfl 19 (by decide) (hts _ (List.mem_cons_of_mem _ mGB_20)) (fun _ h9 => h9) rfl dX12_dueBy_7 ?_
  refine lv_iload_n hx hb dX12_dueBy_10 rfl (lv_at hl 1 rfl) ?_
  refine va_iald hx hb hK hP 10 9 rfl rfl (gi_in gp1 (by decide)) dX12_dueBy_11 ?_
  refine lv_topi (fun x_7 ex_7 => ?_)
  refine va_calli (va_runV (As := [.int r_6, .int x_7]) (rest := []) ⟨hx, hb, hml, hown, hts⟩ (sX12_dayBy l dC dI h0 mi mr km fm_official fm_trust fm_letter fm_reportPlace fm_reportKind fm_struck fm_reportMonth fm_reportDay fm_reportKnown fm_deedMonth fm_deedDay fm_deedLong fm_deedKind fm_kept fm_tape fm_must fm_least fm_pin fm_ways fm_verdict fm_row fm_aside fm_worth fm_out r_6 x_7 gmi_0 gmi_1 gmi_2 gmi_4 gmi_7 gmi_10 gmi_17 gmi_23 gmi_24 gmi_26 gmi_29 gmi_30 gmi_33 gmi_37 gmi_41 gmi_50 gmi_51 gmi_56 gr_6) (cwV 2 hts (gz_gV mGB_419 mGB_420 mGB_421 mGB_1 mGB_422 goodGB) rfl rfl rfl (by decide +kernel) ⟨Nat.le_of_ble_eq_true rfl, Nat.le_of_ble_eq_true rfl⟩) ⟨bl_R, mw_recv hK hP, fun U hU hW => ⟨rfl, by rw [hU]; exact hP, va_K.moved hW.alike hK⟩⟩ rfl rfl hl.1 rfl (lv_room (Nat.le_of_ble_eq_true rfl)) dX12_dueBy_12 ⟨Nat.zero_le _, Nat.zero_le _⟩) hS (fun q _ h => h.elim) (fun q h => h.elim) (fun r_8 u t H1 locs ht hvm hw hB hz1 hk1 hS => ?_)
  have hP := gz_keep hP hk1
  generalize H1 = H at hP hS ⊢
  refine lv_aload_n hx hb dX12_dueBy_15 rfl (lv_at hl 0 rfl) ?_
  refine lv_iload_n hx hb dX12_dueBy_16 rfl (lv_at hl 1 rfl) ?_
  refine va_calli (va_runV (As := [.int p1]) (rest := [.int r_8]) ⟨hx, hb, hml, hown, hts⟩ (sX12_behindOf l dC dI h0 mi mr km fm_deedMonth fm_deedLong fm_deedKind fm_trust fm_letter fm_reportPlace fm_reportKind fm_struck fm_reportMonth fm_reportDay fm_reportKnown fm_deedDay fm_kept fm_tape fm_must fm_least fm_pin fm_ways fm_verdict fm_row fm_official fm_aside fm_worth fm_out p1 gmi_0 gmi_1 gmi_2 gmi_4 gmi_7 gmi_10 gmi_17 gmi_23 gmi_24 gmi_26 gmi_29 gmi_30 gmi_33 gmi_37 gmi_41 gmi_50 gmi_51 gmi_56 gfm_deedMonth gfm_deedLong gp1) (cwV 1 hts (gz_gV mGB_463 mGB_464 mGB_465 mGB_1 mGB_466 goodGB) rfl rfl rfl (by decide +kernel) ⟨Nat.le_of_ble_eq_true rfl, Nat.le_of_ble_eq_true rfl⟩) ⟨bl_R, mw_recv hK hP, fun U hU hW => ⟨rfl, by rw [hU]; exact hP, va_K.moved hW.alike hK⟩⟩ rfl rfl hl.1 rfl (lv_room (Nat.le_of_ble_eq_true rfl)) dX12_dueBy_17 ⟨Nat.zero_le _, Nat.zero_le _⟩) hS (fun q _ h => h.elim) (fun q h => h.elim) (fun r_9 u t H1 locs ht hvm hw hB hz1 hk1 hS => ?_)
  have hP := gz_keep hP hk1
  generalize H1 = H at hP hS ⊢
  have gr_9 : gi r_9 0 600 := hw
  refine lv_iadd hx hb dX12_dueBy_20 ?_
  refine lv_topi (fun x_10 ex_10 => ?_)
  exact W.iret (v := x_10) hx hb hr (fun t ht hW => ⟨⟨x_10, (), rfl, (gi_any x_10), trivial⟩, hS.F ht⟩) hS.2.2 dX12_dueBy_21
theorem dX12_due_0 : decode cX12_due 0 = .ok (.aload_n 0, 1) := by decide +kernel
theorem dX12_due_1 : decode cX12_due 1 = .ok (.iload_n 1, 1) := by decide +kernel
theorem dX12_due_2 : decode cX12_due 2 = .ok (.invokevirtual 359, 3) := by decide +kernel
theorem dX12_due_5 : decode cX12_due 5 = .ok (.ifCond .eq 11, 3) := by decide +kernel
theorem dX12_due_8 : decode cX12_due 8 = .ok (.aload_n 0, 1) := by decide +kernel
theorem dX12_due_9 : decode cX12_due 9 = .ok (.iload_n 2, 1) := by decide +kernel
theorem dX12_due_10 : decode cX12_due 10 = .ok (.invokevirtual 306, 3) := by decide +kernel
theorem dX12_due_13 : decode cX12_due 13 = .ok (.ifCond .ne 6, 3) := by decide +kernel
theorem dX12_due_16 : decode cX12_due 16 = .ok (.bipush (-2), 2) := by decide +kernel
theorem dX12_due_18 : decode cX12_due 18 = .ok (.ireturn, 1) := by decide +kernel
theorem dX12_due_19 : decode cX12_due 19 = .ok (.aload_n 0, 1) := by decide +kernel
theorem dX12_due_20 : decode cX12_due 20 = .ok (.iload_n 1, 1) := by decide +kernel
theorem dX12_due_21 : decode cX12_due 21 = .ok (.invokevirtual 382, 3) := by decide +kernel
theorem dX12_due_24 : decode cX12_due 24 = .ok (.aload_n 0, 1) := by decide +kernel
theorem dX12_due_25 : decode cX12_due 25 = .ok (.iload_n 2, 1) := by decide +kernel
theorem dX12_due_26 : decode cX12_due 26 = .ok (.invokevirtual 429, 3) := by decide +kernel
theorem dX12_due_29 : decode cX12_due 29 = .ok (.ireturn, 1) := by decide +kernel
abbrev pb_sX12_due (dC : Nat → ClassId) (dI : Nat → Nat → Nat) (A9 : Nat → Prop) (h0 : Nat) (mi : Nat → Int32) (mr : Nat → Nat) (km : Nat → ClassId) (fm_must : Nat → Int32) (fm_least : Nat → Int32) (fm_pin : Nat → Int32) (fm_ways : Nat → Int32) (fm_verdict : Nat → Int32) (fm_row : Nat → Int32) (fm_struck : Nat → Int32) (fm_reportKnown : Nat → Int32) (fm_reportPlace : Nat → Int32) (fm_reportMonth : Nat → Int32) (fm_reportDay : Nat → Int32) (fm_reportKind : Nat → Int32) (fm_trust : Nat → Int32) (fm_letter : Nat → Int32) (fm_official : Nat → Int32) (fm_deedMonth : Nat → Int32) (fm_deedLong : Nat → Int32) (fm_deedKind : Nat → Int32) (fm_deedDay : Nat → Int32) (fm_kept : Nat → Int32) (fm_tape : Nat → Int32) (fm_aside : Nat → Int32) (fm_worth : Nat → Int32) (fm_out : Nat → Int32) (p1 : Int32) (p2 : Int32) (w0_37 : Int32) (w0_41 : Int32) (z1 : Nat → Int32) (z2 : Nat → Int32) (z3 : Nat → Int32) (z4 : Nat → Int32) (z5 : Nat → Int32) (z6 : Nat → Int32) (z15 : Nat → Int32) (t : State) : Prop := gi w0_37 0 1 ∧ gi w0_41 0 24 ∧ ga z6 24 0 23 ∧ va_P (dC, dI) vwCl (MWn h0 mr km (mi 0) (mi 1) (mi 2) (mi 3) (mi 4) (mi 5) (mi 6) (mi 7) (mi 10) (mi 17) (mi 23) (mi 24) (mi 26) (mi 27) (mi 28) (mi 29) (mi 30) (mi 31) (mi 32) (mi 33) w0_37 w0_41 (mi 42) (mi 43) (mi 44) (mi 45) (mi 47) (mi 48) (mi 49) (mi 50) (mi 51) (mi 54) (mi 56) fm_trust fm_letter fm_reportPlace fm_reportKind fm_struck fm_reportMonth fm_reportDay fm_reportKnown fm_deedMonth fm_deedDay fm_deedLong fm_deedKind fm_kept fm_tape z1 z2 z3 z4 z5 z6 z15 fm_aside fm_worth fm_out) t.heap ∧ va_D A9 (MWn h0 mr km (mi 0) (mi 1) (mi 2) (mi 3) (mi 4) (mi 5) (mi 6) (mi 7) (mi 10) (mi 17) (mi 23) (mi 24) (mi 26) (mi 27) (mi 28) (mi 29) (mi 30) (mi 31) (mi 32) (mi 33) w0_37 w0_41 (mi 42) (mi 43) (mi 44) (mi 45) (mi 47) (mi 48) (mi 49) (mi 50) (mi 51) (mi 54) (mi 56) fm_trust fm_letter fm_reportPlace fm_reportKind fm_struck fm_reportMonth fm_reportDay fm_reportKnown fm_deedMonth fm_deedDay fm_deedLong fm_deedKind fm_kept fm_tape z1 z2 z3 z4 z5 z6 z15 fm_aside fm_worth fm_out)
set_option maxHeartbeats 4000000 in
set_option maxRecDepth 100000 in
theorem sX12_due (l : Launch) (dC : Nat → ClassId) (dI : Nat → Nat → Nat) (sz : Nat) (h0 : Nat) (mi : Nat → Int32) (mr : Nat → Nat) (km : Nat → ClassId) (fm_must : Nat → Int32) (fm_least : Nat → Int32) (fm_pin : Nat → Int32) (fm_ways : Nat → Int32) (fm_verdict : Nat → Int32) (fm_row : Nat → Int32) (fm_struck : Nat → Int32) (fm_reportKnown : Nat → Int32) (fm_reportPlace : Nat → Int32) (fm_reportMonth : Nat → Int32) (fm_reportDay : Nat → Int32) (fm_reportKind : Nat → Int32) (fm_trust : Nat → Int32) (fm_letter : Nat → Int32) (fm_official : Nat → Int32) (fm_deedMonth : Nat → Int32) (fm_deedLong : Nat → Int32) (fm_deedKind : Nat → Int32) (fm_deedDay : Nat → Int32) (fm_kept : Nat → Int32) (fm_tape : Nat → Int32) (fm_aside : Nat → Int32) (fm_worth : Nat → Int32) (fm_out : Nat → Int32) (p1 : Int32) (p2 : Int32) (gmi_0 : gi (mi 0) 0 24) (gmi_1 : gi (mi 1) 0 5) (gmi_2 : gi (mi 2) 0 5) (gmi_4 : gi (mi 4) 0 1) (gmi_7 : gi (mi 7) 0 6) (gmi_10 : gi (mi 10) 0 24) (gmi_17 : gi (mi 17) 0 8) (gmi_23 : gi (mi 23) 0 300) (gmi_24 : gi (mi 24) 0 1) (gmi_26 : gi (mi 26) 0 1600) (gmi_29 : gi (mi 29) 0 1600) (gmi_30 : gi (mi 30) 0 1600) (gmi_33 : gi (mi 33) 0 1) (gmi_37 : gi (mi 37) 0 1) (gmi_41 : gi (mi 41) 0 24) (gmi_50 : gi (mi 50) 0 1) (gmi_51 : gi (mi 51) 0 1) (gmi_56 : gi (mi 56) 0 80) (gfm_row : ga fm_row 24 0 23) (gfm_struck : ga fm_struck 24 0 1) (gfm_reportKnown : ga fm_reportKnown 24 0 999) (gfm_reportPlace : ga fm_reportPlace 24 0 5) (gfm_reportMonth : ga fm_reportMonth 24 0 23) (gfm_reportDay : ga fm_reportDay 24 0 999) (gfm_deedMonth : ga fm_deedMonth 8 0 23) (gfm_deedLong : ga fm_deedLong 8 0 600) (hdd : ∀ j : Nat, j < 8 → ((fm_deedKind j).toInt ≠ 0 ∨ (fm_deedMonth j).toInt + (fm_deedLong j).toInt ≤ 23)) : Met l yX12_due (.code yX12_due cX12_due 3 (some .int) :: wsGB) ({ frames := 6, cells := 0, slots := 0, locals := 140 }) (va_Pc [.ref h0, .int p1, .int p2] (fun U => U.heap.size = sz ∧ va_P (dC, dI) vwCl (MWn h0 mr km (mi 0) (mi 1) (mi 2) (mi 3) (mi 4) (mi 5) (mi 6) (mi 7) (mi 10) (mi 17) (mi 23) (mi 24) (mi 26) (mi 27) (mi 28) (mi 29) (mi 30) (mi 31) (mi 32) (mi 33) (mi 37) (mi 41) (mi 42) (mi 43) (mi 44) (mi 45) (mi 47) (mi 48) (mi 49) (mi 50) (mi 51) (mi 54) (mi 56) fm_trust fm_letter fm_reportPlace fm_reportKind fm_struck fm_reportMonth fm_reportDay fm_reportKnown fm_deedMonth fm_deedDay fm_deedLong fm_deedKind fm_kept fm_tape fm_must fm_least fm_pin fm_ways fm_verdict fm_row fm_official fm_aside fm_worth fm_out) U.heap ∧ va_K (dC, dI) vwCl (MT km) U ∧ va_D (fun _ => True) (MWn h0 mr km (mi 0) (mi 1) (mi 2) (mi 3) (mi 4) (mi 5) (mi 6) (mi 7) (mi 10) (mi 17) (mi 23) (mi 24) (mi 26) (mi 27) (mi 28) (mi 29) (mi 30) (mi 31) (mi 32) (mi 33) (mi 37) (mi 41) (mi 42) (mi 43) (mi 44) (mi 45) (mi 47) (mi 48) (mi 49) (mi 50) (mi 51) (mi 54) (mi 56) fm_trust fm_letter fm_reportPlace fm_reportKind fm_struck fm_reportMonth fm_reportDay fm_reportKnown fm_deedMonth fm_deedDay fm_deedLong fm_deedKind fm_kept fm_tape fm_must fm_least fm_pin fm_ways fm_verdict fm_row fm_official fm_aside fm_worth fm_out))) (va_Qi (fun (r : Int32) (u : Unit) => gi r (-2147483648) 2147483647) (fun _ t => ∃ (w0_37 : Int32) (w0_41 : Int32) (z1 : Nat → Int32) (z2 : Nat → Int32) (z3 : Nat → Int32) (z4 : Nat → Int32) (z5 : Nat → Int32) (z6 : Nat → Int32) (z15 : Nat → Int32), pb_sX12_due dC dI (va_A (MWn h0 mr km (mi 0) (mi 1) (mi 2) (mi 3) (mi 4) (mi 5) (mi 6) (mi 7) (mi 10) (mi 17) (mi 23) (mi 24) (mi 26) (mi 27) (mi 28) (mi 29) (mi 30) (mi 31) (mi 32) (mi 33) (mi 37) (mi 41) (mi 42) (mi 43) (mi 44) (mi 45) (mi 47) (mi 48) (mi 49) (mi 50) (mi 51) (mi 54) (mi 56) fm_trust fm_letter fm_reportPlace fm_reportKind fm_struck fm_reportMonth fm_reportDay fm_reportKnown fm_deedMonth fm_deedDay fm_deedLong fm_deedKind fm_kept fm_tape fm_must fm_least fm_pin fm_ways fm_verdict fm_row fm_official fm_aside fm_worth fm_out) sz) h0 mi mr km fm_must fm_least fm_pin fm_ways fm_verdict fm_row fm_struck fm_reportKnown fm_reportPlace fm_reportMonth fm_reportDay fm_reportKind fm_trust fm_letter fm_official fm_deedMonth fm_deedLong fm_deedKind fm_deedDay fm_kept fm_tape fm_aside fm_worth fm_out p1 p2 w0_37 w0_41 z1 z2 z3 z4 z5 z6 z15 t) (va_A (MWn h0 mr km (mi 0) (mi 1) (mi 2) (mi 3) (mi 4) (mi 5) (mi 6) (mi 7) (mi 10) (mi 17) (mi 23) (mi 24) (mi 26) (mi 27) (mi 28) (mi 29) (mi 30) (mi 31) (mi 32) (mi 33) (mi 37) (mi 41) (mi 42) (mi 43) (mi 44) (mi 45) (mi 47) (mi 48) (mi 49) (mi 50) (mi 51) (mi 54) (mi 56) fm_trust fm_letter fm_reportPlace fm_reportKind fm_struck fm_reportMonth fm_reportDay fm_reportKnown fm_deedMonth fm_deedDay fm_deedLong fm_deedKind fm_kept fm_tape fm_must fm_least fm_pin fm_ways fm_verdict fm_row fm_official fm_aside fm_worth fm_out) sz)) 0 0 (va_A (MWn h0 mr km (mi 0) (mi 1) (mi 2) (mi 3) (mi 4) (mi 5) (mi 6) (mi 7) (mi 10) (mi 17) (mi 23) (mi 24) (mi 26) (mi 27) (mi 28) (mi 29) (mi 30) (mi 31) (mi 32) (mi 33) (mi 37) (mi 41) (mi 42) (mi 43) (mi 44) (mi 45) (mi 47) (mi 48) (mi 49) (mi 50) (mi 51) (mi 54) (mi 56) fm_trust fm_letter fm_reportPlace fm_reportKind fm_struck fm_reportMonth fm_reportDay fm_reportKnown fm_deedMonth fm_deedDay fm_deedLong fm_deedKind fm_kept fm_tape fm_must fm_least fm_pin fm_ways fm_verdict fm_row fm_official fm_aside fm_worth fm_out) sz) := by
  refine Met.ofW (cc := cX12_due) (maxL := 3) (ret := (some .int)) (by decide) rfl ?_
  intro p e s m args below meth c s₁ B hml hv
  obtain ⟨rfl, hsz, hP, hK, hD0⟩ := hv
  have hx := B.exec
  have hb := B.bytes
  have hr := B.returns
  have hts := atoms_spec (ws := (.code yX12_due cX12_due 3 (some .int) :: wsGB)) B.pre
  have hown : s.vm.findClass RX12 = some m.cls := findClass_of_methodNamed B.named
  have hlocks := B.notSynchronized
  subst hsz
  have hD := hD0.self (sz := s.heap.size)
  generalize hAe : va_A (MWn h0 mr km (mi 0) (mi 1) (mi 2) (mi 3) (mi 4) (mi 5) (mi 6) (mi 7) (mi 10) (mi 17) (mi 23) (mi 24) (mi 26) (mi 27) (mi 28) (mi 29) (mi 30) (mi 31) (mi 32) (mi 33) (mi 37) (mi 41) (mi 42) (mi 43) (mi 44) (mi 45) (mi 47) (mi 48) (mi 49) (mi 50) (mi 51) (mi 54) (mi 56) fm_trust fm_letter fm_reportPlace fm_reportKind fm_struck fm_reportMonth fm_reportDay fm_reportKnown fm_deedMonth fm_deedDay fm_deedLong fm_deedKind fm_kept fm_tape fm_must fm_least fm_pin fm_ways fm_verdict fm_row fm_official fm_aside fm_worth fm_out) s.heap.size = A at hD ⊢
  have hA : ∀ q : Nat, s.heap.size ≤ q → A q := fun q h => by rw [← hAe]; exact Or.inr h
  have hS : va_S A s.heap s.heap [] := va_S.rf
  have hl := lv_entry ([.ref h0, .int p1, .int p2]) (n := 3) (Nat.le_of_ble_eq_true rfl)
  rw [lg_entry_eq]
  generalize (lg_sl ([.ref h0, .int p1, .int p2]) ++ List.replicate (3 - (lg_sl ([.ref h0, .int p1, .int p2])).length) Slot.unset).toArray = ls at hl ⊢
  have hl : lv_has ls 3 [(0, .ref h0), (1, .int p1), (2, .int p2)] := hl
  refine lv_aload_n hx hb dX12_due_0 rfl (lv_at hl 0 rfl) ?_
  refine lv_iload_n hx hb dX12_due_1 rfl (lv_at hl 1 rfl) ?_
  refine va_calli (va_runV (As := [.int p1]) (rest := []) ⟨hx, hb, hml, hown, hts⟩ (sX12_isTime l dC dI h0 mi mr km fm_trust fm_letter fm_reportPlace fm_reportKind fm_struck fm_reportMonth fm_reportDay fm_reportKnown fm_deedMonth fm_deedDay fm_deedLong fm_deedKind fm_kept fm_tape fm_must fm_least fm_pin fm_ways fm_verdict fm_row fm_official fm_aside fm_worth fm_out p1 gmi_0 gmi_1 gmi_2 gmi_4 gmi_7 gmi_10 gmi_17 gmi_23 gmi_24 gmi_26 gmi_29 gmi_30 gmi_33 gmi_37 gmi_41 gmi_50 gmi_51 gmi_56) (cwV 1 hts (gz_gV mGB_256 mGB_257 mGB_258 mGB_1 mGB_259 goodGB) rfl rfl rfl (by decide +kernel) ⟨Nat.le_of_ble_eq_true rfl, Nat.le_of_ble_eq_true rfl⟩) ⟨bl_R, mw_recv hK hP, fun U hU hW => ⟨rfl, by rw [hU]; exact hP, va_K.moved hW.alike hK⟩⟩ rfl rfl hl.1 rfl (lv_room (Nat.le_of_ble_eq_true rfl)) dX12_due_2 ⟨Nat.zero_le _, Nat.zero_le _⟩) hS (fun q _ h => h.elim) (fun q h => h.elim) (fun r_43 u t H1 locs ht hvm hw hB hz1 hk1 hS => ?_)
  obtain ⟨hw, hE⟩ := hw
  have hP := gz_keep hP hk1
  generalize H1 = H at hP hS ⊢
  have gr_43 : gi r_43 0 1 := hw.1
  have hqr_43 := hw.2
  refine lv_if_eq (tgt := 16) hx hb dX12_due_5 (by decide) (fun c_44 => ?_) (fun c_44 => ?_)
  · have g_45 : gi r_43 0 0 := gi_eq c_44 (gi_c 0 0 (by decide))
    refine lv_bipush (v := (-2)) hx hb dX12_due_16 (by decide) ?_
    exact W.iret (v := (-2)) hx hb hr (fun t ht hW => ⟨⟨(-2), (), rfl, (gi_any (-2)), (mi 37), (mi 41), fm_must, fm_least, fm_pin, fm_ways, fm_verdict, fm_row, fm_official, gmi_37, gmi_41, gfm_row, by rw [ht]; exact hP, hD⟩, hS.F ht⟩) hS.2.2 dX12_due_18
  · have g_46 : gi r_43 1 1 := gi_ne_lo c_44 gr_43 (gi_c 0 0 (by decide)) (by decide)
    have g_47 : gi p1 0 999 := gi_cap (gi_any p1) (hqr_43 (gz_one g_46)) (by decide)
    refine lv_aload_n hx hb dX12_due_8 rfl (lv_at hl 0 rfl) ?_
    refine lv_iload_n hx hb dX12_due_9 rfl (lv_at hl 2 rfl) ?_
    refine va_calli (va_runV (As := [.int p2]) (rest := []) ⟨hx, hb, hml, hown, hts⟩ (sX12_isDeed l dC dI h0 mi mr km fm_trust fm_letter fm_reportPlace fm_reportKind fm_struck fm_reportMonth fm_reportDay fm_reportKnown fm_deedMonth fm_deedDay fm_deedLong fm_deedKind fm_kept fm_tape fm_must fm_least fm_pin fm_ways fm_verdict fm_row fm_official fm_aside fm_worth fm_out p2 gmi_0 gmi_1 gmi_2 gmi_4 gmi_7 gmi_10 gmi_17 gmi_23 gmi_24 gmi_26 gmi_29 gmi_30 gmi_33 gmi_37 gmi_41 gmi_50 gmi_51 gmi_56) (cwV 1 hts (gz_gV mGB_242 mGB_243 mGB_244 mGB_1 mGB_245 goodGB) rfl rfl rfl (by decide +kernel) ⟨Nat.le_of_ble_eq_true rfl, Nat.le_of_ble_eq_true rfl⟩) ⟨bl_R, mw_recv hK hP, fun U hU hW => ⟨rfl, by rw [hU]; exact hP, va_K.moved hW.alike hK⟩⟩ rfl rfl hl.1 rfl (lv_room (Nat.le_of_ble_eq_true rfl)) dX12_due_10 ⟨Nat.zero_le _, Nat.zero_le _⟩) hS (fun q _ h => h.elim) (fun q h => h.elim) (fun r_48 u t H1 locs ht hvm hw hB hz1 hk1 hS => ?_)
    obtain ⟨hw, hE⟩ := hw
    have hP := gz_keep hP hk1
    generalize H1 = H at hP hS ⊢
    have gr_48 : gi r_48 0 1 := hw.1
    have hqr_48 := hw.2
    refine lv_if_ne (tgt := 19) hx hb dX12_due_13 (by decide) (fun c_49 => ?_) (fun c_49 => ?_)
    · have g_50 : gi r_48 1 1 := gi_ne_lo c_49 gr_48 (gi_c 0 0 (by decide)) (by decide)
      have g_51 : gi p2 0 7 := gi_cap (gi_any p2) (hqr_48 (gz_one g_50)) (by decide)
      refine lv_aload_n hx hb dX12_due_19 rfl (lv_at hl 0 rfl) ?_
      refine lv_iload_n hx hb dX12_due_20 rfl (lv_at hl 1 rfl) ?_
      have hFc := gz_fullF hD hS hA
      refine va_callv (va_runV (As := [.int p1]) (rest := []) ⟨hx, hb, hml, hown, hts⟩ (sX12_officialBy l dC dI H.size h0 mi mr km fm_must fm_least fm_pin fm_ways fm_verdict fm_row fm_struck fm_reportKnown fm_reportPlace fm_reportMonth fm_reportDay fm_reportKind fm_trust fm_letter fm_official fm_deedMonth fm_deedDay fm_deedLong fm_deedKind fm_kept fm_tape fm_aside fm_worth fm_out p1 gmi_0 gmi_1 gmi_2 gmi_4 gmi_7 gmi_10 gmi_17 gmi_23 gmi_24 gmi_26 gmi_29 gmi_30 gmi_33 gmi_37 gmi_41 gmi_50 gmi_51 gmi_56 gfm_row gfm_struck gfm_reportKnown gfm_reportPlace gfm_reportMonth gfm_reportDay) (cwV 1 hts (gz_gV mGB_358 mGB_359 mGB_360 mGB_1 mGB_361 goodGB) rfl rfl rfl (by decide +kernel) ⟨Nat.le_of_ble_eq_true rfl, Nat.le_of_ble_eq_true rfl⟩) ⟨bl_W, mw_recv hK hP, fun U hU hW => ⟨rfl, by rw [hU], by rw [hU]; exact hP, va_K.moved hW.alike hK, hD.weaken (fun _ _ _ _ => trivial)⟩⟩ rfl rfl hl.1 rfl (lv_room (Nat.le_of_ble_eq_true rfl)) dX12_due_21 ⟨Nat.zero_le _, Nat.zero_le _⟩) hS (fun q _ h => hFc q h) hFc (fun u t H1 locs ht hvm hw hB hz1 hk1 hS => ?_)
      obtain ⟨y_53, y_54, f_55, f_56, f_57, f_58, f_59, f_60, f_61, hB⟩ := hB
      obtain ⟨gy_53, gy_54, gf_60, hP1, hD1⟩ := hB
      rw [ht] at hP1
      have hD : va_D A (MWn h0 mr km (mi 0) (mi 1) (mi 2) (mi 3) (mi 4) (mi 5) (mi 6) (mi 7) (mi 10) (mi 17) (mi 23) (mi 24) (mi 26) (mi 27) (mi 28) (mi 29) (mi 30) (mi 31) (mi 32) (mi 33) y_53 y_54 (mi 42) (mi 43) (mi 44) (mi 45) (mi 47) (mi 48) (mi 49) (mi 50) (mi 51) (mi 54) (mi 56) fm_trust fm_letter fm_reportPlace fm_reportKind fm_struck fm_reportMonth fm_reportDay fm_reportKnown fm_deedMonth fm_deedDay fm_deedLong fm_deedKind fm_kept fm_tape f_55 f_56 f_57 f_58 f_59 f_60 f_61 fm_aside fm_worth fm_out) := gz_fullD hFc hD1
      have hP : va_P (dC, dI) vwCl (MWn h0 mr km (mi 0) (mi 1) (mi 2) (mi 3) (mi 4) (mi 5) (mi 6) (mi 7) (mi 10) (mi 17) (mi 23) (mi 24) (mi 26) (mi 27) (mi 28) (mi 29) (mi 30) (mi 31) (mi 32) (mi 33) y_53 y_54 (mi 42) (mi 43) (mi 44) (mi 45) (mi 47) (mi 48) (mi 49) (mi 50) (mi 51) (mi 54) (mi 56) fm_trust fm_letter fm_reportPlace fm_reportKind fm_struck fm_reportMonth fm_reportDay fm_reportKnown fm_deedMonth fm_deedDay fm_deedLong fm_deedKind fm_kept fm_tape f_55 f_56 f_57 f_58 f_59 f_60 f_61 fm_aside fm_worth fm_out) H1 := hP1
      generalize H1 = H at hP hS ⊢
      refine lv_aload_n hx hb dX12_due_24 rfl (lv_at hl 0 rfl) ?_
      refine lv_iload_n hx hb dX12_due_25 rfl (lv_at hl 2 rfl) ?_
      refine va_calli (va_runV (As := [.int p2]) (rest := []) ⟨hx, hb, hml, hown, hts⟩ (sX12_dueBy l dC dI h0 (upd (upd mi 37 y_53) 41 y_54) mr km fm_deedMonth fm_deedLong fm_deedKind fm_deedDay f_61 fm_trust fm_letter fm_reportPlace fm_reportKind fm_struck fm_reportMonth fm_reportDay fm_reportKnown fm_kept fm_tape f_55 f_56 f_57 f_58 f_59 f_60 fm_aside fm_worth fm_out p2 gmi_0 gmi_1 gmi_2 gmi_4 gmi_7 gmi_10 gmi_17 gmi_23 gmi_24 gmi_26 gmi_29 gmi_30 gmi_33 gy_53 gy_54 gmi_50 gmi_51 gmi_56 gfm_deedMonth gfm_deedLong g_51 hdd) (cwV 1 hts (gz_gV mGB_455 mGB_456 mGB_457 mGB_1 mGB_458 goodGB) rfl rfl rfl (by decide +kernel) ⟨Nat.le_of_ble_eq_true rfl, Nat.le_of_ble_eq_true rfl⟩) ⟨bl_R, mw_recv hK hP, fun U hU hW => ⟨rfl, by rw [hU]; exact hP, va_K.moved hW.alike hK⟩⟩ rfl rfl hl.1 rfl (lv_room (Nat.le_of_ble_eq_true rfl)) dX12_due_26 ⟨Nat.zero_le _, Nat.zero_le _⟩) hS (fun q _ h => h.elim) (fun q h => h.elim) (fun r_62 u t H1 locs ht hvm hw hB hz1 hk1 hS => ?_)
      have hP := gz_keep hP hk1
      generalize H1 = H at hP hS ⊢
      exact W.iret (v := r_62) hx hb hr (fun t ht hW => ⟨⟨r_62, (), rfl, (gi_any r_62), y_53, y_54, f_55, f_56, f_57, f_58, f_59, f_60, f_61, gy_53, gy_54, gf_60, by rw [ht]; exact hP, hD⟩, hS.F ht⟩) hS.2.2 dX12_due_29
    · have g_63 : gi r_48 0 0 := gi_eq c_49 (gi_c 0 0 (by decide))
      refine lv_bipush (v := (-2)) hx hb dX12_due_16 (by decide) ?_
      exact W.iret (v := (-2)) hx hb hr (fun t ht hW => ⟨⟨(-2), (), rfl, (gi_any (-2)), (mi 37), (mi 41), fm_must, fm_least, fm_pin, fm_ways, fm_verdict, fm_row, fm_official, gmi_37, gmi_41, gfm_row, by rw [ht]; exact hP, hD⟩, hS.F ht⟩) hS.2.2 dX12_due_18
theorem dX12_duesOn_0 : decode cX12_duesOn 0 = .ok (.iload_n 2, 1) := by decide +kernel
theorem dX12_duesOn_1 : decode cX12_duesOn 1 = .ok (.aload_n 0, 1) := by decide +kernel
theorem dX12_duesOn_2 : decode cX12_duesOn 2 = .ok (.iload_n 1, 1) := by decide +kernel
theorem dX12_duesOn_3 : decode cX12_duesOn 3 = .ok (.invokevirtual 441, 3) := by decide +kernel
theorem dX12_duesOn_6 : decode cX12_duesOn 6 = .ok (.isub, 1) := by decide +kernel
theorem dX12_duesOn_7 : decode cX12_duesOn 7 = .ok (.istore_n 3, 1) := by decide +kernel
theorem dX12_duesOn_8 : decode cX12_duesOn 8 = .ok (.iload_n 3, 1) := by decide +kernel
theorem dX12_duesOn_9 : decode cX12_duesOn 9 = .ok (.ifCond .ge 7, 3) := by decide +kernel
theorem dX12_duesOn_12 : decode cX12_duesOn 12 = .ok (.iconst 0, 1) := by decide +kernel
theorem dX12_duesOn_13 : decode cX12_duesOn 13 = .ok (.goto 19, 3) := by decide +kernel
theorem dX12_duesOn_16 : decode cX12_duesOn 16 = .ok (.aload_n 0, 1) := by decide +kernel
theorem dX12_duesOn_17 : decode cX12_duesOn 17 = .ok (.aload_n 0, 1) := by decide +kernel
theorem dX12_duesOn_18 : decode cX12_duesOn 18 = .ok (.iload_n 1, 1) := by decide +kernel
theorem dX12_duesOn_19 : decode cX12_duesOn 19 = .ok (.invokevirtual 438, 3) := by decide +kernel
theorem dX12_duesOn_22 : decode cX12_duesOn 22 = .ok (.aload_n 0, 1) := by decide +kernel
theorem dX12_duesOn_23 : decode cX12_duesOn 23 = .ok (.getfield 38, 3) := by decide +kernel
theorem dX12_duesOn_26 : decode cX12_duesOn 26 = .ok (.iload_n 1, 1) := by decide +kernel
theorem dX12_duesOn_27 : decode cX12_duesOn 27 = .ok (.iaload, 1) := by decide +kernel
theorem dX12_duesOn_28 : decode cX12_duesOn 28 = .ok (.iload_n 3, 1) := by decide +kernel
theorem dX12_duesOn_29 : decode cX12_duesOn 29 = .ok (.invokevirtual 420, 3) := by decide +kernel
theorem dX12_duesOn_32 : decode cX12_duesOn 32 = .ok (.ireturn, 1) := by decide +kernel
abbrev pb_sX12_duesOn (dC : Nat → ClassId) (dI : Nat → Nat → Nat) (A9 : Nat → Prop) (h0 : Nat) (mi : Nat → Int32) (mr : Nat → Nat) (km : Nat → ClassId) (fm_must : Nat → Int32) (fm_least : Nat → Int32) (fm_pin : Nat → Int32) (fm_ways : Nat → Int32) (fm_deedMonth : Nat → Int32) (fm_deedLong : Nat → Int32) (fm_deedKind : Nat → Int32) (fm_deedDay : Nat → Int32) (fm_trust : Nat → Int32) (fm_letter : Nat → Int32) (fm_reportPlace : Nat → Int32) (fm_reportKind : Nat → Int32) (fm_struck : Nat → Int32) (fm_reportMonth : Nat → Int32) (fm_reportDay : Nat → Int32) (fm_reportKnown : Nat → Int32) (fm_kept : Nat → Int32) (fm_tape : Nat → Int32) (fm_verdict : Nat → Int32) (fm_row : Nat → Int32) (fm_official : Nat → Int32) (fm_aside : Nat → Int32) (fm_worth : Nat → Int32) (fm_out : Nat → Int32) (p1 : Int32) (p2 : Int32) (z3 : Nat → Int32) (z4 : Nat → Int32) (t : State) : Prop := va_P (dC, dI) vwCl (MWn h0 mr km (mi 0) (mi 1) (mi 2) (mi 3) (mi 4) (mi 5) (mi 6) (mi 7) (mi 10) (mi 17) (mi 23) (mi 24) (mi 26) (mi 27) (mi 28) (mi 29) (mi 30) (mi 31) (mi 32) (mi 33) (mi 37) (mi 41) (mi 42) (mi 43) (mi 44) (mi 45) (mi 47) (mi 48) (mi 49) (mi 50) (mi 51) (mi 54) (mi 56) fm_trust fm_letter fm_reportPlace fm_reportKind fm_struck fm_reportMonth fm_reportDay fm_reportKnown fm_deedMonth fm_deedDay fm_deedLong fm_deedKind fm_kept fm_tape fm_must fm_least z3 z4 fm_verdict fm_row fm_official fm_aside fm_worth fm_out) t.heap ∧ va_D A9 (MWn h0 mr km (mi 0) (mi 1) (mi 2) (mi 3) (mi 4) (mi 5) (mi 6) (mi 7) (mi 10) (mi 17) (mi 23) (mi 24) (mi 26) (mi 27) (mi 28) (mi 29) (mi 30) (mi 31) (mi 32) (mi 33) (mi 37) (mi 41) (mi 42) (mi 43) (mi 44) (mi 45) (mi 47) (mi 48) (mi 49) (mi 50) (mi 51) (mi 54) (mi 56) fm_trust fm_letter fm_reportPlace fm_reportKind fm_struck fm_reportMonth fm_reportDay fm_reportKnown fm_deedMonth fm_deedDay fm_deedLong fm_deedKind fm_kept fm_tape fm_must fm_least z3 z4 fm_verdict fm_row fm_official fm_aside fm_worth fm_out)
set_option maxHeartbeats 4000000 in
set_option maxRecDepth 100000 in
theorem sX12_duesOn (l : Launch) (dC : Nat → ClassId) (dI : Nat → Nat → Nat) (sz : Nat) (h0 : Nat) (mi : Nat → Int32) (mr : Nat → Nat) (km : Nat → ClassId) (fm_must : Nat → Int32) (fm_least : Nat → Int32) (fm_pin : Nat → Int32) (fm_ways : Nat → Int32) (fm_deedMonth : Nat → Int32) (fm_deedLong : Nat → Int32) (fm_deedKind : Nat → Int32) (fm_deedDay : Nat → Int32) (fm_trust : Nat → Int32) (fm_letter : Nat → Int32) (fm_reportPlace : Nat → Int32) (fm_reportKind : Nat → Int32) (fm_struck : Nat → Int32) (fm_reportMonth : Nat → Int32) (fm_reportDay : Nat → Int32) (fm_reportKnown : Nat → Int32) (fm_kept : Nat → Int32) (fm_tape : Nat → Int32) (fm_verdict : Nat → Int32) (fm_row : Nat → Int32) (fm_official : Nat → Int32) (fm_aside : Nat → Int32) (fm_worth : Nat → Int32) (fm_out : Nat → Int32) (p1 : Int32) (p2 : Int32) (gmi_0 : gi (mi 0) 0 24) (gmi_1 : gi (mi 1) 0 5) (gmi_2 : gi (mi 2) 0 5) (gmi_4 : gi (mi 4) 0 1) (gmi_7 : gi (mi 7) 0 6) (gmi_10 : gi (mi 10) 0 24) (gmi_17 : gi (mi 17) 0 8) (gmi_23 : gi (mi 23) 0 300) (gmi_24 : gi (mi 24) 0 1) (gmi_26 : gi (mi 26) 0 1600) (gmi_29 : gi (mi 29) 0 1600) (gmi_30 : gi (mi 30) 0 1600) (gmi_33 : gi (mi 33) 0 1) (gmi_37 : gi (mi 37) 0 1) (gmi_41 : gi (mi 41) 0 24) (gmi_50 : gi (mi 50) 0 1) (gmi_51 : gi (mi 51) 0 1) (gmi_56 : gi (mi 56) 0 80) (gfm_deedMonth : ga fm_deedMonth 8 0 23) (gfm_deedLong : ga fm_deedLong 8 0 600) (gp1 : gi p1 0 7) (hdd : ∀ j : Nat, j < 8 → ((fm_deedKind j).toInt ≠ 0 ∨ (fm_deedMonth j).toInt + (fm_deedLong j).toInt ≤ 23)) : Met l yX12_duesOn (.code yX12_duesOn cX12_duesOn 4 (some .int) :: wsGB) ({ frames := 6, cells := 0, slots := 0, locals := 147 }) (va_Pc [.ref h0, .int p1, .int p2] (fun U => U.heap.size = sz ∧ va_P (dC, dI) vwCl (MWn h0 mr km (mi 0) (mi 1) (mi 2) (mi 3) (mi 4) (mi 5) (mi 6) (mi 7) (mi 10) (mi 17) (mi 23) (mi 24) (mi 26) (mi 27) (mi 28) (mi 29) (mi 30) (mi 31) (mi 32) (mi 33) (mi 37) (mi 41) (mi 42) (mi 43) (mi 44) (mi 45) (mi 47) (mi 48) (mi 49) (mi 50) (mi 51) (mi 54) (mi 56) fm_trust fm_letter fm_reportPlace fm_reportKind fm_struck fm_reportMonth fm_reportDay fm_reportKnown fm_deedMonth fm_deedDay fm_deedLong fm_deedKind fm_kept fm_tape fm_must fm_least fm_pin fm_ways fm_verdict fm_row fm_official fm_aside fm_worth fm_out) U.heap ∧ va_K (dC, dI) vwCl (MT km) U ∧ va_D (fun _ => True) (MWn h0 mr km (mi 0) (mi 1) (mi 2) (mi 3) (mi 4) (mi 5) (mi 6) (mi 7) (mi 10) (mi 17) (mi 23) (mi 24) (mi 26) (mi 27) (mi 28) (mi 29) (mi 30) (mi 31) (mi 32) (mi 33) (mi 37) (mi 41) (mi 42) (mi 43) (mi 44) (mi 45) (mi 47) (mi 48) (mi 49) (mi 50) (mi 51) (mi 54) (mi 56) fm_trust fm_letter fm_reportPlace fm_reportKind fm_struck fm_reportMonth fm_reportDay fm_reportKnown fm_deedMonth fm_deedDay fm_deedLong fm_deedKind fm_kept fm_tape fm_must fm_least fm_pin fm_ways fm_verdict fm_row fm_official fm_aside fm_worth fm_out))) (va_Qi (fun (r : Int32) (u : Unit) => gi r (-2147483648) 2147483647) (fun _ t => ∃ (z3 : Nat → Int32) (z4 : Nat → Int32), pb_sX12_duesOn dC dI (va_A (MWn h0 mr km (mi 0) (mi 1) (mi 2) (mi 3) (mi 4) (mi 5) (mi 6) (mi 7) (mi 10) (mi 17) (mi 23) (mi 24) (mi 26) (mi 27) (mi 28) (mi 29) (mi 30) (mi 31) (mi 32) (mi 33) (mi 37) (mi 41) (mi 42) (mi 43) (mi 44) (mi 45) (mi 47) (mi 48) (mi 49) (mi 50) (mi 51) (mi 54) (mi 56) fm_trust fm_letter fm_reportPlace fm_reportKind fm_struck fm_reportMonth fm_reportDay fm_reportKnown fm_deedMonth fm_deedDay fm_deedLong fm_deedKind fm_kept fm_tape fm_must fm_least fm_pin fm_ways fm_verdict fm_row fm_official fm_aside fm_worth fm_out) sz) h0 mi mr km fm_must fm_least fm_pin fm_ways fm_deedMonth fm_deedLong fm_deedKind fm_deedDay fm_trust fm_letter fm_reportPlace fm_reportKind fm_struck fm_reportMonth fm_reportDay fm_reportKnown fm_kept fm_tape fm_verdict fm_row fm_official fm_aside fm_worth fm_out p1 p2 z3 z4 t) (va_A (MWn h0 mr km (mi 0) (mi 1) (mi 2) (mi 3) (mi 4) (mi 5) (mi 6) (mi 7) (mi 10) (mi 17) (mi 23) (mi 24) (mi 26) (mi 27) (mi 28) (mi 29) (mi 30) (mi 31) (mi 32) (mi 33) (mi 37) (mi 41) (mi 42) (mi 43) (mi 44) (mi 45) (mi 47) (mi 48) (mi 49) (mi 50) (mi 51) (mi 54) (mi 56) fm_trust fm_letter fm_reportPlace fm_reportKind fm_struck fm_reportMonth fm_reportDay fm_reportKnown fm_deedMonth fm_deedDay fm_deedLong fm_deedKind fm_kept fm_tape fm_must fm_least fm_pin fm_ways fm_verdict fm_row fm_official fm_aside fm_worth fm_out) sz)) 0 0 (va_A (MWn h0 mr km (mi 0) (mi 1) (mi 2) (mi 3) (mi 4) (mi 5) (mi 6) (mi 7) (mi 10) (mi 17) (mi 23) (mi 24) (mi 26) (mi 27) (mi 28) (mi 29) (mi 30) (mi 31) (mi 32) (mi 33) (mi 37) (mi 41) (mi 42) (mi 43) (mi 44) (mi 45) (mi 47) (mi 48) (mi 49) (mi 50) (mi 51) (mi 54) (mi 56) fm_trust fm_letter fm_reportPlace fm_reportKind fm_struck fm_reportMonth fm_reportDay fm_reportKnown fm_deedMonth fm_deedDay fm_deedLong fm_deedKind fm_kept fm_tape fm_must fm_least fm_pin fm_ways fm_verdict fm_row fm_official fm_aside fm_worth fm_out) sz) := by
  refine Met.ofW (cc := cX12_duesOn) (maxL := 4) (ret := (some .int)) (by decide) rfl ?_
  intro p e s m args below meth c s₁ B hml hv
  obtain ⟨rfl, hsz, hP, hK, hD0⟩ := hv
  have hx := B.exec
  have hb := B.bytes
  have hr := B.returns
  have hts := atoms_spec (ws := (.code yX12_duesOn cX12_duesOn 4 (some .int) :: wsGB)) B.pre
  have hown : s.vm.findClass RX12 = some m.cls := findClass_of_methodNamed B.named
  have hlocks := B.notSynchronized
  subst hsz
  have hD := hD0.self (sz := s.heap.size)
  generalize hAe : va_A (MWn h0 mr km (mi 0) (mi 1) (mi 2) (mi 3) (mi 4) (mi 5) (mi 6) (mi 7) (mi 10) (mi 17) (mi 23) (mi 24) (mi 26) (mi 27) (mi 28) (mi 29) (mi 30) (mi 31) (mi 32) (mi 33) (mi 37) (mi 41) (mi 42) (mi 43) (mi 44) (mi 45) (mi 47) (mi 48) (mi 49) (mi 50) (mi 51) (mi 54) (mi 56) fm_trust fm_letter fm_reportPlace fm_reportKind fm_struck fm_reportMonth fm_reportDay fm_reportKnown fm_deedMonth fm_deedDay fm_deedLong fm_deedKind fm_kept fm_tape fm_must fm_least fm_pin fm_ways fm_verdict fm_row fm_official fm_aside fm_worth fm_out) s.heap.size = A at hD ⊢
  have hA : ∀ q : Nat, s.heap.size ≤ q → A q := fun q h => by rw [← hAe]; exact Or.inr h
  have hS : va_S A s.heap s.heap [] := va_S.rf
  have hl := lv_entry ([.ref h0, .int p1, .int p2]) (n := 4) (Nat.le_of_ble_eq_true rfl)
  rw [lg_entry_eq]
  generalize (lg_sl ([.ref h0, .int p1, .int p2]) ++ List.replicate (4 - (lg_sl ([.ref h0, .int p1, .int p2])).length) Slot.unset).toArray = ls at hl ⊢
  have hl : lv_has ls 4 [(0, .ref h0), (1, .int p1), (2, .int p2)] := hl
  refine lv_iload_n hx hb dX12_duesOn_0 rfl (lv_at hl 2 rfl) ?_
  refine lv_aload_n hx hb dX12_duesOn_1 rfl (lv_at hl 0 rfl) ?_
  refine lv_iload_n hx hb dX12_duesOn_2 rfl (lv_at hl 1 rfl) ?_
  refine va_calli (va_runV (As := [.int p1]) (rest := [.int p2]) ⟨hx, hb, hml, hown, hts⟩ (sX12_behindOf l dC dI h0 mi mr km fm_deedMonth fm_deedLong fm_deedKind fm_trust fm_letter fm_reportPlace fm_reportKind fm_struck fm_reportMonth fm_reportDay fm_reportKnown fm_deedDay fm_kept fm_tape fm_must fm_least fm_pin fm_ways fm_verdict fm_row fm_official fm_aside fm_worth fm_out p1 gmi_0 gmi_1 gmi_2 gmi_4 gmi_7 gmi_10 gmi_17 gmi_23 gmi_24 gmi_26 gmi_29 gmi_30 gmi_33 gmi_37 gmi_41 gmi_50 gmi_51 gmi_56 gfm_deedMonth gfm_deedLong gp1) (cwV 1 hts (gz_gV mGB_463 mGB_464 mGB_465 mGB_1 mGB_466 goodGB) rfl rfl rfl (by decide +kernel) ⟨Nat.le_of_ble_eq_true rfl, Nat.le_of_ble_eq_true rfl⟩) ⟨bl_R, mw_recv hK hP, fun U hU hW => ⟨rfl, by rw [hU]; exact hP, va_K.moved hW.alike hK⟩⟩ rfl rfl hl.1 rfl (lv_room (Nat.le_of_ble_eq_true rfl)) dX12_duesOn_3 ⟨Nat.zero_le _, Nat.zero_le _⟩) hS (fun q _ h => h.elim) (fun q h => h.elim) (fun r_21 u t H1 locs ht hvm hw hB hz1 hk1 hS => ?_)
  have hP := gz_keep hP hk1
  generalize H1 = H at hP hS ⊢
  have gr_21 : gi r_21 0 600 := hw
  refine lv_isub hx hb dX12_duesOn_6 ?_
  refine lv_topi (fun x_22 ex_22 => ?_)
  refine lv_istore_n (lv' := [(3, .int x_22), (0, .ref h0), (1, .int p1), (2, .int p2)]) hx hb dX12_duesOn_7 rfl hl (by decide) rfl (fun ls hl => ?_)
  refine lv_iload_n hx hb dX12_duesOn_8 rfl (lv_at hl 0 rfl) ?_
  refine lv_if_ge (tgt := 16) hx hb dX12_duesOn_9 (by decide) (fun c_23 => ?_) (fun c_23 => ?_)
  · have g_24 : gi x_22 0 2147483647 := gi_le_r c_23 (gi_c 0 0 (by decide)) (gi_any x_22)
    refine lv_aload_n hx hb dX12_duesOn_16 rfl (lv_at hl 1 rfl) ?_
    refine lv_aload_n hx hb dX12_duesOn_17 rfl (lv_at hl 1 rfl) ?_
    refine lv_iload_n hx hb dX12_duesOn_18 rfl (lv_at hl 2 rfl) ?_
    refine va_calli (va_runV (As := [.int p1]) (rest := [.ref h0]) ⟨hx, hb, hml, hown, hts⟩ (sX12_monthOf l dC dI h0 mi mr km fm_deedMonth fm_deedLong fm_deedKind fm_trust fm_letter fm_reportPlace fm_reportKind fm_struck fm_reportMonth fm_reportDay fm_reportKnown fm_deedDay fm_kept fm_tape fm_must fm_least fm_pin fm_ways fm_verdict fm_row fm_official fm_aside fm_worth fm_out p1 gmi_0 gmi_1 gmi_2 gmi_4 gmi_7 gmi_10 gmi_17 gmi_23 gmi_24 gmi_26 gmi_29 gmi_30 gmi_33 gmi_37 gmi_41 gmi_50 gmi_51 gmi_56 gfm_deedMonth gfm_deedLong gp1 hdd) (cwV 1 hts (gz_gV mGB_459 mGB_460 mGB_461 mGB_1 mGB_462 goodGB) rfl rfl rfl (by decide +kernel) ⟨Nat.le_of_ble_eq_true rfl, Nat.le_of_ble_eq_true rfl⟩) ⟨bl_R, mw_recv hK hP, fun U hU hW => ⟨rfl, by rw [hU]; exact hP, va_K.moved hW.alike hK⟩⟩ rfl rfl hl.1 rfl (lv_room (Nat.le_of_ble_eq_true rfl)) dX12_duesOn_19 ⟨Nat.zero_le _, Nat.zero_le _⟩) hS (fun q _ h => h.elim) (fun q h => h.elim) (fun r_25 u t H1 locs ht hvm hw hB hz1 hk1 hS => ?_)
    have hP := gz_keep hP hk1
    generalize H1 = H at hP hS ⊢
    have gr_25 : gi r_25 0 23 := hw
    refine lv_aload_n hx hb dX12_duesOn_22 rfl (lv_at hl 1 rfl) ?_
    refine va_get (D := (dC, dI)) (ci := 12) (v := .ref (mr 9)) (C := RX12) (T := TX12) (N := 57) hx hb hts (fun w h => List.mem_cons_of_mem _ (jnGB_X12 w h)) hown hK hP 0 rfl rfl 19 (by decide) (hts _ (List.mem_cons_of_mem _ mGB_20)) (fun _ h9 => h9) rfl dX12_duesOn_23 ?_
    refine lv_iload_n hx hb dX12_duesOn_26 rfl (lv_at hl 2 rfl) ?_
    refine va_iald hx hb hK hP 10 9 rfl rfl (gi_in gp1 (by decide)) dX12_duesOn_27 ?_
    refine lv_topi (fun x_26 ex_26 => ?_)
    refine lv_iload_n hx hb dX12_duesOn_28 rfl (lv_at hl 0 rfl) ?_
    have hFc := gz_fullF hD hS hA
    refine va_calli (va_runV (As := [.int r_25, .int x_26, .int x_22]) (rest := []) ⟨hx, hb, hml, hown, hts⟩ (sX12_fallsOn l dC dI H.size h0 mi mr km fm_must fm_least fm_pin fm_ways fm_trust fm_letter fm_reportPlace fm_reportKind fm_struck fm_reportMonth fm_reportDay fm_reportKnown fm_deedMonth fm_deedDay fm_deedLong fm_deedKind fm_kept fm_tape fm_verdict fm_row fm_official fm_aside fm_worth fm_out r_25 x_26 x_22 gmi_0 gmi_1 gmi_2 gmi_4 gmi_7 gmi_10 gmi_17 gmi_23 gmi_24 gmi_26 gmi_29 gmi_30 gmi_33 gmi_37 gmi_41 gmi_50 gmi_51 gmi_56 gr_25) (cwV 3 hts (gz_gV mGB_488 mGB_489 mGB_490 mGB_1 mGB_491 goodGB) rfl rfl rfl (by decide +kernel) ⟨Nat.le_of_ble_eq_true rfl, Nat.le_of_ble_eq_true rfl⟩) ⟨bl_W, mw_recv hK hP, fun U hU hW => ⟨rfl, by rw [hU], by rw [hU]; exact hP, va_K.moved hW.alike hK, hD.weaken (fun _ _ _ _ => trivial)⟩⟩ rfl rfl hl.1 rfl (lv_room (Nat.le_of_ble_eq_true rfl)) dX12_duesOn_29 ⟨Nat.zero_le _, Nat.zero_le _⟩) hS (fun q _ h => hFc q h) hFc (fun r_27 u t H1 locs ht hvm hw hB hz1 hk1 hS => ?_)
    obtain ⟨f_28, f_29, hB⟩ := hB
    obtain ⟨hP1, hD1⟩ := hB
    rw [ht] at hP1
    have hD : va_D A (MWn h0 mr km (mi 0) (mi 1) (mi 2) (mi 3) (mi 4) (mi 5) (mi 6) (mi 7) (mi 10) (mi 17) (mi 23) (mi 24) (mi 26) (mi 27) (mi 28) (mi 29) (mi 30) (mi 31) (mi 32) (mi 33) (mi 37) (mi 41) (mi 42) (mi 43) (mi 44) (mi 45) (mi 47) (mi 48) (mi 49) (mi 50) (mi 51) (mi 54) (mi 56) fm_trust fm_letter fm_reportPlace fm_reportKind fm_struck fm_reportMonth fm_reportDay fm_reportKnown fm_deedMonth fm_deedDay fm_deedLong fm_deedKind fm_kept fm_tape fm_must fm_least f_28 f_29 fm_verdict fm_row fm_official fm_aside fm_worth fm_out) := gz_fullD hFc hD1
    have hP : va_P (dC, dI) vwCl (MWn h0 mr km (mi 0) (mi 1) (mi 2) (mi 3) (mi 4) (mi 5) (mi 6) (mi 7) (mi 10) (mi 17) (mi 23) (mi 24) (mi 26) (mi 27) (mi 28) (mi 29) (mi 30) (mi 31) (mi 32) (mi 33) (mi 37) (mi 41) (mi 42) (mi 43) (mi 44) (mi 45) (mi 47) (mi 48) (mi 49) (mi 50) (mi 51) (mi 54) (mi 56) fm_trust fm_letter fm_reportPlace fm_reportKind fm_struck fm_reportMonth fm_reportDay fm_reportKnown fm_deedMonth fm_deedDay fm_deedLong fm_deedKind fm_kept fm_tape fm_must fm_least f_28 f_29 fm_verdict fm_row fm_official fm_aside fm_worth fm_out) H1 := hP1
    generalize H1 = H at hP hS ⊢
    exact W.iret (v := r_27) hx hb hr (fun t ht hW => ⟨⟨r_27, (), rfl, (gi_any r_27), f_28, f_29, by rw [ht]; exact hP, hD⟩, hS.F ht⟩) hS.2.2 dX12_duesOn_32
  · have g_30 : gi x_22 (-2147483648) (-1) := gi_lt_l (Int32.not_le.mp c_23) (gi_any x_22) (gi_c 0 0 (by decide)) (by decide)
    refine lv_iconst (v := 0) hx hb dX12_duesOn_12 (by decide) ?_
    refine lv_goto (tgt := 32) hx hb dX12_duesOn_13 (by decide) ?_
    exact W.iret (v := 0) hx hb hr (fun t ht hW => ⟨⟨0, (), rfl, (gi_any 0), fm_pin, fm_ways, by rw [ht]; exact hP, hD⟩, hS.F ht⟩) hS.2.2 dX12_duesOn_32
theorem dX12_dueSpanOf_0 : decode cX12_dueSpanOf 0 = .ok (.bipush 29, 2) := by decide +kernel
theorem dX12_dueSpanOf_2 : decode cX12_dueSpanOf 2 = .ok (.aload_n 0, 1) := by decide +kernel
theorem dX12_dueSpanOf_3 : decode cX12_dueSpanOf 3 = .ok (.iload_n 1, 1) := by decide +kernel
theorem dX12_dueSpanOf_4 : decode cX12_dueSpanOf 4 = .ok (.invokevirtual 438, 3) := by decide +kernel
theorem dX12_dueSpanOf_7 : decode cX12_dueSpanOf 7 = .ok (.imul, 1) := by decide +kernel
theorem dX12_dueSpanOf_8 : decode cX12_dueSpanOf 8 = .ok (.aload_n 0, 1) := by decide +kernel
theorem dX12_dueSpanOf_9 : decode cX12_dueSpanOf 9 = .ok (.iload_n 1, 1) := by decide +kernel
theorem dX12_dueSpanOf_10 : decode cX12_dueSpanOf 10 = .ok (.invokevirtual 441, 3) := by decide +kernel
theorem dX12_dueSpanOf_13 : decode cX12_dueSpanOf 13 = .ok (.iadd, 1) := by decide +kernel
theorem dX12_dueSpanOf_14 : decode cX12_dueSpanOf 14 = .ok (.istore_n 3, 1) := by decide +kernel
theorem dX12_dueSpanOf_15 : decode cX12_dueSpanOf 15 = .ok (.aload_n 0, 1) := by decide +kernel
theorem dX12_dueSpanOf_16 : decode cX12_dueSpanOf 16 = .ok (.iload_n 1, 1) := by decide +kernel
theorem dX12_dueSpanOf_17 : decode cX12_dueSpanOf 17 = .ok (.invokevirtual 438, 3) := by decide +kernel
theorem dX12_dueSpanOf_20 : decode cX12_dueSpanOf 20 = .ok (.bipush 30, 2) := by decide +kernel
theorem dX12_dueSpanOf_22 : decode cX12_dueSpanOf 22 = .ok (.iadd, 1) := by decide +kernel
theorem dX12_dueSpanOf_23 : decode cX12_dueSpanOf 23 = .ok (.istore 4, 2) := by decide +kernel
theorem dX12_dueSpanOf_25 : decode cX12_dueSpanOf 25 = .ok (.iconst 0, 1) := by decide +kernel
theorem dX12_dueSpanOf_26 : decode cX12_dueSpanOf 26 = .ok (.istore 5, 2) := by decide +kernel
theorem dX12_dueSpanOf_28 : decode cX12_dueSpanOf 28 = .ok (.iload 5, 2) := by decide +kernel
theorem dX12_dueSpanOf_30 : decode cX12_dueSpanOf 30 = .ok (.iload 4, 2) := by decide +kernel
theorem dX12_dueSpanOf_32 : decode cX12_dueSpanOf 32 = .ok (.if_icmp .gt 40, 3) := by decide +kernel
theorem dX12_dueSpanOf_35 : decode cX12_dueSpanOf 35 = .ok (.iload_n 3, 1) := by decide +kernel
theorem dX12_dueSpanOf_36 : decode cX12_dueSpanOf 36 = .ok (.iload_n 2, 1) := by decide +kernel
theorem dX12_dueSpanOf_37 : decode cX12_dueSpanOf 37 = .ok (.ifCond .ne 8, 3) := by decide +kernel
theorem dX12_dueSpanOf_40 : decode cX12_dueSpanOf 40 = .ok (.iload 5, 2) := by decide +kernel
theorem dX12_dueSpanOf_42 : decode cX12_dueSpanOf 42 = .ok (.goto 8, 3) := by decide +kernel
theorem dX12_dueSpanOf_45 : decode cX12_dueSpanOf 45 = .ok (.iload 4, 2) := by decide +kernel
theorem dX12_dueSpanOf_47 : decode cX12_dueSpanOf 47 = .ok (.iload 5, 2) := by decide +kernel
theorem dX12_dueSpanOf_49 : decode cX12_dueSpanOf 49 = .ok (.isub, 1) := by decide +kernel
theorem dX12_dueSpanOf_50 : decode cX12_dueSpanOf 50 = .ok (.iadd, 1) := by decide +kernel
theorem dX12_dueSpanOf_51 : decode cX12_dueSpanOf 51 = .ok (.istore 6, 2) := by decide +kernel
theorem dX12_dueSpanOf_53 : decode cX12_dueSpanOf 53 = .ok (.aload_n 0, 1) := by decide +kernel
theorem dX12_dueSpanOf_54 : decode cX12_dueSpanOf 54 = .ok (.iload_n 1, 1) := by decide +kernel
theorem dX12_dueSpanOf_55 : decode cX12_dueSpanOf 55 = .ok (.iload 6, 2) := by decide +kernel
theorem dX12_dueSpanOf_57 : decode cX12_dueSpanOf 57 = .ok (.invokevirtual 444, 3) := by decide +kernel
theorem dX12_dueSpanOf_60 : decode cX12_dueSpanOf 60 = .ok (.ifCond .le 6, 3) := by decide +kernel
theorem dX12_dueSpanOf_63 : decode cX12_dueSpanOf 63 = .ok (.iload 6, 2) := by decide +kernel
theorem dX12_dueSpanOf_65 : decode cX12_dueSpanOf 65 = .ok (.ireturn, 1) := by decide +kernel
theorem dX12_dueSpanOf_66 : decode cX12_dueSpanOf 66 = .ok (.iinc 5 1, 3) := by decide +kernel
theorem dX12_dueSpanOf_69 : decode cX12_dueSpanOf 69 = .ok (.goto (-41), 3) := by decide +kernel
theorem dX12_dueSpanOf_72 : decode cX12_dueSpanOf 72 = .ok (.bipush (-2), 2) := by decide +kernel
theorem dX12_dueSpanOf_74 : decode cX12_dueSpanOf 74 = .ok (.ireturn, 1) := by decide +kernel
set_option maxHeartbeats 4000000 in
set_option maxRecDepth 100000 in
theorem lp_sX12_dueSpanOf {p : Program} {l : Launch} {e : Env} {R : Room} {s : State} {m : MethodId} {args : Array Value} {below : List Frame} {meth : Method} {c : Code} {Q : State → Prop} {A : Nat → Prop} {cells slots : Nat} {dC : Nat → ClassId} {dI : Nat → Nat → Nat} (h0 : Nat) (mi : Nat → Int32) (mr : Nat → Nat) (km : Nat → ClassId) (fm_must : Nat → Int32) (fm_least : Nat → Int32) (fm_pin : Nat → Int32) (fm_ways : Nat → Int32) (fm_deedMonth : Nat → Int32) (fm_deedLong : Nat → Int32) (fm_deedKind : Nat → Int32) (fm_deedDay : Nat → Int32) (fm_trust : Nat → Int32) (fm_letter : Nat → Int32) (fm_reportPlace : Nat → Int32) (fm_reportKind : Nat → Int32) (fm_struck : Nat → Int32) (fm_reportMonth : Nat → Int32) (fm_reportDay : Nat → Int32) (fm_reportKnown : Nat → Int32) (fm_kept : Nat → Int32) (fm_tape : Nat → Int32) (fm_verdict : Nat → Int32) (fm_row : Nat → Int32) (fm_official : Nat → Int32) (fm_aside : Nat → Int32) (fm_worth : Nat → Int32) (fm_out : Nat → Int32) (p1 : Int32) (p2 : Int32) (gmi_0 : gi (mi 0) 0 24) (gmi_1 : gi (mi 1) 0 5) (gmi_2 : gi (mi 2) 0 5) (gmi_4 : gi (mi 4) 0 1) (gmi_7 : gi (mi 7) 0 6) (gmi_10 : gi (mi 10) 0 24) (gmi_17 : gi (mi 17) 0 8) (gmi_23 : gi (mi 23) 0 300) (gmi_24 : gi (mi 24) 0 1) (gmi_26 : gi (mi 26) 0 1600) (gmi_29 : gi (mi 29) 0 1600) (gmi_30 : gi (mi 30) 0 1600) (gmi_33 : gi (mi 33) 0 1) (gmi_37 : gi (mi 37) 0 1) (gmi_41 : gi (mi 41) 0 24) (gmi_50 : gi (mi 50) 0 1) (gmi_51 : gi (mi 51) 0 1) (gmi_56 : gi (mi 56) 0 80) (gfm_deedMonth : ga fm_deedMonth 8 0 23) (gfm_deedLong : ga fm_deedLong 8 0 600) (gp1 : gi p1 0 7) (hdd : ∀ j : Nat, j < 8 → ((fm_deedKind j).toInt ≠ 0 ∨ (fm_deedMonth j).toInt + (fm_deedLong j).toInt ≤ 23)) (hx : p.tables.exec = Jvm.exec) (hb : c.code = cX12_dueSpanOf) (hml : c.maxLocals = 7) (hown : s.vm.findClass RX12 = some m.cls) (hts : ∀ w ∈ ((.code yX12_dueSpanOf cX12_dueSpanOf 7 (some .int) :: wsGB) : List Cond), w.before args s = true) (hK : va_K (dC, dI) vwCl (MT km) s) (hA : ∀ q : Nat, s.heap.size ≤ q → A q) (hRf : 7 ≤ R.frames) (hRl : 170 ≤ R.locals) (hRc : cells ≤ R.cells) (hRs : slots ≤ R.slots) (kr74 : ∀ (v : Int32) (z3 : Nat → Int32) (z4 : Nat → Int32) (H : Heap) (locs : List Loc) (ls : Array Slot), gi v (-2) (-2) → va_P (dC, dI) vwCl (MWn h0 mr km (mi 0) (mi 1) (mi 2) (mi 3) (mi 4) (mi 5) (mi 6) (mi 7) (mi 10) (mi 17) (mi 23) (mi 24) (mi 26) (mi 27) (mi 28) (mi 29) (mi 30) (mi 31) (mi 32) (mi 33) (mi 37) (mi 41) (mi 42) (mi 43) (mi 44) (mi 45) (mi 47) (mi 48) (mi 49) (mi 50) (mi 51) (mi 54) (mi 56) fm_trust fm_letter fm_reportPlace fm_reportKind fm_struck fm_reportMonth fm_reportDay fm_reportKnown fm_deedMonth fm_deedDay fm_deedLong fm_deedKind fm_kept fm_tape fm_must fm_least z3 z4 fm_verdict fm_row fm_official fm_aside fm_worth fm_out) H → va_D A (MWn h0 mr km (mi 0) (mi 1) (mi 2) (mi 3) (mi 4) (mi 5) (mi 6) (mi 7) (mi 10) (mi 17) (mi 23) (mi 24) (mi 26) (mi 27) (mi 28) (mi 29) (mi 30) (mi 31) (mi 32) (mi 33) (mi 37) (mi 41) (mi 42) (mi 43) (mi 44) (mi 45) (mi 47) (mi 48) (mi 49) (mi 50) (mi 51) (mi 54) (mi 56) fm_trust fm_letter fm_reportPlace fm_reportKind fm_struck fm_reportMonth fm_reportDay fm_reportKnown fm_deedMonth fm_deedDay fm_deedLong fm_deedKind fm_kept fm_tape fm_must fm_least z3 z4 fm_verdict fm_row fm_official fm_aside fm_worth fm_out) → va_S A s.heap H locs → lv_has ls 7 [] → W p l e R s m args below meth c H locs cells slots Q (F0 m 74 ls [.int v])) (kr65 : ∀ (v : Int32) (z3 : Nat → Int32) (z4 : Nat → Int32) (H : Heap) (locs : List Loc) (ls : Array Slot), gi v 0 1320 → va_P (dC, dI) vwCl (MWn h0 mr km (mi 0) (mi 1) (mi 2) (mi 3) (mi 4) (mi 5) (mi 6) (mi 7) (mi 10) (mi 17) (mi 23) (mi 24) (mi 26) (mi 27) (mi 28) (mi 29) (mi 30) (mi 31) (mi 32) (mi 33) (mi 37) (mi 41) (mi 42) (mi 43) (mi 44) (mi 45) (mi 47) (mi 48) (mi 49) (mi 50) (mi 51) (mi 54) (mi 56) fm_trust fm_letter fm_reportPlace fm_reportKind fm_struck fm_reportMonth fm_reportDay fm_reportKnown fm_deedMonth fm_deedDay fm_deedLong fm_deedKind fm_kept fm_tape fm_must fm_least z3 z4 fm_verdict fm_row fm_official fm_aside fm_worth fm_out) H → va_D A (MWn h0 mr km (mi 0) (mi 1) (mi 2) (mi 3) (mi 4) (mi 5) (mi 6) (mi 7) (mi 10) (mi 17) (mi 23) (mi 24) (mi 26) (mi 27) (mi 28) (mi 29) (mi 30) (mi 31) (mi 32) (mi 33) (mi 37) (mi 41) (mi 42) (mi 43) (mi 44) (mi 45) (mi 47) (mi 48) (mi 49) (mi 50) (mi 51) (mi 54) (mi 56) fm_trust fm_letter fm_reportPlace fm_reportKind fm_struck fm_reportMonth fm_reportDay fm_reportKnown fm_deedMonth fm_deedDay fm_deedLong fm_deedKind fm_kept fm_tape fm_must fm_least z3 z4 fm_verdict fm_row fm_official fm_aside fm_worth fm_out) → va_S A s.heap H locs → lv_has ls 7 [] → W p l e R s m args below meth c H locs cells slots Q (F0 m 65 ls [.int v])) : ∀ z : Nat, (∀ (v3 : Int32) (v4 : Int32) (v5 : Int32) (z3 : Nat → Int32) (z4 : Nat → Int32) (H : Heap) (locs : List Loc) (ls : Array Slot), gi v3 0 1267 → gi v4 30 53 → gi v5 0 72 → 145 + (-2) * v5.toInt < (z : Int) → va_P (dC, dI) vwCl (MWn h0 mr km (mi 0) (mi 1) (mi 2) (mi 3) (mi 4) (mi 5) (mi 6) (mi 7) (mi 10) (mi 17) (mi 23) (mi 24) (mi 26) (mi 27) (mi 28) (mi 29) (mi 30) (mi 31) (mi 32) (mi 33) (mi 37) (mi 41) (mi 42) (mi 43) (mi 44) (mi 45) (mi 47) (mi 48) (mi 49) (mi 50) (mi 51) (mi 54) (mi 56) fm_trust fm_letter fm_reportPlace fm_reportKind fm_struck fm_reportMonth fm_reportDay fm_reportKnown fm_deedMonth fm_deedDay fm_deedLong fm_deedKind fm_kept fm_tape fm_must fm_least z3 z4 fm_verdict fm_row fm_official fm_aside fm_worth fm_out) H → va_D A (MWn h0 mr km (mi 0) (mi 1) (mi 2) (mi 3) (mi 4) (mi 5) (mi 6) (mi 7) (mi 10) (mi 17) (mi 23) (mi 24) (mi 26) (mi 27) (mi 28) (mi 29) (mi 30) (mi 31) (mi 32) (mi 33) (mi 37) (mi 41) (mi 42) (mi 43) (mi 44) (mi 45) (mi 47) (mi 48) (mi 49) (mi 50) (mi 51) (mi 54) (mi 56) fm_trust fm_letter fm_reportPlace fm_reportKind fm_struck fm_reportMonth fm_reportDay fm_reportKnown fm_deedMonth fm_deedDay fm_deedLong fm_deedKind fm_kept fm_tape fm_must fm_least z3 z4 fm_verdict fm_row fm_official fm_aside fm_worth fm_out) → va_S A s.heap H locs → lv_has ls 7 [(0, .ref h0), (1, .int p1), (2, .int p2), (3, .int v3), (4, .int v4), (5, .int v5)] → W p l e R s m args below meth c H locs cells slots Q (F0 m 28 ls [])) := by
  intro z
  induction z with
  | zero =>
    intro v3 v4 v5 z3 z4 H locs ls gv3 gv4 gv5 hmu hP hD hS hl
    exact absurd hmu (by have hv51 := gv5.1; have hv52 := gv5.2; omega)
  | succ z ih =>
      intro v3 v4 v5 z3 z4 H locs ls gv3 gv4 gv5 hmu hP hD hS hl
      refine lv_iload hx hb dX12_dueSpanOf_28 (lv_at hl 5 rfl) ?_
      refine lv_iload hx hb dX12_dueSpanOf_30 (lv_at hl 4 rfl) ?_
      refine lv_icmp_gt (tgt := 72) hx hb dX12_dueSpanOf_32 (by decide) (fun c_551 => ?_) (fun c_551 => ?_)
      · have g_552 : gi v5 31 72 := gi_lt_r c_551 gv4 gv5 (by decide)
        refine lv_bipush (v := (-2)) hx hb dX12_dueSpanOf_72 (by decide) ?_
        exact kr74 (-2) z3 z4 _ _ _ (gi_c (-2) (-2) (by decide)) hP hD hS (lv_sub hl [] rfl)
      · have g_553 : gi v5 0 53 := gi_le_l (Int32.not_lt.mp c_551) gv5 gv4
        refine lv_iload_n hx hb dX12_dueSpanOf_35 rfl (lv_at hl 3 rfl) ?_
        refine lv_iload_n hx hb dX12_dueSpanOf_36 rfl (lv_at hl 2 rfl) ?_
        refine lv_if_ne (tgt := 45) hx hb dX12_dueSpanOf_37 (by decide) (fun c_554 => ?_) (fun c_554 => ?_)
        · refine lv_iload hx hb dX12_dueSpanOf_45 (lv_at hl 4 rfl) ?_
          refine lv_iload hx hb dX12_dueSpanOf_47 (lv_at hl 5 rfl) ?_
          refine lv_isub hx hb dX12_dueSpanOf_49 ?_
          refine lv_topi (fun x_555 ex_555 => ?_)
          have gx_555 : gi x_555 0 53 := gi_subrel ex_555 (Int32.le_iff_toInt_le.mp (Int32.not_lt.mp c_551)) gv4 g_553 (by decide)
          refine lv_iadd hx hb dX12_dueSpanOf_50 ?_
          refine lv_topi (fun x_556 ex_556 => ?_)
          have gx_556 : gi x_556 0 1320 := gi_add ex_556 gv3 gx_555 (by decide)
          refine lv_istore (lv' := [(6, .int x_556), (0, .ref h0), (1, .int p1), (2, .int p2), (3, .int v3), (4, .int v4), (5, .int v5)]) hx hb dX12_dueSpanOf_51 hl (by decide) rfl (fun ls hl => ?_)
          refine lv_aload_n hx hb dX12_dueSpanOf_53 rfl (lv_at hl 1 rfl) ?_
          refine lv_iload_n hx hb dX12_dueSpanOf_54 rfl (lv_at hl 2 rfl) ?_
          refine lv_iload hx hb dX12_dueSpanOf_55 (lv_at hl 0 rfl) ?_
          have hFc := gz_fullF hD hS hA
          refine va_calli (va_runV (As := [.int p1, .int x_556]) (rest := []) ⟨hx, hb, hml, hown, hts⟩ (sX12_duesOn l dC dI H.size h0 mi mr km fm_must fm_least z3 z4 fm_deedMonth fm_deedLong fm_deedKind fm_deedDay fm_trust fm_letter fm_reportPlace fm_reportKind fm_struck fm_reportMonth fm_reportDay fm_reportKnown fm_kept fm_tape fm_verdict fm_row fm_official fm_aside fm_worth fm_out p1 x_556 gmi_0 gmi_1 gmi_2 gmi_4 gmi_7 gmi_10 gmi_17 gmi_23 gmi_24 gmi_26 gmi_29 gmi_30 gmi_33 gmi_37 gmi_41 gmi_50 gmi_51 gmi_56 gfm_deedMonth gfm_deedLong gp1 hdd) (cwV 2 hts (gz_gV mGB_484 mGB_485 mGB_486 mGB_1 mGB_487 goodGB) rfl rfl rfl (by decide +kernel) ⟨Nat.le_trans (Nat.le_of_ble_eq_true rfl) hRf, Nat.le_trans (Nat.le_of_ble_eq_true rfl) hRl⟩) ⟨bl_W, mw_recv hK hP, fun U hU hW => ⟨rfl, by rw [hU], by rw [hU]; exact hP, va_K.moved hW.alike hK, hD.weaken (fun _ _ _ _ => trivial)⟩⟩ rfl rfl hl.1 rfl (lv_room (Nat.le_of_ble_eq_true rfl)) dX12_dueSpanOf_57 ⟨hRc, hRs⟩) hS (fun q _ h => hFc q h) hFc (fun r_557 u t H1 locs ht hvm hw hB hz1 hk1 hS => ?_)
          obtain ⟨f_558, f_559, hB⟩ := hB
          obtain ⟨hP1, hD1⟩ := hB
          rw [ht] at hP1
          have hD : va_D A (MWn h0 mr km (mi 0) (mi 1) (mi 2) (mi 3) (mi 4) (mi 5) (mi 6) (mi 7) (mi 10) (mi 17) (mi 23) (mi 24) (mi 26) (mi 27) (mi 28) (mi 29) (mi 30) (mi 31) (mi 32) (mi 33) (mi 37) (mi 41) (mi 42) (mi 43) (mi 44) (mi 45) (mi 47) (mi 48) (mi 49) (mi 50) (mi 51) (mi 54) (mi 56) fm_trust fm_letter fm_reportPlace fm_reportKind fm_struck fm_reportMonth fm_reportDay fm_reportKnown fm_deedMonth fm_deedDay fm_deedLong fm_deedKind fm_kept fm_tape fm_must fm_least f_558 f_559 fm_verdict fm_row fm_official fm_aside fm_worth fm_out) := gz_fullD hFc hD1
          have hP : va_P (dC, dI) vwCl (MWn h0 mr km (mi 0) (mi 1) (mi 2) (mi 3) (mi 4) (mi 5) (mi 6) (mi 7) (mi 10) (mi 17) (mi 23) (mi 24) (mi 26) (mi 27) (mi 28) (mi 29) (mi 30) (mi 31) (mi 32) (mi 33) (mi 37) (mi 41) (mi 42) (mi 43) (mi 44) (mi 45) (mi 47) (mi 48) (mi 49) (mi 50) (mi 51) (mi 54) (mi 56) fm_trust fm_letter fm_reportPlace fm_reportKind fm_struck fm_reportMonth fm_reportDay fm_reportKnown fm_deedMonth fm_deedDay fm_deedLong fm_deedKind fm_kept fm_tape fm_must fm_least f_558 f_559 fm_verdict fm_row fm_official fm_aside fm_worth fm_out) H1 := hP1
          generalize H1 = H at hP hS ⊢
          refine lv_if_le (tgt := 66) hx hb dX12_dueSpanOf_60 (by decide) (fun c_560 => ?_) (fun c_560 => ?_)
          · have g_561 : gi r_557 (-2147483648) 0 := gi_le_l c_560 (gi_any r_557) (gi_c 0 0 (by decide))
            obtain ⟨x_562, ex_562⟩ : ∃ y : Int32, y = v5 + 1 := ⟨_, rfl⟩
            have gx_562 : gi x_562 1 54 := gi_add ex_562 g_553 (gi_c 1 1 (by decide)) (by decide)
            refine lv_iinc (v := x_562) (lv' := [(5, .int x_562), (6, .int x_556), (0, .ref h0), (1, .int p1), (2, .int p2), (3, .int v3), (4, .int v4)]) hx hb dX12_dueSpanOf_66 hl (k := 6) rfl (by rw [ex_562]; rfl) (by decide) rfl (fun ls hl => ?_)
            refine lv_goto (tgt := 28) hx hb dX12_dueSpanOf_69 (by decide) ?_
            exact ih v3 v4 x_562 f_558 f_559 _ _ _ gv3 gv4 (gi_w gx_562 (by decide)) (by have av5 := gv5.1; have bv5 := gv5.2; have qgx_562 := gx_562.1; have rgx_562 := gx_562.2; have igx_562 : x_562.toInt = v5.toInt + 1 := (by have hc1 : (1 : Int32).toInt = 1 := (by decide); have h9 := gi_addI ex_562 (by have h1 := g_553.1; have h2 := (gi_c 1 1 (by decide)).1; have h3 := g_553.2; have h4 := (gi_c 1 1 (by decide)).2; omega) (by have h1 := g_553.1; have h2 := (gi_c 1 1 (by decide)).1; have h3 := g_553.2; have h4 := (gi_c 1 1 (by decide)).2; omega); rw [hc1] at h9; exact h9); have qgv5 := g_553.1; have rgv5 := g_553.2; omega) hP hD hS (lv_sub hl [2, 3, 4, 5, 6, 0] rfl)
          · have g_563 : gi r_557 1 2147483647 := gi_lt_r (Int32.not_le.mp c_560) (gi_c 0 0 (by decide)) (gi_any r_557) (by decide)
            refine lv_iload hx hb dX12_dueSpanOf_63 (lv_at hl 0 rfl) ?_
            exact kr65 x_556 f_558 f_559 _ _ _ gx_556 hP hD hS (lv_sub hl [] rfl)
        · have g_564 : gi p2 0 0 := gi_eq c_554 (gi_c 0 0 (by decide))
          refine lv_iload hx hb dX12_dueSpanOf_40 (lv_at hl 5 rfl) ?_
          refine lv_goto (tgt := 50) hx hb dX12_dueSpanOf_42 (by decide) ?_
          refine lv_iadd hx hb dX12_dueSpanOf_50 ?_
          refine lv_topi (fun x_565 ex_565 => ?_)
          have gx_565 : gi x_565 0 1320 := gi_add ex_565 gv3 g_553 (by decide)
          refine lv_istore (lv' := [(6, .int x_565), (0, .ref h0), (1, .int p1), (2, .int p2), (3, .int v3), (4, .int v4), (5, .int v5)]) hx hb dX12_dueSpanOf_51 hl (by decide) rfl (fun ls hl => ?_)
          refine lv_aload_n hx hb dX12_dueSpanOf_53 rfl (lv_at hl 1 rfl) ?_
          refine lv_iload_n hx hb dX12_dueSpanOf_54 rfl (lv_at hl 2 rfl) ?_
          refine lv_iload hx hb dX12_dueSpanOf_55 (lv_at hl 0 rfl) ?_
          have hFc := gz_fullF hD hS hA
          refine va_calli (va_runV (As := [.int p1, .int x_565]) (rest := []) ⟨hx, hb, hml, hown, hts⟩ (sX12_duesOn l dC dI H.size h0 mi mr km fm_must fm_least z3 z4 fm_deedMonth fm_deedLong fm_deedKind fm_deedDay fm_trust fm_letter fm_reportPlace fm_reportKind fm_struck fm_reportMonth fm_reportDay fm_reportKnown fm_kept fm_tape fm_verdict fm_row fm_official fm_aside fm_worth fm_out p1 x_565 gmi_0 gmi_1 gmi_2 gmi_4 gmi_7 gmi_10 gmi_17 gmi_23 gmi_24 gmi_26 gmi_29 gmi_30 gmi_33 gmi_37 gmi_41 gmi_50 gmi_51 gmi_56 gfm_deedMonth gfm_deedLong gp1 hdd) (cwV 2 hts (gz_gV mGB_484 mGB_485 mGB_486 mGB_1 mGB_487 goodGB) rfl rfl rfl (by decide +kernel) ⟨Nat.le_trans (Nat.le_of_ble_eq_true rfl) hRf, Nat.le_trans (Nat.le_of_ble_eq_true rfl) hRl⟩) ⟨bl_W, mw_recv hK hP, fun U hU hW => ⟨rfl, by rw [hU], by rw [hU]; exact hP, va_K.moved hW.alike hK, hD.weaken (fun _ _ _ _ => trivial)⟩⟩ rfl rfl hl.1 rfl (lv_room (Nat.le_of_ble_eq_true rfl)) dX12_dueSpanOf_57 ⟨hRc, hRs⟩) hS (fun q _ h => hFc q h) hFc (fun r_566 u t H1 locs ht hvm hw hB hz1 hk1 hS => ?_)
          obtain ⟨f_567, f_568, hB⟩ := hB
          obtain ⟨hP1, hD1⟩ := hB
          rw [ht] at hP1
          have hD : va_D A (MWn h0 mr km (mi 0) (mi 1) (mi 2) (mi 3) (mi 4) (mi 5) (mi 6) (mi 7) (mi 10) (mi 17) (mi 23) (mi 24) (mi 26) (mi 27) (mi 28) (mi 29) (mi 30) (mi 31) (mi 32) (mi 33) (mi 37) (mi 41) (mi 42) (mi 43) (mi 44) (mi 45) (mi 47) (mi 48) (mi 49) (mi 50) (mi 51) (mi 54) (mi 56) fm_trust fm_letter fm_reportPlace fm_reportKind fm_struck fm_reportMonth fm_reportDay fm_reportKnown fm_deedMonth fm_deedDay fm_deedLong fm_deedKind fm_kept fm_tape fm_must fm_least f_567 f_568 fm_verdict fm_row fm_official fm_aside fm_worth fm_out) := gz_fullD hFc hD1
          have hP : va_P (dC, dI) vwCl (MWn h0 mr km (mi 0) (mi 1) (mi 2) (mi 3) (mi 4) (mi 5) (mi 6) (mi 7) (mi 10) (mi 17) (mi 23) (mi 24) (mi 26) (mi 27) (mi 28) (mi 29) (mi 30) (mi 31) (mi 32) (mi 33) (mi 37) (mi 41) (mi 42) (mi 43) (mi 44) (mi 45) (mi 47) (mi 48) (mi 49) (mi 50) (mi 51) (mi 54) (mi 56) fm_trust fm_letter fm_reportPlace fm_reportKind fm_struck fm_reportMonth fm_reportDay fm_reportKnown fm_deedMonth fm_deedDay fm_deedLong fm_deedKind fm_kept fm_tape fm_must fm_least f_567 f_568 fm_verdict fm_row fm_official fm_aside fm_worth fm_out) H1 := hP1
          generalize H1 = H at hP hS ⊢
          refine lv_if_le (tgt := 66) hx hb dX12_dueSpanOf_60 (by decide) (fun c_569 => ?_) (fun c_569 => ?_)
          · have g_570 : gi r_566 (-2147483648) 0 := gi_le_l c_569 (gi_any r_566) (gi_c 0 0 (by decide))
            obtain ⟨x_571, ex_571⟩ : ∃ y : Int32, y = v5 + 1 := ⟨_, rfl⟩
            have gx_571 : gi x_571 1 54 := gi_add ex_571 g_553 (gi_c 1 1 (by decide)) (by decide)
            refine lv_iinc (v := x_571) (lv' := [(5, .int x_571), (6, .int x_565), (0, .ref h0), (1, .int p1), (2, .int p2), (3, .int v3), (4, .int v4)]) hx hb dX12_dueSpanOf_66 hl (k := 6) rfl (by rw [ex_571]; rfl) (by decide) rfl (fun ls hl => ?_)
            refine lv_goto (tgt := 28) hx hb dX12_dueSpanOf_69 (by decide) ?_
            exact ih v3 v4 x_571 f_567 f_568 _ _ _ gv3 gv4 (gi_w gx_571 (by decide)) (by have av5 := gv5.1; have bv5 := gv5.2; have qgx_571 := gx_571.1; have rgx_571 := gx_571.2; have igx_571 : x_571.toInt = v5.toInt + 1 := (by have hc1 : (1 : Int32).toInt = 1 := (by decide); have h9 := gi_addI ex_571 (by have h1 := g_553.1; have h2 := (gi_c 1 1 (by decide)).1; have h3 := g_553.2; have h4 := (gi_c 1 1 (by decide)).2; omega) (by have h1 := g_553.1; have h2 := (gi_c 1 1 (by decide)).1; have h3 := g_553.2; have h4 := (gi_c 1 1 (by decide)).2; omega); rw [hc1] at h9; exact h9); have qgv5 := g_553.1; have rgv5 := g_553.2; omega) hP hD hS (lv_sub hl [2, 3, 4, 5, 6, 0] rfl)
          · have g_572 : gi r_566 1 2147483647 := gi_lt_r (Int32.not_le.mp c_569) (gi_c 0 0 (by decide)) (gi_any r_566) (by decide)
            refine lv_iload hx hb dX12_dueSpanOf_63 (lv_at hl 0 rfl) ?_
            exact kr65 x_565 f_567 f_568 _ _ _ gx_565 hP hD hS (lv_sub hl [] rfl)
abbrev pb_sX12_dueSpanOf (dC : Nat → ClassId) (dI : Nat → Nat → Nat) (A9 : Nat → Prop) (h0 : Nat) (mi : Nat → Int32) (mr : Nat → Nat) (km : Nat → ClassId) (fm_must : Nat → Int32) (fm_least : Nat → Int32) (fm_pin : Nat → Int32) (fm_ways : Nat → Int32) (fm_deedMonth : Nat → Int32) (fm_deedLong : Nat → Int32) (fm_deedKind : Nat → Int32) (fm_deedDay : Nat → Int32) (fm_trust : Nat → Int32) (fm_letter : Nat → Int32) (fm_reportPlace : Nat → Int32) (fm_reportKind : Nat → Int32) (fm_struck : Nat → Int32) (fm_reportMonth : Nat → Int32) (fm_reportDay : Nat → Int32) (fm_reportKnown : Nat → Int32) (fm_kept : Nat → Int32) (fm_tape : Nat → Int32) (fm_verdict : Nat → Int32) (fm_row : Nat → Int32) (fm_official : Nat → Int32) (fm_aside : Nat → Int32) (fm_worth : Nat → Int32) (fm_out : Nat → Int32) (p1 : Int32) (p2 : Int32) (z3 : Nat → Int32) (z4 : Nat → Int32) (t : State) : Prop := va_P (dC, dI) vwCl (MWn h0 mr km (mi 0) (mi 1) (mi 2) (mi 3) (mi 4) (mi 5) (mi 6) (mi 7) (mi 10) (mi 17) (mi 23) (mi 24) (mi 26) (mi 27) (mi 28) (mi 29) (mi 30) (mi 31) (mi 32) (mi 33) (mi 37) (mi 41) (mi 42) (mi 43) (mi 44) (mi 45) (mi 47) (mi 48) (mi 49) (mi 50) (mi 51) (mi 54) (mi 56) fm_trust fm_letter fm_reportPlace fm_reportKind fm_struck fm_reportMonth fm_reportDay fm_reportKnown fm_deedMonth fm_deedDay fm_deedLong fm_deedKind fm_kept fm_tape fm_must fm_least z3 z4 fm_verdict fm_row fm_official fm_aside fm_worth fm_out) t.heap ∧ va_D A9 (MWn h0 mr km (mi 0) (mi 1) (mi 2) (mi 3) (mi 4) (mi 5) (mi 6) (mi 7) (mi 10) (mi 17) (mi 23) (mi 24) (mi 26) (mi 27) (mi 28) (mi 29) (mi 30) (mi 31) (mi 32) (mi 33) (mi 37) (mi 41) (mi 42) (mi 43) (mi 44) (mi 45) (mi 47) (mi 48) (mi 49) (mi 50) (mi 51) (mi 54) (mi 56) fm_trust fm_letter fm_reportPlace fm_reportKind fm_struck fm_reportMonth fm_reportDay fm_reportKnown fm_deedMonth fm_deedDay fm_deedLong fm_deedKind fm_kept fm_tape fm_must fm_least z3 z4 fm_verdict fm_row fm_official fm_aside fm_worth fm_out)
set_option maxHeartbeats 4000000 in
set_option maxRecDepth 100000 in
theorem sX12_dueSpanOf (l : Launch) (dC : Nat → ClassId) (dI : Nat → Nat → Nat) (sz : Nat) (h0 : Nat) (mi : Nat → Int32) (mr : Nat → Nat) (km : Nat → ClassId) (fm_must : Nat → Int32) (fm_least : Nat → Int32) (fm_pin : Nat → Int32) (fm_ways : Nat → Int32) (fm_deedMonth : Nat → Int32) (fm_deedLong : Nat → Int32) (fm_deedKind : Nat → Int32) (fm_deedDay : Nat → Int32) (fm_trust : Nat → Int32) (fm_letter : Nat → Int32) (fm_reportPlace : Nat → Int32) (fm_reportKind : Nat → Int32) (fm_struck : Nat → Int32) (fm_reportMonth : Nat → Int32) (fm_reportDay : Nat → Int32) (fm_reportKnown : Nat → Int32) (fm_kept : Nat → Int32) (fm_tape : Nat → Int32) (fm_verdict : Nat → Int32) (fm_row : Nat → Int32) (fm_official : Nat → Int32) (fm_aside : Nat → Int32) (fm_worth : Nat → Int32) (fm_out : Nat → Int32) (p1 : Int32) (p2 : Int32) (gmi_0 : gi (mi 0) 0 24) (gmi_1 : gi (mi 1) 0 5) (gmi_2 : gi (mi 2) 0 5) (gmi_4 : gi (mi 4) 0 1) (gmi_7 : gi (mi 7) 0 6) (gmi_10 : gi (mi 10) 0 24) (gmi_17 : gi (mi 17) 0 8) (gmi_23 : gi (mi 23) 0 300) (gmi_24 : gi (mi 24) 0 1) (gmi_26 : gi (mi 26) 0 1600) (gmi_29 : gi (mi 29) 0 1600) (gmi_30 : gi (mi 30) 0 1600) (gmi_33 : gi (mi 33) 0 1) (gmi_37 : gi (mi 37) 0 1) (gmi_41 : gi (mi 41) 0 24) (gmi_50 : gi (mi 50) 0 1) (gmi_51 : gi (mi 51) 0 1) (gmi_56 : gi (mi 56) 0 80) (gfm_deedMonth : ga fm_deedMonth 8 0 23) (gfm_deedLong : ga fm_deedLong 8 0 600) (gp1 : gi p1 0 7) (hdd : ∀ j : Nat, j < 8 → ((fm_deedKind j).toInt ≠ 0 ∨ (fm_deedMonth j).toInt + (fm_deedLong j).toInt ≤ 23)) : Met l yX12_dueSpanOf (.code yX12_dueSpanOf cX12_dueSpanOf 7 (some .int) :: wsGB) ({ frames := 7, cells := 0, slots := 0, locals := 170 }) (va_Pc [.ref h0, .int p1, .int p2] (fun U => U.heap.size = sz ∧ va_P (dC, dI) vwCl (MWn h0 mr km (mi 0) (mi 1) (mi 2) (mi 3) (mi 4) (mi 5) (mi 6) (mi 7) (mi 10) (mi 17) (mi 23) (mi 24) (mi 26) (mi 27) (mi 28) (mi 29) (mi 30) (mi 31) (mi 32) (mi 33) (mi 37) (mi 41) (mi 42) (mi 43) (mi 44) (mi 45) (mi 47) (mi 48) (mi 49) (mi 50) (mi 51) (mi 54) (mi 56) fm_trust fm_letter fm_reportPlace fm_reportKind fm_struck fm_reportMonth fm_reportDay fm_reportKnown fm_deedMonth fm_deedDay fm_deedLong fm_deedKind fm_kept fm_tape fm_must fm_least fm_pin fm_ways fm_verdict fm_row fm_official fm_aside fm_worth fm_out) U.heap ∧ va_K (dC, dI) vwCl (MT km) U ∧ va_D (fun _ => True) (MWn h0 mr km (mi 0) (mi 1) (mi 2) (mi 3) (mi 4) (mi 5) (mi 6) (mi 7) (mi 10) (mi 17) (mi 23) (mi 24) (mi 26) (mi 27) (mi 28) (mi 29) (mi 30) (mi 31) (mi 32) (mi 33) (mi 37) (mi 41) (mi 42) (mi 43) (mi 44) (mi 45) (mi 47) (mi 48) (mi 49) (mi 50) (mi 51) (mi 54) (mi 56) fm_trust fm_letter fm_reportPlace fm_reportKind fm_struck fm_reportMonth fm_reportDay fm_reportKnown fm_deedMonth fm_deedDay fm_deedLong fm_deedKind fm_kept fm_tape fm_must fm_least fm_pin fm_ways fm_verdict fm_row fm_official fm_aside fm_worth fm_out))) (va_Qi (fun (r : Int32) (u : Unit) => gi r (-2) 1320) (fun _ t => ∃ (z3 : Nat → Int32) (z4 : Nat → Int32), pb_sX12_dueSpanOf dC dI (va_A (MWn h0 mr km (mi 0) (mi 1) (mi 2) (mi 3) (mi 4) (mi 5) (mi 6) (mi 7) (mi 10) (mi 17) (mi 23) (mi 24) (mi 26) (mi 27) (mi 28) (mi 29) (mi 30) (mi 31) (mi 32) (mi 33) (mi 37) (mi 41) (mi 42) (mi 43) (mi 44) (mi 45) (mi 47) (mi 48) (mi 49) (mi 50) (mi 51) (mi 54) (mi 56) fm_trust fm_letter fm_reportPlace fm_reportKind fm_struck fm_reportMonth fm_reportDay fm_reportKnown fm_deedMonth fm_deedDay fm_deedLong fm_deedKind fm_kept fm_tape fm_must fm_least fm_pin fm_ways fm_verdict fm_row fm_official fm_aside fm_worth fm_out) sz) h0 mi mr km fm_must fm_least fm_pin fm_ways fm_deedMonth fm_deedLong fm_deedKind fm_deedDay fm_trust fm_letter fm_reportPlace fm_reportKind fm_struck fm_reportMonth fm_reportDay fm_reportKnown fm_kept fm_tape fm_verdict fm_row fm_official fm_aside fm_worth fm_out p1 p2 z3 z4 t) (va_A (MWn h0 mr km (mi 0) (mi 1) (mi 2) (mi 3) (mi 4) (mi 5) (mi 6) (mi 7) (mi 10) (mi 17) (mi 23) (mi 24) (mi 26) (mi 27) (mi 28) (mi 29) (mi 30) (mi 31) (mi 32) (mi 33) (mi 37) (mi 41) (mi 42) (mi 43) (mi 44) (mi 45) (mi 47) (mi 48) (mi 49) (mi 50) (mi 51) (mi 54) (mi 56) fm_trust fm_letter fm_reportPlace fm_reportKind fm_struck fm_reportMonth fm_reportDay fm_reportKnown fm_deedMonth fm_deedDay fm_deedLong fm_deedKind fm_kept fm_tape fm_must fm_least fm_pin fm_ways fm_verdict fm_row fm_official fm_aside fm_worth fm_out) sz)) 0 0 (va_A (MWn h0 mr km (mi 0) (mi 1) (mi 2) (mi 3) (mi 4) (mi 5) (mi 6) (mi 7) (mi 10) (mi 17) (mi 23) (mi 24) (mi 26) (mi 27) (mi 28) (mi 29) (mi 30) (mi 31) (mi 32) (mi 33) (mi 37) (mi 41) (mi 42) (mi 43) (mi 44) (mi 45) (mi 47) (mi 48) (mi 49) (mi 50) (mi 51) (mi 54) (mi 56) fm_trust fm_letter fm_reportPlace fm_reportKind fm_struck fm_reportMonth fm_reportDay fm_reportKnown fm_deedMonth fm_deedDay fm_deedLong fm_deedKind fm_kept fm_tape fm_must fm_least fm_pin fm_ways fm_verdict fm_row fm_official fm_aside fm_worth fm_out) sz) := by
  refine Met.ofW (cc := cX12_dueSpanOf) (maxL := 7) (ret := (some .int)) (by decide) rfl ?_
  intro p e s m args below meth c s₁ B hml hv
  obtain ⟨rfl, hsz, hP, hK, hD0⟩ := hv
  have hx := B.exec
  have hb := B.bytes
  have hr := B.returns
  have hts := atoms_spec (ws := (.code yX12_dueSpanOf cX12_dueSpanOf 7 (some .int) :: wsGB)) B.pre
  have hown : s.vm.findClass RX12 = some m.cls := findClass_of_methodNamed B.named
  have hlocks := B.notSynchronized
  subst hsz
  have hD := hD0.self (sz := s.heap.size)
  generalize hAe : va_A (MWn h0 mr km (mi 0) (mi 1) (mi 2) (mi 3) (mi 4) (mi 5) (mi 6) (mi 7) (mi 10) (mi 17) (mi 23) (mi 24) (mi 26) (mi 27) (mi 28) (mi 29) (mi 30) (mi 31) (mi 32) (mi 33) (mi 37) (mi 41) (mi 42) (mi 43) (mi 44) (mi 45) (mi 47) (mi 48) (mi 49) (mi 50) (mi 51) (mi 54) (mi 56) fm_trust fm_letter fm_reportPlace fm_reportKind fm_struck fm_reportMonth fm_reportDay fm_reportKnown fm_deedMonth fm_deedDay fm_deedLong fm_deedKind fm_kept fm_tape fm_must fm_least fm_pin fm_ways fm_verdict fm_row fm_official fm_aside fm_worth fm_out) s.heap.size = A at hD ⊢
  have hA : ∀ q : Nat, s.heap.size ≤ q → A q := fun q h => by rw [← hAe]; exact Or.inr h
  have hS : va_S A s.heap s.heap [] := va_S.rf
  have hl := lv_entry ([.ref h0, .int p1, .int p2]) (n := 7) (Nat.le_of_ble_eq_true rfl)
  rw [lg_entry_eq]
  generalize (lg_sl ([.ref h0, .int p1, .int p2]) ++ List.replicate (7 - (lg_sl ([.ref h0, .int p1, .int p2])).length) Slot.unset).toArray = ls at hl ⊢
  have hl : lv_has ls 7 [(0, .ref h0), (1, .int p1), (2, .int p2)] := hl
  refine lv_bipush (v := 29) hx hb dX12_dueSpanOf_0 (by decide) ?_
  refine lv_aload_n hx hb dX12_dueSpanOf_2 rfl (lv_at hl 0 rfl) ?_
  refine lv_iload_n hx hb dX12_dueSpanOf_3 rfl (lv_at hl 1 rfl) ?_
  refine va_calli (va_runV (As := [.int p1]) (rest := [.int 29]) ⟨hx, hb, hml, hown, hts⟩ (sX12_monthOf l dC dI h0 mi mr km fm_deedMonth fm_deedLong fm_deedKind fm_trust fm_letter fm_reportPlace fm_reportKind fm_struck fm_reportMonth fm_reportDay fm_reportKnown fm_deedDay fm_kept fm_tape fm_must fm_least fm_pin fm_ways fm_verdict fm_row fm_official fm_aside fm_worth fm_out p1 gmi_0 gmi_1 gmi_2 gmi_4 gmi_7 gmi_10 gmi_17 gmi_23 gmi_24 gmi_26 gmi_29 gmi_30 gmi_33 gmi_37 gmi_41 gmi_50 gmi_51 gmi_56 gfm_deedMonth gfm_deedLong gp1 hdd) (cwV 1 hts (gz_gV mGB_459 mGB_460 mGB_461 mGB_1 mGB_462 goodGB) rfl rfl rfl (by decide +kernel) ⟨Nat.le_of_ble_eq_true rfl, Nat.le_of_ble_eq_true rfl⟩) ⟨bl_R, mw_recv hK hP, fun U hU hW => ⟨rfl, by rw [hU]; exact hP, va_K.moved hW.alike hK⟩⟩ rfl rfl hl.1 rfl (lv_room (Nat.le_of_ble_eq_true rfl)) dX12_dueSpanOf_4 ⟨Nat.zero_le _, Nat.zero_le _⟩) hS (fun q _ h => h.elim) (fun q h => h.elim) (fun r_573 u t H1 locs ht hvm hw hB hz1 hk1 hS => ?_)
  have hP := gz_keep hP hk1
  generalize H1 = H at hP hS ⊢
  have gr_573 : gi r_573 0 23 := hw
  refine lv_imul hx hb dX12_dueSpanOf_7 ?_
  refine lv_topi (fun x_574 ex_574 => ?_)
  have gx_574 : gi x_574 0 667 := gi_mul ex_574 (gi_c 29 29 (by decide)) gr_573 (by decide)
  refine lv_aload_n hx hb dX12_dueSpanOf_8 rfl (lv_at hl 0 rfl) ?_
  refine lv_iload_n hx hb dX12_dueSpanOf_9 rfl (lv_at hl 1 rfl) ?_
  refine va_calli (va_runV (As := [.int p1]) (rest := [.int x_574]) ⟨hx, hb, hml, hown, hts⟩ (sX12_behindOf l dC dI h0 mi mr km fm_deedMonth fm_deedLong fm_deedKind fm_trust fm_letter fm_reportPlace fm_reportKind fm_struck fm_reportMonth fm_reportDay fm_reportKnown fm_deedDay fm_kept fm_tape fm_must fm_least fm_pin fm_ways fm_verdict fm_row fm_official fm_aside fm_worth fm_out p1 gmi_0 gmi_1 gmi_2 gmi_4 gmi_7 gmi_10 gmi_17 gmi_23 gmi_24 gmi_26 gmi_29 gmi_30 gmi_33 gmi_37 gmi_41 gmi_50 gmi_51 gmi_56 gfm_deedMonth gfm_deedLong gp1) (cwV 1 hts (gz_gV mGB_463 mGB_464 mGB_465 mGB_1 mGB_466 goodGB) rfl rfl rfl (by decide +kernel) ⟨Nat.le_of_ble_eq_true rfl, Nat.le_of_ble_eq_true rfl⟩) ⟨bl_R, mw_recv hK hP, fun U hU hW => ⟨rfl, by rw [hU]; exact hP, va_K.moved hW.alike hK⟩⟩ rfl rfl hl.1 rfl (lv_room (Nat.le_of_ble_eq_true rfl)) dX12_dueSpanOf_10 ⟨Nat.zero_le _, Nat.zero_le _⟩) hS (fun q _ h => h.elim) (fun q h => h.elim) (fun r_575 u t H1 locs ht hvm hw hB hz1 hk1 hS => ?_)
  have hP := gz_keep hP hk1
  generalize H1 = H at hP hS ⊢
  have gr_575 : gi r_575 0 600 := hw
  refine lv_iadd hx hb dX12_dueSpanOf_13 ?_
  refine lv_topi (fun x_576 ex_576 => ?_)
  have gx_576 : gi x_576 0 1267 := gi_add ex_576 gx_574 gr_575 (by decide)
  refine lv_istore_n (lv' := [(3, .int x_576), (0, .ref h0), (1, .int p1), (2, .int p2)]) hx hb dX12_dueSpanOf_14 rfl hl (by decide) rfl (fun ls hl => ?_)
  refine lv_aload_n hx hb dX12_dueSpanOf_15 rfl (lv_at hl 1 rfl) ?_
  refine lv_iload_n hx hb dX12_dueSpanOf_16 rfl (lv_at hl 2 rfl) ?_
  refine va_calli (va_runV (As := [.int p1]) (rest := []) ⟨hx, hb, hml, hown, hts⟩ (sX12_monthOf l dC dI h0 mi mr km fm_deedMonth fm_deedLong fm_deedKind fm_trust fm_letter fm_reportPlace fm_reportKind fm_struck fm_reportMonth fm_reportDay fm_reportKnown fm_deedDay fm_kept fm_tape fm_must fm_least fm_pin fm_ways fm_verdict fm_row fm_official fm_aside fm_worth fm_out p1 gmi_0 gmi_1 gmi_2 gmi_4 gmi_7 gmi_10 gmi_17 gmi_23 gmi_24 gmi_26 gmi_29 gmi_30 gmi_33 gmi_37 gmi_41 gmi_50 gmi_51 gmi_56 gfm_deedMonth gfm_deedLong gp1 hdd) (cwV 1 hts (gz_gV mGB_459 mGB_460 mGB_461 mGB_1 mGB_462 goodGB) rfl rfl rfl (by decide +kernel) ⟨Nat.le_of_ble_eq_true rfl, Nat.le_of_ble_eq_true rfl⟩) ⟨bl_R, mw_recv hK hP, fun U hU hW => ⟨rfl, by rw [hU]; exact hP, va_K.moved hW.alike hK⟩⟩ rfl rfl hl.1 rfl (lv_room (Nat.le_of_ble_eq_true rfl)) dX12_dueSpanOf_17 ⟨Nat.zero_le _, Nat.zero_le _⟩) hS (fun q _ h => h.elim) (fun q h => h.elim) (fun r_577 u t H1 locs ht hvm hw hB hz1 hk1 hS => ?_)
  have hP := gz_keep hP hk1
  generalize H1 = H at hP hS ⊢
  have gr_577 : gi r_577 0 23 := hw
  refine lv_bipush (v := 30) hx hb dX12_dueSpanOf_20 (by decide) ?_
  refine lv_iadd hx hb dX12_dueSpanOf_22 ?_
  refine lv_topi (fun x_578 ex_578 => ?_)
  have gx_578 : gi x_578 30 53 := gi_add ex_578 gr_577 (gi_c 30 30 (by decide)) (by decide)
  refine lv_istore (lv' := [(4, .int x_578), (3, .int x_576), (0, .ref h0), (1, .int p1), (2, .int p2)]) hx hb dX12_dueSpanOf_23 hl (by decide) rfl (fun ls hl => ?_)
  refine lv_iconst (v := 0) hx hb dX12_dueSpanOf_25 (by decide) ?_
  refine lv_istore (lv' := [(5, .int 0), (4, .int x_578), (3, .int x_576), (0, .ref h0), (1, .int p1), (2, .int p2)]) hx hb dX12_dueSpanOf_26 hl (by decide) rfl (fun ls hl => ?_)
  refine (lp_sX12_dueSpanOf h0 mi mr km fm_must fm_least fm_pin fm_ways fm_deedMonth fm_deedLong fm_deedKind fm_deedDay fm_trust fm_letter fm_reportPlace fm_reportKind fm_struck fm_reportMonth fm_reportDay fm_reportKnown fm_kept fm_tape fm_verdict fm_row fm_official fm_aside fm_worth fm_out p1 p2 gmi_0 gmi_1 gmi_2 gmi_4 gmi_7 gmi_10 gmi_17 gmi_23 gmi_24 gmi_26 gmi_29 gmi_30 gmi_33 gmi_37 gmi_41 gmi_50 gmi_51 gmi_56 gfm_deedMonth gfm_deedLong gp1 hdd hx hb hml hown hts hK hA (Nat.le_of_ble_eq_true rfl) (Nat.le_of_ble_eq_true rfl) (Nat.zero_le _) (Nat.zero_le _) (fun v z3 z4 H locs ls gv hP hD hS hl => ?_) (fun v z3 z4 H locs ls gv hP hD hS hl => ?_) 158) x_576 x_578 0 fm_pin fm_ways _ _ _ gx_576 gx_578 (gi_w (gi_c 0 0 (by decide)) (by decide)) (by have k0 : (0 : Int32).toInt = 0 := (by decide); omega) hP hD hS (lv_sub hl [3, 4, 5, 2, 1, 0] rfl)
  · skip
    exact W.iret (v := v) hx hb hr (fun t ht hW => ⟨⟨v, (), rfl, (gi_w gv (by decide)), z3, z4, by rw [ht]; exact hP, hD⟩, hS.F ht⟩) hS.2.2 dX12_dueSpanOf_74
  · skip
    exact W.iret (v := v) hx hb hr (fun t ht hW => ⟨⟨v, (), rfl, (gi_w gv (by decide)), z3, z4, by rw [ht]; exact hP, hD⟩, hS.F ht⟩) hS.2.2 dX12_dueSpanOf_65
theorem dX12_dueSpan_0 : decode cX12_dueSpan 0 = .ok (.aload_n 0, 1) := by decide +kernel
theorem dX12_dueSpan_1 : decode cX12_dueSpan 1 = .ok (.iload_n 1, 1) := by decide +kernel
theorem dX12_dueSpan_2 : decode cX12_dueSpan 2 = .ok (.invokevirtual 359, 3) := by decide +kernel
theorem dX12_dueSpan_5 : decode cX12_dueSpan 5 = .ok (.ifCond .eq 21, 3) := by decide +kernel
theorem dX12_dueSpan_8 : decode cX12_dueSpan 8 = .ok (.aload_n 0, 1) := by decide +kernel
theorem dX12_dueSpan_9 : decode cX12_dueSpan 9 = .ok (.iload_n 2, 1) := by decide +kernel
theorem dX12_dueSpan_10 : decode cX12_dueSpan 10 = .ok (.invokevirtual 306, 3) := by decide +kernel
theorem dX12_dueSpan_13 : decode cX12_dueSpan 13 = .ok (.ifCond .eq 13, 3) := by decide +kernel
theorem dX12_dueSpan_16 : decode cX12_dueSpan 16 = .ok (.iload_n 3, 1) := by decide +kernel
theorem dX12_dueSpan_17 : decode cX12_dueSpan 17 = .ok (.i2l, 1) := by decide +kernel
theorem dX12_dueSpan_18 : decode cX12_dueSpan 18 = .ok (.lconst 0, 1) := by decide +kernel
theorem dX12_dueSpan_19 : decode cX12_dueSpan 19 = .ok (.lconst 1, 1) := by decide +kernel
theorem dX12_dueSpan_20 : decode cX12_dueSpan 20 = .ok (.invokestatic 102, 3) := by decide +kernel
theorem dX12_dueSpan_23 : decode cX12_dueSpan 23 = .ok (.ifCond .ne 6, 3) := by decide +kernel
theorem dX12_dueSpan_26 : decode cX12_dueSpan 26 = .ok (.bipush (-2), 2) := by decide +kernel
theorem dX12_dueSpan_28 : decode cX12_dueSpan 28 = .ok (.ireturn, 1) := by decide +kernel
theorem dX12_dueSpan_29 : decode cX12_dueSpan 29 = .ok (.aload_n 0, 1) := by decide +kernel
theorem dX12_dueSpan_30 : decode cX12_dueSpan 30 = .ok (.iload_n 1, 1) := by decide +kernel
theorem dX12_dueSpan_31 : decode cX12_dueSpan 31 = .ok (.invokevirtual 362, 3) := by decide +kernel
theorem dX12_dueSpan_34 : decode cX12_dueSpan 34 = .ok (.aload_n 0, 1) := by decide +kernel
theorem dX12_dueSpan_35 : decode cX12_dueSpan 35 = .ok (.iload_n 2, 1) := by decide +kernel
theorem dX12_dueSpan_36 : decode cX12_dueSpan 36 = .ok (.iload_n 3, 1) := by decide +kernel
theorem dX12_dueSpan_37 : decode cX12_dueSpan 37 = .ok (.invokevirtual 447, 3) := by decide +kernel
theorem dX12_dueSpan_40 : decode cX12_dueSpan 40 = .ok (.ireturn, 1) := by decide +kernel
abbrev pb_sX12_dueSpan (dC : Nat → ClassId) (dI : Nat → Nat → Nat) (A9 : Nat → Prop) (h0 : Nat) (mi : Nat → Int32) (mr : Nat → Nat) (km : Nat → ClassId) (fm_must : Nat → Int32) (fm_least : Nat → Int32) (fm_pin : Nat → Int32) (fm_ways : Nat → Int32) (fm_verdict : Nat → Int32) (fm_row : Nat → Int32) (fm_struck : Nat → Int32) (fm_reportKnown : Nat → Int32) (fm_reportPlace : Nat → Int32) (fm_reportMonth : Nat → Int32) (fm_reportDay : Nat → Int32) (fm_reportKind : Nat → Int32) (fm_trust : Nat → Int32) (fm_letter : Nat → Int32) (fm_deedMonth : Nat → Int32) (fm_deedLong : Nat → Int32) (fm_deedKind : Nat → Int32) (fm_deedDay : Nat → Int32) (fm_kept : Nat → Int32) (fm_tape : Nat → Int32) (fm_official : Nat → Int32) (fm_aside : Nat → Int32) (fm_worth : Nat → Int32) (fm_out : Nat → Int32) (p1 : Int32) (p2 : Int32) (p3 : Int32) (w0_37 : Int32) (w0_41 : Int32) (z1 : Nat → Int32) (z2 : Nat → Int32) (z3 : Nat → Int32) (z4 : Nat → Int32) (z5 : Nat → Int32) (z6 : Nat → Int32) (t : State) : Prop := gi w0_37 0 1 ∧ gi w0_41 0 24 ∧ ga z6 24 0 23 ∧ va_P (dC, dI) vwCl (MWn h0 mr km (mi 0) (mi 1) (mi 2) (mi 3) (mi 4) (mi 5) (mi 6) (mi 7) (mi 10) (mi 17) (mi 23) (mi 24) (mi 26) (mi 27) (mi 28) (mi 29) (mi 30) (mi 31) (mi 32) (mi 33) w0_37 w0_41 (mi 42) (mi 43) (mi 44) (mi 45) (mi 47) (mi 48) (mi 49) (mi 50) (mi 51) (mi 54) (mi 56) fm_trust fm_letter fm_reportPlace fm_reportKind fm_struck fm_reportMonth fm_reportDay fm_reportKnown fm_deedMonth fm_deedDay fm_deedLong fm_deedKind fm_kept fm_tape z1 z2 z3 z4 z5 z6 fm_official fm_aside fm_worth fm_out) t.heap ∧ va_D A9 (MWn h0 mr km (mi 0) (mi 1) (mi 2) (mi 3) (mi 4) (mi 5) (mi 6) (mi 7) (mi 10) (mi 17) (mi 23) (mi 24) (mi 26) (mi 27) (mi 28) (mi 29) (mi 30) (mi 31) (mi 32) (mi 33) w0_37 w0_41 (mi 42) (mi 43) (mi 44) (mi 45) (mi 47) (mi 48) (mi 49) (mi 50) (mi 51) (mi 54) (mi 56) fm_trust fm_letter fm_reportPlace fm_reportKind fm_struck fm_reportMonth fm_reportDay fm_reportKnown fm_deedMonth fm_deedDay fm_deedLong fm_deedKind fm_kept fm_tape z1 z2 z3 z4 z5 z6 fm_official fm_aside fm_worth fm_out)
set_option maxHeartbeats 4000000 in
set_option maxRecDepth 100000 in
theorem sX12_dueSpan (l : Launch) (dC : Nat → ClassId) (dI : Nat → Nat → Nat) (sz : Nat) (h0 : Nat) (mi : Nat → Int32) (mr : Nat → Nat) (km : Nat → ClassId) (fm_must : Nat → Int32) (fm_least : Nat → Int32) (fm_pin : Nat → Int32) (fm_ways : Nat → Int32) (fm_verdict : Nat → Int32) (fm_row : Nat → Int32) (fm_struck : Nat → Int32) (fm_reportKnown : Nat → Int32) (fm_reportPlace : Nat → Int32) (fm_reportMonth : Nat → Int32) (fm_reportDay : Nat → Int32) (fm_reportKind : Nat → Int32) (fm_trust : Nat → Int32) (fm_letter : Nat → Int32) (fm_deedMonth : Nat → Int32) (fm_deedLong : Nat → Int32) (fm_deedKind : Nat → Int32) (fm_deedDay : Nat → Int32) (fm_kept : Nat → Int32) (fm_tape : Nat → Int32) (fm_official : Nat → Int32) (fm_aside : Nat → Int32) (fm_worth : Nat → Int32) (fm_out : Nat → Int32) (p1 : Int32) (p2 : Int32) (p3 : Int32) (gmi_0 : gi (mi 0) 0 24) (gmi_1 : gi (mi 1) 0 5) (gmi_2 : gi (mi 2) 0 5) (gmi_4 : gi (mi 4) 0 1) (gmi_7 : gi (mi 7) 0 6) (gmi_10 : gi (mi 10) 0 24) (gmi_17 : gi (mi 17) 0 8) (gmi_23 : gi (mi 23) 0 300) (gmi_24 : gi (mi 24) 0 1) (gmi_26 : gi (mi 26) 0 1600) (gmi_29 : gi (mi 29) 0 1600) (gmi_30 : gi (mi 30) 0 1600) (gmi_33 : gi (mi 33) 0 1) (gmi_37 : gi (mi 37) 0 1) (gmi_41 : gi (mi 41) 0 24) (gmi_50 : gi (mi 50) 0 1) (gmi_51 : gi (mi 51) 0 1) (gmi_56 : gi (mi 56) 0 80) (gfm_row : ga fm_row 24 0 23) (gfm_struck : ga fm_struck 24 0 1) (gfm_reportKnown : ga fm_reportKnown 24 0 999) (gfm_reportPlace : ga fm_reportPlace 24 0 5) (gfm_reportMonth : ga fm_reportMonth 24 0 23) (gfm_reportDay : ga fm_reportDay 24 0 999) (gfm_deedMonth : ga fm_deedMonth 8 0 23) (gfm_deedLong : ga fm_deedLong 8 0 600) (hdd : ∀ j : Nat, j < 8 → ((fm_deedKind j).toInt ≠ 0 ∨ (fm_deedMonth j).toInt + (fm_deedLong j).toInt ≤ 23)) : Met l yX12_dueSpan (.code yX12_dueSpan cX12_dueSpan 4 (some .int) :: wsGB) ({ frames := 8, cells := 0, slots := 0, locals := 196 }) (va_Pc [.ref h0, .int p1, .int p2, .int p3] (fun U => U.heap.size = sz ∧ va_P (dC, dI) vwCl (MWn h0 mr km (mi 0) (mi 1) (mi 2) (mi 3) (mi 4) (mi 5) (mi 6) (mi 7) (mi 10) (mi 17) (mi 23) (mi 24) (mi 26) (mi 27) (mi 28) (mi 29) (mi 30) (mi 31) (mi 32) (mi 33) (mi 37) (mi 41) (mi 42) (mi 43) (mi 44) (mi 45) (mi 47) (mi 48) (mi 49) (mi 50) (mi 51) (mi 54) (mi 56) fm_trust fm_letter fm_reportPlace fm_reportKind fm_struck fm_reportMonth fm_reportDay fm_reportKnown fm_deedMonth fm_deedDay fm_deedLong fm_deedKind fm_kept fm_tape fm_must fm_least fm_pin fm_ways fm_verdict fm_row fm_official fm_aside fm_worth fm_out) U.heap ∧ va_K (dC, dI) vwCl (MT km) U ∧ va_D (fun _ => True) (MWn h0 mr km (mi 0) (mi 1) (mi 2) (mi 3) (mi 4) (mi 5) (mi 6) (mi 7) (mi 10) (mi 17) (mi 23) (mi 24) (mi 26) (mi 27) (mi 28) (mi 29) (mi 30) (mi 31) (mi 32) (mi 33) (mi 37) (mi 41) (mi 42) (mi 43) (mi 44) (mi 45) (mi 47) (mi 48) (mi 49) (mi 50) (mi 51) (mi 54) (mi 56) fm_trust fm_letter fm_reportPlace fm_reportKind fm_struck fm_reportMonth fm_reportDay fm_reportKnown fm_deedMonth fm_deedDay fm_deedLong fm_deedKind fm_kept fm_tape fm_must fm_least fm_pin fm_ways fm_verdict fm_row fm_official fm_aside fm_worth fm_out))) (va_Qi (fun (r : Int32) (u : Unit) => gi r (-2) 1320) (fun _ t => ∃ (w0_37 : Int32) (w0_41 : Int32) (z1 : Nat → Int32) (z2 : Nat → Int32) (z3 : Nat → Int32) (z4 : Nat → Int32) (z5 : Nat → Int32) (z6 : Nat → Int32), pb_sX12_dueSpan dC dI (va_A (MWn h0 mr km (mi 0) (mi 1) (mi 2) (mi 3) (mi 4) (mi 5) (mi 6) (mi 7) (mi 10) (mi 17) (mi 23) (mi 24) (mi 26) (mi 27) (mi 28) (mi 29) (mi 30) (mi 31) (mi 32) (mi 33) (mi 37) (mi 41) (mi 42) (mi 43) (mi 44) (mi 45) (mi 47) (mi 48) (mi 49) (mi 50) (mi 51) (mi 54) (mi 56) fm_trust fm_letter fm_reportPlace fm_reportKind fm_struck fm_reportMonth fm_reportDay fm_reportKnown fm_deedMonth fm_deedDay fm_deedLong fm_deedKind fm_kept fm_tape fm_must fm_least fm_pin fm_ways fm_verdict fm_row fm_official fm_aside fm_worth fm_out) sz) h0 mi mr km fm_must fm_least fm_pin fm_ways fm_verdict fm_row fm_struck fm_reportKnown fm_reportPlace fm_reportMonth fm_reportDay fm_reportKind fm_trust fm_letter fm_deedMonth fm_deedLong fm_deedKind fm_deedDay fm_kept fm_tape fm_official fm_aside fm_worth fm_out p1 p2 p3 w0_37 w0_41 z1 z2 z3 z4 z5 z6 t) (va_A (MWn h0 mr km (mi 0) (mi 1) (mi 2) (mi 3) (mi 4) (mi 5) (mi 6) (mi 7) (mi 10) (mi 17) (mi 23) (mi 24) (mi 26) (mi 27) (mi 28) (mi 29) (mi 30) (mi 31) (mi 32) (mi 33) (mi 37) (mi 41) (mi 42) (mi 43) (mi 44) (mi 45) (mi 47) (mi 48) (mi 49) (mi 50) (mi 51) (mi 54) (mi 56) fm_trust fm_letter fm_reportPlace fm_reportKind fm_struck fm_reportMonth fm_reportDay fm_reportKnown fm_deedMonth fm_deedDay fm_deedLong fm_deedKind fm_kept fm_tape fm_must fm_least fm_pin fm_ways fm_verdict fm_row fm_official fm_aside fm_worth fm_out) sz)) 0 0 (va_A (MWn h0 mr km (mi 0) (mi 1) (mi 2) (mi 3) (mi 4) (mi 5) (mi 6) (mi 7) (mi 10) (mi 17) (mi 23) (mi 24) (mi 26) (mi 27) (mi 28) (mi 29) (mi 30) (mi 31) (mi 32) (mi 33) (mi 37) (mi 41) (mi 42) (mi 43) (mi 44) (mi 45) (mi 47) (mi 48) (mi 49) (mi 50) (mi 51) (mi 54) (mi 56) fm_trust fm_letter fm_reportPlace fm_reportKind fm_struck fm_reportMonth fm_reportDay fm_reportKnown fm_deedMonth fm_deedDay fm_deedLong fm_deedKind fm_kept fm_tape fm_must fm_least fm_pin fm_ways fm_verdict fm_row fm_official fm_aside fm_worth fm_out) sz) := by
  refine Met.ofW (cc := cX12_dueSpan) (maxL := 4) (ret := (some .int)) (by decide) rfl ?_
  intro p e s m args below meth c s₁ B hml hv
  obtain ⟨rfl, hsz, hP, hK, hD0⟩ := hv
  have hx := B.exec
  have hb := B.bytes
  have hr := B.returns
  have hts := atoms_spec (ws := (.code yX12_dueSpan cX12_dueSpan 4 (some .int) :: wsGB)) B.pre
  have hown : s.vm.findClass RX12 = some m.cls := findClass_of_methodNamed B.named
  have hlocks := B.notSynchronized
  subst hsz
  have hD := hD0.self (sz := s.heap.size)
  generalize hAe : va_A (MWn h0 mr km (mi 0) (mi 1) (mi 2) (mi 3) (mi 4) (mi 5) (mi 6) (mi 7) (mi 10) (mi 17) (mi 23) (mi 24) (mi 26) (mi 27) (mi 28) (mi 29) (mi 30) (mi 31) (mi 32) (mi 33) (mi 37) (mi 41) (mi 42) (mi 43) (mi 44) (mi 45) (mi 47) (mi 48) (mi 49) (mi 50) (mi 51) (mi 54) (mi 56) fm_trust fm_letter fm_reportPlace fm_reportKind fm_struck fm_reportMonth fm_reportDay fm_reportKnown fm_deedMonth fm_deedDay fm_deedLong fm_deedKind fm_kept fm_tape fm_must fm_least fm_pin fm_ways fm_verdict fm_row fm_official fm_aside fm_worth fm_out) s.heap.size = A at hD ⊢
  have hA : ∀ q : Nat, s.heap.size ≤ q → A q := fun q h => by rw [← hAe]; exact Or.inr h
  have hS : va_S A s.heap s.heap [] := va_S.rf
  have hl := lv_entry ([.ref h0, .int p1, .int p2, .int p3]) (n := 4) (Nat.le_of_ble_eq_true rfl)
  rw [lg_entry_eq]
  generalize (lg_sl ([.ref h0, .int p1, .int p2, .int p3]) ++ List.replicate (4 - (lg_sl ([.ref h0, .int p1, .int p2, .int p3])).length) Slot.unset).toArray = ls at hl ⊢
  have hl : lv_has ls 4 [(0, .ref h0), (1, .int p1), (2, .int p2), (3, .int p3)] := hl
  refine lv_aload_n hx hb dX12_dueSpan_0 rfl (lv_at hl 0 rfl) ?_
  refine lv_iload_n hx hb dX12_dueSpan_1 rfl (lv_at hl 1 rfl) ?_
  refine va_calli (va_runV (As := [.int p1]) (rest := []) ⟨hx, hb, hml, hown, hts⟩ (sX12_isTime l dC dI h0 mi mr km fm_trust fm_letter fm_reportPlace fm_reportKind fm_struck fm_reportMonth fm_reportDay fm_reportKnown fm_deedMonth fm_deedDay fm_deedLong fm_deedKind fm_kept fm_tape fm_must fm_least fm_pin fm_ways fm_verdict fm_row fm_official fm_aside fm_worth fm_out p1 gmi_0 gmi_1 gmi_2 gmi_4 gmi_7 gmi_10 gmi_17 gmi_23 gmi_24 gmi_26 gmi_29 gmi_30 gmi_33 gmi_37 gmi_41 gmi_50 gmi_51 gmi_56) (cwV 1 hts (gz_gV mGB_256 mGB_257 mGB_258 mGB_1 mGB_259 goodGB) rfl rfl rfl (by decide +kernel) ⟨Nat.le_of_ble_eq_true rfl, Nat.le_of_ble_eq_true rfl⟩) ⟨bl_R, mw_recv hK hP, fun U hU hW => ⟨rfl, by rw [hU]; exact hP, va_K.moved hW.alike hK⟩⟩ rfl rfl hl.1 rfl (lv_room (Nat.le_of_ble_eq_true rfl)) dX12_dueSpan_2 ⟨Nat.zero_le _, Nat.zero_le _⟩) hS (fun q _ h => h.elim) (fun q h => h.elim) (fun r_57 u t H1 locs ht hvm hw hB hz1 hk1 hS => ?_)
  obtain ⟨hw, hE⟩ := hw
  have hP := gz_keep hP hk1
  generalize H1 = H at hP hS ⊢
  have gr_57 : gi r_57 0 1 := hw.1
  have hqr_57 := hw.2
  refine lv_if_eq (tgt := 26) hx hb dX12_dueSpan_5 (by decide) (fun c_58 => ?_) (fun c_58 => ?_)
  · have g_59 : gi r_57 0 0 := gi_eq c_58 (gi_c 0 0 (by decide))
    refine lv_bipush (v := (-2)) hx hb dX12_dueSpan_26 (by decide) ?_
    exact W.iret (v := (-2)) hx hb hr (fun t ht hW => ⟨⟨(-2), (), rfl, (gi_w (gi_c (-2) (-2) (by decide)) (by decide)), (mi 37), (mi 41), fm_must, fm_least, fm_pin, fm_ways, fm_verdict, fm_row, gmi_37, gmi_41, gfm_row, by rw [ht]; exact hP, hD⟩, hS.F ht⟩) hS.2.2 dX12_dueSpan_28
  · have g_60 : gi r_57 1 1 := gi_ne_lo c_58 gr_57 (gi_c 0 0 (by decide)) (by decide)
    have g_61 : gi p1 0 999 := gi_cap (gi_any p1) (hqr_57 (gz_one g_60)) (by decide)
    refine lv_aload_n hx hb dX12_dueSpan_8 rfl (lv_at hl 0 rfl) ?_
    refine lv_iload_n hx hb dX12_dueSpan_9 rfl (lv_at hl 2 rfl) ?_
    refine va_calli (va_runV (As := [.int p2]) (rest := []) ⟨hx, hb, hml, hown, hts⟩ (sX12_isDeed l dC dI h0 mi mr km fm_trust fm_letter fm_reportPlace fm_reportKind fm_struck fm_reportMonth fm_reportDay fm_reportKnown fm_deedMonth fm_deedDay fm_deedLong fm_deedKind fm_kept fm_tape fm_must fm_least fm_pin fm_ways fm_verdict fm_row fm_official fm_aside fm_worth fm_out p2 gmi_0 gmi_1 gmi_2 gmi_4 gmi_7 gmi_10 gmi_17 gmi_23 gmi_24 gmi_26 gmi_29 gmi_30 gmi_33 gmi_37 gmi_41 gmi_50 gmi_51 gmi_56) (cwV 1 hts (gz_gV mGB_242 mGB_243 mGB_244 mGB_1 mGB_245 goodGB) rfl rfl rfl (by decide +kernel) ⟨Nat.le_of_ble_eq_true rfl, Nat.le_of_ble_eq_true rfl⟩) ⟨bl_R, mw_recv hK hP, fun U hU hW => ⟨rfl, by rw [hU]; exact hP, va_K.moved hW.alike hK⟩⟩ rfl rfl hl.1 rfl (lv_room (Nat.le_of_ble_eq_true rfl)) dX12_dueSpan_10 ⟨Nat.zero_le _, Nat.zero_le _⟩) hS (fun q _ h => h.elim) (fun q h => h.elim) (fun r_62 u t H1 locs ht hvm hw hB hz1 hk1 hS => ?_)
    obtain ⟨hw, hE⟩ := hw
    have hP := gz_keep hP hk1
    generalize H1 = H at hP hS ⊢
    have gr_62 : gi r_62 0 1 := hw.1
    have hqr_62 := hw.2
    refine lv_if_eq (tgt := 26) hx hb dX12_dueSpan_13 (by decide) (fun c_63 => ?_) (fun c_63 => ?_)
    · have g_64 : gi r_62 0 0 := gi_eq c_63 (gi_c 0 0 (by decide))
      refine lv_bipush (v := (-2)) hx hb dX12_dueSpan_26 (by decide) ?_
      exact W.iret (v := (-2)) hx hb hr (fun t ht hW => ⟨⟨(-2), (), rfl, (gi_w (gi_c (-2) (-2) (by decide)) (by decide)), (mi 37), (mi 41), fm_must, fm_least, fm_pin, fm_ways, fm_verdict, fm_row, gmi_37, gmi_41, gfm_row, by rw [ht]; exact hP, hD⟩, hS.F ht⟩) hS.2.2 dX12_dueSpan_28
    · have g_65 : gi r_62 1 1 := gi_ne_lo c_63 gr_62 (gi_c 0 0 (by decide)) (by decide)
      have g_66 : gi p2 0 7 := gi_cap (gi_any p2) (hqr_62 (gz_one g_65)) (by decide)
      refine lv_iload_n hx hb dX12_dueSpan_16 rfl (lv_at hl 3 rfl) ?_
      refine lv_i2l (v := (p3).toInt64) hx hb dX12_dueSpan_17 rfl ?_
      refine lv_topl (fun l_67 el_67 => ?_)
      refine lv_lconst (v := 0) hx hb dX12_dueSpan_18 (by decide) ?_
      refine lv_lconst (v := 1) hx hb dX12_dueSpan_19 (by decide) ?_
      have hPc := hP.sub (ws' := []) [] rfl
      have hKc := hK.sub (tys' := []) [] rfl
      refine va_calli (va_runS (As := [.long l_67, .long 0, .long 1]) (rest := []) ⟨hx, hb, hml, hown, hts⟩ (sX12_in l dC dI l_67 0 1) (cwS 3 hts (gz_gS mGB_47 mGB_48 mGB_1 mGB_49 goodGB) rfl rfl rfl (by decide +kernel) ⟨Nat.le_of_ble_eq_true rfl, Nat.le_of_ble_eq_true rfl⟩) ⟨bl_R, fun U hU hW => ⟨rfl, by rw [hU]; exact hPc, va_K.moved hW.alike hKc⟩⟩ rfl rfl hl.1 rfl (lv_room (Nat.le_of_ble_eq_true rfl)) dX12_dueSpan_20 ⟨Nat.zero_le _, Nat.zero_le _⟩) hS (fun q _ h => h.elim) (fun q h => h.elim) (fun r_68 u t H1 locs ht hvm hw hB hz1 hk1 hS => ?_)
      obtain ⟨hw, hE⟩ := hw
      have hP := gz_keep hP hk1
      generalize H1 = H at hP hS ⊢
      have gr_68 : gi r_68 0 1 := hw.1
      have hqr_68 := hw.2
      refine lv_if_ne (tgt := 29) hx hb dX12_dueSpan_23 (by decide) (fun c_69 => ?_) (fun c_69 => ?_)
      · have g_70 : gi r_68 1 1 := gi_ne_lo c_69 gr_68 (gi_c 0 0 (by decide)) (by decide)
        have g_71 : gi p3 0 1 := gi_cap (gi_any p3) (gz_inr (hqr_68.1 (gz_one g_70)) el_67 (A := 0) (B := 1) (by decide) (by decide)) (by decide)
        refine lv_aload_n hx hb dX12_dueSpan_29 rfl (lv_at hl 0 rfl) ?_
        refine lv_iload_n hx hb dX12_dueSpan_30 rfl (lv_at hl 1 rfl) ?_
        have hFc := gz_fullF hD hS hA
        refine va_callv (va_runV (As := [.int p1]) (rest := []) ⟨hx, hb, hml, hown, hts⟩ (sX12_judgesAll l dC dI H.size h0 mi mr km fm_must fm_least fm_pin fm_ways fm_verdict fm_row fm_struck fm_reportKnown fm_reportPlace fm_reportMonth fm_reportDay fm_reportKind fm_trust fm_letter fm_deedMonth fm_deedDay fm_deedLong fm_deedKind fm_kept fm_tape fm_official fm_aside fm_worth fm_out p1 gmi_0 gmi_1 gmi_2 gmi_4 gmi_7 gmi_10 gmi_17 gmi_23 gmi_24 gmi_26 gmi_29 gmi_30 gmi_33 gmi_37 gmi_41 gmi_50 gmi_51 gmi_56 gfm_row gfm_struck gfm_reportKnown gfm_reportPlace gfm_reportMonth gfm_reportDay) (cwV 1 hts (gz_gV mGB_261 mGB_262 mGB_263 mGB_1 mGB_264 goodGB) rfl rfl rfl (by decide +kernel) ⟨Nat.le_of_ble_eq_true rfl, Nat.le_of_ble_eq_true rfl⟩) ⟨bl_W, mw_recv hK hP, fun U hU hW => ⟨rfl, by rw [hU], by rw [hU]; exact hP, va_K.moved hW.alike hK, hD.weaken (fun _ _ _ _ => trivial)⟩⟩ rfl rfl hl.1 rfl (lv_room (Nat.le_of_ble_eq_true rfl)) dX12_dueSpan_31 ⟨Nat.zero_le _, Nat.zero_le _⟩) hS (fun q _ h => hFc q h) hFc (fun u t H1 locs ht hvm hw hB hz1 hk1 hS => ?_)
        obtain ⟨y_73, y_74, f_75, f_76, f_77, f_78, f_79, f_80, hB⟩ := hB
        obtain ⟨gy_73, gy_74, gf_80, hP1, hD1⟩ := hB
        rw [ht] at hP1
        have hD : va_D A (MWn h0 mr km (mi 0) (mi 1) (mi 2) (mi 3) (mi 4) (mi 5) (mi 6) (mi 7) (mi 10) (mi 17) (mi 23) (mi 24) (mi 26) (mi 27) (mi 28) (mi 29) (mi 30) (mi 31) (mi 32) (mi 33) y_73 y_74 (mi 42) (mi 43) (mi 44) (mi 45) (mi 47) (mi 48) (mi 49) (mi 50) (mi 51) (mi 54) (mi 56) fm_trust fm_letter fm_reportPlace fm_reportKind fm_struck fm_reportMonth fm_reportDay fm_reportKnown fm_deedMonth fm_deedDay fm_deedLong fm_deedKind fm_kept fm_tape f_75 f_76 f_77 f_78 f_79 f_80 fm_official fm_aside fm_worth fm_out) := gz_fullD hFc hD1
        have hP : va_P (dC, dI) vwCl (MWn h0 mr km (mi 0) (mi 1) (mi 2) (mi 3) (mi 4) (mi 5) (mi 6) (mi 7) (mi 10) (mi 17) (mi 23) (mi 24) (mi 26) (mi 27) (mi 28) (mi 29) (mi 30) (mi 31) (mi 32) (mi 33) y_73 y_74 (mi 42) (mi 43) (mi 44) (mi 45) (mi 47) (mi 48) (mi 49) (mi 50) (mi 51) (mi 54) (mi 56) fm_trust fm_letter fm_reportPlace fm_reportKind fm_struck fm_reportMonth fm_reportDay fm_reportKnown fm_deedMonth fm_deedDay fm_deedLong fm_deedKind fm_kept fm_tape f_75 f_76 f_77 f_78 f_79 f_80 fm_official fm_aside fm_worth fm_out) H1 := hP1
        generalize H1 = H at hP hS ⊢
        refine lv_aload_n hx hb dX12_dueSpan_34 rfl (lv_at hl 0 rfl) ?_
        refine lv_iload_n hx hb dX12_dueSpan_35 rfl (lv_at hl 2 rfl) ?_
        refine lv_iload_n hx hb dX12_dueSpan_36 rfl (lv_at hl 3 rfl) ?_
        have hFc := gz_fullF hD hS hA
        refine va_calli (va_runV (As := [.int p2, .int p3]) (rest := []) ⟨hx, hb, hml, hown, hts⟩ (sX12_dueSpanOf l dC dI H.size h0 (upd (upd mi 37 y_73) 41 y_74) mr km f_75 f_76 f_77 f_78 fm_deedMonth fm_deedLong fm_deedKind fm_deedDay fm_trust fm_letter fm_reportPlace fm_reportKind fm_struck fm_reportMonth fm_reportDay fm_reportKnown fm_kept fm_tape f_79 f_80 fm_official fm_aside fm_worth fm_out p2 p3 gmi_0 gmi_1 gmi_2 gmi_4 gmi_7 gmi_10 gmi_17 gmi_23 gmi_24 gmi_26 gmi_29 gmi_30 gmi_33 gy_73 gy_74 gmi_50 gmi_51 gmi_56 gfm_deedMonth gfm_deedLong g_66 hdd) (cwV 2 hts (gz_gV mGB_480 mGB_481 mGB_482 mGB_1 mGB_483 goodGB) rfl rfl rfl (by decide +kernel) ⟨Nat.le_of_ble_eq_true rfl, Nat.le_of_ble_eq_true rfl⟩) ⟨bl_W, mw_recv hK hP, fun U hU hW => ⟨rfl, by rw [hU], by rw [hU]; exact hP, va_K.moved hW.alike hK, hD.weaken (fun _ _ _ _ => trivial)⟩⟩ rfl rfl hl.1 rfl (lv_room (Nat.le_of_ble_eq_true rfl)) dX12_dueSpan_37 ⟨Nat.zero_le _, Nat.zero_le _⟩) hS (fun q _ h => hFc q h) hFc (fun r_81 u t H1 locs ht hvm hw hB hz1 hk1 hS => ?_)
        obtain ⟨f_82, f_83, hB⟩ := hB
        obtain ⟨hP1, hD1⟩ := hB
        rw [ht] at hP1
        have hD : va_D A (MWn h0 mr km (mi 0) (mi 1) (mi 2) (mi 3) (mi 4) (mi 5) (mi 6) (mi 7) (mi 10) (mi 17) (mi 23) (mi 24) (mi 26) (mi 27) (mi 28) (mi 29) (mi 30) (mi 31) (mi 32) (mi 33) y_73 y_74 (mi 42) (mi 43) (mi 44) (mi 45) (mi 47) (mi 48) (mi 49) (mi 50) (mi 51) (mi 54) (mi 56) fm_trust fm_letter fm_reportPlace fm_reportKind fm_struck fm_reportMonth fm_reportDay fm_reportKnown fm_deedMonth fm_deedDay fm_deedLong fm_deedKind fm_kept fm_tape f_75 f_76 f_82 f_83 f_79 f_80 fm_official fm_aside fm_worth fm_out) := gz_fullD hFc hD1
        have hP : va_P (dC, dI) vwCl (MWn h0 mr km (mi 0) (mi 1) (mi 2) (mi 3) (mi 4) (mi 5) (mi 6) (mi 7) (mi 10) (mi 17) (mi 23) (mi 24) (mi 26) (mi 27) (mi 28) (mi 29) (mi 30) (mi 31) (mi 32) (mi 33) y_73 y_74 (mi 42) (mi 43) (mi 44) (mi 45) (mi 47) (mi 48) (mi 49) (mi 50) (mi 51) (mi 54) (mi 56) fm_trust fm_letter fm_reportPlace fm_reportKind fm_struck fm_reportMonth fm_reportDay fm_reportKnown fm_deedMonth fm_deedDay fm_deedLong fm_deedKind fm_kept fm_tape f_75 f_76 f_82 f_83 f_79 f_80 fm_official fm_aside fm_worth fm_out) H1 := hP1
        generalize H1 = H at hP hS ⊢
        have gr_81 : gi r_81 (-2) 1320 := hw
        exact W.iret (v := r_81) hx hb hr (fun t ht hW => ⟨⟨r_81, (), rfl, gr_81, y_73, y_74, f_75, f_76, f_82, f_83, f_79, f_80, gy_73, gy_74, gf_80, by rw [ht]; exact hP, hD⟩, hS.F ht⟩) hS.2.2 dX12_dueSpan_40
      · have g_84 : gi r_68 0 0 := gi_eq c_69 (gi_c 0 0 (by decide))
        refine lv_bipush (v := (-2)) hx hb dX12_dueSpan_26 (by decide) ?_
        exact W.iret (v := (-2)) hx hb hr (fun t ht hW => ⟨⟨(-2), (), rfl, (gi_w (gi_c (-2) (-2) (by decide)) (by decide)), (mi 37), (mi 41), fm_must, fm_least, fm_pin, fm_ways, fm_verdict, fm_row, gmi_37, gmi_41, gfm_row, by rw [ht]; exact hP, hD⟩, hS.F ht⟩) hS.2.2 dX12_dueSpan_28
theorem dX12_dueOn_0 : decode cX12_dueOn 0 = .ok (.aload_n 0, 1) := by decide +kernel
theorem dX12_dueOn_1 : decode cX12_dueOn 1 = .ok (.iload_n 1, 1) := by decide +kernel
theorem dX12_dueOn_2 : decode cX12_dueOn 2 = .ok (.invokevirtual 359, 3) := by decide +kernel
theorem dX12_dueOn_5 : decode cX12_dueOn 5 = .ok (.ifCond .eq 11, 3) := by decide +kernel
theorem dX12_dueOn_8 : decode cX12_dueOn 8 = .ok (.aload_n 0, 1) := by decide +kernel
theorem dX12_dueOn_9 : decode cX12_dueOn 9 = .ok (.iload_n 2, 1) := by decide +kernel
theorem dX12_dueOn_10 : decode cX12_dueOn 10 = .ok (.invokevirtual 306, 3) := by decide +kernel
theorem dX12_dueOn_13 : decode cX12_dueOn 13 = .ok (.ifCond .ne 6, 3) := by decide +kernel
theorem dX12_dueOn_16 : decode cX12_dueOn 16 = .ok (.bipush (-2), 2) := by decide +kernel
theorem dX12_dueOn_18 : decode cX12_dueOn 18 = .ok (.ireturn, 1) := by decide +kernel
theorem dX12_dueOn_19 : decode cX12_dueOn 19 = .ok (.aload_n 0, 1) := by decide +kernel
theorem dX12_dueOn_20 : decode cX12_dueOn 20 = .ok (.iload_n 1, 1) := by decide +kernel
theorem dX12_dueOn_21 : decode cX12_dueOn 21 = .ok (.invokevirtual 362, 3) := by decide +kernel
theorem dX12_dueOn_24 : decode cX12_dueOn 24 = .ok (.iload_n 3, 1) := by decide +kernel
theorem dX12_dueOn_25 : decode cX12_dueOn 25 = .ok (.ifCond .lt 10, 3) := by decide +kernel
theorem dX12_dueOn_28 : decode cX12_dueOn 28 = .ok (.iload_n 3, 1) := by decide +kernel
theorem dX12_dueOn_29 : decode cX12_dueOn 29 = .ok (.sipush 8991, 3) := by decide +kernel
theorem dX12_dueOn_32 : decode cX12_dueOn 32 = .ok (.if_icmp .le 7, 3) := by decide +kernel
theorem dX12_dueOn_35 : decode cX12_dueOn 35 = .ok (.iconst 0, 1) := by decide +kernel
theorem dX12_dueOn_36 : decode cX12_dueOn 36 = .ok (.goto 9, 3) := by decide +kernel
theorem dX12_dueOn_39 : decode cX12_dueOn 39 = .ok (.aload_n 0, 1) := by decide +kernel
theorem dX12_dueOn_40 : decode cX12_dueOn 40 = .ok (.iload_n 2, 1) := by decide +kernel
theorem dX12_dueOn_41 : decode cX12_dueOn 41 = .ok (.iload_n 3, 1) := by decide +kernel
theorem dX12_dueOn_42 : decode cX12_dueOn 42 = .ok (.invokevirtual 444, 3) := by decide +kernel
theorem dX12_dueOn_45 : decode cX12_dueOn 45 = .ok (.ireturn, 1) := by decide +kernel
abbrev pb_sX12_dueOn (dC : Nat → ClassId) (dI : Nat → Nat → Nat) (A9 : Nat → Prop) (h0 : Nat) (mi : Nat → Int32) (mr : Nat → Nat) (km : Nat → ClassId) (fm_must : Nat → Int32) (fm_least : Nat → Int32) (fm_pin : Nat → Int32) (fm_ways : Nat → Int32) (fm_verdict : Nat → Int32) (fm_row : Nat → Int32) (fm_struck : Nat → Int32) (fm_reportKnown : Nat → Int32) (fm_reportPlace : Nat → Int32) (fm_reportMonth : Nat → Int32) (fm_reportDay : Nat → Int32) (fm_reportKind : Nat → Int32) (fm_trust : Nat → Int32) (fm_letter : Nat → Int32) (fm_deedMonth : Nat → Int32) (fm_deedLong : Nat → Int32) (fm_deedKind : Nat → Int32) (fm_deedDay : Nat → Int32) (fm_kept : Nat → Int32) (fm_tape : Nat → Int32) (fm_official : Nat → Int32) (fm_aside : Nat → Int32) (fm_worth : Nat → Int32) (fm_out : Nat → Int32) (p1 : Int32) (p2 : Int32) (p3 : Int32) (w0_37 : Int32) (w0_41 : Int32) (z1 : Nat → Int32) (z2 : Nat → Int32) (z3 : Nat → Int32) (z4 : Nat → Int32) (z5 : Nat → Int32) (z6 : Nat → Int32) (t : State) : Prop := gi w0_37 0 1 ∧ gi w0_41 0 24 ∧ ga z6 24 0 23 ∧ va_P (dC, dI) vwCl (MWn h0 mr km (mi 0) (mi 1) (mi 2) (mi 3) (mi 4) (mi 5) (mi 6) (mi 7) (mi 10) (mi 17) (mi 23) (mi 24) (mi 26) (mi 27) (mi 28) (mi 29) (mi 30) (mi 31) (mi 32) (mi 33) w0_37 w0_41 (mi 42) (mi 43) (mi 44) (mi 45) (mi 47) (mi 48) (mi 49) (mi 50) (mi 51) (mi 54) (mi 56) fm_trust fm_letter fm_reportPlace fm_reportKind fm_struck fm_reportMonth fm_reportDay fm_reportKnown fm_deedMonth fm_deedDay fm_deedLong fm_deedKind fm_kept fm_tape z1 z2 z3 z4 z5 z6 fm_official fm_aside fm_worth fm_out) t.heap ∧ va_D A9 (MWn h0 mr km (mi 0) (mi 1) (mi 2) (mi 3) (mi 4) (mi 5) (mi 6) (mi 7) (mi 10) (mi 17) (mi 23) (mi 24) (mi 26) (mi 27) (mi 28) (mi 29) (mi 30) (mi 31) (mi 32) (mi 33) w0_37 w0_41 (mi 42) (mi 43) (mi 44) (mi 45) (mi 47) (mi 48) (mi 49) (mi 50) (mi 51) (mi 54) (mi 56) fm_trust fm_letter fm_reportPlace fm_reportKind fm_struck fm_reportMonth fm_reportDay fm_reportKnown fm_deedMonth fm_deedDay fm_deedLong fm_deedKind fm_kept fm_tape z1 z2 z3 z4 z5 z6 fm_official fm_aside fm_worth fm_out)
set_option maxHeartbeats 4000000 in
set_option maxRecDepth 100000 in
theorem sX12_dueOn (l : Launch) (dC : Nat → ClassId) (dI : Nat → Nat → Nat) (sz : Nat) (h0 : Nat) (mi : Nat → Int32) (mr : Nat → Nat) (km : Nat → ClassId) (fm_must : Nat → Int32) (fm_least : Nat → Int32) (fm_pin : Nat → Int32) (fm_ways : Nat → Int32) (fm_verdict : Nat → Int32) (fm_row : Nat → Int32) (fm_struck : Nat → Int32) (fm_reportKnown : Nat → Int32) (fm_reportPlace : Nat → Int32) (fm_reportMonth : Nat → Int32) (fm_reportDay : Nat → Int32) (fm_reportKind : Nat → Int32) (fm_trust : Nat → Int32) (fm_letter : Nat → Int32) (fm_deedMonth : Nat → Int32) (fm_deedLong : Nat → Int32) (fm_deedKind : Nat → Int32) (fm_deedDay : Nat → Int32) (fm_kept : Nat → Int32) (fm_tape : Nat → Int32) (fm_official : Nat → Int32) (fm_aside : Nat → Int32) (fm_worth : Nat → Int32) (fm_out : Nat → Int32) (p1 : Int32) (p2 : Int32) (p3 : Int32) (gmi_0 : gi (mi 0) 0 24) (gmi_1 : gi (mi 1) 0 5) (gmi_2 : gi (mi 2) 0 5) (gmi_4 : gi (mi 4) 0 1) (gmi_7 : gi (mi 7) 0 6) (gmi_10 : gi (mi 10) 0 24) (gmi_17 : gi (mi 17) 0 8) (gmi_23 : gi (mi 23) 0 300) (gmi_24 : gi (mi 24) 0 1) (gmi_26 : gi (mi 26) 0 1600) (gmi_29 : gi (mi 29) 0 1600) (gmi_30 : gi (mi 30) 0 1600) (gmi_33 : gi (mi 33) 0 1) (gmi_37 : gi (mi 37) 0 1) (gmi_41 : gi (mi 41) 0 24) (gmi_50 : gi (mi 50) 0 1) (gmi_51 : gi (mi 51) 0 1) (gmi_56 : gi (mi 56) 0 80) (gfm_row : ga fm_row 24 0 23) (gfm_struck : ga fm_struck 24 0 1) (gfm_reportKnown : ga fm_reportKnown 24 0 999) (gfm_reportPlace : ga fm_reportPlace 24 0 5) (gfm_reportMonth : ga fm_reportMonth 24 0 23) (gfm_reportDay : ga fm_reportDay 24 0 999) (gfm_deedMonth : ga fm_deedMonth 8 0 23) (gfm_deedLong : ga fm_deedLong 8 0 600) (hdd : ∀ j : Nat, j < 8 → ((fm_deedKind j).toInt ≠ 0 ∨ (fm_deedMonth j).toInt + (fm_deedLong j).toInt ≤ 23)) : Met l yX12_dueOn (.code yX12_dueOn cX12_dueOn 4 (some .int) :: wsGB) ({ frames := 7, cells := 0, slots := 0, locals := 170 }) (va_Pc [.ref h0, .int p1, .int p2, .int p3] (fun U => U.heap.size = sz ∧ va_P (dC, dI) vwCl (MWn h0 mr km (mi 0) (mi 1) (mi 2) (mi 3) (mi 4) (mi 5) (mi 6) (mi 7) (mi 10) (mi 17) (mi 23) (mi 24) (mi 26) (mi 27) (mi 28) (mi 29) (mi 30) (mi 31) (mi 32) (mi 33) (mi 37) (mi 41) (mi 42) (mi 43) (mi 44) (mi 45) (mi 47) (mi 48) (mi 49) (mi 50) (mi 51) (mi 54) (mi 56) fm_trust fm_letter fm_reportPlace fm_reportKind fm_struck fm_reportMonth fm_reportDay fm_reportKnown fm_deedMonth fm_deedDay fm_deedLong fm_deedKind fm_kept fm_tape fm_must fm_least fm_pin fm_ways fm_verdict fm_row fm_official fm_aside fm_worth fm_out) U.heap ∧ va_K (dC, dI) vwCl (MT km) U ∧ va_D (fun _ => True) (MWn h0 mr km (mi 0) (mi 1) (mi 2) (mi 3) (mi 4) (mi 5) (mi 6) (mi 7) (mi 10) (mi 17) (mi 23) (mi 24) (mi 26) (mi 27) (mi 28) (mi 29) (mi 30) (mi 31) (mi 32) (mi 33) (mi 37) (mi 41) (mi 42) (mi 43) (mi 44) (mi 45) (mi 47) (mi 48) (mi 49) (mi 50) (mi 51) (mi 54) (mi 56) fm_trust fm_letter fm_reportPlace fm_reportKind fm_struck fm_reportMonth fm_reportDay fm_reportKnown fm_deedMonth fm_deedDay fm_deedLong fm_deedKind fm_kept fm_tape fm_must fm_least fm_pin fm_ways fm_verdict fm_row fm_official fm_aside fm_worth fm_out))) (va_Qi (fun (r : Int32) (u : Unit) => gi r (-2147483648) 2147483647) (fun _ t => ∃ (w0_37 : Int32) (w0_41 : Int32) (z1 : Nat → Int32) (z2 : Nat → Int32) (z3 : Nat → Int32) (z4 : Nat → Int32) (z5 : Nat → Int32) (z6 : Nat → Int32), pb_sX12_dueOn dC dI (va_A (MWn h0 mr km (mi 0) (mi 1) (mi 2) (mi 3) (mi 4) (mi 5) (mi 6) (mi 7) (mi 10) (mi 17) (mi 23) (mi 24) (mi 26) (mi 27) (mi 28) (mi 29) (mi 30) (mi 31) (mi 32) (mi 33) (mi 37) (mi 41) (mi 42) (mi 43) (mi 44) (mi 45) (mi 47) (mi 48) (mi 49) (mi 50) (mi 51) (mi 54) (mi 56) fm_trust fm_letter fm_reportPlace fm_reportKind fm_struck fm_reportMonth fm_reportDay fm_reportKnown fm_deedMonth fm_deedDay fm_deedLong fm_deedKind fm_kept fm_tape fm_must fm_least fm_pin fm_ways fm_verdict fm_row fm_official fm_aside fm_worth fm_out) sz) h0 mi mr km fm_must fm_least fm_pin fm_ways fm_verdict fm_row fm_struck fm_reportKnown fm_reportPlace fm_reportMonth fm_reportDay fm_reportKind fm_trust fm_letter fm_deedMonth fm_deedLong fm_deedKind fm_deedDay fm_kept fm_tape fm_official fm_aside fm_worth fm_out p1 p2 p3 w0_37 w0_41 z1 z2 z3 z4 z5 z6 t) (va_A (MWn h0 mr km (mi 0) (mi 1) (mi 2) (mi 3) (mi 4) (mi 5) (mi 6) (mi 7) (mi 10) (mi 17) (mi 23) (mi 24) (mi 26) (mi 27) (mi 28) (mi 29) (mi 30) (mi 31) (mi 32) (mi 33) (mi 37) (mi 41) (mi 42) (mi 43) (mi 44) (mi 45) (mi 47) (mi 48) (mi 49) (mi 50) (mi 51) (mi 54) (mi 56) fm_trust fm_letter fm_reportPlace fm_reportKind fm_struck fm_reportMonth fm_reportDay fm_reportKnown fm_deedMonth fm_deedDay fm_deedLong fm_deedKind fm_kept fm_tape fm_must fm_least fm_pin fm_ways fm_verdict fm_row fm_official fm_aside fm_worth fm_out) sz)) 0 0 (va_A (MWn h0 mr km (mi 0) (mi 1) (mi 2) (mi 3) (mi 4) (mi 5) (mi 6) (mi 7) (mi 10) (mi 17) (mi 23) (mi 24) (mi 26) (mi 27) (mi 28) (mi 29) (mi 30) (mi 31) (mi 32) (mi 33) (mi 37) (mi 41) (mi 42) (mi 43) (mi 44) (mi 45) (mi 47) (mi 48) (mi 49) (mi 50) (mi 51) (mi 54) (mi 56) fm_trust fm_letter fm_reportPlace fm_reportKind fm_struck fm_reportMonth fm_reportDay fm_reportKnown fm_deedMonth fm_deedDay fm_deedLong fm_deedKind fm_kept fm_tape fm_must fm_least fm_pin fm_ways fm_verdict fm_row fm_official fm_aside fm_worth fm_out) sz) := by
  refine Met.ofW (cc := cX12_dueOn) (maxL := 4) (ret := (some .int)) (by decide) rfl ?_
  intro p e s m args below meth c s₁ B hml hv
  obtain ⟨rfl, hsz, hP, hK, hD0⟩ := hv
  have hx := B.exec
  have hb := B.bytes
  have hr := B.returns
  have hts := atoms_spec (ws := (.code yX12_dueOn cX12_dueOn 4 (some .int) :: wsGB)) B.pre
  have hown : s.vm.findClass RX12 = some m.cls := findClass_of_methodNamed B.named
  have hlocks := B.notSynchronized
  subst hsz
  have hD := hD0.self (sz := s.heap.size)
  generalize hAe : va_A (MWn h0 mr km (mi 0) (mi 1) (mi 2) (mi 3) (mi 4) (mi 5) (mi 6) (mi 7) (mi 10) (mi 17) (mi 23) (mi 24) (mi 26) (mi 27) (mi 28) (mi 29) (mi 30) (mi 31) (mi 32) (mi 33) (mi 37) (mi 41) (mi 42) (mi 43) (mi 44) (mi 45) (mi 47) (mi 48) (mi 49) (mi 50) (mi 51) (mi 54) (mi 56) fm_trust fm_letter fm_reportPlace fm_reportKind fm_struck fm_reportMonth fm_reportDay fm_reportKnown fm_deedMonth fm_deedDay fm_deedLong fm_deedKind fm_kept fm_tape fm_must fm_least fm_pin fm_ways fm_verdict fm_row fm_official fm_aside fm_worth fm_out) s.heap.size = A at hD ⊢
  have hA : ∀ q : Nat, s.heap.size ≤ q → A q := fun q h => by rw [← hAe]; exact Or.inr h
  have hS : va_S A s.heap s.heap [] := va_S.rf
  have hl := lv_entry ([.ref h0, .int p1, .int p2, .int p3]) (n := 4) (Nat.le_of_ble_eq_true rfl)
  rw [lg_entry_eq]
  generalize (lg_sl ([.ref h0, .int p1, .int p2, .int p3]) ++ List.replicate (4 - (lg_sl ([.ref h0, .int p1, .int p2, .int p3])).length) Slot.unset).toArray = ls at hl ⊢
  have hl : lv_has ls 4 [(0, .ref h0), (1, .int p1), (2, .int p2), (3, .int p3)] := hl
  refine lv_aload_n hx hb dX12_dueOn_0 rfl (lv_at hl 0 rfl) ?_
  refine lv_iload_n hx hb dX12_dueOn_1 rfl (lv_at hl 1 rfl) ?_
  refine va_calli (va_runV (As := [.int p1]) (rest := []) ⟨hx, hb, hml, hown, hts⟩ (sX12_isTime l dC dI h0 mi mr km fm_trust fm_letter fm_reportPlace fm_reportKind fm_struck fm_reportMonth fm_reportDay fm_reportKnown fm_deedMonth fm_deedDay fm_deedLong fm_deedKind fm_kept fm_tape fm_must fm_least fm_pin fm_ways fm_verdict fm_row fm_official fm_aside fm_worth fm_out p1 gmi_0 gmi_1 gmi_2 gmi_4 gmi_7 gmi_10 gmi_17 gmi_23 gmi_24 gmi_26 gmi_29 gmi_30 gmi_33 gmi_37 gmi_41 gmi_50 gmi_51 gmi_56) (cwV 1 hts (gz_gV mGB_256 mGB_257 mGB_258 mGB_1 mGB_259 goodGB) rfl rfl rfl (by decide +kernel) ⟨Nat.le_of_ble_eq_true rfl, Nat.le_of_ble_eq_true rfl⟩) ⟨bl_R, mw_recv hK hP, fun U hU hW => ⟨rfl, by rw [hU]; exact hP, va_K.moved hW.alike hK⟩⟩ rfl rfl hl.1 rfl (lv_room (Nat.le_of_ble_eq_true rfl)) dX12_dueOn_2 ⟨Nat.zero_le _, Nat.zero_le _⟩) hS (fun q _ h => h.elim) (fun q h => h.elim) (fun r_57 u t H1 locs ht hvm hw hB hz1 hk1 hS => ?_)
  obtain ⟨hw, hE⟩ := hw
  have hP := gz_keep hP hk1
  generalize H1 = H at hP hS ⊢
  have gr_57 : gi r_57 0 1 := hw.1
  have hqr_57 := hw.2
  refine lv_if_eq (tgt := 16) hx hb dX12_dueOn_5 (by decide) (fun c_58 => ?_) (fun c_58 => ?_)
  · have g_59 : gi r_57 0 0 := gi_eq c_58 (gi_c 0 0 (by decide))
    refine lv_bipush (v := (-2)) hx hb dX12_dueOn_16 (by decide) ?_
    exact W.iret (v := (-2)) hx hb hr (fun t ht hW => ⟨⟨(-2), (), rfl, (gi_any (-2)), (mi 37), (mi 41), fm_must, fm_least, fm_pin, fm_ways, fm_verdict, fm_row, gmi_37, gmi_41, gfm_row, by rw [ht]; exact hP, hD⟩, hS.F ht⟩) hS.2.2 dX12_dueOn_18
  · have g_60 : gi r_57 1 1 := gi_ne_lo c_58 gr_57 (gi_c 0 0 (by decide)) (by decide)
    have g_61 : gi p1 0 999 := gi_cap (gi_any p1) (hqr_57 (gz_one g_60)) (by decide)
    refine lv_aload_n hx hb dX12_dueOn_8 rfl (lv_at hl 0 rfl) ?_
    refine lv_iload_n hx hb dX12_dueOn_9 rfl (lv_at hl 2 rfl) ?_
    refine va_calli (va_runV (As := [.int p2]) (rest := []) ⟨hx, hb, hml, hown, hts⟩ (sX12_isDeed l dC dI h0 mi mr km fm_trust fm_letter fm_reportPlace fm_reportKind fm_struck fm_reportMonth fm_reportDay fm_reportKnown fm_deedMonth fm_deedDay fm_deedLong fm_deedKind fm_kept fm_tape fm_must fm_least fm_pin fm_ways fm_verdict fm_row fm_official fm_aside fm_worth fm_out p2 gmi_0 gmi_1 gmi_2 gmi_4 gmi_7 gmi_10 gmi_17 gmi_23 gmi_24 gmi_26 gmi_29 gmi_30 gmi_33 gmi_37 gmi_41 gmi_50 gmi_51 gmi_56) (cwV 1 hts (gz_gV mGB_242 mGB_243 mGB_244 mGB_1 mGB_245 goodGB) rfl rfl rfl (by decide +kernel) ⟨Nat.le_of_ble_eq_true rfl, Nat.le_of_ble_eq_true rfl⟩) ⟨bl_R, mw_recv hK hP, fun U hU hW => ⟨rfl, by rw [hU]; exact hP, va_K.moved hW.alike hK⟩⟩ rfl rfl hl.1 rfl (lv_room (Nat.le_of_ble_eq_true rfl)) dX12_dueOn_10 ⟨Nat.zero_le _, Nat.zero_le _⟩) hS (fun q _ h => h.elim) (fun q h => h.elim) (fun r_62 u t H1 locs ht hvm hw hB hz1 hk1 hS => ?_)
    obtain ⟨hw, hE⟩ := hw
    have hP := gz_keep hP hk1
    generalize H1 = H at hP hS ⊢
    have gr_62 : gi r_62 0 1 := hw.1
    have hqr_62 := hw.2
    refine lv_if_ne (tgt := 19) hx hb dX12_dueOn_13 (by decide) (fun c_63 => ?_) (fun c_63 => ?_)
    · have g_64 : gi r_62 1 1 := gi_ne_lo c_63 gr_62 (gi_c 0 0 (by decide)) (by decide)
      have g_65 : gi p2 0 7 := gi_cap (gi_any p2) (hqr_62 (gz_one g_64)) (by decide)
      refine lv_aload_n hx hb dX12_dueOn_19 rfl (lv_at hl 0 rfl) ?_
      refine lv_iload_n hx hb dX12_dueOn_20 rfl (lv_at hl 1 rfl) ?_
      have hFc := gz_fullF hD hS hA
      refine va_callv (va_runV (As := [.int p1]) (rest := []) ⟨hx, hb, hml, hown, hts⟩ (sX12_judgesAll l dC dI H.size h0 mi mr km fm_must fm_least fm_pin fm_ways fm_verdict fm_row fm_struck fm_reportKnown fm_reportPlace fm_reportMonth fm_reportDay fm_reportKind fm_trust fm_letter fm_deedMonth fm_deedDay fm_deedLong fm_deedKind fm_kept fm_tape fm_official fm_aside fm_worth fm_out p1 gmi_0 gmi_1 gmi_2 gmi_4 gmi_7 gmi_10 gmi_17 gmi_23 gmi_24 gmi_26 gmi_29 gmi_30 gmi_33 gmi_37 gmi_41 gmi_50 gmi_51 gmi_56 gfm_row gfm_struck gfm_reportKnown gfm_reportPlace gfm_reportMonth gfm_reportDay) (cwV 1 hts (gz_gV mGB_261 mGB_262 mGB_263 mGB_1 mGB_264 goodGB) rfl rfl rfl (by decide +kernel) ⟨Nat.le_of_ble_eq_true rfl, Nat.le_of_ble_eq_true rfl⟩) ⟨bl_W, mw_recv hK hP, fun U hU hW => ⟨rfl, by rw [hU], by rw [hU]; exact hP, va_K.moved hW.alike hK, hD.weaken (fun _ _ _ _ => trivial)⟩⟩ rfl rfl hl.1 rfl (lv_room (Nat.le_of_ble_eq_true rfl)) dX12_dueOn_21 ⟨Nat.zero_le _, Nat.zero_le _⟩) hS (fun q _ h => hFc q h) hFc (fun u t H1 locs ht hvm hw hB hz1 hk1 hS => ?_)
      obtain ⟨y_67, y_68, f_69, f_70, f_71, f_72, f_73, f_74, hB⟩ := hB
      obtain ⟨gy_67, gy_68, gf_74, hP1, hD1⟩ := hB
      rw [ht] at hP1
      have hD : va_D A (MWn h0 mr km (mi 0) (mi 1) (mi 2) (mi 3) (mi 4) (mi 5) (mi 6) (mi 7) (mi 10) (mi 17) (mi 23) (mi 24) (mi 26) (mi 27) (mi 28) (mi 29) (mi 30) (mi 31) (mi 32) (mi 33) y_67 y_68 (mi 42) (mi 43) (mi 44) (mi 45) (mi 47) (mi 48) (mi 49) (mi 50) (mi 51) (mi 54) (mi 56) fm_trust fm_letter fm_reportPlace fm_reportKind fm_struck fm_reportMonth fm_reportDay fm_reportKnown fm_deedMonth fm_deedDay fm_deedLong fm_deedKind fm_kept fm_tape f_69 f_70 f_71 f_72 f_73 f_74 fm_official fm_aside fm_worth fm_out) := gz_fullD hFc hD1
      have hP : va_P (dC, dI) vwCl (MWn h0 mr km (mi 0) (mi 1) (mi 2) (mi 3) (mi 4) (mi 5) (mi 6) (mi 7) (mi 10) (mi 17) (mi 23) (mi 24) (mi 26) (mi 27) (mi 28) (mi 29) (mi 30) (mi 31) (mi 32) (mi 33) y_67 y_68 (mi 42) (mi 43) (mi 44) (mi 45) (mi 47) (mi 48) (mi 49) (mi 50) (mi 51) (mi 54) (mi 56) fm_trust fm_letter fm_reportPlace fm_reportKind fm_struck fm_reportMonth fm_reportDay fm_reportKnown fm_deedMonth fm_deedDay fm_deedLong fm_deedKind fm_kept fm_tape f_69 f_70 f_71 f_72 f_73 f_74 fm_official fm_aside fm_worth fm_out) H1 := hP1
      generalize H1 = H at hP hS ⊢
      refine lv_iload_n hx hb dX12_dueOn_24 rfl (lv_at hl 3 rfl) ?_
      refine lv_if_lt (tgt := 35) hx hb dX12_dueOn_25 (by decide) (fun c_75 => ?_) (fun c_75 => ?_)
      · have g_76 : gi p3 (-2147483648) (-1) := gi_lt_l c_75 (gi_any p3) (gi_c 0 0 (by decide)) (by decide)
        refine lv_iconst (v := 0) hx hb dX12_dueOn_35 (by decide) ?_
        refine lv_goto (tgt := 45) hx hb dX12_dueOn_36 (by decide) ?_
        exact W.iret (v := 0) hx hb hr (fun t ht hW => ⟨⟨0, (), rfl, (gi_any 0), y_67, y_68, f_69, f_70, f_71, f_72, f_73, f_74, gy_67, gy_68, gf_74, by rw [ht]; exact hP, hD⟩, hS.F ht⟩) hS.2.2 dX12_dueOn_45
      · have g_77 : gi p3 0 2147483647 := gi_le_r (Int32.not_lt.mp c_75) (gi_c 0 0 (by decide)) (gi_any p3)
        refine lv_iload_n hx hb dX12_dueOn_28 rfl (lv_at hl 3 rfl) ?_
        refine lv_sipush (v := 8991) hx hb dX12_dueOn_29 (by decide) ?_
        refine lv_icmp_le (tgt := 39) hx hb dX12_dueOn_32 (by decide) (fun c_78 => ?_) (fun c_78 => ?_)
        · have g_79 : gi p3 0 8991 := gi_le_l c_78 g_77 (gi_c 8991 8991 (by decide))
          refine lv_aload_n hx hb dX12_dueOn_39 rfl (lv_at hl 0 rfl) ?_
          refine lv_iload_n hx hb dX12_dueOn_40 rfl (lv_at hl 2 rfl) ?_
          refine lv_iload_n hx hb dX12_dueOn_41 rfl (lv_at hl 3 rfl) ?_
          have hFc := gz_fullF hD hS hA
          refine va_calli (va_runV (As := [.int p2, .int p3]) (rest := []) ⟨hx, hb, hml, hown, hts⟩ (sX12_duesOn l dC dI H.size h0 (upd (upd mi 37 y_67) 41 y_68) mr km f_69 f_70 f_71 f_72 fm_deedMonth fm_deedLong fm_deedKind fm_deedDay fm_trust fm_letter fm_reportPlace fm_reportKind fm_struck fm_reportMonth fm_reportDay fm_reportKnown fm_kept fm_tape f_73 f_74 fm_official fm_aside fm_worth fm_out p2 p3 gmi_0 gmi_1 gmi_2 gmi_4 gmi_7 gmi_10 gmi_17 gmi_23 gmi_24 gmi_26 gmi_29 gmi_30 gmi_33 gy_67 gy_68 gmi_50 gmi_51 gmi_56 gfm_deedMonth gfm_deedLong g_65 hdd) (cwV 2 hts (gz_gV mGB_484 mGB_485 mGB_486 mGB_1 mGB_487 goodGB) rfl rfl rfl (by decide +kernel) ⟨Nat.le_of_ble_eq_true rfl, Nat.le_of_ble_eq_true rfl⟩) ⟨bl_W, mw_recv hK hP, fun U hU hW => ⟨rfl, by rw [hU], by rw [hU]; exact hP, va_K.moved hW.alike hK, hD.weaken (fun _ _ _ _ => trivial)⟩⟩ rfl rfl hl.1 rfl (lv_room (Nat.le_of_ble_eq_true rfl)) dX12_dueOn_42 ⟨Nat.zero_le _, Nat.zero_le _⟩) hS (fun q _ h => hFc q h) hFc (fun r_80 u t H1 locs ht hvm hw hB hz1 hk1 hS => ?_)
          obtain ⟨f_81, f_82, hB⟩ := hB
          obtain ⟨hP1, hD1⟩ := hB
          rw [ht] at hP1
          have hD : va_D A (MWn h0 mr km (mi 0) (mi 1) (mi 2) (mi 3) (mi 4) (mi 5) (mi 6) (mi 7) (mi 10) (mi 17) (mi 23) (mi 24) (mi 26) (mi 27) (mi 28) (mi 29) (mi 30) (mi 31) (mi 32) (mi 33) y_67 y_68 (mi 42) (mi 43) (mi 44) (mi 45) (mi 47) (mi 48) (mi 49) (mi 50) (mi 51) (mi 54) (mi 56) fm_trust fm_letter fm_reportPlace fm_reportKind fm_struck fm_reportMonth fm_reportDay fm_reportKnown fm_deedMonth fm_deedDay fm_deedLong fm_deedKind fm_kept fm_tape f_69 f_70 f_81 f_82 f_73 f_74 fm_official fm_aside fm_worth fm_out) := gz_fullD hFc hD1
          have hP : va_P (dC, dI) vwCl (MWn h0 mr km (mi 0) (mi 1) (mi 2) (mi 3) (mi 4) (mi 5) (mi 6) (mi 7) (mi 10) (mi 17) (mi 23) (mi 24) (mi 26) (mi 27) (mi 28) (mi 29) (mi 30) (mi 31) (mi 32) (mi 33) y_67 y_68 (mi 42) (mi 43) (mi 44) (mi 45) (mi 47) (mi 48) (mi 49) (mi 50) (mi 51) (mi 54) (mi 56) fm_trust fm_letter fm_reportPlace fm_reportKind fm_struck fm_reportMonth fm_reportDay fm_reportKnown fm_deedMonth fm_deedDay fm_deedLong fm_deedKind fm_kept fm_tape f_69 f_70 f_81 f_82 f_73 f_74 fm_official fm_aside fm_worth fm_out) H1 := hP1
          generalize H1 = H at hP hS ⊢
          exact W.iret (v := r_80) hx hb hr (fun t ht hW => ⟨⟨r_80, (), rfl, (gi_any r_80), y_67, y_68, f_69, f_70, f_81, f_82, f_73, f_74, gy_67, gy_68, gf_74, by rw [ht]; exact hP, hD⟩, hS.F ht⟩) hS.2.2 dX12_dueOn_45
        · have g_83 : gi p3 8992 2147483647 := gi_lt_r (Int32.not_le.mp c_78) (gi_c 8991 8991 (by decide)) g_77 (by decide)
          refine lv_iconst (v := 0) hx hb dX12_dueOn_35 (by decide) ?_
          refine lv_goto (tgt := 45) hx hb dX12_dueOn_36 (by decide) ?_
          exact W.iret (v := 0) hx hb hr (fun t ht hW => ⟨⟨0, (), rfl, (gi_any 0), y_67, y_68, f_69, f_70, f_71, f_72, f_73, f_74, gy_67, gy_68, gf_74, by rw [ht]; exact hP, hD⟩, hS.F ht⟩) hS.2.2 dX12_dueOn_45
    · have g_84 : gi r_62 0 0 := gi_eq c_63 (gi_c 0 0 (by decide))
      refine lv_bipush (v := (-2)) hx hb dX12_dueOn_16 (by decide) ?_
      exact W.iret (v := (-2)) hx hb hr (fun t ht hW => ⟨⟨(-2), (), rfl, (gi_any (-2)), (mi 37), (mi 41), fm_must, fm_least, fm_pin, fm_ways, fm_verdict, fm_row, gmi_37, gmi_41, gfm_row, by rw [ht]; exact hP, hD⟩, hS.F ht⟩) hS.2.2 dX12_dueOn_18
theorem dX12_days_0 : decode cX12_days 0 = .ok (.aload_n 0, 1) := by decide +kernel
theorem dX12_days_1 : decode cX12_days 1 = .ok (.iload_n 1, 1) := by decide +kernel
theorem dX12_days_2 : decode cX12_days 2 = .ok (.invokevirtual 359, 3) := by decide +kernel
theorem dX12_days_5 : decode cX12_days 5 = .ok (.ifCond .eq 11, 3) := by decide +kernel
theorem dX12_days_8 : decode cX12_days 8 = .ok (.aload_n 0, 1) := by decide +kernel
theorem dX12_days_9 : decode cX12_days 9 = .ok (.iload_n 2, 1) := by decide +kernel
theorem dX12_days_10 : decode cX12_days 10 = .ok (.invokevirtual 306, 3) := by decide +kernel
theorem dX12_days_13 : decode cX12_days 13 = .ok (.ifCond .ne 6, 3) := by decide +kernel
theorem dX12_days_16 : decode cX12_days 16 = .ok (.bipush (-2), 2) := by decide +kernel
theorem dX12_days_18 : decode cX12_days 18 = .ok (.ireturn, 1) := by decide +kernel
theorem dX12_days_19 : decode cX12_days 19 = .ok (.aload_n 0, 1) := by decide +kernel
theorem dX12_days_20 : decode cX12_days 20 = .ok (.iload_n 1, 1) := by decide +kernel
theorem dX12_days_21 : decode cX12_days 21 = .ok (.invokevirtual 382, 3) := by decide +kernel
theorem dX12_days_24 : decode cX12_days 24 = .ok (.aload_n 0, 1) := by decide +kernel
theorem dX12_days_25 : decode cX12_days 25 = .ok (.iload_n 2, 1) := by decide +kernel
theorem dX12_days_26 : decode cX12_days 26 = .ok (.invokevirtual 429, 3) := by decide +kernel
theorem dX12_days_29 : decode cX12_days 29 = .ok (.aload_n 0, 1) := by decide +kernel
theorem dX12_days_30 : decode cX12_days 30 = .ok (.aload_n 0, 1) := by decide +kernel
theorem dX12_days_31 : decode cX12_days 31 = .ok (.getfield 35, 3) := by decide +kernel
theorem dX12_days_34 : decode cX12_days 34 = .ok (.iload_n 2, 1) := by decide +kernel
theorem dX12_days_35 : decode cX12_days 35 = .ok (.iaload, 1) := by decide +kernel
theorem dX12_days_36 : decode cX12_days 36 = .ok (.aload_n 0, 1) := by decide +kernel
theorem dX12_days_37 : decode cX12_days 37 = .ok (.getfield 38, 3) := by decide +kernel
theorem dX12_days_40 : decode cX12_days 40 = .ok (.iload_n 2, 1) := by decide +kernel
theorem dX12_days_41 : decode cX12_days 41 = .ok (.iaload, 1) := by decide +kernel
theorem dX12_days_42 : decode cX12_days 42 = .ok (.invokevirtual 412, 3) := by decide +kernel
theorem dX12_days_45 : decode cX12_days 45 = .ok (.isub, 1) := by decide +kernel
theorem dX12_days_46 : decode cX12_days 46 = .ok (.ireturn, 1) := by decide +kernel
abbrev pb_sX12_days (dC : Nat → ClassId) (dI : Nat → Nat → Nat) (A9 : Nat → Prop) (h0 : Nat) (mi : Nat → Int32) (mr : Nat → Nat) (km : Nat → ClassId) (fm_must : Nat → Int32) (fm_least : Nat → Int32) (fm_pin : Nat → Int32) (fm_ways : Nat → Int32) (fm_verdict : Nat → Int32) (fm_row : Nat → Int32) (fm_struck : Nat → Int32) (fm_reportKnown : Nat → Int32) (fm_reportPlace : Nat → Int32) (fm_reportMonth : Nat → Int32) (fm_reportDay : Nat → Int32) (fm_reportKind : Nat → Int32) (fm_trust : Nat → Int32) (fm_letter : Nat → Int32) (fm_official : Nat → Int32) (fm_deedMonth : Nat → Int32) (fm_deedLong : Nat → Int32) (fm_deedKind : Nat → Int32) (fm_deedDay : Nat → Int32) (fm_kept : Nat → Int32) (fm_tape : Nat → Int32) (fm_aside : Nat → Int32) (fm_worth : Nat → Int32) (fm_out : Nat → Int32) (p1 : Int32) (p2 : Int32) (w0_37 : Int32) (w0_41 : Int32) (z1 : Nat → Int32) (z2 : Nat → Int32) (z3 : Nat → Int32) (z4 : Nat → Int32) (z5 : Nat → Int32) (z6 : Nat → Int32) (z15 : Nat → Int32) (t : State) : Prop := gi w0_37 0 1 ∧ gi w0_41 0 24 ∧ ga z6 24 0 23 ∧ va_P (dC, dI) vwCl (MWn h0 mr km (mi 0) (mi 1) (mi 2) (mi 3) (mi 4) (mi 5) (mi 6) (mi 7) (mi 10) (mi 17) (mi 23) (mi 24) (mi 26) (mi 27) (mi 28) (mi 29) (mi 30) (mi 31) (mi 32) (mi 33) w0_37 w0_41 (mi 42) (mi 43) (mi 44) (mi 45) (mi 47) (mi 48) (mi 49) (mi 50) (mi 51) (mi 54) (mi 56) fm_trust fm_letter fm_reportPlace fm_reportKind fm_struck fm_reportMonth fm_reportDay fm_reportKnown fm_deedMonth fm_deedDay fm_deedLong fm_deedKind fm_kept fm_tape z1 z2 z3 z4 z5 z6 z15 fm_aside fm_worth fm_out) t.heap ∧ va_D A9 (MWn h0 mr km (mi 0) (mi 1) (mi 2) (mi 3) (mi 4) (mi 5) (mi 6) (mi 7) (mi 10) (mi 17) (mi 23) (mi 24) (mi 26) (mi 27) (mi 28) (mi 29) (mi 30) (mi 31) (mi 32) (mi 33) w0_37 w0_41 (mi 42) (mi 43) (mi 44) (mi 45) (mi 47) (mi 48) (mi 49) (mi 50) (mi 51) (mi 54) (mi 56) fm_trust fm_letter fm_reportPlace fm_reportKind fm_struck fm_reportMonth fm_reportDay fm_reportKnown fm_deedMonth fm_deedDay fm_deedLong fm_deedKind fm_kept fm_tape z1 z2 z3 z4 z5 z6 z15 fm_aside fm_worth fm_out)
set_option maxHeartbeats 4000000 in
set_option maxRecDepth 100000 in
theorem sX12_days (l : Launch) (dC : Nat → ClassId) (dI : Nat → Nat → Nat) (sz : Nat) (h0 : Nat) (mi : Nat → Int32) (mr : Nat → Nat) (km : Nat → ClassId) (fm_must : Nat → Int32) (fm_least : Nat → Int32) (fm_pin : Nat → Int32) (fm_ways : Nat → Int32) (fm_verdict : Nat → Int32) (fm_row : Nat → Int32) (fm_struck : Nat → Int32) (fm_reportKnown : Nat → Int32) (fm_reportPlace : Nat → Int32) (fm_reportMonth : Nat → Int32) (fm_reportDay : Nat → Int32) (fm_reportKind : Nat → Int32) (fm_trust : Nat → Int32) (fm_letter : Nat → Int32) (fm_official : Nat → Int32) (fm_deedMonth : Nat → Int32) (fm_deedLong : Nat → Int32) (fm_deedKind : Nat → Int32) (fm_deedDay : Nat → Int32) (fm_kept : Nat → Int32) (fm_tape : Nat → Int32) (fm_aside : Nat → Int32) (fm_worth : Nat → Int32) (fm_out : Nat → Int32) (p1 : Int32) (p2 : Int32) (gmi_0 : gi (mi 0) 0 24) (gmi_1 : gi (mi 1) 0 5) (gmi_2 : gi (mi 2) 0 5) (gmi_4 : gi (mi 4) 0 1) (gmi_7 : gi (mi 7) 0 6) (gmi_10 : gi (mi 10) 0 24) (gmi_17 : gi (mi 17) 0 8) (gmi_23 : gi (mi 23) 0 300) (gmi_24 : gi (mi 24) 0 1) (gmi_26 : gi (mi 26) 0 1600) (gmi_29 : gi (mi 29) 0 1600) (gmi_30 : gi (mi 30) 0 1600) (gmi_33 : gi (mi 33) 0 1) (gmi_37 : gi (mi 37) 0 1) (gmi_41 : gi (mi 41) 0 24) (gmi_50 : gi (mi 50) 0 1) (gmi_51 : gi (mi 51) 0 1) (gmi_56 : gi (mi 56) 0 80) (gfm_row : ga fm_row 24 0 23) (gfm_struck : ga fm_struck 24 0 1) (gfm_reportKnown : ga fm_reportKnown 24 0 999) (gfm_reportPlace : ga fm_reportPlace 24 0 5) (gfm_reportMonth : ga fm_reportMonth 24 0 23) (gfm_reportDay : ga fm_reportDay 24 0 999) (gfm_deedMonth : ga fm_deedMonth 8 0 23) (gfm_deedLong : ga fm_deedLong 8 0 600) (hdd : ∀ j : Nat, j < 8 → ((fm_deedKind j).toInt ≠ 0 ∨ (fm_deedMonth j).toInt + (fm_deedLong j).toInt ≤ 23)) : Met l yX12_days (.code yX12_days cX12_days 3 (some .int) :: wsGB) ({ frames := 6, cells := 0, slots := 0, locals := 140 }) (va_Pc [.ref h0, .int p1, .int p2] (fun U => U.heap.size = sz ∧ va_P (dC, dI) vwCl (MWn h0 mr km (mi 0) (mi 1) (mi 2) (mi 3) (mi 4) (mi 5) (mi 6) (mi 7) (mi 10) (mi 17) (mi 23) (mi 24) (mi 26) (mi 27) (mi 28) (mi 29) (mi 30) (mi 31) (mi 32) (mi 33) (mi 37) (mi 41) (mi 42) (mi 43) (mi 44) (mi 45) (mi 47) (mi 48) (mi 49) (mi 50) (mi 51) (mi 54) (mi 56) fm_trust fm_letter fm_reportPlace fm_reportKind fm_struck fm_reportMonth fm_reportDay fm_reportKnown fm_deedMonth fm_deedDay fm_deedLong fm_deedKind fm_kept fm_tape fm_must fm_least fm_pin fm_ways fm_verdict fm_row fm_official fm_aside fm_worth fm_out) U.heap ∧ va_K (dC, dI) vwCl (MT km) U ∧ va_D (fun _ => True) (MWn h0 mr km (mi 0) (mi 1) (mi 2) (mi 3) (mi 4) (mi 5) (mi 6) (mi 7) (mi 10) (mi 17) (mi 23) (mi 24) (mi 26) (mi 27) (mi 28) (mi 29) (mi 30) (mi 31) (mi 32) (mi 33) (mi 37) (mi 41) (mi 42) (mi 43) (mi 44) (mi 45) (mi 47) (mi 48) (mi 49) (mi 50) (mi 51) (mi 54) (mi 56) fm_trust fm_letter fm_reportPlace fm_reportKind fm_struck fm_reportMonth fm_reportDay fm_reportKnown fm_deedMonth fm_deedDay fm_deedLong fm_deedKind fm_kept fm_tape fm_must fm_least fm_pin fm_ways fm_verdict fm_row fm_official fm_aside fm_worth fm_out))) (va_Qi (fun (r : Int32) (u : Unit) => gi r (-2147483648) 2147483647) (fun _ t => ∃ (w0_37 : Int32) (w0_41 : Int32) (z1 : Nat → Int32) (z2 : Nat → Int32) (z3 : Nat → Int32) (z4 : Nat → Int32) (z5 : Nat → Int32) (z6 : Nat → Int32) (z15 : Nat → Int32), pb_sX12_days dC dI (va_A (MWn h0 mr km (mi 0) (mi 1) (mi 2) (mi 3) (mi 4) (mi 5) (mi 6) (mi 7) (mi 10) (mi 17) (mi 23) (mi 24) (mi 26) (mi 27) (mi 28) (mi 29) (mi 30) (mi 31) (mi 32) (mi 33) (mi 37) (mi 41) (mi 42) (mi 43) (mi 44) (mi 45) (mi 47) (mi 48) (mi 49) (mi 50) (mi 51) (mi 54) (mi 56) fm_trust fm_letter fm_reportPlace fm_reportKind fm_struck fm_reportMonth fm_reportDay fm_reportKnown fm_deedMonth fm_deedDay fm_deedLong fm_deedKind fm_kept fm_tape fm_must fm_least fm_pin fm_ways fm_verdict fm_row fm_official fm_aside fm_worth fm_out) sz) h0 mi mr km fm_must fm_least fm_pin fm_ways fm_verdict fm_row fm_struck fm_reportKnown fm_reportPlace fm_reportMonth fm_reportDay fm_reportKind fm_trust fm_letter fm_official fm_deedMonth fm_deedLong fm_deedKind fm_deedDay fm_kept fm_tape fm_aside fm_worth fm_out p1 p2 w0_37 w0_41 z1 z2 z3 z4 z5 z6 z15 t) (va_A (MWn h0 mr km (mi 0) (mi 1) (mi 2) (mi 3) (mi 4) (mi 5) (mi 6) (mi 7) (mi 10) (mi 17) (mi 23) (mi 24) (mi 26) (mi 27) (mi 28) (mi 29) (mi 30) (mi 31) (mi 32) (mi 33) (mi 37) (mi 41) (mi 42) (mi 43) (mi 44) (mi 45) (mi 47) (mi 48) (mi 49) (mi 50) (mi 51) (mi 54) (mi 56) fm_trust fm_letter fm_reportPlace fm_reportKind fm_struck fm_reportMonth fm_reportDay fm_reportKnown fm_deedMonth fm_deedDay fm_deedLong fm_deedKind fm_kept fm_tape fm_must fm_least fm_pin fm_ways fm_verdict fm_row fm_official fm_aside fm_worth fm_out) sz)) 0 0 (va_A (MWn h0 mr km (mi 0) (mi 1) (mi 2) (mi 3) (mi 4) (mi 5) (mi 6) (mi 7) (mi 10) (mi 17) (mi 23) (mi 24) (mi 26) (mi 27) (mi 28) (mi 29) (mi 30) (mi 31) (mi 32) (mi 33) (mi 37) (mi 41) (mi 42) (mi 43) (mi 44) (mi 45) (mi 47) (mi 48) (mi 49) (mi 50) (mi 51) (mi 54) (mi 56) fm_trust fm_letter fm_reportPlace fm_reportKind fm_struck fm_reportMonth fm_reportDay fm_reportKnown fm_deedMonth fm_deedDay fm_deedLong fm_deedKind fm_kept fm_tape fm_must fm_least fm_pin fm_ways fm_verdict fm_row fm_official fm_aside fm_worth fm_out) sz) := by
  refine Met.ofW (cc := cX12_days) (maxL := 3) (ret := (some .int)) (by decide) rfl ?_
  intro p e s m args below meth c s₁ B hml hv
  obtain ⟨rfl, hsz, hP, hK, hD0⟩ := hv
  have hx := B.exec
  have hb := B.bytes
  have hr := B.returns
  have hts := atoms_spec (ws := (.code yX12_days cX12_days 3 (some .int) :: wsGB)) B.pre
  have hown : s.vm.findClass RX12 = some m.cls := findClass_of_methodNamed B.named
  have hlocks := B.notSynchronized
  subst hsz
  have hD := hD0.self (sz := s.heap.size)
  generalize hAe : va_A (MWn h0 mr km (mi 0) (mi 1) (mi 2) (mi 3) (mi 4) (mi 5) (mi 6) (mi 7) (mi 10) (mi 17) (mi 23) (mi 24) (mi 26) (mi 27) (mi 28) (mi 29) (mi 30) (mi 31) (mi 32) (mi 33) (mi 37) (mi 41) (mi 42) (mi 43) (mi 44) (mi 45) (mi 47) (mi 48) (mi 49) (mi 50) (mi 51) (mi 54) (mi 56) fm_trust fm_letter fm_reportPlace fm_reportKind fm_struck fm_reportMonth fm_reportDay fm_reportKnown fm_deedMonth fm_deedDay fm_deedLong fm_deedKind fm_kept fm_tape fm_must fm_least fm_pin fm_ways fm_verdict fm_row fm_official fm_aside fm_worth fm_out) s.heap.size = A at hD ⊢
  have hA : ∀ q : Nat, s.heap.size ≤ q → A q := fun q h => by rw [← hAe]; exact Or.inr h
  have hS : va_S A s.heap s.heap [] := va_S.rf
  have hl := lv_entry ([.ref h0, .int p1, .int p2]) (n := 3) (Nat.le_of_ble_eq_true rfl)
  rw [lg_entry_eq]
  generalize (lg_sl ([.ref h0, .int p1, .int p2]) ++ List.replicate (3 - (lg_sl ([.ref h0, .int p1, .int p2])).length) Slot.unset).toArray = ls at hl ⊢
  have hl : lv_has ls 3 [(0, .ref h0), (1, .int p1), (2, .int p2)] := hl
  refine lv_aload_n hx hb dX12_days_0 rfl (lv_at hl 0 rfl) ?_
  refine lv_iload_n hx hb dX12_days_1 rfl (lv_at hl 1 rfl) ?_
  refine va_calli (va_runV (As := [.int p1]) (rest := []) ⟨hx, hb, hml, hown, hts⟩ (sX12_isTime l dC dI h0 mi mr km fm_trust fm_letter fm_reportPlace fm_reportKind fm_struck fm_reportMonth fm_reportDay fm_reportKnown fm_deedMonth fm_deedDay fm_deedLong fm_deedKind fm_kept fm_tape fm_must fm_least fm_pin fm_ways fm_verdict fm_row fm_official fm_aside fm_worth fm_out p1 gmi_0 gmi_1 gmi_2 gmi_4 gmi_7 gmi_10 gmi_17 gmi_23 gmi_24 gmi_26 gmi_29 gmi_30 gmi_33 gmi_37 gmi_41 gmi_50 gmi_51 gmi_56) (cwV 1 hts (gz_gV mGB_256 mGB_257 mGB_258 mGB_1 mGB_259 goodGB) rfl rfl rfl (by decide +kernel) ⟨Nat.le_of_ble_eq_true rfl, Nat.le_of_ble_eq_true rfl⟩) ⟨bl_R, mw_recv hK hP, fun U hU hW => ⟨rfl, by rw [hU]; exact hP, va_K.moved hW.alike hK⟩⟩ rfl rfl hl.1 rfl (lv_room (Nat.le_of_ble_eq_true rfl)) dX12_days_2 ⟨Nat.zero_le _, Nat.zero_le _⟩) hS (fun q _ h => h.elim) (fun q h => h.elim) (fun r_51 u t H1 locs ht hvm hw hB hz1 hk1 hS => ?_)
  obtain ⟨hw, hE⟩ := hw
  have hP := gz_keep hP hk1
  generalize H1 = H at hP hS ⊢
  have gr_51 : gi r_51 0 1 := hw.1
  have hqr_51 := hw.2
  refine lv_if_eq (tgt := 16) hx hb dX12_days_5 (by decide) (fun c_52 => ?_) (fun c_52 => ?_)
  · have g_53 : gi r_51 0 0 := gi_eq c_52 (gi_c 0 0 (by decide))
    refine lv_bipush (v := (-2)) hx hb dX12_days_16 (by decide) ?_
    exact W.iret (v := (-2)) hx hb hr (fun t ht hW => ⟨⟨(-2), (), rfl, (gi_any (-2)), (mi 37), (mi 41), fm_must, fm_least, fm_pin, fm_ways, fm_verdict, fm_row, fm_official, gmi_37, gmi_41, gfm_row, by rw [ht]; exact hP, hD⟩, hS.F ht⟩) hS.2.2 dX12_days_18
  · have g_54 : gi r_51 1 1 := gi_ne_lo c_52 gr_51 (gi_c 0 0 (by decide)) (by decide)
    have g_55 : gi p1 0 999 := gi_cap (gi_any p1) (hqr_51 (gz_one g_54)) (by decide)
    refine lv_aload_n hx hb dX12_days_8 rfl (lv_at hl 0 rfl) ?_
    refine lv_iload_n hx hb dX12_days_9 rfl (lv_at hl 2 rfl) ?_
    refine va_calli (va_runV (As := [.int p2]) (rest := []) ⟨hx, hb, hml, hown, hts⟩ (sX12_isDeed l dC dI h0 mi mr km fm_trust fm_letter fm_reportPlace fm_reportKind fm_struck fm_reportMonth fm_reportDay fm_reportKnown fm_deedMonth fm_deedDay fm_deedLong fm_deedKind fm_kept fm_tape fm_must fm_least fm_pin fm_ways fm_verdict fm_row fm_official fm_aside fm_worth fm_out p2 gmi_0 gmi_1 gmi_2 gmi_4 gmi_7 gmi_10 gmi_17 gmi_23 gmi_24 gmi_26 gmi_29 gmi_30 gmi_33 gmi_37 gmi_41 gmi_50 gmi_51 gmi_56) (cwV 1 hts (gz_gV mGB_242 mGB_243 mGB_244 mGB_1 mGB_245 goodGB) rfl rfl rfl (by decide +kernel) ⟨Nat.le_of_ble_eq_true rfl, Nat.le_of_ble_eq_true rfl⟩) ⟨bl_R, mw_recv hK hP, fun U hU hW => ⟨rfl, by rw [hU]; exact hP, va_K.moved hW.alike hK⟩⟩ rfl rfl hl.1 rfl (lv_room (Nat.le_of_ble_eq_true rfl)) dX12_days_10 ⟨Nat.zero_le _, Nat.zero_le _⟩) hS (fun q _ h => h.elim) (fun q h => h.elim) (fun r_56 u t H1 locs ht hvm hw hB hz1 hk1 hS => ?_)
    obtain ⟨hw, hE⟩ := hw
    have hP := gz_keep hP hk1
    generalize H1 = H at hP hS ⊢
    have gr_56 : gi r_56 0 1 := hw.1
    have hqr_56 := hw.2
    refine lv_if_ne (tgt := 19) hx hb dX12_days_13 (by decide) (fun c_57 => ?_) (fun c_57 => ?_)
    · have g_58 : gi r_56 1 1 := gi_ne_lo c_57 gr_56 (gi_c 0 0 (by decide)) (by decide)
      have g_59 : gi p2 0 7 := gi_cap (gi_any p2) (hqr_56 (gz_one g_58)) (by decide)
      refine lv_aload_n hx hb dX12_days_19 rfl (lv_at hl 0 rfl) ?_
      refine lv_iload_n hx hb dX12_days_20 rfl (lv_at hl 1 rfl) ?_
      have hFc := gz_fullF hD hS hA
      refine va_callv (va_runV (As := [.int p1]) (rest := []) ⟨hx, hb, hml, hown, hts⟩ (sX12_officialBy l dC dI H.size h0 mi mr km fm_must fm_least fm_pin fm_ways fm_verdict fm_row fm_struck fm_reportKnown fm_reportPlace fm_reportMonth fm_reportDay fm_reportKind fm_trust fm_letter fm_official fm_deedMonth fm_deedDay fm_deedLong fm_deedKind fm_kept fm_tape fm_aside fm_worth fm_out p1 gmi_0 gmi_1 gmi_2 gmi_4 gmi_7 gmi_10 gmi_17 gmi_23 gmi_24 gmi_26 gmi_29 gmi_30 gmi_33 gmi_37 gmi_41 gmi_50 gmi_51 gmi_56 gfm_row gfm_struck gfm_reportKnown gfm_reportPlace gfm_reportMonth gfm_reportDay) (cwV 1 hts (gz_gV mGB_358 mGB_359 mGB_360 mGB_1 mGB_361 goodGB) rfl rfl rfl (by decide +kernel) ⟨Nat.le_of_ble_eq_true rfl, Nat.le_of_ble_eq_true rfl⟩) ⟨bl_W, mw_recv hK hP, fun U hU hW => ⟨rfl, by rw [hU], by rw [hU]; exact hP, va_K.moved hW.alike hK, hD.weaken (fun _ _ _ _ => trivial)⟩⟩ rfl rfl hl.1 rfl (lv_room (Nat.le_of_ble_eq_true rfl)) dX12_days_21 ⟨Nat.zero_le _, Nat.zero_le _⟩) hS (fun q _ h => hFc q h) hFc (fun u t H1 locs ht hvm hw hB hz1 hk1 hS => ?_)
      obtain ⟨y_61, y_62, f_63, f_64, f_65, f_66, f_67, f_68, f_69, hB⟩ := hB
      obtain ⟨gy_61, gy_62, gf_68, hP1, hD1⟩ := hB
      rw [ht] at hP1
      have hD : va_D A (MWn h0 mr km (mi 0) (mi 1) (mi 2) (mi 3) (mi 4) (mi 5) (mi 6) (mi 7) (mi 10) (mi 17) (mi 23) (mi 24) (mi 26) (mi 27) (mi 28) (mi 29) (mi 30) (mi 31) (mi 32) (mi 33) y_61 y_62 (mi 42) (mi 43) (mi 44) (mi 45) (mi 47) (mi 48) (mi 49) (mi 50) (mi 51) (mi 54) (mi 56) fm_trust fm_letter fm_reportPlace fm_reportKind fm_struck fm_reportMonth fm_reportDay fm_reportKnown fm_deedMonth fm_deedDay fm_deedLong fm_deedKind fm_kept fm_tape f_63 f_64 f_65 f_66 f_67 f_68 f_69 fm_aside fm_worth fm_out) := gz_fullD hFc hD1
      have hP : va_P (dC, dI) vwCl (MWn h0 mr km (mi 0) (mi 1) (mi 2) (mi 3) (mi 4) (mi 5) (mi 6) (mi 7) (mi 10) (mi 17) (mi 23) (mi 24) (mi 26) (mi 27) (mi 28) (mi 29) (mi 30) (mi 31) (mi 32) (mi 33) y_61 y_62 (mi 42) (mi 43) (mi 44) (mi 45) (mi 47) (mi 48) (mi 49) (mi 50) (mi 51) (mi 54) (mi 56) fm_trust fm_letter fm_reportPlace fm_reportKind fm_struck fm_reportMonth fm_reportDay fm_reportKnown fm_deedMonth fm_deedDay fm_deedLong fm_deedKind fm_kept fm_tape f_63 f_64 f_65 f_66 f_67 f_68 f_69 fm_aside fm_worth fm_out) H1 := hP1
      generalize H1 = H at hP hS ⊢
      refine lv_aload_n hx hb dX12_days_24 rfl (lv_at hl 0 rfl) ?_
      refine lv_iload_n hx hb dX12_days_25 rfl (lv_at hl 2 rfl) ?_
      refine va_calli (va_runV (As := [.int p2]) (rest := []) ⟨hx, hb, hml, hown, hts⟩ (sX12_dueBy l dC dI h0 (upd (upd mi 37 y_61) 41 y_62) mr km fm_deedMonth fm_deedLong fm_deedKind fm_deedDay f_69 fm_trust fm_letter fm_reportPlace fm_reportKind fm_struck fm_reportMonth fm_reportDay fm_reportKnown fm_kept fm_tape f_63 f_64 f_65 f_66 f_67 f_68 fm_aside fm_worth fm_out p2 gmi_0 gmi_1 gmi_2 gmi_4 gmi_7 gmi_10 gmi_17 gmi_23 gmi_24 gmi_26 gmi_29 gmi_30 gmi_33 gy_61 gy_62 gmi_50 gmi_51 gmi_56 gfm_deedMonth gfm_deedLong g_59 hdd) (cwV 1 hts (gz_gV mGB_455 mGB_456 mGB_457 mGB_1 mGB_458 goodGB) rfl rfl rfl (by decide +kernel) ⟨Nat.le_of_ble_eq_true rfl, Nat.le_of_ble_eq_true rfl⟩) ⟨bl_R, mw_recv hK hP, fun U hU hW => ⟨rfl, by rw [hU]; exact hP, va_K.moved hW.alike hK⟩⟩ rfl rfl hl.1 rfl (lv_room (Nat.le_of_ble_eq_true rfl)) dX12_days_26 ⟨Nat.zero_le _, Nat.zero_le _⟩) hS (fun q _ h => h.elim) (fun q h => h.elim) (fun r_70 u t H1 locs ht hvm hw hB hz1 hk1 hS => ?_)
      have hP := gz_keep hP hk1
      generalize H1 = H at hP hS ⊢
      refine lv_aload_n hx hb dX12_days_29 rfl (lv_at hl 0 rfl) ?_
      refine lv_aload_n hx hb dX12_days_30 rfl (lv_at hl 0 rfl) ?_
      refine va_get (D := (dC, dI)) (ci := 12) (v := .ref (mr 8)) (C := RX12) (T := TX12) (N := 57) hx hb hts (fun w h => List.mem_cons_of_mem _ (jnGB_X12 w h)) hown hK hP 0 rfl rfl 18 (by decide) (hts _ (List.mem_cons_of_mem _ mGB_19)) (fun _ h9 => h9) rfl dX12_days_31 ?_
      refine lv_iload_n hx hb dX12_days_34 rfl (lv_at hl 2 rfl) ?_
      refine va_iald hx hb hK hP 9 8 rfl rfl (gi_in g_59 (by decide)) dX12_days_35 ?_
      refine lv_topi (fun x_71 ex_71 => ?_)
      have gx_71 : gi x_71 0 23 := ga_at gfm_deedMonth (gi_in g_59 (by decide)) ex_71
      refine lv_aload_n hx hb dX12_days_36 rfl (lv_at hl 0 rfl) ?_
      refine va_get (D := (dC, dI)) (ci := 12) (v := .ref (mr 9)) (C := RX12) (T := TX12) (N := 57) hx hb hts (fun w h => List.mem_cons_of_mem _ (jnGB_X12 w h)) hown hK hP 0 rfl rfl 19 (by decide) (hts _ (List.mem_cons_of_mem _ mGB_20)) (fun _ h9 => h9) rfl dX12_days_37 ?_
      refine lv_iload_n hx hb dX12_days_40 rfl (lv_at hl 2 rfl) ?_
      refine va_iald hx hb hK hP 10 9 rfl rfl (gi_in g_59 (by decide)) dX12_days_41 ?_
      refine lv_topi (fun x_72 ex_72 => ?_)
      refine va_calli (va_runV (As := [.int x_71, .int x_72]) (rest := [.int r_70]) ⟨hx, hb, hml, hown, hts⟩ (sX12_dayBy l dC dI h0 (upd (upd mi 37 y_61) 41 y_62) mr km f_69 fm_trust fm_letter fm_reportPlace fm_reportKind fm_struck fm_reportMonth fm_reportDay fm_reportKnown fm_deedMonth fm_deedDay fm_deedLong fm_deedKind fm_kept fm_tape f_63 f_64 f_65 f_66 f_67 f_68 fm_aside fm_worth fm_out x_71 x_72 gmi_0 gmi_1 gmi_2 gmi_4 gmi_7 gmi_10 gmi_17 gmi_23 gmi_24 gmi_26 gmi_29 gmi_30 gmi_33 gy_61 gy_62 gmi_50 gmi_51 gmi_56 gx_71) (cwV 2 hts (gz_gV mGB_419 mGB_420 mGB_421 mGB_1 mGB_422 goodGB) rfl rfl rfl (by decide +kernel) ⟨Nat.le_of_ble_eq_true rfl, Nat.le_of_ble_eq_true rfl⟩) ⟨bl_R, mw_recv hK hP, fun U hU hW => ⟨rfl, by rw [hU]; exact hP, va_K.moved hW.alike hK⟩⟩ rfl rfl hl.1 rfl (lv_room (Nat.le_of_ble_eq_true rfl)) dX12_days_42 ⟨Nat.zero_le _, Nat.zero_le _⟩) hS (fun q _ h => h.elim) (fun q h => h.elim) (fun r_73 u t H1 locs ht hvm hw hB hz1 hk1 hS => ?_)
      have hP := gz_keep hP hk1
      generalize H1 = H at hP hS ⊢
      refine lv_isub hx hb dX12_days_45 ?_
      refine lv_topi (fun x_74 ex_74 => ?_)
      exact W.iret (v := x_74) hx hb hr (fun t ht hW => ⟨⟨x_74, (), rfl, (gi_any x_74), y_61, y_62, f_63, f_64, f_65, f_66, f_67, f_68, f_69, gy_61, gy_62, gf_68, by rw [ht]; exact hP, hD⟩, hS.F ht⟩) hS.2.2 dX12_days_46
    · have g_75 : gi r_56 0 0 := gi_eq c_57 (gi_c 0 0 (by decide))
      refine lv_bipush (v := (-2)) hx hb dX12_days_16 (by decide) ?_
      exact W.iret (v := (-2)) hx hb hr (fun t ht hW => ⟨⟨(-2), (), rfl, (gi_any (-2)), (mi 37), (mi 41), fm_must, fm_least, fm_pin, fm_ways, fm_verdict, fm_row, fm_official, gmi_37, gmi_41, gfm_row, by rw [ht]; exact hP, hD⟩, hS.F ht⟩) hS.2.2 dX12_days_18
theorem dX12_compares_0 : decode cX12_compares 0 = .ok (.aload_n 0, 1) := by decide +kernel
theorem dX12_compares_1 : decode cX12_compares 1 = .ok (.iload_n 1, 1) := by decide +kernel
theorem dX12_compares_2 : decode cX12_compares 2 = .ok (.iconst 0, 1) := by decide +kernel
theorem dX12_compares_3 : decode cX12_compares 3 = .ok (.invokevirtual 447, 3) := by decide +kernel
theorem dX12_compares_6 : decode cX12_compares 6 = .ok (.istore_n 3, 1) := by decide +kernel
theorem dX12_compares_7 : decode cX12_compares 7 = .ok (.aload_n 0, 1) := by decide +kernel
theorem dX12_compares_8 : decode cX12_compares 8 = .ok (.iload_n 1, 1) := by decide +kernel
theorem dX12_compares_9 : decode cX12_compares 9 = .ok (.iconst 1, 1) := by decide +kernel
theorem dX12_compares_10 : decode cX12_compares 10 = .ok (.invokevirtual 447, 3) := by decide +kernel
theorem dX12_compares_13 : decode cX12_compares 13 = .ok (.istore 4, 2) := by decide +kernel
theorem dX12_compares_15 : decode cX12_compares 15 = .ok (.iload_n 3, 1) := by decide +kernel
theorem dX12_compares_16 : decode cX12_compares 16 = .ok (.bipush (-2), 2) := by decide +kernel
theorem dX12_compares_18 : decode cX12_compares 18 = .ok (.if_icmp .ne 4, 3) := by decide +kernel
theorem dX12_compares_21 : decode cX12_compares 21 = .ok (.return_, 1) := by decide +kernel
theorem dX12_compares_22 : decode cX12_compares 22 = .ok (.aload_n 0, 1) := by decide +kernel
theorem dX12_compares_23 : decode cX12_compares 23 = .ok (.aload_n 0, 1) := by decide +kernel
theorem dX12_compares_24 : decode cX12_compares 24 = .ok (.getfield 450, 3) := by decide +kernel
theorem dX12_compares_27 : decode cX12_compares 27 = .ok (.ifCond .ne 9, 3) := by decide +kernel
theorem dX12_compares_30 : decode cX12_compares 30 = .ok (.iload_n 2, 1) := by decide +kernel
theorem dX12_compares_31 : decode cX12_compares 31 = .ok (.iload 4, 2) := by decide +kernel
theorem dX12_compares_33 : decode cX12_compares 33 = .ok (.if_icmp .gt 7, 3) := by decide +kernel
theorem dX12_compares_36 : decode cX12_compares 36 = .ok (.iconst 1, 1) := by decide +kernel
theorem dX12_compares_37 : decode cX12_compares 37 = .ok (.goto 4, 3) := by decide +kernel
theorem dX12_compares_40 : decode cX12_compares 40 = .ok (.iconst 0, 1) := by decide +kernel
theorem dX12_compares_41 : decode cX12_compares 41 = .ok (.putfield 450, 3) := by decide +kernel
theorem dX12_compares_44 : decode cX12_compares 44 = .ok (.aload_n 0, 1) := by decide +kernel
theorem dX12_compares_45 : decode cX12_compares 45 = .ok (.aload_n 0, 1) := by decide +kernel
theorem dX12_compares_46 : decode cX12_compares 46 = .ok (.getfield 453, 3) := by decide +kernel
theorem dX12_compares_49 : decode cX12_compares 49 = .ok (.ifCond .ne 8, 3) := by decide +kernel
theorem dX12_compares_52 : decode cX12_compares 52 = .ok (.iload_n 2, 1) := by decide +kernel
theorem dX12_compares_53 : decode cX12_compares 53 = .ok (.iload_n 3, 1) := by decide +kernel
theorem dX12_compares_54 : decode cX12_compares 54 = .ok (.if_icmp .lt 7, 3) := by decide +kernel
theorem dX12_compares_57 : decode cX12_compares 57 = .ok (.iconst 1, 1) := by decide +kernel
theorem dX12_compares_58 : decode cX12_compares 58 = .ok (.goto 4, 3) := by decide +kernel
theorem dX12_compares_61 : decode cX12_compares 61 = .ok (.iconst 0, 1) := by decide +kernel
theorem dX12_compares_62 : decode cX12_compares 62 = .ok (.putfield 453, 3) := by decide +kernel
theorem dX12_compares_65 : decode cX12_compares 65 = .ok (.return_, 1) := by decide +kernel
abbrev pb_sX12_compares (dC : Nat → ClassId) (dI : Nat → Nat → Nat) (A9 : Nat → Prop) (h0 : Nat) (mi : Nat → Int32) (mr : Nat → Nat) (km : Nat → ClassId) (fm_must : Nat → Int32) (fm_least : Nat → Int32) (fm_pin : Nat → Int32) (fm_ways : Nat → Int32) (fm_deedMonth : Nat → Int32) (fm_deedLong : Nat → Int32) (fm_deedKind : Nat → Int32) (fm_deedDay : Nat → Int32) (fm_trust : Nat → Int32) (fm_letter : Nat → Int32) (fm_reportPlace : Nat → Int32) (fm_reportKind : Nat → Int32) (fm_struck : Nat → Int32) (fm_reportMonth : Nat → Int32) (fm_reportDay : Nat → Int32) (fm_reportKnown : Nat → Int32) (fm_kept : Nat → Int32) (fm_tape : Nat → Int32) (fm_verdict : Nat → Int32) (fm_row : Nat → Int32) (fm_official : Nat → Int32) (fm_aside : Nat → Int32) (fm_worth : Nat → Int32) (fm_out : Nat → Int32) (p1 : Int32) (p2 : Int32) (w0_50 : Int32) (w0_51 : Int32) (z3 : Nat → Int32) (z4 : Nat → Int32) (t : State) : Prop := gi w0_50 0 1 ∧ gi w0_51 0 1 ∧ va_P (dC, dI) vwCl (MWn h0 mr km (mi 0) (mi 1) (mi 2) (mi 3) (mi 4) (mi 5) (mi 6) (mi 7) (mi 10) (mi 17) (mi 23) (mi 24) (mi 26) (mi 27) (mi 28) (mi 29) (mi 30) (mi 31) (mi 32) (mi 33) (mi 37) (mi 41) (mi 42) (mi 43) (mi 44) (mi 45) (mi 47) (mi 48) (mi 49) w0_50 w0_51 (mi 54) (mi 56) fm_trust fm_letter fm_reportPlace fm_reportKind fm_struck fm_reportMonth fm_reportDay fm_reportKnown fm_deedMonth fm_deedDay fm_deedLong fm_deedKind fm_kept fm_tape fm_must fm_least z3 z4 fm_verdict fm_row fm_official fm_aside fm_worth fm_out) t.heap ∧ va_D A9 (MWn h0 mr km (mi 0) (mi 1) (mi 2) (mi 3) (mi 4) (mi 5) (mi 6) (mi 7) (mi 10) (mi 17) (mi 23) (mi 24) (mi 26) (mi 27) (mi 28) (mi 29) (mi 30) (mi 31) (mi 32) (mi 33) (mi 37) (mi 41) (mi 42) (mi 43) (mi 44) (mi 45) (mi 47) (mi 48) (mi 49) w0_50 w0_51 (mi 54) (mi 56) fm_trust fm_letter fm_reportPlace fm_reportKind fm_struck fm_reportMonth fm_reportDay fm_reportKnown fm_deedMonth fm_deedDay fm_deedLong fm_deedKind fm_kept fm_tape fm_must fm_least z3 z4 fm_verdict fm_row fm_official fm_aside fm_worth fm_out)
set_option maxHeartbeats 4000000 in
set_option maxRecDepth 100000 in
theorem sX12_compares (l : Launch) (dC : Nat → ClassId) (dI : Nat → Nat → Nat) (sz : Nat) (h0 : Nat) (mi : Nat → Int32) (mr : Nat → Nat) (km : Nat → ClassId) (fm_must : Nat → Int32) (fm_least : Nat → Int32) (fm_pin : Nat → Int32) (fm_ways : Nat → Int32) (fm_deedMonth : Nat → Int32) (fm_deedLong : Nat → Int32) (fm_deedKind : Nat → Int32) (fm_deedDay : Nat → Int32) (fm_trust : Nat → Int32) (fm_letter : Nat → Int32) (fm_reportPlace : Nat → Int32) (fm_reportKind : Nat → Int32) (fm_struck : Nat → Int32) (fm_reportMonth : Nat → Int32) (fm_reportDay : Nat → Int32) (fm_reportKnown : Nat → Int32) (fm_kept : Nat → Int32) (fm_tape : Nat → Int32) (fm_verdict : Nat → Int32) (fm_row : Nat → Int32) (fm_official : Nat → Int32) (fm_aside : Nat → Int32) (fm_worth : Nat → Int32) (fm_out : Nat → Int32) (p1 : Int32) (p2 : Int32) (gmi_0 : gi (mi 0) 0 24) (gmi_1 : gi (mi 1) 0 5) (gmi_2 : gi (mi 2) 0 5) (gmi_4 : gi (mi 4) 0 1) (gmi_7 : gi (mi 7) 0 6) (gmi_10 : gi (mi 10) 0 24) (gmi_17 : gi (mi 17) 0 8) (gmi_23 : gi (mi 23) 0 300) (gmi_24 : gi (mi 24) 0 1) (gmi_26 : gi (mi 26) 0 1600) (gmi_29 : gi (mi 29) 0 1600) (gmi_30 : gi (mi 30) 0 1600) (gmi_33 : gi (mi 33) 0 1) (gmi_37 : gi (mi 37) 0 1) (gmi_41 : gi (mi 41) 0 24) (gmi_50 : gi (mi 50) 0 1) (gmi_51 : gi (mi 51) 0 1) (gmi_56 : gi (mi 56) 0 80) (gfm_deedMonth : ga fm_deedMonth 8 0 23) (gfm_deedLong : ga fm_deedLong 8 0 600) (gp1 : gi p1 0 7) (hdd : ∀ j : Nat, j < 8 → ((fm_deedKind j).toInt ≠ 0 ∨ (fm_deedMonth j).toInt + (fm_deedLong j).toInt ≤ 23)) : Met l yX12_compares (.code yX12_compares cX12_compares 5 none :: wsGB) ({ frames := 8, cells := 0, slots := 0, locals := 196 }) (va_Pc [.ref h0, .int p1, .int p2] (fun U => U.heap.size = sz ∧ va_P (dC, dI) vwCl (MWn h0 mr km (mi 0) (mi 1) (mi 2) (mi 3) (mi 4) (mi 5) (mi 6) (mi 7) (mi 10) (mi 17) (mi 23) (mi 24) (mi 26) (mi 27) (mi 28) (mi 29) (mi 30) (mi 31) (mi 32) (mi 33) (mi 37) (mi 41) (mi 42) (mi 43) (mi 44) (mi 45) (mi 47) (mi 48) (mi 49) (mi 50) (mi 51) (mi 54) (mi 56) fm_trust fm_letter fm_reportPlace fm_reportKind fm_struck fm_reportMonth fm_reportDay fm_reportKnown fm_deedMonth fm_deedDay fm_deedLong fm_deedKind fm_kept fm_tape fm_must fm_least fm_pin fm_ways fm_verdict fm_row fm_official fm_aside fm_worth fm_out) U.heap ∧ va_K (dC, dI) vwCl (MT km) U ∧ va_D (fun _ => True) (MWn h0 mr km (mi 0) (mi 1) (mi 2) (mi 3) (mi 4) (mi 5) (mi 6) (mi 7) (mi 10) (mi 17) (mi 23) (mi 24) (mi 26) (mi 27) (mi 28) (mi 29) (mi 30) (mi 31) (mi 32) (mi 33) (mi 37) (mi 41) (mi 42) (mi 43) (mi 44) (mi 45) (mi 47) (mi 48) (mi 49) (mi 50) (mi 51) (mi 54) (mi 56) fm_trust fm_letter fm_reportPlace fm_reportKind fm_struck fm_reportMonth fm_reportDay fm_reportKnown fm_deedMonth fm_deedDay fm_deedLong fm_deedKind fm_kept fm_tape fm_must fm_least fm_pin fm_ways fm_verdict fm_row fm_official fm_aside fm_worth fm_out))) (va_Qv (fun (u : Unit) => True) (fun _ t => ∃ (w0_50 : Int32) (w0_51 : Int32) (z3 : Nat → Int32) (z4 : Nat → Int32), pb_sX12_compares dC dI (va_A (MWn h0 mr km (mi 0) (mi 1) (mi 2) (mi 3) (mi 4) (mi 5) (mi 6) (mi 7) (mi 10) (mi 17) (mi 23) (mi 24) (mi 26) (mi 27) (mi 28) (mi 29) (mi 30) (mi 31) (mi 32) (mi 33) (mi 37) (mi 41) (mi 42) (mi 43) (mi 44) (mi 45) (mi 47) (mi 48) (mi 49) (mi 50) (mi 51) (mi 54) (mi 56) fm_trust fm_letter fm_reportPlace fm_reportKind fm_struck fm_reportMonth fm_reportDay fm_reportKnown fm_deedMonth fm_deedDay fm_deedLong fm_deedKind fm_kept fm_tape fm_must fm_least fm_pin fm_ways fm_verdict fm_row fm_official fm_aside fm_worth fm_out) sz) h0 mi mr km fm_must fm_least fm_pin fm_ways fm_deedMonth fm_deedLong fm_deedKind fm_deedDay fm_trust fm_letter fm_reportPlace fm_reportKind fm_struck fm_reportMonth fm_reportDay fm_reportKnown fm_kept fm_tape fm_verdict fm_row fm_official fm_aside fm_worth fm_out p1 p2 w0_50 w0_51 z3 z4 t) (va_A (MWn h0 mr km (mi 0) (mi 1) (mi 2) (mi 3) (mi 4) (mi 5) (mi 6) (mi 7) (mi 10) (mi 17) (mi 23) (mi 24) (mi 26) (mi 27) (mi 28) (mi 29) (mi 30) (mi 31) (mi 32) (mi 33) (mi 37) (mi 41) (mi 42) (mi 43) (mi 44) (mi 45) (mi 47) (mi 48) (mi 49) (mi 50) (mi 51) (mi 54) (mi 56) fm_trust fm_letter fm_reportPlace fm_reportKind fm_struck fm_reportMonth fm_reportDay fm_reportKnown fm_deedMonth fm_deedDay fm_deedLong fm_deedKind fm_kept fm_tape fm_must fm_least fm_pin fm_ways fm_verdict fm_row fm_official fm_aside fm_worth fm_out) sz)) 0 0 (va_A (MWn h0 mr km (mi 0) (mi 1) (mi 2) (mi 3) (mi 4) (mi 5) (mi 6) (mi 7) (mi 10) (mi 17) (mi 23) (mi 24) (mi 26) (mi 27) (mi 28) (mi 29) (mi 30) (mi 31) (mi 32) (mi 33) (mi 37) (mi 41) (mi 42) (mi 43) (mi 44) (mi 45) (mi 47) (mi 48) (mi 49) (mi 50) (mi 51) (mi 54) (mi 56) fm_trust fm_letter fm_reportPlace fm_reportKind fm_struck fm_reportMonth fm_reportDay fm_reportKnown fm_deedMonth fm_deedDay fm_deedLong fm_deedKind fm_kept fm_tape fm_must fm_least fm_pin fm_ways fm_verdict fm_row fm_official fm_aside fm_worth fm_out) sz) := by
  refine Met.ofW (cc := cX12_compares) (maxL := 5) (ret := none) (by decide) rfl ?_
  intro p e s m args below meth c s₁ B hml hv
  obtain ⟨rfl, hsz, hP, hK, hD0⟩ := hv
  have hx := B.exec
  have hb := B.bytes
  have hr := B.returns
  have hts := atoms_spec (ws := (.code yX12_compares cX12_compares 5 none :: wsGB)) B.pre
  have hown : s.vm.findClass RX12 = some m.cls := findClass_of_methodNamed B.named
  have hlocks := B.notSynchronized
  subst hsz
  have hD := hD0.self (sz := s.heap.size)
  generalize hAe : va_A (MWn h0 mr km (mi 0) (mi 1) (mi 2) (mi 3) (mi 4) (mi 5) (mi 6) (mi 7) (mi 10) (mi 17) (mi 23) (mi 24) (mi 26) (mi 27) (mi 28) (mi 29) (mi 30) (mi 31) (mi 32) (mi 33) (mi 37) (mi 41) (mi 42) (mi 43) (mi 44) (mi 45) (mi 47) (mi 48) (mi 49) (mi 50) (mi 51) (mi 54) (mi 56) fm_trust fm_letter fm_reportPlace fm_reportKind fm_struck fm_reportMonth fm_reportDay fm_reportKnown fm_deedMonth fm_deedDay fm_deedLong fm_deedKind fm_kept fm_tape fm_must fm_least fm_pin fm_ways fm_verdict fm_row fm_official fm_aside fm_worth fm_out) s.heap.size = A at hD ⊢
  have hA : ∀ q : Nat, s.heap.size ≤ q → A q := fun q h => by rw [← hAe]; exact Or.inr h
  have hS : va_S A s.heap s.heap [] := va_S.rf
  have hl := lv_entry ([.ref h0, .int p1, .int p2]) (n := 5) (Nat.le_of_ble_eq_true rfl)
  rw [lg_entry_eq]
  generalize (lg_sl ([.ref h0, .int p1, .int p2]) ++ List.replicate (5 - (lg_sl ([.ref h0, .int p1, .int p2])).length) Slot.unset).toArray = ls at hl ⊢
  have hl : lv_has ls 5 [(0, .ref h0), (1, .int p1), (2, .int p2)] := hl
  refine lv_aload_n hx hb dX12_compares_0 rfl (lv_at hl 0 rfl) ?_
  refine lv_iload_n hx hb dX12_compares_1 rfl (lv_at hl 1 rfl) ?_
  refine lv_iconst (v := 0) hx hb dX12_compares_2 (by decide) ?_
  have hFc := gz_fullF hD hS hA
  refine va_calli (va_runV (As := [.int p1, .int 0]) (rest := []) ⟨hx, hb, hml, hown, hts⟩ (sX12_dueSpanOf l dC dI s.heap.size h0 mi mr km fm_must fm_least fm_pin fm_ways fm_deedMonth fm_deedLong fm_deedKind fm_deedDay fm_trust fm_letter fm_reportPlace fm_reportKind fm_struck fm_reportMonth fm_reportDay fm_reportKnown fm_kept fm_tape fm_verdict fm_row fm_official fm_aside fm_worth fm_out p1 0 gmi_0 gmi_1 gmi_2 gmi_4 gmi_7 gmi_10 gmi_17 gmi_23 gmi_24 gmi_26 gmi_29 gmi_30 gmi_33 gmi_37 gmi_41 gmi_50 gmi_51 gmi_56 gfm_deedMonth gfm_deedLong gp1 hdd) (cwV 2 hts (gz_gV mGB_480 mGB_481 mGB_482 mGB_1 mGB_483 goodGB) rfl rfl rfl (by decide +kernel) ⟨Nat.le_of_ble_eq_true rfl, Nat.le_of_ble_eq_true rfl⟩) ⟨bl_W, mw_recv hK hP, fun U hU hW => ⟨rfl, by rw [hU], by rw [hU]; exact hP, va_K.moved hW.alike hK, hD.weaken (fun _ _ _ _ => trivial)⟩⟩ rfl rfl hl.1 rfl (lv_room (Nat.le_of_ble_eq_true rfl)) dX12_compares_3 ⟨Nat.zero_le _, Nat.zero_le _⟩) hS (fun q _ h => hFc q h) hFc (fun r_69 u t H1 locs ht hvm hw hB hz1 hk1 hS => ?_)
  obtain ⟨f_70, f_71, hB⟩ := hB
  obtain ⟨hP1, hD1⟩ := hB
  rw [ht] at hP1
  have hD : va_D A (MWn h0 mr km (mi 0) (mi 1) (mi 2) (mi 3) (mi 4) (mi 5) (mi 6) (mi 7) (mi 10) (mi 17) (mi 23) (mi 24) (mi 26) (mi 27) (mi 28) (mi 29) (mi 30) (mi 31) (mi 32) (mi 33) (mi 37) (mi 41) (mi 42) (mi 43) (mi 44) (mi 45) (mi 47) (mi 48) (mi 49) (mi 50) (mi 51) (mi 54) (mi 56) fm_trust fm_letter fm_reportPlace fm_reportKind fm_struck fm_reportMonth fm_reportDay fm_reportKnown fm_deedMonth fm_deedDay fm_deedLong fm_deedKind fm_kept fm_tape fm_must fm_least f_70 f_71 fm_verdict fm_row fm_official fm_aside fm_worth fm_out) := gz_fullD hFc hD1
  have hP : va_P (dC, dI) vwCl (MWn h0 mr km (mi 0) (mi 1) (mi 2) (mi 3) (mi 4) (mi 5) (mi 6) (mi 7) (mi 10) (mi 17) (mi 23) (mi 24) (mi 26) (mi 27) (mi 28) (mi 29) (mi 30) (mi 31) (mi 32) (mi 33) (mi 37) (mi 41) (mi 42) (mi 43) (mi 44) (mi 45) (mi 47) (mi 48) (mi 49) (mi 50) (mi 51) (mi 54) (mi 56) fm_trust fm_letter fm_reportPlace fm_reportKind fm_struck fm_reportMonth fm_reportDay fm_reportKnown fm_deedMonth fm_deedDay fm_deedLong fm_deedKind fm_kept fm_tape fm_must fm_least f_70 f_71 fm_verdict fm_row fm_official fm_aside fm_worth fm_out) H1 := hP1
  generalize H1 = H at hP hS ⊢
  have gr_69 : gi r_69 (-2) 1320 := hw
  refine lv_istore_n (lv' := [(3, .int r_69), (0, .ref h0), (1, .int p1), (2, .int p2)]) hx hb dX12_compares_6 rfl hl (by decide) rfl (fun ls hl => ?_)
  refine lv_aload_n hx hb dX12_compares_7 rfl (lv_at hl 1 rfl) ?_
  refine lv_iload_n hx hb dX12_compares_8 rfl (lv_at hl 2 rfl) ?_
  refine lv_iconst (v := 1) hx hb dX12_compares_9 (by decide) ?_
  have hFc := gz_fullF hD hS hA
  refine va_calli (va_runV (As := [.int p1, .int 1]) (rest := []) ⟨hx, hb, hml, hown, hts⟩ (sX12_dueSpanOf l dC dI H.size h0 mi mr km fm_must fm_least f_70 f_71 fm_deedMonth fm_deedLong fm_deedKind fm_deedDay fm_trust fm_letter fm_reportPlace fm_reportKind fm_struck fm_reportMonth fm_reportDay fm_reportKnown fm_kept fm_tape fm_verdict fm_row fm_official fm_aside fm_worth fm_out p1 1 gmi_0 gmi_1 gmi_2 gmi_4 gmi_7 gmi_10 gmi_17 gmi_23 gmi_24 gmi_26 gmi_29 gmi_30 gmi_33 gmi_37 gmi_41 gmi_50 gmi_51 gmi_56 gfm_deedMonth gfm_deedLong gp1 hdd) (cwV 2 hts (gz_gV mGB_480 mGB_481 mGB_482 mGB_1 mGB_483 goodGB) rfl rfl rfl (by decide +kernel) ⟨Nat.le_of_ble_eq_true rfl, Nat.le_of_ble_eq_true rfl⟩) ⟨bl_W, mw_recv hK hP, fun U hU hW => ⟨rfl, by rw [hU], by rw [hU]; exact hP, va_K.moved hW.alike hK, hD.weaken (fun _ _ _ _ => trivial)⟩⟩ rfl rfl hl.1 rfl (lv_room (Nat.le_of_ble_eq_true rfl)) dX12_compares_10 ⟨Nat.zero_le _, Nat.zero_le _⟩) hS (fun q _ h => hFc q h) hFc (fun r_72 u t H1 locs ht hvm hw hB hz1 hk1 hS => ?_)
  obtain ⟨f_73, f_74, hB⟩ := hB
  obtain ⟨hP1, hD1⟩ := hB
  rw [ht] at hP1
  have hD : va_D A (MWn h0 mr km (mi 0) (mi 1) (mi 2) (mi 3) (mi 4) (mi 5) (mi 6) (mi 7) (mi 10) (mi 17) (mi 23) (mi 24) (mi 26) (mi 27) (mi 28) (mi 29) (mi 30) (mi 31) (mi 32) (mi 33) (mi 37) (mi 41) (mi 42) (mi 43) (mi 44) (mi 45) (mi 47) (mi 48) (mi 49) (mi 50) (mi 51) (mi 54) (mi 56) fm_trust fm_letter fm_reportPlace fm_reportKind fm_struck fm_reportMonth fm_reportDay fm_reportKnown fm_deedMonth fm_deedDay fm_deedLong fm_deedKind fm_kept fm_tape fm_must fm_least f_73 f_74 fm_verdict fm_row fm_official fm_aside fm_worth fm_out) := gz_fullD hFc hD1
  have hP : va_P (dC, dI) vwCl (MWn h0 mr km (mi 0) (mi 1) (mi 2) (mi 3) (mi 4) (mi 5) (mi 6) (mi 7) (mi 10) (mi 17) (mi 23) (mi 24) (mi 26) (mi 27) (mi 28) (mi 29) (mi 30) (mi 31) (mi 32) (mi 33) (mi 37) (mi 41) (mi 42) (mi 43) (mi 44) (mi 45) (mi 47) (mi 48) (mi 49) (mi 50) (mi 51) (mi 54) (mi 56) fm_trust fm_letter fm_reportPlace fm_reportKind fm_struck fm_reportMonth fm_reportDay fm_reportKnown fm_deedMonth fm_deedDay fm_deedLong fm_deedKind fm_kept fm_tape fm_must fm_least f_73 f_74 fm_verdict fm_row fm_official fm_aside fm_worth fm_out) H1 := hP1
  generalize H1 = H at hP hS ⊢
  have gr_72 : gi r_72 (-2) 1320 := hw
  refine lv_istore (lv' := [(4, .int r_72), (3, .int r_69), (0, .ref h0), (1, .int p1), (2, .int p2)]) hx hb dX12_compares_13 hl (by decide) rfl (fun ls hl => ?_)
  refine lv_iload_n hx hb dX12_compares_15 rfl (lv_at hl 1 rfl) ?_
  refine lv_bipush (v := (-2)) hx hb dX12_compares_16 (by decide) ?_
  refine lv_icmp_ne (tgt := 22) hx hb dX12_compares_18 (by decide) (fun c_75 => ?_) (fun c_75 => ?_)
  · have g_76 : gi r_69 (-1) 1320 := gi_ne_lo c_75 gr_69 (gi_c (-2) (-2) (by decide)) (by decide)
    refine lv_aload_n hx hb dX12_compares_22 rfl (lv_at hl 2 rfl) ?_
    refine lv_aload_n hx hb dX12_compares_23 rfl (lv_at hl 2 rfl) ?_
    refine va_get (D := (dC, dI)) (ci := 12) (v := .int (mi 50)) (C := RX12) (T := TX12) (N := 57) hx hb hts (fun w h => List.mem_cons_of_mem _ (jnGB_X12 w h)) hown hK hP 0 rfl rfl 50 (by decide) (hts _ (List.mem_cons_of_mem _ mGB_501)) (fun _ h9 => h9) rfl dX12_compares_24 ?_
    refine lv_if_ne (tgt := 36) hx hb dX12_compares_27 (by decide) (fun c_77 => ?_) (fun c_77 => ?_)
    · have g_78 : gi (mi 50) 1 1 := gi_ne_lo c_77 gmi_50 (gi_c 0 0 (by decide)) (by decide)
      refine lv_iconst (v := 1) hx hb dX12_compares_36 (by decide) ?_
      refine lv_goto (tgt := 41) hx hb dX12_compares_37 (by decide) ?_
      refine va_put (D := (dC, dI)) (ci := 12) (v := .int 1) (ty := .boolean) (C := RX12) (T := TX12) (N := 57) hx hb hts (fun w h => List.mem_cons_of_mem _ (jnGB_X12 w h)) tyX12 tyX12_ok nmX12 hown hK hP hD hS 0 rfl rfl 50 (by decide) (hts _ (List.mem_cons_of_mem _ mGB_501)) (fun _ h9 => h9) rfl (by decide +kernel) rfl rfl (Nat.le_of_ble_eq_true rfl) dX12_compares_41 (fun H locs hP hD hS => ?_)
      have hP : va_P (dC, dI) vwCl (MWn h0 mr km (mi 0) (mi 1) (mi 2) (mi 3) (mi 4) (mi 5) (mi 6) (mi 7) (mi 10) (mi 17) (mi 23) (mi 24) (mi 26) (mi 27) (mi 28) (mi 29) (mi 30) (mi 31) (mi 32) (mi 33) (mi 37) (mi 41) (mi 42) (mi 43) (mi 44) (mi 45) (mi 47) (mi 48) (mi 49) 1 (mi 51) (mi 54) (mi 56) fm_trust fm_letter fm_reportPlace fm_reportKind fm_struck fm_reportMonth fm_reportDay fm_reportKnown fm_deedMonth fm_deedDay fm_deedLong fm_deedKind fm_kept fm_tape fm_must fm_least f_73 f_74 fm_verdict fm_row fm_official fm_aside fm_worth fm_out) H := hP
      have hD : va_D A (MWn h0 mr km (mi 0) (mi 1) (mi 2) (mi 3) (mi 4) (mi 5) (mi 6) (mi 7) (mi 10) (mi 17) (mi 23) (mi 24) (mi 26) (mi 27) (mi 28) (mi 29) (mi 30) (mi 31) (mi 32) (mi 33) (mi 37) (mi 41) (mi 42) (mi 43) (mi 44) (mi 45) (mi 47) (mi 48) (mi 49) 1 (mi 51) (mi 54) (mi 56) fm_trust fm_letter fm_reportPlace fm_reportKind fm_struck fm_reportMonth fm_reportDay fm_reportKnown fm_deedMonth fm_deedDay fm_deedLong fm_deedKind fm_kept fm_tape fm_must fm_least f_73 f_74 fm_verdict fm_row fm_official fm_aside fm_worth fm_out) := hD
      refine lv_aload_n hx hb dX12_compares_44 rfl (lv_at hl 2 rfl) ?_
      refine lv_aload_n hx hb dX12_compares_45 rfl (lv_at hl 2 rfl) ?_
      refine va_get (D := (dC, dI)) (ci := 12) (v := .int (mi 51)) (C := RX12) (T := TX12) (N := 57) hx hb hts (fun w h => List.mem_cons_of_mem _ (jnGB_X12 w h)) hown hK hP 0 rfl rfl 51 (by decide) (hts _ (List.mem_cons_of_mem _ mGB_502)) (fun _ h9 => h9) rfl dX12_compares_46 ?_
      refine lv_if_ne (tgt := 57) hx hb dX12_compares_49 (by decide) (fun c_79 => ?_) (fun c_79 => ?_)
      · have g_80 : gi (mi 51) 1 1 := gi_ne_lo c_79 gmi_51 (gi_c 0 0 (by decide)) (by decide)
        refine lv_iconst (v := 1) hx hb dX12_compares_57 (by decide) ?_
        refine lv_goto (tgt := 62) hx hb dX12_compares_58 (by decide) ?_
        refine va_put (D := (dC, dI)) (ci := 12) (v := .int 1) (ty := .boolean) (C := RX12) (T := TX12) (N := 57) hx hb hts (fun w h => List.mem_cons_of_mem _ (jnGB_X12 w h)) tyX12 tyX12_ok nmX12 hown hK hP hD hS 0 rfl rfl 51 (by decide) (hts _ (List.mem_cons_of_mem _ mGB_502)) (fun _ h9 => h9) rfl (by decide +kernel) rfl rfl (Nat.le_of_ble_eq_true rfl) dX12_compares_62 (fun H locs hP hD hS => ?_)
        have hP : va_P (dC, dI) vwCl (MWn h0 mr km (mi 0) (mi 1) (mi 2) (mi 3) (mi 4) (mi 5) (mi 6) (mi 7) (mi 10) (mi 17) (mi 23) (mi 24) (mi 26) (mi 27) (mi 28) (mi 29) (mi 30) (mi 31) (mi 32) (mi 33) (mi 37) (mi 41) (mi 42) (mi 43) (mi 44) (mi 45) (mi 47) (mi 48) (mi 49) 1 1 (mi 54) (mi 56) fm_trust fm_letter fm_reportPlace fm_reportKind fm_struck fm_reportMonth fm_reportDay fm_reportKnown fm_deedMonth fm_deedDay fm_deedLong fm_deedKind fm_kept fm_tape fm_must fm_least f_73 f_74 fm_verdict fm_row fm_official fm_aside fm_worth fm_out) H := hP
        have hD : va_D A (MWn h0 mr km (mi 0) (mi 1) (mi 2) (mi 3) (mi 4) (mi 5) (mi 6) (mi 7) (mi 10) (mi 17) (mi 23) (mi 24) (mi 26) (mi 27) (mi 28) (mi 29) (mi 30) (mi 31) (mi 32) (mi 33) (mi 37) (mi 41) (mi 42) (mi 43) (mi 44) (mi 45) (mi 47) (mi 48) (mi 49) 1 1 (mi 54) (mi 56) fm_trust fm_letter fm_reportPlace fm_reportKind fm_struck fm_reportMonth fm_reportDay fm_reportKnown fm_deedMonth fm_deedDay fm_deedLong fm_deedKind fm_kept fm_tape fm_must fm_least f_73 f_74 fm_verdict fm_row fm_official fm_aside fm_worth fm_out) := hD
        exact W.vret hx hb hr (fun t ht hW => ⟨⟨(), rfl, trivial, 1, 1, f_73, f_74, (gi_w (gi_c 1 1 (by decide)) (by decide)), (gi_w (gi_c 1 1 (by decide)) (by decide)), by rw [ht]; exact hP, hD⟩, hS.F ht⟩) hS.2.2 dX12_compares_65
      · have g_81 : gi (mi 51) 0 0 := gi_eq c_79 (gi_c 0 0 (by decide))
        refine lv_iload_n hx hb dX12_compares_52 rfl (lv_at hl 4 rfl) ?_
        refine lv_iload_n hx hb dX12_compares_53 rfl (lv_at hl 1 rfl) ?_
        refine lv_icmp_lt (tgt := 61) hx hb dX12_compares_54 (by decide) (fun c_82 => ?_) (fun c_82 => ?_)
        · have g_83 : gi p2 (-2147483648) 1319 := gi_lt_l c_82 (gi_any p2) g_76 (by decide)
          refine lv_iconst (v := 0) hx hb dX12_compares_61 (by decide) ?_
          refine va_put (D := (dC, dI)) (ci := 12) (v := .int 0) (ty := .boolean) (C := RX12) (T := TX12) (N := 57) hx hb hts (fun w h => List.mem_cons_of_mem _ (jnGB_X12 w h)) tyX12 tyX12_ok nmX12 hown hK hP hD hS 0 rfl rfl 51 (by decide) (hts _ (List.mem_cons_of_mem _ mGB_502)) (fun _ h9 => h9) rfl (by decide +kernel) rfl rfl (Nat.le_of_ble_eq_true rfl) dX12_compares_62 (fun H locs hP hD hS => ?_)
          have hP : va_P (dC, dI) vwCl (MWn h0 mr km (mi 0) (mi 1) (mi 2) (mi 3) (mi 4) (mi 5) (mi 6) (mi 7) (mi 10) (mi 17) (mi 23) (mi 24) (mi 26) (mi 27) (mi 28) (mi 29) (mi 30) (mi 31) (mi 32) (mi 33) (mi 37) (mi 41) (mi 42) (mi 43) (mi 44) (mi 45) (mi 47) (mi 48) (mi 49) 1 0 (mi 54) (mi 56) fm_trust fm_letter fm_reportPlace fm_reportKind fm_struck fm_reportMonth fm_reportDay fm_reportKnown fm_deedMonth fm_deedDay fm_deedLong fm_deedKind fm_kept fm_tape fm_must fm_least f_73 f_74 fm_verdict fm_row fm_official fm_aside fm_worth fm_out) H := hP
          have hD : va_D A (MWn h0 mr km (mi 0) (mi 1) (mi 2) (mi 3) (mi 4) (mi 5) (mi 6) (mi 7) (mi 10) (mi 17) (mi 23) (mi 24) (mi 26) (mi 27) (mi 28) (mi 29) (mi 30) (mi 31) (mi 32) (mi 33) (mi 37) (mi 41) (mi 42) (mi 43) (mi 44) (mi 45) (mi 47) (mi 48) (mi 49) 1 0 (mi 54) (mi 56) fm_trust fm_letter fm_reportPlace fm_reportKind fm_struck fm_reportMonth fm_reportDay fm_reportKnown fm_deedMonth fm_deedDay fm_deedLong fm_deedKind fm_kept fm_tape fm_must fm_least f_73 f_74 fm_verdict fm_row fm_official fm_aside fm_worth fm_out) := hD
          exact W.vret hx hb hr (fun t ht hW => ⟨⟨(), rfl, trivial, 1, 0, f_73, f_74, (gi_w (gi_c 1 1 (by decide)) (by decide)), (gi_w (gi_c 0 0 (by decide)) (by decide)), by rw [ht]; exact hP, hD⟩, hS.F ht⟩) hS.2.2 dX12_compares_65
        · have g_84 : gi p2 (-1) 2147483647 := gi_le_r (Int32.not_lt.mp c_82) g_76 (gi_any p2)
          refine lv_iconst (v := 1) hx hb dX12_compares_57 (by decide) ?_
          refine lv_goto (tgt := 62) hx hb dX12_compares_58 (by decide) ?_
          refine va_put (D := (dC, dI)) (ci := 12) (v := .int 1) (ty := .boolean) (C := RX12) (T := TX12) (N := 57) hx hb hts (fun w h => List.mem_cons_of_mem _ (jnGB_X12 w h)) tyX12 tyX12_ok nmX12 hown hK hP hD hS 0 rfl rfl 51 (by decide) (hts _ (List.mem_cons_of_mem _ mGB_502)) (fun _ h9 => h9) rfl (by decide +kernel) rfl rfl (Nat.le_of_ble_eq_true rfl) dX12_compares_62 (fun H locs hP hD hS => ?_)
          have hP : va_P (dC, dI) vwCl (MWn h0 mr km (mi 0) (mi 1) (mi 2) (mi 3) (mi 4) (mi 5) (mi 6) (mi 7) (mi 10) (mi 17) (mi 23) (mi 24) (mi 26) (mi 27) (mi 28) (mi 29) (mi 30) (mi 31) (mi 32) (mi 33) (mi 37) (mi 41) (mi 42) (mi 43) (mi 44) (mi 45) (mi 47) (mi 48) (mi 49) 1 1 (mi 54) (mi 56) fm_trust fm_letter fm_reportPlace fm_reportKind fm_struck fm_reportMonth fm_reportDay fm_reportKnown fm_deedMonth fm_deedDay fm_deedLong fm_deedKind fm_kept fm_tape fm_must fm_least f_73 f_74 fm_verdict fm_row fm_official fm_aside fm_worth fm_out) H := hP
          have hD : va_D A (MWn h0 mr km (mi 0) (mi 1) (mi 2) (mi 3) (mi 4) (mi 5) (mi 6) (mi 7) (mi 10) (mi 17) (mi 23) (mi 24) (mi 26) (mi 27) (mi 28) (mi 29) (mi 30) (mi 31) (mi 32) (mi 33) (mi 37) (mi 41) (mi 42) (mi 43) (mi 44) (mi 45) (mi 47) (mi 48) (mi 49) 1 1 (mi 54) (mi 56) fm_trust fm_letter fm_reportPlace fm_reportKind fm_struck fm_reportMonth fm_reportDay fm_reportKnown fm_deedMonth fm_deedDay fm_deedLong fm_deedKind fm_kept fm_tape fm_must fm_least f_73 f_74 fm_verdict fm_row fm_official fm_aside fm_worth fm_out) := hD
          exact W.vret hx hb hr (fun t ht hW => ⟨⟨(), rfl, trivial, 1, 1, f_73, f_74, (gi_w (gi_c 1 1 (by decide)) (by decide)), (gi_w (gi_c 1 1 (by decide)) (by decide)), by rw [ht]; exact hP, hD⟩, hS.F ht⟩) hS.2.2 dX12_compares_65
    · have g_85 : gi (mi 50) 0 0 := gi_eq c_77 (gi_c 0 0 (by decide))
      refine lv_iload_n hx hb dX12_compares_30 rfl (lv_at hl 4 rfl) ?_
      refine lv_iload hx hb dX12_compares_31 (lv_at hl 0 rfl) ?_
      refine lv_icmp_gt (tgt := 40) hx hb dX12_compares_33 (by decide) (fun c_86 => ?_) (fun c_86 => ?_)
      · have g_87 : gi p2 (-1) 2147483647 := gi_lt_r c_86 gr_72 (gi_any p2) (by decide)
        refine lv_iconst (v := 0) hx hb dX12_compares_40 (by decide) ?_
        refine va_put (D := (dC, dI)) (ci := 12) (v := .int 0) (ty := .boolean) (C := RX12) (T := TX12) (N := 57) hx hb hts (fun w h => List.mem_cons_of_mem _ (jnGB_X12 w h)) tyX12 tyX12_ok nmX12 hown hK hP hD hS 0 rfl rfl 50 (by decide) (hts _ (List.mem_cons_of_mem _ mGB_501)) (fun _ h9 => h9) rfl (by decide +kernel) rfl rfl (Nat.le_of_ble_eq_true rfl) dX12_compares_41 (fun H locs hP hD hS => ?_)
        have hP : va_P (dC, dI) vwCl (MWn h0 mr km (mi 0) (mi 1) (mi 2) (mi 3) (mi 4) (mi 5) (mi 6) (mi 7) (mi 10) (mi 17) (mi 23) (mi 24) (mi 26) (mi 27) (mi 28) (mi 29) (mi 30) (mi 31) (mi 32) (mi 33) (mi 37) (mi 41) (mi 42) (mi 43) (mi 44) (mi 45) (mi 47) (mi 48) (mi 49) 0 (mi 51) (mi 54) (mi 56) fm_trust fm_letter fm_reportPlace fm_reportKind fm_struck fm_reportMonth fm_reportDay fm_reportKnown fm_deedMonth fm_deedDay fm_deedLong fm_deedKind fm_kept fm_tape fm_must fm_least f_73 f_74 fm_verdict fm_row fm_official fm_aside fm_worth fm_out) H := hP
        have hD : va_D A (MWn h0 mr km (mi 0) (mi 1) (mi 2) (mi 3) (mi 4) (mi 5) (mi 6) (mi 7) (mi 10) (mi 17) (mi 23) (mi 24) (mi 26) (mi 27) (mi 28) (mi 29) (mi 30) (mi 31) (mi 32) (mi 33) (mi 37) (mi 41) (mi 42) (mi 43) (mi 44) (mi 45) (mi 47) (mi 48) (mi 49) 0 (mi 51) (mi 54) (mi 56) fm_trust fm_letter fm_reportPlace fm_reportKind fm_struck fm_reportMonth fm_reportDay fm_reportKnown fm_deedMonth fm_deedDay fm_deedLong fm_deedKind fm_kept fm_tape fm_must fm_least f_73 f_74 fm_verdict fm_row fm_official fm_aside fm_worth fm_out) := hD
        refine lv_aload_n hx hb dX12_compares_44 rfl (lv_at hl 2 rfl) ?_
        refine lv_aload_n hx hb dX12_compares_45 rfl (lv_at hl 2 rfl) ?_
        refine va_get (D := (dC, dI)) (ci := 12) (v := .int (mi 51)) (C := RX12) (T := TX12) (N := 57) hx hb hts (fun w h => List.mem_cons_of_mem _ (jnGB_X12 w h)) hown hK hP 0 rfl rfl 51 (by decide) (hts _ (List.mem_cons_of_mem _ mGB_502)) (fun _ h9 => h9) rfl dX12_compares_46 ?_
        refine lv_if_ne (tgt := 57) hx hb dX12_compares_49 (by decide) (fun c_88 => ?_) (fun c_88 => ?_)
        · have g_89 : gi (mi 51) 1 1 := gi_ne_lo c_88 gmi_51 (gi_c 0 0 (by decide)) (by decide)
          refine lv_iconst (v := 1) hx hb dX12_compares_57 (by decide) ?_
          refine lv_goto (tgt := 62) hx hb dX12_compares_58 (by decide) ?_
          refine va_put (D := (dC, dI)) (ci := 12) (v := .int 1) (ty := .boolean) (C := RX12) (T := TX12) (N := 57) hx hb hts (fun w h => List.mem_cons_of_mem _ (jnGB_X12 w h)) tyX12 tyX12_ok nmX12 hown hK hP hD hS 0 rfl rfl 51 (by decide) (hts _ (List.mem_cons_of_mem _ mGB_502)) (fun _ h9 => h9) rfl (by decide +kernel) rfl rfl (Nat.le_of_ble_eq_true rfl) dX12_compares_62 (fun H locs hP hD hS => ?_)
          have hP : va_P (dC, dI) vwCl (MWn h0 mr km (mi 0) (mi 1) (mi 2) (mi 3) (mi 4) (mi 5) (mi 6) (mi 7) (mi 10) (mi 17) (mi 23) (mi 24) (mi 26) (mi 27) (mi 28) (mi 29) (mi 30) (mi 31) (mi 32) (mi 33) (mi 37) (mi 41) (mi 42) (mi 43) (mi 44) (mi 45) (mi 47) (mi 48) (mi 49) 0 1 (mi 54) (mi 56) fm_trust fm_letter fm_reportPlace fm_reportKind fm_struck fm_reportMonth fm_reportDay fm_reportKnown fm_deedMonth fm_deedDay fm_deedLong fm_deedKind fm_kept fm_tape fm_must fm_least f_73 f_74 fm_verdict fm_row fm_official fm_aside fm_worth fm_out) H := hP
          have hD : va_D A (MWn h0 mr km (mi 0) (mi 1) (mi 2) (mi 3) (mi 4) (mi 5) (mi 6) (mi 7) (mi 10) (mi 17) (mi 23) (mi 24) (mi 26) (mi 27) (mi 28) (mi 29) (mi 30) (mi 31) (mi 32) (mi 33) (mi 37) (mi 41) (mi 42) (mi 43) (mi 44) (mi 45) (mi 47) (mi 48) (mi 49) 0 1 (mi 54) (mi 56) fm_trust fm_letter fm_reportPlace fm_reportKind fm_struck fm_reportMonth fm_reportDay fm_reportKnown fm_deedMonth fm_deedDay fm_deedLong fm_deedKind fm_kept fm_tape fm_must fm_least f_73 f_74 fm_verdict fm_row fm_official fm_aside fm_worth fm_out) := hD
          exact W.vret hx hb hr (fun t ht hW => ⟨⟨(), rfl, trivial, 0, 1, f_73, f_74, (gi_w (gi_c 0 0 (by decide)) (by decide)), (gi_w (gi_c 1 1 (by decide)) (by decide)), by rw [ht]; exact hP, hD⟩, hS.F ht⟩) hS.2.2 dX12_compares_65
        · have g_90 : gi (mi 51) 0 0 := gi_eq c_88 (gi_c 0 0 (by decide))
          refine lv_iload_n hx hb dX12_compares_52 rfl (lv_at hl 4 rfl) ?_
          refine lv_iload_n hx hb dX12_compares_53 rfl (lv_at hl 1 rfl) ?_
          refine lv_icmp_lt (tgt := 61) hx hb dX12_compares_54 (by decide) (fun c_91 => ?_) (fun c_91 => ?_)
          · have g_92 : gi p2 (-1) 1319 := gi_lt_l c_91 g_87 g_76 (by decide)
            have g_93 : gi r_72 (-2) 1319 := gi_rel (Int.le_of_lt (Int32.lt_iff_toInt_lt.mp c_86)) gr_72 g_92
            have g_94 : gi r_69 0 1320 := gi_lt_r c_91 g_87 g_76 (by decide)
            refine lv_iconst (v := 0) hx hb dX12_compares_61 (by decide) ?_
            refine va_put (D := (dC, dI)) (ci := 12) (v := .int 0) (ty := .boolean) (C := RX12) (T := TX12) (N := 57) hx hb hts (fun w h => List.mem_cons_of_mem _ (jnGB_X12 w h)) tyX12 tyX12_ok nmX12 hown hK hP hD hS 0 rfl rfl 51 (by decide) (hts _ (List.mem_cons_of_mem _ mGB_502)) (fun _ h9 => h9) rfl (by decide +kernel) rfl rfl (Nat.le_of_ble_eq_true rfl) dX12_compares_62 (fun H locs hP hD hS => ?_)
            have hP : va_P (dC, dI) vwCl (MWn h0 mr km (mi 0) (mi 1) (mi 2) (mi 3) (mi 4) (mi 5) (mi 6) (mi 7) (mi 10) (mi 17) (mi 23) (mi 24) (mi 26) (mi 27) (mi 28) (mi 29) (mi 30) (mi 31) (mi 32) (mi 33) (mi 37) (mi 41) (mi 42) (mi 43) (mi 44) (mi 45) (mi 47) (mi 48) (mi 49) 0 0 (mi 54) (mi 56) fm_trust fm_letter fm_reportPlace fm_reportKind fm_struck fm_reportMonth fm_reportDay fm_reportKnown fm_deedMonth fm_deedDay fm_deedLong fm_deedKind fm_kept fm_tape fm_must fm_least f_73 f_74 fm_verdict fm_row fm_official fm_aside fm_worth fm_out) H := hP
            have hD : va_D A (MWn h0 mr km (mi 0) (mi 1) (mi 2) (mi 3) (mi 4) (mi 5) (mi 6) (mi 7) (mi 10) (mi 17) (mi 23) (mi 24) (mi 26) (mi 27) (mi 28) (mi 29) (mi 30) (mi 31) (mi 32) (mi 33) (mi 37) (mi 41) (mi 42) (mi 43) (mi 44) (mi 45) (mi 47) (mi 48) (mi 49) 0 0 (mi 54) (mi 56) fm_trust fm_letter fm_reportPlace fm_reportKind fm_struck fm_reportMonth fm_reportDay fm_reportKnown fm_deedMonth fm_deedDay fm_deedLong fm_deedKind fm_kept fm_tape fm_must fm_least f_73 f_74 fm_verdict fm_row fm_official fm_aside fm_worth fm_out) := hD
            exact W.vret hx hb hr (fun t ht hW => ⟨⟨(), rfl, trivial, 0, 0, f_73, f_74, (gi_w (gi_c 0 0 (by decide)) (by decide)), (gi_w (gi_c 0 0 (by decide)) (by decide)), by rw [ht]; exact hP, hD⟩, hS.F ht⟩) hS.2.2 dX12_compares_65
          · refine lv_iconst (v := 1) hx hb dX12_compares_57 (by decide) ?_
            refine lv_goto (tgt := 62) hx hb dX12_compares_58 (by decide) ?_
            refine va_put (D := (dC, dI)) (ci := 12) (v := .int 1) (ty := .boolean) (C := RX12) (T := TX12) (N := 57) hx hb hts (fun w h => List.mem_cons_of_mem _ (jnGB_X12 w h)) tyX12 tyX12_ok nmX12 hown hK hP hD hS 0 rfl rfl 51 (by decide) (hts _ (List.mem_cons_of_mem _ mGB_502)) (fun _ h9 => h9) rfl (by decide +kernel) rfl rfl (Nat.le_of_ble_eq_true rfl) dX12_compares_62 (fun H locs hP hD hS => ?_)
            have hP : va_P (dC, dI) vwCl (MWn h0 mr km (mi 0) (mi 1) (mi 2) (mi 3) (mi 4) (mi 5) (mi 6) (mi 7) (mi 10) (mi 17) (mi 23) (mi 24) (mi 26) (mi 27) (mi 28) (mi 29) (mi 30) (mi 31) (mi 32) (mi 33) (mi 37) (mi 41) (mi 42) (mi 43) (mi 44) (mi 45) (mi 47) (mi 48) (mi 49) 0 1 (mi 54) (mi 56) fm_trust fm_letter fm_reportPlace fm_reportKind fm_struck fm_reportMonth fm_reportDay fm_reportKnown fm_deedMonth fm_deedDay fm_deedLong fm_deedKind fm_kept fm_tape fm_must fm_least f_73 f_74 fm_verdict fm_row fm_official fm_aside fm_worth fm_out) H := hP
            have hD : va_D A (MWn h0 mr km (mi 0) (mi 1) (mi 2) (mi 3) (mi 4) (mi 5) (mi 6) (mi 7) (mi 10) (mi 17) (mi 23) (mi 24) (mi 26) (mi 27) (mi 28) (mi 29) (mi 30) (mi 31) (mi 32) (mi 33) (mi 37) (mi 41) (mi 42) (mi 43) (mi 44) (mi 45) (mi 47) (mi 48) (mi 49) 0 1 (mi 54) (mi 56) fm_trust fm_letter fm_reportPlace fm_reportKind fm_struck fm_reportMonth fm_reportDay fm_reportKnown fm_deedMonth fm_deedDay fm_deedLong fm_deedKind fm_kept fm_tape fm_must fm_least f_73 f_74 fm_verdict fm_row fm_official fm_aside fm_worth fm_out) := hD
            exact W.vret hx hb hr (fun t ht hW => ⟨⟨(), rfl, trivial, 0, 1, f_73, f_74, (gi_w (gi_c 0 0 (by decide)) (by decide)), (gi_w (gi_c 1 1 (by decide)) (by decide)), by rw [ht]; exact hP, hD⟩, hS.F ht⟩) hS.2.2 dX12_compares_65
      · have g_95 : gi p2 (-2147483648) 1320 := gi_le_l (Int32.not_lt.mp c_86) (gi_any p2) gr_72
        refine lv_iconst (v := 1) hx hb dX12_compares_36 (by decide) ?_
        refine lv_goto (tgt := 41) hx hb dX12_compares_37 (by decide) ?_
        refine va_put (D := (dC, dI)) (ci := 12) (v := .int 1) (ty := .boolean) (C := RX12) (T := TX12) (N := 57) hx hb hts (fun w h => List.mem_cons_of_mem _ (jnGB_X12 w h)) tyX12 tyX12_ok nmX12 hown hK hP hD hS 0 rfl rfl 50 (by decide) (hts _ (List.mem_cons_of_mem _ mGB_501)) (fun _ h9 => h9) rfl (by decide +kernel) rfl rfl (Nat.le_of_ble_eq_true rfl) dX12_compares_41 (fun H locs hP hD hS => ?_)
        have hP : va_P (dC, dI) vwCl (MWn h0 mr km (mi 0) (mi 1) (mi 2) (mi 3) (mi 4) (mi 5) (mi 6) (mi 7) (mi 10) (mi 17) (mi 23) (mi 24) (mi 26) (mi 27) (mi 28) (mi 29) (mi 30) (mi 31) (mi 32) (mi 33) (mi 37) (mi 41) (mi 42) (mi 43) (mi 44) (mi 45) (mi 47) (mi 48) (mi 49) 1 (mi 51) (mi 54) (mi 56) fm_trust fm_letter fm_reportPlace fm_reportKind fm_struck fm_reportMonth fm_reportDay fm_reportKnown fm_deedMonth fm_deedDay fm_deedLong fm_deedKind fm_kept fm_tape fm_must fm_least f_73 f_74 fm_verdict fm_row fm_official fm_aside fm_worth fm_out) H := hP
        have hD : va_D A (MWn h0 mr km (mi 0) (mi 1) (mi 2) (mi 3) (mi 4) (mi 5) (mi 6) (mi 7) (mi 10) (mi 17) (mi 23) (mi 24) (mi 26) (mi 27) (mi 28) (mi 29) (mi 30) (mi 31) (mi 32) (mi 33) (mi 37) (mi 41) (mi 42) (mi 43) (mi 44) (mi 45) (mi 47) (mi 48) (mi 49) 1 (mi 51) (mi 54) (mi 56) fm_trust fm_letter fm_reportPlace fm_reportKind fm_struck fm_reportMonth fm_reportDay fm_reportKnown fm_deedMonth fm_deedDay fm_deedLong fm_deedKind fm_kept fm_tape fm_must fm_least f_73 f_74 fm_verdict fm_row fm_official fm_aside fm_worth fm_out) := hD
        refine lv_aload_n hx hb dX12_compares_44 rfl (lv_at hl 2 rfl) ?_
        refine lv_aload_n hx hb dX12_compares_45 rfl (lv_at hl 2 rfl) ?_
        refine va_get (D := (dC, dI)) (ci := 12) (v := .int (mi 51)) (C := RX12) (T := TX12) (N := 57) hx hb hts (fun w h => List.mem_cons_of_mem _ (jnGB_X12 w h)) hown hK hP 0 rfl rfl 51 (by decide) (hts _ (List.mem_cons_of_mem _ mGB_502)) (fun _ h9 => h9) rfl dX12_compares_46 ?_
        refine lv_if_ne (tgt := 57) hx hb dX12_compares_49 (by decide) (fun c_96 => ?_) (fun c_96 => ?_)
        · have g_97 : gi (mi 51) 1 1 := gi_ne_lo c_96 gmi_51 (gi_c 0 0 (by decide)) (by decide)
          refine lv_iconst (v := 1) hx hb dX12_compares_57 (by decide) ?_
          refine lv_goto (tgt := 62) hx hb dX12_compares_58 (by decide) ?_
          refine va_put (D := (dC, dI)) (ci := 12) (v := .int 1) (ty := .boolean) (C := RX12) (T := TX12) (N := 57) hx hb hts (fun w h => List.mem_cons_of_mem _ (jnGB_X12 w h)) tyX12 tyX12_ok nmX12 hown hK hP hD hS 0 rfl rfl 51 (by decide) (hts _ (List.mem_cons_of_mem _ mGB_502)) (fun _ h9 => h9) rfl (by decide +kernel) rfl rfl (Nat.le_of_ble_eq_true rfl) dX12_compares_62 (fun H locs hP hD hS => ?_)
          have hP : va_P (dC, dI) vwCl (MWn h0 mr km (mi 0) (mi 1) (mi 2) (mi 3) (mi 4) (mi 5) (mi 6) (mi 7) (mi 10) (mi 17) (mi 23) (mi 24) (mi 26) (mi 27) (mi 28) (mi 29) (mi 30) (mi 31) (mi 32) (mi 33) (mi 37) (mi 41) (mi 42) (mi 43) (mi 44) (mi 45) (mi 47) (mi 48) (mi 49) 1 1 (mi 54) (mi 56) fm_trust fm_letter fm_reportPlace fm_reportKind fm_struck fm_reportMonth fm_reportDay fm_reportKnown fm_deedMonth fm_deedDay fm_deedLong fm_deedKind fm_kept fm_tape fm_must fm_least f_73 f_74 fm_verdict fm_row fm_official fm_aside fm_worth fm_out) H := hP
          have hD : va_D A (MWn h0 mr km (mi 0) (mi 1) (mi 2) (mi 3) (mi 4) (mi 5) (mi 6) (mi 7) (mi 10) (mi 17) (mi 23) (mi 24) (mi 26) (mi 27) (mi 28) (mi 29) (mi 30) (mi 31) (mi 32) (mi 33) (mi 37) (mi 41) (mi 42) (mi 43) (mi 44) (mi 45) (mi 47) (mi 48) (mi 49) 1 1 (mi 54) (mi 56) fm_trust fm_letter fm_reportPlace fm_reportKind fm_struck fm_reportMonth fm_reportDay fm_reportKnown fm_deedMonth fm_deedDay fm_deedLong fm_deedKind fm_kept fm_tape fm_must fm_least f_73 f_74 fm_verdict fm_row fm_official fm_aside fm_worth fm_out) := hD
          exact W.vret hx hb hr (fun t ht hW => ⟨⟨(), rfl, trivial, 1, 1, f_73, f_74, (gi_w (gi_c 1 1 (by decide)) (by decide)), (gi_w (gi_c 1 1 (by decide)) (by decide)), by rw [ht]; exact hP, hD⟩, hS.F ht⟩) hS.2.2 dX12_compares_65
        · have g_98 : gi (mi 51) 0 0 := gi_eq c_96 (gi_c 0 0 (by decide))
          refine lv_iload_n hx hb dX12_compares_52 rfl (lv_at hl 4 rfl) ?_
          refine lv_iload_n hx hb dX12_compares_53 rfl (lv_at hl 1 rfl) ?_
          refine lv_icmp_lt (tgt := 61) hx hb dX12_compares_54 (by decide) (fun c_99 => ?_) (fun c_99 => ?_)
          · have g_100 : gi p2 (-2147483648) 1319 := gi_lt_l c_99 g_95 g_76 (by decide)
            refine lv_iconst (v := 0) hx hb dX12_compares_61 (by decide) ?_
            refine va_put (D := (dC, dI)) (ci := 12) (v := .int 0) (ty := .boolean) (C := RX12) (T := TX12) (N := 57) hx hb hts (fun w h => List.mem_cons_of_mem _ (jnGB_X12 w h)) tyX12 tyX12_ok nmX12 hown hK hP hD hS 0 rfl rfl 51 (by decide) (hts _ (List.mem_cons_of_mem _ mGB_502)) (fun _ h9 => h9) rfl (by decide +kernel) rfl rfl (Nat.le_of_ble_eq_true rfl) dX12_compares_62 (fun H locs hP hD hS => ?_)
            have hP : va_P (dC, dI) vwCl (MWn h0 mr km (mi 0) (mi 1) (mi 2) (mi 3) (mi 4) (mi 5) (mi 6) (mi 7) (mi 10) (mi 17) (mi 23) (mi 24) (mi 26) (mi 27) (mi 28) (mi 29) (mi 30) (mi 31) (mi 32) (mi 33) (mi 37) (mi 41) (mi 42) (mi 43) (mi 44) (mi 45) (mi 47) (mi 48) (mi 49) 1 0 (mi 54) (mi 56) fm_trust fm_letter fm_reportPlace fm_reportKind fm_struck fm_reportMonth fm_reportDay fm_reportKnown fm_deedMonth fm_deedDay fm_deedLong fm_deedKind fm_kept fm_tape fm_must fm_least f_73 f_74 fm_verdict fm_row fm_official fm_aside fm_worth fm_out) H := hP
            have hD : va_D A (MWn h0 mr km (mi 0) (mi 1) (mi 2) (mi 3) (mi 4) (mi 5) (mi 6) (mi 7) (mi 10) (mi 17) (mi 23) (mi 24) (mi 26) (mi 27) (mi 28) (mi 29) (mi 30) (mi 31) (mi 32) (mi 33) (mi 37) (mi 41) (mi 42) (mi 43) (mi 44) (mi 45) (mi 47) (mi 48) (mi 49) 1 0 (mi 54) (mi 56) fm_trust fm_letter fm_reportPlace fm_reportKind fm_struck fm_reportMonth fm_reportDay fm_reportKnown fm_deedMonth fm_deedDay fm_deedLong fm_deedKind fm_kept fm_tape fm_must fm_least f_73 f_74 fm_verdict fm_row fm_official fm_aside fm_worth fm_out) := hD
            exact W.vret hx hb hr (fun t ht hW => ⟨⟨(), rfl, trivial, 1, 0, f_73, f_74, (gi_w (gi_c 1 1 (by decide)) (by decide)), (gi_w (gi_c 0 0 (by decide)) (by decide)), by rw [ht]; exact hP, hD⟩, hS.F ht⟩) hS.2.2 dX12_compares_65
          · have g_101 : gi p2 (-1) 1320 := gi_le_r (Int32.not_lt.mp c_99) g_76 g_95
            refine lv_iconst (v := 1) hx hb dX12_compares_57 (by decide) ?_
            refine lv_goto (tgt := 62) hx hb dX12_compares_58 (by decide) ?_
            refine va_put (D := (dC, dI)) (ci := 12) (v := .int 1) (ty := .boolean) (C := RX12) (T := TX12) (N := 57) hx hb hts (fun w h => List.mem_cons_of_mem _ (jnGB_X12 w h)) tyX12 tyX12_ok nmX12 hown hK hP hD hS 0 rfl rfl 51 (by decide) (hts _ (List.mem_cons_of_mem _ mGB_502)) (fun _ h9 => h9) rfl (by decide +kernel) rfl rfl (Nat.le_of_ble_eq_true rfl) dX12_compares_62 (fun H locs hP hD hS => ?_)
            have hP : va_P (dC, dI) vwCl (MWn h0 mr km (mi 0) (mi 1) (mi 2) (mi 3) (mi 4) (mi 5) (mi 6) (mi 7) (mi 10) (mi 17) (mi 23) (mi 24) (mi 26) (mi 27) (mi 28) (mi 29) (mi 30) (mi 31) (mi 32) (mi 33) (mi 37) (mi 41) (mi 42) (mi 43) (mi 44) (mi 45) (mi 47) (mi 48) (mi 49) 1 1 (mi 54) (mi 56) fm_trust fm_letter fm_reportPlace fm_reportKind fm_struck fm_reportMonth fm_reportDay fm_reportKnown fm_deedMonth fm_deedDay fm_deedLong fm_deedKind fm_kept fm_tape fm_must fm_least f_73 f_74 fm_verdict fm_row fm_official fm_aside fm_worth fm_out) H := hP
            have hD : va_D A (MWn h0 mr km (mi 0) (mi 1) (mi 2) (mi 3) (mi 4) (mi 5) (mi 6) (mi 7) (mi 10) (mi 17) (mi 23) (mi 24) (mi 26) (mi 27) (mi 28) (mi 29) (mi 30) (mi 31) (mi 32) (mi 33) (mi 37) (mi 41) (mi 42) (mi 43) (mi 44) (mi 45) (mi 47) (mi 48) (mi 49) 1 1 (mi 54) (mi 56) fm_trust fm_letter fm_reportPlace fm_reportKind fm_struck fm_reportMonth fm_reportDay fm_reportKnown fm_deedMonth fm_deedDay fm_deedLong fm_deedKind fm_kept fm_tape fm_must fm_least f_73 f_74 fm_verdict fm_row fm_official fm_aside fm_worth fm_out) := hD
            exact W.vret hx hb hr (fun t ht hW => ⟨⟨(), rfl, trivial, 1, 1, f_73, f_74, (gi_w (gi_c 1 1 (by decide)) (by decide)), (gi_w (gi_c 1 1 (by decide)) (by decide)), by rw [ht]; exact hP, hD⟩, hS.F ht⟩) hS.2.2 dX12_compares_65
  · have g_102 : gi r_69 (-2) (-2) := gi_eq c_75 (gi_c (-2) (-2) (by decide))
    exact W.vret hx hb hr (fun t ht hW => ⟨⟨(), rfl, trivial, (mi 50), (mi 51), f_73, f_74, gmi_50, gmi_51, by rw [ht]; exact hP, hD⟩, hS.F ht⟩) hS.2.2 dX12_compares_21
