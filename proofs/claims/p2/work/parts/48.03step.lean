theorem dX6_step_0 : decode cX6_step 0 = .ok (.aload_n 0, 1) := by decide +kernel
theorem dX6_step_1 : decode cX6_step 1 = .ok (.getfield 25, 3) := by decide +kernel
theorem dX6_step_4 : decode cX6_step 4 = .ok (.ifCond .eq 4, 3) := by decide +kernel
theorem dX6_step_7 : decode cX6_step 7 = .ok (.return_, 1) := by decide +kernel
theorem dX6_step_8 : decode cX6_step 8 = .ok (.aload_n 0, 1) := by decide +kernel
theorem dX6_step_9 : decode cX6_step 9 = .ok (.aload_n 0, 1) := by decide +kernel
theorem dX6_step_10 : decode cX6_step 10 = .ok (.getfield 38, 3) := by decide +kernel
theorem dX6_step_13 : decode cX6_step 13 = .ok (.putfield 35, 3) := by decide +kernel
theorem dX6_step_16 : decode cX6_step 16 = .ok (.aload_n 0, 1) := by decide +kernel
theorem dX6_step_17 : decode cX6_step 17 = .ok (.getfield 35, 3) := by decide +kernel
theorem dX6_step_20 : decode cX6_step 20 = .ok (.aload_n 0, 1) := by decide +kernel
theorem dX6_step_21 : decode cX6_step 21 = .ok (.getfield 12, 3) := by decide +kernel
theorem dX6_step_24 : decode cX6_step 24 = .ok (.getfield 205, 3) := by decide +kernel
theorem dX6_step_27 : decode cX6_step 27 = .ok (.if_icmp .ge 30, 3) := by decide +kernel
theorem dX6_step_30 : decode cX6_step 30 = .ok (.aload_n 0, 1) := by decide +kernel
theorem dX6_step_31 : decode cX6_step 31 = .ok (.aload_n 0, 1) := by decide +kernel
theorem dX6_step_32 : decode cX6_step 32 = .ok (.getfield 35, 3) := by decide +kernel
theorem dX6_step_35 : decode cX6_step 35 = .ok (.invokevirtual 181, 3) := by decide +kernel
theorem dX6_step_38 : decode cX6_step 38 = .ok (.invokestatic 207, 3) := by decide +kernel
theorem dX6_step_41 : decode cX6_step 41 = .ok (.ifCond .eq 16, 3) := by decide +kernel
theorem dX6_step_44 : decode cX6_step 44 = .ok (.aload_n 0, 1) := by decide +kernel
theorem dX6_step_45 : decode cX6_step 45 = .ok (.dup, 1) := by decide +kernel
theorem dX6_step_46 : decode cX6_step 46 = .ok (.getfield 35, 3) := by decide +kernel
theorem dX6_step_49 : decode cX6_step 49 = .ok (.iconst 1, 1) := by decide +kernel
theorem dX6_step_50 : decode cX6_step 50 = .ok (.iadd, 1) := by decide +kernel
theorem dX6_step_51 : decode cX6_step 51 = .ok (.putfield 35, 3) := by decide +kernel
theorem dX6_step_54 : decode cX6_step 54 = .ok (.goto (-38), 3) := by decide +kernel
theorem dX6_step_57 : decode cX6_step 57 = .ok (.aload_n 0, 1) := by decide +kernel
theorem dX6_step_58 : decode cX6_step 58 = .ok (.aload_n 0, 1) := by decide +kernel
theorem dX6_step_59 : decode cX6_step 59 = .ok (.getfield 35, 3) := by decide +kernel
theorem dX6_step_62 : decode cX6_step 62 = .ok (.putfield 38, 3) := by decide +kernel
theorem dX6_step_65 : decode cX6_step 65 = .ok (.aload_n 0, 1) := by decide +kernel
theorem dX6_step_66 : decode cX6_step 66 = .ok (.aload_n 0, 1) := by decide +kernel
theorem dX6_step_67 : decode cX6_step 67 = .ok (.getfield 35, 3) := by decide +kernel
theorem dX6_step_70 : decode cX6_step 70 = .ok (.invokevirtual 181, 3) := by decide +kernel
theorem dX6_step_73 : decode cX6_step 73 = .ok (.istore_n 1, 1) := by decide +kernel
theorem dX6_step_74 : decode cX6_step 74 = .ok (.aload_n 0, 1) := by decide +kernel
theorem dX6_step_75 : decode cX6_step 75 = .ok (.getfield 35, 3) := by decide +kernel
theorem dX6_step_78 : decode cX6_step 78 = .ok (.aload_n 0, 1) := by decide +kernel
theorem dX6_step_79 : decode cX6_step 79 = .ok (.getfield 12, 3) := by decide +kernel
theorem dX6_step_82 : decode cX6_step 82 = .ok (.getfield 205, 3) := by decide +kernel
theorem dX6_step_85 : decode cX6_step 85 = .ok (.if_icmp .lt 11, 3) := by decide +kernel
theorem dX6_step_88 : decode cX6_step 88 = .ok (.aload_n 0, 1) := by decide +kernel
theorem dX6_step_89 : decode cX6_step 89 = .ok (.iconst 0, 1) := by decide +kernel
theorem dX6_step_90 : decode cX6_step 90 = .ok (.putfield 32, 3) := by decide +kernel
theorem dX6_step_93 : decode cX6_step 93 = .ok (.goto 134, 3) := by decide +kernel
theorem dX6_step_96 : decode cX6_step 96 = .ok (.iload_n 1, 1) := by decide +kernel
theorem dX6_step_97 : decode cX6_step 97 = .ok (.invokestatic 184, 3) := by decide +kernel
theorem dX6_step_100 : decode cX6_step 100 = .ok (.ifCond .eq 49, 3) := by decide +kernel
theorem dX6_step_103 : decode cX6_step 103 = .ok (.aload_n 0, 1) := by decide +kernel
theorem dX6_step_104 : decode cX6_step 104 = .ok (.iconst 2, 1) := by decide +kernel
theorem dX6_step_105 : decode cX6_step 105 = .ok (.putfield 32, 3) := by decide +kernel
theorem dX6_step_108 : decode cX6_step 108 = .ok (.aload_n 0, 1) := by decide +kernel
theorem dX6_step_109 : decode cX6_step 109 = .ok (.getfield 38, 3) := by decide +kernel
theorem dX6_step_112 : decode cX6_step 112 = .ok (.aload_n 0, 1) := by decide +kernel
theorem dX6_step_113 : decode cX6_step 113 = .ok (.getfield 12, 3) := by decide +kernel
theorem dX6_step_116 : decode cX6_step 116 = .ok (.getfield 205, 3) := by decide +kernel
theorem dX6_step_119 : decode cX6_step 119 = .ok (.if_icmp .ge 108, 3) := by decide +kernel
theorem dX6_step_122 : decode cX6_step 122 = .ok (.aload_n 0, 1) := by decide +kernel
theorem dX6_step_123 : decode cX6_step 123 = .ok (.aload_n 0, 1) := by decide +kernel
theorem dX6_step_124 : decode cX6_step 124 = .ok (.getfield 38, 3) := by decide +kernel
theorem dX6_step_127 : decode cX6_step 127 = .ok (.invokevirtual 181, 3) := by decide +kernel
theorem dX6_step_130 : decode cX6_step 130 = .ok (.invokestatic 184, 3) := by decide +kernel
theorem dX6_step_133 : decode cX6_step 133 = .ok (.ifCond .eq 94, 3) := by decide +kernel
theorem dX6_step_136 : decode cX6_step 136 = .ok (.aload_n 0, 1) := by decide +kernel
theorem dX6_step_137 : decode cX6_step 137 = .ok (.dup, 1) := by decide +kernel
theorem dX6_step_138 : decode cX6_step 138 = .ok (.getfield 38, 3) := by decide +kernel
theorem dX6_step_141 : decode cX6_step 141 = .ok (.iconst 1, 1) := by decide +kernel
theorem dX6_step_142 : decode cX6_step 142 = .ok (.iadd, 1) := by decide +kernel
theorem dX6_step_143 : decode cX6_step 143 = .ok (.putfield 38, 3) := by decide +kernel
theorem dX6_step_146 : decode cX6_step 146 = .ok (.goto (-38), 3) := by decide +kernel
theorem dX6_step_149 : decode cX6_step 149 = .ok (.iload_n 1, 1) := by decide +kernel
theorem dX6_step_150 : decode cX6_step 150 = .ok (.invokestatic 188, 3) := by decide +kernel
theorem dX6_step_153 : decode cX6_step 153 = .ok (.ifCond .eq 49, 3) := by decide +kernel
theorem dX6_step_156 : decode cX6_step 156 = .ok (.aload_n 0, 1) := by decide +kernel
theorem dX6_step_157 : decode cX6_step 157 = .ok (.iconst 3, 1) := by decide +kernel
theorem dX6_step_158 : decode cX6_step 158 = .ok (.putfield 32, 3) := by decide +kernel
theorem dX6_step_161 : decode cX6_step 161 = .ok (.aload_n 0, 1) := by decide +kernel
theorem dX6_step_162 : decode cX6_step 162 = .ok (.getfield 38, 3) := by decide +kernel
theorem dX6_step_165 : decode cX6_step 165 = .ok (.aload_n 0, 1) := by decide +kernel
theorem dX6_step_166 : decode cX6_step 166 = .ok (.getfield 12, 3) := by decide +kernel
theorem dX6_step_169 : decode cX6_step 169 = .ok (.getfield 205, 3) := by decide +kernel
theorem dX6_step_172 : decode cX6_step 172 = .ok (.if_icmp .ge 55, 3) := by decide +kernel
theorem dX6_step_175 : decode cX6_step 175 = .ok (.aload_n 0, 1) := by decide +kernel
theorem dX6_step_176 : decode cX6_step 176 = .ok (.aload_n 0, 1) := by decide +kernel
theorem dX6_step_177 : decode cX6_step 177 = .ok (.getfield 38, 3) := by decide +kernel
theorem dX6_step_180 : decode cX6_step 180 = .ok (.invokevirtual 181, 3) := by decide +kernel
theorem dX6_step_183 : decode cX6_step 183 = .ok (.invokestatic 188, 3) := by decide +kernel
theorem dX6_step_186 : decode cX6_step 186 = .ok (.ifCond .eq 41, 3) := by decide +kernel
theorem dX6_step_189 : decode cX6_step 189 = .ok (.aload_n 0, 1) := by decide +kernel
theorem dX6_step_190 : decode cX6_step 190 = .ok (.dup, 1) := by decide +kernel
theorem dX6_step_191 : decode cX6_step 191 = .ok (.getfield 38, 3) := by decide +kernel
theorem dX6_step_194 : decode cX6_step 194 = .ok (.iconst 1, 1) := by decide +kernel
theorem dX6_step_195 : decode cX6_step 195 = .ok (.iadd, 1) := by decide +kernel
theorem dX6_step_196 : decode cX6_step 196 = .ok (.putfield 38, 3) := by decide +kernel
theorem dX6_step_199 : decode cX6_step 199 = .ok (.goto (-38), 3) := by decide +kernel
theorem dX6_step_202 : decode cX6_step 202 = .ok (.aload_n 0, 1) := by decide +kernel
theorem dX6_step_203 : decode cX6_step 203 = .ok (.iload_n 1, 1) := by decide +kernel
theorem dX6_step_204 : decode cX6_step 204 = .ok (.bipush 59, 2) := by decide +kernel
theorem dX6_step_206 : decode cX6_step 206 = .ok (.if_icmp .ne 7, 3) := by decide +kernel
theorem dX6_step_209 : decode cX6_step 209 = .ok (.iconst 4, 1) := by decide +kernel
theorem dX6_step_210 : decode cX6_step 210 = .ok (.goto 4, 3) := by decide +kernel
theorem dX6_step_213 : decode cX6_step 213 = .ok (.iconst 1, 1) := by decide +kernel
theorem dX6_step_214 : decode cX6_step 214 = .ok (.putfield 32, 3) := by decide +kernel
theorem dX6_step_217 : decode cX6_step 217 = .ok (.aload_n 0, 1) := by decide +kernel
theorem dX6_step_218 : decode cX6_step 218 = .ok (.dup, 1) := by decide +kernel
theorem dX6_step_219 : decode cX6_step 219 = .ok (.getfield 38, 3) := by decide +kernel
theorem dX6_step_222 : decode cX6_step 222 = .ok (.iconst 1, 1) := by decide +kernel
theorem dX6_step_223 : decode cX6_step 223 = .ok (.iadd, 1) := by decide +kernel
theorem dX6_step_224 : decode cX6_step 224 = .ok (.putfield 38, 3) := by decide +kernel
theorem dX6_step_227 : decode cX6_step 227 = .ok (.return_, 1) := by decide +kernel
set_option maxHeartbeats 4000000 in
set_option maxRecDepth 100000 in
theorem lp_sX6_step {p : Program} {l : Launch} {e : Env} {R : Room} {s : State} {m : MethodId} {args : Array Value} {below : List Frame} {meth : Method} {c : Code} {Q : State → Prop} {A : Nat → Prop} {cells slots : Nat} {dC : Nat → ClassId} {dI : Nat → Nat → Nat} (h0 : Nat) (tp : Nat) (bt : Nat) (dr : Nat) (q_faultKind : Int32) (q_faultPlace : Int32) (q_token : Int32) (q_start : Int32) (q_stop : Int32) (b_length : Int32) (kbt : ClassId) (fbt : Nat → Int32) (gq_faultKind : gi q_faultKind 0 3) (gq_start : gi q_start 0 1600) (gq_stop : gi q_stop 0 1600) (gb_length : gi b_length 0 1600) (hx : p.tables.exec = Jvm.exec) (hb : c.code = cX6_step) (hml : c.maxLocals = 2) (hown : s.vm.findClass RX6 = some m.cls) (hts : ∀ w ∈ ((.code yX6_step cX6_step 2 none :: wsGA) : List Cond), w.before args s = true) (hK : va_K (dC, dI) vwCl [(kbt, .byte)] s) (hz : nzA s) (hA : ∀ q : Nat, s.heap.size ≤ q → A q) (hRf : 1 ≤ R.frames) (hRl : 21 ≤ R.locals) (hRc : cells ≤ R.cells) (hRs : slots ≤ R.slots) (kr7 : ∀ (w0_4 : Int32) (w0_5 : Int32) (w0_6 : Int32) (H : Heap) (locs : List Loc) (ls : Array Slot), gi w0_5 0 1600 → gi w0_6 0 1600 → va_P (dC, dI) vwCl [(h0, .inr (6, [.ref tp, .ref dr, .int q_faultKind, .int q_faultPlace, .int w0_4, .int w0_5, .int w0_6])), (tp, .inr (10, [.ref bt, .int b_length])), (bt, .inl (kbt, 1600, .inl fbt))] H → va_D A [(h0, .inr (6, [.ref tp, .ref dr, .int q_faultKind, .int q_faultPlace, .int w0_4, .int w0_5, .int w0_6])), (tp, .inr (10, [.ref bt, .int b_length])), (bt, .inl (kbt, 1600, .inl fbt))] → va_S A s.heap H locs → lv_has ls 2 [] → W p l e R s m args below meth c H locs cells slots Q (F0 m 7 ls [])) (kr227 : ∀ (w0_4 : Int32) (w0_5 : Int32) (w0_6 : Int32) (H : Heap) (locs : List Loc) (ls : Array Slot), gi w0_5 0 1600 → gi w0_6 0 1600 → va_P (dC, dI) vwCl [(h0, .inr (6, [.ref tp, .ref dr, .int q_faultKind, .int q_faultPlace, .int w0_4, .int w0_5, .int w0_6])), (tp, .inr (10, [.ref bt, .int b_length])), (bt, .inl (kbt, 1600, .inl fbt))] H → va_D A [(h0, .inr (6, [.ref tp, .ref dr, .int q_faultKind, .int q_faultPlace, .int w0_4, .int w0_5, .int w0_6])), (tp, .inr (10, [.ref bt, .int b_length])), (bt, .inl (kbt, 1600, .inl fbt))] → va_S A s.heap H locs → lv_has ls 2 [] → W p l e R s m args below meth c H locs cells slots Q (F0 m 227 ls [])) : ∀ z : Nat, (∀ (w0_5 : Int32) (H : Heap) (locs : List Loc) (ls : Array Slot), gi w0_5 0 1600 → 9609 + (-2) * w0_5.toInt < (z : Int) → va_P (dC, dI) vwCl [(h0, .inr (6, [.ref tp, .ref dr, .int q_faultKind, .int q_faultPlace, .int q_token, .int w0_5, .int q_stop])), (tp, .inr (10, [.ref bt, .int b_length])), (bt, .inl (kbt, 1600, .inl fbt))] H → va_D A [(h0, .inr (6, [.ref tp, .ref dr, .int q_faultKind, .int q_faultPlace, .int q_token, .int w0_5, .int q_stop])), (tp, .inr (10, [.ref bt, .int b_length])), (bt, .inl (kbt, 1600, .inl fbt))] → va_S A s.heap H locs → lv_has ls 2 [(0, .ref h0)] → W p l e R s m args below meth c H locs cells slots Q (F0 m 16 ls [])) ∧ (∀ (v1 : Int32) (w0_4 : Int32) (w0_5 : Int32) (w0_6 : Int32) (H : Heap) (locs : List Loc) (ls : Array Slot), gi w0_5 0 1600 → gi w0_6 0 1600 → 6405 + (-2) * w0_6.toInt < (z : Int) → va_P (dC, dI) vwCl [(h0, .inr (6, [.ref tp, .ref dr, .int q_faultKind, .int q_faultPlace, .int w0_4, .int w0_5, .int w0_6])), (tp, .inr (10, [.ref bt, .int b_length])), (bt, .inl (kbt, 1600, .inl fbt))] H → va_D A [(h0, .inr (6, [.ref tp, .ref dr, .int q_faultKind, .int q_faultPlace, .int w0_4, .int w0_5, .int w0_6])), (tp, .inr (10, [.ref bt, .int b_length])), (bt, .inl (kbt, 1600, .inl fbt))] → va_S A s.heap H locs → lv_has ls 2 [(0, .ref h0), (1, .int v1)] → W p l e R s m args below meth c H locs cells slots Q (F0 m 108 ls [])) ∧ (∀ (v1 : Int32) (w0_4 : Int32) (w0_5 : Int32) (w0_6 : Int32) (H : Heap) (locs : List Loc) (ls : Array Slot), gi w0_5 0 1600 → gi w0_6 0 1600 → 3201 + (-2) * w0_6.toInt < (z : Int) → va_P (dC, dI) vwCl [(h0, .inr (6, [.ref tp, .ref dr, .int q_faultKind, .int q_faultPlace, .int w0_4, .int w0_5, .int w0_6])), (tp, .inr (10, [.ref bt, .int b_length])), (bt, .inl (kbt, 1600, .inl fbt))] H → va_D A [(h0, .inr (6, [.ref tp, .ref dr, .int q_faultKind, .int q_faultPlace, .int w0_4, .int w0_5, .int w0_6])), (tp, .inr (10, [.ref bt, .int b_length])), (bt, .inl (kbt, 1600, .inl fbt))] → va_S A s.heap H locs → lv_has ls 2 [(0, .ref h0), (1, .int v1)] → W p l e R s m args below meth c H locs cells slots Q (F0 m 161 ls [])) := by
  intro z
  induction z with
  | zero =>
    refine ⟨?_, ?_, ?_⟩
    · intro w0_5 H locs ls gw0_5 hmu hP hD hS hl
      exact absurd hmu (by have hw0_51 := gw0_5.1; have hw0_52 := gw0_5.2; omega)
    · intro v1 w0_4 w0_5 w0_6 H locs ls gw0_5 gw0_6 hmu hP hD hS hl
      exact absurd hmu (by have hw0_61 := gw0_6.1; have hw0_62 := gw0_6.2; omega)
    · intro v1 w0_4 w0_5 w0_6 H locs ls gw0_5 gw0_6 hmu hP hD hS hl
      exact absurd hmu (by have hw0_61 := gw0_6.1; have hw0_62 := gw0_6.2; omega)
  | succ z ih =>
    refine ⟨?_, ?_, ?_⟩
    · intro w0_5 H locs ls gw0_5 hmu hP hD hS hl
      refine lv_aload_n hx hb dX6_step_16 rfl (lv_at hl 0 rfl) ?_
      refine va_get (D := (dC, dI)) (ci := 6) (v := .int w0_5) (C := RX6) (T := TX6) (N := 7) hx hb hts (fun w h => List.mem_cons_of_mem _ (jnGA_X6 w h)) hown hK hP 0 rfl rfl 5 (by decide) (hts _ (List.mem_cons_of_mem _ mGA_58)) (fun _ h9 => h9) rfl dX6_step_17 ?_
      refine lv_aload_n hx hb dX6_step_20 rfl (lv_at hl 0 rfl) ?_
      refine va_get (D := (dC, dI)) (ci := 6) (v := .ref tp) (C := RX6) (T := TX6) (N := 7) hx hb hts (fun w h => List.mem_cons_of_mem _ (jnGA_X6 w h)) hown hK hP 0 rfl rfl 0 (by decide) (hts _ (List.mem_cons_of_mem _ mGA_52)) (fun _ h9 => h9) rfl dX6_step_21 ?_
      refine va_get (D := (dC, dI)) (ci := 10) (v := .int b_length) (C := RX10) (T := TX10) (N := 2) hx hb hts (fun w h => List.mem_cons_of_mem _ (jnGA_X10 w h)) hown hK hP 1 rfl rfl 1 (by decide) (hts _ (List.mem_cons_of_mem _ mGA_166)) (fun _ h9 => h9) rfl dX6_step_24 ?_
      refine lv_icmp_ge (tgt := 57) hx hb dX6_step_27 (by decide) (fun c_127 => ?_) (fun c_127 => ?_)
      · refine lv_aload_n hx hb dX6_step_57 rfl (lv_at hl 0 rfl) ?_
        refine lv_aload_n hx hb dX6_step_58 rfl (lv_at hl 0 rfl) ?_
        refine va_get (D := (dC, dI)) (ci := 6) (v := .int w0_5) (C := RX6) (T := TX6) (N := 7) hx hb hts (fun w h => List.mem_cons_of_mem _ (jnGA_X6 w h)) hown hK hP 0 rfl rfl 5 (by decide) (hts _ (List.mem_cons_of_mem _ mGA_58)) (fun _ h9 => h9) rfl dX6_step_59 ?_
        refine va_put (D := (dC, dI)) (ci := 6) (v := .int w0_5) (ty := .int) (C := RX6) (T := TX6) (N := 7) hx hb hts (fun w h => List.mem_cons_of_mem _ (jnGA_X6 w h)) tyX6 tyX6_ok nmX6 hown hK hP hD hS 0 rfl rfl 6 (by decide) (hts _ (List.mem_cons_of_mem _ mGA_59)) (fun _ h9 => h9) rfl (by decide +kernel) rfl rfl (Nat.le_of_ble_eq_true rfl) dX6_step_62 (fun H locs hP hD hS => ?_)
        have hP : va_P (dC, dI) vwCl [(h0, .inr (6, [.ref tp, .ref dr, .int q_faultKind, .int q_faultPlace, .int q_token, .int w0_5, .int w0_5])), (tp, .inr (10, [.ref bt, .int b_length])), (bt, .inl (kbt, 1600, .inl fbt))] H := hP
        have hD : va_D A [(h0, .inr (6, [.ref tp, .ref dr, .int q_faultKind, .int q_faultPlace, .int q_token, .int w0_5, .int w0_5])), (tp, .inr (10, [.ref bt, .int b_length])), (bt, .inl (kbt, 1600, .inl fbt))] := hD
        refine lv_aload_n hx hb dX6_step_65 rfl (lv_at hl 0 rfl) ?_
        refine lv_aload_n hx hb dX6_step_66 rfl (lv_at hl 0 rfl) ?_
        refine va_get (D := (dC, dI)) (ci := 6) (v := .int w0_5) (C := RX6) (T := TX6) (N := 7) hx hb hts (fun w h => List.mem_cons_of_mem _ (jnGA_X6 w h)) hown hK hP 0 rfl rfl 5 (by decide) (hts _ (List.mem_cons_of_mem _ mGA_58)) (fun _ h9 => h9) rfl dX6_step_67 ?_
        have hPc := hP.sub (ws' := [(h0, .inr (6, [.ref tp, .ref dr, .int q_faultKind, .int q_faultPlace, .int q_token, .int w0_5, .int w0_5])), (tp, .inr (10, [.ref bt, .int b_length])), (bt, .inl (kbt, 1600, .inl fbt))]) [0, 1, 2] rfl
        have hKc := hK.sub (tys' := [(kbt, .byte)]) [0] rfl
        refine va_calli (va_runV (As := [.int w0_5]) (rest := []) ⟨hx, hb, hml, hown, hts⟩ (sX6_byteAt l dC dI h0 tp bt dr q_faultKind q_faultPlace q_token w0_5 w0_5 b_length kbt fbt w0_5 gq_faultKind gw0_5 gw0_5 gb_length) (cwV 1 hts (gz_gV mGA_167 mGA_168 mGA_169 mGA_9 mGA_170 goodGA) rfl rfl rfl (by decide +kernel) ⟨Nat.le_trans (Nat.le_of_ble_eq_true rfl) hRf, Nat.le_trans (Nat.le_of_ble_eq_true rfl) hRl⟩) ⟨fun a U g mk q => by obtain ⟨q0, qP, qK, qZ⟩ := q; exact ⟨q0, qP, va_K.moved (u := U) (U := U.calling g mk a) (Vm.Alike.refl U.vm) qK, nzA_same (u := U) (U := U.calling g mk a) rfl qZ⟩, va_recv hKc hPc (ci := 6) (q0 := 0) rfl rfl, fun U hU hW => ⟨rfl, by rw [hU]; exact hPc, va_K.moved hW.alike hKc, nzA_warm hW hz⟩⟩ rfl rfl hl.1 rfl (lv_room (Nat.le_of_ble_eq_true rfl)) dX6_step_70 ⟨hRc, hRs⟩) hS (fun q _ h => h.elim) (fun q h => h.elim) (fun r_128 u t H1 locs ht hvm hw hB hz1 hk1 hS => ?_)
        have hP := gz_keep hP hk1
        generalize H1 = H at hP hS ⊢
        refine lv_istore_n (lv' := [(1, .int r_128), (0, .ref h0)]) hx hb dX6_step_73 rfl hl (by decide) rfl (fun ls hl => ?_)
        refine lv_aload_n hx hb dX6_step_74 rfl (lv_at hl 1 rfl) ?_
        refine va_get (D := (dC, dI)) (ci := 6) (v := .int w0_5) (C := RX6) (T := TX6) (N := 7) hx hb hts (fun w h => List.mem_cons_of_mem _ (jnGA_X6 w h)) hown hK hP 0 rfl rfl 5 (by decide) (hts _ (List.mem_cons_of_mem _ mGA_58)) (fun _ h9 => h9) rfl dX6_step_75 ?_
        refine lv_aload_n hx hb dX6_step_78 rfl (lv_at hl 1 rfl) ?_
        refine va_get (D := (dC, dI)) (ci := 6) (v := .ref tp) (C := RX6) (T := TX6) (N := 7) hx hb hts (fun w h => List.mem_cons_of_mem _ (jnGA_X6 w h)) hown hK hP 0 rfl rfl 0 (by decide) (hts _ (List.mem_cons_of_mem _ mGA_52)) (fun _ h9 => h9) rfl dX6_step_79 ?_
        refine va_get (D := (dC, dI)) (ci := 10) (v := .int b_length) (C := RX10) (T := TX10) (N := 2) hx hb hts (fun w h => List.mem_cons_of_mem _ (jnGA_X10 w h)) hown hK hP 1 rfl rfl 1 (by decide) (hts _ (List.mem_cons_of_mem _ mGA_166)) (fun _ h9 => h9) rfl dX6_step_82 ?_
        refine lv_icmp_lt (tgt := 96) hx hb dX6_step_85 (by decide) (fun c_129 => ?_) (fun c_129 => ?_)
        · have g_130 : gi w0_5 0 1599 := gi_lt_l c_129 gw0_5 gb_length (by decide)
          have g_131 : gi b_length 0 1599 := gi_rel (Int32.le_iff_toInt_le.mp c_127) gb_length g_130
          have g_132 : gi b_length 1 1600 := gi_lt_r c_129 gw0_5 gb_length (by decide)
          refine lv_iload_n hx hb dX6_step_96 rfl (lv_at hl 0 rfl) ?_
          have hPc := hP.sub (ws' := []) [] rfl
          have hKc := hK.sub (tys' := []) [] rfl
          refine va_calli (va_runS (As := [.int r_128]) (rest := []) ⟨hx, hb, hml, hown, hts⟩ (sX6_isLetter l dC dI r_128) (cwS 1 hts (gz_gS mGA_175 mGA_176 mGA_9 mGA_177 goodGA) rfl rfl rfl (by decide +kernel) ⟨Nat.le_trans (Nat.le_of_ble_eq_true rfl) hRf, Nat.le_trans (Nat.le_of_ble_eq_true rfl) hRl⟩) ⟨fun a U g mk q => by obtain ⟨q0, qP, qK, qZ⟩ := q; exact ⟨q0, qP, va_K.moved (u := U) (U := U.calling g mk a) (Vm.Alike.refl U.vm) qK, nzA_same (u := U) (U := U.calling g mk a) rfl qZ⟩, fun U hU hW => ⟨rfl, by rw [hU]; exact hPc, va_K.moved hW.alike hKc, nzA_warm hW hz⟩⟩ rfl rfl hl.1 rfl (lv_room (Nat.le_of_ble_eq_true rfl)) dX6_step_97 ⟨hRc, hRs⟩) hS (fun q _ h => h.elim) (fun q h => h.elim) (fun r_133 u t H1 locs ht hvm hw hB hz1 hk1 hS => ?_)
          have hP := gz_keep hP hk1
          generalize H1 = H at hP hS ⊢
          have gr_133 : gi r_133 0 1 := hw
          refine lv_if_eq (tgt := 149) hx hb dX6_step_100 (by decide) (fun c_134 => ?_) (fun c_134 => ?_)
          · have g_135 : gi r_133 0 0 := gi_eq c_134 (gi_c 0 0 (by decide))
            refine lv_iload_n hx hb dX6_step_149 rfl (lv_at hl 0 rfl) ?_
            have hPc := hP.sub (ws' := []) [] rfl
            have hKc := hK.sub (tys' := []) [] rfl
            refine va_calli (va_runS (As := [.int r_128]) (rest := []) ⟨hx, hb, hml, hown, hts⟩ (sX6_isDigit l dC dI r_128) (cwS 1 hts (gz_gS mGA_178 mGA_179 mGA_9 mGA_180 goodGA) rfl rfl rfl (by decide +kernel) ⟨Nat.le_trans (Nat.le_of_ble_eq_true rfl) hRf, Nat.le_trans (Nat.le_of_ble_eq_true rfl) hRl⟩) ⟨fun a U g mk q => by obtain ⟨q0, qP, qK, qZ⟩ := q; exact ⟨q0, qP, va_K.moved (u := U) (U := U.calling g mk a) (Vm.Alike.refl U.vm) qK, nzA_same (u := U) (U := U.calling g mk a) rfl qZ⟩, fun U hU hW => ⟨rfl, by rw [hU]; exact hPc, va_K.moved hW.alike hKc, nzA_warm hW hz⟩⟩ rfl rfl hl.1 rfl (lv_room (Nat.le_of_ble_eq_true rfl)) dX6_step_150 ⟨hRc, hRs⟩) hS (fun q _ h => h.elim) (fun q h => h.elim) (fun r_136 u t H1 locs ht hvm hw hB hz1 hk1 hS => ?_)
            have hP := gz_keep hP hk1
            generalize H1 = H at hP hS ⊢
            have gr_136 : gi r_136 0 1 := hw
            refine lv_if_eq (tgt := 202) hx hb dX6_step_153 (by decide) (fun c_137 => ?_) (fun c_137 => ?_)
            · have g_138 : gi r_136 0 0 := gi_eq c_137 (gi_c 0 0 (by decide))
              refine lv_aload_n hx hb dX6_step_202 rfl (lv_at hl 1 rfl) ?_
              refine lv_iload_n hx hb dX6_step_203 rfl (lv_at hl 0 rfl) ?_
              refine lv_bipush (v := 59) hx hb dX6_step_204 (by decide) ?_
              refine lv_icmp_ne (tgt := 213) hx hb dX6_step_206 (by decide) (fun c_139 => ?_) (fun c_139 => ?_)
              · refine lv_iconst (v := 1) hx hb dX6_step_213 (by decide) ?_
                refine va_put (D := (dC, dI)) (ci := 6) (v := .int 1) (ty := .int) (C := RX6) (T := TX6) (N := 7) hx hb hts (fun w h => List.mem_cons_of_mem _ (jnGA_X6 w h)) tyX6 tyX6_ok nmX6 hown hK hP hD hS 0 rfl rfl 4 (by decide) (hts _ (List.mem_cons_of_mem _ mGA_57)) (fun _ h9 => h9) rfl (by decide +kernel) rfl rfl (Nat.le_of_ble_eq_true rfl) dX6_step_214 (fun H locs hP hD hS => ?_)
                have hP : va_P (dC, dI) vwCl [(h0, .inr (6, [.ref tp, .ref dr, .int q_faultKind, .int q_faultPlace, .int 1, .int w0_5, .int w0_5])), (tp, .inr (10, [.ref bt, .int b_length])), (bt, .inl (kbt, 1600, .inl fbt))] H := hP
                have hD : va_D A [(h0, .inr (6, [.ref tp, .ref dr, .int q_faultKind, .int q_faultPlace, .int 1, .int w0_5, .int w0_5])), (tp, .inr (10, [.ref bt, .int b_length])), (bt, .inl (kbt, 1600, .inl fbt))] := hD
                refine lv_aload_n hx hb dX6_step_217 rfl (lv_at hl 1 rfl) ?_
                refine lv_dup hx hb dX6_step_218 rfl ?_
                refine va_get (D := (dC, dI)) (ci := 6) (v := .int w0_5) (C := RX6) (T := TX6) (N := 7) hx hb hts (fun w h => List.mem_cons_of_mem _ (jnGA_X6 w h)) hown hK hP 0 rfl rfl 6 (by decide) (hts _ (List.mem_cons_of_mem _ mGA_59)) (fun _ h9 => h9) rfl dX6_step_219 ?_
                refine lv_iconst (v := 1) hx hb dX6_step_222 (by decide) ?_
                refine lv_iadd hx hb dX6_step_223 ?_
                refine lv_topi (fun x_140 ex_140 => ?_)
                have gx_140 : gi x_140 1 1600 := gi_add ex_140 g_130 (gi_c 1 1 (by decide)) (by decide)
                refine va_put (D := (dC, dI)) (ci := 6) (v := .int x_140) (ty := .int) (C := RX6) (T := TX6) (N := 7) hx hb hts (fun w h => List.mem_cons_of_mem _ (jnGA_X6 w h)) tyX6 tyX6_ok nmX6 hown hK hP hD hS 0 rfl rfl 6 (by decide) (hts _ (List.mem_cons_of_mem _ mGA_59)) (fun _ h9 => h9) rfl (by decide +kernel) rfl rfl (Nat.le_of_ble_eq_true rfl) dX6_step_224 (fun H locs hP hD hS => ?_)
                have hP : va_P (dC, dI) vwCl [(h0, .inr (6, [.ref tp, .ref dr, .int q_faultKind, .int q_faultPlace, .int 1, .int w0_5, .int x_140])), (tp, .inr (10, [.ref bt, .int b_length])), (bt, .inl (kbt, 1600, .inl fbt))] H := hP
                have hD : va_D A [(h0, .inr (6, [.ref tp, .ref dr, .int q_faultKind, .int q_faultPlace, .int 1, .int w0_5, .int x_140])), (tp, .inr (10, [.ref bt, .int b_length])), (bt, .inl (kbt, 1600, .inl fbt))] := hD
                exact kr227 1 w0_5 x_140 _ _ _ (gi_w g_130 (by decide)) (gi_w gx_140 (by decide)) hP hD hS (lv_sub hl [] rfl)
              · have g_141 : gi r_128 59 59 := gi_eq c_139 (gi_c 59 59 (by decide))
                refine lv_iconst (v := 4) hx hb dX6_step_209 (by decide) ?_
                refine lv_goto (tgt := 214) hx hb dX6_step_210 (by decide) ?_
                refine va_put (D := (dC, dI)) (ci := 6) (v := .int 4) (ty := .int) (C := RX6) (T := TX6) (N := 7) hx hb hts (fun w h => List.mem_cons_of_mem _ (jnGA_X6 w h)) tyX6 tyX6_ok nmX6 hown hK hP hD hS 0 rfl rfl 4 (by decide) (hts _ (List.mem_cons_of_mem _ mGA_57)) (fun _ h9 => h9) rfl (by decide +kernel) rfl rfl (Nat.le_of_ble_eq_true rfl) dX6_step_214 (fun H locs hP hD hS => ?_)
                have hP : va_P (dC, dI) vwCl [(h0, .inr (6, [.ref tp, .ref dr, .int q_faultKind, .int q_faultPlace, .int 4, .int w0_5, .int w0_5])), (tp, .inr (10, [.ref bt, .int b_length])), (bt, .inl (kbt, 1600, .inl fbt))] H := hP
                have hD : va_D A [(h0, .inr (6, [.ref tp, .ref dr, .int q_faultKind, .int q_faultPlace, .int 4, .int w0_5, .int w0_5])), (tp, .inr (10, [.ref bt, .int b_length])), (bt, .inl (kbt, 1600, .inl fbt))] := hD
                refine lv_aload_n hx hb dX6_step_217 rfl (lv_at hl 1 rfl) ?_
                refine lv_dup hx hb dX6_step_218 rfl ?_
                refine va_get (D := (dC, dI)) (ci := 6) (v := .int w0_5) (C := RX6) (T := TX6) (N := 7) hx hb hts (fun w h => List.mem_cons_of_mem _ (jnGA_X6 w h)) hown hK hP 0 rfl rfl 6 (by decide) (hts _ (List.mem_cons_of_mem _ mGA_59)) (fun _ h9 => h9) rfl dX6_step_219 ?_
                refine lv_iconst (v := 1) hx hb dX6_step_222 (by decide) ?_
                refine lv_iadd hx hb dX6_step_223 ?_
                refine lv_topi (fun x_142 ex_142 => ?_)
                have gx_142 : gi x_142 1 1600 := gi_add ex_142 g_130 (gi_c 1 1 (by decide)) (by decide)
                refine va_put (D := (dC, dI)) (ci := 6) (v := .int x_142) (ty := .int) (C := RX6) (T := TX6) (N := 7) hx hb hts (fun w h => List.mem_cons_of_mem _ (jnGA_X6 w h)) tyX6 tyX6_ok nmX6 hown hK hP hD hS 0 rfl rfl 6 (by decide) (hts _ (List.mem_cons_of_mem _ mGA_59)) (fun _ h9 => h9) rfl (by decide +kernel) rfl rfl (Nat.le_of_ble_eq_true rfl) dX6_step_224 (fun H locs hP hD hS => ?_)
                have hP : va_P (dC, dI) vwCl [(h0, .inr (6, [.ref tp, .ref dr, .int q_faultKind, .int q_faultPlace, .int 4, .int w0_5, .int x_142])), (tp, .inr (10, [.ref bt, .int b_length])), (bt, .inl (kbt, 1600, .inl fbt))] H := hP
                have hD : va_D A [(h0, .inr (6, [.ref tp, .ref dr, .int q_faultKind, .int q_faultPlace, .int 4, .int w0_5, .int x_142])), (tp, .inr (10, [.ref bt, .int b_length])), (bt, .inl (kbt, 1600, .inl fbt))] := hD
                exact kr227 4 w0_5 x_142 _ _ _ (gi_w g_130 (by decide)) (gi_w gx_142 (by decide)) hP hD hS (lv_sub hl [] rfl)
            · have g_143 : gi r_136 1 1 := gi_ne_lo c_137 gr_136 (gi_c 0 0 (by decide)) (by decide)
              refine lv_aload_n hx hb dX6_step_156 rfl (lv_at hl 1 rfl) ?_
              refine lv_iconst (v := 3) hx hb dX6_step_157 (by decide) ?_
              refine va_put (D := (dC, dI)) (ci := 6) (v := .int 3) (ty := .int) (C := RX6) (T := TX6) (N := 7) hx hb hts (fun w h => List.mem_cons_of_mem _ (jnGA_X6 w h)) tyX6 tyX6_ok nmX6 hown hK hP hD hS 0 rfl rfl 4 (by decide) (hts _ (List.mem_cons_of_mem _ mGA_57)) (fun _ h9 => h9) rfl (by decide +kernel) rfl rfl (Nat.le_of_ble_eq_true rfl) dX6_step_158 (fun H locs hP hD hS => ?_)
              have hP : va_P (dC, dI) vwCl [(h0, .inr (6, [.ref tp, .ref dr, .int q_faultKind, .int q_faultPlace, .int 3, .int w0_5, .int w0_5])), (tp, .inr (10, [.ref bt, .int b_length])), (bt, .inl (kbt, 1600, .inl fbt))] H := hP
              have hD : va_D A [(h0, .inr (6, [.ref tp, .ref dr, .int q_faultKind, .int q_faultPlace, .int 3, .int w0_5, .int w0_5])), (tp, .inr (10, [.ref bt, .int b_length])), (bt, .inl (kbt, 1600, .inl fbt))] := hD
              exact ih.2.2 r_128 3 w0_5 w0_5 _ _ _ (gi_w g_130 (by decide)) (gi_w g_130 (by decide)) (by have aw0_5 := gw0_5.1; have bw0_5 := gw0_5.2; have qgw0_5 := g_130.1; have rgw0_5 := g_130.2; omega) hP hD hS (lv_sub hl [1, 0] rfl)
          · have g_144 : gi r_133 1 1 := gi_ne_lo c_134 gr_133 (gi_c 0 0 (by decide)) (by decide)
            refine lv_aload_n hx hb dX6_step_103 rfl (lv_at hl 1 rfl) ?_
            refine lv_iconst (v := 2) hx hb dX6_step_104 (by decide) ?_
            refine va_put (D := (dC, dI)) (ci := 6) (v := .int 2) (ty := .int) (C := RX6) (T := TX6) (N := 7) hx hb hts (fun w h => List.mem_cons_of_mem _ (jnGA_X6 w h)) tyX6 tyX6_ok nmX6 hown hK hP hD hS 0 rfl rfl 4 (by decide) (hts _ (List.mem_cons_of_mem _ mGA_57)) (fun _ h9 => h9) rfl (by decide +kernel) rfl rfl (Nat.le_of_ble_eq_true rfl) dX6_step_105 (fun H locs hP hD hS => ?_)
            have hP : va_P (dC, dI) vwCl [(h0, .inr (6, [.ref tp, .ref dr, .int q_faultKind, .int q_faultPlace, .int 2, .int w0_5, .int w0_5])), (tp, .inr (10, [.ref bt, .int b_length])), (bt, .inl (kbt, 1600, .inl fbt))] H := hP
            have hD : va_D A [(h0, .inr (6, [.ref tp, .ref dr, .int q_faultKind, .int q_faultPlace, .int 2, .int w0_5, .int w0_5])), (tp, .inr (10, [.ref bt, .int b_length])), (bt, .inl (kbt, 1600, .inl fbt))] := hD
            exact ih.2.1 r_128 2 w0_5 w0_5 _ _ _ (gi_w g_130 (by decide)) (gi_w g_130 (by decide)) (by have aw0_5 := gw0_5.1; have bw0_5 := gw0_5.2; have qgw0_5 := g_130.1; have rgw0_5 := g_130.2; omega) hP hD hS (lv_sub hl [1, 0] rfl)
        · refine lv_aload_n hx hb dX6_step_88 rfl (lv_at hl 1 rfl) ?_
          refine lv_iconst (v := 0) hx hb dX6_step_89 (by decide) ?_
          refine va_put (D := (dC, dI)) (ci := 6) (v := .int 0) (ty := .int) (C := RX6) (T := TX6) (N := 7) hx hb hts (fun w h => List.mem_cons_of_mem _ (jnGA_X6 w h)) tyX6 tyX6_ok nmX6 hown hK hP hD hS 0 rfl rfl 4 (by decide) (hts _ (List.mem_cons_of_mem _ mGA_57)) (fun _ h9 => h9) rfl (by decide +kernel) rfl rfl (Nat.le_of_ble_eq_true rfl) dX6_step_90 (fun H locs hP hD hS => ?_)
          have hP : va_P (dC, dI) vwCl [(h0, .inr (6, [.ref tp, .ref dr, .int q_faultKind, .int q_faultPlace, .int 0, .int w0_5, .int w0_5])), (tp, .inr (10, [.ref bt, .int b_length])), (bt, .inl (kbt, 1600, .inl fbt))] H := hP
          have hD : va_D A [(h0, .inr (6, [.ref tp, .ref dr, .int q_faultKind, .int q_faultPlace, .int 0, .int w0_5, .int w0_5])), (tp, .inr (10, [.ref bt, .int b_length])), (bt, .inl (kbt, 1600, .inl fbt))] := hD
          refine lv_goto (tgt := 227) hx hb dX6_step_93 (by decide) ?_
          exact kr227 0 w0_5 w0_5 _ _ _ gw0_5 gw0_5 hP hD hS (lv_sub hl [] rfl)
      · have g_145 : gi w0_5 0 1599 := gi_lt_l (Int32.not_le.mp c_127) gw0_5 gb_length (by decide)
        have g_146 : gi b_length 1 1600 := gi_lt_r (Int32.not_le.mp c_127) gw0_5 gb_length (by decide)
        refine lv_aload_n hx hb dX6_step_30 rfl (lv_at hl 0 rfl) ?_
        refine lv_aload_n hx hb dX6_step_31 rfl (lv_at hl 0 rfl) ?_
        refine va_get (D := (dC, dI)) (ci := 6) (v := .int w0_5) (C := RX6) (T := TX6) (N := 7) hx hb hts (fun w h => List.mem_cons_of_mem _ (jnGA_X6 w h)) hown hK hP 0 rfl rfl 5 (by decide) (hts _ (List.mem_cons_of_mem _ mGA_58)) (fun _ h9 => h9) rfl dX6_step_32 ?_
        have hPc := hP.sub (ws' := [(h0, .inr (6, [.ref tp, .ref dr, .int q_faultKind, .int q_faultPlace, .int q_token, .int w0_5, .int q_stop])), (tp, .inr (10, [.ref bt, .int b_length])), (bt, .inl (kbt, 1600, .inl fbt))]) [0, 1, 2] rfl
        have hKc := hK.sub (tys' := [(kbt, .byte)]) [0] rfl
        refine va_calli (va_runV (As := [.int w0_5]) (rest := []) ⟨hx, hb, hml, hown, hts⟩ (sX6_byteAt l dC dI h0 tp bt dr q_faultKind q_faultPlace q_token w0_5 q_stop b_length kbt fbt w0_5 gq_faultKind (gi_w g_145 (by decide)) gq_stop (gi_w g_146 (by decide))) (cwV 1 hts (gz_gV mGA_167 mGA_168 mGA_169 mGA_9 mGA_170 goodGA) rfl rfl rfl (by decide +kernel) ⟨Nat.le_trans (Nat.le_of_ble_eq_true rfl) hRf, Nat.le_trans (Nat.le_of_ble_eq_true rfl) hRl⟩) ⟨fun a U g mk q => by obtain ⟨q0, qP, qK, qZ⟩ := q; exact ⟨q0, qP, va_K.moved (u := U) (U := U.calling g mk a) (Vm.Alike.refl U.vm) qK, nzA_same (u := U) (U := U.calling g mk a) rfl qZ⟩, va_recv hKc hPc (ci := 6) (q0 := 0) rfl rfl, fun U hU hW => ⟨rfl, by rw [hU]; exact hPc, va_K.moved hW.alike hKc, nzA_warm hW hz⟩⟩ rfl rfl hl.1 rfl (lv_room (Nat.le_of_ble_eq_true rfl)) dX6_step_35 ⟨hRc, hRs⟩) hS (fun q _ h => h.elim) (fun q h => h.elim) (fun r_147 u t H1 locs ht hvm hw hB hz1 hk1 hS => ?_)
        have hP := gz_keep hP hk1
        generalize H1 = H at hP hS ⊢
        have hPc := hP.sub (ws' := []) [] rfl
        have hKc := hK.sub (tys' := []) [] rfl
        refine va_calli (va_runS (As := [.int r_147]) (rest := []) ⟨hx, hb, hml, hown, hts⟩ (sX6_isBlank l dC dI r_147) (cwS 1 hts (gz_gS mGA_172 mGA_173 mGA_9 mGA_174 goodGA) rfl rfl rfl (by decide +kernel) ⟨Nat.le_trans (Nat.le_of_ble_eq_true rfl) hRf, Nat.le_trans (Nat.le_of_ble_eq_true rfl) hRl⟩) ⟨fun a U g mk q => by obtain ⟨q0, qP, qK, qZ⟩ := q; exact ⟨q0, qP, va_K.moved (u := U) (U := U.calling g mk a) (Vm.Alike.refl U.vm) qK, nzA_same (u := U) (U := U.calling g mk a) rfl qZ⟩, fun U hU hW => ⟨rfl, by rw [hU]; exact hPc, va_K.moved hW.alike hKc, nzA_warm hW hz⟩⟩ rfl rfl hl.1 rfl (lv_room (Nat.le_of_ble_eq_true rfl)) dX6_step_38 ⟨hRc, hRs⟩) hS (fun q _ h => h.elim) (fun q h => h.elim) (fun r_148 u t H1 locs ht hvm hw hB hz1 hk1 hS => ?_)
        have hP := gz_keep hP hk1
        generalize H1 = H at hP hS ⊢
        have gr_148 : gi r_148 0 1 := hw
        refine lv_if_eq (tgt := 57) hx hb dX6_step_41 (by decide) (fun c_149 => ?_) (fun c_149 => ?_)
        · have g_150 : gi r_148 0 0 := gi_eq c_149 (gi_c 0 0 (by decide))
          refine lv_aload_n hx hb dX6_step_57 rfl (lv_at hl 0 rfl) ?_
          refine lv_aload_n hx hb dX6_step_58 rfl (lv_at hl 0 rfl) ?_
          refine va_get (D := (dC, dI)) (ci := 6) (v := .int w0_5) (C := RX6) (T := TX6) (N := 7) hx hb hts (fun w h => List.mem_cons_of_mem _ (jnGA_X6 w h)) hown hK hP 0 rfl rfl 5 (by decide) (hts _ (List.mem_cons_of_mem _ mGA_58)) (fun _ h9 => h9) rfl dX6_step_59 ?_
          refine va_put (D := (dC, dI)) (ci := 6) (v := .int w0_5) (ty := .int) (C := RX6) (T := TX6) (N := 7) hx hb hts (fun w h => List.mem_cons_of_mem _ (jnGA_X6 w h)) tyX6 tyX6_ok nmX6 hown hK hP hD hS 0 rfl rfl 6 (by decide) (hts _ (List.mem_cons_of_mem _ mGA_59)) (fun _ h9 => h9) rfl (by decide +kernel) rfl rfl (Nat.le_of_ble_eq_true rfl) dX6_step_62 (fun H locs hP hD hS => ?_)
          have hP : va_P (dC, dI) vwCl [(h0, .inr (6, [.ref tp, .ref dr, .int q_faultKind, .int q_faultPlace, .int q_token, .int w0_5, .int w0_5])), (tp, .inr (10, [.ref bt, .int b_length])), (bt, .inl (kbt, 1600, .inl fbt))] H := hP
          have hD : va_D A [(h0, .inr (6, [.ref tp, .ref dr, .int q_faultKind, .int q_faultPlace, .int q_token, .int w0_5, .int w0_5])), (tp, .inr (10, [.ref bt, .int b_length])), (bt, .inl (kbt, 1600, .inl fbt))] := hD
          refine lv_aload_n hx hb dX6_step_65 rfl (lv_at hl 0 rfl) ?_
          refine lv_aload_n hx hb dX6_step_66 rfl (lv_at hl 0 rfl) ?_
          refine va_get (D := (dC, dI)) (ci := 6) (v := .int w0_5) (C := RX6) (T := TX6) (N := 7) hx hb hts (fun w h => List.mem_cons_of_mem _ (jnGA_X6 w h)) hown hK hP 0 rfl rfl 5 (by decide) (hts _ (List.mem_cons_of_mem _ mGA_58)) (fun _ h9 => h9) rfl dX6_step_67 ?_
          have hPc := hP.sub (ws' := [(h0, .inr (6, [.ref tp, .ref dr, .int q_faultKind, .int q_faultPlace, .int q_token, .int w0_5, .int w0_5])), (tp, .inr (10, [.ref bt, .int b_length])), (bt, .inl (kbt, 1600, .inl fbt))]) [0, 1, 2] rfl
          have hKc := hK.sub (tys' := [(kbt, .byte)]) [0] rfl
          refine va_calli (va_runV (As := [.int w0_5]) (rest := []) ⟨hx, hb, hml, hown, hts⟩ (sX6_byteAt l dC dI h0 tp bt dr q_faultKind q_faultPlace q_token w0_5 w0_5 b_length kbt fbt w0_5 gq_faultKind (gi_w g_145 (by decide)) (gi_w g_145 (by decide)) (gi_w g_146 (by decide))) (cwV 1 hts (gz_gV mGA_167 mGA_168 mGA_169 mGA_9 mGA_170 goodGA) rfl rfl rfl (by decide +kernel) ⟨Nat.le_trans (Nat.le_of_ble_eq_true rfl) hRf, Nat.le_trans (Nat.le_of_ble_eq_true rfl) hRl⟩) ⟨fun a U g mk q => by obtain ⟨q0, qP, qK, qZ⟩ := q; exact ⟨q0, qP, va_K.moved (u := U) (U := U.calling g mk a) (Vm.Alike.refl U.vm) qK, nzA_same (u := U) (U := U.calling g mk a) rfl qZ⟩, va_recv hKc hPc (ci := 6) (q0 := 0) rfl rfl, fun U hU hW => ⟨rfl, by rw [hU]; exact hPc, va_K.moved hW.alike hKc, nzA_warm hW hz⟩⟩ rfl rfl hl.1 rfl (lv_room (Nat.le_of_ble_eq_true rfl)) dX6_step_70 ⟨hRc, hRs⟩) hS (fun q _ h => h.elim) (fun q h => h.elim) (fun r_151 u t H1 locs ht hvm hw hB hz1 hk1 hS => ?_)
          have hP := gz_keep hP hk1
          generalize H1 = H at hP hS ⊢
          refine lv_istore_n (lv' := [(1, .int r_151), (0, .ref h0)]) hx hb dX6_step_73 rfl hl (by decide) rfl (fun ls hl => ?_)
          refine lv_aload_n hx hb dX6_step_74 rfl (lv_at hl 1 rfl) ?_
          refine va_get (D := (dC, dI)) (ci := 6) (v := .int w0_5) (C := RX6) (T := TX6) (N := 7) hx hb hts (fun w h => List.mem_cons_of_mem _ (jnGA_X6 w h)) hown hK hP 0 rfl rfl 5 (by decide) (hts _ (List.mem_cons_of_mem _ mGA_58)) (fun _ h9 => h9) rfl dX6_step_75 ?_
          refine lv_aload_n hx hb dX6_step_78 rfl (lv_at hl 1 rfl) ?_
          refine va_get (D := (dC, dI)) (ci := 6) (v := .ref tp) (C := RX6) (T := TX6) (N := 7) hx hb hts (fun w h => List.mem_cons_of_mem _ (jnGA_X6 w h)) hown hK hP 0 rfl rfl 0 (by decide) (hts _ (List.mem_cons_of_mem _ mGA_52)) (fun _ h9 => h9) rfl dX6_step_79 ?_
          refine va_get (D := (dC, dI)) (ci := 10) (v := .int b_length) (C := RX10) (T := TX10) (N := 2) hx hb hts (fun w h => List.mem_cons_of_mem _ (jnGA_X10 w h)) hown hK hP 1 rfl rfl 1 (by decide) (hts _ (List.mem_cons_of_mem _ mGA_166)) (fun _ h9 => h9) rfl dX6_step_82 ?_
          refine lv_icmp_lt (tgt := 96) hx hb dX6_step_85 (by decide) (fun c_152 => ?_) (fun c_152 => ?_)
          · refine lv_iload_n hx hb dX6_step_96 rfl (lv_at hl 0 rfl) ?_
            have hPc := hP.sub (ws' := []) [] rfl
            have hKc := hK.sub (tys' := []) [] rfl
            refine va_calli (va_runS (As := [.int r_151]) (rest := []) ⟨hx, hb, hml, hown, hts⟩ (sX6_isLetter l dC dI r_151) (cwS 1 hts (gz_gS mGA_175 mGA_176 mGA_9 mGA_177 goodGA) rfl rfl rfl (by decide +kernel) ⟨Nat.le_trans (Nat.le_of_ble_eq_true rfl) hRf, Nat.le_trans (Nat.le_of_ble_eq_true rfl) hRl⟩) ⟨fun a U g mk q => by obtain ⟨q0, qP, qK, qZ⟩ := q; exact ⟨q0, qP, va_K.moved (u := U) (U := U.calling g mk a) (Vm.Alike.refl U.vm) qK, nzA_same (u := U) (U := U.calling g mk a) rfl qZ⟩, fun U hU hW => ⟨rfl, by rw [hU]; exact hPc, va_K.moved hW.alike hKc, nzA_warm hW hz⟩⟩ rfl rfl hl.1 rfl (lv_room (Nat.le_of_ble_eq_true rfl)) dX6_step_97 ⟨hRc, hRs⟩) hS (fun q _ h => h.elim) (fun q h => h.elim) (fun r_153 u t H1 locs ht hvm hw hB hz1 hk1 hS => ?_)
            have hP := gz_keep hP hk1
            generalize H1 = H at hP hS ⊢
            have gr_153 : gi r_153 0 1 := hw
            refine lv_if_eq (tgt := 149) hx hb dX6_step_100 (by decide) (fun c_154 => ?_) (fun c_154 => ?_)
            · have g_155 : gi r_153 0 0 := gi_eq c_154 (gi_c 0 0 (by decide))
              refine lv_iload_n hx hb dX6_step_149 rfl (lv_at hl 0 rfl) ?_
              have hPc := hP.sub (ws' := []) [] rfl
              have hKc := hK.sub (tys' := []) [] rfl
              refine va_calli (va_runS (As := [.int r_151]) (rest := []) ⟨hx, hb, hml, hown, hts⟩ (sX6_isDigit l dC dI r_151) (cwS 1 hts (gz_gS mGA_178 mGA_179 mGA_9 mGA_180 goodGA) rfl rfl rfl (by decide +kernel) ⟨Nat.le_trans (Nat.le_of_ble_eq_true rfl) hRf, Nat.le_trans (Nat.le_of_ble_eq_true rfl) hRl⟩) ⟨fun a U g mk q => by obtain ⟨q0, qP, qK, qZ⟩ := q; exact ⟨q0, qP, va_K.moved (u := U) (U := U.calling g mk a) (Vm.Alike.refl U.vm) qK, nzA_same (u := U) (U := U.calling g mk a) rfl qZ⟩, fun U hU hW => ⟨rfl, by rw [hU]; exact hPc, va_K.moved hW.alike hKc, nzA_warm hW hz⟩⟩ rfl rfl hl.1 rfl (lv_room (Nat.le_of_ble_eq_true rfl)) dX6_step_150 ⟨hRc, hRs⟩) hS (fun q _ h => h.elim) (fun q h => h.elim) (fun r_156 u t H1 locs ht hvm hw hB hz1 hk1 hS => ?_)
              have hP := gz_keep hP hk1
              generalize H1 = H at hP hS ⊢
              have gr_156 : gi r_156 0 1 := hw
              refine lv_if_eq (tgt := 202) hx hb dX6_step_153 (by decide) (fun c_157 => ?_) (fun c_157 => ?_)
              · have g_158 : gi r_156 0 0 := gi_eq c_157 (gi_c 0 0 (by decide))
                refine lv_aload_n hx hb dX6_step_202 rfl (lv_at hl 1 rfl) ?_
                refine lv_iload_n hx hb dX6_step_203 rfl (lv_at hl 0 rfl) ?_
                refine lv_bipush (v := 59) hx hb dX6_step_204 (by decide) ?_
                refine lv_icmp_ne (tgt := 213) hx hb dX6_step_206 (by decide) (fun c_159 => ?_) (fun c_159 => ?_)
                · refine lv_iconst (v := 1) hx hb dX6_step_213 (by decide) ?_
                  refine va_put (D := (dC, dI)) (ci := 6) (v := .int 1) (ty := .int) (C := RX6) (T := TX6) (N := 7) hx hb hts (fun w h => List.mem_cons_of_mem _ (jnGA_X6 w h)) tyX6 tyX6_ok nmX6 hown hK hP hD hS 0 rfl rfl 4 (by decide) (hts _ (List.mem_cons_of_mem _ mGA_57)) (fun _ h9 => h9) rfl (by decide +kernel) rfl rfl (Nat.le_of_ble_eq_true rfl) dX6_step_214 (fun H locs hP hD hS => ?_)
                  have hP : va_P (dC, dI) vwCl [(h0, .inr (6, [.ref tp, .ref dr, .int q_faultKind, .int q_faultPlace, .int 1, .int w0_5, .int w0_5])), (tp, .inr (10, [.ref bt, .int b_length])), (bt, .inl (kbt, 1600, .inl fbt))] H := hP
                  have hD : va_D A [(h0, .inr (6, [.ref tp, .ref dr, .int q_faultKind, .int q_faultPlace, .int 1, .int w0_5, .int w0_5])), (tp, .inr (10, [.ref bt, .int b_length])), (bt, .inl (kbt, 1600, .inl fbt))] := hD
                  refine lv_aload_n hx hb dX6_step_217 rfl (lv_at hl 1 rfl) ?_
                  refine lv_dup hx hb dX6_step_218 rfl ?_
                  refine va_get (D := (dC, dI)) (ci := 6) (v := .int w0_5) (C := RX6) (T := TX6) (N := 7) hx hb hts (fun w h => List.mem_cons_of_mem _ (jnGA_X6 w h)) hown hK hP 0 rfl rfl 6 (by decide) (hts _ (List.mem_cons_of_mem _ mGA_59)) (fun _ h9 => h9) rfl dX6_step_219 ?_
                  refine lv_iconst (v := 1) hx hb dX6_step_222 (by decide) ?_
                  refine lv_iadd hx hb dX6_step_223 ?_
                  refine lv_topi (fun x_160 ex_160 => ?_)
                  have gx_160 : gi x_160 1 1600 := gi_add ex_160 g_145 (gi_c 1 1 (by decide)) (by decide)
                  refine va_put (D := (dC, dI)) (ci := 6) (v := .int x_160) (ty := .int) (C := RX6) (T := TX6) (N := 7) hx hb hts (fun w h => List.mem_cons_of_mem _ (jnGA_X6 w h)) tyX6 tyX6_ok nmX6 hown hK hP hD hS 0 rfl rfl 6 (by decide) (hts _ (List.mem_cons_of_mem _ mGA_59)) (fun _ h9 => h9) rfl (by decide +kernel) rfl rfl (Nat.le_of_ble_eq_true rfl) dX6_step_224 (fun H locs hP hD hS => ?_)
                  have hP : va_P (dC, dI) vwCl [(h0, .inr (6, [.ref tp, .ref dr, .int q_faultKind, .int q_faultPlace, .int 1, .int w0_5, .int x_160])), (tp, .inr (10, [.ref bt, .int b_length])), (bt, .inl (kbt, 1600, .inl fbt))] H := hP
                  have hD : va_D A [(h0, .inr (6, [.ref tp, .ref dr, .int q_faultKind, .int q_faultPlace, .int 1, .int w0_5, .int x_160])), (tp, .inr (10, [.ref bt, .int b_length])), (bt, .inl (kbt, 1600, .inl fbt))] := hD
                  exact kr227 1 w0_5 x_160 _ _ _ (gi_w g_145 (by decide)) (gi_w gx_160 (by decide)) hP hD hS (lv_sub hl [] rfl)
                · have g_161 : gi r_151 59 59 := gi_eq c_159 (gi_c 59 59 (by decide))
                  refine lv_iconst (v := 4) hx hb dX6_step_209 (by decide) ?_
                  refine lv_goto (tgt := 214) hx hb dX6_step_210 (by decide) ?_
                  refine va_put (D := (dC, dI)) (ci := 6) (v := .int 4) (ty := .int) (C := RX6) (T := TX6) (N := 7) hx hb hts (fun w h => List.mem_cons_of_mem _ (jnGA_X6 w h)) tyX6 tyX6_ok nmX6 hown hK hP hD hS 0 rfl rfl 4 (by decide) (hts _ (List.mem_cons_of_mem _ mGA_57)) (fun _ h9 => h9) rfl (by decide +kernel) rfl rfl (Nat.le_of_ble_eq_true rfl) dX6_step_214 (fun H locs hP hD hS => ?_)
                  have hP : va_P (dC, dI) vwCl [(h0, .inr (6, [.ref tp, .ref dr, .int q_faultKind, .int q_faultPlace, .int 4, .int w0_5, .int w0_5])), (tp, .inr (10, [.ref bt, .int b_length])), (bt, .inl (kbt, 1600, .inl fbt))] H := hP
                  have hD : va_D A [(h0, .inr (6, [.ref tp, .ref dr, .int q_faultKind, .int q_faultPlace, .int 4, .int w0_5, .int w0_5])), (tp, .inr (10, [.ref bt, .int b_length])), (bt, .inl (kbt, 1600, .inl fbt))] := hD
                  refine lv_aload_n hx hb dX6_step_217 rfl (lv_at hl 1 rfl) ?_
                  refine lv_dup hx hb dX6_step_218 rfl ?_
                  refine va_get (D := (dC, dI)) (ci := 6) (v := .int w0_5) (C := RX6) (T := TX6) (N := 7) hx hb hts (fun w h => List.mem_cons_of_mem _ (jnGA_X6 w h)) hown hK hP 0 rfl rfl 6 (by decide) (hts _ (List.mem_cons_of_mem _ mGA_59)) (fun _ h9 => h9) rfl dX6_step_219 ?_
                  refine lv_iconst (v := 1) hx hb dX6_step_222 (by decide) ?_
                  refine lv_iadd hx hb dX6_step_223 ?_
                  refine lv_topi (fun x_162 ex_162 => ?_)
                  have gx_162 : gi x_162 1 1600 := gi_add ex_162 g_145 (gi_c 1 1 (by decide)) (by decide)
                  refine va_put (D := (dC, dI)) (ci := 6) (v := .int x_162) (ty := .int) (C := RX6) (T := TX6) (N := 7) hx hb hts (fun w h => List.mem_cons_of_mem _ (jnGA_X6 w h)) tyX6 tyX6_ok nmX6 hown hK hP hD hS 0 rfl rfl 6 (by decide) (hts _ (List.mem_cons_of_mem _ mGA_59)) (fun _ h9 => h9) rfl (by decide +kernel) rfl rfl (Nat.le_of_ble_eq_true rfl) dX6_step_224 (fun H locs hP hD hS => ?_)
                  have hP : va_P (dC, dI) vwCl [(h0, .inr (6, [.ref tp, .ref dr, .int q_faultKind, .int q_faultPlace, .int 4, .int w0_5, .int x_162])), (tp, .inr (10, [.ref bt, .int b_length])), (bt, .inl (kbt, 1600, .inl fbt))] H := hP
                  have hD : va_D A [(h0, .inr (6, [.ref tp, .ref dr, .int q_faultKind, .int q_faultPlace, .int 4, .int w0_5, .int x_162])), (tp, .inr (10, [.ref bt, .int b_length])), (bt, .inl (kbt, 1600, .inl fbt))] := hD
                  exact kr227 4 w0_5 x_162 _ _ _ (gi_w g_145 (by decide)) (gi_w gx_162 (by decide)) hP hD hS (lv_sub hl [] rfl)
              · have g_163 : gi r_156 1 1 := gi_ne_lo c_157 gr_156 (gi_c 0 0 (by decide)) (by decide)
                refine lv_aload_n hx hb dX6_step_156 rfl (lv_at hl 1 rfl) ?_
                refine lv_iconst (v := 3) hx hb dX6_step_157 (by decide) ?_
                refine va_put (D := (dC, dI)) (ci := 6) (v := .int 3) (ty := .int) (C := RX6) (T := TX6) (N := 7) hx hb hts (fun w h => List.mem_cons_of_mem _ (jnGA_X6 w h)) tyX6 tyX6_ok nmX6 hown hK hP hD hS 0 rfl rfl 4 (by decide) (hts _ (List.mem_cons_of_mem _ mGA_57)) (fun _ h9 => h9) rfl (by decide +kernel) rfl rfl (Nat.le_of_ble_eq_true rfl) dX6_step_158 (fun H locs hP hD hS => ?_)
                have hP : va_P (dC, dI) vwCl [(h0, .inr (6, [.ref tp, .ref dr, .int q_faultKind, .int q_faultPlace, .int 3, .int w0_5, .int w0_5])), (tp, .inr (10, [.ref bt, .int b_length])), (bt, .inl (kbt, 1600, .inl fbt))] H := hP
                have hD : va_D A [(h0, .inr (6, [.ref tp, .ref dr, .int q_faultKind, .int q_faultPlace, .int 3, .int w0_5, .int w0_5])), (tp, .inr (10, [.ref bt, .int b_length])), (bt, .inl (kbt, 1600, .inl fbt))] := hD
                exact ih.2.2 r_151 3 w0_5 w0_5 _ _ _ (gi_w g_145 (by decide)) (gi_w g_145 (by decide)) (by have aw0_5 := gw0_5.1; have bw0_5 := gw0_5.2; have qgw0_5 := g_145.1; have rgw0_5 := g_145.2; omega) hP hD hS (lv_sub hl [1, 0] rfl)
            · have g_164 : gi r_153 1 1 := gi_ne_lo c_154 gr_153 (gi_c 0 0 (by decide)) (by decide)
              refine lv_aload_n hx hb dX6_step_103 rfl (lv_at hl 1 rfl) ?_
              refine lv_iconst (v := 2) hx hb dX6_step_104 (by decide) ?_
              refine va_put (D := (dC, dI)) (ci := 6) (v := .int 2) (ty := .int) (C := RX6) (T := TX6) (N := 7) hx hb hts (fun w h => List.mem_cons_of_mem _ (jnGA_X6 w h)) tyX6 tyX6_ok nmX6 hown hK hP hD hS 0 rfl rfl 4 (by decide) (hts _ (List.mem_cons_of_mem _ mGA_57)) (fun _ h9 => h9) rfl (by decide +kernel) rfl rfl (Nat.le_of_ble_eq_true rfl) dX6_step_105 (fun H locs hP hD hS => ?_)
              have hP : va_P (dC, dI) vwCl [(h0, .inr (6, [.ref tp, .ref dr, .int q_faultKind, .int q_faultPlace, .int 2, .int w0_5, .int w0_5])), (tp, .inr (10, [.ref bt, .int b_length])), (bt, .inl (kbt, 1600, .inl fbt))] H := hP
              have hD : va_D A [(h0, .inr (6, [.ref tp, .ref dr, .int q_faultKind, .int q_faultPlace, .int 2, .int w0_5, .int w0_5])), (tp, .inr (10, [.ref bt, .int b_length])), (bt, .inl (kbt, 1600, .inl fbt))] := hD
              exact ih.2.1 r_151 2 w0_5 w0_5 _ _ _ (gi_w g_145 (by decide)) (gi_w g_145 (by decide)) (by have aw0_5 := gw0_5.1; have bw0_5 := gw0_5.2; have qgw0_5 := g_145.1; have rgw0_5 := g_145.2; omega) hP hD hS (lv_sub hl [1, 0] rfl)
          · have g_165 : gi b_length 1 1599 := gi_le_l (Int32.not_lt.mp c_152) g_146 g_145
            have g_166 : gi w0_5 1 1599 := gi_le_r (Int32.not_lt.mp c_152) g_146 g_145
            refine lv_aload_n hx hb dX6_step_88 rfl (lv_at hl 1 rfl) ?_
            refine lv_iconst (v := 0) hx hb dX6_step_89 (by decide) ?_
            refine va_put (D := (dC, dI)) (ci := 6) (v := .int 0) (ty := .int) (C := RX6) (T := TX6) (N := 7) hx hb hts (fun w h => List.mem_cons_of_mem _ (jnGA_X6 w h)) tyX6 tyX6_ok nmX6 hown hK hP hD hS 0 rfl rfl 4 (by decide) (hts _ (List.mem_cons_of_mem _ mGA_57)) (fun _ h9 => h9) rfl (by decide +kernel) rfl rfl (Nat.le_of_ble_eq_true rfl) dX6_step_90 (fun H locs hP hD hS => ?_)
            have hP : va_P (dC, dI) vwCl [(h0, .inr (6, [.ref tp, .ref dr, .int q_faultKind, .int q_faultPlace, .int 0, .int w0_5, .int w0_5])), (tp, .inr (10, [.ref bt, .int b_length])), (bt, .inl (kbt, 1600, .inl fbt))] H := hP
            have hD : va_D A [(h0, .inr (6, [.ref tp, .ref dr, .int q_faultKind, .int q_faultPlace, .int 0, .int w0_5, .int w0_5])), (tp, .inr (10, [.ref bt, .int b_length])), (bt, .inl (kbt, 1600, .inl fbt))] := hD
            refine lv_goto (tgt := 227) hx hb dX6_step_93 (by decide) ?_
            exact kr227 0 w0_5 w0_5 _ _ _ (gi_w g_166 (by decide)) (gi_w g_166 (by decide)) hP hD hS (lv_sub hl [] rfl)
        · have g_167 : gi r_148 1 1 := gi_ne_lo c_149 gr_148 (gi_c 0 0 (by decide)) (by decide)
          refine lv_aload_n hx hb dX6_step_44 rfl (lv_at hl 0 rfl) ?_
          refine lv_dup hx hb dX6_step_45 rfl ?_
          refine va_get (D := (dC, dI)) (ci := 6) (v := .int w0_5) (C := RX6) (T := TX6) (N := 7) hx hb hts (fun w h => List.mem_cons_of_mem _ (jnGA_X6 w h)) hown hK hP 0 rfl rfl 5 (by decide) (hts _ (List.mem_cons_of_mem _ mGA_58)) (fun _ h9 => h9) rfl dX6_step_46 ?_
          refine lv_iconst (v := 1) hx hb dX6_step_49 (by decide) ?_
          refine lv_iadd hx hb dX6_step_50 ?_
          refine lv_topi (fun x_168 ex_168 => ?_)
          have gx_168 : gi x_168 1 1600 := gi_add ex_168 g_145 (gi_c 1 1 (by decide)) (by decide)
          refine va_put (D := (dC, dI)) (ci := 6) (v := .int x_168) (ty := .int) (C := RX6) (T := TX6) (N := 7) hx hb hts (fun w h => List.mem_cons_of_mem _ (jnGA_X6 w h)) tyX6 tyX6_ok nmX6 hown hK hP hD hS 0 rfl rfl 5 (by decide) (hts _ (List.mem_cons_of_mem _ mGA_58)) (fun _ h9 => h9) rfl (by decide +kernel) rfl rfl (Nat.le_of_ble_eq_true rfl) dX6_step_51 (fun H locs hP hD hS => ?_)
          have hP : va_P (dC, dI) vwCl [(h0, .inr (6, [.ref tp, .ref dr, .int q_faultKind, .int q_faultPlace, .int q_token, .int x_168, .int q_stop])), (tp, .inr (10, [.ref bt, .int b_length])), (bt, .inl (kbt, 1600, .inl fbt))] H := hP
          have hD : va_D A [(h0, .inr (6, [.ref tp, .ref dr, .int q_faultKind, .int q_faultPlace, .int q_token, .int x_168, .int q_stop])), (tp, .inr (10, [.ref bt, .int b_length])), (bt, .inl (kbt, 1600, .inl fbt))] := hD
          refine lv_goto (tgt := 16) hx hb dX6_step_54 (by decide) ?_
          exact ih.1 x_168 _ _ _ (gi_w gx_168 (by decide)) (by have aw0_5 := gw0_5.1; have bw0_5 := gw0_5.2; have qgx_168 := gx_168.1; have rgx_168 := gx_168.2; have igx_168 : x_168.toInt = w0_5.toInt + 1 := (by have hc1 : (1 : Int32).toInt = 1 := (by decide); have h9 := gi_addI ex_168 (by have h1 := g_145.1; have h2 := (gi_c 1 1 (by decide)).1; have h3 := g_145.2; have h4 := (gi_c 1 1 (by decide)).2; omega) (by have h1 := g_145.1; have h2 := (gi_c 1 1 (by decide)).1; have h3 := g_145.2; have h4 := (gi_c 1 1 (by decide)).2; omega); rw [hc1] at h9; exact h9); have qgw0_5 := g_145.1; have rgw0_5 := g_145.2; omega) hP hD hS (lv_sub hl [0] rfl)
    · intro v1 w0_4 w0_5 w0_6 H locs ls gw0_5 gw0_6 hmu hP hD hS hl
      refine lv_aload_n hx hb dX6_step_108 rfl (lv_at hl 0 rfl) ?_
      refine va_get (D := (dC, dI)) (ci := 6) (v := .int w0_6) (C := RX6) (T := TX6) (N := 7) hx hb hts (fun w h => List.mem_cons_of_mem _ (jnGA_X6 w h)) hown hK hP 0 rfl rfl 6 (by decide) (hts _ (List.mem_cons_of_mem _ mGA_59)) (fun _ h9 => h9) rfl dX6_step_109 ?_
      refine lv_aload_n hx hb dX6_step_112 rfl (lv_at hl 0 rfl) ?_
      refine va_get (D := (dC, dI)) (ci := 6) (v := .ref tp) (C := RX6) (T := TX6) (N := 7) hx hb hts (fun w h => List.mem_cons_of_mem _ (jnGA_X6 w h)) hown hK hP 0 rfl rfl 0 (by decide) (hts _ (List.mem_cons_of_mem _ mGA_52)) (fun _ h9 => h9) rfl dX6_step_113 ?_
      refine va_get (D := (dC, dI)) (ci := 10) (v := .int b_length) (C := RX10) (T := TX10) (N := 2) hx hb hts (fun w h => List.mem_cons_of_mem _ (jnGA_X10 w h)) hown hK hP 1 rfl rfl 1 (by decide) (hts _ (List.mem_cons_of_mem _ mGA_166)) (fun _ h9 => h9) rfl dX6_step_116 ?_
      refine lv_icmp_ge (tgt := 227) hx hb dX6_step_119 (by decide) (fun c_169 => ?_) (fun c_169 => ?_)
      · exact kr227 w0_4 w0_5 w0_6 _ _ _ gw0_5 gw0_6 hP hD hS (lv_sub hl [] rfl)
      · have g_170 : gi w0_6 0 1599 := gi_lt_l (Int32.not_le.mp c_169) gw0_6 gb_length (by decide)
        have g_171 : gi b_length 1 1600 := gi_lt_r (Int32.not_le.mp c_169) gw0_6 gb_length (by decide)
        refine lv_aload_n hx hb dX6_step_122 rfl (lv_at hl 0 rfl) ?_
        refine lv_aload_n hx hb dX6_step_123 rfl (lv_at hl 0 rfl) ?_
        refine va_get (D := (dC, dI)) (ci := 6) (v := .int w0_6) (C := RX6) (T := TX6) (N := 7) hx hb hts (fun w h => List.mem_cons_of_mem _ (jnGA_X6 w h)) hown hK hP 0 rfl rfl 6 (by decide) (hts _ (List.mem_cons_of_mem _ mGA_59)) (fun _ h9 => h9) rfl dX6_step_124 ?_
        have hPc := hP.sub (ws' := [(h0, .inr (6, [.ref tp, .ref dr, .int q_faultKind, .int q_faultPlace, .int w0_4, .int w0_5, .int w0_6])), (tp, .inr (10, [.ref bt, .int b_length])), (bt, .inl (kbt, 1600, .inl fbt))]) [0, 1, 2] rfl
        have hKc := hK.sub (tys' := [(kbt, .byte)]) [0] rfl
        refine va_calli (va_runV (As := [.int w0_6]) (rest := []) ⟨hx, hb, hml, hown, hts⟩ (sX6_byteAt l dC dI h0 tp bt dr q_faultKind q_faultPlace w0_4 w0_5 w0_6 b_length kbt fbt w0_6 gq_faultKind gw0_5 (gi_w g_170 (by decide)) (gi_w g_171 (by decide))) (cwV 1 hts (gz_gV mGA_167 mGA_168 mGA_169 mGA_9 mGA_170 goodGA) rfl rfl rfl (by decide +kernel) ⟨Nat.le_trans (Nat.le_of_ble_eq_true rfl) hRf, Nat.le_trans (Nat.le_of_ble_eq_true rfl) hRl⟩) ⟨fun a U g mk q => by obtain ⟨q0, qP, qK, qZ⟩ := q; exact ⟨q0, qP, va_K.moved (u := U) (U := U.calling g mk a) (Vm.Alike.refl U.vm) qK, nzA_same (u := U) (U := U.calling g mk a) rfl qZ⟩, va_recv hKc hPc (ci := 6) (q0 := 0) rfl rfl, fun U hU hW => ⟨rfl, by rw [hU]; exact hPc, va_K.moved hW.alike hKc, nzA_warm hW hz⟩⟩ rfl rfl hl.1 rfl (lv_room (Nat.le_of_ble_eq_true rfl)) dX6_step_127 ⟨hRc, hRs⟩) hS (fun q _ h => h.elim) (fun q h => h.elim) (fun r_172 u t H1 locs ht hvm hw hB hz1 hk1 hS => ?_)
        have hP := gz_keep hP hk1
        generalize H1 = H at hP hS ⊢
        have hPc := hP.sub (ws' := []) [] rfl
        have hKc := hK.sub (tys' := []) [] rfl
        refine va_calli (va_runS (As := [.int r_172]) (rest := []) ⟨hx, hb, hml, hown, hts⟩ (sX6_isLetter l dC dI r_172) (cwS 1 hts (gz_gS mGA_175 mGA_176 mGA_9 mGA_177 goodGA) rfl rfl rfl (by decide +kernel) ⟨Nat.le_trans (Nat.le_of_ble_eq_true rfl) hRf, Nat.le_trans (Nat.le_of_ble_eq_true rfl) hRl⟩) ⟨fun a U g mk q => by obtain ⟨q0, qP, qK, qZ⟩ := q; exact ⟨q0, qP, va_K.moved (u := U) (U := U.calling g mk a) (Vm.Alike.refl U.vm) qK, nzA_same (u := U) (U := U.calling g mk a) rfl qZ⟩, fun U hU hW => ⟨rfl, by rw [hU]; exact hPc, va_K.moved hW.alike hKc, nzA_warm hW hz⟩⟩ rfl rfl hl.1 rfl (lv_room (Nat.le_of_ble_eq_true rfl)) dX6_step_130 ⟨hRc, hRs⟩) hS (fun q _ h => h.elim) (fun q h => h.elim) (fun r_173 u t H1 locs ht hvm hw hB hz1 hk1 hS => ?_)
        have hP := gz_keep hP hk1
        generalize H1 = H at hP hS ⊢
        have gr_173 : gi r_173 0 1 := hw
        refine lv_if_eq (tgt := 227) hx hb dX6_step_133 (by decide) (fun c_174 => ?_) (fun c_174 => ?_)
        · have g_175 : gi r_173 0 0 := gi_eq c_174 (gi_c 0 0 (by decide))
          exact kr227 w0_4 w0_5 w0_6 _ _ _ gw0_5 (gi_w g_170 (by decide)) hP hD hS (lv_sub hl [] rfl)
        · have g_176 : gi r_173 1 1 := gi_ne_lo c_174 gr_173 (gi_c 0 0 (by decide)) (by decide)
          refine lv_aload_n hx hb dX6_step_136 rfl (lv_at hl 0 rfl) ?_
          refine lv_dup hx hb dX6_step_137 rfl ?_
          refine va_get (D := (dC, dI)) (ci := 6) (v := .int w0_6) (C := RX6) (T := TX6) (N := 7) hx hb hts (fun w h => List.mem_cons_of_mem _ (jnGA_X6 w h)) hown hK hP 0 rfl rfl 6 (by decide) (hts _ (List.mem_cons_of_mem _ mGA_59)) (fun _ h9 => h9) rfl dX6_step_138 ?_
          refine lv_iconst (v := 1) hx hb dX6_step_141 (by decide) ?_
          refine lv_iadd hx hb dX6_step_142 ?_
          refine lv_topi (fun x_177 ex_177 => ?_)
          have gx_177 : gi x_177 1 1600 := gi_add ex_177 g_170 (gi_c 1 1 (by decide)) (by decide)
          refine va_put (D := (dC, dI)) (ci := 6) (v := .int x_177) (ty := .int) (C := RX6) (T := TX6) (N := 7) hx hb hts (fun w h => List.mem_cons_of_mem _ (jnGA_X6 w h)) tyX6 tyX6_ok nmX6 hown hK hP hD hS 0 rfl rfl 6 (by decide) (hts _ (List.mem_cons_of_mem _ mGA_59)) (fun _ h9 => h9) rfl (by decide +kernel) rfl rfl (Nat.le_of_ble_eq_true rfl) dX6_step_143 (fun H locs hP hD hS => ?_)
          have hP : va_P (dC, dI) vwCl [(h0, .inr (6, [.ref tp, .ref dr, .int q_faultKind, .int q_faultPlace, .int w0_4, .int w0_5, .int x_177])), (tp, .inr (10, [.ref bt, .int b_length])), (bt, .inl (kbt, 1600, .inl fbt))] H := hP
          have hD : va_D A [(h0, .inr (6, [.ref tp, .ref dr, .int q_faultKind, .int q_faultPlace, .int w0_4, .int w0_5, .int x_177])), (tp, .inr (10, [.ref bt, .int b_length])), (bt, .inl (kbt, 1600, .inl fbt))] := hD
          refine lv_goto (tgt := 108) hx hb dX6_step_146 (by decide) ?_
          exact ih.2.1 v1 w0_4 w0_5 x_177 _ _ _ gw0_5 (gi_w gx_177 (by decide)) (by have aw0_6 := gw0_6.1; have bw0_6 := gw0_6.2; have qgx_177 := gx_177.1; have rgx_177 := gx_177.2; have igx_177 : x_177.toInt = w0_6.toInt + 1 := (by have hc1 : (1 : Int32).toInt = 1 := (by decide); have h9 := gi_addI ex_177 (by have h1 := g_170.1; have h2 := (gi_c 1 1 (by decide)).1; have h3 := g_170.2; have h4 := (gi_c 1 1 (by decide)).2; omega) (by have h1 := g_170.1; have h2 := (gi_c 1 1 (by decide)).1; have h3 := g_170.2; have h4 := (gi_c 1 1 (by decide)).2; omega); rw [hc1] at h9; exact h9); have qgw0_6 := g_170.1; have rgw0_6 := g_170.2; omega) hP hD hS (lv_sub hl [0, 1] rfl)
    · intro v1 w0_4 w0_5 w0_6 H locs ls gw0_5 gw0_6 hmu hP hD hS hl
      refine lv_aload_n hx hb dX6_step_161 rfl (lv_at hl 0 rfl) ?_
      refine va_get (D := (dC, dI)) (ci := 6) (v := .int w0_6) (C := RX6) (T := TX6) (N := 7) hx hb hts (fun w h => List.mem_cons_of_mem _ (jnGA_X6 w h)) hown hK hP 0 rfl rfl 6 (by decide) (hts _ (List.mem_cons_of_mem _ mGA_59)) (fun _ h9 => h9) rfl dX6_step_162 ?_
      refine lv_aload_n hx hb dX6_step_165 rfl (lv_at hl 0 rfl) ?_
      refine va_get (D := (dC, dI)) (ci := 6) (v := .ref tp) (C := RX6) (T := TX6) (N := 7) hx hb hts (fun w h => List.mem_cons_of_mem _ (jnGA_X6 w h)) hown hK hP 0 rfl rfl 0 (by decide) (hts _ (List.mem_cons_of_mem _ mGA_52)) (fun _ h9 => h9) rfl dX6_step_166 ?_
      refine va_get (D := (dC, dI)) (ci := 10) (v := .int b_length) (C := RX10) (T := TX10) (N := 2) hx hb hts (fun w h => List.mem_cons_of_mem _ (jnGA_X10 w h)) hown hK hP 1 rfl rfl 1 (by decide) (hts _ (List.mem_cons_of_mem _ mGA_166)) (fun _ h9 => h9) rfl dX6_step_169 ?_
      refine lv_icmp_ge (tgt := 227) hx hb dX6_step_172 (by decide) (fun c_178 => ?_) (fun c_178 => ?_)
      · exact kr227 w0_4 w0_5 w0_6 _ _ _ gw0_5 gw0_6 hP hD hS (lv_sub hl [] rfl)
      · have g_179 : gi w0_6 0 1599 := gi_lt_l (Int32.not_le.mp c_178) gw0_6 gb_length (by decide)
        have g_180 : gi b_length 1 1600 := gi_lt_r (Int32.not_le.mp c_178) gw0_6 gb_length (by decide)
        refine lv_aload_n hx hb dX6_step_175 rfl (lv_at hl 0 rfl) ?_
        refine lv_aload_n hx hb dX6_step_176 rfl (lv_at hl 0 rfl) ?_
        refine va_get (D := (dC, dI)) (ci := 6) (v := .int w0_6) (C := RX6) (T := TX6) (N := 7) hx hb hts (fun w h => List.mem_cons_of_mem _ (jnGA_X6 w h)) hown hK hP 0 rfl rfl 6 (by decide) (hts _ (List.mem_cons_of_mem _ mGA_59)) (fun _ h9 => h9) rfl dX6_step_177 ?_
        have hPc := hP.sub (ws' := [(h0, .inr (6, [.ref tp, .ref dr, .int q_faultKind, .int q_faultPlace, .int w0_4, .int w0_5, .int w0_6])), (tp, .inr (10, [.ref bt, .int b_length])), (bt, .inl (kbt, 1600, .inl fbt))]) [0, 1, 2] rfl
        have hKc := hK.sub (tys' := [(kbt, .byte)]) [0] rfl
        refine va_calli (va_runV (As := [.int w0_6]) (rest := []) ⟨hx, hb, hml, hown, hts⟩ (sX6_byteAt l dC dI h0 tp bt dr q_faultKind q_faultPlace w0_4 w0_5 w0_6 b_length kbt fbt w0_6 gq_faultKind gw0_5 (gi_w g_179 (by decide)) (gi_w g_180 (by decide))) (cwV 1 hts (gz_gV mGA_167 mGA_168 mGA_169 mGA_9 mGA_170 goodGA) rfl rfl rfl (by decide +kernel) ⟨Nat.le_trans (Nat.le_of_ble_eq_true rfl) hRf, Nat.le_trans (Nat.le_of_ble_eq_true rfl) hRl⟩) ⟨fun a U g mk q => by obtain ⟨q0, qP, qK, qZ⟩ := q; exact ⟨q0, qP, va_K.moved (u := U) (U := U.calling g mk a) (Vm.Alike.refl U.vm) qK, nzA_same (u := U) (U := U.calling g mk a) rfl qZ⟩, va_recv hKc hPc (ci := 6) (q0 := 0) rfl rfl, fun U hU hW => ⟨rfl, by rw [hU]; exact hPc, va_K.moved hW.alike hKc, nzA_warm hW hz⟩⟩ rfl rfl hl.1 rfl (lv_room (Nat.le_of_ble_eq_true rfl)) dX6_step_180 ⟨hRc, hRs⟩) hS (fun q _ h => h.elim) (fun q h => h.elim) (fun r_181 u t H1 locs ht hvm hw hB hz1 hk1 hS => ?_)
        have hP := gz_keep hP hk1
        generalize H1 = H at hP hS ⊢
        have hPc := hP.sub (ws' := []) [] rfl
        have hKc := hK.sub (tys' := []) [] rfl
        refine va_calli (va_runS (As := [.int r_181]) (rest := []) ⟨hx, hb, hml, hown, hts⟩ (sX6_isDigit l dC dI r_181) (cwS 1 hts (gz_gS mGA_178 mGA_179 mGA_9 mGA_180 goodGA) rfl rfl rfl (by decide +kernel) ⟨Nat.le_trans (Nat.le_of_ble_eq_true rfl) hRf, Nat.le_trans (Nat.le_of_ble_eq_true rfl) hRl⟩) ⟨fun a U g mk q => by obtain ⟨q0, qP, qK, qZ⟩ := q; exact ⟨q0, qP, va_K.moved (u := U) (U := U.calling g mk a) (Vm.Alike.refl U.vm) qK, nzA_same (u := U) (U := U.calling g mk a) rfl qZ⟩, fun U hU hW => ⟨rfl, by rw [hU]; exact hPc, va_K.moved hW.alike hKc, nzA_warm hW hz⟩⟩ rfl rfl hl.1 rfl (lv_room (Nat.le_of_ble_eq_true rfl)) dX6_step_183 ⟨hRc, hRs⟩) hS (fun q _ h => h.elim) (fun q h => h.elim) (fun r_182 u t H1 locs ht hvm hw hB hz1 hk1 hS => ?_)
        have hP := gz_keep hP hk1
        generalize H1 = H at hP hS ⊢
        have gr_182 : gi r_182 0 1 := hw
        refine lv_if_eq (tgt := 227) hx hb dX6_step_186 (by decide) (fun c_183 => ?_) (fun c_183 => ?_)
        · have g_184 : gi r_182 0 0 := gi_eq c_183 (gi_c 0 0 (by decide))
          exact kr227 w0_4 w0_5 w0_6 _ _ _ gw0_5 (gi_w g_179 (by decide)) hP hD hS (lv_sub hl [] rfl)
        · have g_185 : gi r_182 1 1 := gi_ne_lo c_183 gr_182 (gi_c 0 0 (by decide)) (by decide)
          refine lv_aload_n hx hb dX6_step_189 rfl (lv_at hl 0 rfl) ?_
          refine lv_dup hx hb dX6_step_190 rfl ?_
          refine va_get (D := (dC, dI)) (ci := 6) (v := .int w0_6) (C := RX6) (T := TX6) (N := 7) hx hb hts (fun w h => List.mem_cons_of_mem _ (jnGA_X6 w h)) hown hK hP 0 rfl rfl 6 (by decide) (hts _ (List.mem_cons_of_mem _ mGA_59)) (fun _ h9 => h9) rfl dX6_step_191 ?_
          refine lv_iconst (v := 1) hx hb dX6_step_194 (by decide) ?_
          refine lv_iadd hx hb dX6_step_195 ?_
          refine lv_topi (fun x_186 ex_186 => ?_)
          have gx_186 : gi x_186 1 1600 := gi_add ex_186 g_179 (gi_c 1 1 (by decide)) (by decide)
          refine va_put (D := (dC, dI)) (ci := 6) (v := .int x_186) (ty := .int) (C := RX6) (T := TX6) (N := 7) hx hb hts (fun w h => List.mem_cons_of_mem _ (jnGA_X6 w h)) tyX6 tyX6_ok nmX6 hown hK hP hD hS 0 rfl rfl 6 (by decide) (hts _ (List.mem_cons_of_mem _ mGA_59)) (fun _ h9 => h9) rfl (by decide +kernel) rfl rfl (Nat.le_of_ble_eq_true rfl) dX6_step_196 (fun H locs hP hD hS => ?_)
          have hP : va_P (dC, dI) vwCl [(h0, .inr (6, [.ref tp, .ref dr, .int q_faultKind, .int q_faultPlace, .int w0_4, .int w0_5, .int x_186])), (tp, .inr (10, [.ref bt, .int b_length])), (bt, .inl (kbt, 1600, .inl fbt))] H := hP
          have hD : va_D A [(h0, .inr (6, [.ref tp, .ref dr, .int q_faultKind, .int q_faultPlace, .int w0_4, .int w0_5, .int x_186])), (tp, .inr (10, [.ref bt, .int b_length])), (bt, .inl (kbt, 1600, .inl fbt))] := hD
          refine lv_goto (tgt := 161) hx hb dX6_step_199 (by decide) ?_
          exact ih.2.2 v1 w0_4 w0_5 x_186 _ _ _ gw0_5 (gi_w gx_186 (by decide)) (by have aw0_6 := gw0_6.1; have bw0_6 := gw0_6.2; have qgx_186 := gx_186.1; have rgx_186 := gx_186.2; have igx_186 : x_186.toInt = w0_6.toInt + 1 := (by have hc1 : (1 : Int32).toInt = 1 := (by decide); have h9 := gi_addI ex_186 (by have h1 := g_179.1; have h2 := (gi_c 1 1 (by decide)).1; have h3 := g_179.2; have h4 := (gi_c 1 1 (by decide)).2; omega) (by have h1 := g_179.1; have h2 := (gi_c 1 1 (by decide)).1; have h3 := g_179.2; have h4 := (gi_c 1 1 (by decide)).2; omega); rw [hc1] at h9; exact h9); have qgw0_6 := g_179.1; have rgw0_6 := g_179.2; omega) hP hD hS (lv_sub hl [0, 1] rfl)
set_option maxHeartbeats 4000000 in
set_option maxRecDepth 100000 in
theorem sX6_step (l : Launch) (dC : Nat → ClassId) (dI : Nat → Nat → Nat) (sz : Nat) (h0 : Nat) (tp : Nat) (bt : Nat) (dr : Nat) (q_faultKind : Int32) (q_faultPlace : Int32) (q_token : Int32) (q_start : Int32) (q_stop : Int32) (b_length : Int32) (kbt : ClassId) (fbt : Nat → Int32) (gq_faultKind : gi q_faultKind 0 3) (gq_start : gi q_start 0 1600) (gq_stop : gi q_stop 0 1600) (gb_length : gi b_length 0 1600) : Met l yX6_step (.code yX6_step cX6_step 2 none :: wsGA) ({ frames := 1, cells := 0, slots := 0, locals := 21 }) (va_Pc [.ref h0] (fun U => U.heap.size = sz ∧ va_P (dC, dI) vwCl [(h0, .inr (6, [.ref tp, .ref dr, .int q_faultKind, .int q_faultPlace, .int q_token, .int q_start, .int q_stop])), (tp, .inr (10, [.ref bt, .int b_length])), (bt, .inl (kbt, 1600, .inl fbt))] U.heap ∧ va_K (dC, dI) vwCl [(kbt, .byte)] U ∧ va_D (fun _ => True) [(h0, .inr (6, [.ref tp, .ref dr, .int q_faultKind, .int q_faultPlace, .int q_token, .int q_start, .int q_stop])), (tp, .inr (10, [.ref bt, .int b_length])), (bt, .inl (kbt, 1600, .inl fbt))] ∧ nzA U)) (va_Qv (fun (u : Unit) => True) (fun _ t => ∃ (w0_4 : Int32) (w0_5 : Int32) (w0_6 : Int32), gi w0_5 0 1600 ∧ gi w0_6 0 1600 ∧ va_P (dC, dI) vwCl [(h0, .inr (6, [.ref tp, .ref dr, .int q_faultKind, .int q_faultPlace, .int w0_4, .int w0_5, .int w0_6])), (tp, .inr (10, [.ref bt, .int b_length])), (bt, .inl (kbt, 1600, .inl fbt))] t.heap ∧ va_D (va_A [(h0, .inr (6, [.ref tp, .ref dr, .int q_faultKind, .int q_faultPlace, .int q_token, .int q_start, .int q_stop])), (tp, .inr (10, [.ref bt, .int b_length])), (bt, .inl (kbt, 1600, .inl fbt))] sz) [(h0, .inr (6, [.ref tp, .ref dr, .int q_faultKind, .int q_faultPlace, .int w0_4, .int w0_5, .int w0_6])), (tp, .inr (10, [.ref bt, .int b_length])), (bt, .inl (kbt, 1600, .inl fbt))]) (va_A [(h0, .inr (6, [.ref tp, .ref dr, .int q_faultKind, .int q_faultPlace, .int q_token, .int q_start, .int q_stop])), (tp, .inr (10, [.ref bt, .int b_length])), (bt, .inl (kbt, 1600, .inl fbt))] sz)) 0 0 (va_A [(h0, .inr (6, [.ref tp, .ref dr, .int q_faultKind, .int q_faultPlace, .int q_token, .int q_start, .int q_stop])), (tp, .inr (10, [.ref bt, .int b_length])), (bt, .inl (kbt, 1600, .inl fbt))] sz) := by
  refine Met.ofW (cc := cX6_step) (maxL := 2) (ret := none) (by decide) rfl ?_
  intro p e s m args below meth c s₁ B hml hv
  obtain ⟨rfl, hsz, hP, hK, hD0, hz⟩ := hv
  have hx := B.exec
  have hb := B.bytes
  have hr := B.returns
  have hts := atoms_spec (ws := (.code yX6_step cX6_step 2 none :: wsGA)) B.pre
  have hown : s.vm.findClass RX6 = some m.cls := findClass_of_methodNamed B.named
  have hlocks := B.notSynchronized
  subst hsz
  have hD := hD0.self (sz := s.heap.size)
  generalize hAe : va_A [(h0, .inr (6, [.ref tp, .ref dr, .int q_faultKind, .int q_faultPlace, .int q_token, .int q_start, .int q_stop])), (tp, .inr (10, [.ref bt, .int b_length])), (bt, .inl (kbt, 1600, .inl fbt))] s.heap.size = A at hD ⊢
  have hA : ∀ q : Nat, s.heap.size ≤ q → A q := fun q h => by rw [← hAe]; exact Or.inr h
  have hS : va_S A s.heap s.heap [] := va_S.rf
  have hl := lv_entry ([.ref h0]) (n := 2) (Nat.le_of_ble_eq_true rfl)
  rw [lg_entry_eq]
  generalize (lg_sl ([.ref h0]) ++ List.replicate (2 - (lg_sl ([.ref h0])).length) Slot.unset).toArray = ls at hl ⊢
  have hl : lv_has ls 2 [(0, .ref h0)] := hl
  refine lv_aload_n hx hb dX6_step_0 rfl (lv_at hl 0 rfl) ?_
  refine va_get (D := (dC, dI)) (ci := 6) (v := .int q_faultKind) (C := RX6) (T := TX6) (N := 7) hx hb hts (fun w h => List.mem_cons_of_mem _ (jnGA_X6 w h)) hown hK hP 0 rfl rfl 2 (by decide) (hts _ (List.mem_cons_of_mem _ mGA_55)) (fun _ h9 => h9) rfl dX6_step_1 ?_
  refine lv_if_eq (tgt := 8) hx hb dX6_step_4 (by decide) (fun c_187 => ?_) (fun c_187 => ?_)
  · have g_188 : gi q_faultKind 0 0 := gi_eq c_187 (gi_c 0 0 (by decide))
    refine lv_aload_n hx hb dX6_step_8 rfl (lv_at hl 0 rfl) ?_
    refine lv_aload_n hx hb dX6_step_9 rfl (lv_at hl 0 rfl) ?_
    refine va_get (D := (dC, dI)) (ci := 6) (v := .int q_stop) (C := RX6) (T := TX6) (N := 7) hx hb hts (fun w h => List.mem_cons_of_mem _ (jnGA_X6 w h)) hown hK hP 0 rfl rfl 6 (by decide) (hts _ (List.mem_cons_of_mem _ mGA_59)) (fun _ h9 => h9) rfl dX6_step_10 ?_
    refine va_put (D := (dC, dI)) (ci := 6) (v := .int q_stop) (ty := .int) (C := RX6) (T := TX6) (N := 7) hx hb hts (fun w h => List.mem_cons_of_mem _ (jnGA_X6 w h)) tyX6 tyX6_ok nmX6 hown hK hP hD hS 0 rfl rfl 5 (by decide) (hts _ (List.mem_cons_of_mem _ mGA_58)) (fun _ h9 => h9) rfl (by decide +kernel) rfl rfl (Nat.le_of_ble_eq_true rfl) dX6_step_13 (fun H locs hP hD hS => ?_)
    have hP : va_P (dC, dI) vwCl [(h0, .inr (6, [.ref tp, .ref dr, .int q_faultKind, .int q_faultPlace, .int q_token, .int q_stop, .int q_stop])), (tp, .inr (10, [.ref bt, .int b_length])), (bt, .inl (kbt, 1600, .inl fbt))] H := hP
    have hD : va_D A [(h0, .inr (6, [.ref tp, .ref dr, .int q_faultKind, .int q_faultPlace, .int q_token, .int q_stop, .int q_stop])), (tp, .inr (10, [.ref bt, .int b_length])), (bt, .inl (kbt, 1600, .inl fbt))] := hD
    refine (lp_sX6_step h0 tp bt dr q_faultKind q_faultPlace q_token q_start q_stop b_length kbt fbt gq_faultKind gq_start gq_stop gb_length hx hb hml hown hts hK hz hA (Nat.le_of_ble_eq_true rfl) (Nat.le_of_ble_eq_true rfl) (Nat.zero_le _) (Nat.zero_le _) (fun w0_4 w0_5 w0_6 H locs ls gw0_5 gw0_6 hP hD hS hl => ?_) (fun w0_4 w0_5 w0_6 H locs ls gw0_5 gw0_6 hP hD hS hl => ?_) 9622).1 q_stop _ _ _ gq_stop (by have qgq_stop := gq_stop.1; have rgq_stop := gq_stop.2; omega) hP hD hS (lv_sub hl [0] rfl)
    · skip
      exact W.vret hx hb hr (fun t ht hW => ⟨⟨(), rfl, trivial, w0_4, w0_5, w0_6, gw0_5, gw0_6, by rw [ht]; exact hP, hD⟩, hS.F ht⟩) hS.2.2 dX6_step_7
    · skip
      exact W.vret hx hb hr (fun t ht hW => ⟨⟨(), rfl, trivial, w0_4, w0_5, w0_6, gw0_5, gw0_6, by rw [ht]; exact hP, hD⟩, hS.F ht⟩) hS.2.2 dX6_step_227
  · have g_189 : gi q_faultKind 1 3 := gi_ne_lo c_187 gq_faultKind (gi_c 0 0 (by decide)) (by decide)
    exact W.vret hx hb hr (fun t ht hW => ⟨⟨(), rfl, trivial, q_token, q_start, q_stop, gq_start, gq_stop, by rw [ht]; exact hP, hD⟩, hS.F ht⟩) hS.2.2 dX6_step_7
