theorem dX9_countBehind_0 : decode cX9_countBehind 0 = .ok (.aload_n 0, 1) := by decide +kernel
theorem dX9_countBehind_1 : decode cX9_countBehind 1 = .ok (.getfield 27, 3) := by decide +kernel
theorem dX9_countBehind_4 : decode cX9_countBehind 4 = .ok (.iconst 0, 1) := by decide +kernel
theorem dX9_countBehind_5 : decode cX9_countBehind 5 = .ok (.iconst 0, 1) := by decide +kernel
theorem dX9_countBehind_6 : decode cX9_countBehind 6 = .ok (.invokestatic 63, 3) := by decide +kernel
theorem dX9_countBehind_9 : decode cX9_countBehind 9 = .ok (.istore_n 1, 1) := by decide +kernel
theorem dX9_countBehind_10 : decode cX9_countBehind 10 = .ok (.iload_n 1, 1) := by decide +kernel
theorem dX9_countBehind_11 : decode cX9_countBehind 11 = .ok (.istore_n 2, 1) := by decide +kernel
theorem dX9_countBehind_12 : decode cX9_countBehind 12 = .ok (.iload_n 2, 1) := by decide +kernel
theorem dX9_countBehind_13 : decode cX9_countBehind 13 = .ok (.iload_n 1, 1) := by decide +kernel
theorem dX9_countBehind_14 : decode cX9_countBehind 14 = .ok (.aload_n 0, 1) := by decide +kernel
theorem dX9_countBehind_15 : decode cX9_countBehind 15 = .ok (.getfield 27, 3) := by decide +kernel
theorem dX9_countBehind_18 : decode cX9_countBehind 18 = .ok (.iconst 1, 1) := by decide +kernel
theorem dX9_countBehind_19 : decode cX9_countBehind 19 = .ok (.iadd, 1) := by decide +kernel
theorem dX9_countBehind_20 : decode cX9_countBehind 20 = .ok (.bipush 11, 2) := by decide +kernel
theorem dX9_countBehind_22 : decode cX9_countBehind 22 = .ok (.imul, 1) := by decide +kernel
theorem dX9_countBehind_23 : decode cX9_countBehind 23 = .ok (.iadd, 1) := by decide +kernel
theorem dX9_countBehind_24 : decode cX9_countBehind 24 = .ok (.if_icmp .ge 25, 3) := by decide +kernel
theorem dX9_countBehind_27 : decode cX9_countBehind 27 = .ok (.aload_n 0, 1) := by decide +kernel
theorem dX9_countBehind_28 : decode cX9_countBehind 28 = .ok (.getfield 15, 3) := by decide +kernel
theorem dX9_countBehind_31 : decode cX9_countBehind 31 = .ok (.iload_n 2, 1) := by decide +kernel
theorem dX9_countBehind_32 : decode cX9_countBehind 32 = .ok (.aload_n 0, 1) := by decide +kernel
theorem dX9_countBehind_33 : decode cX9_countBehind 33 = .ok (.getfield 9, 3) := by decide +kernel
theorem dX9_countBehind_36 : decode cX9_countBehind 36 = .ok (.iload_n 2, 1) := by decide +kernel
theorem dX9_countBehind_37 : decode cX9_countBehind 37 = .ok (.iaload, 1) := by decide +kernel
theorem dX9_countBehind_38 : decode cX9_countBehind 38 = .ok (.iconst 1, 1) := by decide +kernel
theorem dX9_countBehind_39 : decode cX9_countBehind 39 = .ok (.invokestatic 81, 3) := by decide +kernel
theorem dX9_countBehind_42 : decode cX9_countBehind 42 = .ok (.iastore, 1) := by decide +kernel
theorem dX9_countBehind_43 : decode cX9_countBehind 43 = .ok (.iinc 2 1, 3) := by decide +kernel
theorem dX9_countBehind_46 : decode cX9_countBehind 46 = .ok (.goto (-34), 3) := by decide +kernel
theorem dX9_countBehind_49 : decode cX9_countBehind 49 = .ok (.aload_n 0, 1) := by decide +kernel
theorem dX9_countBehind_50 : decode cX9_countBehind 50 = .ok (.getfield 27, 3) := by decide +kernel
theorem dX9_countBehind_53 : decode cX9_countBehind 53 = .ok (.iconst 1, 1) := by decide +kernel
theorem dX9_countBehind_54 : decode cX9_countBehind 54 = .ok (.isub, 1) := by decide +kernel
theorem dX9_countBehind_55 : decode cX9_countBehind 55 = .ok (.istore_n 2, 1) := by decide +kernel
theorem dX9_countBehind_56 : decode cX9_countBehind 56 = .ok (.iload_n 2, 1) := by decide +kernel
theorem dX9_countBehind_57 : decode cX9_countBehind 57 = .ok (.ifCond .lt 99, 3) := by decide +kernel
theorem dX9_countBehind_60 : decode cX9_countBehind 60 = .ok (.iconst 0, 1) := by decide +kernel
theorem dX9_countBehind_61 : decode cX9_countBehind 61 = .ok (.istore_n 3, 1) := by decide +kernel
theorem dX9_countBehind_62 : decode cX9_countBehind 62 = .ok (.iload_n 3, 1) := by decide +kernel
theorem dX9_countBehind_63 : decode cX9_countBehind 63 = .ok (.iload_n 2, 1) := by decide +kernel
theorem dX9_countBehind_64 : decode cX9_countBehind 64 = .ok (.if_icmp .gt 86, 3) := by decide +kernel
theorem dX9_countBehind_67 : decode cX9_countBehind 67 = .ok (.iload_n 2, 1) := by decide +kernel
theorem dX9_countBehind_68 : decode cX9_countBehind 68 = .ok (.iload_n 3, 1) := by decide +kernel
theorem dX9_countBehind_69 : decode cX9_countBehind 69 = .ok (.iconst 0, 1) := by decide +kernel
theorem dX9_countBehind_70 : decode cX9_countBehind 70 = .ok (.invokestatic 63, 3) := by decide +kernel
theorem dX9_countBehind_73 : decode cX9_countBehind 73 = .ok (.istore 4, 2) := by decide +kernel
theorem dX9_countBehind_75 : decode cX9_countBehind 75 = .ok (.iload_n 2, 1) := by decide +kernel
theorem dX9_countBehind_76 : decode cX9_countBehind 76 = .ok (.invokestatic 67, 3) := by decide +kernel
theorem dX9_countBehind_79 : decode cX9_countBehind 79 = .ok (.istore 5, 2) := by decide +kernel
theorem dX9_countBehind_81 : decode cX9_countBehind 81 = .ok (.iload 5, 2) := by decide +kernel
theorem dX9_countBehind_83 : decode cX9_countBehind 83 = .ok (.iload_n 2, 1) := by decide +kernel
theorem dX9_countBehind_84 : decode cX9_countBehind 84 = .ok (.aload_n 0, 1) := by decide +kernel
theorem dX9_countBehind_85 : decode cX9_countBehind 85 = .ok (.getfield 31, 3) := by decide +kernel
theorem dX9_countBehind_88 : decode cX9_countBehind 88 = .ok (.aload_n 0, 1) := by decide +kernel
theorem dX9_countBehind_89 : decode cX9_countBehind 89 = .ok (.getfield 35, 3) := by decide +kernel
theorem dX9_countBehind_92 : decode cX9_countBehind 92 = .ok (.invokestatic 71, 3) := by decide +kernel
theorem dX9_countBehind_95 : decode cX9_countBehind 95 = .ok (.if_icmp .gt 49, 3) := by decide +kernel
theorem dX9_countBehind_98 : decode cX9_countBehind 98 = .ok (.aload_n 0, 1) := by decide +kernel
theorem dX9_countBehind_99 : decode cX9_countBehind 99 = .ok (.getfield 9, 3) := by decide +kernel
theorem dX9_countBehind_102 : decode cX9_countBehind 102 = .ok (.iload 4, 2) := by decide +kernel
theorem dX9_countBehind_104 : decode cX9_countBehind 104 = .ok (.iload 5, 2) := by decide +kernel
theorem dX9_countBehind_106 : decode cX9_countBehind 106 = .ok (.iadd, 1) := by decide +kernel
theorem dX9_countBehind_107 : decode cX9_countBehind 107 = .ok (.iaload, 1) := by decide +kernel
theorem dX9_countBehind_108 : decode cX9_countBehind 108 = .ok (.ifCond .le 30, 3) := by decide +kernel
theorem dX9_countBehind_111 : decode cX9_countBehind 111 = .ok (.aload_n 0, 1) := by decide +kernel
theorem dX9_countBehind_112 : decode cX9_countBehind 112 = .ok (.getfield 15, 3) := by decide +kernel
theorem dX9_countBehind_115 : decode cX9_countBehind 115 = .ok (.iload 4, 2) := by decide +kernel
theorem dX9_countBehind_117 : decode cX9_countBehind 117 = .ok (.iload 5, 2) := by decide +kernel
theorem dX9_countBehind_119 : decode cX9_countBehind 119 = .ok (.iadd, 1) := by decide +kernel
theorem dX9_countBehind_120 : decode cX9_countBehind 120 = .ok (.aload_n 0, 1) := by decide +kernel
theorem dX9_countBehind_121 : decode cX9_countBehind 121 = .ok (.iload_n 2, 1) := by decide +kernel
theorem dX9_countBehind_122 : decode cX9_countBehind 122 = .ok (.iload_n 3, 1) := by decide +kernel
theorem dX9_countBehind_123 : decode cX9_countBehind 123 = .ok (.iload 5, 2) := by decide +kernel
theorem dX9_countBehind_125 : decode cX9_countBehind 125 = .ok (.invokevirtual 86, 3) := by decide +kernel
theorem dX9_countBehind_128 : decode cX9_countBehind 128 = .ok (.aload_n 0, 1) := by decide +kernel
theorem dX9_countBehind_129 : decode cX9_countBehind 129 = .ok (.iload_n 2, 1) := by decide +kernel
theorem dX9_countBehind_130 : decode cX9_countBehind 130 = .ok (.iload_n 3, 1) := by decide +kernel
theorem dX9_countBehind_131 : decode cX9_countBehind 131 = .ok (.iload 5, 2) := by decide +kernel
theorem dX9_countBehind_133 : decode cX9_countBehind 133 = .ok (.invokevirtual 89, 3) := by decide +kernel
theorem dX9_countBehind_136 : decode cX9_countBehind 136 = .ok (.iadd, 1) := by decide +kernel
theorem dX9_countBehind_137 : decode cX9_countBehind 137 = .ok (.iastore, 1) := by decide +kernel
theorem dX9_countBehind_138 : decode cX9_countBehind 138 = .ok (.iinc 5 1, 3) := by decide +kernel
theorem dX9_countBehind_141 : decode cX9_countBehind 141 = .ok (.goto (-60), 3) := by decide +kernel
theorem dX9_countBehind_144 : decode cX9_countBehind 144 = .ok (.iinc 3 1, 3) := by decide +kernel
theorem dX9_countBehind_147 : decode cX9_countBehind 147 = .ok (.goto (-85), 3) := by decide +kernel
theorem dX9_countBehind_150 : decode cX9_countBehind 150 = .ok (.iinc 2 (-1), 3) := by decide +kernel
theorem dX9_countBehind_153 : decode cX9_countBehind 153 = .ok (.goto (-97), 3) := by decide +kernel
theorem dX9_countBehind_156 : decode cX9_countBehind 156 = .ok (.return_, 1) := by decide +kernel
set_option maxHeartbeats 4000000 in
set_option maxRecDepth 100000 in
theorem lp_sX9_countBehind {p : Program} {l : Launch} {e : Env} {R : Room} {s : State} {m : MethodId} {args : Array Value} {below : List Frame} {meth : Method} {c : Code} {Q : State → Prop} {A : Nat → Prop} {cells slots : Nat} {dC : Nat → ClassId} {dI : Nat → Nat → Nat} (h0 : Nat) (bf : Nat) (bh : Nat) (sa : Nat) (months : Int32) (full : Int32) (lean : Int32) (kbf : ClassId) (fbf : Nat → Int32) (kbh : ClassId) (fbh : Nat → Int32) (gmonths : gi months 0 24) (gfull : gi full 0 5) (glean : gi lean 0 5) (hx : p.tables.exec = Jvm.exec) (hb : c.code = cX9_countBehind) (hml : c.maxLocals = 6) (hown : s.vm.findClass RX9 = some m.cls) (hts : ∀ w ∈ ((.code yX9_countBehind cX9_countBehind 6 none :: wsGA) : List Cond), w.before args s = true) (hK : va_K (dC, dI) vwCl [(kbf, .int), (kbh, .int)] s) (hz : nzA s) (hA : ∀ q : Nat, s.heap.size ≤ q → A q) (hRf : 3 ≤ R.frames) (hRl : 66 ≤ R.locals) (hRc : cells ≤ R.cells) (hRs : slots ≤ R.slots) (kr156 : ∀ (z2 : Nat → Int32) (H : Heap) (locs : List Loc) (ls : Array Slot), va_P (dC, dI) vwCl [(h0, .inr (9, [.ref bf, .ref bh, .ref sa, .int months, .int full, .int lean])), (bf, .inl (kbf, 3575, .inl fbf)), (bh, .inl (kbh, 3575, .inl z2))] H → va_D A [(h0, .inr (9, [.ref bf, .ref bh, .ref sa, .int months, .int full, .int lean])), (bf, .inl (kbf, 3575, .inl fbf)), (bh, .inl (kbh, 3575, .inl z2))] → va_S A s.heap H locs → lv_has ls 6 [] → W p l e R s m args below meth c H locs cells slots Q (F0 m 156 ls [])) : ∀ z : Nat, (∀ (v1 : Int32) (v2 : Int32) (z2 : Nat → Int32) (H : Heap) (locs : List Loc) (ls : Array Slot), gi v1 0 3300 → gi v2 0 3575 → 26131 + (-2) * v2.toInt < (z : Int) → va_P (dC, dI) vwCl [(h0, .inr (9, [.ref bf, .ref bh, .ref sa, .int months, .int full, .int lean])), (bf, .inl (kbf, 3575, .inl fbf)), (bh, .inl (kbh, 3575, .inl z2))] H → va_D A [(h0, .inr (9, [.ref bf, .ref bh, .ref sa, .int months, .int full, .int lean])), (bf, .inl (kbf, 3575, .inl fbf)), (bh, .inl (kbh, 3575, .inl z2))] → va_S A s.heap H locs → lv_has ls 6 [(0, .ref h0), (1, .int v1), (2, .int v2)] → W p l e R s m args below meth c H locs cells slots Q (F0 m 12 ls [])) ∧ (∀ (v1 : Int32) (v2 : Int32) (z2 : Nat → Int32) (H : Heap) (locs : List Loc) (ls : Array Slot), gi v1 0 3300 → gi v2 (-1) 23 → 731 + 730 * v2.toInt < (z : Int) → va_P (dC, dI) vwCl [(h0, .inr (9, [.ref bf, .ref bh, .ref sa, .int months, .int full, .int lean])), (bf, .inl (kbf, 3575, .inl fbf)), (bh, .inl (kbh, 3575, .inl z2))] H → va_D A [(h0, .inr (9, [.ref bf, .ref bh, .ref sa, .int months, .int full, .int lean])), (bf, .inl (kbf, 3575, .inl fbf)), (bh, .inl (kbh, 3575, .inl z2))] → va_S A s.heap H locs → lv_has ls 6 [(0, .ref h0), (1, .int v1), (2, .int v2)] → W p l e R s m args below meth c H locs cells slots Q (F0 m 56 ls [])) ∧ (∀ (v1 : Int32) (v2 : Int32) (v3 : Int32) (z2 : Nat → Int32) (H : Heap) (locs : List Loc) (ls : Array Slot), gi v1 0 3300 → gi v2 0 23 → gi v3 0 24 → 674 + 730 * v2.toInt + (-28) * v3.toInt < (z : Int) → va_P (dC, dI) vwCl [(h0, .inr (9, [.ref bf, .ref bh, .ref sa, .int months, .int full, .int lean])), (bf, .inl (kbf, 3575, .inl fbf)), (bh, .inl (kbh, 3575, .inl z2))] H → va_D A [(h0, .inr (9, [.ref bf, .ref bh, .ref sa, .int months, .int full, .int lean])), (bf, .inl (kbf, 3575, .inl fbf)), (bh, .inl (kbh, 3575, .inl z2))] → va_S A s.heap H locs → lv_has ls 6 [(0, .ref h0), (1, .int v1), (2, .int v2), (3, .int v3)] → W p l e R s m args below meth c H locs cells slots Q (F0 m 62 ls [])) ∧ (∀ (v1 : Int32) (v2 : Int32) (v3 : Int32) (v4 : Int32) (v5 : Int32) (z2 : Nat → Int32) (H : Heap) (locs : List Loc) (ls : Array Slot), gi v1 0 3300 → gi v2 0 23 → gi v3 0 23 → gi v4 0 3564 → gi v5 0 11 → 669 + 730 * v2.toInt + (-28) * v3.toInt + (-2) * v5.toInt < (z : Int) → va_P (dC, dI) vwCl [(h0, .inr (9, [.ref bf, .ref bh, .ref sa, .int months, .int full, .int lean])), (bf, .inl (kbf, 3575, .inl fbf)), (bh, .inl (kbh, 3575, .inl z2))] H → va_D A [(h0, .inr (9, [.ref bf, .ref bh, .ref sa, .int months, .int full, .int lean])), (bf, .inl (kbf, 3575, .inl fbf)), (bh, .inl (kbh, 3575, .inl z2))] → va_S A s.heap H locs → lv_has ls 6 [(0, .ref h0), (1, .int v1), (2, .int v2), (3, .int v3), (4, .int v4), (5, .int v5)] → W p l e R s m args below meth c H locs cells slots Q (F0 m 81 ls [])) := by
  intro z
  induction z with
  | zero =>
    refine ⟨?_, ?_, ?_, ?_⟩
    · intro v1 v2 z2 H locs ls gv1 gv2 hmu hP hD hS hl
      exact absurd hmu (by have hv21 := gv2.1; have hv22 := gv2.2; omega)
    · intro v1 v2 z2 H locs ls gv1 gv2 hmu hP hD hS hl
      exact absurd hmu (by have hv21 := gv2.1; have hv22 := gv2.2; omega)
    · intro v1 v2 v3 z2 H locs ls gv1 gv2 gv3 hmu hP hD hS hl
      exact absurd hmu (by have hv21 := gv2.1; have hv22 := gv2.2; have hv31 := gv3.1; have hv32 := gv3.2; omega)
    · intro v1 v2 v3 v4 v5 z2 H locs ls gv1 gv2 gv3 gv4 gv5 hmu hP hD hS hl
      exact absurd hmu (by have hv21 := gv2.1; have hv22 := gv2.2; have hv31 := gv3.1; have hv32 := gv3.2; have hv51 := gv5.1; have hv52 := gv5.2; omega)
  | succ z ih =>
    refine ⟨?_, ?_, ?_, ?_⟩
    · intro v1 v2 z2 H locs ls gv1 gv2 hmu hP hD hS hl
      refine lv_iload_n hx hb dX9_countBehind_12 rfl (lv_at hl 2 rfl) ?_
      refine lv_iload_n hx hb dX9_countBehind_13 rfl (lv_at hl 1 rfl) ?_
      refine lv_aload_n hx hb dX9_countBehind_14 rfl (lv_at hl 0 rfl) ?_
      refine va_get (D := (dC, dI)) (ci := 9) (v := .int months) (C := RX9) (T := TX9) (N := 6) hx hb hts (fun w h => List.mem_cons_of_mem _ (jnGA_X9 w h)) hown hK hP 0 rfl rfl 3 (by decide) (hts _ (List.mem_cons_of_mem _ mGA_560)) (fun _ h9 => h9) rfl dX9_countBehind_15 ?_
      refine lv_iconst (v := 1) hx hb dX9_countBehind_18 (by decide) ?_
      refine lv_iadd hx hb dX9_countBehind_19 ?_
      refine lv_topi (fun x_568 ex_568 => ?_)
      have gx_568 : gi x_568 1 25 := gi_add ex_568 gmonths (gi_c 1 1 (by decide)) (by decide)
      refine lv_bipush (v := 11) hx hb dX9_countBehind_20 (by decide) ?_
      refine lv_imul hx hb dX9_countBehind_22 ?_
      refine lv_topi (fun x_569 ex_569 => ?_)
      have gx_569 : gi x_569 11 275 := gi_mul ex_569 gx_568 (gi_c 11 11 (by decide)) (by decide)
      refine lv_iadd hx hb dX9_countBehind_23 ?_
      refine lv_topi (fun x_570 ex_570 => ?_)
      have gx_570 : gi x_570 11 3575 := gi_add ex_570 gv1 gx_569 (by decide)
      refine lv_icmp_ge (tgt := 49) hx hb dX9_countBehind_24 (by decide) (fun c_571 => ?_) (fun c_571 => ?_)
      · have g_572 : gi v2 11 3575 := gi_le_r c_571 gx_570 gv2
        refine lv_aload_n hx hb dX9_countBehind_49 rfl (lv_at hl 0 rfl) ?_
        refine va_get (D := (dC, dI)) (ci := 9) (v := .int months) (C := RX9) (T := TX9) (N := 6) hx hb hts (fun w h => List.mem_cons_of_mem _ (jnGA_X9 w h)) hown hK hP 0 rfl rfl 3 (by decide) (hts _ (List.mem_cons_of_mem _ mGA_560)) (fun _ h9 => h9) rfl dX9_countBehind_50 ?_
        refine lv_iconst (v := 1) hx hb dX9_countBehind_53 (by decide) ?_
        refine lv_isub hx hb dX9_countBehind_54 ?_
        refine lv_topi (fun x_573 ex_573 => ?_)
        have gx_573 : gi x_573 (-1) 23 := gi_sub ex_573 gmonths (gi_c 1 1 (by decide)) (by decide)
        refine lv_istore_n (lv' := [(2, .int x_573), (0, .ref h0), (1, .int v1)]) hx hb dX9_countBehind_55 rfl hl (by decide) rfl (fun ls hl => ?_)
        exact ih.2.1 v1 x_573 z2 _ _ _ gv1 gx_573 (by have av2 := gv2.1; have bv2 := gv2.2; have qgx_573 := gx_573.1; have rgx_573 := gx_573.2; have igx_573 : x_573.toInt = months.toInt - 1 := (by have hc1 : (1 : Int32).toInt = 1 := (by decide); have h9 := gi_subI ex_573 (by have h1 := gmonths.1; have h2 := (gi_c 1 1 (by decide)).1; have h3 := gmonths.2; have h4 := (gi_c 1 1 (by decide)).2; omega) (by have h1 := gmonths.1; have h2 := (gi_c 1 1 (by decide)).1; have h3 := gmonths.2; have h4 := (gi_c 1 1 (by decide)).2; omega); rw [hc1] at h9; exact h9); have qgmonths := gmonths.1; have rgmonths := gmonths.2; omega) hP hD hS (lv_sub hl [1, 2, 0] rfl)
      · have g_574 : gi v2 0 3574 := gi_lt_l (Int32.not_le.mp c_571) gv2 gx_570 (by decide)
        refine lv_aload_n hx hb dX9_countBehind_27 rfl (lv_at hl 0 rfl) ?_
        refine va_get (D := (dC, dI)) (ci := 9) (v := .ref bh) (C := RX9) (T := TX9) (N := 6) hx hb hts (fun w h => List.mem_cons_of_mem _ (jnGA_X9 w h)) hown hK hP 0 rfl rfl 1 (by decide) (hts _ (List.mem_cons_of_mem _ mGA_112)) (fun _ h9 => h9) rfl dX9_countBehind_28 ?_
        refine lv_iload_n hx hb dX9_countBehind_31 rfl (lv_at hl 2 rfl) ?_
        refine lv_aload_n hx hb dX9_countBehind_32 rfl (lv_at hl 0 rfl) ?_
        refine va_get (D := (dC, dI)) (ci := 9) (v := .ref bf) (C := RX9) (T := TX9) (N := 6) hx hb hts (fun w h => List.mem_cons_of_mem _ (jnGA_X9 w h)) hown hK hP 0 rfl rfl 0 (by decide) (hts _ (List.mem_cons_of_mem _ mGA_111)) (fun _ h9 => h9) rfl dX9_countBehind_33 ?_
        refine lv_iload_n hx hb dX9_countBehind_36 rfl (lv_at hl 2 rfl) ?_
        refine va_iald hx hb hK hP 1 0 rfl rfl (gi_in g_574 (by decide)) dX9_countBehind_37 ?_
        refine lv_topi (fun x_575 ex_575 => ?_)
        refine lv_iconst (v := 1) hx hb dX9_countBehind_38 (by decide) ?_
        refine va_mmin (own := RX9) hx hb (by rw [hml]; exact hl.1.symm) hown (hts _ (List.mem_cons_of_mem _ mGA_594)) (hts _ (List.mem_cons_of_mem _ mGA_268)) (hts _ (List.mem_cons_of_mem _ mGA_269)) (hts _ (List.mem_cons_of_mem _ mGA_270)) (Nat.le_trans (Nat.le_of_ble_eq_true rfl) hRf) (Nat.le_trans (Nat.le_of_ble_eq_true rfl) hRl) hRc hRs dX9_countBehind_39 ?_
        refine lv_topi (fun x_576 ex_576 => ?_)
        have gx_576 : gi x_576 (-2147483648) 1 := gi_min ex_576 (gi_any x_575) (gi_c 1 1 (by decide)) (by decide)
        refine va_iast hx hb hK hP hD hS 2 1 rfl rfl (gi_in g_574 (by decide)) dX9_countBehind_42 (fun H locs hP hD hS => ?_)
        have hP : va_P (dC, dI) vwCl [(h0, .inr (9, [.ref bf, .ref bh, .ref sa, .int months, .int full, .int lean])), (bf, .inl (kbf, 3575, .inl fbf)), (bh, .inl (kbh, 3575, .inl (upd z2 (v2 : Int32).toNatClampNeg x_576)))] H := hP
        have hD : va_D A [(h0, .inr (9, [.ref bf, .ref bh, .ref sa, .int months, .int full, .int lean])), (bf, .inl (kbf, 3575, .inl fbf)), (bh, .inl (kbh, 3575, .inl (upd z2 (v2 : Int32).toNatClampNeg x_576)))] := hD
        generalize upd z2 (v2 : Int32).toNatClampNeg x_576 = f_577 at hP hD
        obtain ⟨x_578, ex_578⟩ : ∃ y : Int32, y = v2 + 1 := ⟨_, rfl⟩
        have gx_578 : gi x_578 1 3575 := gi_add ex_578 g_574 (gi_c 1 1 (by decide)) (by decide)
        refine lv_iinc (v := x_578) (lv' := [(2, .int x_578), (0, .ref h0), (1, .int v1)]) hx hb dX9_countBehind_43 hl (k := 2) rfl (by rw [ex_578]; rfl) (by decide) rfl (fun ls hl => ?_)
        refine lv_goto (tgt := 12) hx hb dX9_countBehind_46 (by decide) ?_
        exact ih.1 v1 x_578 f_577 _ _ _ gv1 (gi_w gx_578 (by decide)) (by have av2 := gv2.1; have bv2 := gv2.2; have qgx_578 := gx_578.1; have rgx_578 := gx_578.2; have igx_578 : x_578.toInt = v2.toInt + 1 := (by have hc1 : (1 : Int32).toInt = 1 := (by decide); have h9 := gi_addI ex_578 (by have h1 := g_574.1; have h2 := (gi_c 1 1 (by decide)).1; have h3 := g_574.2; have h4 := (gi_c 1 1 (by decide)).2; omega) (by have h1 := g_574.1; have h2 := (gi_c 1 1 (by decide)).1; have h3 := g_574.2; have h4 := (gi_c 1 1 (by decide)).2; omega); rw [hc1] at h9; exact h9); have qgv2 := g_574.1; have rgv2 := g_574.2; omega) hP hD hS (lv_sub hl [1, 2, 0] rfl)
    · intro v1 v2 z2 H locs ls gv1 gv2 hmu hP hD hS hl
      refine lv_iload_n hx hb dX9_countBehind_56 rfl (lv_at hl 2 rfl) ?_
      refine lv_if_lt (tgt := 156) hx hb dX9_countBehind_57 (by decide) (fun c_579 => ?_) (fun c_579 => ?_)
      · have g_580 : gi v2 (-1) (-1) := gi_lt_l c_579 gv2 (gi_c 0 0 (by decide)) (by decide)
        exact kr156 z2 _ _ _ hP hD hS (lv_sub hl [] rfl)
      · have g_581 : gi v2 0 23 := gi_le_r (Int32.not_lt.mp c_579) (gi_c 0 0 (by decide)) gv2
        refine lv_iconst (v := 0) hx hb dX9_countBehind_60 (by decide) ?_
        refine lv_istore_n (lv' := [(3, .int 0), (0, .ref h0), (1, .int v1), (2, .int v2)]) hx hb dX9_countBehind_61 rfl hl (by decide) rfl (fun ls hl => ?_)
        exact ih.2.2.1 v1 v2 0 z2 _ _ _ gv1 g_581 (gi_w (gi_c 0 0 (by decide)) (by decide)) (by have k0 : (0 : Int32).toInt = 0 := (by decide); have av2 := gv2.1; have bv2 := gv2.2; have qgv2 := g_581.1; have rgv2 := g_581.2; omega) hP hD hS (lv_sub hl [1, 2, 3, 0] rfl)
    · intro v1 v2 v3 z2 H locs ls gv1 gv2 gv3 hmu hP hD hS hl
      refine lv_iload_n hx hb dX9_countBehind_62 rfl (lv_at hl 3 rfl) ?_
      refine lv_iload_n hx hb dX9_countBehind_63 rfl (lv_at hl 2 rfl) ?_
      refine lv_icmp_gt (tgt := 150) hx hb dX9_countBehind_64 (by decide) (fun c_582 => ?_) (fun c_582 => ?_)
      · have g_583 : gi v3 1 24 := gi_lt_r c_582 gv2 gv3 (by decide)
        obtain ⟨x_584, ex_584⟩ : ∃ y : Int32, y = v2 + (-1) := ⟨_, rfl⟩
        have gx_584 : gi x_584 (-1) 22 := gi_add ex_584 gv2 (gi_c (-1) (-1) (by decide)) (by decide)
        refine lv_iinc (v := x_584) (lv' := [(2, .int x_584), (0, .ref h0), (1, .int v1), (3, .int v3)]) hx hb dX9_countBehind_150 hl (k := 2) rfl (by rw [ex_584]; rfl) (by decide) rfl (fun ls hl => ?_)
        refine lv_goto (tgt := 56) hx hb dX9_countBehind_153 (by decide) ?_
        exact ih.2.1 v1 x_584 z2 _ _ _ gv1 (gi_w gx_584 (by decide)) (by have av2 := gv2.1; have bv2 := gv2.2; have av3 := gv3.1; have bv3 := gv3.2; have qgx_584 := gx_584.1; have rgx_584 := gx_584.2; have igx_584 : x_584.toInt = v2.toInt + (-1) := (by have hcm1 : ((-1) : Int32).toInt = (-1) := (by decide); have h9 := gi_addI ex_584 (by have h1 := gv2.1; have h2 := (gi_c (-1) (-1) (by decide)).1; have h3 := gv2.2; have h4 := (gi_c (-1) (-1) (by decide)).2; omega) (by have h1 := gv2.1; have h2 := (gi_c (-1) (-1) (by decide)).1; have h3 := gv2.2; have h4 := (gi_c (-1) (-1) (by decide)).2; omega); rw [hcm1] at h9; exact h9); have qgv2 := gv2.1; have rgv2 := gv2.2; omega) hP hD hS (lv_sub hl [1, 2, 0] rfl)
      · have g_585 : gi v3 0 23 := gi_le_l (Int32.not_lt.mp c_582) gv3 gv2
        refine lv_iload_n hx hb dX9_countBehind_67 rfl (lv_at hl 2 rfl) ?_
        refine lv_iload_n hx hb dX9_countBehind_68 rfl (lv_at hl 3 rfl) ?_
        refine lv_iconst (v := 0) hx hb dX9_countBehind_69 (by decide) ?_
        have hPc := hP.sub (ws' := []) [] rfl
        have hKc := hK.sub (tys' := []) [] rfl
        refine va_calli (va_runSN (As := [.int v2, .int v3, .int 0]) (rest := []) ⟨hx, hb, hml, hown, hts⟩ (sX11_spot0 l dC dI v2 v3 0 (gi_w gv2 (by decide)) (gi_w g_585 (by decide)) (gi_c 0 0 (by decide))) (⟨va_cnB 3 hts (gz_gP mGA_582 goodGA) rfl rfl rfl (nzA_X9_63 hz) (hts _ (List.mem_cons_of_mem _ mGA_1)) (by decide +kernel) ⟨Nat.le_trans (Nat.le_of_ble_eq_true rfl) hRf, Nat.le_trans (Nat.le_of_ble_eq_true rfl) hRl⟩, (hts _ (List.mem_cons_of_mem _ mGA_581)), trivial⟩) ⟨fun a U g mk q => by obtain ⟨q0, qP, qK, qZ⟩ := q; exact ⟨q0, qP, va_K.moved (u := U) (U := U.calling g mk a) (Vm.Alike.refl U.vm) qK, nzA_same (u := U) (U := U.calling g mk a) rfl qZ⟩, fun U hU hW => ⟨rfl, by rw [hU]; exact hPc, va_K.moved hW.alike hKc, nzA_warm hW hz⟩⟩ rfl rfl hl.1 rfl (lv_room (Nat.le_of_ble_eq_true rfl)) dX9_countBehind_70 ⟨hRc, hRs⟩) hS (fun q _ h => h.elim) (fun q h => h.elim) (fun r_586 u t H1 locs ht hvm hw hB hz1 hk1 hS => ?_)
        have hP := gz_keep hP hk1
        generalize H1 = H at hP hS ⊢
        have gr_586 : gi r_586 0 3564 := hw
        refine lv_istore (lv' := [(4, .int r_586), (0, .ref h0), (1, .int v1), (2, .int v2), (3, .int v3)]) hx hb dX9_countBehind_73 hl (by decide) rfl (fun ls hl => ?_)
        refine lv_iload_n hx hb dX9_countBehind_75 rfl (lv_at hl 3 rfl) ?_
        have hPc := hP.sub (ws' := []) [] rfl
        have hKc := hK.sub (tys' := []) [] rfl
        refine va_calli (va_runSN (As := [.int v2]) (rest := []) ⟨hx, hb, hml, hown, hts⟩ (sX11_firstRun l dC dI v2 (gi_w gv2 (by decide))) (⟨va_cnB 1 hts (gz_gP mGA_504 goodGA) rfl rfl rfl (nzA_X9_67 hz) (hts _ (List.mem_cons_of_mem _ mGA_1)) (by decide +kernel) ⟨Nat.le_trans (Nat.le_of_ble_eq_true rfl) hRf, Nat.le_trans (Nat.le_of_ble_eq_true rfl) hRl⟩, (hts _ (List.mem_cons_of_mem _ mGA_503)), trivial⟩) ⟨fun a U g mk q => by obtain ⟨q0, qP, qK, qZ⟩ := q; exact ⟨q0, qP, va_K.moved (u := U) (U := U.calling g mk a) (Vm.Alike.refl U.vm) qK, nzA_same (u := U) (U := U.calling g mk a) rfl qZ⟩, fun U hU hW => ⟨rfl, by rw [hU]; exact hPc, va_K.moved hW.alike hKc, nzA_warm hW hz⟩⟩ rfl rfl hl.1 rfl (lv_room (Nat.le_of_ble_eq_true rfl)) dX9_countBehind_76 ⟨hRc, hRs⟩) hS (fun q _ h => h.elim) (fun q h => h.elim) (fun r_587 u t H1 locs ht hvm hw hB hz1 hk1 hS => ?_)
        have hP := gz_keep hP hk1
        generalize H1 = H at hP hS ⊢
        have gr_587 : gi r_587 0 1 := hw
        refine lv_istore (lv' := [(5, .int r_587), (4, .int r_586), (0, .ref h0), (1, .int v1), (2, .int v2), (3, .int v3)]) hx hb dX9_countBehind_79 hl (by decide) rfl (fun ls hl => ?_)
        exact ih.2.2.2 v1 v2 v3 r_586 r_587 z2 _ _ _ gv1 gv2 g_585 gr_586 (gi_w gr_587 (by decide)) (by have av2 := gv2.1; have bv2 := gv2.2; have av3 := gv3.1; have bv3 := gv3.2; have qgv3 := g_585.1; have rgv3 := g_585.2; have qgv2 := gv2.1; have rgv2 := gv2.2; have qgr_587 := gr_587.1; have rgr_587 := gr_587.2; omega) hP hD hS (lv_sub hl [2, 3, 4, 5, 1, 0] rfl)
    · intro v1 v2 v3 v4 v5 z2 H locs ls gv1 gv2 gv3 gv4 gv5 hmu hP hD hS hl
      refine lv_iload hx hb dX9_countBehind_81 (lv_at hl 5 rfl) ?_
      refine lv_iload_n hx hb dX9_countBehind_83 rfl (lv_at hl 2 rfl) ?_
      refine lv_aload_n hx hb dX9_countBehind_84 rfl (lv_at hl 0 rfl) ?_
      refine va_get (D := (dC, dI)) (ci := 9) (v := .int full) (C := RX9) (T := TX9) (N := 6) hx hb hts (fun w h => List.mem_cons_of_mem _ (jnGA_X9 w h)) hown hK hP 0 rfl rfl 4 (by decide) (hts _ (List.mem_cons_of_mem _ mGA_562)) (fun _ h9 => h9) rfl dX9_countBehind_85 ?_
      refine lv_aload_n hx hb dX9_countBehind_88 rfl (lv_at hl 0 rfl) ?_
      refine va_get (D := (dC, dI)) (ci := 9) (v := .int lean) (C := RX9) (T := TX9) (N := 6) hx hb hts (fun w h => List.mem_cons_of_mem _ (jnGA_X9 w h)) hown hK hP 0 rfl rfl 5 (by decide) (hts _ (List.mem_cons_of_mem _ mGA_564)) (fun _ h9 => h9) rfl dX9_countBehind_89 ?_
      have hPc := hP.sub (ws' := []) [] rfl
      have hKc := hK.sub (tys' := []) [] rfl
      refine va_calli (va_runSN (As := [.int v2, .int full, .int lean]) (rest := [.int v5]) ⟨hx, hb, hml, hown, hts⟩ (sX11_lastRun l dC dI v2 full lean (gi_w gv2 (by decide)) gfull glean) (⟨va_cnB 3 hts (gz_gP mGA_506 goodGA) rfl rfl rfl (nzA_X9_71 hz) (hts _ (List.mem_cons_of_mem _ mGA_1)) (by decide +kernel) ⟨Nat.le_trans (Nat.le_of_ble_eq_true rfl) hRf, Nat.le_trans (Nat.le_of_ble_eq_true rfl) hRl⟩, (hts _ (List.mem_cons_of_mem _ mGA_505)), trivial⟩) ⟨fun a U g mk q => by obtain ⟨q0, qP, qK, qZ⟩ := q; exact ⟨q0, qP, va_K.moved (u := U) (U := U.calling g mk a) (Vm.Alike.refl U.vm) qK, nzA_same (u := U) (U := U.calling g mk a) rfl qZ⟩, fun U hU hW => ⟨rfl, by rw [hU]; exact hPc, va_K.moved hW.alike hKc, nzA_warm hW hz⟩⟩ rfl rfl hl.1 rfl (lv_room (Nat.le_of_ble_eq_true rfl)) dX9_countBehind_92 ⟨hRc, hRs⟩) hS (fun q _ h => h.elim) (fun q h => h.elim) (fun r_588 u t H1 locs ht hvm hw hB hz1 hk1 hS => ?_)
      have hP := gz_keep hP hk1
      generalize H1 = H at hP hS ⊢
      have gr_588 : gi r_588 0 10 := hw
      refine lv_icmp_gt (tgt := 144) hx hb dX9_countBehind_95 (by decide) (fun c_589 => ?_) (fun c_589 => ?_)
      · have g_590 : gi v5 1 11 := gi_lt_r c_589 gr_588 gv5 (by decide)
        obtain ⟨x_591, ex_591⟩ : ∃ y : Int32, y = v3 + 1 := ⟨_, rfl⟩
        have gx_591 : gi x_591 1 24 := gi_add ex_591 gv3 (gi_c 1 1 (by decide)) (by decide)
        refine lv_iinc (v := x_591) (lv' := [(3, .int x_591), (0, .ref h0), (1, .int v1), (2, .int v2), (4, .int v4), (5, .int v5)]) hx hb dX9_countBehind_144 hl (k := 3) rfl (by rw [ex_591]; rfl) (by decide) rfl (fun ls hl => ?_)
        refine lv_goto (tgt := 62) hx hb dX9_countBehind_147 (by decide) ?_
        exact ih.2.2.1 v1 v2 x_591 z2 _ _ _ gv1 gv2 (gi_w gx_591 (by decide)) (by have av2 := gv2.1; have bv2 := gv2.2; have av3 := gv3.1; have bv3 := gv3.2; have av5 := gv5.1; have bv5 := gv5.2; have qgx_591 := gx_591.1; have rgx_591 := gx_591.2; have igx_591 : x_591.toInt = v3.toInt + 1 := (by have hc1 : (1 : Int32).toInt = 1 := (by decide); have h9 := gi_addI ex_591 (by have h1 := gv3.1; have h2 := (gi_c 1 1 (by decide)).1; have h3 := gv3.2; have h4 := (gi_c 1 1 (by decide)).2; omega) (by have h1 := gv3.1; have h2 := (gi_c 1 1 (by decide)).1; have h3 := gv3.2; have h4 := (gi_c 1 1 (by decide)).2; omega); rw [hc1] at h9; exact h9); have qgv3 := gv3.1; have rgv3 := gv3.2; have qgv2 := gv2.1; have rgv2 := gv2.2; omega) hP hD hS (lv_sub hl [1, 2, 3, 0] rfl)
      · have g_592 : gi v5 0 10 := gi_le_l (Int32.not_lt.mp c_589) gv5 gr_588
        refine lv_aload_n hx hb dX9_countBehind_98 rfl (lv_at hl 0 rfl) ?_
        refine va_get (D := (dC, dI)) (ci := 9) (v := .ref bf) (C := RX9) (T := TX9) (N := 6) hx hb hts (fun w h => List.mem_cons_of_mem _ (jnGA_X9 w h)) hown hK hP 0 rfl rfl 0 (by decide) (hts _ (List.mem_cons_of_mem _ mGA_111)) (fun _ h9 => h9) rfl dX9_countBehind_99 ?_
        refine lv_iload hx hb dX9_countBehind_102 (lv_at hl 4 rfl) ?_
        refine lv_iload hx hb dX9_countBehind_104 (lv_at hl 5 rfl) ?_
        refine lv_iadd hx hb dX9_countBehind_106 ?_
        refine lv_topi (fun x_593 ex_593 => ?_)
        have gx_593 : gi x_593 0 3574 := gi_add ex_593 gv4 g_592 (by decide)
        refine va_iald hx hb hK hP 1 0 rfl rfl (gi_in gx_593 (by decide)) dX9_countBehind_107 ?_
        refine lv_topi (fun x_594 ex_594 => ?_)
        refine lv_if_le (tgt := 138) hx hb dX9_countBehind_108 (by decide) (fun c_595 => ?_) (fun c_595 => ?_)
        · have g_596 : gi x_594 (-2147483648) 0 := gi_le_l c_595 (gi_any x_594) (gi_c 0 0 (by decide))
          obtain ⟨x_597, ex_597⟩ : ∃ y : Int32, y = v5 + 1 := ⟨_, rfl⟩
          have gx_597 : gi x_597 1 11 := gi_add ex_597 g_592 (gi_c 1 1 (by decide)) (by decide)
          refine lv_iinc (v := x_597) (lv' := [(5, .int x_597), (0, .ref h0), (1, .int v1), (2, .int v2), (3, .int v3), (4, .int v4)]) hx hb dX9_countBehind_138 hl (k := 5) rfl (by rw [ex_597]; rfl) (by decide) rfl (fun ls hl => ?_)
          refine lv_goto (tgt := 81) hx hb dX9_countBehind_141 (by decide) ?_
          exact ih.2.2.2 v1 v2 v3 v4 x_597 z2 _ _ _ gv1 gv2 gv3 gv4 (gi_w gx_597 (by decide)) (by have av2 := gv2.1; have bv2 := gv2.2; have av3 := gv3.1; have bv3 := gv3.2; have av5 := gv5.1; have bv5 := gv5.2; have qgx_597 := gx_597.1; have rgx_597 := gx_597.2; have igx_597 : x_597.toInt = v5.toInt + 1 := (by have hc1 : (1 : Int32).toInt = 1 := (by decide); have h9 := gi_addI ex_597 (by have h1 := g_592.1; have h2 := (gi_c 1 1 (by decide)).1; have h3 := g_592.2; have h4 := (gi_c 1 1 (by decide)).2; omega) (by have h1 := g_592.1; have h2 := (gi_c 1 1 (by decide)).1; have h3 := g_592.2; have h4 := (gi_c 1 1 (by decide)).2; omega); rw [hc1] at h9; exact h9); have qgv5 := g_592.1; have rgv5 := g_592.2; have qgv3 := gv3.1; have rgv3 := gv3.2; have qgv2 := gv2.1; have rgv2 := gv2.2; omega) hP hD hS (lv_sub hl [1, 2, 3, 4, 5, 0] rfl)
        · have g_598 : gi x_594 1 2147483647 := gi_lt_r (Int32.not_le.mp c_595) (gi_c 0 0 (by decide)) (gi_any x_594) (by decide)
          refine lv_aload_n hx hb dX9_countBehind_111 rfl (lv_at hl 0 rfl) ?_
          refine va_get (D := (dC, dI)) (ci := 9) (v := .ref bh) (C := RX9) (T := TX9) (N := 6) hx hb hts (fun w h => List.mem_cons_of_mem _ (jnGA_X9 w h)) hown hK hP 0 rfl rfl 1 (by decide) (hts _ (List.mem_cons_of_mem _ mGA_112)) (fun _ h9 => h9) rfl dX9_countBehind_112 ?_
          refine lv_iload hx hb dX9_countBehind_115 (lv_at hl 4 rfl) ?_
          refine lv_iload hx hb dX9_countBehind_117 (lv_at hl 5 rfl) ?_
          refine lv_iadd hx hb dX9_countBehind_119 ?_
          refine lv_topi (fun x_599 ex_599 => ?_)
          have gx_599 : gi x_599 0 3574 := gi_add ex_599 gv4 g_592 (by decide)
          refine lv_aload_n hx hb dX9_countBehind_120 rfl (lv_at hl 0 rfl) ?_
          refine lv_iload_n hx hb dX9_countBehind_121 rfl (lv_at hl 2 rfl) ?_
          refine lv_iload_n hx hb dX9_countBehind_122 rfl (lv_at hl 3 rfl) ?_
          refine lv_iload hx hb dX9_countBehind_123 (lv_at hl 5 rfl) ?_
          have hPc := hP.sub (ws' := [(h0, .inr (9, [.ref bf, .ref bh, .ref sa, .int months, .int full, .int lean])), (bh, .inl (kbh, 3575, .inl z2))]) [0, 2] rfl
          have hKc := hK.sub (tys' := [(kbh, .int)]) [1] rfl
          refine va_calli (va_runV (As := [.int v2, .int v3, .int v5]) (rest := [.int x_599, .ref bh]) ⟨hx, hb, hml, hown, hts⟩ (sX9_withFull l dC dI h0 bh bf sa months full lean kbh z2 v2 v3 v5 gmonths gfull glean gv2 gv3 g_592) (cwV 3 hts (gz_gV mGA_595 mGA_596 mGA_597 mGA_27 mGA_598 goodGA) rfl rfl rfl (by decide +kernel) ⟨Nat.le_trans (Nat.le_of_ble_eq_true rfl) hRf, Nat.le_trans (Nat.le_of_ble_eq_true rfl) hRl⟩) ⟨fun a U g mk q => by obtain ⟨q0, qP, qK, qZ⟩ := q; exact ⟨q0, qP, va_K.moved (u := U) (U := U.calling g mk a) (Vm.Alike.refl U.vm) qK, nzA_same (u := U) (U := U.calling g mk a) rfl qZ⟩, va_recv hKc hPc (ci := 9) (q0 := 0) rfl rfl, fun U hU hW => ⟨rfl, by rw [hU]; exact hPc, va_K.moved hW.alike hKc, nzA_warm hW hz⟩⟩ rfl rfl hl.1 rfl (lv_room (Nat.le_of_ble_eq_true rfl)) dX9_countBehind_125 ⟨hRc, hRs⟩) hS (fun q _ h => h.elim) (fun q h => h.elim) (fun r_600 u t H1 locs ht hvm hw hB hz1 hk1 hS => ?_)
          have hP := gz_keep hP hk1
          generalize H1 = H at hP hS ⊢
          refine lv_aload_n hx hb dX9_countBehind_128 rfl (lv_at hl 0 rfl) ?_
          refine lv_iload_n hx hb dX9_countBehind_129 rfl (lv_at hl 2 rfl) ?_
          refine lv_iload_n hx hb dX9_countBehind_130 rfl (lv_at hl 3 rfl) ?_
          refine lv_iload hx hb dX9_countBehind_131 (lv_at hl 5 rfl) ?_
          have hPc := hP.sub (ws' := [(h0, .inr (9, [.ref bf, .ref bh, .ref sa, .int months, .int full, .int lean])), (bh, .inl (kbh, 3575, .inl z2))]) [0, 2] rfl
          have hKc := hK.sub (tys' := [(kbh, .int)]) [1] rfl
          refine va_calli (va_runV (As := [.int v2, .int v3, .int v5]) (rest := [.int r_600, .int x_599, .ref bh]) ⟨hx, hb, hml, hown, hts⟩ (sX9_withLean l dC dI h0 bh bf sa months full lean kbh z2 v2 v3 v5 gmonths gfull glean gv2 (gi_w gv3 (by decide)) g_592) (cwV 3 hts (gz_gV mGA_599 mGA_600 mGA_601 mGA_27 mGA_602 goodGA) rfl rfl rfl (by decide +kernel) ⟨Nat.le_trans (Nat.le_of_ble_eq_true rfl) hRf, Nat.le_trans (Nat.le_of_ble_eq_true rfl) hRl⟩) ⟨fun a U g mk q => by obtain ⟨q0, qP, qK, qZ⟩ := q; exact ⟨q0, qP, va_K.moved (u := U) (U := U.calling g mk a) (Vm.Alike.refl U.vm) qK, nzA_same (u := U) (U := U.calling g mk a) rfl qZ⟩, va_recv hKc hPc (ci := 9) (q0 := 0) rfl rfl, fun U hU hW => ⟨rfl, by rw [hU]; exact hPc, va_K.moved hW.alike hKc, nzA_warm hW hz⟩⟩ rfl rfl hl.1 rfl (lv_room (Nat.le_of_ble_eq_true rfl)) dX9_countBehind_133 ⟨hRc, hRs⟩) hS (fun q _ h => h.elim) (fun q h => h.elim) (fun r_601 u t H1 locs ht hvm hw hB hz1 hk1 hS => ?_)
          have hP := gz_keep hP hk1
          generalize H1 = H at hP hS ⊢
          refine lv_iadd hx hb dX9_countBehind_136 ?_
          refine lv_topi (fun x_602 ex_602 => ?_)
          refine va_iast hx hb hK hP hD hS 2 1 rfl rfl (gi_in gx_599 (by decide)) dX9_countBehind_137 (fun H locs hP hD hS => ?_)
          have hP : va_P (dC, dI) vwCl [(h0, .inr (9, [.ref bf, .ref bh, .ref sa, .int months, .int full, .int lean])), (bf, .inl (kbf, 3575, .inl fbf)), (bh, .inl (kbh, 3575, .inl (upd z2 (x_599 : Int32).toNatClampNeg x_602)))] H := hP
          have hD : va_D A [(h0, .inr (9, [.ref bf, .ref bh, .ref sa, .int months, .int full, .int lean])), (bf, .inl (kbf, 3575, .inl fbf)), (bh, .inl (kbh, 3575, .inl (upd z2 (x_599 : Int32).toNatClampNeg x_602)))] := hD
          generalize upd z2 (x_599 : Int32).toNatClampNeg x_602 = f_603 at hP hD
          obtain ⟨x_604, ex_604⟩ : ∃ y : Int32, y = v5 + 1 := ⟨_, rfl⟩
          have gx_604 : gi x_604 1 11 := gi_add ex_604 g_592 (gi_c 1 1 (by decide)) (by decide)
          refine lv_iinc (v := x_604) (lv' := [(5, .int x_604), (0, .ref h0), (1, .int v1), (2, .int v2), (3, .int v3), (4, .int v4)]) hx hb dX9_countBehind_138 hl (k := 5) rfl (by rw [ex_604]; rfl) (by decide) rfl (fun ls hl => ?_)
          refine lv_goto (tgt := 81) hx hb dX9_countBehind_141 (by decide) ?_
          exact ih.2.2.2 v1 v2 v3 v4 x_604 f_603 _ _ _ gv1 gv2 gv3 gv4 (gi_w gx_604 (by decide)) (by have av2 := gv2.1; have bv2 := gv2.2; have av3 := gv3.1; have bv3 := gv3.2; have av5 := gv5.1; have bv5 := gv5.2; have qgx_604 := gx_604.1; have rgx_604 := gx_604.2; have igx_604 : x_604.toInt = v5.toInt + 1 := (by have hc1 : (1 : Int32).toInt = 1 := (by decide); have h9 := gi_addI ex_604 (by have h1 := g_592.1; have h2 := (gi_c 1 1 (by decide)).1; have h3 := g_592.2; have h4 := (gi_c 1 1 (by decide)).2; omega) (by have h1 := g_592.1; have h2 := (gi_c 1 1 (by decide)).1; have h3 := g_592.2; have h4 := (gi_c 1 1 (by decide)).2; omega); rw [hc1] at h9; exact h9); have qgv5 := g_592.1; have rgv5 := g_592.2; have qgv3 := gv3.1; have rgv3 := gv3.2; have qgv2 := gv2.1; have rgv2 := gv2.2; omega) hP hD hS (lv_sub hl [1, 2, 3, 4, 5, 0] rfl)
set_option maxHeartbeats 4000000 in
set_option maxRecDepth 100000 in
theorem sX9_countBehind (l : Launch) (dC : Nat → ClassId) (dI : Nat → Nat → Nat) (sz : Nat) (h0 : Nat) (bf : Nat) (bh : Nat) (sa : Nat) (months : Int32) (full : Int32) (lean : Int32) (kbf : ClassId) (fbf : Nat → Int32) (kbh : ClassId) (fbh : Nat → Int32) (gmonths : gi months 0 24) (gfull : gi full 0 5) (glean : gi lean 0 5) : Met l yX9_countBehind (.code yX9_countBehind cX9_countBehind 6 none :: wsGA) ({ frames := 3, cells := 0, slots := 0, locals := 66 }) (va_Pc [.ref h0] (fun U => U.heap.size = sz ∧ va_P (dC, dI) vwCl [(h0, .inr (9, [.ref bf, .ref bh, .ref sa, .int months, .int full, .int lean])), (bf, .inl (kbf, 3575, .inl fbf)), (bh, .inl (kbh, 3575, .inl fbh))] U.heap ∧ va_K (dC, dI) vwCl [(kbf, .int), (kbh, .int)] U ∧ va_D (fun _ => True) [(h0, .inr (9, [.ref bf, .ref bh, .ref sa, .int months, .int full, .int lean])), (bf, .inl (kbf, 3575, .inl fbf)), (bh, .inl (kbh, 3575, .inl fbh))] ∧ nzA U)) (va_Qv (fun (u : Unit) => True) (fun _ t => ∃ (z2 : Nat → Int32), va_P (dC, dI) vwCl [(h0, .inr (9, [.ref bf, .ref bh, .ref sa, .int months, .int full, .int lean])), (bf, .inl (kbf, 3575, .inl fbf)), (bh, .inl (kbh, 3575, .inl z2))] t.heap ∧ va_D (va_A [(h0, .inr (9, [.ref bf, .ref bh, .ref sa, .int months, .int full, .int lean])), (bf, .inl (kbf, 3575, .inl fbf)), (bh, .inl (kbh, 3575, .inl fbh))] sz) [(h0, .inr (9, [.ref bf, .ref bh, .ref sa, .int months, .int full, .int lean])), (bf, .inl (kbf, 3575, .inl fbf)), (bh, .inl (kbh, 3575, .inl z2))]) (va_A [(h0, .inr (9, [.ref bf, .ref bh, .ref sa, .int months, .int full, .int lean])), (bf, .inl (kbf, 3575, .inl fbf)), (bh, .inl (kbh, 3575, .inl fbh))] sz)) 0 0 (va_A [(h0, .inr (9, [.ref bf, .ref bh, .ref sa, .int months, .int full, .int lean])), (bf, .inl (kbf, 3575, .inl fbf)), (bh, .inl (kbh, 3575, .inl fbh))] sz) := by
  refine Met.ofW (cc := cX9_countBehind) (maxL := 6) (ret := none) (by decide) rfl ?_
  intro p e s m args below meth c s₁ B hml hv
  obtain ⟨rfl, hsz, hP, hK, hD0, hz⟩ := hv
  have hx := B.exec
  have hb := B.bytes
  have hr := B.returns
  have hts := atoms_spec (ws := (.code yX9_countBehind cX9_countBehind 6 none :: wsGA)) B.pre
  have hown : s.vm.findClass RX9 = some m.cls := findClass_of_methodNamed B.named
  have hlocks := B.notSynchronized
  subst hsz
  have hD := hD0.self (sz := s.heap.size)
  generalize hAe : va_A [(h0, .inr (9, [.ref bf, .ref bh, .ref sa, .int months, .int full, .int lean])), (bf, .inl (kbf, 3575, .inl fbf)), (bh, .inl (kbh, 3575, .inl fbh))] s.heap.size = A at hD ⊢
  have hA : ∀ q : Nat, s.heap.size ≤ q → A q := fun q h => by rw [← hAe]; exact Or.inr h
  have hS : va_S A s.heap s.heap [] := va_S.rf
  have hl := lv_entry ([.ref h0]) (n := 6) (Nat.le_of_ble_eq_true rfl)
  rw [lg_entry_eq]
  generalize (lg_sl ([.ref h0]) ++ List.replicate (6 - (lg_sl ([.ref h0])).length) Slot.unset).toArray = ls at hl ⊢
  have hl : lv_has ls 6 [(0, .ref h0)] := hl
  refine lv_aload_n hx hb dX9_countBehind_0 rfl (lv_at hl 0 rfl) ?_
  refine va_get (D := (dC, dI)) (ci := 9) (v := .int months) (C := RX9) (T := TX9) (N := 6) hx hb hts (fun w h => List.mem_cons_of_mem _ (jnGA_X9 w h)) hown hK hP 0 rfl rfl 3 (by decide) (hts _ (List.mem_cons_of_mem _ mGA_560)) (fun _ h9 => h9) rfl dX9_countBehind_1 ?_
  refine lv_iconst (v := 0) hx hb dX9_countBehind_4 (by decide) ?_
  refine lv_iconst (v := 0) hx hb dX9_countBehind_5 (by decide) ?_
  have hPc := hP.sub (ws' := []) [] rfl
  have hKc := hK.sub (tys' := []) [] rfl
  refine va_calli (va_runSN (As := [.int months, .int 0, .int 0]) (rest := []) ⟨hx, hb, hml, hown, hts⟩ (sX11_spot00 l dC dI months 0 0 gmonths (gi_c 0 0 (by decide)) (gi_c 0 0 (by decide))) (⟨va_cnB 3 hts (gz_gP mGA_582 goodGA) rfl rfl rfl (nzA_X9_63 hz) (hts _ (List.mem_cons_of_mem _ mGA_1)) (by decide +kernel) ⟨Nat.le_of_ble_eq_true rfl, Nat.le_of_ble_eq_true rfl⟩, (hts _ (List.mem_cons_of_mem _ mGA_581)), trivial⟩) ⟨fun a U g mk q => by obtain ⟨q0, qP, qK, qZ⟩ := q; exact ⟨q0, qP, va_K.moved (u := U) (U := U.calling g mk a) (Vm.Alike.refl U.vm) qK, nzA_same (u := U) (U := U.calling g mk a) rfl qZ⟩, fun U hU hW => ⟨rfl, by rw [hU]; exact hPc, va_K.moved hW.alike hKc, nzA_warm hW hz⟩⟩ rfl rfl hl.1 rfl (lv_room (Nat.le_of_ble_eq_true rfl)) dX9_countBehind_6 ⟨Nat.zero_le _, Nat.zero_le _⟩) hS (fun q _ h => h.elim) (fun q h => h.elim) (fun r_605 u t H1 locs ht hvm hw hB hz1 hk1 hS => ?_)
  have hP := gz_keep hP hk1
  generalize H1 = H at hP hS ⊢
  have gr_605 : gi r_605 0 3300 := hw
  refine lv_istore_n (lv' := [(1, .int r_605), (0, .ref h0)]) hx hb dX9_countBehind_9 rfl hl (by decide) rfl (fun ls hl => ?_)
  refine lv_iload_n hx hb dX9_countBehind_10 rfl (lv_at hl 0 rfl) ?_
  refine lv_istore_n (lv' := [(2, .int r_605), (1, .int r_605), (0, .ref h0)]) hx hb dX9_countBehind_11 rfl hl (by decide) rfl (fun ls hl => ?_)
  refine (lp_sX9_countBehind h0 bf bh sa months full lean kbf fbf kbh fbh gmonths gfull glean hx hb hml hown hts hK hz hA (Nat.le_of_ble_eq_true rfl) (Nat.le_of_ble_eq_true rfl) (Nat.zero_le _) (Nat.zero_le _) (fun z2 H locs ls hP hD hS hl => ?_) 26144).1 r_605 r_605 fbh _ _ _ gr_605 (gi_w gr_605 (by decide)) (by have qgr_605 := gr_605.1; have rgr_605 := gr_605.2; omega) hP hD hS (lv_sub hl [2, 1, 0] rfl)
  · skip
    exact W.vret hx hb hr (fun t ht hW => ⟨⟨(), rfl, trivial, z2, by rw [ht]; exact hP, hD⟩, hS.F ht⟩) hS.2.2 dX9_countBehind_156
theorem dX9_fill_0 : decode cX9_fill 0 = .ok (.aload_n 0, 1) := by decide +kernel
theorem dX9_fill_1 : decode cX9_fill 1 = .ok (.aload_n 1, 1) := by decide +kernel
theorem dX9_fill_2 : decode cX9_fill 2 = .ok (.getfield 21, 3) := by decide +kernel
theorem dX9_fill_5 : decode cX9_fill 5 = .ok (.putfield 27, 3) := by decide +kernel
theorem dX9_fill_8 : decode cX9_fill 8 = .ok (.aload_n 0, 1) := by decide +kernel
theorem dX9_fill_9 : decode cX9_fill 9 = .ok (.aload_n 1, 1) := by decide +kernel
theorem dX9_fill_10 : decode cX9_fill 10 = .ok (.getfield 28, 3) := by decide +kernel
theorem dX9_fill_13 : decode cX9_fill 13 = .ok (.putfield 31, 3) := by decide +kernel
theorem dX9_fill_16 : decode cX9_fill 16 = .ok (.aload_n 0, 1) := by decide +kernel
theorem dX9_fill_17 : decode cX9_fill 17 = .ok (.aload_n 1, 1) := by decide +kernel
theorem dX9_fill_18 : decode cX9_fill 18 = .ok (.getfield 32, 3) := by decide +kernel
theorem dX9_fill_21 : decode cX9_fill 21 = .ok (.putfield 35, 3) := by decide +kernel
theorem dX9_fill_24 : decode cX9_fill 24 = .ok (.aload_n 0, 1) := by decide +kernel
theorem dX9_fill_25 : decode cX9_fill 25 = .ok (.getfield 9, 3) := by decide +kernel
theorem dX9_fill_28 : decode cX9_fill 28 = .ok (.iconst 0, 1) := by decide +kernel
theorem dX9_fill_29 : decode cX9_fill 29 = .ok (.invokestatic 36, 3) := by decide +kernel
theorem dX9_fill_32 : decode cX9_fill 32 = .ok (.aload_n 0, 1) := by decide +kernel
theorem dX9_fill_33 : decode cX9_fill 33 = .ok (.getfield 15, 3) := by decide +kernel
theorem dX9_fill_36 : decode cX9_fill 36 = .ok (.iconst 0, 1) := by decide +kernel
theorem dX9_fill_37 : decode cX9_fill 37 = .ok (.invokestatic 36, 3) := by decide +kernel
theorem dX9_fill_40 : decode cX9_fill 40 = .ok (.aload_n 0, 1) := by decide +kernel
theorem dX9_fill_41 : decode cX9_fill 41 = .ok (.aload_n 1, 1) := by decide +kernel
theorem dX9_fill_42 : decode cX9_fill 42 = .ok (.invokevirtual 42, 3) := by decide +kernel
theorem dX9_fill_45 : decode cX9_fill 45 = .ok (.aload_n 0, 1) := by decide +kernel
theorem dX9_fill_46 : decode cX9_fill 46 = .ok (.invokevirtual 46, 3) := by decide +kernel
theorem dX9_fill_49 : decode cX9_fill 49 = .ok (.aload_n 0, 1) := by decide +kernel
theorem dX9_fill_50 : decode cX9_fill 50 = .ok (.invokevirtual 49, 3) := by decide +kernel
theorem dX9_fill_53 : decode cX9_fill 53 = .ok (.return_, 1) := by decide +kernel
set_option maxHeartbeats 4000000 in
set_option maxRecDepth 100000 in
theorem sX9_fill (l : Launch) (dC : Nat → ClassId) (dI : Nat → Nat → Nat) (sz : Nat) (h0 : Nat) (bf : Nat) (bh : Nat) (sa : Nat) (fr : Nat) (fral : Nat) (months : Int32) (full : Int32) (lean : Int32) (kbf : ClassId) (fbf : Nat → Int32) (kbh : ClassId) (fbh : Nat → Int32) (ksa : ClassId) (fsa : Nat → Int32) (frmonths : Int32) (frfull : Int32) (frlean : Int32) (fron : Nat) (kfral : ClassId) (ffral : Nat → Int32) (gmonths : gi months 0 24) (gfull : gi full 0 5) (glean : gi lean 0 5) (gfrmonths : gi frmonths 0 24) (gfrfull : gi frfull 0 5) (gfrlean : gi frlean 0 5) : Met l yX9_fill (.code yX9_fill cX9_fill 2 none :: wsGA) ({ frames := 4, cells := 0, slots := 0, locals := 92 }) (va_Pc [.ref h0, .ref fr] (fun U => U.heap.size = sz ∧ va_P (dC, dI) vwCl [(h0, .inr (9, [.ref bf, .ref bh, .ref sa, .int months, .int full, .int lean])), (bf, .inl (kbf, 3575, .inl fbf)), (bh, .inl (kbh, 3575, .inl fbh)), (sa, .inl (ksa, 325, .inl fsa)), (fr, .inr (3, [.int frmonths, .int frfull, .int frlean, .ref fral, .ref fron])), (fral, .inl (kfral, 25, .inl ffral))] U.heap ∧ va_K (dC, dI) vwCl [(kbf, .int), (kbh, .int), (ksa, .int), (kfral, .int)] U ∧ va_D (fun _ => True) [(h0, .inr (9, [.ref bf, .ref bh, .ref sa, .int months, .int full, .int lean])), (bf, .inl (kbf, 3575, .inl fbf)), (bh, .inl (kbh, 3575, .inl fbh)), (sa, .inl (ksa, 325, .inl fsa)), (fr, .inr (3, [.int frmonths, .int frfull, .int frlean, .ref fral, .ref fron])), (fral, .inl (kfral, 25, .inl ffral))] ∧ nzA U)) (va_Qv (fun (u : Unit) => True) (fun _ t => ∃ (w0_3 : Int32) (w0_4 : Int32) (w0_5 : Int32) (z1 : Nat → Int32) (z2 : Nat → Int32) (z3 : Nat → Int32), gi w0_3 0 24 ∧ gi w0_4 0 5 ∧ gi w0_5 0 5 ∧ va_P (dC, dI) vwCl [(h0, .inr (9, [.ref bf, .ref bh, .ref sa, .int w0_3, .int w0_4, .int w0_5])), (bf, .inl (kbf, 3575, .inl z1)), (bh, .inl (kbh, 3575, .inl z2)), (sa, .inl (ksa, 325, .inl z3)), (fr, .inr (3, [.int frmonths, .int frfull, .int frlean, .ref fral, .ref fron])), (fral, .inl (kfral, 25, .inl ffral))] t.heap ∧ va_D (va_A [(h0, .inr (9, [.ref bf, .ref bh, .ref sa, .int months, .int full, .int lean])), (bf, .inl (kbf, 3575, .inl fbf)), (bh, .inl (kbh, 3575, .inl fbh)), (sa, .inl (ksa, 325, .inl fsa)), (fr, .inr (3, [.int frmonths, .int frfull, .int frlean, .ref fral, .ref fron])), (fral, .inl (kfral, 25, .inl ffral))] sz) [(h0, .inr (9, [.ref bf, .ref bh, .ref sa, .int w0_3, .int w0_4, .int w0_5])), (bf, .inl (kbf, 3575, .inl z1)), (bh, .inl (kbh, 3575, .inl z2)), (sa, .inl (ksa, 325, .inl z3)), (fr, .inr (3, [.int frmonths, .int frfull, .int frlean, .ref fral, .ref fron])), (fral, .inl (kfral, 25, .inl ffral))]) (va_A [(h0, .inr (9, [.ref bf, .ref bh, .ref sa, .int months, .int full, .int lean])), (bf, .inl (kbf, 3575, .inl fbf)), (bh, .inl (kbh, 3575, .inl fbh)), (sa, .inl (ksa, 325, .inl fsa)), (fr, .inr (3, [.int frmonths, .int frfull, .int frlean, .ref fral, .ref fron])), (fral, .inl (kfral, 25, .inl ffral))] sz)) 0 0 (va_A [(h0, .inr (9, [.ref bf, .ref bh, .ref sa, .int months, .int full, .int lean])), (bf, .inl (kbf, 3575, .inl fbf)), (bh, .inl (kbh, 3575, .inl fbh)), (sa, .inl (ksa, 325, .inl fsa)), (fr, .inr (3, [.int frmonths, .int frfull, .int frlean, .ref fral, .ref fron])), (fral, .inl (kfral, 25, .inl ffral))] sz) := by
  refine Met.ofW (cc := cX9_fill) (maxL := 2) (ret := none) (by decide) rfl ?_
  intro p e s m args below meth c s₁ B hml hv
  obtain ⟨rfl, hsz, hP, hK, hD0, hz⟩ := hv
  have hx := B.exec
  have hb := B.bytes
  have hr := B.returns
  have hts := atoms_spec (ws := (.code yX9_fill cX9_fill 2 none :: wsGA)) B.pre
  have hown : s.vm.findClass RX9 = some m.cls := findClass_of_methodNamed B.named
  have hlocks := B.notSynchronized
  subst hsz
  have hD := hD0.self (sz := s.heap.size)
  generalize hAe : va_A [(h0, .inr (9, [.ref bf, .ref bh, .ref sa, .int months, .int full, .int lean])), (bf, .inl (kbf, 3575, .inl fbf)), (bh, .inl (kbh, 3575, .inl fbh)), (sa, .inl (ksa, 325, .inl fsa)), (fr, .inr (3, [.int frmonths, .int frfull, .int frlean, .ref fral, .ref fron])), (fral, .inl (kfral, 25, .inl ffral))] s.heap.size = A at hD ⊢
  have hA : ∀ q : Nat, s.heap.size ≤ q → A q := fun q h => by rw [← hAe]; exact Or.inr h
  have hS : va_S A s.heap s.heap [] := va_S.rf
  have hl := lv_entry ([.ref h0, .ref fr]) (n := 2) (Nat.le_of_ble_eq_true rfl)
  rw [lg_entry_eq]
  generalize (lg_sl ([.ref h0, .ref fr]) ++ List.replicate (2 - (lg_sl ([.ref h0, .ref fr])).length) Slot.unset).toArray = ls at hl ⊢
  have hl : lv_has ls 2 [(0, .ref h0), (1, .ref fr)] := hl
  refine lv_aload_n hx hb dX9_fill_0 rfl (lv_at hl 0 rfl) ?_
  refine lv_aload_n hx hb dX9_fill_1 rfl (lv_at hl 1 rfl) ?_
  refine va_get (D := (dC, dI)) (ci := 3) (v := .int frmonths) (C := RX3) (T := TX3) (N := 5) hx hb hts (fun w h => List.mem_cons_of_mem _ (jnGA_X3 w h)) hown hK hP 4 rfl rfl 0 (by decide) (hts _ (List.mem_cons_of_mem _ mGA_559)) (fun _ h9 => h9) rfl dX9_fill_2 ?_
  refine va_put (D := (dC, dI)) (ci := 9) (v := .int frmonths) (ty := .int) (C := RX9) (T := TX9) (N := 6) hx hb hts (fun w h => List.mem_cons_of_mem _ (jnGA_X9 w h)) tyX9 tyX9_ok nmX9 hown hK hP hD hS 0 rfl rfl 3 (by decide) (hts _ (List.mem_cons_of_mem _ mGA_560)) (fun _ h9 => h9) rfl (by decide +kernel) rfl rfl (Nat.le_of_ble_eq_true rfl) dX9_fill_5 (fun H locs hP hD hS => ?_)
  have hP : va_P (dC, dI) vwCl [(h0, .inr (9, [.ref bf, .ref bh, .ref sa, .int frmonths, .int full, .int lean])), (bf, .inl (kbf, 3575, .inl fbf)), (bh, .inl (kbh, 3575, .inl fbh)), (sa, .inl (ksa, 325, .inl fsa)), (fr, .inr (3, [.int frmonths, .int frfull, .int frlean, .ref fral, .ref fron])), (fral, .inl (kfral, 25, .inl ffral))] H := hP
  have hD : va_D A [(h0, .inr (9, [.ref bf, .ref bh, .ref sa, .int frmonths, .int full, .int lean])), (bf, .inl (kbf, 3575, .inl fbf)), (bh, .inl (kbh, 3575, .inl fbh)), (sa, .inl (ksa, 325, .inl fsa)), (fr, .inr (3, [.int frmonths, .int frfull, .int frlean, .ref fral, .ref fron])), (fral, .inl (kfral, 25, .inl ffral))] := hD
  refine lv_aload_n hx hb dX9_fill_8 rfl (lv_at hl 0 rfl) ?_
  refine lv_aload_n hx hb dX9_fill_9 rfl (lv_at hl 1 rfl) ?_
  refine va_get (D := (dC, dI)) (ci := 3) (v := .int frfull) (C := RX3) (T := TX3) (N := 5) hx hb hts (fun w h => List.mem_cons_of_mem _ (jnGA_X3 w h)) hown hK hP 4 rfl rfl 1 (by decide) (hts _ (List.mem_cons_of_mem _ mGA_561)) (fun _ h9 => h9) rfl dX9_fill_10 ?_
  refine va_put (D := (dC, dI)) (ci := 9) (v := .int frfull) (ty := .int) (C := RX9) (T := TX9) (N := 6) hx hb hts (fun w h => List.mem_cons_of_mem _ (jnGA_X9 w h)) tyX9 tyX9_ok nmX9 hown hK hP hD hS 0 rfl rfl 4 (by decide) (hts _ (List.mem_cons_of_mem _ mGA_562)) (fun _ h9 => h9) rfl (by decide +kernel) rfl rfl (Nat.le_of_ble_eq_true rfl) dX9_fill_13 (fun H locs hP hD hS => ?_)
  have hP : va_P (dC, dI) vwCl [(h0, .inr (9, [.ref bf, .ref bh, .ref sa, .int frmonths, .int frfull, .int lean])), (bf, .inl (kbf, 3575, .inl fbf)), (bh, .inl (kbh, 3575, .inl fbh)), (sa, .inl (ksa, 325, .inl fsa)), (fr, .inr (3, [.int frmonths, .int frfull, .int frlean, .ref fral, .ref fron])), (fral, .inl (kfral, 25, .inl ffral))] H := hP
  have hD : va_D A [(h0, .inr (9, [.ref bf, .ref bh, .ref sa, .int frmonths, .int frfull, .int lean])), (bf, .inl (kbf, 3575, .inl fbf)), (bh, .inl (kbh, 3575, .inl fbh)), (sa, .inl (ksa, 325, .inl fsa)), (fr, .inr (3, [.int frmonths, .int frfull, .int frlean, .ref fral, .ref fron])), (fral, .inl (kfral, 25, .inl ffral))] := hD
  refine lv_aload_n hx hb dX9_fill_16 rfl (lv_at hl 0 rfl) ?_
  refine lv_aload_n hx hb dX9_fill_17 rfl (lv_at hl 1 rfl) ?_
  refine va_get (D := (dC, dI)) (ci := 3) (v := .int frlean) (C := RX3) (T := TX3) (N := 5) hx hb hts (fun w h => List.mem_cons_of_mem _ (jnGA_X3 w h)) hown hK hP 4 rfl rfl 2 (by decide) (hts _ (List.mem_cons_of_mem _ mGA_563)) (fun _ h9 => h9) rfl dX9_fill_18 ?_
  refine va_put (D := (dC, dI)) (ci := 9) (v := .int frlean) (ty := .int) (C := RX9) (T := TX9) (N := 6) hx hb hts (fun w h => List.mem_cons_of_mem _ (jnGA_X9 w h)) tyX9 tyX9_ok nmX9 hown hK hP hD hS 0 rfl rfl 5 (by decide) (hts _ (List.mem_cons_of_mem _ mGA_564)) (fun _ h9 => h9) rfl (by decide +kernel) rfl rfl (Nat.le_of_ble_eq_true rfl) dX9_fill_21 (fun H locs hP hD hS => ?_)
  have hP : va_P (dC, dI) vwCl [(h0, .inr (9, [.ref bf, .ref bh, .ref sa, .int frmonths, .int frfull, .int frlean])), (bf, .inl (kbf, 3575, .inl fbf)), (bh, .inl (kbh, 3575, .inl fbh)), (sa, .inl (ksa, 325, .inl fsa)), (fr, .inr (3, [.int frmonths, .int frfull, .int frlean, .ref fral, .ref fron])), (fral, .inl (kfral, 25, .inl ffral))] H := hP
  have hD : va_D A [(h0, .inr (9, [.ref bf, .ref bh, .ref sa, .int frmonths, .int frfull, .int frlean])), (bf, .inl (kbf, 3575, .inl fbf)), (bh, .inl (kbh, 3575, .inl fbh)), (sa, .inl (ksa, 325, .inl fsa)), (fr, .inr (3, [.int frmonths, .int frfull, .int frlean, .ref fral, .ref fron])), (fral, .inl (kfral, 25, .inl ffral))] := hD
  refine lv_aload_n hx hb dX9_fill_24 rfl (lv_at hl 0 rfl) ?_
  refine va_get (D := (dC, dI)) (ci := 9) (v := .ref bf) (C := RX9) (T := TX9) (N := 6) hx hb hts (fun w h => List.mem_cons_of_mem _ (jnGA_X9 w h)) hown hK hP 0 rfl rfl 0 (by decide) (hts _ (List.mem_cons_of_mem _ mGA_111)) (fun _ h9 => h9) rfl dX9_fill_25 ?_
  refine lv_iconst (v := 0) hx hb dX9_fill_28 (by decide) ?_
  have hPc := hP.sub (ws' := [(bf, .inl (kbf, 3575, .inl fbf))]) [1] rfl
  have hKc := hK.sub (tys' := [(kbf, .int)]) [0] rfl
  have hDc := hD.sub (ws' := [(bf, .inl (kbf, 3575, .inl fbf))]) [1] (by decide) rfl
  have hFc := va_free (wc := [(bf, .inl (kbf, 3575, .inl fbf))]) hD hS hA [1] rfl
  refine va_callv (va_runS (As := [.ref bf, .int 0]) (rest := []) ⟨hx, hb, hml, hown, hts⟩ (sJ7_fill3575 l dC dI H.size bf kbf fbf 0) (⟨callB_of 2 hts (gz_gP mGA_568 goodGA) rfl rfl rfl (hts _ (List.mem_cons_of_mem _ mGA_567)) (hts _ (List.mem_cons_of_mem _ mGA_565)) (by decide +kernel) ⟨Nat.le_of_ble_eq_true rfl, Nat.le_of_ble_eq_true rfl⟩, (hts _ (List.mem_cons_of_mem _ mGA_566))⟩) ⟨fun a U g mk q => by obtain ⟨q0, q1, qP, qK, qD, qZ⟩ := q; exact ⟨q0, q1, qP, va_K.moved (u := U) (U := U.calling g mk a) (Vm.Alike.refl U.vm) qK, qD, nzA_same (u := U) (U := U.calling g mk a) rfl qZ⟩, fun U hU hW => ⟨rfl, by rw [hU], by rw [hU]; exact hPc, va_K.moved hW.alike hKc, hDc.weaken (fun _ _ _ _ => trivial), nzA_warm hW hz⟩⟩ rfl rfl hl.1 rfl (lv_room (Nat.le_of_ble_eq_true rfl)) dX9_fill_29 ⟨Nat.zero_le _, Nat.zero_le _⟩) hS (fun q _ h => hFc q h) hFc (fun u t H1 locs ht hvm hw hB hz1 hk1 hS => ?_)
  obtain ⟨f_22, hP1, hD1⟩ := hB
  rw [ht] at hP1
  obtain ⟨hP, hD⟩ := va_join (wr := [(h0, .inr (9, [.ref bf, .ref bh, .ref sa, .int frmonths, .int frfull, .int frlean])), (bh, .inl (kbh, 3575, .inl fbh)), (sa, .inl (ksa, 325, .inl fsa)), (fr, .inr (3, [.int frmonths, .int frfull, .int frlean, .ref fral, .ref fron])), (fral, .inl (kfral, 25, .inl ffral))]) (w1 := [(bf, .inl (kbf, 3575, .inl f_22))]) hP hD [1] [0, 2, 3, 4, 5] rfl rfl (by decide) (by decide) hk1 hFc hP1 hD1
  have hP := hP.sub (ws' := [(h0, .inr (9, [.ref bf, .ref bh, .ref sa, .int frmonths, .int frfull, .int frlean])), (bf, .inl (kbf, 3575, .inl f_22)), (bh, .inl (kbh, 3575, .inl fbh)), (sa, .inl (ksa, 325, .inl fsa)), (fr, .inr (3, [.int frmonths, .int frfull, .int frlean, .ref fral, .ref fron])), (fral, .inl (kfral, 25, .inl ffral))]) [0, 5, 1, 2, 3, 4] rfl
  have hD := hD.sub (ws' := [(h0, .inr (9, [.ref bf, .ref bh, .ref sa, .int frmonths, .int frfull, .int frlean])), (bf, .inl (kbf, 3575, .inl f_22)), (bh, .inl (kbh, 3575, .inl fbh)), (sa, .inl (ksa, 325, .inl fsa)), (fr, .inr (3, [.int frmonths, .int frfull, .int frlean, .ref fral, .ref fron])), (fral, .inl (kfral, 25, .inl ffral))]) [0, 5, 1, 2, 3, 4] (by decide) rfl
  generalize H1 = H at hP hS ⊢
  refine lv_aload_n hx hb dX9_fill_32 rfl (lv_at hl 0 rfl) ?_
  refine va_get (D := (dC, dI)) (ci := 9) (v := .ref bh) (C := RX9) (T := TX9) (N := 6) hx hb hts (fun w h => List.mem_cons_of_mem _ (jnGA_X9 w h)) hown hK hP 0 rfl rfl 1 (by decide) (hts _ (List.mem_cons_of_mem _ mGA_112)) (fun _ h9 => h9) rfl dX9_fill_33 ?_
  refine lv_iconst (v := 0) hx hb dX9_fill_36 (by decide) ?_
  have hPc := hP.sub (ws' := [(bh, .inl (kbh, 3575, .inl fbh))]) [2] rfl
  have hKc := hK.sub (tys' := [(kbh, .int)]) [1] rfl
  have hDc := hD.sub (ws' := [(bh, .inl (kbh, 3575, .inl fbh))]) [2] (by decide) rfl
  have hFc := va_free (wc := [(bh, .inl (kbh, 3575, .inl fbh))]) hD hS hA [2] rfl
  refine va_callv (va_runS (As := [.ref bh, .int 0]) (rest := []) ⟨hx, hb, hml, hown, hts⟩ (sJ7_fill3575 l dC dI H.size bh kbh fbh 0) (⟨callB_of 2 hts (gz_gP mGA_568 goodGA) rfl rfl rfl (hts _ (List.mem_cons_of_mem _ mGA_567)) (hts _ (List.mem_cons_of_mem _ mGA_565)) (by decide +kernel) ⟨Nat.le_of_ble_eq_true rfl, Nat.le_of_ble_eq_true rfl⟩, (hts _ (List.mem_cons_of_mem _ mGA_566))⟩) ⟨fun a U g mk q => by obtain ⟨q0, q1, qP, qK, qD, qZ⟩ := q; exact ⟨q0, q1, qP, va_K.moved (u := U) (U := U.calling g mk a) (Vm.Alike.refl U.vm) qK, qD, nzA_same (u := U) (U := U.calling g mk a) rfl qZ⟩, fun U hU hW => ⟨rfl, by rw [hU], by rw [hU]; exact hPc, va_K.moved hW.alike hKc, hDc.weaken (fun _ _ _ _ => trivial), nzA_warm hW hz⟩⟩ rfl rfl hl.1 rfl (lv_room (Nat.le_of_ble_eq_true rfl)) dX9_fill_37 ⟨Nat.zero_le _, Nat.zero_le _⟩) hS (fun q _ h => hFc q h) hFc (fun u t H1 locs ht hvm hw hB hz1 hk1 hS => ?_)
  obtain ⟨f_24, hP1, hD1⟩ := hB
  rw [ht] at hP1
  obtain ⟨hP, hD⟩ := va_join (wr := [(h0, .inr (9, [.ref bf, .ref bh, .ref sa, .int frmonths, .int frfull, .int frlean])), (bf, .inl (kbf, 3575, .inl f_22)), (sa, .inl (ksa, 325, .inl fsa)), (fr, .inr (3, [.int frmonths, .int frfull, .int frlean, .ref fral, .ref fron])), (fral, .inl (kfral, 25, .inl ffral))]) (w1 := [(bh, .inl (kbh, 3575, .inl f_24))]) hP hD [2] [0, 1, 3, 4, 5] rfl rfl (by decide) (by decide) hk1 hFc hP1 hD1
  have hP := hP.sub (ws' := [(h0, .inr (9, [.ref bf, .ref bh, .ref sa, .int frmonths, .int frfull, .int frlean])), (bf, .inl (kbf, 3575, .inl f_22)), (bh, .inl (kbh, 3575, .inl f_24)), (sa, .inl (ksa, 325, .inl fsa)), (fr, .inr (3, [.int frmonths, .int frfull, .int frlean, .ref fral, .ref fron])), (fral, .inl (kfral, 25, .inl ffral))]) [0, 1, 5, 2, 3, 4] rfl
  have hD := hD.sub (ws' := [(h0, .inr (9, [.ref bf, .ref bh, .ref sa, .int frmonths, .int frfull, .int frlean])), (bf, .inl (kbf, 3575, .inl f_22)), (bh, .inl (kbh, 3575, .inl f_24)), (sa, .inl (ksa, 325, .inl fsa)), (fr, .inr (3, [.int frmonths, .int frfull, .int frlean, .ref fral, .ref fron])), (fral, .inl (kfral, 25, .inl ffral))]) [0, 1, 5, 2, 3, 4] (by decide) rfl
  generalize H1 = H at hP hS ⊢
  refine lv_aload_n hx hb dX9_fill_40 rfl (lv_at hl 0 rfl) ?_
  refine lv_aload_n hx hb dX9_fill_41 rfl (lv_at hl 1 rfl) ?_
  have hPc := hP.sub (ws' := [(h0, .inr (9, [.ref bf, .ref bh, .ref sa, .int frmonths, .int frfull, .int frlean])), (bf, .inl (kbf, 3575, .inl f_22)), (fr, .inr (3, [.int frmonths, .int frfull, .int frlean, .ref fral, .ref fron])), (fral, .inl (kfral, 25, .inl ffral))]) [0, 1, 4, 5] rfl
  have hKc := hK.sub (tys' := [(kbf, .int), (kfral, .int)]) [0, 3] rfl
  have hDc := hD.sub (ws' := [(h0, .inr (9, [.ref bf, .ref bh, .ref sa, .int frmonths, .int frfull, .int frlean])), (bf, .inl (kbf, 3575, .inl f_22)), (fr, .inr (3, [.int frmonths, .int frfull, .int frlean, .ref fral, .ref fron])), (fral, .inl (kfral, 25, .inl ffral))]) [0, 1, 4, 5] (by decide) rfl
  have hFc := va_free (wc := [(h0, .inr (9, [.ref bf, .ref bh, .ref sa, .int frmonths, .int frfull, .int frlean])), (bf, .inl (kbf, 3575, .inl f_22)), (fr, .inr (3, [.int frmonths, .int frfull, .int frlean, .ref fral, .ref fron])), (fral, .inl (kfral, 25, .inl ffral))]) hD hS hA [0, 1, 4, 5] rfl
  refine va_callv (va_runV (As := [.ref fr]) (rest := []) ⟨hx, hb, hml, hown, hts⟩ (sX9_countBefore l dC dI H.size h0 bf fr fral bh sa frmonths frfull frlean kbf f_22 frmonths frfull frlean fron kfral ffral gfrmonths gfrfull gfrlean gfrmonths gfrfull gfrlean) (cwV 1 hts (gz_gV mGA_569 mGA_570 mGA_571 mGA_27 mGA_572 goodGA) rfl rfl rfl (by decide +kernel) ⟨Nat.le_of_ble_eq_true rfl, Nat.le_of_ble_eq_true rfl⟩) ⟨fun a U g mk q => by obtain ⟨q0, q1, qP, qK, qD, qZ⟩ := q; exact ⟨q0, q1, qP, va_K.moved (u := U) (U := U.calling g mk a) (Vm.Alike.refl U.vm) qK, qD, nzA_same (u := U) (U := U.calling g mk a) rfl qZ⟩, va_recv hKc hPc (ci := 9) (q0 := 0) rfl rfl, fun U hU hW => ⟨rfl, by rw [hU], by rw [hU]; exact hPc, va_K.moved hW.alike hKc, hDc.weaken (fun _ _ _ _ => trivial), nzA_warm hW hz⟩⟩ rfl rfl hl.1 rfl (lv_room (Nat.le_of_ble_eq_true rfl)) dX9_fill_42 ⟨Nat.zero_le _, Nat.zero_le _⟩) hS (fun q _ h => hFc q h) hFc (fun u t H1 locs ht hvm hw hB hz1 hk1 hS => ?_)
  obtain ⟨f_26, hP1, hD1⟩ := hB
  rw [ht] at hP1
  obtain ⟨hP, hD⟩ := va_join (wr := [(bh, .inl (kbh, 3575, .inl f_24)), (sa, .inl (ksa, 325, .inl fsa))]) (w1 := [(h0, .inr (9, [.ref bf, .ref bh, .ref sa, .int frmonths, .int frfull, .int frlean])), (bf, .inl (kbf, 3575, .inl f_26)), (fr, .inr (3, [.int frmonths, .int frfull, .int frlean, .ref fral, .ref fron])), (fral, .inl (kfral, 25, .inl ffral))]) hP hD [0, 1, 4, 5] [2, 3] rfl rfl (by decide) (by decide) hk1 hFc hP1 hD1
  have hP := hP.sub (ws' := [(h0, .inr (9, [.ref bf, .ref bh, .ref sa, .int frmonths, .int frfull, .int frlean])), (bf, .inl (kbf, 3575, .inl f_26)), (bh, .inl (kbh, 3575, .inl f_24)), (sa, .inl (ksa, 325, .inl fsa)), (fr, .inr (3, [.int frmonths, .int frfull, .int frlean, .ref fral, .ref fron])), (fral, .inl (kfral, 25, .inl ffral))]) [2, 3, 0, 1, 4, 5] rfl
  have hD := hD.sub (ws' := [(h0, .inr (9, [.ref bf, .ref bh, .ref sa, .int frmonths, .int frfull, .int frlean])), (bf, .inl (kbf, 3575, .inl f_26)), (bh, .inl (kbh, 3575, .inl f_24)), (sa, .inl (ksa, 325, .inl fsa)), (fr, .inr (3, [.int frmonths, .int frfull, .int frlean, .ref fral, .ref fron])), (fral, .inl (kfral, 25, .inl ffral))]) [2, 3, 0, 1, 4, 5] (by decide) rfl
  generalize H1 = H at hP hS ⊢
  refine lv_aload_n hx hb dX9_fill_45 rfl (lv_at hl 0 rfl) ?_
  have hPc := hP.sub (ws' := [(h0, .inr (9, [.ref bf, .ref bh, .ref sa, .int frmonths, .int frfull, .int frlean])), (bf, .inl (kbf, 3575, .inl f_26)), (bh, .inl (kbh, 3575, .inl f_24))]) [0, 1, 2] rfl
  have hKc := hK.sub (tys' := [(kbf, .int), (kbh, .int)]) [0, 1] rfl
  have hDc := hD.sub (ws' := [(h0, .inr (9, [.ref bf, .ref bh, .ref sa, .int frmonths, .int frfull, .int frlean])), (bf, .inl (kbf, 3575, .inl f_26)), (bh, .inl (kbh, 3575, .inl f_24))]) [0, 1, 2] (by decide) rfl
  have hFc := va_free (wc := [(h0, .inr (9, [.ref bf, .ref bh, .ref sa, .int frmonths, .int frfull, .int frlean])), (bf, .inl (kbf, 3575, .inl f_26)), (bh, .inl (kbh, 3575, .inl f_24))]) hD hS hA [0, 1, 2] rfl
  refine va_callv (va_runV (As := []) (rest := []) ⟨hx, hb, hml, hown, hts⟩ (sX9_countBehind l dC dI H.size h0 bf bh sa frmonths frfull frlean kbf f_26 kbh f_24 gfrmonths gfrfull gfrlean) (cwV 0 hts (gz_gV mGA_590 mGA_591 mGA_592 mGA_27 mGA_593 goodGA) rfl rfl rfl (by decide +kernel) ⟨Nat.le_of_ble_eq_true rfl, Nat.le_of_ble_eq_true rfl⟩) ⟨fun a U g mk q => by obtain ⟨q0, q1, qP, qK, qD, qZ⟩ := q; exact ⟨q0, q1, qP, va_K.moved (u := U) (U := U.calling g mk a) (Vm.Alike.refl U.vm) qK, qD, nzA_same (u := U) (U := U.calling g mk a) rfl qZ⟩, va_recv hKc hPc (ci := 9) (q0 := 0) rfl rfl, fun U hU hW => ⟨rfl, by rw [hU], by rw [hU]; exact hPc, va_K.moved hW.alike hKc, hDc.weaken (fun _ _ _ _ => trivial), nzA_warm hW hz⟩⟩ rfl rfl hl.1 rfl (lv_room (Nat.le_of_ble_eq_true rfl)) dX9_fill_46 ⟨Nat.zero_le _, Nat.zero_le _⟩) hS (fun q _ h => hFc q h) hFc (fun u t H1 locs ht hvm hw hB hz1 hk1 hS => ?_)
  obtain ⟨f_28, hP1, hD1⟩ := hB
  rw [ht] at hP1
  obtain ⟨hP, hD⟩ := va_join (wr := [(sa, .inl (ksa, 325, .inl fsa)), (fr, .inr (3, [.int frmonths, .int frfull, .int frlean, .ref fral, .ref fron])), (fral, .inl (kfral, 25, .inl ffral))]) (w1 := [(h0, .inr (9, [.ref bf, .ref bh, .ref sa, .int frmonths, .int frfull, .int frlean])), (bf, .inl (kbf, 3575, .inl f_26)), (bh, .inl (kbh, 3575, .inl f_28))]) hP hD [0, 1, 2] [3, 4, 5] rfl rfl (by decide) (by decide) hk1 hFc hP1 hD1
  have hP := hP.sub (ws' := [(h0, .inr (9, [.ref bf, .ref bh, .ref sa, .int frmonths, .int frfull, .int frlean])), (bf, .inl (kbf, 3575, .inl f_26)), (bh, .inl (kbh, 3575, .inl f_28)), (sa, .inl (ksa, 325, .inl fsa)), (fr, .inr (3, [.int frmonths, .int frfull, .int frlean, .ref fral, .ref fron])), (fral, .inl (kfral, 25, .inl ffral))]) [3, 4, 5, 0, 1, 2] rfl
  have hD := hD.sub (ws' := [(h0, .inr (9, [.ref bf, .ref bh, .ref sa, .int frmonths, .int frfull, .int frlean])), (bf, .inl (kbf, 3575, .inl f_26)), (bh, .inl (kbh, 3575, .inl f_28)), (sa, .inl (ksa, 325, .inl fsa)), (fr, .inr (3, [.int frmonths, .int frfull, .int frlean, .ref fral, .ref fron])), (fral, .inl (kfral, 25, .inl ffral))]) [3, 4, 5, 0, 1, 2] (by decide) rfl
  generalize H1 = H at hP hS ⊢
  refine lv_aload_n hx hb dX9_fill_49 rfl (lv_at hl 0 rfl) ?_
  have hPc := hP.sub (ws' := [(h0, .inr (9, [.ref bf, .ref bh, .ref sa, .int frmonths, .int frfull, .int frlean])), (bf, .inl (kbf, 3575, .inl f_26)), (bh, .inl (kbh, 3575, .inl f_28)), (sa, .inl (ksa, 325, .inl fsa))]) [0, 1, 2, 3] rfl
  have hKc := hK.sub (tys' := [(kbf, .int), (kbh, .int), (ksa, .int)]) [0, 1, 2] rfl
  have hDc := hD.sub (ws' := [(h0, .inr (9, [.ref bf, .ref bh, .ref sa, .int frmonths, .int frfull, .int frlean])), (bf, .inl (kbf, 3575, .inl f_26)), (bh, .inl (kbh, 3575, .inl f_28)), (sa, .inl (ksa, 325, .inl fsa))]) [0, 1, 2, 3] (by decide) rfl
  have hFc := va_free (wc := [(h0, .inr (9, [.ref bf, .ref bh, .ref sa, .int frmonths, .int frfull, .int frlean])), (bf, .inl (kbf, 3575, .inl f_26)), (bh, .inl (kbh, 3575, .inl f_28)), (sa, .inl (ksa, 325, .inl fsa))]) hD hS hA [0, 1, 2, 3] rfl
  refine va_callv (va_runV (As := []) (rest := []) ⟨hx, hb, hml, hown, hts⟩ (sX9_countStarts l dC dI H.size h0 bf bh sa frmonths frfull frlean kbf f_26 kbh f_28 ksa fsa gfrmonths gfrfull gfrlean) (cwV 0 hts (gz_gV mGA_603 mGA_604 mGA_605 mGA_27 mGA_606 goodGA) rfl rfl rfl (by decide +kernel) ⟨Nat.le_of_ble_eq_true rfl, Nat.le_of_ble_eq_true rfl⟩) ⟨fun a U g mk q => by obtain ⟨q0, q1, qP, qK, qD, qZ⟩ := q; exact ⟨q0, q1, qP, va_K.moved (u := U) (U := U.calling g mk a) (Vm.Alike.refl U.vm) qK, qD, nzA_same (u := U) (U := U.calling g mk a) rfl qZ⟩, va_recv hKc hPc (ci := 9) (q0 := 0) rfl rfl, fun U hU hW => ⟨rfl, by rw [hU], by rw [hU]; exact hPc, va_K.moved hW.alike hKc, hDc.weaken (fun _ _ _ _ => trivial), nzA_warm hW hz⟩⟩ rfl rfl hl.1 rfl (lv_room (Nat.le_of_ble_eq_true rfl)) dX9_fill_50 ⟨Nat.zero_le _, Nat.zero_le _⟩) hS (fun q _ h => hFc q h) hFc (fun u t H1 locs ht hvm hw hB hz1 hk1 hS => ?_)
  obtain ⟨f_30, hP1, hD1⟩ := hB
  rw [ht] at hP1
  obtain ⟨hP, hD⟩ := va_join (wr := [(fr, .inr (3, [.int frmonths, .int frfull, .int frlean, .ref fral, .ref fron])), (fral, .inl (kfral, 25, .inl ffral))]) (w1 := [(h0, .inr (9, [.ref bf, .ref bh, .ref sa, .int frmonths, .int frfull, .int frlean])), (bf, .inl (kbf, 3575, .inl f_26)), (bh, .inl (kbh, 3575, .inl f_28)), (sa, .inl (ksa, 325, .inl f_30))]) hP hD [0, 1, 2, 3] [4, 5] rfl rfl (by decide) (by decide) hk1 hFc hP1 hD1
  have hP := hP.sub (ws' := [(h0, .inr (9, [.ref bf, .ref bh, .ref sa, .int frmonths, .int frfull, .int frlean])), (bf, .inl (kbf, 3575, .inl f_26)), (bh, .inl (kbh, 3575, .inl f_28)), (sa, .inl (ksa, 325, .inl f_30)), (fr, .inr (3, [.int frmonths, .int frfull, .int frlean, .ref fral, .ref fron])), (fral, .inl (kfral, 25, .inl ffral))]) [2, 3, 4, 5, 0, 1] rfl
  have hD := hD.sub (ws' := [(h0, .inr (9, [.ref bf, .ref bh, .ref sa, .int frmonths, .int frfull, .int frlean])), (bf, .inl (kbf, 3575, .inl f_26)), (bh, .inl (kbh, 3575, .inl f_28)), (sa, .inl (ksa, 325, .inl f_30)), (fr, .inr (3, [.int frmonths, .int frfull, .int frlean, .ref fral, .ref fron])), (fral, .inl (kfral, 25, .inl ffral))]) [2, 3, 4, 5, 0, 1] (by decide) rfl
  generalize H1 = H at hP hS ⊢
  exact W.vret hx hb hr (fun t ht hW => ⟨⟨(), rfl, trivial, frmonths, frfull, frlean, f_26, f_28, f_30, gfrmonths, gfrfull, gfrlean, by rw [ht]; exact hP, hD⟩, hS.F ht⟩) hS.2.2 dX9_fill_53
