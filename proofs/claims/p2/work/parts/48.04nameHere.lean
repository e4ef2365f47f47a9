theorem dX6_nameHere_0 : decode cX6_nameHere 0 = .ok (.iconst 0, 1) := by decide +kernel
theorem dX6_nameHere_1 : decode cX6_nameHere 1 = .ok (.istore_n 1, 1) := by decide +kernel
theorem dX6_nameHere_2 : decode cX6_nameHere 2 = .ok (.iconst 0, 1) := by decide +kernel
theorem dX6_nameHere_3 : decode cX6_nameHere 3 = .ok (.istore_n 2, 1) := by decide +kernel
theorem dX6_nameHere_4 : decode cX6_nameHere 4 = .ok (.iload_n 2, 1) := by decide +kernel
theorem dX6_nameHere_5 : decode cX6_nameHere 5 = .ok (.bipush 6, 2) := by decide +kernel
theorem dX6_nameHere_7 : decode cX6_nameHere 7 = .ok (.if_icmp .ge 60, 3) := by decide +kernel
theorem dX6_nameHere_10 : decode cX6_nameHere 10 = .ok (.aload_n 0, 1) := by decide +kernel
theorem dX6_nameHere_11 : decode cX6_nameHere 11 = .ok (.getfield 35, 3) := by decide +kernel
theorem dX6_nameHere_14 : decode cX6_nameHere 14 = .ok (.iload_n 2, 1) := by decide +kernel
theorem dX6_nameHere_15 : decode cX6_nameHere 15 = .ok (.iadd, 1) := by decide +kernel
theorem dX6_nameHere_16 : decode cX6_nameHere 16 = .ok (.aload_n 0, 1) := by decide +kernel
theorem dX6_nameHere_17 : decode cX6_nameHere 17 = .ok (.getfield 38, 3) := by decide +kernel
theorem dX6_nameHere_20 : decode cX6_nameHere 20 = .ok (.if_icmp .ge 16, 3) := by decide +kernel
theorem dX6_nameHere_23 : decode cX6_nameHere 23 = .ok (.aload_n 0, 1) := by decide +kernel
theorem dX6_nameHere_24 : decode cX6_nameHere 24 = .ok (.aload_n 0, 1) := by decide +kernel
theorem dX6_nameHere_25 : decode cX6_nameHere 25 = .ok (.getfield 35, 3) := by decide +kernel
theorem dX6_nameHere_28 : decode cX6_nameHere 28 = .ok (.iload_n 2, 1) := by decide +kernel
theorem dX6_nameHere_29 : decode cX6_nameHere 29 = .ok (.iadd, 1) := by decide +kernel
theorem dX6_nameHere_30 : decode cX6_nameHere 30 = .ok (.invokevirtual 181, 3) := by decide +kernel
theorem dX6_nameHere_33 : decode cX6_nameHere 33 = .ok (.goto 4, 3) := by decide +kernel
theorem dX6_nameHere_36 : decode cX6_nameHere 36 = .ok (.iconst (-1), 1) := by decide +kernel
theorem dX6_nameHere_37 : decode cX6_nameHere 37 = .ok (.istore_n 3, 1) := by decide +kernel
theorem dX6_nameHere_38 : decode cX6_nameHere 38 = .ok (.iload_n 1, 1) := by decide +kernel
theorem dX6_nameHere_39 : decode cX6_nameHere 39 = .ok (.bipush 27, 2) := by decide +kernel
theorem dX6_nameHere_41 : decode cX6_nameHere 41 = .ok (.imul, 1) := by decide +kernel
theorem dX6_nameHere_42 : decode cX6_nameHere 42 = .ok (.iload_n 3, 1) := by decide +kernel
theorem dX6_nameHere_43 : decode cX6_nameHere 43 = .ok (.invokestatic 184, 3) := by decide +kernel
theorem dX6_nameHere_46 : decode cX6_nameHere 46 = .ok (.ifCond .eq 12, 3) := by decide +kernel
theorem dX6_nameHere_49 : decode cX6_nameHere 49 = .ok (.iload_n 3, 1) := by decide +kernel
theorem dX6_nameHere_50 : decode cX6_nameHere 50 = .ok (.bipush 97, 2) := by decide +kernel
theorem dX6_nameHere_52 : decode cX6_nameHere 52 = .ok (.isub, 1) := by decide +kernel
theorem dX6_nameHere_53 : decode cX6_nameHere 53 = .ok (.iconst 1, 1) := by decide +kernel
theorem dX6_nameHere_54 : decode cX6_nameHere 54 = .ok (.iadd, 1) := by decide +kernel
theorem dX6_nameHere_55 : decode cX6_nameHere 55 = .ok (.goto 4, 3) := by decide +kernel
theorem dX6_nameHere_58 : decode cX6_nameHere 58 = .ok (.iconst 0, 1) := by decide +kernel
theorem dX6_nameHere_59 : decode cX6_nameHere 59 = .ok (.iadd, 1) := by decide +kernel
theorem dX6_nameHere_60 : decode cX6_nameHere 60 = .ok (.istore_n 1, 1) := by decide +kernel
theorem dX6_nameHere_61 : decode cX6_nameHere 61 = .ok (.iinc 2 1, 3) := by decide +kernel
theorem dX6_nameHere_64 : decode cX6_nameHere 64 = .ok (.goto (-60), 3) := by decide +kernel
theorem dX6_nameHere_67 : decode cX6_nameHere 67 = .ok (.iload_n 1, 1) := by decide +kernel
theorem dX6_nameHere_68 : decode cX6_nameHere 68 = .ok (.ireturn, 1) := by decide +kernel
set_option maxHeartbeats 4000000 in
set_option maxRecDepth 100000 in
theorem lp_sX6_nameHere {p : Program} {l : Launch} {e : Env} {R : Room} {s : State} {m : MethodId} {args : Array Value} {below : List Frame} {meth : Method} {c : Code} {Q : State → Prop} {A : Nat → Prop} {cells slots : Nat} {dC : Nat → ClassId} {dI : Nat → Nat → Nat} (h0 : Nat) (tp : Nat) (bt : Nat) (dr : Nat) (q_faultKind : Int32) (q_faultPlace : Int32) (q_token : Int32) (q_start : Int32) (q_stop : Int32) (b_length : Int32) (kbt : ClassId) (fbt : Nat → Int32) (gq_faultKind : gi q_faultKind 0 3) (gq_start : gi q_start 0 1600) (gq_stop : gi q_stop 0 1600) (gb_length : gi b_length 0 1600) (hx : p.tables.exec = Jvm.exec) (hb : c.code = cX6_nameHere) (hml : c.maxLocals = 4) (hown : s.vm.findClass RX6 = some m.cls) (hts : ∀ w ∈ ((.code yX6_nameHere cX6_nameHere 4 (some .int) :: wsGA) : List Cond), w.before args s = true) (hK : va_K (dC, dI) vwCl [(kbt, .byte)] s) (hz : nzA s) (hRf : 1 ≤ R.frames) (hRl : 21 ≤ R.locals) (hRc : cells ≤ R.cells) (hRs : slots ≤ R.slots) (kr68 : ∀ (v : Int32) (H : Heap) (locs : List Loc) (ls : Array Slot), va_P (dC, dI) vwCl [(h0, .inr (6, [.ref tp, .ref dr, .int q_faultKind, .int q_faultPlace, .int q_token, .int q_start, .int q_stop])), (tp, .inr (10, [.ref bt, .int b_length])), (bt, .inl (kbt, 1600, .inl fbt))] H → va_S A s.heap H locs → lv_has ls 4 [] → W p l e R s m args below meth c H locs cells slots Q (F0 m 68 ls [.int v])) : ∀ z : Nat, (∀ (v1 : Int32) (v2 : Int32) (H : Heap) (locs : List Loc) (ls : Array Slot), gi v2 0 6 → 13 + (-2) * v2.toInt < (z : Int) → va_P (dC, dI) vwCl [(h0, .inr (6, [.ref tp, .ref dr, .int q_faultKind, .int q_faultPlace, .int q_token, .int q_start, .int q_stop])), (tp, .inr (10, [.ref bt, .int b_length])), (bt, .inl (kbt, 1600, .inl fbt))] H → va_S A s.heap H locs → lv_has ls 4 [(0, .ref h0), (1, .int v1), (2, .int v2)] → W p l e R s m args below meth c H locs cells slots Q (F0 m 4 ls [])) := by
  intro z
  induction z with
  | zero =>
    intro v1 v2 H locs ls gv2 hmu hP hS hl
    exact absurd hmu (by have hv21 := gv2.1; have hv22 := gv2.2; omega)
  | succ z ih =>
      intro v1 v2 H locs ls gv2 hmu hP hS hl
      refine lv_iload_n hx hb dX6_nameHere_4 rfl (lv_at hl 2 rfl) ?_
      refine lv_bipush (v := 6) hx hb dX6_nameHere_5 (by decide) ?_
      refine lv_icmp_ge (tgt := 67) hx hb dX6_nameHere_7 (by decide) (fun c_192 => ?_) (fun c_192 => ?_)
      · have g_193 : gi v2 6 6 := gi_le_r c_192 (gi_c 6 6 (by decide)) gv2
        refine lv_iload_n hx hb dX6_nameHere_67 rfl (lv_at hl 1 rfl) ?_
        exact kr68 v1 _ _ _ hP hS (lv_sub hl [] rfl)
      · have g_194 : gi v2 0 5 := gi_lt_l (Int32.not_le.mp c_192) gv2 (gi_c 6 6 (by decide)) (by decide)
        refine lv_aload_n hx hb dX6_nameHere_10 rfl (lv_at hl 0 rfl) ?_
        refine va_get (D := (dC, dI)) (ci := 6) (v := .int q_start) (C := RX6) (T := TX6) (N := 7) hx hb hts (fun w h => List.mem_cons_of_mem _ (jnGA_X6 w h)) hown hK hP 0 rfl rfl 5 (by decide) (hts _ (List.mem_cons_of_mem _ mGA_58)) (fun _ h9 => h9) rfl dX6_nameHere_11 ?_
        refine lv_iload_n hx hb dX6_nameHere_14 rfl (lv_at hl 2 rfl) ?_
        refine lv_iadd hx hb dX6_nameHere_15 ?_
        refine lv_topi (fun x_195 ex_195 => ?_)
        have gx_195 : gi x_195 0 1605 := gi_add ex_195 gq_start g_194 (by decide)
        refine lv_aload_n hx hb dX6_nameHere_16 rfl (lv_at hl 0 rfl) ?_
        refine va_get (D := (dC, dI)) (ci := 6) (v := .int q_stop) (C := RX6) (T := TX6) (N := 7) hx hb hts (fun w h => List.mem_cons_of_mem _ (jnGA_X6 w h)) hown hK hP 0 rfl rfl 6 (by decide) (hts _ (List.mem_cons_of_mem _ mGA_59)) (fun _ h9 => h9) rfl dX6_nameHere_17 ?_
        refine lv_icmp_ge (tgt := 36) hx hb dX6_nameHere_20 (by decide) (fun c_196 => ?_) (fun c_196 => ?_)
        · refine lv_iconst (v := (-1)) hx hb dX6_nameHere_36 (by decide) ?_
          refine lv_istore_n (lv' := [(3, .int (-1)), (0, .ref h0), (1, .int v1), (2, .int v2)]) hx hb dX6_nameHere_37 rfl hl (by decide) rfl (fun ls hl => ?_)
          refine lv_iload_n hx hb dX6_nameHere_38 rfl (lv_at hl 2 rfl) ?_
          refine lv_bipush (v := 27) hx hb dX6_nameHere_39 (by decide) ?_
          refine lv_imul hx hb dX6_nameHere_41 ?_
          refine lv_topi (fun x_197 ex_197 => ?_)
          refine lv_iload_n hx hb dX6_nameHere_42 rfl (lv_at hl 0 rfl) ?_
          have hPc := hP.sub (ws' := []) [] rfl
          have hKc := hK.sub (tys' := []) [] rfl
          refine va_calli (va_runS (As := [.int (-1)]) (rest := [.int x_197]) ⟨hx, hb, hml, hown, hts⟩ (sX6_isLetter l dC dI (-1)) (cwS 1 hts (gz_gS mGA_175 mGA_176 mGA_9 mGA_177 goodGA) rfl rfl rfl (by decide +kernel) ⟨Nat.le_trans (Nat.le_of_ble_eq_true rfl) hRf, Nat.le_trans (Nat.le_of_ble_eq_true rfl) hRl⟩) ⟨fun a U g mk q => by obtain ⟨q0, qP, qK, qZ⟩ := q; exact ⟨q0, qP, va_K.moved (u := U) (U := U.calling g mk a) (Vm.Alike.refl U.vm) qK, nzA_same (u := U) (U := U.calling g mk a) rfl qZ⟩, fun U hU hW => ⟨rfl, by rw [hU]; exact hPc, va_K.moved hW.alike hKc, nzA_warm hW hz⟩⟩ rfl rfl hl.1 rfl (lv_room (Nat.le_of_ble_eq_true rfl)) dX6_nameHere_43 ⟨hRc, hRs⟩) hS (fun q _ h => h.elim) (fun q h => h.elim) (fun r_198 u t H1 locs ht hvm hw hB hz1 hk1 hS => ?_)
          have hP := gz_keep hP hk1
          generalize H1 = H at hP hS ⊢
          have gr_198 : gi r_198 0 1 := hw
          refine lv_if_eq (tgt := 58) hx hb dX6_nameHere_46 (by decide) (fun c_199 => ?_) (fun c_199 => ?_)
          · have g_200 : gi r_198 0 0 := gi_eq c_199 (gi_c 0 0 (by decide))
            refine lv_iconst (v := 0) hx hb dX6_nameHere_58 (by decide) ?_
            refine lv_iadd hx hb dX6_nameHere_59 ?_
            refine lv_topi (fun x_201 ex_201 => ?_)
            refine lv_istore_n (lv' := [(1, .int x_201), (3, .int (-1)), (0, .ref h0), (2, .int v2)]) hx hb dX6_nameHere_60 rfl hl (by decide) rfl (fun ls hl => ?_)
            obtain ⟨x_202, ex_202⟩ : ∃ y : Int32, y = v2 + 1 := ⟨_, rfl⟩
            have gx_202 : gi x_202 1 6 := gi_add ex_202 g_194 (gi_c 1 1 (by decide)) (by decide)
            refine lv_iinc (v := x_202) (lv' := [(2, .int x_202), (1, .int x_201), (3, .int (-1)), (0, .ref h0)]) hx hb dX6_nameHere_61 hl (k := 3) rfl (by rw [ex_202]; rfl) (by decide) rfl (fun ls hl => ?_)
            refine lv_goto (tgt := 4) hx hb dX6_nameHere_64 (by decide) ?_
            exact ih x_201 x_202 _ _ _ (gi_w gx_202 (by decide)) (by have av2 := gv2.1; have bv2 := gv2.2; have qgx_202 := gx_202.1; have rgx_202 := gx_202.2; have igx_202 : x_202.toInt = v2.toInt + 1 := (by have hc1 : (1 : Int32).toInt = 1 := (by decide); have h9 := gi_addI ex_202 (by have h1 := g_194.1; have h2 := (gi_c 1 1 (by decide)).1; have h3 := g_194.2; have h4 := (gi_c 1 1 (by decide)).2; omega) (by have h1 := g_194.1; have h2 := (gi_c 1 1 (by decide)).1; have h3 := g_194.2; have h4 := (gi_c 1 1 (by decide)).2; omega); rw [hc1] at h9; exact h9); have qgv2 := g_194.1; have rgv2 := g_194.2; omega) hP hS (lv_sub hl [3, 1, 0] rfl)
          · have g_203 : gi r_198 1 1 := gi_ne_lo c_199 gr_198 (gi_c 0 0 (by decide)) (by decide)
            refine lv_iload_n hx hb dX6_nameHere_49 rfl (lv_at hl 0 rfl) ?_
            refine lv_bipush (v := 97) hx hb dX6_nameHere_50 (by decide) ?_
            refine lv_isub hx hb dX6_nameHere_52 ?_
            refine gz_topi (y := (-98)) (by decide) ?_
            refine lv_iconst (v := 1) hx hb dX6_nameHere_53 (by decide) ?_
            refine lv_iadd hx hb dX6_nameHere_54 ?_
            refine gz_topi (y := (-97)) (by decide) ?_
            refine lv_goto (tgt := 59) hx hb dX6_nameHere_55 (by decide) ?_
            refine lv_iadd hx hb dX6_nameHere_59 ?_
            refine lv_topi (fun x_204 ex_204 => ?_)
            refine lv_istore_n (lv' := [(1, .int x_204), (3, .int (-1)), (0, .ref h0), (2, .int v2)]) hx hb dX6_nameHere_60 rfl hl (by decide) rfl (fun ls hl => ?_)
            obtain ⟨x_205, ex_205⟩ : ∃ y : Int32, y = v2 + 1 := ⟨_, rfl⟩
            have gx_205 : gi x_205 1 6 := gi_add ex_205 g_194 (gi_c 1 1 (by decide)) (by decide)
            refine lv_iinc (v := x_205) (lv' := [(2, .int x_205), (1, .int x_204), (3, .int (-1)), (0, .ref h0)]) hx hb dX6_nameHere_61 hl (k := 3) rfl (by rw [ex_205]; rfl) (by decide) rfl (fun ls hl => ?_)
            refine lv_goto (tgt := 4) hx hb dX6_nameHere_64 (by decide) ?_
            exact ih x_204 x_205 _ _ _ (gi_w gx_205 (by decide)) (by have av2 := gv2.1; have bv2 := gv2.2; have qgx_205 := gx_205.1; have rgx_205 := gx_205.2; have igx_205 : x_205.toInt = v2.toInt + 1 := (by have hc1 : (1 : Int32).toInt = 1 := (by decide); have h9 := gi_addI ex_205 (by have h1 := g_194.1; have h2 := (gi_c 1 1 (by decide)).1; have h3 := g_194.2; have h4 := (gi_c 1 1 (by decide)).2; omega) (by have h1 := g_194.1; have h2 := (gi_c 1 1 (by decide)).1; have h3 := g_194.2; have h4 := (gi_c 1 1 (by decide)).2; omega); rw [hc1] at h9; exact h9); have qgv2 := g_194.1; have rgv2 := g_194.2; omega) hP hS (lv_sub hl [3, 1, 0] rfl)
        · have g_206 : gi x_195 0 1599 := gi_lt_l (Int32.not_le.mp c_196) gx_195 gq_stop (by decide)
          have g_207 : gi q_stop 1 1600 := gi_lt_r (Int32.not_le.mp c_196) gx_195 gq_stop (by decide)
          refine lv_aload_n hx hb dX6_nameHere_23 rfl (lv_at hl 0 rfl) ?_
          refine lv_aload_n hx hb dX6_nameHere_24 rfl (lv_at hl 0 rfl) ?_
          refine va_get (D := (dC, dI)) (ci := 6) (v := .int q_start) (C := RX6) (T := TX6) (N := 7) hx hb hts (fun w h => List.mem_cons_of_mem _ (jnGA_X6 w h)) hown hK hP 0 rfl rfl 5 (by decide) (hts _ (List.mem_cons_of_mem _ mGA_58)) (fun _ h9 => h9) rfl dX6_nameHere_25 ?_
          refine lv_iload_n hx hb dX6_nameHere_28 rfl (lv_at hl 2 rfl) ?_
          refine lv_iadd hx hb dX6_nameHere_29 ?_
          refine lv_topi (fun x_208 ex_208 => ?_)
          have gx_208 : gi x_208 0 1605 := gi_add ex_208 gq_start g_194 (by decide)
          have hPc := hP.sub (ws' := [(h0, .inr (6, [.ref tp, .ref dr, .int q_faultKind, .int q_faultPlace, .int q_token, .int q_start, .int q_stop])), (tp, .inr (10, [.ref bt, .int b_length])), (bt, .inl (kbt, 1600, .inl fbt))]) [0, 1, 2] rfl
          have hKc := hK.sub (tys' := [(kbt, .byte)]) [0] rfl
          refine va_calli (va_runV (As := [.int x_208]) (rest := []) ⟨hx, hb, hml, hown, hts⟩ (sX6_byteAt l dC dI h0 tp bt dr q_faultKind q_faultPlace q_token q_start q_stop b_length kbt fbt x_208 gq_faultKind gq_start (gi_w g_207 (by decide)) gb_length) (cwV 1 hts (gz_gV mGA_167 mGA_168 mGA_169 mGA_9 mGA_170 goodGA) rfl rfl rfl (by decide +kernel) ⟨Nat.le_trans (Nat.le_of_ble_eq_true rfl) hRf, Nat.le_trans (Nat.le_of_ble_eq_true rfl) hRl⟩) ⟨fun a U g mk q => by obtain ⟨q0, qP, qK, qZ⟩ := q; exact ⟨q0, qP, va_K.moved (u := U) (U := U.calling g mk a) (Vm.Alike.refl U.vm) qK, nzA_same (u := U) (U := U.calling g mk a) rfl qZ⟩, va_recv hKc hPc (ci := 6) (q0 := 0) rfl rfl, fun U hU hW => ⟨rfl, by rw [hU]; exact hPc, va_K.moved hW.alike hKc, nzA_warm hW hz⟩⟩ rfl rfl hl.1 rfl (lv_room (Nat.le_of_ble_eq_true rfl)) dX6_nameHere_30 ⟨hRc, hRs⟩) hS (fun q _ h => h.elim) (fun q h => h.elim) (fun r_209 u t H1 locs ht hvm hw hB hz1 hk1 hS => ?_)
          have hP := gz_keep hP hk1
          generalize H1 = H at hP hS ⊢
          refine lv_goto (tgt := 37) hx hb dX6_nameHere_33 (by decide) ?_
          refine lv_istore_n (lv' := [(3, .int r_209), (0, .ref h0), (1, .int v1), (2, .int v2)]) hx hb dX6_nameHere_37 rfl hl (by decide) rfl (fun ls hl => ?_)
          refine lv_iload_n hx hb dX6_nameHere_38 rfl (lv_at hl 2 rfl) ?_
          refine lv_bipush (v := 27) hx hb dX6_nameHere_39 (by decide) ?_
          refine lv_imul hx hb dX6_nameHere_41 ?_
          refine lv_topi (fun x_210 ex_210 => ?_)
          refine lv_iload_n hx hb dX6_nameHere_42 rfl (lv_at hl 0 rfl) ?_
          have hPc := hP.sub (ws' := []) [] rfl
          have hKc := hK.sub (tys' := []) [] rfl
          refine va_calli (va_runS (As := [.int r_209]) (rest := [.int x_210]) ⟨hx, hb, hml, hown, hts⟩ (sX6_isLetter l dC dI r_209) (cwS 1 hts (gz_gS mGA_175 mGA_176 mGA_9 mGA_177 goodGA) rfl rfl rfl (by decide +kernel) ⟨Nat.le_trans (Nat.le_of_ble_eq_true rfl) hRf, Nat.le_trans (Nat.le_of_ble_eq_true rfl) hRl⟩) ⟨fun a U g mk q => by obtain ⟨q0, qP, qK, qZ⟩ := q; exact ⟨q0, qP, va_K.moved (u := U) (U := U.calling g mk a) (Vm.Alike.refl U.vm) qK, nzA_same (u := U) (U := U.calling g mk a) rfl qZ⟩, fun U hU hW => ⟨rfl, by rw [hU]; exact hPc, va_K.moved hW.alike hKc, nzA_warm hW hz⟩⟩ rfl rfl hl.1 rfl (lv_room (Nat.le_of_ble_eq_true rfl)) dX6_nameHere_43 ⟨hRc, hRs⟩) hS (fun q _ h => h.elim) (fun q h => h.elim) (fun r_211 u t H1 locs ht hvm hw hB hz1 hk1 hS => ?_)
          have hP := gz_keep hP hk1
          generalize H1 = H at hP hS ⊢
          have gr_211 : gi r_211 0 1 := hw
          refine lv_if_eq (tgt := 58) hx hb dX6_nameHere_46 (by decide) (fun c_212 => ?_) (fun c_212 => ?_)
          · have g_213 : gi r_211 0 0 := gi_eq c_212 (gi_c 0 0 (by decide))
            refine lv_iconst (v := 0) hx hb dX6_nameHere_58 (by decide) ?_
            refine lv_iadd hx hb dX6_nameHere_59 ?_
            refine lv_topi (fun x_214 ex_214 => ?_)
            refine lv_istore_n (lv' := [(1, .int x_214), (3, .int r_209), (0, .ref h0), (2, .int v2)]) hx hb dX6_nameHere_60 rfl hl (by decide) rfl (fun ls hl => ?_)
            obtain ⟨x_215, ex_215⟩ : ∃ y : Int32, y = v2 + 1 := ⟨_, rfl⟩
            have gx_215 : gi x_215 1 6 := gi_add ex_215 g_194 (gi_c 1 1 (by decide)) (by decide)
            refine lv_iinc (v := x_215) (lv' := [(2, .int x_215), (1, .int x_214), (3, .int r_209), (0, .ref h0)]) hx hb dX6_nameHere_61 hl (k := 3) rfl (by rw [ex_215]; rfl) (by decide) rfl (fun ls hl => ?_)
            refine lv_goto (tgt := 4) hx hb dX6_nameHere_64 (by decide) ?_
            exact ih x_214 x_215 _ _ _ (gi_w gx_215 (by decide)) (by have av2 := gv2.1; have bv2 := gv2.2; have qgx_215 := gx_215.1; have rgx_215 := gx_215.2; have igx_215 : x_215.toInt = v2.toInt + 1 := (by have hc1 : (1 : Int32).toInt = 1 := (by decide); have h9 := gi_addI ex_215 (by have h1 := g_194.1; have h2 := (gi_c 1 1 (by decide)).1; have h3 := g_194.2; have h4 := (gi_c 1 1 (by decide)).2; omega) (by have h1 := g_194.1; have h2 := (gi_c 1 1 (by decide)).1; have h3 := g_194.2; have h4 := (gi_c 1 1 (by decide)).2; omega); rw [hc1] at h9; exact h9); have qgv2 := g_194.1; have rgv2 := g_194.2; omega) hP hS (lv_sub hl [3, 1, 0] rfl)
          · have g_216 : gi r_211 1 1 := gi_ne_lo c_212 gr_211 (gi_c 0 0 (by decide)) (by decide)
            refine lv_iload_n hx hb dX6_nameHere_49 rfl (lv_at hl 0 rfl) ?_
            refine lv_bipush (v := 97) hx hb dX6_nameHere_50 (by decide) ?_
            refine lv_isub hx hb dX6_nameHere_52 ?_
            refine lv_topi (fun x_217 ex_217 => ?_)
            refine lv_iconst (v := 1) hx hb dX6_nameHere_53 (by decide) ?_
            refine lv_iadd hx hb dX6_nameHere_54 ?_
            refine lv_topi (fun x_218 ex_218 => ?_)
            refine lv_goto (tgt := 59) hx hb dX6_nameHere_55 (by decide) ?_
            refine lv_iadd hx hb dX6_nameHere_59 ?_
            refine lv_topi (fun x_219 ex_219 => ?_)
            refine lv_istore_n (lv' := [(1, .int x_219), (3, .int r_209), (0, .ref h0), (2, .int v2)]) hx hb dX6_nameHere_60 rfl hl (by decide) rfl (fun ls hl => ?_)
            obtain ⟨x_220, ex_220⟩ : ∃ y : Int32, y = v2 + 1 := ⟨_, rfl⟩
            have gx_220 : gi x_220 1 6 := gi_add ex_220 g_194 (gi_c 1 1 (by decide)) (by decide)
            refine lv_iinc (v := x_220) (lv' := [(2, .int x_220), (1, .int x_219), (3, .int r_209), (0, .ref h0)]) hx hb dX6_nameHere_61 hl (k := 3) rfl (by rw [ex_220]; rfl) (by decide) rfl (fun ls hl => ?_)
            refine lv_goto (tgt := 4) hx hb dX6_nameHere_64 (by decide) ?_
            exact ih x_219 x_220 _ _ _ (gi_w gx_220 (by decide)) (by have av2 := gv2.1; have bv2 := gv2.2; have qgx_220 := gx_220.1; have rgx_220 := gx_220.2; have igx_220 : x_220.toInt = v2.toInt + 1 := (by have hc1 : (1 : Int32).toInt = 1 := (by decide); have h9 := gi_addI ex_220 (by have h1 := g_194.1; have h2 := (gi_c 1 1 (by decide)).1; have h3 := g_194.2; have h4 := (gi_c 1 1 (by decide)).2; omega) (by have h1 := g_194.1; have h2 := (gi_c 1 1 (by decide)).1; have h3 := g_194.2; have h4 := (gi_c 1 1 (by decide)).2; omega); rw [hc1] at h9; exact h9); have qgv2 := g_194.1; have rgv2 := g_194.2; omega) hP hS (lv_sub hl [3, 1, 0] rfl)
set_option maxHeartbeats 4000000 in
set_option maxRecDepth 100000 in
theorem sX6_nameHere (l : Launch) (dC : Nat → ClassId) (dI : Nat → Nat → Nat) (h0 : Nat) (tp : Nat) (bt : Nat) (dr : Nat) (q_faultKind : Int32) (q_faultPlace : Int32) (q_token : Int32) (q_start : Int32) (q_stop : Int32) (b_length : Int32) (kbt : ClassId) (fbt : Nat → Int32) (gq_faultKind : gi q_faultKind 0 3) (gq_start : gi q_start 0 1600) (gq_stop : gi q_stop 0 1600) (gb_length : gi b_length 0 1600) : Met l yX6_nameHere (.code yX6_nameHere cX6_nameHere 4 (some .int) :: wsGA) ({ frames := 1, cells := 0, slots := 0, locals := 21 }) (va_Pc [.ref h0] (fun U => va_P (dC, dI) vwCl [(h0, .inr (6, [.ref tp, .ref dr, .int q_faultKind, .int q_faultPlace, .int q_token, .int q_start, .int q_stop])), (tp, .inr (10, [.ref bt, .int b_length])), (bt, .inl (kbt, 1600, .inl fbt))] U.heap ∧ va_K (dC, dI) vwCl [(kbt, .byte)] U ∧ nzA U)) (va_Qi (fun (r : Int32) (u : Unit) => gi r (-2147483648) 2147483647) (fun _ _ => True) (fun _ => False)) 0 0 (fun _ => False) := by
  refine Met.ofW (cc := cX6_nameHere) (maxL := 4) (ret := (some .int)) (by decide) rfl ?_
  intro p e s m args below meth c s₁ B hml hv
  obtain ⟨rfl, hP, hK, hz⟩ := hv
  have hx := B.exec
  have hb := B.bytes
  have hr := B.returns
  have hts := atoms_spec (ws := (.code yX6_nameHere cX6_nameHere 4 (some .int) :: wsGA)) B.pre
  have hown : s.vm.findClass RX6 = some m.cls := findClass_of_methodNamed B.named
  have hlocks := B.notSynchronized
  have hS : va_S (fun _ => False) s.heap s.heap [] := va_S.rf
  have hl := lv_entry ([.ref h0]) (n := 4) (Nat.le_of_ble_eq_true rfl)
  rw [lg_entry_eq]
  generalize (lg_sl ([.ref h0]) ++ List.replicate (4 - (lg_sl ([.ref h0])).length) Slot.unset).toArray = ls at hl ⊢
  have hl : lv_has ls 4 [(0, .ref h0)] := hl
  refine lv_iconst (v := 0) hx hb dX6_nameHere_0 (by decide) ?_
  refine lv_istore_n (lv' := [(1, .int 0), (0, .ref h0)]) hx hb dX6_nameHere_1 rfl hl (by decide) rfl (fun ls hl => ?_)
  refine lv_iconst (v := 0) hx hb dX6_nameHere_2 (by decide) ?_
  refine lv_istore_n (lv' := [(2, .int 0), (1, .int 0), (0, .ref h0)]) hx hb dX6_nameHere_3 rfl hl (by decide) rfl (fun ls hl => ?_)
  refine (lp_sX6_nameHere h0 tp bt dr q_faultKind q_faultPlace q_token q_start q_stop b_length kbt fbt gq_faultKind gq_start gq_stop gb_length hx hb hml hown hts hK hz (Nat.le_of_ble_eq_true rfl) (Nat.le_of_ble_eq_true rfl) (Nat.zero_le _) (Nat.zero_le _) (fun v H locs ls hP hS hl => ?_) 26) 0 0 _ _ _ (gi_w (gi_c 0 0 (by decide)) (by decide)) (by have k0 : (0 : Int32).toInt = 0 := (by decide); omega) hP hS (lv_sub hl [2, 1, 0] rfl)
  · skip
    exact W.iret (v := v) hx hb hr (fun t ht hW => ⟨⟨v, (), rfl, (gi_any v), trivial⟩, hS.F ht⟩) hS.2.2 dX6_nameHere_68
