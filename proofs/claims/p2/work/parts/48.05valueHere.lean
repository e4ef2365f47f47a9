theorem dX6_valueHere_0 : decode cX6_valueHere 0 = .ok (.iconst 0, 1) := by decide +kernel
theorem dX6_valueHere_1 : decode cX6_valueHere 1 = .ok (.istore_n 1, 1) := by decide +kernel
theorem dX6_valueHere_2 : decode cX6_valueHere 2 = .ok (.aload_n 0, 1) := by decide +kernel
theorem dX6_valueHere_3 : decode cX6_valueHere 3 = .ok (.getfield 35, 3) := by decide +kernel
theorem dX6_valueHere_6 : decode cX6_valueHere 6 = .ok (.istore_n 2, 1) := by decide +kernel
theorem dX6_valueHere_7 : decode cX6_valueHere 7 = .ok (.iload_n 2, 1) := by decide +kernel
theorem dX6_valueHere_8 : decode cX6_valueHere 8 = .ok (.aload_n 0, 1) := by decide +kernel
theorem dX6_valueHere_9 : decode cX6_valueHere 9 = .ok (.getfield 38, 3) := by decide +kernel
theorem dX6_valueHere_12 : decode cX6_valueHere 12 = .ok (.if_icmp .ge 41, 3) := by decide +kernel
theorem dX6_valueHere_15 : decode cX6_valueHere 15 = .ok (.aload_n 0, 1) := by decide +kernel
theorem dX6_valueHere_16 : decode cX6_valueHere 16 = .ok (.iload_n 2, 1) := by decide +kernel
theorem dX6_valueHere_17 : decode cX6_valueHere 17 = .ok (.invokevirtual 181, 3) := by decide +kernel
theorem dX6_valueHere_20 : decode cX6_valueHere 20 = .ok (.istore_n 3, 1) := by decide +kernel
theorem dX6_valueHere_21 : decode cX6_valueHere 21 = .ok (.iload_n 3, 1) := by decide +kernel
theorem dX6_valueHere_22 : decode cX6_valueHere 22 = .ok (.invokestatic 188, 3) := by decide +kernel
theorem dX6_valueHere_25 : decode cX6_valueHere 25 = .ok (.ifCond .eq 20, 3) := by decide +kernel
theorem dX6_valueHere_28 : decode cX6_valueHere 28 = .ok (.iload_n 1, 1) := by decide +kernel
theorem dX6_valueHere_29 : decode cX6_valueHere 29 = .ok (.bipush 10, 2) := by decide +kernel
theorem dX6_valueHere_31 : decode cX6_valueHere 31 = .ok (.imul, 1) := by decide +kernel
theorem dX6_valueHere_32 : decode cX6_valueHere 32 = .ok (.iload_n 3, 1) := by decide +kernel
theorem dX6_valueHere_33 : decode cX6_valueHere 33 = .ok (.iadd, 1) := by decide +kernel
theorem dX6_valueHere_34 : decode cX6_valueHere 34 = .ok (.bipush 48, 2) := by decide +kernel
theorem dX6_valueHere_36 : decode cX6_valueHere 36 = .ok (.isub, 1) := by decide +kernel
theorem dX6_valueHere_37 : decode cX6_valueHere 37 = .ok (.ldc 163, 2) := by decide +kernel
theorem dX6_valueHere_39 : decode cX6_valueHere 39 = .ok (.invokestatic 191, 3) := by decide +kernel
theorem dX6_valueHere_42 : decode cX6_valueHere 42 = .ok (.goto 4, 3) := by decide +kernel
theorem dX6_valueHere_45 : decode cX6_valueHere 45 = .ok (.iload_n 1, 1) := by decide +kernel
theorem dX6_valueHere_46 : decode cX6_valueHere 46 = .ok (.istore_n 1, 1) := by decide +kernel
theorem dX6_valueHere_47 : decode cX6_valueHere 47 = .ok (.iinc 2 1, 3) := by decide +kernel
theorem dX6_valueHere_50 : decode cX6_valueHere 50 = .ok (.goto (-43), 3) := by decide +kernel
theorem dX6_valueHere_53 : decode cX6_valueHere 53 = .ok (.iload_n 1, 1) := by decide +kernel
theorem dX6_valueHere_54 : decode cX6_valueHere 54 = .ok (.ireturn, 1) := by decide +kernel
set_option maxHeartbeats 4000000 in
set_option maxRecDepth 100000 in
theorem lp_sX6_valueHere {p : Program} {l : Launch} {e : Env} {R : Room} {s : State} {m : MethodId} {args : Array Value} {below : List Frame} {meth : Method} {c : Code} {Q : State → Prop} {A : Nat → Prop} {cells slots : Nat} {dC : Nat → ClassId} {dI : Nat → Nat → Nat} (h0 : Nat) (tp : Nat) (bt : Nat) (dr : Nat) (q_faultKind : Int32) (q_faultPlace : Int32) (q_token : Int32) (q_start : Int32) (q_stop : Int32) (b_length : Int32) (kbt : ClassId) (fbt : Nat → Int32) (gq_faultKind : gi q_faultKind 0 3) (gq_start : gi q_start 0 1600) (gq_stop : gi q_stop 0 1600) (gb_length : gi b_length 0 1600) (hx : p.tables.exec = Jvm.exec) (hb : c.code = cX6_valueHere) (hml : c.maxLocals = 4) (hown : s.vm.findClass RX6 = some m.cls) (hts : ∀ w ∈ ((.code yX6_valueHere cX6_valueHere 4 (some .int) :: wsGA) : List Cond), w.before args s = true) (hK : va_K (dC, dI) vwCl [(kbt, .byte)] s) (hz : nzA s) (hRf : 1 ≤ R.frames) (hRl : 21 ≤ R.locals) (hRc : cells ≤ R.cells) (hRs : slots ≤ R.slots) (kr54 : ∀ (v : Int32) (H : Heap) (locs : List Loc) (ls : Array Slot), va_P (dC, dI) vwCl [(h0, .inr (6, [.ref tp, .ref dr, .int q_faultKind, .int q_faultPlace, .int q_token, .int q_start, .int q_stop])), (tp, .inr (10, [.ref bt, .int b_length])), (bt, .inl (kbt, 1600, .inl fbt))] H → va_S A s.heap H locs → lv_has ls 4 [] → W p l e R s m args below meth c H locs cells slots Q (F0 m 54 ls [.int v])) : ∀ z : Nat, (∀ (v1 : Int32) (v2 : Int32) (H : Heap) (locs : List Loc) (ls : Array Slot), gi v2 0 1600 → 3201 + (-2) * v2.toInt < (z : Int) → va_P (dC, dI) vwCl [(h0, .inr (6, [.ref tp, .ref dr, .int q_faultKind, .int q_faultPlace, .int q_token, .int q_start, .int q_stop])), (tp, .inr (10, [.ref bt, .int b_length])), (bt, .inl (kbt, 1600, .inl fbt))] H → va_S A s.heap H locs → lv_has ls 4 [(0, .ref h0), (1, .int v1), (2, .int v2)] → W p l e R s m args below meth c H locs cells slots Q (F0 m 7 ls [])) := by
  intro z
  induction z with
  | zero =>
    intro v1 v2 H locs ls gv2 hmu hP hS hl
    exact absurd hmu (by have hv21 := gv2.1; have hv22 := gv2.2; omega)
  | succ z ih =>
      intro v1 v2 H locs ls gv2 hmu hP hS hl
      refine lv_iload_n hx hb dX6_valueHere_7 rfl (lv_at hl 2 rfl) ?_
      refine lv_aload_n hx hb dX6_valueHere_8 rfl (lv_at hl 0 rfl) ?_
      refine va_get (D := (dC, dI)) (ci := 6) (v := .int q_stop) (C := RX6) (T := TX6) (N := 7) hx hb hts (fun w h => List.mem_cons_of_mem _ (jnGA_X6 w h)) hown hK hP 0 rfl rfl 6 (by decide) (hts _ (List.mem_cons_of_mem _ mGA_59)) (fun _ h9 => h9) rfl dX6_valueHere_9 ?_
      refine lv_icmp_ge (tgt := 53) hx hb dX6_valueHere_12 (by decide) (fun c_29 => ?_) (fun c_29 => ?_)
      · refine lv_iload_n hx hb dX6_valueHere_53 rfl (lv_at hl 1 rfl) ?_
        exact kr54 v1 _ _ _ hP hS (lv_sub hl [] rfl)
      · have g_30 : gi v2 0 1599 := gi_lt_l (Int32.not_le.mp c_29) gv2 gq_stop (by decide)
        have g_31 : gi q_stop 1 1600 := gi_lt_r (Int32.not_le.mp c_29) gv2 gq_stop (by decide)
        refine lv_aload_n hx hb dX6_valueHere_15 rfl (lv_at hl 0 rfl) ?_
        refine lv_iload_n hx hb dX6_valueHere_16 rfl (lv_at hl 2 rfl) ?_
        have hPc := hP.sub (ws' := [(h0, .inr (6, [.ref tp, .ref dr, .int q_faultKind, .int q_faultPlace, .int q_token, .int q_start, .int q_stop])), (tp, .inr (10, [.ref bt, .int b_length])), (bt, .inl (kbt, 1600, .inl fbt))]) [0, 1, 2] rfl
        have hKc := hK.sub (tys' := [(kbt, .byte)]) [0] rfl
        refine va_calli (va_runV (As := [.int v2]) (rest := []) ⟨hx, hb, hml, hown, hts⟩ (sX6_byteAt l dC dI h0 tp bt dr q_faultKind q_faultPlace q_token q_start q_stop b_length kbt fbt v2 gq_faultKind gq_start (gi_w g_31 (by decide)) gb_length) (cwV 1 hts (gz_gV mGA_167 mGA_168 mGA_169 mGA_9 mGA_170 goodGA) rfl rfl rfl (by decide +kernel) ⟨Nat.le_trans (Nat.le_of_ble_eq_true rfl) hRf, Nat.le_trans (Nat.le_of_ble_eq_true rfl) hRl⟩) ⟨fun a U g mk q => by obtain ⟨q0, qP, qK, qZ⟩ := q; exact ⟨q0, qP, va_K.moved (u := U) (U := U.calling g mk a) (Vm.Alike.refl U.vm) qK, nzA_same (u := U) (U := U.calling g mk a) rfl qZ⟩, va_recv hKc hPc (ci := 6) (q0 := 0) rfl rfl, fun U hU hW => ⟨rfl, by rw [hU]; exact hPc, va_K.moved hW.alike hKc, nzA_warm hW hz⟩⟩ rfl rfl hl.1 rfl (lv_room (Nat.le_of_ble_eq_true rfl)) dX6_valueHere_17 ⟨hRc, hRs⟩) hS (fun q _ h => h.elim) (fun q h => h.elim) (fun r_32 u t H1 locs ht hvm hw hB hz1 hk1 hS => ?_)
        have hP := gz_keep hP hk1
        generalize H1 = H at hP hS ⊢
        refine lv_istore_n (lv' := [(3, .int r_32), (0, .ref h0), (1, .int v1), (2, .int v2)]) hx hb dX6_valueHere_20 rfl hl (by decide) rfl (fun ls hl => ?_)
        refine lv_iload_n hx hb dX6_valueHere_21 rfl (lv_at hl 0 rfl) ?_
        have hPc := hP.sub (ws' := []) [] rfl
        have hKc := hK.sub (tys' := []) [] rfl
        refine va_calli (va_runS (As := [.int r_32]) (rest := []) ⟨hx, hb, hml, hown, hts⟩ (sX6_isDigit l dC dI r_32) (cwS 1 hts (gz_gS mGA_178 mGA_179 mGA_9 mGA_180 goodGA) rfl rfl rfl (by decide +kernel) ⟨Nat.le_trans (Nat.le_of_ble_eq_true rfl) hRf, Nat.le_trans (Nat.le_of_ble_eq_true rfl) hRl⟩) ⟨fun a U g mk q => by obtain ⟨q0, qP, qK, qZ⟩ := q; exact ⟨q0, qP, va_K.moved (u := U) (U := U.calling g mk a) (Vm.Alike.refl U.vm) qK, nzA_same (u := U) (U := U.calling g mk a) rfl qZ⟩, fun U hU hW => ⟨rfl, by rw [hU]; exact hPc, va_K.moved hW.alike hKc, nzA_warm hW hz⟩⟩ rfl rfl hl.1 rfl (lv_room (Nat.le_of_ble_eq_true rfl)) dX6_valueHere_22 ⟨hRc, hRs⟩) hS (fun q _ h => h.elim) (fun q h => h.elim) (fun r_33 u t H1 locs ht hvm hw hB hz1 hk1 hS => ?_)
        have hP := gz_keep hP hk1
        generalize H1 = H at hP hS ⊢
        have gr_33 : gi r_33 0 1 := hw
        refine lv_if_eq (tgt := 45) hx hb dX6_valueHere_25 (by decide) (fun c_34 => ?_) (fun c_34 => ?_)
        · have g_35 : gi r_33 0 0 := gi_eq c_34 (gi_c 0 0 (by decide))
          refine lv_iload_n hx hb dX6_valueHere_45 rfl (lv_at hl 2 rfl) ?_
          refine lv_istore_n (lv' := [(1, .int v1), (3, .int r_32), (0, .ref h0), (2, .int v2)]) hx hb dX6_valueHere_46 rfl hl (by decide) rfl (fun ls hl => ?_)
          obtain ⟨x_36, ex_36⟩ : ∃ y : Int32, y = v2 + 1 := ⟨_, rfl⟩
          have gx_36 : gi x_36 1 1600 := gi_add ex_36 g_30 (gi_c 1 1 (by decide)) (by decide)
          refine lv_iinc (v := x_36) (lv' := [(2, .int x_36), (1, .int v1), (3, .int r_32), (0, .ref h0)]) hx hb dX6_valueHere_47 hl (k := 3) rfl (by rw [ex_36]; rfl) (by decide) rfl (fun ls hl => ?_)
          refine lv_goto (tgt := 7) hx hb dX6_valueHere_50 (by decide) ?_
          exact ih v1 x_36 _ _ _ (gi_w gx_36 (by decide)) (by have av2 := gv2.1; have bv2 := gv2.2; have qgx_36 := gx_36.1; have rgx_36 := gx_36.2; have igx_36 : x_36.toInt = v2.toInt + 1 := (by have hc1 : (1 : Int32).toInt = 1 := (by decide); have h9 := gi_addI ex_36 (by have h1 := g_30.1; have h2 := (gi_c 1 1 (by decide)).1; have h3 := g_30.2; have h4 := (gi_c 1 1 (by decide)).2; omega) (by have h1 := g_30.1; have h2 := (gi_c 1 1 (by decide)).1; have h3 := g_30.2; have h4 := (gi_c 1 1 (by decide)).2; omega); rw [hc1] at h9; exact h9); have qgv2 := g_30.1; have rgv2 := g_30.2; omega) hP hS (lv_sub hl [3, 1, 0] rfl)
        · have g_37 : gi r_33 1 1 := gi_ne_lo c_34 gr_33 (gi_c 0 0 (by decide)) (by decide)
          refine lv_iload_n hx hb dX6_valueHere_28 rfl (lv_at hl 2 rfl) ?_
          refine lv_bipush (v := 10) hx hb dX6_valueHere_29 (by decide) ?_
          refine lv_imul hx hb dX6_valueHere_31 ?_
          refine lv_topi (fun x_38 ex_38 => ?_)
          refine lv_iload_n hx hb dX6_valueHere_32 rfl (lv_at hl 0 rfl) ?_
          refine lv_iadd hx hb dX6_valueHere_33 ?_
          refine lv_topi (fun x_39 ex_39 => ?_)
          refine lv_bipush (v := 48) hx hb dX6_valueHere_34 (by decide) ?_
          refine lv_isub hx hb dX6_valueHere_36 ?_
          refine lv_topi (fun x_40 ex_40 => ?_)
          refine lv_ldc (own := RX6) (v := 1000000) hx hb hown (hts _ (List.mem_cons_of_mem _ mGA_266)) dX6_valueHere_37 ?_
          refine va_mmin (own := RX6) hx hb (by rw [hml]; exact hl.1.symm) hown (hts _ (List.mem_cons_of_mem _ mGA_267)) (hts _ (List.mem_cons_of_mem _ mGA_268)) (hts _ (List.mem_cons_of_mem _ mGA_269)) (hts _ (List.mem_cons_of_mem _ mGA_270)) (Nat.le_trans (Nat.le_of_ble_eq_true rfl) hRf) (Nat.le_trans (Nat.le_of_ble_eq_true rfl) hRl) hRc hRs dX6_valueHere_39 ?_
          refine lv_topi (fun x_41 ex_41 => ?_)
          have gx_41 : gi x_41 (-2147483648) 1000000 := gi_min ex_41 (gi_any x_40) (gi_c 1000000 1000000 (by decide)) (by decide)
          refine lv_goto (tgt := 46) hx hb dX6_valueHere_42 (by decide) ?_
          refine lv_istore_n (lv' := [(1, .int x_41), (3, .int r_32), (0, .ref h0), (2, .int v2)]) hx hb dX6_valueHere_46 rfl hl (by decide) rfl (fun ls hl => ?_)
          obtain ⟨x_42, ex_42⟩ : ∃ y : Int32, y = v2 + 1 := ⟨_, rfl⟩
          have gx_42 : gi x_42 1 1600 := gi_add ex_42 g_30 (gi_c 1 1 (by decide)) (by decide)
          refine lv_iinc (v := x_42) (lv' := [(2, .int x_42), (1, .int x_41), (3, .int r_32), (0, .ref h0)]) hx hb dX6_valueHere_47 hl (k := 3) rfl (by rw [ex_42]; rfl) (by decide) rfl (fun ls hl => ?_)
          refine lv_goto (tgt := 7) hx hb dX6_valueHere_50 (by decide) ?_
          exact ih x_41 x_42 _ _ _ (gi_w gx_42 (by decide)) (by have av2 := gv2.1; have bv2 := gv2.2; have qgx_42 := gx_42.1; have rgx_42 := gx_42.2; have igx_42 : x_42.toInt = v2.toInt + 1 := (by have hc1 : (1 : Int32).toInt = 1 := (by decide); have h9 := gi_addI ex_42 (by have h1 := g_30.1; have h2 := (gi_c 1 1 (by decide)).1; have h3 := g_30.2; have h4 := (gi_c 1 1 (by decide)).2; omega) (by have h1 := g_30.1; have h2 := (gi_c 1 1 (by decide)).1; have h3 := g_30.2; have h4 := (gi_c 1 1 (by decide)).2; omega); rw [hc1] at h9; exact h9); have qgv2 := g_30.1; have rgv2 := g_30.2; omega) hP hS (lv_sub hl [3, 1, 0] rfl)
set_option maxHeartbeats 4000000 in
set_option maxRecDepth 100000 in
theorem sX6_valueHere (l : Launch) (dC : Nat → ClassId) (dI : Nat → Nat → Nat) (h0 : Nat) (tp : Nat) (bt : Nat) (dr : Nat) (q_faultKind : Int32) (q_faultPlace : Int32) (q_token : Int32) (q_start : Int32) (q_stop : Int32) (b_length : Int32) (kbt : ClassId) (fbt : Nat → Int32) (gq_faultKind : gi q_faultKind 0 3) (gq_start : gi q_start 0 1600) (gq_stop : gi q_stop 0 1600) (gb_length : gi b_length 0 1600) : Met l yX6_valueHere (.code yX6_valueHere cX6_valueHere 4 (some .int) :: wsGA) ({ frames := 1, cells := 0, slots := 0, locals := 21 }) (va_Pc [.ref h0] (fun U => va_P (dC, dI) vwCl [(h0, .inr (6, [.ref tp, .ref dr, .int q_faultKind, .int q_faultPlace, .int q_token, .int q_start, .int q_stop])), (tp, .inr (10, [.ref bt, .int b_length])), (bt, .inl (kbt, 1600, .inl fbt))] U.heap ∧ va_K (dC, dI) vwCl [(kbt, .byte)] U ∧ nzA U)) (va_Qi (fun (r : Int32) (u : Unit) => gi r (-2147483648) 2147483647) (fun _ _ => True) (fun _ => False)) 0 0 (fun _ => False) := by
  refine Met.ofW (cc := cX6_valueHere) (maxL := 4) (ret := (some .int)) (by decide) rfl ?_
  intro p e s m args below meth c s₁ B hml hv
  obtain ⟨rfl, hP, hK, hz⟩ := hv
  have hx := B.exec
  have hb := B.bytes
  have hr := B.returns
  have hts := atoms_spec (ws := (.code yX6_valueHere cX6_valueHere 4 (some .int) :: wsGA)) B.pre
  have hown : s.vm.findClass RX6 = some m.cls := findClass_of_methodNamed B.named
  have hlocks := B.notSynchronized
  have hS : va_S (fun _ => False) s.heap s.heap [] := va_S.rf
  have hl := lv_entry ([.ref h0]) (n := 4) (Nat.le_of_ble_eq_true rfl)
  rw [lg_entry_eq]
  generalize (lg_sl ([.ref h0]) ++ List.replicate (4 - (lg_sl ([.ref h0])).length) Slot.unset).toArray = ls at hl ⊢
  have hl : lv_has ls 4 [(0, .ref h0)] := hl
  refine lv_iconst (v := 0) hx hb dX6_valueHere_0 (by decide) ?_
  refine lv_istore_n (lv' := [(1, .int 0), (0, .ref h0)]) hx hb dX6_valueHere_1 rfl hl (by decide) rfl (fun ls hl => ?_)
  refine lv_aload_n hx hb dX6_valueHere_2 rfl (lv_at hl 1 rfl) ?_
  refine va_get (D := (dC, dI)) (ci := 6) (v := .int q_start) (C := RX6) (T := TX6) (N := 7) hx hb hts (fun w h => List.mem_cons_of_mem _ (jnGA_X6 w h)) hown hK hP 0 rfl rfl 5 (by decide) (hts _ (List.mem_cons_of_mem _ mGA_58)) (fun _ h9 => h9) rfl dX6_valueHere_3 ?_
  refine lv_istore_n (lv' := [(2, .int q_start), (1, .int 0), (0, .ref h0)]) hx hb dX6_valueHere_6 rfl hl (by decide) rfl (fun ls hl => ?_)
  refine (lp_sX6_valueHere h0 tp bt dr q_faultKind q_faultPlace q_token q_start q_stop b_length kbt fbt gq_faultKind gq_start gq_stop gb_length hx hb hml hown hts hK hz (Nat.le_of_ble_eq_true rfl) (Nat.le_of_ble_eq_true rfl) (Nat.zero_le _) (Nat.zero_le _) (fun v H locs ls hP hS hl => ?_) 3214) 0 q_start _ _ _ gq_start (by have qgq_start := gq_start.1; have rgq_start := gq_start.2; omega) hP hS (lv_sub hl [2, 1, 0] rfl)
  · skip
    exact W.iret (v := v) hx hb hr (fun t ht hW => ⟨⟨v, (), rfl, (gi_any v), trivial⟩, hS.F ht⟩) hS.2.2 dX6_valueHere_54
