theorem dX6_isWord_0 : decode cX6_isWord 0 = .ok (.aload_n 0, 1) := by decide +kernel
theorem dX6_isWord_1 : decode cX6_isWord 1 = .ok (.getfield 32, 3) := by decide +kernel
theorem dX6_isWord_4 : decode cX6_isWord 4 = .ok (.iconst 2, 1) := by decide +kernel
theorem dX6_isWord_5 : decode cX6_isWord 5 = .ok (.if_icmp .ne 19, 3) := by decide +kernel
theorem dX6_isWord_8 : decode cX6_isWord 8 = .ok (.aload_n 0, 1) := by decide +kernel
theorem dX6_isWord_9 : decode cX6_isWord 9 = .ok (.getfield 38, 3) := by decide +kernel
theorem dX6_isWord_12 : decode cX6_isWord 12 = .ok (.aload_n 0, 1) := by decide +kernel
theorem dX6_isWord_13 : decode cX6_isWord 13 = .ok (.getfield 35, 3) := by decide +kernel
theorem dX6_isWord_16 : decode cX6_isWord 16 = .ok (.isub, 1) := by decide +kernel
theorem dX6_isWord_17 : decode cX6_isWord 17 = .ok (.aload_n 1, 1) := by decide +kernel
theorem dX6_isWord_18 : decode cX6_isWord 18 = .ok (.invokevirtual 196, 3) := by decide +kernel
theorem dX6_isWord_21 : decode cX6_isWord 21 = .ok (.if_icmp .eq 5, 3) := by decide +kernel
theorem dX6_isWord_24 : decode cX6_isWord 24 = .ok (.iconst 0, 1) := by decide +kernel
theorem dX6_isWord_25 : decode cX6_isWord 25 = .ok (.ireturn, 1) := by decide +kernel
theorem dX6_isWord_26 : decode cX6_isWord 26 = .ok (.iconst 0, 1) := by decide +kernel
theorem dX6_isWord_27 : decode cX6_isWord 27 = .ok (.istore_n 2, 1) := by decide +kernel
theorem dX6_isWord_28 : decode cX6_isWord 28 = .ok (.iload_n 2, 1) := by decide +kernel
theorem dX6_isWord_29 : decode cX6_isWord 29 = .ok (.aload_n 1, 1) := by decide +kernel
theorem dX6_isWord_30 : decode cX6_isWord 30 = .ok (.invokevirtual 196, 3) := by decide +kernel
theorem dX6_isWord_33 : decode cX6_isWord 33 = .ok (.if_icmp .ge 29, 3) := by decide +kernel
theorem dX6_isWord_36 : decode cX6_isWord 36 = .ok (.aload_n 0, 1) := by decide +kernel
theorem dX6_isWord_37 : decode cX6_isWord 37 = .ok (.aload_n 0, 1) := by decide +kernel
theorem dX6_isWord_38 : decode cX6_isWord 38 = .ok (.getfield 35, 3) := by decide +kernel
theorem dX6_isWord_41 : decode cX6_isWord 41 = .ok (.iload_n 2, 1) := by decide +kernel
theorem dX6_isWord_42 : decode cX6_isWord 42 = .ok (.iadd, 1) := by decide +kernel
theorem dX6_isWord_43 : decode cX6_isWord 43 = .ok (.invokevirtual 181, 3) := by decide +kernel
theorem dX6_isWord_46 : decode cX6_isWord 46 = .ok (.aload_n 1, 1) := by decide +kernel
theorem dX6_isWord_47 : decode cX6_isWord 47 = .ok (.iload_n 2, 1) := by decide +kernel
theorem dX6_isWord_48 : decode cX6_isWord 48 = .ok (.invokevirtual 201, 3) := by decide +kernel
theorem dX6_isWord_51 : decode cX6_isWord 51 = .ok (.if_icmp .eq 5, 3) := by decide +kernel
theorem dX6_isWord_54 : decode cX6_isWord 54 = .ok (.iconst 0, 1) := by decide +kernel
theorem dX6_isWord_55 : decode cX6_isWord 55 = .ok (.ireturn, 1) := by decide +kernel
theorem dX6_isWord_56 : decode cX6_isWord 56 = .ok (.iinc 2 1, 3) := by decide +kernel
theorem dX6_isWord_59 : decode cX6_isWord 59 = .ok (.goto (-31), 3) := by decide +kernel
theorem dX6_isWord_62 : decode cX6_isWord 62 = .ok (.iconst 1, 1) := by decide +kernel
theorem dX6_isWord_63 : decode cX6_isWord 63 = .ok (.ireturn, 1) := by decide +kernel
set_option maxHeartbeats 4000000 in
set_option maxRecDepth 100000 in
theorem lp_sX6_isWord {p : Program} {l : Launch} {e : Env} {R : Room} {s : State} {m : MethodId} {args : Array Value} {below : List Frame} {meth : Method} {c : Code} {Q : State → Prop} {A : Nat → Prop} {cells slots : Nat} {dC : Nat → ClassId} {dI : Nat → Nat → Nat} (h0 : Nat) (tp : Nat) (bt : Nat) (dr : Nat) (q_faultKind : Int32) (q_faultPlace : Int32) (q_token : Int32) (q_start : Int32) (q_stop : Int32) (b_length : Int32) (kbt : ClassId) (fbt : Nat → Int32) (sa : Nat → Nat) (sb : Nat → Nat) (zf : Value) (wi : Nat) (gq_faultKind : gi q_faultKind 0 3) (gq_start : gi q_start 0 1600) (gq_stop : gi q_stop 0 1600) (gb_length : gi b_length 0 1600) (hwi : wi < 18) (hx : p.tables.exec = Jvm.exec) (hb : c.code = cX6_isWord) (hml : c.maxLocals = 3) (hown : s.vm.findClass RX6 = some m.cls) (hts : ∀ w ∈ ((.code yX6_isWord cX6_isWord 3 (some .boolean) :: wsGA) : List Cond), w.before args s = true) (hK : va_K (dC, dI) vwCl [(kbt, .byte)] s) (hz : nzA s) (hT : gz_ST RX6 stIA sa sb zf A s s.heap) (hRf : 4 ≤ R.frames) (hRl : 85 ≤ R.locals) (hRc : cells ≤ R.cells) (hRs : slots ≤ R.slots) (kr25 : ∀ (v : Int32) (H : Heap) (locs : List Loc) (ls : Array Slot), gi v 0 0 → va_P (dC, dI) vwCl [(h0, .inr (6, [.ref tp, .ref dr, .int q_faultKind, .int q_faultPlace, .int q_token, .int q_start, .int q_stop])), (tp, .inr (10, [.ref bt, .int b_length])), (bt, .inl (kbt, 1600, .inl fbt))] H → va_S A s.heap H locs → lv_has ls 3 [] → W p l e R s m args below meth c H locs cells slots Q (F0 m 25 ls [.int v])) (kr63 : ∀ (v : Int32) (H : Heap) (locs : List Loc) (ls : Array Slot), gi v 1 1 → va_P (dC, dI) vwCl [(h0, .inr (6, [.ref tp, .ref dr, .int q_faultKind, .int q_faultPlace, .int q_token, .int q_start, .int q_stop])), (tp, .inr (10, [.ref bt, .int b_length])), (bt, .inl (kbt, 1600, .inl fbt))] H → va_S A s.heap H locs → lv_has ls 3 [] → W p l e R s m args below meth c H locs cells slots Q (F0 m 63 ls [.int v])) (kr55 : ∀ (v : Int32) (H : Heap) (locs : List Loc) (ls : Array Slot), gi v 0 0 → va_P (dC, dI) vwCl [(h0, .inr (6, [.ref tp, .ref dr, .int q_faultKind, .int q_faultPlace, .int q_token, .int q_start, .int q_stop])), (tp, .inr (10, [.ref bt, .int b_length])), (bt, .inl (kbt, 1600, .inl fbt))] H → va_S A s.heap H locs → lv_has ls 3 [] → W p l e R s m args below meth c H locs cells slots Q (F0 m 55 ls [.int v])) : ∀ z : Nat, (∀ (v2 : Int32) (H : Heap) (locs : List Loc) (ls : Array Slot), gi v2 0 8 → 17 + (-2) * v2.toInt < (z : Int) → va_P (dC, dI) vwCl [(h0, .inr (6, [.ref tp, .ref dr, .int q_faultKind, .int q_faultPlace, .int q_token, .int q_start, .int q_stop])), (tp, .inr (10, [.ref bt, .int b_length])), (bt, .inl (kbt, 1600, .inl fbt))] H → va_S A s.heap H locs → lv_has ls 3 [(0, .ref h0), (1, .ref (sa wi)), (2, .int v2)] → W p l e R s m args below meth c H locs cells slots Q (F0 m 28 ls [])) := by
  intro z
  induction z with
  | zero =>
    intro v2 H locs ls gv2 hmu hP hS hl
    exact absurd hmu (by have hv21 := gv2.1; have hv22 := gv2.2; omega)
  | succ z ih =>
      intro v2 H locs ls gv2 hmu hP hS hl
      refine lv_iload_n hx hb dX6_isWord_28 rfl (lv_at hl 2 rfl) ?_
      refine lv_aload_n hx hb dX6_isWord_29 rfl (lv_at hl 1 rfl) ?_
      refine va_calli (va_runV (As := []) (rest := [.int v2]) ⟨hx, hb, hml, hown, hts⟩ (sJ0_lengthA l (sa wi) (sb wi) (stL wi) zf (stL_len wi hwi)) (cwV 0 hts (gz_gV mGA_201 mGA_202 mGA_203 mGA_204 mGA_205 goodGA) rfl rfl rfl (by decide +kernel) ⟨Nat.le_trans (Nat.le_of_ble_eq_true rfl) hRf, Nat.le_trans (Nat.le_of_ble_eq_true rfl) hRl⟩) ⟨fun a U g mk q => ⟨q.1, gz_sp.moved (u := U) (U := U.calling g mk a) (Vm.Alike.refl U.vm) q.2⟩, (by obtain ⟨cell, h1, h2, h3, -⟩ := ((hT.2 wi hwi).2).2.2.1.kept hS.2.1; exact ⟨cell, h1, h2, h3⟩), fun U hU hW => ⟨rfl, by show gz_sp _ _ _ _ _ U U.heap; rw [hU]; exact gz_sp.moved hW.alike (((hT.2 wi hwi).2.kept hS.2.1).narrow (fun _ h => h.elim))⟩⟩ rfl rfl hl.1 rfl (lv_room (Nat.le_of_ble_eq_true rfl)) dX6_isWord_30 ⟨hRc, hRs⟩) hS (fun q _ h => h.elim) (fun q h => h.elim) (fun r_185 u t H1 locs ht hvm hw hB hz1 hk1 hS => ?_)
      have hP := gz_keep hP hk1
      generalize H1 = H at hP hS ⊢
      have gr_185 : gi r_185 0 7 := gz_len hw (stL_len wi hwi)
      have hnr_185 : r_185.toInt = ((stL wi).length : Int) := gz_lenI hw (stL_len wi hwi)
      refine lv_icmp_ge (tgt := 62) hx hb dX6_isWord_33 (by decide) (fun c_186 => ?_) (fun c_186 => ?_)
      · have hc_187 : r_185.toInt ≤ v2.toInt := by have h9 := Int32.le_iff_toInt_le.mp c_186; exact h9
        refine lv_iconst (v := 1) hx hb dX6_isWord_62 (by decide) ?_
        exact kr63 1 _ _ _ (gi_c 1 1 (by decide)) hP hS (lv_sub hl [] rfl)
      · have hc_188 : v2.toInt < r_185.toInt := by have h9 := Int32.lt_iff_toInt_lt.mp (Int32.not_le.mp c_186); exact h9
        have g_189 : gi v2 0 6 := gi_lt_l (Int32.not_le.mp c_186) gv2 gr_185 (by decide)
        have g_190 : gi r_185 1 7 := gi_lt_r (Int32.not_le.mp c_186) gv2 gr_185 (by decide)
        refine lv_aload_n hx hb dX6_isWord_36 rfl (lv_at hl 0 rfl) ?_
        refine lv_aload_n hx hb dX6_isWord_37 rfl (lv_at hl 0 rfl) ?_
        refine va_get (D := (dC, dI)) (ci := 6) (v := .int q_start) (C := RX6) (T := TX6) (N := 7) hx hb hts (fun w h => List.mem_cons_of_mem _ (jnGA_X6 w h)) hown hK hP 0 rfl rfl 5 (by decide) (hts _ (List.mem_cons_of_mem _ mGA_58)) (fun _ h9 => h9) rfl dX6_isWord_38 ?_
        refine lv_iload_n hx hb dX6_isWord_41 rfl (lv_at hl 2 rfl) ?_
        refine lv_iadd hx hb dX6_isWord_42 ?_
        refine lv_topi (fun x_191 ex_191 => ?_)
        have gx_191 : gi x_191 0 1606 := gi_add ex_191 gq_start g_189 (by decide)
        have hPc := hP.sub (ws' := [(h0, .inr (6, [.ref tp, .ref dr, .int q_faultKind, .int q_faultPlace, .int q_token, .int q_start, .int q_stop])), (tp, .inr (10, [.ref bt, .int b_length])), (bt, .inl (kbt, 1600, .inl fbt))]) [0, 1, 2] rfl
        have hKc := hK.sub (tys' := [(kbt, .byte)]) [0] rfl
        refine va_calli (va_runV (As := [.int x_191]) (rest := []) ⟨hx, hb, hml, hown, hts⟩ (sX6_byteAt l dC dI h0 tp bt dr q_faultKind q_faultPlace q_token q_start q_stop b_length kbt fbt x_191 gq_faultKind gq_start gq_stop gb_length) (cwV 1 hts (gz_gV mGA_167 mGA_168 mGA_169 mGA_9 mGA_170 goodGA) rfl rfl rfl (by decide +kernel) ⟨Nat.le_trans (Nat.le_of_ble_eq_true rfl) hRf, Nat.le_trans (Nat.le_of_ble_eq_true rfl) hRl⟩) ⟨fun a U g mk q => by obtain ⟨q0, qP, qK, qZ⟩ := q; exact ⟨q0, qP, va_K.moved (u := U) (U := U.calling g mk a) (Vm.Alike.refl U.vm) qK, nzA_same (u := U) (U := U.calling g mk a) rfl qZ⟩, va_recv hKc hPc (ci := 6) (q0 := 0) rfl rfl, fun U hU hW => ⟨rfl, by rw [hU]; exact hPc, va_K.moved hW.alike hKc, nzA_warm hW hz⟩⟩ rfl rfl hl.1 rfl (lv_room (Nat.le_of_ble_eq_true rfl)) dX6_isWord_43 ⟨hRc, hRs⟩) hS (fun q _ h => h.elim) (fun q h => h.elim) (fun r_192 u t H1 locs ht hvm hw hB hz1 hk1 hS => ?_)
        have hP := gz_keep hP hk1
        generalize H1 = H at hP hS ⊢
        refine lv_aload_n hx hb dX6_isWord_46 rfl (lv_at hl 1 rfl) ?_
        refine lv_iload_n hx hb dX6_isWord_47 rfl (lv_at hl 2 rfl) ?_
        refine va_calli (va_runV (As := [.int v2]) (rest := [.int r_192]) ⟨hx, hb, hml, hown, hts⟩ (sJ0_charAtA l (sa wi) (sb wi) (stL wi) zf hT.1 (stL_len wi hwi) v2 (gz_nlt0 (by have qgv2 := g_189.1; have rgv2 := g_189.2; have qgr_185 := g_190.1; have rgr_185 := g_190.2; omega)) (gz_chi (by have qgv2 := g_189.1; have rgv2 := g_189.2; have qgr_185 := g_190.1; have rgr_185 := g_190.2; omega) (by have qgv2 := g_189.1; have rgv2 := g_189.2; have qgr_185 := g_190.1; have rgr_185 := g_190.2; omega))) (cwV 1 hts (gz_gV mGA_213 mGA_214 mGA_215 mGA_204 mGA_216 goodGA) rfl rfl rfl (by decide +kernel) ⟨Nat.le_trans (Nat.le_of_ble_eq_true rfl) hRf, Nat.le_trans (Nat.le_of_ble_eq_true rfl) hRl⟩) ⟨fun a U g mk q => ⟨q.1, gz_sp.moved (u := U) (U := U.calling g mk a) (Vm.Alike.refl U.vm) q.2⟩, (by obtain ⟨cell, h1, h2, h3, -⟩ := ((hT.2 wi hwi).2).2.2.1.kept hS.2.1; exact ⟨cell, h1, h2, h3⟩), fun U hU hW => ⟨rfl, by show gz_sp _ _ _ _ _ U U.heap; rw [hU]; exact gz_sp.moved hW.alike (((hT.2 wi hwi).2.kept hS.2.1).narrow (fun _ h => h.elim))⟩⟩ rfl rfl hl.1 rfl (lv_room (Nat.le_of_ble_eq_true rfl)) dX6_isWord_48 ⟨hRc, hRs⟩) hS (fun q _ h => h.elim) (fun q h => h.elim) (fun r_193 u t H1 locs ht hvm hw hB hz1 hk1 hS => ?_)
        have hP := gz_keep hP hk1
        generalize H1 = H at hP hS ⊢
        have her_193 : r_193 = (stL wi).getD v2.toNatClampNeg 0 &&& 255 := hw
        refine lv_icmp_eq (tgt := 56) hx hb dX6_isWord_51 (by decide) (fun c_194 => ?_) (fun c_194 => ?_)
        · have hc_195 : r_192.toInt = r_193.toInt := by have h9 := congrArg Int32.toInt c_194; exact h9
          obtain ⟨x_196, ex_196⟩ : ∃ y : Int32, y = v2 + 1 := ⟨_, rfl⟩
          have gx_196 : gi x_196 1 7 := gi_add ex_196 g_189 (gi_c 1 1 (by decide)) (by decide)
          refine lv_iinc (v := x_196) (lv' := [(2, .int x_196), (0, .ref h0), (1, .ref (sa wi))]) hx hb dX6_isWord_56 hl (k := 2) rfl (by rw [ex_196]; rfl) (by decide) rfl (fun ls hl => ?_)
          refine lv_goto (tgt := 28) hx hb dX6_isWord_59 (by decide) ?_
          exact ih x_196 _ _ _ (gi_w gx_196 (by decide)) (by have av2 := gv2.1; have bv2 := gv2.2; have qgx_196 := gx_196.1; have rgx_196 := gx_196.2; have igx_196 : x_196.toInt = v2.toInt + 1 := (by have hc1 : (1 : Int32).toInt = 1 := (by decide); have h9 := gi_addI ex_196 (by have h1 := g_189.1; have h2 := (gi_c 1 1 (by decide)).1; have h3 := g_189.2; have h4 := (gi_c 1 1 (by decide)).2; omega) (by have h1 := g_189.1; have h2 := (gi_c 1 1 (by decide)).1; have h3 := g_189.2; have h4 := (gi_c 1 1 (by decide)).2; omega); rw [hc1] at h9; exact h9); have qgv2 := g_189.1; have rgv2 := g_189.2; omega) hP hS (lv_sub hl [1, 2, 0] rfl)
        · have hc_197 : r_192.toInt ≠ r_193.toInt := fun h9 => c_194 (Int32.toInt_inj.mp (by exact h9))
          refine lv_iconst (v := 0) hx hb dX6_isWord_54 (by decide) ?_
          exact kr55 0 _ _ _ (gi_c 0 0 (by decide)) hP hS (lv_sub hl [] rfl)
set_option maxHeartbeats 4000000 in
set_option maxRecDepth 100000 in
theorem sX6_isWord (l : Launch) (dC : Nat → ClassId) (dI : Nat → Nat → Nat) (h0 : Nat) (tp : Nat) (bt : Nat) (dr : Nat) (q_faultKind : Int32) (q_faultPlace : Int32) (q_token : Int32) (q_start : Int32) (q_stop : Int32) (b_length : Int32) (kbt : ClassId) (fbt : Nat → Int32) (sa : Nat → Nat) (sb : Nat → Nat) (zf : Value) (wi : Nat) (gq_faultKind : gi q_faultKind 0 3) (gq_start : gi q_start 0 1600) (gq_stop : gi q_stop 0 1600) (gb_length : gi b_length 0 1600) (hwi : wi < 18) : Met l yX6_isWord (.code yX6_isWord cX6_isWord 3 (some .boolean) :: wsGA) ({ frames := 4, cells := 0, slots := 0, locals := 85 }) (va_Pc [.ref h0, .ref (sa wi)] (fun U => va_P (dC, dI) vwCl [(h0, .inr (6, [.ref tp, .ref dr, .int q_faultKind, .int q_faultPlace, .int q_token, .int q_start, .int q_stop])), (tp, .inr (10, [.ref bt, .int b_length])), (bt, .inl (kbt, 1600, .inl fbt))] U.heap ∧ va_K (dC, dI) vwCl [(kbt, .byte)] U ∧ nzA U ∧ gz_ST RX6 stIA sa sb zf (fun _ => False) U U.heap)) (va_Qi (fun (r : Int32) (u : Unit) => gi r 0 1) (fun _ _ => True) (fun _ => False)) 0 0 (fun _ => False) := by
  refine Met.ofW (cc := cX6_isWord) (maxL := 3) (ret := (some .boolean)) (by decide) rfl ?_
  intro p e s m args below meth c s₁ B hml hv
  obtain ⟨rfl, hP, hK, hz, hT⟩ := hv
  have hx := B.exec
  have hb := B.bytes
  have hr := B.returns
  have hts := atoms_spec (ws := (.code yX6_isWord cX6_isWord 3 (some .boolean) :: wsGA)) B.pre
  have hown : s.vm.findClass RX6 = some m.cls := findClass_of_methodNamed B.named
  have hlocks := B.notSynchronized
  have hS : va_S (fun _ => False) s.heap s.heap [] := va_S.rf
  have hl := lv_entry ([.ref h0, .ref (sa wi)]) (n := 3) (Nat.le_of_ble_eq_true rfl)
  rw [lg_entry_eq]
  generalize (lg_sl ([.ref h0, .ref (sa wi)]) ++ List.replicate (3 - (lg_sl ([.ref h0, .ref (sa wi)])).length) Slot.unset).toArray = ls at hl ⊢
  have hl : lv_has ls 3 [(0, .ref h0), (1, .ref (sa wi))] := hl
  refine lv_aload_n hx hb dX6_isWord_0 rfl (lv_at hl 0 rfl) ?_
  refine va_get (D := (dC, dI)) (ci := 6) (v := .int q_token) (C := RX6) (T := TX6) (N := 7) hx hb hts (fun w h => List.mem_cons_of_mem _ (jnGA_X6 w h)) hown hK hP 0 rfl rfl 4 (by decide) (hts _ (List.mem_cons_of_mem _ mGA_57)) (fun _ h9 => h9) rfl dX6_isWord_1 ?_
  refine lv_iconst (v := 2) hx hb dX6_isWord_4 (by decide) ?_
  refine lv_icmp_ne (tgt := 24) hx hb dX6_isWord_5 (by decide) (fun c_198 => ?_) (fun c_198 => ?_)
  · have hc_199 : q_token.toInt ≠ 2 := fun h9 => c_198 (Int32.toInt_inj.mp (by rw [show (2 : Int32).toInt = 2 from by decide]; exact h9))
    refine lv_iconst (v := 0) hx hb dX6_isWord_24 (by decide) ?_
    exact W.zret (v := 0) hx hb hr (by decide) (fun t ht hW => ⟨⟨0, (), rfl, (gi_w (gi_c 0 0 (by decide)) (by decide)), trivial⟩, hS.F ht⟩) hS.2.2 dX6_isWord_25
  · have hc_200 : q_token.toInt = 2 := by have h9 := congrArg Int32.toInt c_198; rw [show (2 : Int32).toInt = 2 from by decide] at h9; exact h9
    have g_201 : gi q_token 2 2 := gi_eq c_198 (gi_c 2 2 (by decide))
    refine lv_aload_n hx hb dX6_isWord_8 rfl (lv_at hl 0 rfl) ?_
    refine va_get (D := (dC, dI)) (ci := 6) (v := .int q_stop) (C := RX6) (T := TX6) (N := 7) hx hb hts (fun w h => List.mem_cons_of_mem _ (jnGA_X6 w h)) hown hK hP 0 rfl rfl 6 (by decide) (hts _ (List.mem_cons_of_mem _ mGA_59)) (fun _ h9 => h9) rfl dX6_isWord_9 ?_
    refine lv_aload_n hx hb dX6_isWord_12 rfl (lv_at hl 0 rfl) ?_
    refine va_get (D := (dC, dI)) (ci := 6) (v := .int q_start) (C := RX6) (T := TX6) (N := 7) hx hb hts (fun w h => List.mem_cons_of_mem _ (jnGA_X6 w h)) hown hK hP 0 rfl rfl 5 (by decide) (hts _ (List.mem_cons_of_mem _ mGA_58)) (fun _ h9 => h9) rfl dX6_isWord_13 ?_
    refine lv_isub hx hb dX6_isWord_16 ?_
    refine lv_topi (fun x_202 ex_202 => ?_)
    have gx_202 : gi x_202 (-1600) 1600 := gi_sub ex_202 gq_stop gq_start (by decide)
    refine lv_aload_n hx hb dX6_isWord_17 rfl (lv_at hl 1 rfl) ?_
    refine va_calli (va_runV (As := []) (rest := [.int x_202]) ⟨hx, hb, hml, hown, hts⟩ (sJ0_lengthA l (sa wi) (sb wi) (stL wi) zf (stL_len wi hwi)) (cwV 0 hts (gz_gV mGA_201 mGA_202 mGA_203 mGA_204 mGA_205 goodGA) rfl rfl rfl (by decide +kernel) ⟨Nat.le_of_ble_eq_true rfl, Nat.le_of_ble_eq_true rfl⟩) ⟨fun a U g mk q => ⟨q.1, gz_sp.moved (u := U) (U := U.calling g mk a) (Vm.Alike.refl U.vm) q.2⟩, (by obtain ⟨cell, h1, h2, h3, -⟩ := ((hT.2 wi hwi).2).2.2.1.kept hS.2.1; exact ⟨cell, h1, h2, h3⟩), fun U hU hW => ⟨rfl, by show gz_sp _ _ _ _ _ U U.heap; rw [hU]; exact gz_sp.moved hW.alike (((hT.2 wi hwi).2.kept hS.2.1).narrow (fun _ h => h.elim))⟩⟩ rfl rfl hl.1 rfl (lv_room (Nat.le_of_ble_eq_true rfl)) dX6_isWord_18 ⟨Nat.zero_le _, Nat.zero_le _⟩) hS (fun q _ h => h.elim) (fun q h => h.elim) (fun r_203 u t H1 locs ht hvm hw hB hz1 hk1 hS => ?_)
    have hP := gz_keep hP hk1
    generalize H1 = H at hP hS ⊢
    have gr_203 : gi r_203 0 7 := gz_len hw (stL_len wi hwi)
    have hnr_203 : r_203.toInt = ((stL wi).length : Int) := gz_lenI hw (stL_len wi hwi)
    refine lv_icmp_eq (tgt := 26) hx hb dX6_isWord_21 (by decide) (fun c_204 => ?_) (fun c_204 => ?_)
    · have hc_205 : x_202.toInt = r_203.toInt := by have h9 := congrArg Int32.toInt c_204; exact h9
      have g_206 : gi x_202 0 7 := gi_eq c_204 gr_203
      refine lv_iconst (v := 0) hx hb dX6_isWord_26 (by decide) ?_
      refine lv_istore_n (lv' := [(2, .int 0), (0, .ref h0), (1, .ref (sa wi))]) hx hb dX6_isWord_27 rfl hl (by decide) rfl (fun ls hl => ?_)
      refine (lp_sX6_isWord h0 tp bt dr q_faultKind q_faultPlace q_token q_start q_stop b_length kbt fbt sa sb zf wi gq_faultKind gq_start gq_stop gb_length hwi hx hb hml hown hts hK hz hT (Nat.le_of_ble_eq_true rfl) (Nat.le_of_ble_eq_true rfl) (Nat.zero_le _) (Nat.zero_le _) (fun v H locs ls gv hP hS hl => ?_) (fun v H locs ls gv hP hS hl => ?_) (fun v H locs ls gv hP hS hl => ?_) 30) 0 _ _ _ (gi_w (gi_c 0 0 (by decide)) (by decide)) (by have k0 : (0 : Int32).toInt = 0 := (by decide); omega) hP hS (lv_sub hl [1, 2, 0] rfl)
      · skip
        exact W.zret (v := v) hx hb hr (gz_nb (gi_w gv (by decide))) (fun t ht hW => ⟨⟨v, (), rfl, (gi_w gv (by decide)), trivial⟩, hS.F ht⟩) hS.2.2 dX6_isWord_25
      · skip
        exact W.zret (v := v) hx hb hr (gz_nb (gi_w gv (by decide))) (fun t ht hW => ⟨⟨v, (), rfl, (gi_w gv (by decide)), trivial⟩, hS.F ht⟩) hS.2.2 dX6_isWord_63
      · skip
        exact W.zret (v := v) hx hb hr (gz_nb (gi_w gv (by decide))) (fun t ht hW => ⟨⟨v, (), rfl, (gi_w gv (by decide)), trivial⟩, hS.F ht⟩) hS.2.2 dX6_isWord_55
    · have hc_207 : x_202.toInt ≠ r_203.toInt := fun h9 => c_204 (Int32.toInt_inj.mp (by exact h9))
      refine lv_iconst (v := 0) hx hb dX6_isWord_24 (by decide) ?_
      exact W.zret (v := 0) hx hb hr (by decide) (fun t ht hW => ⟨⟨0, (), rfl, (gi_w (gi_c 0 0 (by decide)) (by decide)), trivial⟩, hS.F ht⟩) hS.2.2 dX6_isWord_25
