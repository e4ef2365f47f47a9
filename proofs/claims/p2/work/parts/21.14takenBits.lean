theorem dX12_takenBits_0 : decode cX12_takenBits 0 = .ok (.iconst 0, 1) := by decide +kernel
theorem dX12_takenBits_1 : decode cX12_takenBits 1 = .ok (.istore_n 1, 1) := by decide +kernel
theorem dX12_takenBits_2 : decode cX12_takenBits 2 = .ok (.iconst 0, 1) := by decide +kernel
theorem dX12_takenBits_3 : decode cX12_takenBits 3 = .ok (.istore_n 2, 1) := by decide +kernel
theorem dX12_takenBits_4 : decode cX12_takenBits 4 = .ok (.iload_n 2, 1) := by decide +kernel
theorem dX12_takenBits_5 : decode cX12_takenBits 5 = .ok (.aload_n 0, 1) := by decide +kernel
theorem dX12_takenBits_6 : decode cX12_takenBits 6 = .ok (.getfield 141, 3) := by decide +kernel
theorem dX12_takenBits_9 : decode cX12_takenBits 9 = .ok (.if_icmp .ge 28, 3) := by decide +kernel
theorem dX12_takenBits_12 : decode cX12_takenBits 12 = .ok (.iload_n 1, 1) := by decide +kernel
theorem dX12_takenBits_13 : decode cX12_takenBits 13 = .ok (.aload_n 0, 1) := by decide +kernel
theorem dX12_takenBits_14 : decode cX12_takenBits 14 = .ok (.getfield 69, 3) := by decide +kernel
theorem dX12_takenBits_17 : decode cX12_takenBits 17 = .ok (.iload_n 2, 1) := by decide +kernel
theorem dX12_takenBits_18 : decode cX12_takenBits 18 = .ok (.iaload, 1) := by decide +kernel
theorem dX12_takenBits_19 : decode cX12_takenBits 19 = .ok (.ifCond .ne 9, 3) := by decide +kernel
theorem dX12_takenBits_22 : decode cX12_takenBits 22 = .ok (.iconst 1, 1) := by decide +kernel
theorem dX12_takenBits_23 : decode cX12_takenBits 23 = .ok (.iload_n 2, 1) := by decide +kernel
theorem dX12_takenBits_24 : decode cX12_takenBits 24 = .ok (.ishl, 1) := by decide +kernel
theorem dX12_takenBits_25 : decode cX12_takenBits 25 = .ok (.goto 4, 3) := by decide +kernel
theorem dX12_takenBits_28 : decode cX12_takenBits 28 = .ok (.iconst 0, 1) := by decide +kernel
theorem dX12_takenBits_29 : decode cX12_takenBits 29 = .ok (.ior, 1) := by decide +kernel
theorem dX12_takenBits_30 : decode cX12_takenBits 30 = .ok (.istore_n 1, 1) := by decide +kernel
theorem dX12_takenBits_31 : decode cX12_takenBits 31 = .ok (.iinc 2 1, 3) := by decide +kernel
theorem dX12_takenBits_34 : decode cX12_takenBits 34 = .ok (.goto (-30), 3) := by decide +kernel
theorem dX12_takenBits_37 : decode cX12_takenBits 37 = .ok (.iload_n 1, 1) := by decide +kernel
theorem dX12_takenBits_38 : decode cX12_takenBits 38 = .ok (.ireturn, 1) := by decide +kernel
set_option maxHeartbeats 4000000 in
set_option maxRecDepth 100000 in
theorem lp_sX12_takenBits {p : Program} {l : Launch} {e : Env} {R : Room} {s : State} {m : MethodId} {args : Array Value} {below : List Frame} {meth : Method} {c : Code} {Q : State → Prop} {A : Nat → Prop} {cells slots : Nat} {dC : Nat → ClassId} {dI : Nat → Nat → Nat} (h0 : Nat) (mi : Nat → Int32) (mr : Nat → Nat) (km_verdict : ClassId) (fm_verdict : Nat → Int32) (gmi_0 : gi (mi 0) 0 24) (gmi_1 : gi (mi 1) 0 5) (gmi_2 : gi (mi 2) 0 5) (gmi_4 : gi (mi 4) 0 1) (gmi_7 : gi (mi 7) 0 6) (gmi_10 : gi (mi 10) 0 24) (gmi_17 : gi (mi 17) 0 8) (gmi_23 : gi (mi 23) 0 300) (gmi_24 : gi (mi 24) 0 1) (gmi_26 : gi (mi 26) 0 1600) (gmi_29 : gi (mi 29) 0 1600) (gmi_30 : gi (mi 30) 0 1600) (gmi_33 : gi (mi 33) 0 1) (gmi_37 : gi (mi 37) 0 1) (gmi_41 : gi (mi 41) 0 24) (gmi_50 : gi (mi 50) 0 1) (gmi_51 : gi (mi 51) 0 1) (gmi_56 : gi (mi 56) 0 80) (hx : p.tables.exec = Jvm.exec) (hb : c.code = cX12_takenBits) (hml : c.maxLocals = 3) (hown : s.vm.findClass RX12 = some m.cls) (hts : ∀ w ∈ ((.code yX12_takenBits cX12_takenBits 3 (some .int) :: wsGB) : List Cond), w.before args s = true) (hK : va_K (dC, dI) vwCl [(km_verdict, .int)] s) (hRf : 0 ≤ R.frames) (hRl : 0 ≤ R.locals) (hRc : cells ≤ R.cells) (hRs : slots ≤ R.slots) (kr38 : ∀ (v : Int32) (H : Heap) (locs : List Loc) (ls : Array Slot), va_P (dC, dI) vwCl [(h0, .inr (12, fsMM mi mr)), ((mr 18), .inl (km_verdict, 24, .inl fm_verdict))] H → va_S A s.heap H locs → lv_has ls 3 [] → W p l e R s m args below meth c H locs cells slots Q (F0 m 38 ls [.int v])) : ∀ z : Nat, (∀ (v1 : Int32) (v2 : Int32) (H : Heap) (locs : List Loc) (ls : Array Slot), gi v2 0 24 → 49 + (-2) * v2.toInt < (z : Int) → va_P (dC, dI) vwCl [(h0, .inr (12, fsMM mi mr)), ((mr 18), .inl (km_verdict, 24, .inl fm_verdict))] H → va_S A s.heap H locs → lv_has ls 3 [(0, .ref h0), (1, .int v1), (2, .int v2)] → W p l e R s m args below meth c H locs cells slots Q (F0 m 4 ls [])) := by
  intro z
  induction z with
  | zero =>
    intro v1 v2 H locs ls gv2 hmu hP hS hl
    exact absurd hmu (by have hv21 := gv2.1; have hv22 := gv2.2; omega)
  | succ z ih =>
      intro v1 v2 H locs ls gv2 hmu hP hS hl
      refine lv_iload_n hx hb dX12_takenBits_4 rfl (lv_at hl 2 rfl) ?_
      refine lv_aload_n hx hb dX12_takenBits_5 rfl (lv_at hl 0 rfl) ?_
      refine va_get (D := (dC, dI)) (ci := 12) (v := .int (mi 10)) (C := RX12) (T := TX12) (N := 57) hx hb hts (fun w h => List.mem_cons_of_mem _ (jnGB_X12 w h)) hown hK hP 0 rfl rfl 10 (by decide) (hts _ (List.mem_cons_of_mem _ mGB_111)) (fun _ h9 => h9) rfl dX12_takenBits_6 ?_
      refine lv_icmp_ge (tgt := 37) hx hb dX12_takenBits_9 (by decide) (fun c_166 => ?_) (fun c_166 => ?_)
      · refine lv_iload_n hx hb dX12_takenBits_37 rfl (lv_at hl 1 rfl) ?_
        exact kr38 v1 _ _ _ hP hS (lv_sub hl [] rfl)
      · have g_167 : gi v2 0 23 := gi_lt_l (Int32.not_le.mp c_166) gv2 gmi_10 (by decide)
        have g_168 : gi (mi 10) 1 24 := gi_lt_r (Int32.not_le.mp c_166) gv2 gmi_10 (by decide)
        refine lv_iload_n hx hb dX12_takenBits_12 rfl (lv_at hl 1 rfl) ?_
        refine lv_aload_n hx hb dX12_takenBits_13 rfl (lv_at hl 0 rfl) ?_
        refine va_get (D := (dC, dI)) (ci := 12) (v := .ref (mr 18)) (C := RX12) (T := TX12) (N := 57) hx hb hts (fun w h => List.mem_cons_of_mem _ (jnGB_X12 w h)) hown hK hP 0 rfl rfl 39 (by decide) (hts _ (List.mem_cons_of_mem _ mGB_30)) (fun _ h9 => h9) rfl dX12_takenBits_14 ?_
        refine lv_iload_n hx hb dX12_takenBits_17 rfl (lv_at hl 2 rfl) ?_
        refine va_iald hx hb hK hP 1 0 rfl rfl (gi_in g_167 (by decide)) dX12_takenBits_18 ?_
        refine lv_topi (fun x_169 ex_169 => ?_)
        refine lv_if_ne (tgt := 28) hx hb dX12_takenBits_19 (by decide) (fun c_170 => ?_) (fun c_170 => ?_)
        · refine lv_iconst (v := 0) hx hb dX12_takenBits_28 (by decide) ?_
          refine lv_ior hx hb dX12_takenBits_29 ?_
          refine lv_topi (fun x_171 ex_171 => ?_)
          refine lv_istore_n (lv' := [(1, .int x_171), (0, .ref h0), (2, .int v2)]) hx hb dX12_takenBits_30 rfl hl (by decide) rfl (fun ls hl => ?_)
          obtain ⟨x_172, ex_172⟩ : ∃ y : Int32, y = v2 + 1 := ⟨_, rfl⟩
          have gx_172 : gi x_172 1 24 := gi_add ex_172 g_167 (gi_c 1 1 (by decide)) (by decide)
          refine lv_iinc (v := x_172) (lv' := [(2, .int x_172), (1, .int x_171), (0, .ref h0)]) hx hb dX12_takenBits_31 hl (k := 2) rfl (by rw [ex_172]; rfl) (by decide) rfl (fun ls hl => ?_)
          refine lv_goto (tgt := 4) hx hb dX12_takenBits_34 (by decide) ?_
          exact ih x_171 x_172 _ _ _ (gi_w gx_172 (by decide)) (by have av2 := gv2.1; have bv2 := gv2.2; have qgx_172 := gx_172.1; have rgx_172 := gx_172.2; have igx_172 : x_172.toInt = v2.toInt + 1 := (by have hc1 : (1 : Int32).toInt = 1 := (by decide); have h9 := gi_addI ex_172 (by have h1 := g_167.1; have h2 := (gi_c 1 1 (by decide)).1; have h3 := g_167.2; have h4 := (gi_c 1 1 (by decide)).2; omega) (by have h1 := g_167.1; have h2 := (gi_c 1 1 (by decide)).1; have h3 := g_167.2; have h4 := (gi_c 1 1 (by decide)).2; omega); rw [hc1] at h9; exact h9); have qgv2 := g_167.1; have rgv2 := g_167.2; omega) hP hS (lv_sub hl [2, 1, 0] rfl)
        · have g_173 : gi x_169 0 0 := gi_eq c_170 (gi_c 0 0 (by decide))
          refine lv_iconst (v := 1) hx hb dX12_takenBits_22 (by decide) ?_
          refine lv_iload_n hx hb dX12_takenBits_23 rfl (lv_at hl 2 rfl) ?_
          refine lv_ishl hx hb dX12_takenBits_24 ?_
          refine lv_topi (fun x_174 ex_174 => ?_)
          refine lv_goto (tgt := 29) hx hb dX12_takenBits_25 (by decide) ?_
          refine lv_ior hx hb dX12_takenBits_29 ?_
          refine lv_topi (fun x_175 ex_175 => ?_)
          refine lv_istore_n (lv' := [(1, .int x_175), (0, .ref h0), (2, .int v2)]) hx hb dX12_takenBits_30 rfl hl (by decide) rfl (fun ls hl => ?_)
          obtain ⟨x_176, ex_176⟩ : ∃ y : Int32, y = v2 + 1 := ⟨_, rfl⟩
          have gx_176 : gi x_176 1 24 := gi_add ex_176 g_167 (gi_c 1 1 (by decide)) (by decide)
          refine lv_iinc (v := x_176) (lv' := [(2, .int x_176), (1, .int x_175), (0, .ref h0)]) hx hb dX12_takenBits_31 hl (k := 2) rfl (by rw [ex_176]; rfl) (by decide) rfl (fun ls hl => ?_)
          refine lv_goto (tgt := 4) hx hb dX12_takenBits_34 (by decide) ?_
          exact ih x_175 x_176 _ _ _ (gi_w gx_176 (by decide)) (by have av2 := gv2.1; have bv2 := gv2.2; have qgx_176 := gx_176.1; have rgx_176 := gx_176.2; have igx_176 : x_176.toInt = v2.toInt + 1 := (by have hc1 : (1 : Int32).toInt = 1 := (by decide); have h9 := gi_addI ex_176 (by have h1 := g_167.1; have h2 := (gi_c 1 1 (by decide)).1; have h3 := g_167.2; have h4 := (gi_c 1 1 (by decide)).2; omega) (by have h1 := g_167.1; have h2 := (gi_c 1 1 (by decide)).1; have h3 := g_167.2; have h4 := (gi_c 1 1 (by decide)).2; omega); rw [hc1] at h9; exact h9); have qgv2 := g_167.1; have rgv2 := g_167.2; omega) hP hS (lv_sub hl [2, 1, 0] rfl)
set_option maxHeartbeats 4000000 in
set_option maxRecDepth 100000 in
theorem sX12_takenBits (l : Launch) (dC : Nat → ClassId) (dI : Nat → Nat → Nat) (h0 : Nat) (mi : Nat → Int32) (mr : Nat → Nat) (km_verdict : ClassId) (fm_verdict : Nat → Int32) (gmi_0 : gi (mi 0) 0 24) (gmi_1 : gi (mi 1) 0 5) (gmi_2 : gi (mi 2) 0 5) (gmi_4 : gi (mi 4) 0 1) (gmi_7 : gi (mi 7) 0 6) (gmi_10 : gi (mi 10) 0 24) (gmi_17 : gi (mi 17) 0 8) (gmi_23 : gi (mi 23) 0 300) (gmi_24 : gi (mi 24) 0 1) (gmi_26 : gi (mi 26) 0 1600) (gmi_29 : gi (mi 29) 0 1600) (gmi_30 : gi (mi 30) 0 1600) (gmi_33 : gi (mi 33) 0 1) (gmi_37 : gi (mi 37) 0 1) (gmi_41 : gi (mi 41) 0 24) (gmi_50 : gi (mi 50) 0 1) (gmi_51 : gi (mi 51) 0 1) (gmi_56 : gi (mi 56) 0 80) : Met l yX12_takenBits (.code yX12_takenBits cX12_takenBits 3 (some .int) :: wsGB) ({ frames := 0, cells := 0, slots := 0, locals := 0 }) (va_Pc [.ref h0] (fun U => va_P (dC, dI) vwCl [(h0, .inr (12, fsMM mi mr)), ((mr 18), .inl (km_verdict, 24, .inl fm_verdict))] U.heap ∧ va_K (dC, dI) vwCl [(km_verdict, .int)] U)) (va_Qi (fun (r : Int32) (u : Unit) => gi r (-2147483648) 2147483647) (fun _ _ => True) (fun _ => False)) 0 0 (fun _ => False) := by
  refine Met.ofW (cc := cX12_takenBits) (maxL := 3) (ret := (some .int)) (by decide) rfl ?_
  intro p e s m args below meth c s₁ B hml hv
  obtain ⟨rfl, hP, hK⟩ := hv
  have hx := B.exec
  have hb := B.bytes
  have hr := B.returns
  have hts := atoms_spec (ws := (.code yX12_takenBits cX12_takenBits 3 (some .int) :: wsGB)) B.pre
  have hown : s.vm.findClass RX12 = some m.cls := findClass_of_methodNamed B.named
  have hlocks := B.notSynchronized
  have hS : va_S (fun _ => False) s.heap s.heap [] := va_S.rf
  have hl := lv_entry ([.ref h0]) (n := 3) (Nat.le_of_ble_eq_true rfl)
  rw [lg_entry_eq]
  generalize (lg_sl ([.ref h0]) ++ List.replicate (3 - (lg_sl ([.ref h0])).length) Slot.unset).toArray = ls at hl ⊢
  have hl : lv_has ls 3 [(0, .ref h0)] := hl
  refine lv_iconst (v := 0) hx hb dX12_takenBits_0 (by decide) ?_
  refine lv_istore_n (lv' := [(1, .int 0), (0, .ref h0)]) hx hb dX12_takenBits_1 rfl hl (by decide) rfl (fun ls hl => ?_)
  refine lv_iconst (v := 0) hx hb dX12_takenBits_2 (by decide) ?_
  refine lv_istore_n (lv' := [(2, .int 0), (1, .int 0), (0, .ref h0)]) hx hb dX12_takenBits_3 rfl hl (by decide) rfl (fun ls hl => ?_)
  refine (lp_sX12_takenBits h0 mi mr km_verdict fm_verdict gmi_0 gmi_1 gmi_2 gmi_4 gmi_7 gmi_10 gmi_17 gmi_23 gmi_24 gmi_26 gmi_29 gmi_30 gmi_33 gmi_37 gmi_41 gmi_50 gmi_51 gmi_56 hx hb hml hown hts hK (Nat.le_of_ble_eq_true rfl) (Nat.le_of_ble_eq_true rfl) (Nat.zero_le _) (Nat.zero_le _) (fun v H locs ls hP hS hl => ?_) 62) 0 0 _ _ _ (gi_w (gi_c 0 0 (by decide)) (by decide)) (by have k0 : (0 : Int32).toInt = 0 := (by decide); omega) hP hS (lv_sub hl [2, 1, 0] rfl)
  · skip
    exact W.iret (v := v) hx hb hr (fun t ht hW => ⟨⟨v, (), rfl, (gi_any v), trivial⟩, hS.F ht⟩) hS.2.2 dX12_takenBits_38
