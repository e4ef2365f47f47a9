theorem dX12_unlike_0 : decode cX12_unlike 0 = .ok (.iconst 0, 1) := by decide +kernel
theorem dX12_unlike_1 : decode cX12_unlike 1 = .ok (.istore_n 1, 1) := by decide +kernel
theorem dX12_unlike_2 : decode cX12_unlike 2 = .ok (.iconst 1, 1) := by decide +kernel
theorem dX12_unlike_3 : decode cX12_unlike 3 = .ok (.istore_n 2, 1) := by decide +kernel
theorem dX12_unlike_4 : decode cX12_unlike 4 = .ok (.iload_n 2, 1) := by decide +kernel
theorem dX12_unlike_5 : decode cX12_unlike 5 = .ok (.aload_n 0, 1) := by decide +kernel
theorem dX12_unlike_6 : decode cX12_unlike 6 = .ok (.getfield 117, 3) := by decide +kernel
theorem dX12_unlike_9 : decode cX12_unlike 9 = .ok (.if_icmp .gt 34, 3) := by decide +kernel
theorem dX12_unlike_12 : decode cX12_unlike 12 = .ok (.iload_n 1, 1) := by decide +kernel
theorem dX12_unlike_13 : decode cX12_unlike 13 = .ok (.aload_n 0, 1) := by decide +kernel
theorem dX12_unlike_14 : decode cX12_unlike 14 = .ok (.getfield 87, 3) := by decide +kernel
theorem dX12_unlike_17 : decode cX12_unlike 17 = .ok (.iload_n 2, 1) := by decide +kernel
theorem dX12_unlike_18 : decode cX12_unlike 18 = .ok (.iaload, 1) := by decide +kernel
theorem dX12_unlike_19 : decode cX12_unlike 19 = .ok (.aload_n 0, 1) := by decide +kernel
theorem dX12_unlike_20 : decode cX12_unlike 20 = .ok (.getfield 90, 3) := by decide +kernel
theorem dX12_unlike_23 : decode cX12_unlike 23 = .ok (.iload_n 2, 1) := by decide +kernel
theorem dX12_unlike_24 : decode cX12_unlike 24 = .ok (.iaload, 1) := by decide +kernel
theorem dX12_unlike_25 : decode cX12_unlike 25 = .ok (.if_icmp .eq 9, 3) := by decide +kernel
theorem dX12_unlike_28 : decode cX12_unlike 28 = .ok (.iconst 1, 1) := by decide +kernel
theorem dX12_unlike_29 : decode cX12_unlike 29 = .ok (.iload_n 2, 1) := by decide +kernel
theorem dX12_unlike_30 : decode cX12_unlike 30 = .ok (.ishl, 1) := by decide +kernel
theorem dX12_unlike_31 : decode cX12_unlike 31 = .ok (.goto 4, 3) := by decide +kernel
theorem dX12_unlike_34 : decode cX12_unlike 34 = .ok (.iconst 0, 1) := by decide +kernel
theorem dX12_unlike_35 : decode cX12_unlike 35 = .ok (.ior, 1) := by decide +kernel
theorem dX12_unlike_36 : decode cX12_unlike 36 = .ok (.istore_n 1, 1) := by decide +kernel
theorem dX12_unlike_37 : decode cX12_unlike 37 = .ok (.iinc 2 1, 3) := by decide +kernel
theorem dX12_unlike_40 : decode cX12_unlike 40 = .ok (.goto (-36), 3) := by decide +kernel
theorem dX12_unlike_43 : decode cX12_unlike 43 = .ok (.iload_n 1, 1) := by decide +kernel
theorem dX12_unlike_44 : decode cX12_unlike 44 = .ok (.ireturn, 1) := by decide +kernel
set_option maxHeartbeats 4000000 in
set_option maxRecDepth 100000 in
theorem lp_sX12_unlike {p : Program} {l : Launch} {e : Env} {R : Room} {s : State} {m : MethodId} {args : Array Value} {below : List Frame} {meth : Method} {c : Code} {Q : State → Prop} {A : Nat → Prop} {cells slots : Nat} {dC : Nat → ClassId} {dI : Nat → Nat → Nat} (h0 : Nat) (mi : Nat → Int32) (mr : Nat → Nat) (km_official : ClassId) (fm_official : Nat → Int32) (km_aside : ClassId) (fm_aside : Nat → Int32) (gmi_0 : gi (mi 0) 0 24) (gmi_1 : gi (mi 1) 0 5) (gmi_2 : gi (mi 2) 0 5) (gmi_4 : gi (mi 4) 0 1) (gmi_7 : gi (mi 7) 0 6) (gmi_10 : gi (mi 10) 0 24) (gmi_17 : gi (mi 17) 0 8) (gmi_23 : gi (mi 23) 0 300) (gmi_24 : gi (mi 24) 0 1) (gmi_26 : gi (mi 26) 0 1600) (gmi_29 : gi (mi 29) 0 1600) (gmi_30 : gi (mi 30) 0 1600) (gmi_33 : gi (mi 33) 0 1) (gmi_37 : gi (mi 37) 0 1) (gmi_41 : gi (mi 41) 0 24) (gmi_50 : gi (mi 50) 0 1) (gmi_51 : gi (mi 51) 0 1) (gmi_56 : gi (mi 56) 0 80) (hx : p.tables.exec = Jvm.exec) (hb : c.code = cX12_unlike) (hml : c.maxLocals = 3) (hown : s.vm.findClass RX12 = some m.cls) (hts : ∀ w ∈ ((.code yX12_unlike cX12_unlike 3 (some .int) :: wsGB) : List Cond), w.before args s = true) (hK : va_K (dC, dI) vwCl [(km_official, .int), (km_aside, .int)] s) (hRf : 0 ≤ R.frames) (hRl : 0 ≤ R.locals) (hRc : cells ≤ R.cells) (hRs : slots ≤ R.slots) (kr44 : ∀ (v : Int32) (H : Heap) (locs : List Loc) (ls : Array Slot), va_P (dC, dI) vwCl [(h0, .inr (12, fsMM mi mr)), ((mr 20), .inl (km_official, 25, .inl fm_official)), ((mr 21), .inl (km_aside, 25, .inl fm_aside))] H → va_S A s.heap H locs → lv_has ls 3 [] → W p l e R s m args below meth c H locs cells slots Q (F0 m 44 ls [.int v])) : ∀ z : Nat, (∀ (v1 : Int32) (v2 : Int32) (H : Heap) (locs : List Loc) (ls : Array Slot), gi v2 1 25 → 51 + (-2) * v2.toInt < (z : Int) → va_P (dC, dI) vwCl [(h0, .inr (12, fsMM mi mr)), ((mr 20), .inl (km_official, 25, .inl fm_official)), ((mr 21), .inl (km_aside, 25, .inl fm_aside))] H → va_S A s.heap H locs → lv_has ls 3 [(0, .ref h0), (1, .int v1), (2, .int v2)] → W p l e R s m args below meth c H locs cells slots Q (F0 m 4 ls [])) := by
  intro z
  induction z with
  | zero =>
    intro v1 v2 H locs ls gv2 hmu hP hS hl
    exact absurd hmu (by have hv21 := gv2.1; have hv22 := gv2.2; omega)
  | succ z ih =>
      intro v1 v2 H locs ls gv2 hmu hP hS hl
      refine lv_iload_n hx hb dX12_unlike_4 rfl (lv_at hl 2 rfl) ?_
      refine lv_aload_n hx hb dX12_unlike_5 rfl (lv_at hl 0 rfl) ?_
      refine va_get (D := (dC, dI)) (ci := 12) (v := .int (mi 0)) (C := RX12) (T := TX12) (N := 57) hx hb hts (fun w h => List.mem_cons_of_mem _ (jnGB_X12 w h)) hown hK hP 0 rfl rfl 0 (by decide) (hts _ (List.mem_cons_of_mem _ mGB_103)) (fun _ h9 => h9) rfl dX12_unlike_6 ?_
      refine lv_icmp_gt (tgt := 43) hx hb dX12_unlike_9 (by decide) (fun c_166 => ?_) (fun c_166 => ?_)
      · refine lv_iload_n hx hb dX12_unlike_43 rfl (lv_at hl 1 rfl) ?_
        exact kr44 v1 _ _ _ hP hS (lv_sub hl [] rfl)
      · have g_167 : gi v2 1 24 := gi_le_l (Int32.not_lt.mp c_166) gv2 gmi_0
        have g_168 : gi (mi 0) 1 24 := gi_le_r (Int32.not_lt.mp c_166) gv2 gmi_0
        refine lv_iload_n hx hb dX12_unlike_12 rfl (lv_at hl 1 rfl) ?_
        refine lv_aload_n hx hb dX12_unlike_13 rfl (lv_at hl 0 rfl) ?_
        refine va_get (D := (dC, dI)) (ci := 12) (v := .ref (mr 20)) (C := RX12) (T := TX12) (N := 57) hx hb hts (fun w h => List.mem_cons_of_mem _ (jnGB_X12 w h)) hown hK hP 0 rfl rfl 46 (by decide) (hts _ (List.mem_cons_of_mem _ mGB_36)) (fun _ h9 => h9) rfl dX12_unlike_14 ?_
        refine lv_iload_n hx hb dX12_unlike_17 rfl (lv_at hl 2 rfl) ?_
        refine va_iald hx hb hK hP 1 0 rfl rfl (gi_in g_167 (by decide)) dX12_unlike_18 ?_
        refine lv_topi (fun x_169 ex_169 => ?_)
        refine lv_aload_n hx hb dX12_unlike_19 rfl (lv_at hl 0 rfl) ?_
        refine va_get (D := (dC, dI)) (ci := 12) (v := .ref (mr 21)) (C := RX12) (T := TX12) (N := 57) hx hb hts (fun w h => List.mem_cons_of_mem _ (jnGB_X12 w h)) hown hK hP 0 rfl rfl 52 (by decide) (hts _ (List.mem_cons_of_mem _ mGB_37)) (fun _ h9 => h9) rfl dX12_unlike_20 ?_
        refine lv_iload_n hx hb dX12_unlike_23 rfl (lv_at hl 2 rfl) ?_
        refine va_iald hx hb hK hP 2 1 rfl rfl (gi_in g_167 (by decide)) dX12_unlike_24 ?_
        refine lv_topi (fun x_170 ex_170 => ?_)
        refine lv_icmp_eq (tgt := 34) hx hb dX12_unlike_25 (by decide) (fun c_171 => ?_) (fun c_171 => ?_)
        · refine lv_iconst (v := 0) hx hb dX12_unlike_34 (by decide) ?_
          refine lv_ior hx hb dX12_unlike_35 ?_
          refine lv_topi (fun x_172 ex_172 => ?_)
          refine lv_istore_n (lv' := [(1, .int x_172), (0, .ref h0), (2, .int v2)]) hx hb dX12_unlike_36 rfl hl (by decide) rfl (fun ls hl => ?_)
          obtain ⟨x_173, ex_173⟩ : ∃ y : Int32, y = v2 + 1 := ⟨_, rfl⟩
          have gx_173 : gi x_173 2 25 := gi_add ex_173 g_167 (gi_c 1 1 (by decide)) (by decide)
          refine lv_iinc (v := x_173) (lv' := [(2, .int x_173), (1, .int x_172), (0, .ref h0)]) hx hb dX12_unlike_37 hl (k := 2) rfl (by rw [ex_173]; rfl) (by decide) rfl (fun ls hl => ?_)
          refine lv_goto (tgt := 4) hx hb dX12_unlike_40 (by decide) ?_
          exact ih x_172 x_173 _ _ _ (gi_w gx_173 (by decide)) (by have av2 := gv2.1; have bv2 := gv2.2; have qgx_173 := gx_173.1; have rgx_173 := gx_173.2; have igx_173 : x_173.toInt = v2.toInt + 1 := (by have hc1 : (1 : Int32).toInt = 1 := (by decide); have h9 := gi_addI ex_173 (by have h1 := g_167.1; have h2 := (gi_c 1 1 (by decide)).1; have h3 := g_167.2; have h4 := (gi_c 1 1 (by decide)).2; omega) (by have h1 := g_167.1; have h2 := (gi_c 1 1 (by decide)).1; have h3 := g_167.2; have h4 := (gi_c 1 1 (by decide)).2; omega); rw [hc1] at h9; exact h9); have qgv2 := g_167.1; have rgv2 := g_167.2; omega) hP hS (lv_sub hl [2, 1, 0] rfl)
        · refine lv_iconst (v := 1) hx hb dX12_unlike_28 (by decide) ?_
          refine lv_iload_n hx hb dX12_unlike_29 rfl (lv_at hl 2 rfl) ?_
          refine lv_ishl hx hb dX12_unlike_30 ?_
          refine lv_topi (fun x_174 ex_174 => ?_)
          refine lv_goto (tgt := 35) hx hb dX12_unlike_31 (by decide) ?_
          refine lv_ior hx hb dX12_unlike_35 ?_
          refine lv_topi (fun x_175 ex_175 => ?_)
          refine lv_istore_n (lv' := [(1, .int x_175), (0, .ref h0), (2, .int v2)]) hx hb dX12_unlike_36 rfl hl (by decide) rfl (fun ls hl => ?_)
          obtain ⟨x_176, ex_176⟩ : ∃ y : Int32, y = v2 + 1 := ⟨_, rfl⟩
          have gx_176 : gi x_176 2 25 := gi_add ex_176 g_167 (gi_c 1 1 (by decide)) (by decide)
          refine lv_iinc (v := x_176) (lv' := [(2, .int x_176), (1, .int x_175), (0, .ref h0)]) hx hb dX12_unlike_37 hl (k := 2) rfl (by rw [ex_176]; rfl) (by decide) rfl (fun ls hl => ?_)
          refine lv_goto (tgt := 4) hx hb dX12_unlike_40 (by decide) ?_
          exact ih x_175 x_176 _ _ _ (gi_w gx_176 (by decide)) (by have av2 := gv2.1; have bv2 := gv2.2; have qgx_176 := gx_176.1; have rgx_176 := gx_176.2; have igx_176 : x_176.toInt = v2.toInt + 1 := (by have hc1 : (1 : Int32).toInt = 1 := (by decide); have h9 := gi_addI ex_176 (by have h1 := g_167.1; have h2 := (gi_c 1 1 (by decide)).1; have h3 := g_167.2; have h4 := (gi_c 1 1 (by decide)).2; omega) (by have h1 := g_167.1; have h2 := (gi_c 1 1 (by decide)).1; have h3 := g_167.2; have h4 := (gi_c 1 1 (by decide)).2; omega); rw [hc1] at h9; exact h9); have qgv2 := g_167.1; have rgv2 := g_167.2; omega) hP hS (lv_sub hl [2, 1, 0] rfl)
set_option maxHeartbeats 4000000 in
set_option maxRecDepth 100000 in
theorem sX12_unlike (l : Launch) (dC : Nat → ClassId) (dI : Nat → Nat → Nat) (h0 : Nat) (mi : Nat → Int32) (mr : Nat → Nat) (km_official : ClassId) (fm_official : Nat → Int32) (km_aside : ClassId) (fm_aside : Nat → Int32) (gmi_0 : gi (mi 0) 0 24) (gmi_1 : gi (mi 1) 0 5) (gmi_2 : gi (mi 2) 0 5) (gmi_4 : gi (mi 4) 0 1) (gmi_7 : gi (mi 7) 0 6) (gmi_10 : gi (mi 10) 0 24) (gmi_17 : gi (mi 17) 0 8) (gmi_23 : gi (mi 23) 0 300) (gmi_24 : gi (mi 24) 0 1) (gmi_26 : gi (mi 26) 0 1600) (gmi_29 : gi (mi 29) 0 1600) (gmi_30 : gi (mi 30) 0 1600) (gmi_33 : gi (mi 33) 0 1) (gmi_37 : gi (mi 37) 0 1) (gmi_41 : gi (mi 41) 0 24) (gmi_50 : gi (mi 50) 0 1) (gmi_51 : gi (mi 51) 0 1) (gmi_56 : gi (mi 56) 0 80) : Met l yX12_unlike (.code yX12_unlike cX12_unlike 3 (some .int) :: wsGB) ({ frames := 0, cells := 0, slots := 0, locals := 0 }) (va_Pc [.ref h0] (fun U => va_P (dC, dI) vwCl [(h0, .inr (12, fsMM mi mr)), ((mr 20), .inl (km_official, 25, .inl fm_official)), ((mr 21), .inl (km_aside, 25, .inl fm_aside))] U.heap ∧ va_K (dC, dI) vwCl [(km_official, .int), (km_aside, .int)] U)) (va_Qi (fun (r : Int32) (u : Unit) => gi r (-2147483648) 2147483647) (fun _ _ => True) (fun _ => False)) 0 0 (fun _ => False) := by
  refine Met.ofW (cc := cX12_unlike) (maxL := 3) (ret := (some .int)) (by decide) rfl ?_
  intro p e s m args below meth c s₁ B hml hv
  obtain ⟨rfl, hP, hK⟩ := hv
  have hx := B.exec
  have hb := B.bytes
  have hr := B.returns
  have hts := atoms_spec (ws := (.code yX12_unlike cX12_unlike 3 (some .int) :: wsGB)) B.pre
  have hown : s.vm.findClass RX12 = some m.cls := findClass_of_methodNamed B.named
  have hlocks := B.notSynchronized
  have hS : va_S (fun _ => False) s.heap s.heap [] := va_S.rf
  have hl := lv_entry ([.ref h0]) (n := 3) (Nat.le_of_ble_eq_true rfl)
  rw [lg_entry_eq]
  generalize (lg_sl ([.ref h0]) ++ List.replicate (3 - (lg_sl ([.ref h0])).length) Slot.unset).toArray = ls at hl ⊢
  have hl : lv_has ls 3 [(0, .ref h0)] := hl
  refine lv_iconst (v := 0) hx hb dX12_unlike_0 (by decide) ?_
  refine lv_istore_n (lv' := [(1, .int 0), (0, .ref h0)]) hx hb dX12_unlike_1 rfl hl (by decide) rfl (fun ls hl => ?_)
  refine lv_iconst (v := 1) hx hb dX12_unlike_2 (by decide) ?_
  refine lv_istore_n (lv' := [(2, .int 1), (1, .int 0), (0, .ref h0)]) hx hb dX12_unlike_3 rfl hl (by decide) rfl (fun ls hl => ?_)
  refine (lp_sX12_unlike h0 mi mr km_official fm_official km_aside fm_aside gmi_0 gmi_1 gmi_2 gmi_4 gmi_7 gmi_10 gmi_17 gmi_23 gmi_24 gmi_26 gmi_29 gmi_30 gmi_33 gmi_37 gmi_41 gmi_50 gmi_51 gmi_56 hx hb hml hown hts hK (Nat.le_of_ble_eq_true rfl) (Nat.le_of_ble_eq_true rfl) (Nat.zero_le _) (Nat.zero_le _) (fun v H locs ls hP hS hl => ?_) 62) 0 1 _ _ _ (gi_w (gi_c 1 1 (by decide)) (by decide)) (by have k1 : (1 : Int32).toInt = 1 := (by decide); omega) hP hS (lv_sub hl [2, 1, 0] rfl)
  · skip
    exact W.iret (v := v) hx hb hr (fun t ht hW => ⟨⟨v, (), rfl, (gi_any v), trivial⟩, hS.F ht⟩) hS.2.2 dX12_unlike_44
