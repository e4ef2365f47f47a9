theorem dX12_keepsOfficial_0 : decode cX12_keepsOfficial 0 = .ok (.iconst 0, 1) := by decide +kernel
theorem dX12_keepsOfficial_1 : decode cX12_keepsOfficial 1 = .ok (.istore_n 1, 1) := by decide +kernel
theorem dX12_keepsOfficial_2 : decode cX12_keepsOfficial 2 = .ok (.iload_n 1, 1) := by decide +kernel
theorem dX12_keepsOfficial_3 : decode cX12_keepsOfficial 3 = .ok (.bipush 24, 2) := by decide +kernel
theorem dX12_keepsOfficial_5 : decode cX12_keepsOfficial 5 = .ok (.if_icmp .gt 21, 3) := by decide +kernel
theorem dX12_keepsOfficial_8 : decode cX12_keepsOfficial 8 = .ok (.aload_n 0, 1) := by decide +kernel
theorem dX12_keepsOfficial_9 : decode cX12_keepsOfficial 9 = .ok (.getfield 90, 3) := by decide +kernel
theorem dX12_keepsOfficial_12 : decode cX12_keepsOfficial 12 = .ok (.iload_n 1, 1) := by decide +kernel
theorem dX12_keepsOfficial_13 : decode cX12_keepsOfficial 13 = .ok (.aload_n 0, 1) := by decide +kernel
theorem dX12_keepsOfficial_14 : decode cX12_keepsOfficial 14 = .ok (.getfield 87, 3) := by decide +kernel
theorem dX12_keepsOfficial_17 : decode cX12_keepsOfficial 17 = .ok (.iload_n 1, 1) := by decide +kernel
theorem dX12_keepsOfficial_18 : decode cX12_keepsOfficial 18 = .ok (.iaload, 1) := by decide +kernel
theorem dX12_keepsOfficial_19 : decode cX12_keepsOfficial 19 = .ok (.iastore, 1) := by decide +kernel
theorem dX12_keepsOfficial_20 : decode cX12_keepsOfficial 20 = .ok (.iinc 1 1, 3) := by decide +kernel
theorem dX12_keepsOfficial_23 : decode cX12_keepsOfficial 23 = .ok (.goto (-21), 3) := by decide +kernel
theorem dX12_keepsOfficial_26 : decode cX12_keepsOfficial 26 = .ok (.return_, 1) := by decide +kernel
set_option maxHeartbeats 4000000 in
set_option maxRecDepth 100000 in
theorem lp_sX12_keepsOfficial {p : Program} {l : Launch} {e : Env} {R : Room} {s : State} {m : MethodId} {args : Array Value} {below : List Frame} {meth : Method} {c : Code} {Q : State → Prop} {A : Nat → Prop} {cells slots : Nat} {dC : Nat → ClassId} {dI : Nat → Nat → Nat} (h0 : Nat) (mi : Nat → Int32) (mr : Nat → Nat) (km_official : ClassId) (fm_official : Nat → Int32) (km_aside : ClassId) (fm_aside : Nat → Int32) (gmi_0 : gi (mi 0) 0 24) (gmi_1 : gi (mi 1) 0 5) (gmi_2 : gi (mi 2) 0 5) (gmi_4 : gi (mi 4) 0 1) (gmi_7 : gi (mi 7) 0 6) (gmi_10 : gi (mi 10) 0 24) (gmi_17 : gi (mi 17) 0 8) (gmi_23 : gi (mi 23) 0 300) (gmi_24 : gi (mi 24) 0 1) (gmi_26 : gi (mi 26) 0 1600) (gmi_29 : gi (mi 29) 0 1600) (gmi_30 : gi (mi 30) 0 1600) (gmi_33 : gi (mi 33) 0 1) (gmi_37 : gi (mi 37) 0 1) (gmi_41 : gi (mi 41) 0 24) (gmi_50 : gi (mi 50) 0 1) (gmi_51 : gi (mi 51) 0 1) (gmi_56 : gi (mi 56) 0 80) (hx : p.tables.exec = Jvm.exec) (hb : c.code = cX12_keepsOfficial) (hml : c.maxLocals = 2) (hown : s.vm.findClass RX12 = some m.cls) (hts : ∀ w ∈ ((.code yX12_keepsOfficial cX12_keepsOfficial 2 none :: wsGB) : List Cond), w.before args s = true) (hK : va_K (dC, dI) vwCl [(km_official, .int), (km_aside, .int)] s) (hA : ∀ q : Nat, s.heap.size ≤ q → A q) (hRf : 0 ≤ R.frames) (hRl : 0 ≤ R.locals) (hRc : cells ≤ R.cells) (hRs : slots ≤ R.slots) (kr26 : ∀ (z2 : Nat → Int32) (H : Heap) (locs : List Loc) (ls : Array Slot), va_P (dC, dI) vwCl [(h0, .inr (12, fsMM mi mr)), ((mr 20), .inl (km_official, 25, .inl fm_official)), ((mr 21), .inl (km_aside, 25, .inl z2))] H → va_D A [(h0, .inr (12, fsMM mi mr)), ((mr 20), .inl (km_official, 25, .inl fm_official)), ((mr 21), .inl (km_aside, 25, .inl z2))] → va_S A s.heap H locs → lv_has ls 2 [] → W p l e R s m args below meth c H locs cells slots Q (F0 m 26 ls [])) : ∀ z : Nat, (∀ (v1 : Int32) (z2 : Nat → Int32) (H : Heap) (locs : List Loc) (ls : Array Slot), gi v1 0 25 → 51 + (-2) * v1.toInt < (z : Int) → va_P (dC, dI) vwCl [(h0, .inr (12, fsMM mi mr)), ((mr 20), .inl (km_official, 25, .inl fm_official)), ((mr 21), .inl (km_aside, 25, .inl z2))] H → va_D A [(h0, .inr (12, fsMM mi mr)), ((mr 20), .inl (km_official, 25, .inl fm_official)), ((mr 21), .inl (km_aside, 25, .inl z2))] → va_S A s.heap H locs → lv_has ls 2 [(0, .ref h0), (1, .int v1)] → W p l e R s m args below meth c H locs cells slots Q (F0 m 2 ls [])) := by
  intro z
  induction z with
  | zero =>
    intro v1 z2 H locs ls gv1 hmu hP hD hS hl
    exact absurd hmu (by have hv11 := gv1.1; have hv12 := gv1.2; omega)
  | succ z ih =>
      intro v1 z2 H locs ls gv1 hmu hP hD hS hl
      refine lv_iload_n hx hb dX12_keepsOfficial_2 rfl (lv_at hl 1 rfl) ?_
      refine lv_bipush (v := 24) hx hb dX12_keepsOfficial_3 (by decide) ?_
      refine lv_icmp_gt (tgt := 26) hx hb dX12_keepsOfficial_5 (by decide) (fun c_67 => ?_) (fun c_67 => ?_)
      · have g_68 : gi v1 25 25 := gi_lt_r c_67 (gi_c 24 24 (by decide)) gv1 (by decide)
        exact kr26 z2 _ _ _ hP hD hS (lv_sub hl [] rfl)
      · have g_69 : gi v1 0 24 := gi_le_l (Int32.not_lt.mp c_67) gv1 (gi_c 24 24 (by decide))
        refine lv_aload_n hx hb dX12_keepsOfficial_8 rfl (lv_at hl 0 rfl) ?_
        refine va_get (D := (dC, dI)) (ci := 12) (v := .ref (mr 21)) (C := RX12) (T := TX12) (N := 57) hx hb hts (fun w h => List.mem_cons_of_mem _ (jnGB_X12 w h)) hown hK hP 0 rfl rfl 52 (by decide) (hts _ (List.mem_cons_of_mem _ mGB_37)) (fun _ h9 => h9) rfl dX12_keepsOfficial_9 ?_
        refine lv_iload_n hx hb dX12_keepsOfficial_12 rfl (lv_at hl 1 rfl) ?_
        refine lv_aload_n hx hb dX12_keepsOfficial_13 rfl (lv_at hl 0 rfl) ?_
        refine va_get (D := (dC, dI)) (ci := 12) (v := .ref (mr 20)) (C := RX12) (T := TX12) (N := 57) hx hb hts (fun w h => List.mem_cons_of_mem _ (jnGB_X12 w h)) hown hK hP 0 rfl rfl 46 (by decide) (hts _ (List.mem_cons_of_mem _ mGB_36)) (fun _ h9 => h9) rfl dX12_keepsOfficial_14 ?_
        refine lv_iload_n hx hb dX12_keepsOfficial_17 rfl (lv_at hl 1 rfl) ?_
        refine va_iald hx hb hK hP 1 0 rfl rfl (gi_in g_69 (by decide)) dX12_keepsOfficial_18 ?_
        refine lv_topi (fun x_70 ex_70 => ?_)
        refine va_iast hx hb hK hP hD hS 2 1 rfl rfl (gi_in g_69 (by decide)) dX12_keepsOfficial_19 (fun H locs hP hD hS => ?_)
        have hP : va_P (dC, dI) vwCl [(h0, .inr (12, fsMM mi mr)), ((mr 20), .inl (km_official, 25, .inl fm_official)), ((mr 21), .inl (km_aside, 25, .inl (upd z2 (v1 : Int32).toNatClampNeg x_70)))] H := hP
        have hD : va_D A [(h0, .inr (12, fsMM mi mr)), ((mr 20), .inl (km_official, 25, .inl fm_official)), ((mr 21), .inl (km_aside, 25, .inl (upd z2 (v1 : Int32).toNatClampNeg x_70)))] := hD
        generalize upd z2 (v1 : Int32).toNatClampNeg x_70 = f_71 at hP hD
        obtain ⟨x_72, ex_72⟩ : ∃ y : Int32, y = v1 + 1 := ⟨_, rfl⟩
        have gx_72 : gi x_72 1 25 := gi_add ex_72 g_69 (gi_c 1 1 (by decide)) (by decide)
        refine lv_iinc (v := x_72) (lv' := [(1, .int x_72), (0, .ref h0)]) hx hb dX12_keepsOfficial_20 hl (k := 1) rfl (by rw [ex_72]; rfl) (by decide) rfl (fun ls hl => ?_)
        refine lv_goto (tgt := 2) hx hb dX12_keepsOfficial_23 (by decide) ?_
        exact ih x_72 f_71 _ _ _ (gi_w gx_72 (by decide)) (by have av1 := gv1.1; have bv1 := gv1.2; have qgx_72 := gx_72.1; have rgx_72 := gx_72.2; have igx_72 : x_72.toInt = v1.toInt + 1 := (by have hc1 : (1 : Int32).toInt = 1 := (by decide); have h9 := gi_addI ex_72 (by have h1 := g_69.1; have h2 := (gi_c 1 1 (by decide)).1; have h3 := g_69.2; have h4 := (gi_c 1 1 (by decide)).2; omega) (by have h1 := g_69.1; have h2 := (gi_c 1 1 (by decide)).1; have h3 := g_69.2; have h4 := (gi_c 1 1 (by decide)).2; omega); rw [hc1] at h9; exact h9); have qgv1 := g_69.1; have rgv1 := g_69.2; omega) hP hD hS (lv_sub hl [1, 0] rfl)
set_option maxHeartbeats 4000000 in
set_option maxRecDepth 100000 in
theorem sX12_keepsOfficial (l : Launch) (dC : Nat → ClassId) (dI : Nat → Nat → Nat) (sz : Nat) (h0 : Nat) (mi : Nat → Int32) (mr : Nat → Nat) (km_official : ClassId) (fm_official : Nat → Int32) (km_aside : ClassId) (fm_aside : Nat → Int32) (gmi_0 : gi (mi 0) 0 24) (gmi_1 : gi (mi 1) 0 5) (gmi_2 : gi (mi 2) 0 5) (gmi_4 : gi (mi 4) 0 1) (gmi_7 : gi (mi 7) 0 6) (gmi_10 : gi (mi 10) 0 24) (gmi_17 : gi (mi 17) 0 8) (gmi_23 : gi (mi 23) 0 300) (gmi_24 : gi (mi 24) 0 1) (gmi_26 : gi (mi 26) 0 1600) (gmi_29 : gi (mi 29) 0 1600) (gmi_30 : gi (mi 30) 0 1600) (gmi_33 : gi (mi 33) 0 1) (gmi_37 : gi (mi 37) 0 1) (gmi_41 : gi (mi 41) 0 24) (gmi_50 : gi (mi 50) 0 1) (gmi_51 : gi (mi 51) 0 1) (gmi_56 : gi (mi 56) 0 80) : Met l yX12_keepsOfficial (.code yX12_keepsOfficial cX12_keepsOfficial 2 none :: wsGB) ({ frames := 0, cells := 0, slots := 0, locals := 0 }) (va_Pc [.ref h0] (fun U => U.heap.size = sz ∧ va_P (dC, dI) vwCl [(h0, .inr (12, fsMM mi mr)), ((mr 20), .inl (km_official, 25, .inl fm_official)), ((mr 21), .inl (km_aside, 25, .inl fm_aside))] U.heap ∧ va_K (dC, dI) vwCl [(km_official, .int), (km_aside, .int)] U ∧ va_D (fun _ => True) [(h0, .inr (12, fsMM mi mr)), ((mr 20), .inl (km_official, 25, .inl fm_official)), ((mr 21), .inl (km_aside, 25, .inl fm_aside))])) (va_Qv (fun (u : Unit) => True) (fun _ t => ∃ (z2 : Nat → Int32), va_P (dC, dI) vwCl [(h0, .inr (12, fsMM mi mr)), ((mr 20), .inl (km_official, 25, .inl fm_official)), ((mr 21), .inl (km_aside, 25, .inl z2))] t.heap ∧ va_D (va_A [(h0, .inr (12, fsMM mi mr)), ((mr 20), .inl (km_official, 25, .inl fm_official)), ((mr 21), .inl (km_aside, 25, .inl fm_aside))] sz) [(h0, .inr (12, fsMM mi mr)), ((mr 20), .inl (km_official, 25, .inl fm_official)), ((mr 21), .inl (km_aside, 25, .inl z2))]) (va_A [(h0, .inr (12, fsMM mi mr)), ((mr 20), .inl (km_official, 25, .inl fm_official)), ((mr 21), .inl (km_aside, 25, .inl fm_aside))] sz)) 0 0 (va_A [(h0, .inr (12, fsMM mi mr)), ((mr 20), .inl (km_official, 25, .inl fm_official)), ((mr 21), .inl (km_aside, 25, .inl fm_aside))] sz) := by
  refine Met.ofW (cc := cX12_keepsOfficial) (maxL := 2) (ret := none) (by decide) rfl ?_
  intro p e s m args below meth c s₁ B hml hv
  obtain ⟨rfl, hsz, hP, hK, hD0⟩ := hv
  have hx := B.exec
  have hb := B.bytes
  have hr := B.returns
  have hts := atoms_spec (ws := (.code yX12_keepsOfficial cX12_keepsOfficial 2 none :: wsGB)) B.pre
  have hown : s.vm.findClass RX12 = some m.cls := findClass_of_methodNamed B.named
  have hlocks := B.notSynchronized
  subst hsz
  have hD := hD0.self (sz := s.heap.size)
  generalize hAe : va_A [(h0, .inr (12, fsMM mi mr)), ((mr 20), .inl (km_official, 25, .inl fm_official)), ((mr 21), .inl (km_aside, 25, .inl fm_aside))] s.heap.size = A at hD ⊢
  have hA : ∀ q : Nat, s.heap.size ≤ q → A q := fun q h => by rw [← hAe]; exact Or.inr h
  have hS : va_S A s.heap s.heap [] := va_S.rf
  have hl := lv_entry ([.ref h0]) (n := 2) (Nat.le_of_ble_eq_true rfl)
  rw [lg_entry_eq]
  generalize (lg_sl ([.ref h0]) ++ List.replicate (2 - (lg_sl ([.ref h0])).length) Slot.unset).toArray = ls at hl ⊢
  have hl : lv_has ls 2 [(0, .ref h0)] := hl
  refine lv_iconst (v := 0) hx hb dX12_keepsOfficial_0 (by decide) ?_
  refine lv_istore_n (lv' := [(1, .int 0), (0, .ref h0)]) hx hb dX12_keepsOfficial_1 rfl hl (by decide) rfl (fun ls hl => ?_)
  refine (lp_sX12_keepsOfficial h0 mi mr km_official fm_official km_aside fm_aside gmi_0 gmi_1 gmi_2 gmi_4 gmi_7 gmi_10 gmi_17 gmi_23 gmi_24 gmi_26 gmi_29 gmi_30 gmi_33 gmi_37 gmi_41 gmi_50 gmi_51 gmi_56 hx hb hml hown hts hK hA (Nat.le_of_ble_eq_true rfl) (Nat.le_of_ble_eq_true rfl) (Nat.zero_le _) (Nat.zero_le _) (fun z2 H locs ls hP hD hS hl => ?_) 64) 0 fm_aside _ _ _ (gi_w (gi_c 0 0 (by decide)) (by decide)) (by have k0 : (0 : Int32).toInt = 0 := (by decide); omega) hP hD hS (lv_sub hl [1, 0] rfl)
  · skip
    exact W.vret hx hb hr (fun t ht hW => ⟨⟨(), rfl, trivial, z2, by rw [ht]; exact hP, hD⟩, hS.F ht⟩) hS.2.2 dX12_keepsOfficial_26
