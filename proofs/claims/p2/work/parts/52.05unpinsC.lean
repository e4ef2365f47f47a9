set_option maxHeartbeats 4000000 in
set_option maxRecDepth 100000 in
theorem lp_sX12_unpinsC {p : Program} {l : Launch} {e : Env} {R : Room} {s : State} {m : MethodId} {args : Array Value} {below : List Frame} {meth : Method} {c : Code} {Q : State → Prop} {A : Nat → Prop} {cells slots : Nat} {dC : Nat → ClassId} {dI : Nat → Nat → Nat} (h0 : Nat) (mi : Nat → Int32) (mr : Nat → Nat) (km_pin : ClassId) (fm_pin : Nat → Int32) (gmi_0 : gi (mi 0) 0 24) (gmi_1 : gi (mi 1) 0 5) (gmi_2 : gi (mi 2) 0 5) (gmi_4 : gi (mi 4) 0 1) (gmi_7 : gi (mi 7) 0 6) (gmi_10 : gi (mi 10) 0 24) (gmi_17 : gi (mi 17) 0 8) (gmi_23 : gi (mi 23) 0 300) (gmi_24 : gi (mi 24) 0 1) (gmi_26 : gi (mi 26) 0 1600) (gmi_29 : gi (mi 29) 0 1600) (gmi_30 : gi (mi 30) 0 1600) (gmi_33 : gi (mi 33) 0 1) (gmi_37 : gi (mi 37) 0 1) (gmi_41 : gi (mi 41) 0 24) (gmi_50 : gi (mi 50) 0 1) (gmi_51 : gi (mi 51) 0 1) (gmi_56 : gi (mi 56) 0 80) (hx : p.tables.exec = Jvm.exec) (hb : c.code = cX12_unpins) (hml : c.maxLocals = 2) (hown : s.vm.findClass RX12 = some m.cls) (hts : ∀ w ∈ ((.code yX12_unpins cX12_unpins 2 none :: wsGB) : List Cond), w.before args s = true) (hK : va_K (dC, dI) vwCl [(km_pin, .int)] s) (hA : ∀ q : Nat, s.heap.size ≤ q → A q) (hRf : 0 ≤ R.frames) (hRl : 0 ≤ R.locals) (hRc : cells ≤ R.cells) (hRs : slots ≤ R.slots) (kr21 : ∀ (z1 : Nat → Int32) (H : Heap) (locs : List Loc) (ls : Array Slot), (∀ j : Nat, (j : Int) < 25 → z1 j = (-1)) → va_P (dC, dI) vwCl [(h0, .inr (12, fsMM mi mr)), ((mr 16), .inl (km_pin, 25, .inl z1))] H → va_D A [(h0, .inr (12, fsMM mi mr)), ((mr 16), .inl (km_pin, 25, .inl z1))] → va_S A s.heap H locs → lv_has ls 2 [] → W p l e R s m args below meth c H locs cells slots Q (F0 m 21 ls [])) : ∀ z : Nat, (∀ (v1 : Int32) (z1 : Nat → Int32) (H : Heap) (locs : List Loc) (ls : Array Slot), gi v1 0 25 → (∀ j : Nat, (j : Int) < v1.toInt → z1 j = (-1)) → 51 + (-2) * v1.toInt < (z : Int) → va_P (dC, dI) vwCl [(h0, .inr (12, fsMM mi mr)), ((mr 16), .inl (km_pin, 25, .inl z1))] H → va_D A [(h0, .inr (12, fsMM mi mr)), ((mr 16), .inl (km_pin, 25, .inl z1))] → va_S A s.heap H locs → lv_has ls 2 [(0, .ref h0), (1, .int v1)] → W p l e R s m args below meth c H locs cells slots Q (F0 m 2 ls [])) := by
  intro z
  induction z with
  | zero =>
    intro v1 z1 H locs ls gv1 hinv0 hmu hP hD hS hl
    exact absurd hmu (by have hv11 := gv1.1; have hv12 := gv1.2; omega)
  | succ z ih =>
      intro v1 z1 H locs ls gv1 hinv0 hmu hP hD hS hl
      refine lv_iload_n hx hb dX12_unpins_2 rfl (lv_at hl 1 rfl) ?_
      refine lv_bipush (v := 24) hx hb dX12_unpins_3 (by decide) ?_
      refine lv_icmp_gt (tgt := 21) hx hb dX12_unpins_5 (by decide) (fun c_53 => ?_) (fun c_53 => ?_)
      · have hc_54 : 24 < v1.toInt := by have h9 := Int32.lt_iff_toInt_lt.mp c_53; rw [show (24 : Int32).toInt = 24 from by decide] at h9; exact h9
        have g_55 : gi v1 25 25 := gi_lt_r c_53 (gi_c 24 24 (by decide)) gv1 (by decide)
        exact kr21 z1 _ _ _ (show ∀ j : Nat, (j : Int) < 25 → z1 j = (-1) from by exact fun j hj => hinv0 j (by have qgv1 := g_55.1; have rgv1 := g_55.2; omega)) hP hD hS (lv_sub hl [] rfl)
      · have hc_56 : v1.toInt ≤ 24 := by have h9 := Int32.le_iff_toInt_le.mp (Int32.not_lt.mp c_53); rw [show (24 : Int32).toInt = 24 from by decide] at h9; exact h9
        have g_57 : gi v1 0 24 := gi_le_l (Int32.not_lt.mp c_53) gv1 (gi_c 24 24 (by decide))
        refine lv_aload_n hx hb dX12_unpins_8 rfl (lv_at hl 0 rfl) ?_
        refine va_get (D := (dC, dI)) (ci := 12) (v := .ref (mr 16)) (C := RX12) (T := TX12) (N := 57) hx hb hts (fun w h => List.mem_cons_of_mem _ (jnGB_X12 w h)) hown hK hP 0 rfl rfl 36 (by decide) (hts _ (List.mem_cons_of_mem _ mGB_28)) (fun _ h9 => h9) rfl dX12_unpins_9 ?_
        refine lv_iload_n hx hb dX12_unpins_12 rfl (lv_at hl 1 rfl) ?_
        refine lv_iconst (v := (-1)) hx hb dX12_unpins_13 (by decide) ?_
        refine va_iast hx hb hK hP hD hS 1 0 rfl rfl (gi_in g_57 (by decide)) dX12_unpins_14 (fun H locs hP hD hS => ?_)
        have hP : va_P (dC, dI) vwCl [(h0, .inr (12, fsMM mi mr)), ((mr 16), .inl (km_pin, 25, .inl (upd z1 (v1 : Int32).toNatClampNeg (-1))))] H := hP
        have hD : va_D A [(h0, .inr (12, fsMM mi mr)), ((mr 16), .inl (km_pin, 25, .inl (upd z1 (v1 : Int32).toNatClampNeg (-1))))] := hD
        generalize ef_58 : upd z1 (v1 : Int32).toNatClampNeg (-1) = f_58 at hP hD
        obtain ⟨x_59, ex_59⟩ : ∃ y : Int32, y = v1 + 1 := ⟨_, rfl⟩
        have gx_59 : gi x_59 1 25 := gi_add ex_59 g_57 (gi_c 1 1 (by decide)) (by decide)
        refine lv_iinc (v := x_59) (lv' := [(1, .int x_59), (0, .ref h0)]) hx hb dX12_unpins_15 hl (k := 1) rfl (by rw [ex_59]; rfl) (by decide) rfl (fun ls hl => ?_)
        refine lv_goto (tgt := 2) hx hb dX12_unpins_18 (by decide) ?_
        exact ih x_59 f_58 _ _ _ (gi_w gx_59 (by decide)) (show ∀ j : Nat, (j : Int) < x_59.toInt → f_58 j = (-1) from by exact fl_step hinv0 ef_58 (by have qgv1 := g_57.1; have rgv1 := g_57.2; omega) (by have qgx_59 := gx_59.1; have rgx_59 := gx_59.2; have igx_59 : x_59.toInt = v1.toInt + 1 := (by have hc1 : (1 : Int32).toInt = 1 := (by decide); have h9 := gi_addI ex_59 (by have h1 := g_57.1; have h2 := (gi_c 1 1 (by decide)).1; have h3 := g_57.2; have h4 := (gi_c 1 1 (by decide)).2; omega) (by have h1 := g_57.1; have h2 := (gi_c 1 1 (by decide)).1; have h3 := g_57.2; have h4 := (gi_c 1 1 (by decide)).2; omega); rw [hc1] at h9; exact h9); have qgv1 := g_57.1; have rgv1 := g_57.2; omega)) (by have av1 := gv1.1; have bv1 := gv1.2; have qgx_59 := gx_59.1; have rgx_59 := gx_59.2; have igx_59 : x_59.toInt = v1.toInt + 1 := (by have hc1 : (1 : Int32).toInt = 1 := (by decide); have h9 := gi_addI ex_59 (by have h1 := g_57.1; have h2 := (gi_c 1 1 (by decide)).1; have h3 := g_57.2; have h4 := (gi_c 1 1 (by decide)).2; omega) (by have h1 := g_57.1; have h2 := (gi_c 1 1 (by decide)).1; have h3 := g_57.2; have h4 := (gi_c 1 1 (by decide)).2; omega); rw [hc1] at h9; exact h9); have qgv1 := g_57.1; have rgv1 := g_57.2; omega) hP hD hS (lv_sub hl [1, 0] rfl)
set_option maxHeartbeats 4000000 in
set_option maxRecDepth 100000 in
theorem sX12_unpinsC (l : Launch) (dC : Nat → ClassId) (dI : Nat → Nat → Nat) (sz : Nat) (h0 : Nat) (mi : Nat → Int32) (mr : Nat → Nat) (km_pin : ClassId) (fm_pin : Nat → Int32) (gmi_0 : gi (mi 0) 0 24) (gmi_1 : gi (mi 1) 0 5) (gmi_2 : gi (mi 2) 0 5) (gmi_4 : gi (mi 4) 0 1) (gmi_7 : gi (mi 7) 0 6) (gmi_10 : gi (mi 10) 0 24) (gmi_17 : gi (mi 17) 0 8) (gmi_23 : gi (mi 23) 0 300) (gmi_24 : gi (mi 24) 0 1) (gmi_26 : gi (mi 26) 0 1600) (gmi_29 : gi (mi 29) 0 1600) (gmi_30 : gi (mi 30) 0 1600) (gmi_33 : gi (mi 33) 0 1) (gmi_37 : gi (mi 37) 0 1) (gmi_41 : gi (mi 41) 0 24) (gmi_50 : gi (mi 50) 0 1) (gmi_51 : gi (mi 51) 0 1) (gmi_56 : gi (mi 56) 0 80) : Met l yX12_unpins (.code yX12_unpins cX12_unpins 2 none :: wsGB) ({ frames := 0, cells := 0, slots := 0, locals := 0 }) (va_Pc [.ref h0] (fun U => U.heap.size = sz ∧ va_P (dC, dI) vwCl [(h0, .inr (12, fsMM mi mr)), ((mr 16), .inl (km_pin, 25, .inl fm_pin))] U.heap ∧ va_K (dC, dI) vwCl [(km_pin, .int)] U ∧ va_D (fun _ => True) [(h0, .inr (12, fsMM mi mr)), ((mr 16), .inl (km_pin, 25, .inl fm_pin))])) (va_Qv (fun (u : Unit) => True) (fun _ t => ∃ (z1 : Nat → Int32), (∀ j : Nat, (j : Int) < 25 → z1 j = (-1)) ∧ va_P (dC, dI) vwCl [(h0, .inr (12, fsMM mi mr)), ((mr 16), .inl (km_pin, 25, .inl z1))] t.heap ∧ va_D (va_A [(h0, .inr (12, fsMM mi mr)), ((mr 16), .inl (km_pin, 25, .inl fm_pin))] sz) [(h0, .inr (12, fsMM mi mr)), ((mr 16), .inl (km_pin, 25, .inl z1))]) (va_A [(h0, .inr (12, fsMM mi mr)), ((mr 16), .inl (km_pin, 25, .inl fm_pin))] sz)) 0 0 (va_A [(h0, .inr (12, fsMM mi mr)), ((mr 16), .inl (km_pin, 25, .inl fm_pin))] sz) := by
  refine Met.ofW (cc := cX12_unpins) (maxL := 2) (ret := none) (by decide) rfl ?_
  intro p e s m args below meth c s₁ B hml hv
  obtain ⟨rfl, hsz, hP, hK, hD0⟩ := hv
  have hx := B.exec
  have hb := B.bytes
  have hr := B.returns
  have hts := atoms_spec (ws := (.code yX12_unpins cX12_unpins 2 none :: wsGB)) B.pre
  have hown : s.vm.findClass RX12 = some m.cls := findClass_of_methodNamed B.named
  have hlocks := B.notSynchronized
  subst hsz
  have hD := hD0.self (sz := s.heap.size)
  generalize hAe : va_A [(h0, .inr (12, fsMM mi mr)), ((mr 16), .inl (km_pin, 25, .inl fm_pin))] s.heap.size = A at hD ⊢
  have hA : ∀ q : Nat, s.heap.size ≤ q → A q := fun q h => by rw [← hAe]; exact Or.inr h
  have hS : va_S A s.heap s.heap [] := va_S.rf
  have hl := lv_entry ([.ref h0]) (n := 2) (Nat.le_of_ble_eq_true rfl)
  rw [lg_entry_eq]
  generalize (lg_sl ([.ref h0]) ++ List.replicate (2 - (lg_sl ([.ref h0])).length) Slot.unset).toArray = ls at hl ⊢
  have hl : lv_has ls 2 [(0, .ref h0)] := hl
  refine lv_iconst (v := 0) hx hb dX12_unpins_0 (by decide) ?_
  refine lv_istore_n (lv' := [(1, .int 0), (0, .ref h0)]) hx hb dX12_unpins_1 rfl hl (by decide) rfl (fun ls hl => ?_)
  refine (lp_sX12_unpinsC h0 mi mr km_pin fm_pin gmi_0 gmi_1 gmi_2 gmi_4 gmi_7 gmi_10 gmi_17 gmi_23 gmi_24 gmi_26 gmi_29 gmi_30 gmi_33 gmi_37 gmi_41 gmi_50 gmi_51 gmi_56 hx hb hml hown hts hK hA (Nat.le_of_ble_eq_true rfl) (Nat.le_of_ble_eq_true rfl) (Nat.zero_le _) (Nat.zero_le _) (fun z1 H locs ls hpr0 hP hD hS hl => ?_) 64) 0 fm_pin _ _ _ (gi_w (gi_c 0 0 (by decide)) (by decide)) (show ∀ j : Nat, (j : Int) < (0 : Int) → fm_pin j = (-1) from by exact fun j hj => absurd hj (by have h0 : (0 : Int32).toInt = 0 := (by decide); omega)) (by have k0 : (0 : Int32).toInt = 0 := (by decide); omega) hP hD hS (lv_sub hl [1, 0] rfl)
  · skip
    exact W.vret hx hb hr (fun t ht hW => ⟨⟨(), rfl, trivial, z1, hpr0, by rw [ht]; exact hP, hD⟩, hS.F ht⟩) hS.2.2 dX12_unpins_21
