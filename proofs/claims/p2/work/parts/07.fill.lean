theorem dJ7_fill_53178_0 : decode cJ7_fill_53178 0 = .ok (.iconst 0, 1) := by decide +kernel
theorem dJ7_fill_53178_1 : decode cJ7_fill_53178 1 = .ok (.istore_n 2, 1) := by decide +kernel
theorem dJ7_fill_53178_2 : decode cJ7_fill_53178 2 = .ok (.aload_n 0, 1) := by decide +kernel
theorem dJ7_fill_53178_3 : decode cJ7_fill_53178 3 = .ok (.arraylength, 1) := by decide +kernel
theorem dJ7_fill_53178_4 : decode cJ7_fill_53178 4 = .ok (.istore_n 3, 1) := by decide +kernel
theorem dJ7_fill_53178_5 : decode cJ7_fill_53178 5 = .ok (.iload_n 2, 1) := by decide +kernel
theorem dJ7_fill_53178_6 : decode cJ7_fill_53178 6 = .ok (.iload_n 3, 1) := by decide +kernel
theorem dJ7_fill_53178_7 : decode cJ7_fill_53178 7 = .ok (.if_icmp .ge 13, 3) := by decide +kernel
theorem dJ7_fill_53178_10 : decode cJ7_fill_53178 10 = .ok (.aload_n 0, 1) := by decide +kernel
theorem dJ7_fill_53178_11 : decode cJ7_fill_53178 11 = .ok (.iload_n 2, 1) := by decide +kernel
theorem dJ7_fill_53178_12 : decode cJ7_fill_53178 12 = .ok (.iload_n 1, 1) := by decide +kernel
theorem dJ7_fill_53178_13 : decode cJ7_fill_53178 13 = .ok (.iastore, 1) := by decide +kernel
theorem dJ7_fill_53178_14 : decode cJ7_fill_53178 14 = .ok (.iinc 2 1, 3) := by decide +kernel
theorem dJ7_fill_53178_17 : decode cJ7_fill_53178 17 = .ok (.goto (-12), 3) := by decide +kernel
theorem dJ7_fill_53178_20 : decode cJ7_fill_53178 20 = .ok (.return_, 1) := by decide +kernel
set_option maxHeartbeats 4000000 in
set_option maxRecDepth 100000 in
theorem lp_sJ7_fill325 {p : Program} {l : Launch} {e : Env} {R : Room} {s : State} {m : MethodId} {args : Array Value} {below : List Frame} {meth : Method} {c : Code} {Q : State → Prop} {A : Nat → Prop} {cells slots : Nat} {dC : Nat → ClassId} {dI : Nat → Nat → Nat} (a : Nat) (ka : ClassId) (fa : Nat → Int32) (p1 : Int32)  (hx : p.tables.exec = Jvm.exec) (hb : c.code = cJ7_fill_53178) (hml : c.maxLocals = 4) (hown : s.vm.findClass RJ7 = some m.cls) (hts : ∀ w ∈ ((.code yJ7_fill_53178 cJ7_fill_53178 4 none :: wsGA) : List Cond), w.before args s = true) (hK : va_K (dC, dI) vwCl [(ka, .int)] s) (hz : nzA s) (hA : ∀ q : Nat, s.heap.size ≤ q → A q) (hRf : 0 ≤ R.frames) (hRl : 0 ≤ R.locals) (hRc : cells ≤ R.cells) (hRs : slots ≤ R.slots) (kr20 : ∀ (z0 : Nat → Int32) (H : Heap) (locs : List Loc) (ls : Array Slot), va_P (dC, dI) vwCl [(a, .inl (ka, 325, .inl z0))] H → va_D A [(a, .inl (ka, 325, .inl z0))] → va_S A s.heap H locs → lv_has ls 4 [] → W p l e R s m args below meth c H locs cells slots Q (F0 m 20 ls [])) : ∀ z : Nat, (∀ (v2 : Int32) (v3 : Int32) (z0 : Nat → Int32) (H : Heap) (locs : List Loc) (ls : Array Slot), gi v2 0 599 → gi v3 325 325 → 1199 + (-2) * v2.toInt < (z : Int) → va_P (dC, dI) vwCl [(a, .inl (ka, 325, .inl z0))] H → va_D A [(a, .inl (ka, 325, .inl z0))] → va_S A s.heap H locs → lv_has ls 4 [(0, .ref a), (1, .int p1), (2, .int v2), (3, .int v3)] → W p l e R s m args below meth c H locs cells slots Q (F0 m 5 ls [])) := by
  intro z
  induction z with
  | zero =>
    intro v2 v3 z0 H locs ls gv2 gv3 hmu hP hD hS hl
    exact absurd hmu (by have hv21 := gv2.1; have hv22 := gv2.2; omega)
  | succ z ih =>
      intro v2 v3 z0 H locs ls gv2 gv3 hmu hP hD hS hl
      refine lv_iload_n hx hb dJ7_fill_53178_5 rfl (lv_at hl 2 rfl) ?_
      refine lv_iload_n hx hb dJ7_fill_53178_6 rfl (lv_at hl 3 rfl) ?_
      refine lv_icmp_ge (tgt := 20) hx hb dJ7_fill_53178_7 (by decide) (fun c_84 => ?_) (fun c_84 => ?_)
      · have g_85 : gi v2 325 599 := gi_le_r c_84 gv3 gv2
        exact kr20 z0 _ _ _ hP hD hS (lv_sub hl [] rfl)
      · have g_86 : gi v2 0 324 := gi_lt_l (Int32.not_le.mp c_84) gv2 gv3 (by decide)
        refine lv_aload_n hx hb dJ7_fill_53178_10 rfl (lv_at hl 0 rfl) ?_
        refine lv_iload_n hx hb dJ7_fill_53178_11 rfl (lv_at hl 2 rfl) ?_
        refine lv_iload_n hx hb dJ7_fill_53178_12 rfl (lv_at hl 1 rfl) ?_
        refine va_iast hx hb hK hP hD hS 0 0 rfl rfl (gi_in g_86 (by decide)) dJ7_fill_53178_13 (fun H locs hP hD hS => ?_)
        have hP : va_P (dC, dI) vwCl [(a, .inl (ka, 325, .inl (upd z0 (v2 : Int32).toNatClampNeg p1)))] H := hP
        have hD : va_D A [(a, .inl (ka, 325, .inl (upd z0 (v2 : Int32).toNatClampNeg p1)))] := hD
        generalize upd z0 (v2 : Int32).toNatClampNeg p1 = f_87 at hP hD
        obtain ⟨x_88, ex_88⟩ : ∃ y : Int32, y = v2 + 1 := ⟨_, rfl⟩
        have gx_88 : gi x_88 1 325 := gi_add ex_88 g_86 (gi_c 1 1 (by decide)) (by decide)
        refine lv_iinc (v := x_88) (lv' := [(2, .int x_88), (0, .ref a), (1, .int p1), (3, .int v3)]) hx hb dJ7_fill_53178_14 hl (k := 2) rfl (by rw [ex_88]; rfl) (by decide) rfl (fun ls hl => ?_)
        refine lv_goto (tgt := 5) hx hb dJ7_fill_53178_17 (by decide) ?_
        exact ih x_88 v3 f_87 _ _ _ (gi_w gx_88 (by decide)) gv3 (by have av2 := gv2.1; have bv2 := gv2.2; have qgx_88 := gx_88.1; have rgx_88 := gx_88.2; have igx_88 : x_88.toInt = v2.toInt + 1 := (by have hc1 : (1 : Int32).toInt = 1 := (by decide); have h9 := gi_addI ex_88 (by have h1 := g_86.1; have h2 := (gi_c 1 1 (by decide)).1; have h3 := g_86.2; have h4 := (gi_c 1 1 (by decide)).2; omega) (by have h1 := g_86.1; have h2 := (gi_c 1 1 (by decide)).1; have h3 := g_86.2; have h4 := (gi_c 1 1 (by decide)).2; omega); rw [hc1] at h9; exact h9); have qgv2 := g_86.1; have rgv2 := g_86.2; omega) hP hD hS (lv_sub hl [1, 2, 0, 3] rfl)
set_option maxHeartbeats 4000000 in
set_option maxRecDepth 100000 in
theorem sJ7_fill325 (l : Launch) (dC : Nat → ClassId) (dI : Nat → Nat → Nat) (sz : Nat) (a : Nat) (ka : ClassId) (fa : Nat → Int32) (p1 : Int32)  : Met l yJ7_fill_53178 (.code yJ7_fill_53178 cJ7_fill_53178 4 none :: wsGA) ({ frames := 0, cells := 0, slots := 0, locals := 0 }) (va_Pc [.ref a, .int p1] (fun U => U.heap.size = sz ∧ va_P (dC, dI) vwCl [(a, .inl (ka, 325, .inl fa))] U.heap ∧ va_K (dC, dI) vwCl [(ka, .int)] U ∧ va_D (fun _ => True) [(a, .inl (ka, 325, .inl fa))] ∧ nzA U)) (va_Qv (fun (u : Unit) => True) (fun _ t => ∃ (z0 : Nat → Int32), va_P (dC, dI) vwCl [(a, .inl (ka, 325, .inl z0))] t.heap ∧ va_D (va_A [(a, .inl (ka, 325, .inl fa))] sz) [(a, .inl (ka, 325, .inl z0))]) (va_A [(a, .inl (ka, 325, .inl fa))] sz)) 0 0 (va_A [(a, .inl (ka, 325, .inl fa))] sz) := by
  refine Met.ofW (cc := cJ7_fill_53178) (maxL := 4) (ret := none) (by decide) rfl ?_
  intro p e s m args below meth c s₁ B hml hv
  obtain ⟨rfl, hsz, hP, hK, hD0, hz⟩ := hv
  have hx := B.exec
  have hb := B.bytes
  have hr := B.returns
  have hts := atoms_spec (ws := (.code yJ7_fill_53178 cJ7_fill_53178 4 none :: wsGA)) B.pre
  have hown : s.vm.findClass RJ7 = some m.cls := findClass_of_methodNamed B.named
  have hlocks := B.notSynchronized
  subst hsz
  have hD := hD0.self (sz := s.heap.size)
  generalize hAe : va_A [(a, .inl (ka, 325, .inl fa))] s.heap.size = A at hD ⊢
  have hA : ∀ q : Nat, s.heap.size ≤ q → A q := fun q h => by rw [← hAe]; exact Or.inr h
  have hS : va_S A s.heap s.heap [] := va_S.rf
  have hl := lv_entry ([.ref a, .int p1]) (n := 4) (Nat.le_of_ble_eq_true rfl)
  rw [lg_entry_eq]
  generalize (lg_sl ([.ref a, .int p1]) ++ List.replicate (4 - (lg_sl ([.ref a, .int p1])).length) Slot.unset).toArray = ls at hl ⊢
  have hl : lv_has ls 4 [(0, .ref a), (1, .int p1)] := hl
  refine lv_iconst (v := 0) hx hb dJ7_fill_53178_0 (by decide) ?_
  refine lv_istore_n (lv' := [(2, .int 0), (0, .ref a), (1, .int p1)]) hx hb dJ7_fill_53178_1 rfl hl (by decide) rfl (fun ls hl => ?_)
  refine lv_aload_n hx hb dJ7_fill_53178_2 rfl (lv_at hl 1 rfl) ?_
  refine va_alen (v := 325) hx hb hK hP 0 0 rfl rfl rfl dJ7_fill_53178_3 ?_
  refine lv_istore_n (lv' := [(3, .int 325), (2, .int 0), (0, .ref a), (1, .int p1)]) hx hb dJ7_fill_53178_4 rfl hl (by decide) rfl (fun ls hl => ?_)
  refine (lp_sJ7_fill325 a ka fa p1  hx hb hml hown hts hK hz hA (Nat.le_of_ble_eq_true rfl) (Nat.le_of_ble_eq_true rfl) (Nat.zero_le _) (Nat.zero_le _) (fun z0 H locs ls hP hD hS hl => ?_) 1212) 0 325 fa _ _ _ (gi_w (gi_c 0 0 (by decide)) (by decide)) (gi_c 325 325 (by decide)) (by have k0 : (0 : Int32).toInt = 0 := (by decide); omega) hP hD hS (lv_sub hl [2, 3, 1, 0] rfl)
  · skip
    exact W.vret hx hb hr (fun t ht hW => ⟨⟨(), rfl, trivial, z0, by rw [ht]; exact hP, hD⟩, hS.F ht⟩) hS.2.2 dJ7_fill_53178_20
set_option maxHeartbeats 4000000 in
set_option maxRecDepth 100000 in
theorem lp_sJ7_fill3575 {p : Program} {l : Launch} {e : Env} {R : Room} {s : State} {m : MethodId} {args : Array Value} {below : List Frame} {meth : Method} {c : Code} {Q : State → Prop} {A : Nat → Prop} {cells slots : Nat} {dC : Nat → ClassId} {dI : Nat → Nat → Nat} (a : Nat) (ka : ClassId) (fa : Nat → Int32) (p1 : Int32)  (hx : p.tables.exec = Jvm.exec) (hb : c.code = cJ7_fill_53178) (hml : c.maxLocals = 4) (hown : s.vm.findClass RJ7 = some m.cls) (hts : ∀ w ∈ ((.code yJ7_fill_53178 cJ7_fill_53178 4 none :: wsGA) : List Cond), w.before args s = true) (hK : va_K (dC, dI) vwCl [(ka, .int)] s) (hz : nzA s) (hA : ∀ q : Nat, s.heap.size ≤ q → A q) (hRf : 0 ≤ R.frames) (hRl : 0 ≤ R.locals) (hRc : cells ≤ R.cells) (hRs : slots ≤ R.slots) (kr20 : ∀ (z0 : Nat → Int32) (H : Heap) (locs : List Loc) (ls : Array Slot), va_P (dC, dI) vwCl [(a, .inl (ka, 3575, .inl z0))] H → va_D A [(a, .inl (ka, 3575, .inl z0))] → va_S A s.heap H locs → lv_has ls 4 [] → W p l e R s m args below meth c H locs cells slots Q (F0 m 20 ls [])) : ∀ z : Nat, (∀ (v2 : Int32) (v3 : Int32) (z0 : Nat → Int32) (H : Heap) (locs : List Loc) (ls : Array Slot), gi v2 0 3575 → gi v3 3575 3575 → 7151 + (-2) * v2.toInt < (z : Int) → va_P (dC, dI) vwCl [(a, .inl (ka, 3575, .inl z0))] H → va_D A [(a, .inl (ka, 3575, .inl z0))] → va_S A s.heap H locs → lv_has ls 4 [(0, .ref a), (1, .int p1), (2, .int v2), (3, .int v3)] → W p l e R s m args below meth c H locs cells slots Q (F0 m 5 ls [])) := by
  intro z
  induction z with
  | zero =>
    intro v2 v3 z0 H locs ls gv2 gv3 hmu hP hD hS hl
    exact absurd hmu (by have hv21 := gv2.1; have hv22 := gv2.2; omega)
  | succ z ih =>
      intro v2 v3 z0 H locs ls gv2 gv3 hmu hP hD hS hl
      refine lv_iload_n hx hb dJ7_fill_53178_5 rfl (lv_at hl 2 rfl) ?_
      refine lv_iload_n hx hb dJ7_fill_53178_6 rfl (lv_at hl 3 rfl) ?_
      refine lv_icmp_ge (tgt := 20) hx hb dJ7_fill_53178_7 (by decide) (fun c_111 => ?_) (fun c_111 => ?_)
      · have g_112 : gi v2 3575 3575 := gi_le_r c_111 gv3 gv2
        exact kr20 z0 _ _ _ hP hD hS (lv_sub hl [] rfl)
      · have g_113 : gi v2 0 3574 := gi_lt_l (Int32.not_le.mp c_111) gv2 gv3 (by decide)
        refine lv_aload_n hx hb dJ7_fill_53178_10 rfl (lv_at hl 0 rfl) ?_
        refine lv_iload_n hx hb dJ7_fill_53178_11 rfl (lv_at hl 2 rfl) ?_
        refine lv_iload_n hx hb dJ7_fill_53178_12 rfl (lv_at hl 1 rfl) ?_
        refine va_iast hx hb hK hP hD hS 0 0 rfl rfl (gi_in g_113 (by decide)) dJ7_fill_53178_13 (fun H locs hP hD hS => ?_)
        have hP : va_P (dC, dI) vwCl [(a, .inl (ka, 3575, .inl (upd z0 (v2 : Int32).toNatClampNeg p1)))] H := hP
        have hD : va_D A [(a, .inl (ka, 3575, .inl (upd z0 (v2 : Int32).toNatClampNeg p1)))] := hD
        generalize upd z0 (v2 : Int32).toNatClampNeg p1 = f_114 at hP hD
        obtain ⟨x_115, ex_115⟩ : ∃ y : Int32, y = v2 + 1 := ⟨_, rfl⟩
        have gx_115 : gi x_115 1 3575 := gi_add ex_115 g_113 (gi_c 1 1 (by decide)) (by decide)
        refine lv_iinc (v := x_115) (lv' := [(2, .int x_115), (0, .ref a), (1, .int p1), (3, .int v3)]) hx hb dJ7_fill_53178_14 hl (k := 2) rfl (by rw [ex_115]; rfl) (by decide) rfl (fun ls hl => ?_)
        refine lv_goto (tgt := 5) hx hb dJ7_fill_53178_17 (by decide) ?_
        exact ih x_115 v3 f_114 _ _ _ (gi_w gx_115 (by decide)) gv3 (by have av2 := gv2.1; have bv2 := gv2.2; have qgx_115 := gx_115.1; have rgx_115 := gx_115.2; have igx_115 : x_115.toInt = v2.toInt + 1 := (by have hc1 : (1 : Int32).toInt = 1 := (by decide); have h9 := gi_addI ex_115 (by have h1 := g_113.1; have h2 := (gi_c 1 1 (by decide)).1; have h3 := g_113.2; have h4 := (gi_c 1 1 (by decide)).2; omega) (by have h1 := g_113.1; have h2 := (gi_c 1 1 (by decide)).1; have h3 := g_113.2; have h4 := (gi_c 1 1 (by decide)).2; omega); rw [hc1] at h9; exact h9); have qgv2 := g_113.1; have rgv2 := g_113.2; omega) hP hD hS (lv_sub hl [1, 2, 0, 3] rfl)
set_option maxHeartbeats 4000000 in
set_option maxRecDepth 100000 in
theorem sJ7_fill3575 (l : Launch) (dC : Nat → ClassId) (dI : Nat → Nat → Nat) (sz : Nat) (a : Nat) (ka : ClassId) (fa : Nat → Int32) (p1 : Int32)  : Met l yJ7_fill_53178 (.code yJ7_fill_53178 cJ7_fill_53178 4 none :: wsGA) ({ frames := 0, cells := 0, slots := 0, locals := 0 }) (va_Pc [.ref a, .int p1] (fun U => U.heap.size = sz ∧ va_P (dC, dI) vwCl [(a, .inl (ka, 3575, .inl fa))] U.heap ∧ va_K (dC, dI) vwCl [(ka, .int)] U ∧ va_D (fun _ => True) [(a, .inl (ka, 3575, .inl fa))] ∧ nzA U)) (va_Qv (fun (u : Unit) => True) (fun _ t => ∃ (z0 : Nat → Int32), va_P (dC, dI) vwCl [(a, .inl (ka, 3575, .inl z0))] t.heap ∧ va_D (va_A [(a, .inl (ka, 3575, .inl fa))] sz) [(a, .inl (ka, 3575, .inl z0))]) (va_A [(a, .inl (ka, 3575, .inl fa))] sz)) 0 0 (va_A [(a, .inl (ka, 3575, .inl fa))] sz) := by
  refine Met.ofW (cc := cJ7_fill_53178) (maxL := 4) (ret := none) (by decide) rfl ?_
  intro p e s m args below meth c s₁ B hml hv
  obtain ⟨rfl, hsz, hP, hK, hD0, hz⟩ := hv
  have hx := B.exec
  have hb := B.bytes
  have hr := B.returns
  have hts := atoms_spec (ws := (.code yJ7_fill_53178 cJ7_fill_53178 4 none :: wsGA)) B.pre
  have hown : s.vm.findClass RJ7 = some m.cls := findClass_of_methodNamed B.named
  have hlocks := B.notSynchronized
  subst hsz
  have hD := hD0.self (sz := s.heap.size)
  generalize hAe : va_A [(a, .inl (ka, 3575, .inl fa))] s.heap.size = A at hD ⊢
  have hA : ∀ q : Nat, s.heap.size ≤ q → A q := fun q h => by rw [← hAe]; exact Or.inr h
  have hS : va_S A s.heap s.heap [] := va_S.rf
  have hl := lv_entry ([.ref a, .int p1]) (n := 4) (Nat.le_of_ble_eq_true rfl)
  rw [lg_entry_eq]
  generalize (lg_sl ([.ref a, .int p1]) ++ List.replicate (4 - (lg_sl ([.ref a, .int p1])).length) Slot.unset).toArray = ls at hl ⊢
  have hl : lv_has ls 4 [(0, .ref a), (1, .int p1)] := hl
  refine lv_iconst (v := 0) hx hb dJ7_fill_53178_0 (by decide) ?_
  refine lv_istore_n (lv' := [(2, .int 0), (0, .ref a), (1, .int p1)]) hx hb dJ7_fill_53178_1 rfl hl (by decide) rfl (fun ls hl => ?_)
  refine lv_aload_n hx hb dJ7_fill_53178_2 rfl (lv_at hl 1 rfl) ?_
  refine va_alen (v := 3575) hx hb hK hP 0 0 rfl rfl rfl dJ7_fill_53178_3 ?_
  refine lv_istore_n (lv' := [(3, .int 3575), (2, .int 0), (0, .ref a), (1, .int p1)]) hx hb dJ7_fill_53178_4 rfl hl (by decide) rfl (fun ls hl => ?_)
  refine (lp_sJ7_fill3575 a ka fa p1  hx hb hml hown hts hK hz hA (Nat.le_of_ble_eq_true rfl) (Nat.le_of_ble_eq_true rfl) (Nat.zero_le _) (Nat.zero_le _) (fun z0 H locs ls hP hD hS hl => ?_) 7164) 0 3575 fa _ _ _ (gi_w (gi_c 0 0 (by decide)) (by decide)) (gi_c 3575 3575 (by decide)) (by have k0 : (0 : Int32).toInt = 0 := (by decide); omega) hP hD hS (lv_sub hl [2, 3, 1, 0] rfl)
  · skip
    exact W.vret hx hb hr (fun t ht hW => ⟨⟨(), rfl, trivial, z0, by rw [ht]; exact hP, hD⟩, hS.F ht⟩) hS.2.2 dJ7_fill_53178_20
