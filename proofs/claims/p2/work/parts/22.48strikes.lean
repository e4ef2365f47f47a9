theorem dX12_strikes_0 : decode cX12_strikes 0 = .ok (.aload_n 0, 1) := by decide +kernel
theorem dX12_strikes_1 : decode cX12_strikes 1 = .ok (.iload_n 1, 1) := by decide +kernel
theorem dX12_strikes_2 : decode cX12_strikes 2 = .ok (.invokevirtual 303, 3) := by decide +kernel
theorem dX12_strikes_5 : decode cX12_strikes 5 = .ok (.ifCond .ne 6, 3) := by decide +kernel
theorem dX12_strikes_8 : decode cX12_strikes 8 = .ok (.bipush (-2), 2) := by decide +kernel
theorem dX12_strikes_10 : decode cX12_strikes 10 = .ok (.ireturn, 1) := by decide +kernel
theorem dX12_strikes_11 : decode cX12_strikes 11 = .ok (.aload_n 0, 1) := by decide +kernel
theorem dX12_strikes_12 : decode cX12_strikes 12 = .ok (.getfield 22, 3) := by decide +kernel
theorem dX12_strikes_15 : decode cX12_strikes 15 = .ok (.iload_n 1, 1) := by decide +kernel
theorem dX12_strikes_16 : decode cX12_strikes 16 = .ok (.baload, 1) := by decide +kernel
theorem dX12_strikes_17 : decode cX12_strikes 17 = .ok (.ifCond .eq 6, 3) := by decide +kernel
theorem dX12_strikes_20 : decode cX12_strikes 20 = .ok (.bipush (-5), 2) := by decide +kernel
theorem dX12_strikes_22 : decode cX12_strikes 22 = .ok (.ireturn, 1) := by decide +kernel
theorem dX12_strikes_23 : decode cX12_strikes 23 = .ok (.aload_n 0, 1) := by decide +kernel
theorem dX12_strikes_24 : decode cX12_strikes 24 = .ok (.getfield 22, 3) := by decide +kernel
theorem dX12_strikes_27 : decode cX12_strikes 27 = .ok (.iload_n 1, 1) := by decide +kernel
theorem dX12_strikes_28 : decode cX12_strikes 28 = .ok (.iconst 1, 1) := by decide +kernel
theorem dX12_strikes_29 : decode cX12_strikes 29 = .ok (.bastore, 1) := by decide +kernel
theorem dX12_strikes_30 : decode cX12_strikes 30 = .ok (.iconst 0, 1) := by decide +kernel
theorem dX12_strikes_31 : decode cX12_strikes 31 = .ok (.istore_n 2, 1) := by decide +kernel
theorem dX12_strikes_32 : decode cX12_strikes 32 = .ok (.iconst 0, 1) := by decide +kernel
theorem dX12_strikes_33 : decode cX12_strikes 33 = .ok (.istore_n 3, 1) := by decide +kernel
theorem dX12_strikes_34 : decode cX12_strikes 34 = .ok (.iload_n 3, 1) := by decide +kernel
theorem dX12_strikes_35 : decode cX12_strikes 35 = .ok (.aload_n 0, 1) := by decide +kernel
theorem dX12_strikes_36 : decode cX12_strikes 36 = .ok (.getfield 141, 3) := by decide +kernel
theorem dX12_strikes_39 : decode cX12_strikes 39 = .ok (.if_icmp .ge 26, 3) := by decide +kernel
theorem dX12_strikes_42 : decode cX12_strikes 42 = .ok (.iload_n 2, 1) := by decide +kernel
theorem dX12_strikes_43 : decode cX12_strikes 43 = .ok (.aload_n 0, 1) := by decide +kernel
theorem dX12_strikes_44 : decode cX12_strikes 44 = .ok (.getfield 22, 3) := by decide +kernel
theorem dX12_strikes_47 : decode cX12_strikes 47 = .ok (.iload_n 3, 1) := by decide +kernel
theorem dX12_strikes_48 : decode cX12_strikes 48 = .ok (.baload, 1) := by decide +kernel
theorem dX12_strikes_49 : decode cX12_strikes 49 = .ok (.ifCond .eq 7, 3) := by decide +kernel
theorem dX12_strikes_52 : decode cX12_strikes 52 = .ok (.iconst 0, 1) := by decide +kernel
theorem dX12_strikes_53 : decode cX12_strikes 53 = .ok (.goto 4, 3) := by decide +kernel
theorem dX12_strikes_56 : decode cX12_strikes 56 = .ok (.iconst 1, 1) := by decide +kernel
theorem dX12_strikes_57 : decode cX12_strikes 57 = .ok (.iadd, 1) := by decide +kernel
theorem dX12_strikes_58 : decode cX12_strikes 58 = .ok (.istore_n 2, 1) := by decide +kernel
theorem dX12_strikes_59 : decode cX12_strikes 59 = .ok (.iinc 3 1, 3) := by decide +kernel
theorem dX12_strikes_62 : decode cX12_strikes 62 = .ok (.goto (-28), 3) := by decide +kernel
theorem dX12_strikes_65 : decode cX12_strikes 65 = .ok (.iload_n 2, 1) := by decide +kernel
theorem dX12_strikes_66 : decode cX12_strikes 66 = .ok (.ireturn, 1) := by decide +kernel
set_option maxHeartbeats 4000000 in
set_option maxRecDepth 100000 in
theorem lp_sX12_strikes {p : Program} {l : Launch} {e : Env} {R : Room} {s : State} {m : MethodId} {args : Array Value} {below : List Frame} {meth : Method} {c : Code} {Q : State → Prop} {A : Nat → Prop} {cells slots : Nat} {dC : Nat → ClassId} {dI : Nat → Nat → Nat} (h0 : Nat) (mi : Nat → Int32) (mr : Nat → Nat) (km_struck : ClassId) (fm_struck : Nat → Int32) (p1 : Int32) (gmi_0 : gi (mi 0) 0 24) (gmi_1 : gi (mi 1) 0 5) (gmi_2 : gi (mi 2) 0 5) (gmi_4 : gi (mi 4) 0 1) (gmi_7 : gi (mi 7) 0 6) (gmi_10 : gi (mi 10) 0 24) (gmi_17 : gi (mi 17) 0 8) (gmi_23 : gi (mi 23) 0 300) (gmi_24 : gi (mi 24) 0 1) (gmi_26 : gi (mi 26) 0 1600) (gmi_29 : gi (mi 29) 0 1600) (gmi_30 : gi (mi 30) 0 1600) (gmi_33 : gi (mi 33) 0 1) (gmi_37 : gi (mi 37) 0 1) (gmi_41 : gi (mi 41) 0 24) (gmi_50 : gi (mi 50) 0 1) (gmi_51 : gi (mi 51) 0 1) (gmi_56 : gi (mi 56) 0 80) (gfm_struck : ga fm_struck 24 0 1) (hx : p.tables.exec = Jvm.exec) (hb : c.code = cX12_strikes) (hml : c.maxLocals = 4) (hown : s.vm.findClass RX12 = some m.cls) (hts : ∀ w ∈ ((.code yX12_strikes cX12_strikes 4 (some .int) :: wsGB) : List Cond), w.before args s = true) (hK : va_K (dC, dI) vwCl [(km_struck, .boolean)] s) (hA : ∀ q : Nat, s.heap.size ≤ q → A q) (hRf : 2 ≤ R.frames) (hRl : 46 ≤ R.locals) (hRc : cells ≤ R.cells) (hRs : slots ≤ R.slots) (kr22 : ∀ (v : Int32) (z1 : Nat → Int32) (H : Heap) (locs : List Loc) (ls : Array Slot), gi v (-5) (-5) → ga z1 24 0 1 → va_P (dC, dI) vwCl [(h0, .inr (12, fsMM mi mr)), ((mr 4), .inl (km_struck, 24, .inl z1))] H → va_D A [(h0, .inr (12, fsMM mi mr)), ((mr 4), .inl (km_struck, 24, .inl z1))] → va_S A s.heap H locs → lv_has ls 4 [] → W p l e R s m args below meth c H locs cells slots Q (F0 m 22 ls [.int v])) (kr10 : ∀ (v : Int32) (z1 : Nat → Int32) (H : Heap) (locs : List Loc) (ls : Array Slot), gi v (-2) (-2) → ga z1 24 0 1 → va_P (dC, dI) vwCl [(h0, .inr (12, fsMM mi mr)), ((mr 4), .inl (km_struck, 24, .inl z1))] H → va_D A [(h0, .inr (12, fsMM mi mr)), ((mr 4), .inl (km_struck, 24, .inl z1))] → va_S A s.heap H locs → lv_has ls 4 [] → W p l e R s m args below meth c H locs cells slots Q (F0 m 10 ls [.int v])) (kr66 : ∀ (v : Int32) (z1 : Nat → Int32) (H : Heap) (locs : List Loc) (ls : Array Slot), ga z1 24 0 1 → va_P (dC, dI) vwCl [(h0, .inr (12, fsMM mi mr)), ((mr 4), .inl (km_struck, 24, .inl z1))] H → va_D A [(h0, .inr (12, fsMM mi mr)), ((mr 4), .inl (km_struck, 24, .inl z1))] → va_S A s.heap H locs → lv_has ls 4 [] → W p l e R s m args below meth c H locs cells slots Q (F0 m 66 ls [.int v])) : ∀ z : Nat, (∀ (v2 : Int32) (v3 : Int32) (z1 : Nat → Int32) (H : Heap) (locs : List Loc) (ls : Array Slot), gi p1 0 23 → gi v3 0 24 → ga z1 24 0 1 → 49 + (-2) * v3.toInt < (z : Int) → va_P (dC, dI) vwCl [(h0, .inr (12, fsMM mi mr)), ((mr 4), .inl (km_struck, 24, .inl z1))] H → va_D A [(h0, .inr (12, fsMM mi mr)), ((mr 4), .inl (km_struck, 24, .inl z1))] → va_S A s.heap H locs → lv_has ls 4 [(0, .ref h0), (1, .int p1), (2, .int v2), (3, .int v3)] → W p l e R s m args below meth c H locs cells slots Q (F0 m 34 ls [])) := by
  intro z
  induction z with
  | zero =>
    intro v2 v3 z1 H locs ls gf_p1 gv3 gz1 hmu hP hD hS hl
    exact absurd hmu (by have hv31 := gv3.1; have hv32 := gv3.2; omega)
  | succ z ih =>
      intro v2 v3 z1 H locs ls gf_p1 gv3 gz1 hmu hP hD hS hl
      refine lv_iload_n hx hb dX12_strikes_34 rfl (lv_at hl 3 rfl) ?_
      refine lv_aload_n hx hb dX12_strikes_35 rfl (lv_at hl 0 rfl) ?_
      refine va_get (D := (dC, dI)) (ci := 12) (v := .int (mi 10)) (C := RX12) (T := TX12) (N := 57) hx hb hts (fun w h => List.mem_cons_of_mem _ (jnGB_X12 w h)) hown hK hP 0 rfl rfl 10 (by decide) (hts _ (List.mem_cons_of_mem _ mGB_111)) (fun _ h9 => h9) rfl dX12_strikes_36 ?_
      refine lv_icmp_ge (tgt := 65) hx hb dX12_strikes_39 (by decide) (fun c_820 => ?_) (fun c_820 => ?_)
      · refine lv_iload_n hx hb dX12_strikes_65 rfl (lv_at hl 2 rfl) ?_
        exact kr66 v2 z1 _ _ _ gz1 hP hD hS (lv_sub hl [] rfl)
      · have g_821 : gi v3 0 23 := gi_lt_l (Int32.not_le.mp c_820) gv3 gmi_10 (by decide)
        have g_822 : gi (mi 10) 1 24 := gi_lt_r (Int32.not_le.mp c_820) gv3 gmi_10 (by decide)
        refine lv_iload_n hx hb dX12_strikes_42 rfl (lv_at hl 2 rfl) ?_
        refine lv_aload_n hx hb dX12_strikes_43 rfl (lv_at hl 0 rfl) ?_
        refine va_get (D := (dC, dI)) (ci := 12) (v := .ref (mr 4)) (C := RX12) (T := TX12) (N := 57) hx hb hts (fun w h => List.mem_cons_of_mem _ (jnGB_X12 w h)) hown hK hP 0 rfl rfl 13 (by decide) (hts _ (List.mem_cons_of_mem _ mGB_15)) (fun _ h9 => h9) rfl dX12_strikes_44 ?_
        refine lv_iload_n hx hb dX12_strikes_47 rfl (lv_at hl 3 rfl) ?_
        refine va_zald hx hb hK hP 1 0 rfl rfl (gi_in g_821 (by decide)) dX12_strikes_48 ?_
        refine lv_topi (fun x_823 ex_823 => ?_)
        have gx_823 : gi x_823 0 1 := ga_at gz1 (gi_in g_821 (by decide)) ex_823
        refine lv_if_eq (tgt := 56) hx hb dX12_strikes_49 (by decide) (fun c_824 => ?_) (fun c_824 => ?_)
        · have g_825 : gi x_823 0 0 := gi_eq c_824 (gi_c 0 0 (by decide))
          refine lv_iconst (v := 1) hx hb dX12_strikes_56 (by decide) ?_
          refine lv_iadd hx hb dX12_strikes_57 ?_
          refine lv_topi (fun x_826 ex_826 => ?_)
          refine lv_istore_n (lv' := [(2, .int x_826), (0, .ref h0), (1, .int p1), (3, .int v3)]) hx hb dX12_strikes_58 rfl hl (by decide) rfl (fun ls hl => ?_)
          obtain ⟨x_827, ex_827⟩ : ∃ y : Int32, y = v3 + 1 := ⟨_, rfl⟩
          have gx_827 : gi x_827 1 24 := gi_add ex_827 g_821 (gi_c 1 1 (by decide)) (by decide)
          refine lv_iinc (v := x_827) (lv' := [(3, .int x_827), (2, .int x_826), (0, .ref h0), (1, .int p1)]) hx hb dX12_strikes_59 hl (k := 3) rfl (by rw [ex_827]; rfl) (by decide) rfl (fun ls hl => ?_)
          refine lv_goto (tgt := 34) hx hb dX12_strikes_62 (by decide) ?_
          exact ih x_826 x_827 z1 _ _ _ gf_p1 (gi_w gx_827 (by decide)) gz1 (by have av3 := gv3.1; have bv3 := gv3.2; have qgx_827 := gx_827.1; have rgx_827 := gx_827.2; have igx_827 : x_827.toInt = v3.toInt + 1 := (by have hc1 : (1 : Int32).toInt = 1 := (by decide); have h9 := gi_addI ex_827 (by have h1 := g_821.1; have h2 := (gi_c 1 1 (by decide)).1; have h3 := g_821.2; have h4 := (gi_c 1 1 (by decide)).2; omega) (by have h1 := g_821.1; have h2 := (gi_c 1 1 (by decide)).1; have h3 := g_821.2; have h4 := (gi_c 1 1 (by decide)).2; omega); rw [hc1] at h9; exact h9); have qgv3 := g_821.1; have rgv3 := g_821.2; omega) hP hD hS (lv_sub hl [2, 3, 1, 0] rfl)
        · have g_828 : gi x_823 1 1 := gi_ne_lo c_824 gx_823 (gi_c 0 0 (by decide)) (by decide)
          refine lv_iconst (v := 0) hx hb dX12_strikes_52 (by decide) ?_
          refine lv_goto (tgt := 57) hx hb dX12_strikes_53 (by decide) ?_
          refine lv_iadd hx hb dX12_strikes_57 ?_
          refine lv_topi (fun x_829 ex_829 => ?_)
          refine lv_istore_n (lv' := [(2, .int x_829), (0, .ref h0), (1, .int p1), (3, .int v3)]) hx hb dX12_strikes_58 rfl hl (by decide) rfl (fun ls hl => ?_)
          obtain ⟨x_830, ex_830⟩ : ∃ y : Int32, y = v3 + 1 := ⟨_, rfl⟩
          have gx_830 : gi x_830 1 24 := gi_add ex_830 g_821 (gi_c 1 1 (by decide)) (by decide)
          refine lv_iinc (v := x_830) (lv' := [(3, .int x_830), (2, .int x_829), (0, .ref h0), (1, .int p1)]) hx hb dX12_strikes_59 hl (k := 3) rfl (by rw [ex_830]; rfl) (by decide) rfl (fun ls hl => ?_)
          refine lv_goto (tgt := 34) hx hb dX12_strikes_62 (by decide) ?_
          exact ih x_829 x_830 z1 _ _ _ gf_p1 (gi_w gx_830 (by decide)) gz1 (by have av3 := gv3.1; have bv3 := gv3.2; have qgx_830 := gx_830.1; have rgx_830 := gx_830.2; have igx_830 : x_830.toInt = v3.toInt + 1 := (by have hc1 : (1 : Int32).toInt = 1 := (by decide); have h9 := gi_addI ex_830 (by have h1 := g_821.1; have h2 := (gi_c 1 1 (by decide)).1; have h3 := g_821.2; have h4 := (gi_c 1 1 (by decide)).2; omega) (by have h1 := g_821.1; have h2 := (gi_c 1 1 (by decide)).1; have h3 := g_821.2; have h4 := (gi_c 1 1 (by decide)).2; omega); rw [hc1] at h9; exact h9); have qgv3 := g_821.1; have rgv3 := g_821.2; omega) hP hD hS (lv_sub hl [2, 3, 1, 0] rfl)
set_option maxHeartbeats 4000000 in
set_option maxRecDepth 100000 in
theorem sX12_strikes (l : Launch) (dC : Nat → ClassId) (dI : Nat → Nat → Nat) (sz : Nat) (h0 : Nat) (mi : Nat → Int32) (mr : Nat → Nat) (km_struck : ClassId) (fm_struck : Nat → Int32) (p1 : Int32) (gmi_0 : gi (mi 0) 0 24) (gmi_1 : gi (mi 1) 0 5) (gmi_2 : gi (mi 2) 0 5) (gmi_4 : gi (mi 4) 0 1) (gmi_7 : gi (mi 7) 0 6) (gmi_10 : gi (mi 10) 0 24) (gmi_17 : gi (mi 17) 0 8) (gmi_23 : gi (mi 23) 0 300) (gmi_24 : gi (mi 24) 0 1) (gmi_26 : gi (mi 26) 0 1600) (gmi_29 : gi (mi 29) 0 1600) (gmi_30 : gi (mi 30) 0 1600) (gmi_33 : gi (mi 33) 0 1) (gmi_37 : gi (mi 37) 0 1) (gmi_41 : gi (mi 41) 0 24) (gmi_50 : gi (mi 50) 0 1) (gmi_51 : gi (mi 51) 0 1) (gmi_56 : gi (mi 56) 0 80) (gfm_struck : ga fm_struck 24 0 1) : Met l yX12_strikes (.code yX12_strikes cX12_strikes 4 (some .int) :: wsGB) ({ frames := 2, cells := 0, slots := 0, locals := 46 }) (va_Pc [.ref h0, .int p1] (fun U => U.heap.size = sz ∧ va_P (dC, dI) vwCl [(h0, .inr (12, fsMM mi mr)), ((mr 4), .inl (km_struck, 24, .inl fm_struck))] U.heap ∧ va_K (dC, dI) vwCl [(km_struck, .boolean)] U ∧ va_D (fun _ => True) [(h0, .inr (12, fsMM mi mr)), ((mr 4), .inl (km_struck, 24, .inl fm_struck))])) (va_Qi (fun (r : Int32) (u : Unit) => gi r (-2147483648) 2147483647) (fun _ t => ∃ (z1 : Nat → Int32), ga z1 24 0 1 ∧ va_P (dC, dI) vwCl [(h0, .inr (12, fsMM mi mr)), ((mr 4), .inl (km_struck, 24, .inl z1))] t.heap ∧ va_D (va_A [(h0, .inr (12, fsMM mi mr)), ((mr 4), .inl (km_struck, 24, .inl fm_struck))] sz) [(h0, .inr (12, fsMM mi mr)), ((mr 4), .inl (km_struck, 24, .inl z1))]) (va_A [(h0, .inr (12, fsMM mi mr)), ((mr 4), .inl (km_struck, 24, .inl fm_struck))] sz)) 0 0 (va_A [(h0, .inr (12, fsMM mi mr)), ((mr 4), .inl (km_struck, 24, .inl fm_struck))] sz) := by
  refine Met.ofW (cc := cX12_strikes) (maxL := 4) (ret := (some .int)) (by decide) rfl ?_
  intro p e s m args below meth c s₁ B hml hv
  obtain ⟨rfl, hsz, hP, hK, hD0⟩ := hv
  have hx := B.exec
  have hb := B.bytes
  have hr := B.returns
  have hts := atoms_spec (ws := (.code yX12_strikes cX12_strikes 4 (some .int) :: wsGB)) B.pre
  have hown : s.vm.findClass RX12 = some m.cls := findClass_of_methodNamed B.named
  have hlocks := B.notSynchronized
  subst hsz
  have hD := hD0.self (sz := s.heap.size)
  generalize hAe : va_A [(h0, .inr (12, fsMM mi mr)), ((mr 4), .inl (km_struck, 24, .inl fm_struck))] s.heap.size = A at hD ⊢
  have hA : ∀ q : Nat, s.heap.size ≤ q → A q := fun q h => by rw [← hAe]; exact Or.inr h
  have hS : va_S A s.heap s.heap [] := va_S.rf
  have hl := lv_entry ([.ref h0, .int p1]) (n := 4) (Nat.le_of_ble_eq_true rfl)
  rw [lg_entry_eq]
  generalize (lg_sl ([.ref h0, .int p1]) ++ List.replicate (4 - (lg_sl ([.ref h0, .int p1])).length) Slot.unset).toArray = ls at hl ⊢
  have hl : lv_has ls 4 [(0, .ref h0), (1, .int p1)] := hl
  refine lv_aload_n hx hb dX12_strikes_0 rfl (lv_at hl 0 rfl) ?_
  refine lv_iload_n hx hb dX12_strikes_1 rfl (lv_at hl 1 rfl) ?_
  have hPc := hP.sub (ws' := [(h0, .inr (12, fsMM mi mr))]) [0] rfl
  have hKc := hK.sub (tys' := []) [] rfl
  refine va_calli (va_runV (As := [.int p1]) (rest := []) ⟨hx, hb, hml, hown, hts⟩ (sX12_isReport l dC dI h0 mi mr p1 gmi_0 gmi_1 gmi_2 gmi_4 gmi_7 gmi_10 gmi_17 gmi_23 gmi_24 gmi_26 gmi_29 gmi_30 gmi_33 gmi_37 gmi_41 gmi_50 gmi_51 gmi_56) (cwV 1 hts (gz_gV mGB_235 mGB_236 mGB_237 mGB_1 mGB_238 goodGB) rfl rfl rfl (by decide +kernel) ⟨Nat.le_of_ble_eq_true rfl, Nat.le_of_ble_eq_true rfl⟩) ⟨fun a U g mk q => by obtain ⟨q0, qP, qK⟩ := q; exact ⟨q0, qP, va_K.moved (u := U) (U := U.calling g mk a) (Vm.Alike.refl U.vm) qK⟩, va_recv hKc hPc (ci := 12) (q0 := 0) rfl rfl, fun U hU hW => ⟨rfl, by rw [hU]; exact hPc, va_K.moved hW.alike hKc⟩⟩ rfl rfl hl.1 rfl (lv_room (Nat.le_of_ble_eq_true rfl)) dX12_strikes_2 ⟨Nat.zero_le _, Nat.zero_le _⟩) hS (fun q _ h => h.elim) (fun q h => h.elim) (fun r_831 u t H1 locs ht hvm hw hB hz1 hk1 hS => ?_)
  have hP := gz_keep hP hk1
  generalize H1 = H at hP hS ⊢
  have gr_831 : gi r_831 0 1 := hw.1
  have hqr_831 := hw.2
  refine lv_if_ne (tgt := 11) hx hb dX12_strikes_5 (by decide) (fun c_832 => ?_) (fun c_832 => ?_)
  · have g_833 : gi r_831 1 1 := gi_ne_lo c_832 gr_831 (gi_c 0 0 (by decide)) (by decide)
    have g_834 : gi p1 0 23 := gi_cap (gi_any p1) (hqr_831 (gz_one g_833)) (by decide)
    refine lv_aload_n hx hb dX12_strikes_11 rfl (lv_at hl 0 rfl) ?_
    refine va_get (D := (dC, dI)) (ci := 12) (v := .ref (mr 4)) (C := RX12) (T := TX12) (N := 57) hx hb hts (fun w h => List.mem_cons_of_mem _ (jnGB_X12 w h)) hown hK hP 0 rfl rfl 13 (by decide) (hts _ (List.mem_cons_of_mem _ mGB_15)) (fun _ h9 => h9) rfl dX12_strikes_12 ?_
    refine lv_iload_n hx hb dX12_strikes_15 rfl (lv_at hl 1 rfl) ?_
    refine va_zald hx hb hK hP 1 0 rfl rfl (gi_in g_834 (by decide)) dX12_strikes_16 ?_
    refine lv_topi (fun x_835 ex_835 => ?_)
    have gx_835 : gi x_835 0 1 := ga_at gfm_struck (gi_in g_834 (by decide)) ex_835
    refine lv_if_eq (tgt := 23) hx hb dX12_strikes_17 (by decide) (fun c_836 => ?_) (fun c_836 => ?_)
    · have g_837 : gi x_835 0 0 := gi_eq c_836 (gi_c 0 0 (by decide))
      refine lv_aload_n hx hb dX12_strikes_23 rfl (lv_at hl 0 rfl) ?_
      refine va_get (D := (dC, dI)) (ci := 12) (v := .ref (mr 4)) (C := RX12) (T := TX12) (N := 57) hx hb hts (fun w h => List.mem_cons_of_mem _ (jnGB_X12 w h)) hown hK hP 0 rfl rfl 13 (by decide) (hts _ (List.mem_cons_of_mem _ mGB_15)) (fun _ h9 => h9) rfl dX12_strikes_24 ?_
      refine lv_iload_n hx hb dX12_strikes_27 rfl (lv_at hl 1 rfl) ?_
      refine lv_iconst (v := 1) hx hb dX12_strikes_28 (by decide) ?_
      refine va_zast hx hb hK hP hD hS 1 0 rfl rfl (gi_in g_834 (by decide)) dX12_strikes_29 (fun H locs hP hD hS => ?_)
      have hP : va_P (dC, dI) vwCl [(h0, .inr (12, fsMM mi mr)), ((mr 4), .inl (km_struck, 24, .inl (upd fm_struck (p1 : Int32).toNatClampNeg (vp_nar .boolean 1))))] H := hP
      have hD : va_D A [(h0, .inr (12, fsMM mi mr)), ((mr 4), .inl (km_struck, 24, .inl (upd fm_struck (p1 : Int32).toNatClampNeg (vp_nar .boolean 1))))] := hD
      have gf_838 : ga (upd fm_struck (p1 : Int32).toNatClampNeg (vp_nar .boolean 1)) 24 0 1 := ga_updz gfm_struck (gi_w (gi_c 1 1 (by decide)) (by decide))
      generalize upd fm_struck (p1 : Int32).toNatClampNeg (vp_nar .boolean 1) = f_838 at hP hD gf_838
      refine lv_iconst (v := 0) hx hb dX12_strikes_30 (by decide) ?_
      refine lv_istore_n (lv' := [(2, .int 0), (0, .ref h0), (1, .int p1)]) hx hb dX12_strikes_31 rfl hl (by decide) rfl (fun ls hl => ?_)
      refine lv_iconst (v := 0) hx hb dX12_strikes_32 (by decide) ?_
      refine lv_istore_n (lv' := [(3, .int 0), (2, .int 0), (0, .ref h0), (1, .int p1)]) hx hb dX12_strikes_33 rfl hl (by decide) rfl (fun ls hl => ?_)
      refine (lp_sX12_strikes h0 mi mr km_struck fm_struck p1 gmi_0 gmi_1 gmi_2 gmi_4 gmi_7 gmi_10 gmi_17 gmi_23 gmi_24 gmi_26 gmi_29 gmi_30 gmi_33 gmi_37 gmi_41 gmi_50 gmi_51 gmi_56 gfm_struck hx hb hml hown hts hK hA (Nat.le_of_ble_eq_true rfl) (Nat.le_of_ble_eq_true rfl) (Nat.zero_le _) (Nat.zero_le _) (fun v z1 H locs ls gv gz1 hP hD hS hl => ?_) (fun v z1 H locs ls gv gz1 hP hD hS hl => ?_) (fun v z1 H locs ls gz1 hP hD hS hl => ?_) 62) 0 0 f_838 _ _ _ g_834 (gi_w (gi_c 0 0 (by decide)) (by decide)) gf_838 (by have k0 : (0 : Int32).toInt = 0 := (by decide); omega) hP hD hS (lv_sub hl [2, 3, 1, 0] rfl)
      · skip
        exact W.iret (v := v) hx hb hr (fun t ht hW => ⟨⟨v, (), rfl, (gi_any v), z1, gz1, by rw [ht]; exact hP, hD⟩, hS.F ht⟩) hS.2.2 dX12_strikes_22
      · skip
        exact W.iret (v := v) hx hb hr (fun t ht hW => ⟨⟨v, (), rfl, (gi_any v), z1, gz1, by rw [ht]; exact hP, hD⟩, hS.F ht⟩) hS.2.2 dX12_strikes_10
      · skip
        exact W.iret (v := v) hx hb hr (fun t ht hW => ⟨⟨v, (), rfl, (gi_any v), z1, gz1, by rw [ht]; exact hP, hD⟩, hS.F ht⟩) hS.2.2 dX12_strikes_66
    · have g_839 : gi x_835 1 1 := gi_ne_lo c_836 gx_835 (gi_c 0 0 (by decide)) (by decide)
      refine lv_bipush (v := (-5)) hx hb dX12_strikes_20 (by decide) ?_
      exact W.iret (v := (-5)) hx hb hr (fun t ht hW => ⟨⟨(-5), (), rfl, (gi_any (-5)), fm_struck, gfm_struck, by rw [ht]; exact hP, hD⟩, hS.F ht⟩) hS.2.2 dX12_strikes_22
  · have g_840 : gi r_831 0 0 := gi_eq c_832 (gi_c 0 0 (by decide))
    refine lv_bipush (v := (-2)) hx hb dX12_strikes_8 (by decide) ?_
    exact W.iret (v := (-2)) hx hb hr (fun t ht hW => ⟨⟨(-2), (), rfl, (gi_any (-2)), fm_struck, gfm_struck, by rw [ht]; exact hP, hD⟩, hS.F ht⟩) hS.2.2 dX12_strikes_10
