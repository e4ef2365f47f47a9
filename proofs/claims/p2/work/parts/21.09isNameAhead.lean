theorem dX12_isNameAhead_0 : decode cX12_isNameAhead 0 = .ok (.iconst 0, 1) := by decide +kernel
theorem dX12_isNameAhead_1 : decode cX12_isNameAhead 1 = .ok (.istore_n 3, 1) := by decide +kernel
theorem dX12_isNameAhead_2 : decode cX12_isNameAhead 2 = .ok (.iload_n 3, 1) := by decide +kernel
theorem dX12_isNameAhead_3 : decode cX12_isNameAhead 3 = .ok (.bipush 6, 2) := by decide +kernel
theorem dX12_isNameAhead_5 : decode cX12_isNameAhead 5 = .ok (.if_icmp .ge 55, 3) := by decide +kernel
theorem dX12_isNameAhead_8 : decode cX12_isNameAhead 8 = .ok (.aload_n 0, 1) := by decide +kernel
theorem dX12_isNameAhead_9 : decode cX12_isNameAhead 9 = .ok (.getfield 13, 3) := by decide +kernel
theorem dX12_isNameAhead_12 : decode cX12_isNameAhead 12 = .ok (.bipush 6, 2) := by decide +kernel
theorem dX12_isNameAhead_14 : decode cX12_isNameAhead 14 = .ok (.iload_n 1, 1) := by decide +kernel
theorem dX12_isNameAhead_15 : decode cX12_isNameAhead 15 = .ok (.imul, 1) := by decide +kernel
theorem dX12_isNameAhead_16 : decode cX12_isNameAhead 16 = .ok (.iload_n 3, 1) := by decide +kernel
theorem dX12_isNameAhead_17 : decode cX12_isNameAhead 17 = .ok (.iadd, 1) := by decide +kernel
theorem dX12_isNameAhead_18 : decode cX12_isNameAhead 18 = .ok (.iaload, 1) := by decide +kernel
theorem dX12_isNameAhead_19 : decode cX12_isNameAhead 19 = .ok (.istore 4, 2) := by decide +kernel
theorem dX12_isNameAhead_21 : decode cX12_isNameAhead 21 = .ok (.aload_n 0, 1) := by decide +kernel
theorem dX12_isNameAhead_22 : decode cX12_isNameAhead 22 = .ok (.getfield 13, 3) := by decide +kernel
theorem dX12_isNameAhead_25 : decode cX12_isNameAhead 25 = .ok (.bipush 6, 2) := by decide +kernel
theorem dX12_isNameAhead_27 : decode cX12_isNameAhead 27 = .ok (.iload_n 2, 1) := by decide +kernel
theorem dX12_isNameAhead_28 : decode cX12_isNameAhead 28 = .ok (.imul, 1) := by decide +kernel
theorem dX12_isNameAhead_29 : decode cX12_isNameAhead 29 = .ok (.iload_n 3, 1) := by decide +kernel
theorem dX12_isNameAhead_30 : decode cX12_isNameAhead 30 = .ok (.iadd, 1) := by decide +kernel
theorem dX12_isNameAhead_31 : decode cX12_isNameAhead 31 = .ok (.iaload, 1) := by decide +kernel
theorem dX12_isNameAhead_32 : decode cX12_isNameAhead 32 = .ok (.istore 5, 2) := by decide +kernel
theorem dX12_isNameAhead_34 : decode cX12_isNameAhead 34 = .ok (.iload 4, 2) := by decide +kernel
theorem dX12_isNameAhead_36 : decode cX12_isNameAhead 36 = .ok (.iload 5, 2) := by decide +kernel
theorem dX12_isNameAhead_38 : decode cX12_isNameAhead 38 = .ok (.if_icmp .eq 16, 3) := by decide +kernel
theorem dX12_isNameAhead_41 : decode cX12_isNameAhead 41 = .ok (.iload 4, 2) := by decide +kernel
theorem dX12_isNameAhead_43 : decode cX12_isNameAhead 43 = .ok (.iload 5, 2) := by decide +kernel
theorem dX12_isNameAhead_45 : decode cX12_isNameAhead 45 = .ok (.if_icmp .ge 7, 3) := by decide +kernel
theorem dX12_isNameAhead_48 : decode cX12_isNameAhead 48 = .ok (.iconst 1, 1) := by decide +kernel
theorem dX12_isNameAhead_49 : decode cX12_isNameAhead 49 = .ok (.goto 4, 3) := by decide +kernel
theorem dX12_isNameAhead_52 : decode cX12_isNameAhead 52 = .ok (.iconst 0, 1) := by decide +kernel
theorem dX12_isNameAhead_53 : decode cX12_isNameAhead 53 = .ok (.ireturn, 1) := by decide +kernel
theorem dX12_isNameAhead_54 : decode cX12_isNameAhead 54 = .ok (.iinc 3 1, 3) := by decide +kernel
theorem dX12_isNameAhead_57 : decode cX12_isNameAhead 57 = .ok (.goto (-55), 3) := by decide +kernel
theorem dX12_isNameAhead_60 : decode cX12_isNameAhead 60 = .ok (.iconst 0, 1) := by decide +kernel
theorem dX12_isNameAhead_61 : decode cX12_isNameAhead 61 = .ok (.ireturn, 1) := by decide +kernel
set_option maxHeartbeats 4000000 in
set_option maxRecDepth 100000 in
theorem lp_sX12_isNameAhead {p : Program} {l : Launch} {e : Env} {R : Room} {s : State} {m : MethodId} {args : Array Value} {below : List Frame} {meth : Method} {c : Code} {Q : State → Prop} {A : Nat → Prop} {cells slots : Nat} {dC : Nat → ClassId} {dI : Nat → Nat → Nat} (h0 : Nat) (mi : Nat → Int32) (mr : Nat → Nat) (km_letter : ClassId) (fm_letter : Nat → Int32) (p1 : Int32) (p2 : Int32) (gmi_0 : gi (mi 0) 0 24) (gmi_1 : gi (mi 1) 0 5) (gmi_2 : gi (mi 2) 0 5) (gmi_4 : gi (mi 4) 0 1) (gmi_7 : gi (mi 7) 0 6) (gmi_10 : gi (mi 10) 0 24) (gmi_17 : gi (mi 17) 0 8) (gmi_23 : gi (mi 23) 0 300) (gmi_24 : gi (mi 24) 0 1) (gmi_26 : gi (mi 26) 0 1600) (gmi_29 : gi (mi 29) 0 1600) (gmi_30 : gi (mi 30) 0 1600) (gmi_33 : gi (mi 33) 0 1) (gmi_37 : gi (mi 37) 0 1) (gmi_41 : gi (mi 41) 0 24) (gmi_50 : gi (mi 50) 0 1) (gmi_51 : gi (mi 51) 0 1) (gmi_56 : gi (mi 56) 0 80) (gp1 : gi p1 0 5) (gp2 : gi p2 0 5) (hx : p.tables.exec = Jvm.exec) (hb : c.code = cX12_isNameAhead) (hml : c.maxLocals = 6) (hown : s.vm.findClass RX12 = some m.cls) (hts : ∀ w ∈ ((.code yX12_isNameAhead cX12_isNameAhead 6 (some .boolean) :: wsGB) : List Cond), w.before args s = true) (hK : va_K (dC, dI) vwCl [(km_letter, .int)] s) (hRf : 0 ≤ R.frames) (hRl : 0 ≤ R.locals) (hRc : cells ≤ R.cells) (hRs : slots ≤ R.slots) (kr61 : ∀ (v : Int32) (H : Heap) (locs : List Loc) (ls : Array Slot), gi v 0 0 → va_P (dC, dI) vwCl [(h0, .inr (12, fsMM mi mr)), ((mr 1), .inl (km_letter, 36, .inl fm_letter))] H → va_S A s.heap H locs → lv_has ls 6 [] → W p l e R s m args below meth c H locs cells slots Q (F0 m 61 ls [.int v])) (kr53 : ∀ (v : Int32) (H : Heap) (locs : List Loc) (ls : Array Slot), gi v 0 1 → va_P (dC, dI) vwCl [(h0, .inr (12, fsMM mi mr)), ((mr 1), .inl (km_letter, 36, .inl fm_letter))] H → va_S A s.heap H locs → lv_has ls 6 [] → W p l e R s m args below meth c H locs cells slots Q (F0 m 53 ls [.int v])) : ∀ z : Nat, (∀ (v3 : Int32) (H : Heap) (locs : List Loc) (ls : Array Slot), gi v3 0 6 → 13 + (-2) * v3.toInt < (z : Int) → va_P (dC, dI) vwCl [(h0, .inr (12, fsMM mi mr)), ((mr 1), .inl (km_letter, 36, .inl fm_letter))] H → va_S A s.heap H locs → lv_has ls 6 [(0, .ref h0), (1, .int p1), (2, .int p2), (3, .int v3)] → W p l e R s m args below meth c H locs cells slots Q (F0 m 2 ls [])) := by
  intro z
  induction z with
  | zero =>
    intro v3 H locs ls gv3 hmu hP hS hl
    exact absurd hmu (by have hv31 := gv3.1; have hv32 := gv3.2; omega)
  | succ z ih =>
      intro v3 H locs ls gv3 hmu hP hS hl
      refine lv_iload_n hx hb dX12_isNameAhead_2 rfl (lv_at hl 3 rfl) ?_
      refine lv_bipush (v := 6) hx hb dX12_isNameAhead_3 (by decide) ?_
      refine lv_icmp_ge (tgt := 60) hx hb dX12_isNameAhead_5 (by decide) (fun c_87 => ?_) (fun c_87 => ?_)
      · have g_88 : gi v3 6 6 := gi_le_r c_87 (gi_c 6 6 (by decide)) gv3
        refine lv_iconst (v := 0) hx hb dX12_isNameAhead_60 (by decide) ?_
        exact kr61 0 _ _ _ (gi_c 0 0 (by decide)) hP hS (lv_sub hl [] rfl)
      · have g_89 : gi v3 0 5 := gi_lt_l (Int32.not_le.mp c_87) gv3 (gi_c 6 6 (by decide)) (by decide)
        refine lv_aload_n hx hb dX12_isNameAhead_8 rfl (lv_at hl 0 rfl) ?_
        refine va_get (D := (dC, dI)) (ci := 12) (v := .ref (mr 1)) (C := RX12) (T := TX12) (N := 57) hx hb hts (fun w h => List.mem_cons_of_mem _ (jnGB_X12 w h)) hown hK hP 0 rfl rfl 9 (by decide) (hts _ (List.mem_cons_of_mem _ mGB_11)) (fun _ h9 => h9) rfl dX12_isNameAhead_9 ?_
        refine lv_bipush (v := 6) hx hb dX12_isNameAhead_12 (by decide) ?_
        refine lv_iload_n hx hb dX12_isNameAhead_14 rfl (lv_at hl 1 rfl) ?_
        refine lv_imul hx hb dX12_isNameAhead_15 ?_
        refine lv_topi (fun x_90 ex_90 => ?_)
        have gx_90 : gi x_90 0 30 := gi_mul ex_90 (gi_c 6 6 (by decide)) gp1 (by decide)
        refine lv_iload_n hx hb dX12_isNameAhead_16 rfl (lv_at hl 3 rfl) ?_
        refine lv_iadd hx hb dX12_isNameAhead_17 ?_
        refine lv_topi (fun x_91 ex_91 => ?_)
        have gx_91 : gi x_91 0 35 := gi_add ex_91 gx_90 g_89 (by decide)
        refine va_iald hx hb hK hP 1 0 rfl rfl (gi_in gx_91 (by decide)) dX12_isNameAhead_18 ?_
        refine lv_topi (fun x_92 ex_92 => ?_)
        refine lv_istore (lv' := [(4, .int x_92), (0, .ref h0), (1, .int p1), (2, .int p2), (3, .int v3)]) hx hb dX12_isNameAhead_19 hl (by decide) rfl (fun ls hl => ?_)
        refine lv_aload_n hx hb dX12_isNameAhead_21 rfl (lv_at hl 1 rfl) ?_
        refine va_get (D := (dC, dI)) (ci := 12) (v := .ref (mr 1)) (C := RX12) (T := TX12) (N := 57) hx hb hts (fun w h => List.mem_cons_of_mem _ (jnGB_X12 w h)) hown hK hP 0 rfl rfl 9 (by decide) (hts _ (List.mem_cons_of_mem _ mGB_11)) (fun _ h9 => h9) rfl dX12_isNameAhead_22 ?_
        refine lv_bipush (v := 6) hx hb dX12_isNameAhead_25 (by decide) ?_
        refine lv_iload_n hx hb dX12_isNameAhead_27 rfl (lv_at hl 3 rfl) ?_
        refine lv_imul hx hb dX12_isNameAhead_28 ?_
        refine lv_topi (fun x_93 ex_93 => ?_)
        have gx_93 : gi x_93 0 30 := gi_mul ex_93 (gi_c 6 6 (by decide)) gp2 (by decide)
        refine lv_iload_n hx hb dX12_isNameAhead_29 rfl (lv_at hl 4 rfl) ?_
        refine lv_iadd hx hb dX12_isNameAhead_30 ?_
        refine lv_topi (fun x_94 ex_94 => ?_)
        have gx_94 : gi x_94 0 35 := gi_add ex_94 gx_93 g_89 (by decide)
        refine va_iald hx hb hK hP 1 0 rfl rfl (gi_in gx_94 (by decide)) dX12_isNameAhead_31 ?_
        refine lv_topi (fun x_95 ex_95 => ?_)
        refine lv_istore (lv' := [(5, .int x_95), (4, .int x_92), (0, .ref h0), (1, .int p1), (2, .int p2), (3, .int v3)]) hx hb dX12_isNameAhead_32 hl (by decide) rfl (fun ls hl => ?_)
        refine lv_iload hx hb dX12_isNameAhead_34 (lv_at hl 1 rfl) ?_
        refine lv_iload hx hb dX12_isNameAhead_36 (lv_at hl 0 rfl) ?_
        refine lv_icmp_eq (tgt := 54) hx hb dX12_isNameAhead_38 (by decide) (fun c_96 => ?_) (fun c_96 => ?_)
        · obtain ⟨x_97, ex_97⟩ : ∃ y : Int32, y = v3 + 1 := ⟨_, rfl⟩
          have gx_97 : gi x_97 1 6 := gi_add ex_97 g_89 (gi_c 1 1 (by decide)) (by decide)
          refine lv_iinc (v := x_97) (lv' := [(3, .int x_97), (5, .int x_95), (4, .int x_92), (0, .ref h0), (1, .int p1), (2, .int p2)]) hx hb dX12_isNameAhead_54 hl (k := 5) rfl (by rw [ex_97]; rfl) (by decide) rfl (fun ls hl => ?_)
          refine lv_goto (tgt := 2) hx hb dX12_isNameAhead_57 (by decide) ?_
          exact ih x_97 _ _ _ (gi_w gx_97 (by decide)) (by have av3 := gv3.1; have bv3 := gv3.2; have qgx_97 := gx_97.1; have rgx_97 := gx_97.2; have igx_97 : x_97.toInt = v3.toInt + 1 := (by have hc1 : (1 : Int32).toInt = 1 := (by decide); have h9 := gi_addI ex_97 (by have h1 := g_89.1; have h2 := (gi_c 1 1 (by decide)).1; have h3 := g_89.2; have h4 := (gi_c 1 1 (by decide)).2; omega) (by have h1 := g_89.1; have h2 := (gi_c 1 1 (by decide)).1; have h3 := g_89.2; have h4 := (gi_c 1 1 (by decide)).2; omega); rw [hc1] at h9; exact h9); have qgv3 := g_89.1; have rgv3 := g_89.2; omega) hP hS (lv_sub hl [3, 4, 5, 0] rfl)
        · refine lv_iload hx hb dX12_isNameAhead_41 (lv_at hl 1 rfl) ?_
          refine lv_iload hx hb dX12_isNameAhead_43 (lv_at hl 0 rfl) ?_
          refine lv_icmp_ge (tgt := 52) hx hb dX12_isNameAhead_45 (by decide) (fun c_98 => ?_) (fun c_98 => ?_)
          · refine lv_iconst (v := 0) hx hb dX12_isNameAhead_52 (by decide) ?_
            exact kr53 0 _ _ _ (gi_w (gi_c 0 0 (by decide)) (by decide)) hP hS (lv_sub hl [] rfl)
          · have g_99 : gi x_92 (-2147483648) 2147483646 := gi_lt_l (Int32.not_le.mp c_98) (gi_any x_92) (gi_any x_95) (by decide)
            have g_100 : gi x_95 (-2147483647) 2147483647 := gi_lt_r (Int32.not_le.mp c_98) (gi_any x_92) (gi_any x_95) (by decide)
            refine lv_iconst (v := 1) hx hb dX12_isNameAhead_48 (by decide) ?_
            refine lv_goto (tgt := 53) hx hb dX12_isNameAhead_49 (by decide) ?_
            exact kr53 1 _ _ _ (gi_w (gi_c 1 1 (by decide)) (by decide)) hP hS (lv_sub hl [] rfl)
set_option maxHeartbeats 4000000 in
set_option maxRecDepth 100000 in
theorem sX12_isNameAhead (l : Launch) (dC : Nat → ClassId) (dI : Nat → Nat → Nat) (h0 : Nat) (mi : Nat → Int32) (mr : Nat → Nat) (km_letter : ClassId) (fm_letter : Nat → Int32) (p1 : Int32) (p2 : Int32) (gmi_0 : gi (mi 0) 0 24) (gmi_1 : gi (mi 1) 0 5) (gmi_2 : gi (mi 2) 0 5) (gmi_4 : gi (mi 4) 0 1) (gmi_7 : gi (mi 7) 0 6) (gmi_10 : gi (mi 10) 0 24) (gmi_17 : gi (mi 17) 0 8) (gmi_23 : gi (mi 23) 0 300) (gmi_24 : gi (mi 24) 0 1) (gmi_26 : gi (mi 26) 0 1600) (gmi_29 : gi (mi 29) 0 1600) (gmi_30 : gi (mi 30) 0 1600) (gmi_33 : gi (mi 33) 0 1) (gmi_37 : gi (mi 37) 0 1) (gmi_41 : gi (mi 41) 0 24) (gmi_50 : gi (mi 50) 0 1) (gmi_51 : gi (mi 51) 0 1) (gmi_56 : gi (mi 56) 0 80) (gp1 : gi p1 0 5) (gp2 : gi p2 0 5) : Met l yX12_isNameAhead (.code yX12_isNameAhead cX12_isNameAhead 6 (some .boolean) :: wsGB) ({ frames := 0, cells := 0, slots := 0, locals := 0 }) (va_Pc [.ref h0, .int p1, .int p2] (fun U => va_P (dC, dI) vwCl [(h0, .inr (12, fsMM mi mr)), ((mr 1), .inl (km_letter, 36, .inl fm_letter))] U.heap ∧ va_K (dC, dI) vwCl [(km_letter, .int)] U)) (va_Qi (fun (r : Int32) (u : Unit) => gi r 0 1) (fun _ _ => True) (fun _ => False)) 0 0 (fun _ => False) := by
  refine Met.ofW (cc := cX12_isNameAhead) (maxL := 6) (ret := (some .boolean)) (by decide) rfl ?_
  intro p e s m args below meth c s₁ B hml hv
  obtain ⟨rfl, hP, hK⟩ := hv
  have hx := B.exec
  have hb := B.bytes
  have hr := B.returns
  have hts := atoms_spec (ws := (.code yX12_isNameAhead cX12_isNameAhead 6 (some .boolean) :: wsGB)) B.pre
  have hown : s.vm.findClass RX12 = some m.cls := findClass_of_methodNamed B.named
  have hlocks := B.notSynchronized
  have hS : va_S (fun _ => False) s.heap s.heap [] := va_S.rf
  have hl := lv_entry ([.ref h0, .int p1, .int p2]) (n := 6) (Nat.le_of_ble_eq_true rfl)
  rw [lg_entry_eq]
  generalize (lg_sl ([.ref h0, .int p1, .int p2]) ++ List.replicate (6 - (lg_sl ([.ref h0, .int p1, .int p2])).length) Slot.unset).toArray = ls at hl ⊢
  have hl : lv_has ls 6 [(0, .ref h0), (1, .int p1), (2, .int p2)] := hl
  refine lv_iconst (v := 0) hx hb dX12_isNameAhead_0 (by decide) ?_
  refine lv_istore_n (lv' := [(3, .int 0), (0, .ref h0), (1, .int p1), (2, .int p2)]) hx hb dX12_isNameAhead_1 rfl hl (by decide) rfl (fun ls hl => ?_)
  refine (lp_sX12_isNameAhead h0 mi mr km_letter fm_letter p1 p2 gmi_0 gmi_1 gmi_2 gmi_4 gmi_7 gmi_10 gmi_17 gmi_23 gmi_24 gmi_26 gmi_29 gmi_30 gmi_33 gmi_37 gmi_41 gmi_50 gmi_51 gmi_56 gp1 gp2 hx hb hml hown hts hK (Nat.le_of_ble_eq_true rfl) (Nat.le_of_ble_eq_true rfl) (Nat.zero_le _) (Nat.zero_le _) (fun v H locs ls gv hP hS hl => ?_) (fun v H locs ls gv hP hS hl => ?_) 26) 0 _ _ _ (gi_w (gi_c 0 0 (by decide)) (by decide)) (by have k0 : (0 : Int32).toInt = 0 := (by decide); omega) hP hS (lv_sub hl [1, 2, 3, 0] rfl)
  · skip
    exact W.zret (v := v) hx hb hr (gz_nb (gi_w gv (by decide))) (fun t ht hW => ⟨⟨v, (), rfl, (gi_w gv (by decide)), trivial⟩, hS.F ht⟩) hS.2.2 dX12_isNameAhead_61
  · skip
    exact W.zret (v := v) hx hb hr (gz_nb gv) (fun t ht hW => ⟨⟨v, (), rfl, gv, trivial⟩, hS.F ht⟩) hS.2.2 dX12_isNameAhead_53
