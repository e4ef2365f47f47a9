theorem dX12_unpins_0 : decode cX12_unpins 0 = .ok (.iconst 0, 1) := by decide +kernel
theorem dX12_unpins_1 : decode cX12_unpins 1 = .ok (.istore_n 1, 1) := by decide +kernel
theorem dX12_unpins_2 : decode cX12_unpins 2 = .ok (.iload_n 1, 1) := by decide +kernel
theorem dX12_unpins_3 : decode cX12_unpins 3 = .ok (.bipush 24, 2) := by decide +kernel
theorem dX12_unpins_5 : decode cX12_unpins 5 = .ok (.if_icmp .gt 16, 3) := by decide +kernel
theorem dX12_unpins_8 : decode cX12_unpins 8 = .ok (.aload_n 0, 1) := by decide +kernel
theorem dX12_unpins_9 : decode cX12_unpins 9 = .ok (.getfield 63, 3) := by decide +kernel
theorem dX12_unpins_12 : decode cX12_unpins 12 = .ok (.iload_n 1, 1) := by decide +kernel
theorem dX12_unpins_13 : decode cX12_unpins 13 = .ok (.iconst (-1), 1) := by decide +kernel
theorem dX12_unpins_14 : decode cX12_unpins 14 = .ok (.iastore, 1) := by decide +kernel
theorem dX12_unpins_15 : decode cX12_unpins 15 = .ok (.iinc 1 1, 3) := by decide +kernel
theorem dX12_unpins_18 : decode cX12_unpins 18 = .ok (.goto (-16), 3) := by decide +kernel
theorem dX12_unpins_21 : decode cX12_unpins 21 = .ok (.return_, 1) := by decide +kernel
set_option maxHeartbeats 4000000 in
set_option maxRecDepth 100000 in
theorem lp_sX12_unpins {p : Program} {l : Launch} {e : Env} {R : Room} {s : State} {m : MethodId} {args : Array Value} {below : List Frame} {meth : Method} {c : Code} {Q : State → Prop} {A : Nat → Prop} {cells slots : Nat} {dC : Nat → ClassId} {dI : Nat → Nat → Nat} (h0 : Nat) (mi : Nat → Int32) (mr : Nat → Nat) (km : Nat → ClassId) (fm_pin : Nat → Int32) (fm_trust : Nat → Int32) (fm_letter : Nat → Int32) (fm_reportPlace : Nat → Int32) (fm_reportKind : Nat → Int32) (fm_struck : Nat → Int32) (fm_reportMonth : Nat → Int32) (fm_reportDay : Nat → Int32) (fm_reportKnown : Nat → Int32) (fm_deedMonth : Nat → Int32) (fm_deedDay : Nat → Int32) (fm_deedLong : Nat → Int32) (fm_deedKind : Nat → Int32) (fm_kept : Nat → Int32) (fm_tape : Nat → Int32) (fm_must : Nat → Int32) (fm_least : Nat → Int32) (fm_ways : Nat → Int32) (fm_verdict : Nat → Int32) (fm_row : Nat → Int32) (fm_official : Nat → Int32) (fm_aside : Nat → Int32) (fm_worth : Nat → Int32) (fm_out : Nat → Int32) (gmi_0 : gi (mi 0) 0 24) (gmi_1 : gi (mi 1) 0 5) (gmi_2 : gi (mi 2) 0 5) (gmi_4 : gi (mi 4) 0 1) (gmi_7 : gi (mi 7) 0 6) (gmi_10 : gi (mi 10) 0 24) (gmi_17 : gi (mi 17) 0 8) (gmi_23 : gi (mi 23) 0 300) (gmi_24 : gi (mi 24) 0 1) (gmi_26 : gi (mi 26) 0 1600) (gmi_29 : gi (mi 29) 0 1600) (gmi_30 : gi (mi 30) 0 1600) (gmi_33 : gi (mi 33) 0 1) (gmi_37 : gi (mi 37) 0 1) (gmi_41 : gi (mi 41) 0 24) (gmi_50 : gi (mi 50) 0 1) (gmi_51 : gi (mi 51) 0 1) (gmi_56 : gi (mi 56) 0 80) (hx : p.tables.exec = Jvm.exec) (hb : c.code = cX12_unpins) (hml : c.maxLocals = 2) (hown : s.vm.findClass RX12 = some m.cls) (hts : ∀ w ∈ ((.code yX12_unpins cX12_unpins 2 none :: wsGB) : List Cond), w.before args s = true) (hK : va_K (dC, dI) vwCl (MT km) s) (hA : ∀ q : Nat, s.heap.size ≤ q → A q) (hRf : 0 ≤ R.frames) (hRl : 0 ≤ R.locals) (hRc : cells ≤ R.cells) (hRs : slots ≤ R.slots) (kr21 : ∀ (z1 : Nat → Int32) (H : Heap) (locs : List Loc) (ls : Array Slot), va_P (dC, dI) vwCl (MWn h0 mr km (mi 0) (mi 1) (mi 2) (mi 3) (mi 4) (mi 5) (mi 6) (mi 7) (mi 10) (mi 17) (mi 23) (mi 24) (mi 26) (mi 27) (mi 28) (mi 29) (mi 30) (mi 31) (mi 32) (mi 33) (mi 37) (mi 41) (mi 42) (mi 43) (mi 44) (mi 45) (mi 47) (mi 48) (mi 49) (mi 50) (mi 51) (mi 54) (mi 56) fm_trust fm_letter fm_reportPlace fm_reportKind fm_struck fm_reportMonth fm_reportDay fm_reportKnown fm_deedMonth fm_deedDay fm_deedLong fm_deedKind fm_kept fm_tape fm_must fm_least z1 fm_ways fm_verdict fm_row fm_official fm_aside fm_worth fm_out) H → va_D A (MWn h0 mr km (mi 0) (mi 1) (mi 2) (mi 3) (mi 4) (mi 5) (mi 6) (mi 7) (mi 10) (mi 17) (mi 23) (mi 24) (mi 26) (mi 27) (mi 28) (mi 29) (mi 30) (mi 31) (mi 32) (mi 33) (mi 37) (mi 41) (mi 42) (mi 43) (mi 44) (mi 45) (mi 47) (mi 48) (mi 49) (mi 50) (mi 51) (mi 54) (mi 56) fm_trust fm_letter fm_reportPlace fm_reportKind fm_struck fm_reportMonth fm_reportDay fm_reportKnown fm_deedMonth fm_deedDay fm_deedLong fm_deedKind fm_kept fm_tape fm_must fm_least z1 fm_ways fm_verdict fm_row fm_official fm_aside fm_worth fm_out) → va_S A s.heap H locs → lv_has ls 2 [] → W p l e R s m args below meth c H locs cells slots Q (F0 m 21 ls [])) : ∀ z : Nat, (∀ (v1 : Int32) (z1 : Nat → Int32) (H : Heap) (locs : List Loc) (ls : Array Slot), gi v1 0 25 → 51 + (-2) * v1.toInt < (z : Int) → va_P (dC, dI) vwCl (MWn h0 mr km (mi 0) (mi 1) (mi 2) (mi 3) (mi 4) (mi 5) (mi 6) (mi 7) (mi 10) (mi 17) (mi 23) (mi 24) (mi 26) (mi 27) (mi 28) (mi 29) (mi 30) (mi 31) (mi 32) (mi 33) (mi 37) (mi 41) (mi 42) (mi 43) (mi 44) (mi 45) (mi 47) (mi 48) (mi 49) (mi 50) (mi 51) (mi 54) (mi 56) fm_trust fm_letter fm_reportPlace fm_reportKind fm_struck fm_reportMonth fm_reportDay fm_reportKnown fm_deedMonth fm_deedDay fm_deedLong fm_deedKind fm_kept fm_tape fm_must fm_least z1 fm_ways fm_verdict fm_row fm_official fm_aside fm_worth fm_out) H → va_D A (MWn h0 mr km (mi 0) (mi 1) (mi 2) (mi 3) (mi 4) (mi 5) (mi 6) (mi 7) (mi 10) (mi 17) (mi 23) (mi 24) (mi 26) (mi 27) (mi 28) (mi 29) (mi 30) (mi 31) (mi 32) (mi 33) (mi 37) (mi 41) (mi 42) (mi 43) (mi 44) (mi 45) (mi 47) (mi 48) (mi 49) (mi 50) (mi 51) (mi 54) (mi 56) fm_trust fm_letter fm_reportPlace fm_reportKind fm_struck fm_reportMonth fm_reportDay fm_reportKnown fm_deedMonth fm_deedDay fm_deedLong fm_deedKind fm_kept fm_tape fm_must fm_least z1 fm_ways fm_verdict fm_row fm_official fm_aside fm_worth fm_out) → va_S A s.heap H locs → lv_has ls 2 [(0, .ref h0), (1, .int v1)] → W p l e R s m args below meth c H locs cells slots Q (F0 m 2 ls [])) := by
  intro z
  induction z with
  | zero =>
    intro v1 z1 H locs ls gv1 hmu hP hD hS hl
    exact absurd hmu (by have hv11 := gv1.1; have hv12 := gv1.2; omega)
  | succ z ih =>
      intro v1 z1 H locs ls gv1 hmu hP hD hS hl
      refine lv_iload_n hx hb dX12_unpins_2 rfl (lv_at hl 1 rfl) ?_
      refine lv_bipush (v := 24) hx hb dX12_unpins_3 (by decide) ?_
      refine lv_icmp_gt (tgt := 21) hx hb dX12_unpins_5 (by decide) (fun c_51 => ?_) (fun c_51 => ?_)
      · have g_52 : gi v1 25 25 := gi_lt_r c_51 (gi_c 24 24 (by decide)) gv1 (by decide)
        exact kr21 z1 _ _ _ hP hD hS (lv_sub hl [] rfl)
      · have g_53 : gi v1 0 24 := gi_le_l (Int32.not_lt.mp c_51) gv1 (gi_c 24 24 (by decide))
        refine lv_aload_n hx hb dX12_unpins_8 rfl (lv_at hl 0 rfl) ?_
        refine va_get (D := (dC, dI)) (ci := 12) (v := .ref (mr 16)) (C := RX12) (T := TX12) (N := 57) hx hb hts (fun w h => List.mem_cons_of_mem _ (jnGB_X12 w h)) hown hK hP 0 rfl rfl 36 (by decide) (hts _ (List.mem_cons_of_mem _ mGB_28)) (fun _ h9 => h9) rfl dX12_unpins_9 ?_
        refine lv_iload_n hx hb dX12_unpins_12 rfl (lv_at hl 1 rfl) ?_
        refine lv_iconst (v := (-1)) hx hb dX12_unpins_13 (by decide) ?_
        refine va_iast hx hb hK hP hD hS 17 16 rfl rfl (gi_in g_53 (by decide)) dX12_unpins_14 (fun H locs hP hD hS => ?_)
        have hP : va_P (dC, dI) vwCl (MWn h0 mr km (mi 0) (mi 1) (mi 2) (mi 3) (mi 4) (mi 5) (mi 6) (mi 7) (mi 10) (mi 17) (mi 23) (mi 24) (mi 26) (mi 27) (mi 28) (mi 29) (mi 30) (mi 31) (mi 32) (mi 33) (mi 37) (mi 41) (mi 42) (mi 43) (mi 44) (mi 45) (mi 47) (mi 48) (mi 49) (mi 50) (mi 51) (mi 54) (mi 56) fm_trust fm_letter fm_reportPlace fm_reportKind fm_struck fm_reportMonth fm_reportDay fm_reportKnown fm_deedMonth fm_deedDay fm_deedLong fm_deedKind fm_kept fm_tape fm_must fm_least (upd z1 (v1 : Int32).toNatClampNeg (-1)) fm_ways fm_verdict fm_row fm_official fm_aside fm_worth fm_out) H := hP
        have hD : va_D A (MWn h0 mr km (mi 0) (mi 1) (mi 2) (mi 3) (mi 4) (mi 5) (mi 6) (mi 7) (mi 10) (mi 17) (mi 23) (mi 24) (mi 26) (mi 27) (mi 28) (mi 29) (mi 30) (mi 31) (mi 32) (mi 33) (mi 37) (mi 41) (mi 42) (mi 43) (mi 44) (mi 45) (mi 47) (mi 48) (mi 49) (mi 50) (mi 51) (mi 54) (mi 56) fm_trust fm_letter fm_reportPlace fm_reportKind fm_struck fm_reportMonth fm_reportDay fm_reportKnown fm_deedMonth fm_deedDay fm_deedLong fm_deedKind fm_kept fm_tape fm_must fm_least (upd z1 (v1 : Int32).toNatClampNeg (-1)) fm_ways fm_verdict fm_row fm_official fm_aside fm_worth fm_out) := hD
        generalize upd z1 (v1 : Int32).toNatClampNeg (-1) = f_54 at hP hD
        obtain ⟨x_55, ex_55⟩ : ∃ y : Int32, y = v1 + 1 := ⟨_, rfl⟩
        have gx_55 : gi x_55 1 25 := gi_add ex_55 g_53 (gi_c 1 1 (by decide)) (by decide)
        refine lv_iinc (v := x_55) (lv' := [(1, .int x_55), (0, .ref h0)]) hx hb dX12_unpins_15 hl (k := 1) rfl (by rw [ex_55]; rfl) (by decide) rfl (fun ls hl => ?_)
        refine lv_goto (tgt := 2) hx hb dX12_unpins_18 (by decide) ?_
        exact ih x_55 f_54 _ _ _ (gi_w gx_55 (by decide)) (by have av1 := gv1.1; have bv1 := gv1.2; have qgx_55 := gx_55.1; have rgx_55 := gx_55.2; have igx_55 : x_55.toInt = v1.toInt + 1 := (by have hc1 : (1 : Int32).toInt = 1 := (by decide); have h9 := gi_addI ex_55 (by have h1 := g_53.1; have h2 := (gi_c 1 1 (by decide)).1; have h3 := g_53.2; have h4 := (gi_c 1 1 (by decide)).2; omega) (by have h1 := g_53.1; have h2 := (gi_c 1 1 (by decide)).1; have h3 := g_53.2; have h4 := (gi_c 1 1 (by decide)).2; omega); rw [hc1] at h9; exact h9); have qgv1 := g_53.1; have rgv1 := g_53.2; omega) hP hD hS (lv_sub hl [1, 0] rfl)
abbrev pb_sX12_unpins (dC : Nat → ClassId) (dI : Nat → Nat → Nat) (A9 : Nat → Prop) (h0 : Nat) (mi : Nat → Int32) (mr : Nat → Nat) (km : Nat → ClassId) (fm_pin : Nat → Int32) (fm_trust : Nat → Int32) (fm_letter : Nat → Int32) (fm_reportPlace : Nat → Int32) (fm_reportKind : Nat → Int32) (fm_struck : Nat → Int32) (fm_reportMonth : Nat → Int32) (fm_reportDay : Nat → Int32) (fm_reportKnown : Nat → Int32) (fm_deedMonth : Nat → Int32) (fm_deedDay : Nat → Int32) (fm_deedLong : Nat → Int32) (fm_deedKind : Nat → Int32) (fm_kept : Nat → Int32) (fm_tape : Nat → Int32) (fm_must : Nat → Int32) (fm_least : Nat → Int32) (fm_ways : Nat → Int32) (fm_verdict : Nat → Int32) (fm_row : Nat → Int32) (fm_official : Nat → Int32) (fm_aside : Nat → Int32) (fm_worth : Nat → Int32) (fm_out : Nat → Int32) (z1 : Nat → Int32) (t : State) : Prop := va_P (dC, dI) vwCl (MWn h0 mr km (mi 0) (mi 1) (mi 2) (mi 3) (mi 4) (mi 5) (mi 6) (mi 7) (mi 10) (mi 17) (mi 23) (mi 24) (mi 26) (mi 27) (mi 28) (mi 29) (mi 30) (mi 31) (mi 32) (mi 33) (mi 37) (mi 41) (mi 42) (mi 43) (mi 44) (mi 45) (mi 47) (mi 48) (mi 49) (mi 50) (mi 51) (mi 54) (mi 56) fm_trust fm_letter fm_reportPlace fm_reportKind fm_struck fm_reportMonth fm_reportDay fm_reportKnown fm_deedMonth fm_deedDay fm_deedLong fm_deedKind fm_kept fm_tape fm_must fm_least z1 fm_ways fm_verdict fm_row fm_official fm_aside fm_worth fm_out) t.heap ∧ va_D A9 (MWn h0 mr km (mi 0) (mi 1) (mi 2) (mi 3) (mi 4) (mi 5) (mi 6) (mi 7) (mi 10) (mi 17) (mi 23) (mi 24) (mi 26) (mi 27) (mi 28) (mi 29) (mi 30) (mi 31) (mi 32) (mi 33) (mi 37) (mi 41) (mi 42) (mi 43) (mi 44) (mi 45) (mi 47) (mi 48) (mi 49) (mi 50) (mi 51) (mi 54) (mi 56) fm_trust fm_letter fm_reportPlace fm_reportKind fm_struck fm_reportMonth fm_reportDay fm_reportKnown fm_deedMonth fm_deedDay fm_deedLong fm_deedKind fm_kept fm_tape fm_must fm_least z1 fm_ways fm_verdict fm_row fm_official fm_aside fm_worth fm_out)
set_option maxHeartbeats 4000000 in
set_option maxRecDepth 100000 in
theorem sX12_unpins (l : Launch) (dC : Nat → ClassId) (dI : Nat → Nat → Nat) (sz : Nat) (h0 : Nat) (mi : Nat → Int32) (mr : Nat → Nat) (km : Nat → ClassId) (fm_pin : Nat → Int32) (fm_trust : Nat → Int32) (fm_letter : Nat → Int32) (fm_reportPlace : Nat → Int32) (fm_reportKind : Nat → Int32) (fm_struck : Nat → Int32) (fm_reportMonth : Nat → Int32) (fm_reportDay : Nat → Int32) (fm_reportKnown : Nat → Int32) (fm_deedMonth : Nat → Int32) (fm_deedDay : Nat → Int32) (fm_deedLong : Nat → Int32) (fm_deedKind : Nat → Int32) (fm_kept : Nat → Int32) (fm_tape : Nat → Int32) (fm_must : Nat → Int32) (fm_least : Nat → Int32) (fm_ways : Nat → Int32) (fm_verdict : Nat → Int32) (fm_row : Nat → Int32) (fm_official : Nat → Int32) (fm_aside : Nat → Int32) (fm_worth : Nat → Int32) (fm_out : Nat → Int32) (gmi_0 : gi (mi 0) 0 24) (gmi_1 : gi (mi 1) 0 5) (gmi_2 : gi (mi 2) 0 5) (gmi_4 : gi (mi 4) 0 1) (gmi_7 : gi (mi 7) 0 6) (gmi_10 : gi (mi 10) 0 24) (gmi_17 : gi (mi 17) 0 8) (gmi_23 : gi (mi 23) 0 300) (gmi_24 : gi (mi 24) 0 1) (gmi_26 : gi (mi 26) 0 1600) (gmi_29 : gi (mi 29) 0 1600) (gmi_30 : gi (mi 30) 0 1600) (gmi_33 : gi (mi 33) 0 1) (gmi_37 : gi (mi 37) 0 1) (gmi_41 : gi (mi 41) 0 24) (gmi_50 : gi (mi 50) 0 1) (gmi_51 : gi (mi 51) 0 1) (gmi_56 : gi (mi 56) 0 80) : Met l yX12_unpins (.code yX12_unpins cX12_unpins 2 none :: wsGB) ({ frames := 0, cells := 0, slots := 0, locals := 0 }) (va_Pc [.ref h0] (fun U => U.heap.size = sz ∧ va_P (dC, dI) vwCl (MWn h0 mr km (mi 0) (mi 1) (mi 2) (mi 3) (mi 4) (mi 5) (mi 6) (mi 7) (mi 10) (mi 17) (mi 23) (mi 24) (mi 26) (mi 27) (mi 28) (mi 29) (mi 30) (mi 31) (mi 32) (mi 33) (mi 37) (mi 41) (mi 42) (mi 43) (mi 44) (mi 45) (mi 47) (mi 48) (mi 49) (mi 50) (mi 51) (mi 54) (mi 56) fm_trust fm_letter fm_reportPlace fm_reportKind fm_struck fm_reportMonth fm_reportDay fm_reportKnown fm_deedMonth fm_deedDay fm_deedLong fm_deedKind fm_kept fm_tape fm_must fm_least fm_pin fm_ways fm_verdict fm_row fm_official fm_aside fm_worth fm_out) U.heap ∧ va_K (dC, dI) vwCl (MT km) U ∧ va_D (fun _ => True) (MWn h0 mr km (mi 0) (mi 1) (mi 2) (mi 3) (mi 4) (mi 5) (mi 6) (mi 7) (mi 10) (mi 17) (mi 23) (mi 24) (mi 26) (mi 27) (mi 28) (mi 29) (mi 30) (mi 31) (mi 32) (mi 33) (mi 37) (mi 41) (mi 42) (mi 43) (mi 44) (mi 45) (mi 47) (mi 48) (mi 49) (mi 50) (mi 51) (mi 54) (mi 56) fm_trust fm_letter fm_reportPlace fm_reportKind fm_struck fm_reportMonth fm_reportDay fm_reportKnown fm_deedMonth fm_deedDay fm_deedLong fm_deedKind fm_kept fm_tape fm_must fm_least fm_pin fm_ways fm_verdict fm_row fm_official fm_aside fm_worth fm_out))) (va_Qv (fun (u : Unit) => True) (fun _ t => ∃ (z1 : Nat → Int32), pb_sX12_unpins dC dI (va_A (MWn h0 mr km (mi 0) (mi 1) (mi 2) (mi 3) (mi 4) (mi 5) (mi 6) (mi 7) (mi 10) (mi 17) (mi 23) (mi 24) (mi 26) (mi 27) (mi 28) (mi 29) (mi 30) (mi 31) (mi 32) (mi 33) (mi 37) (mi 41) (mi 42) (mi 43) (mi 44) (mi 45) (mi 47) (mi 48) (mi 49) (mi 50) (mi 51) (mi 54) (mi 56) fm_trust fm_letter fm_reportPlace fm_reportKind fm_struck fm_reportMonth fm_reportDay fm_reportKnown fm_deedMonth fm_deedDay fm_deedLong fm_deedKind fm_kept fm_tape fm_must fm_least fm_pin fm_ways fm_verdict fm_row fm_official fm_aside fm_worth fm_out) sz) h0 mi mr km fm_pin fm_trust fm_letter fm_reportPlace fm_reportKind fm_struck fm_reportMonth fm_reportDay fm_reportKnown fm_deedMonth fm_deedDay fm_deedLong fm_deedKind fm_kept fm_tape fm_must fm_least fm_ways fm_verdict fm_row fm_official fm_aside fm_worth fm_out z1 t) (va_A (MWn h0 mr km (mi 0) (mi 1) (mi 2) (mi 3) (mi 4) (mi 5) (mi 6) (mi 7) (mi 10) (mi 17) (mi 23) (mi 24) (mi 26) (mi 27) (mi 28) (mi 29) (mi 30) (mi 31) (mi 32) (mi 33) (mi 37) (mi 41) (mi 42) (mi 43) (mi 44) (mi 45) (mi 47) (mi 48) (mi 49) (mi 50) (mi 51) (mi 54) (mi 56) fm_trust fm_letter fm_reportPlace fm_reportKind fm_struck fm_reportMonth fm_reportDay fm_reportKnown fm_deedMonth fm_deedDay fm_deedLong fm_deedKind fm_kept fm_tape fm_must fm_least fm_pin fm_ways fm_verdict fm_row fm_official fm_aside fm_worth fm_out) sz)) 0 0 (va_A (MWn h0 mr km (mi 0) (mi 1) (mi 2) (mi 3) (mi 4) (mi 5) (mi 6) (mi 7) (mi 10) (mi 17) (mi 23) (mi 24) (mi 26) (mi 27) (mi 28) (mi 29) (mi 30) (mi 31) (mi 32) (mi 33) (mi 37) (mi 41) (mi 42) (mi 43) (mi 44) (mi 45) (mi 47) (mi 48) (mi 49) (mi 50) (mi 51) (mi 54) (mi 56) fm_trust fm_letter fm_reportPlace fm_reportKind fm_struck fm_reportMonth fm_reportDay fm_reportKnown fm_deedMonth fm_deedDay fm_deedLong fm_deedKind fm_kept fm_tape fm_must fm_least fm_pin fm_ways fm_verdict fm_row fm_official fm_aside fm_worth fm_out) sz) := by
  refine Met.ofW (cc := cX12_unpins) (maxL := 2) (ret := none) (by decide) rfl ?_
  intro p e s m args below meth c s₁ B hml hv
  obtain ⟨rfl, hsz, hP, hK, hD0⟩ := hv
  have hx := B.exec
  have hb := B.bytes
  have hr := B.returns
  have hts := atoms_spec (ws := (.code yX12_unpins cX12_unpins 2 none :: wsGB)) B.pre
  have hown : s.vm.findClass RX12 = some m.cls := findClass_of_methodNamed B.named
  have hlocks := B.notSynchronized
  subst hsz
  have hD := hD0.self (sz := s.heap.size)
  generalize hAe : va_A (MWn h0 mr km (mi 0) (mi 1) (mi 2) (mi 3) (mi 4) (mi 5) (mi 6) (mi 7) (mi 10) (mi 17) (mi 23) (mi 24) (mi 26) (mi 27) (mi 28) (mi 29) (mi 30) (mi 31) (mi 32) (mi 33) (mi 37) (mi 41) (mi 42) (mi 43) (mi 44) (mi 45) (mi 47) (mi 48) (mi 49) (mi 50) (mi 51) (mi 54) (mi 56) fm_trust fm_letter fm_reportPlace fm_reportKind fm_struck fm_reportMonth fm_reportDay fm_reportKnown fm_deedMonth fm_deedDay fm_deedLong fm_deedKind fm_kept fm_tape fm_must fm_least fm_pin fm_ways fm_verdict fm_row fm_official fm_aside fm_worth fm_out) s.heap.size = A at hD ⊢
  have hA : ∀ q : Nat, s.heap.size ≤ q → A q := fun q h => by rw [← hAe]; exact Or.inr h
  have hS : va_S A s.heap s.heap [] := va_S.rf
  have hl := lv_entry ([.ref h0]) (n := 2) (Nat.le_of_ble_eq_true rfl)
  rw [lg_entry_eq]
  generalize (lg_sl ([.ref h0]) ++ List.replicate (2 - (lg_sl ([.ref h0])).length) Slot.unset).toArray = ls at hl ⊢
  have hl : lv_has ls 2 [(0, .ref h0)] := hl
  refine lv_iconst (v := 0) hx hb dX12_unpins_0 (by decide) ?_
  refine lv_istore_n (lv' := [(1, .int 0), (0, .ref h0)]) hx hb dX12_unpins_1 rfl hl (by decide) rfl (fun ls hl => ?_)
  refine (lp_sX12_unpins h0 mi mr km fm_pin fm_trust fm_letter fm_reportPlace fm_reportKind fm_struck fm_reportMonth fm_reportDay fm_reportKnown fm_deedMonth fm_deedDay fm_deedLong fm_deedKind fm_kept fm_tape fm_must fm_least fm_ways fm_verdict fm_row fm_official fm_aside fm_worth fm_out gmi_0 gmi_1 gmi_2 gmi_4 gmi_7 gmi_10 gmi_17 gmi_23 gmi_24 gmi_26 gmi_29 gmi_30 gmi_33 gmi_37 gmi_41 gmi_50 gmi_51 gmi_56 hx hb hml hown hts hK hA (Nat.le_of_ble_eq_true rfl) (Nat.le_of_ble_eq_true rfl) (Nat.zero_le _) (Nat.zero_le _) (fun z1 H locs ls hP hD hS hl => ?_) 64) 0 fm_pin _ _ _ (gi_w (gi_c 0 0 (by decide)) (by decide)) (by have k0 : (0 : Int32).toInt = 0 := (by decide); omega) hP hD hS (lv_sub hl [1, 0] rfl)
  · skip
    exact W.vret hx hb hr (fun t ht hW => ⟨⟨(), rfl, trivial, z1, by rw [ht]; exact hP, hD⟩, hS.F ht⟩) hS.2.2 dX12_unpins_21
theorem dX12_frees_0 : decode cX12_frees 0 = .ok (.aload_n 0, 1) := by decide +kernel
theorem dX12_frees_1 : decode cX12_frees 1 = .ok (.iconst 0, 1) := by decide +kernel
theorem dX12_frees_2 : decode cX12_frees 2 = .ok (.putfield 312, 3) := by decide +kernel
theorem dX12_frees_5 : decode cX12_frees 5 = .ok (.iconst 0, 1) := by decide +kernel
theorem dX12_frees_6 : decode cX12_frees 6 = .ok (.istore_n 1, 1) := by decide +kernel
theorem dX12_frees_7 : decode cX12_frees 7 = .ok (.iload_n 1, 1) := by decide +kernel
theorem dX12_frees_8 : decode cX12_frees 8 = .ok (.bipush 24, 2) := by decide +kernel
theorem dX12_frees_10 : decode cX12_frees 10 = .ok (.if_icmp .gt 23, 3) := by decide +kernel
theorem dX12_frees_13 : decode cX12_frees 13 = .ok (.aload_n 0, 1) := by decide +kernel
theorem dX12_frees_14 : decode cX12_frees 14 = .ok (.getfield 57, 3) := by decide +kernel
theorem dX12_frees_17 : decode cX12_frees 17 = .ok (.iload_n 1, 1) := by decide +kernel
theorem dX12_frees_18 : decode cX12_frees 18 = .ok (.iconst (-1), 1) := by decide +kernel
theorem dX12_frees_19 : decode cX12_frees 19 = .ok (.iastore, 1) := by decide +kernel
theorem dX12_frees_20 : decode cX12_frees 20 = .ok (.aload_n 0, 1) := by decide +kernel
theorem dX12_frees_21 : decode cX12_frees 21 = .ok (.getfield 60, 3) := by decide +kernel
theorem dX12_frees_24 : decode cX12_frees 24 = .ok (.iload_n 1, 1) := by decide +kernel
theorem dX12_frees_25 : decode cX12_frees 25 = .ok (.iconst 0, 1) := by decide +kernel
theorem dX12_frees_26 : decode cX12_frees 26 = .ok (.iastore, 1) := by decide +kernel
theorem dX12_frees_27 : decode cX12_frees 27 = .ok (.iinc 1 1, 3) := by decide +kernel
theorem dX12_frees_30 : decode cX12_frees 30 = .ok (.goto (-23), 3) := by decide +kernel
theorem dX12_frees_33 : decode cX12_frees 33 = .ok (.aload_n 0, 1) := by decide +kernel
theorem dX12_frees_34 : decode cX12_frees 34 = .ok (.invokevirtual 315, 3) := by decide +kernel
theorem dX12_frees_37 : decode cX12_frees 37 = .ok (.return_, 1) := by decide +kernel
set_option maxHeartbeats 4000000 in
set_option maxRecDepth 100000 in
theorem lp_sX12_frees {p : Program} {l : Launch} {e : Env} {R : Room} {s : State} {m : MethodId} {args : Array Value} {below : List Frame} {meth : Method} {c : Code} {Q : State → Prop} {A : Nat → Prop} {cells slots : Nat} {dC : Nat → ClassId} {dI : Nat → Nat → Nat} (h0 : Nat) (mi : Nat → Int32) (mr : Nat → Nat) (km : Nat → ClassId) (fm_must : Nat → Int32) (fm_least : Nat → Int32) (fm_pin : Nat → Int32) (fm_trust : Nat → Int32) (fm_letter : Nat → Int32) (fm_reportPlace : Nat → Int32) (fm_reportKind : Nat → Int32) (fm_struck : Nat → Int32) (fm_reportMonth : Nat → Int32) (fm_reportDay : Nat → Int32) (fm_reportKnown : Nat → Int32) (fm_deedMonth : Nat → Int32) (fm_deedDay : Nat → Int32) (fm_deedLong : Nat → Int32) (fm_deedKind : Nat → Int32) (fm_kept : Nat → Int32) (fm_tape : Nat → Int32) (fm_ways : Nat → Int32) (fm_verdict : Nat → Int32) (fm_row : Nat → Int32) (fm_official : Nat → Int32) (fm_aside : Nat → Int32) (fm_worth : Nat → Int32) (fm_out : Nat → Int32) (gmi_0 : gi (mi 0) 0 24) (gmi_1 : gi (mi 1) 0 5) (gmi_2 : gi (mi 2) 0 5) (gmi_4 : gi (mi 4) 0 1) (gmi_7 : gi (mi 7) 0 6) (gmi_10 : gi (mi 10) 0 24) (gmi_17 : gi (mi 17) 0 8) (gmi_23 : gi (mi 23) 0 300) (gmi_24 : gi (mi 24) 0 1) (gmi_26 : gi (mi 26) 0 1600) (gmi_29 : gi (mi 29) 0 1600) (gmi_30 : gi (mi 30) 0 1600) (gmi_33 : gi (mi 33) 0 1) (gmi_37 : gi (mi 37) 0 1) (gmi_41 : gi (mi 41) 0 24) (gmi_50 : gi (mi 50) 0 1) (gmi_51 : gi (mi 51) 0 1) (gmi_56 : gi (mi 56) 0 80) (hx : p.tables.exec = Jvm.exec) (hb : c.code = cX12_frees) (hml : c.maxLocals = 2) (hown : s.vm.findClass RX12 = some m.cls) (hts : ∀ w ∈ ((.code yX12_frees cX12_frees 2 none :: wsGB) : List Cond), w.before args s = true) (hK : va_K (dC, dI) vwCl (MT km) s) (hA : ∀ q : Nat, s.heap.size ≤ q → A q) (hRf : 1 ≤ R.frames) (hRl : 21 ≤ R.locals) (hRc : cells ≤ R.cells) (hRs : slots ≤ R.slots) (kr37 : ∀ (w0_37 : Int32) (z1 : Nat → Int32) (z2 : Nat → Int32) (z3 : Nat → Int32) (H : Heap) (locs : List Loc) (ls : Array Slot), gi w0_37 0 1 → va_P (dC, dI) vwCl (MWn h0 mr km (mi 0) (mi 1) (mi 2) (mi 3) (mi 4) (mi 5) (mi 6) (mi 7) (mi 10) (mi 17) (mi 23) (mi 24) (mi 26) (mi 27) (mi 28) (mi 29) (mi 30) (mi 31) (mi 32) (mi 33) w0_37 (mi 41) (mi 42) (mi 43) (mi 44) (mi 45) (mi 47) (mi 48) (mi 49) (mi 50) (mi 51) (mi 54) (mi 56) fm_trust fm_letter fm_reportPlace fm_reportKind fm_struck fm_reportMonth fm_reportDay fm_reportKnown fm_deedMonth fm_deedDay fm_deedLong fm_deedKind fm_kept fm_tape z1 z2 z3 fm_ways fm_verdict fm_row fm_official fm_aside fm_worth fm_out) H → va_D A (MWn h0 mr km (mi 0) (mi 1) (mi 2) (mi 3) (mi 4) (mi 5) (mi 6) (mi 7) (mi 10) (mi 17) (mi 23) (mi 24) (mi 26) (mi 27) (mi 28) (mi 29) (mi 30) (mi 31) (mi 32) (mi 33) w0_37 (mi 41) (mi 42) (mi 43) (mi 44) (mi 45) (mi 47) (mi 48) (mi 49) (mi 50) (mi 51) (mi 54) (mi 56) fm_trust fm_letter fm_reportPlace fm_reportKind fm_struck fm_reportMonth fm_reportDay fm_reportKnown fm_deedMonth fm_deedDay fm_deedLong fm_deedKind fm_kept fm_tape z1 z2 z3 fm_ways fm_verdict fm_row fm_official fm_aside fm_worth fm_out) → va_S A s.heap H locs → lv_has ls 2 [] → W p l e R s m args below meth c H locs cells slots Q (F0 m 37 ls [])) : ∀ z : Nat, (∀ (v1 : Int32) (w0_37 : Int32) (z1 : Nat → Int32) (z2 : Nat → Int32) (H : Heap) (locs : List Loc) (ls : Array Slot), gi v1 0 25 → gi w0_37 0 1 → 51 + (-2) * v1.toInt < (z : Int) → va_P (dC, dI) vwCl (MWn h0 mr km (mi 0) (mi 1) (mi 2) (mi 3) (mi 4) (mi 5) (mi 6) (mi 7) (mi 10) (mi 17) (mi 23) (mi 24) (mi 26) (mi 27) (mi 28) (mi 29) (mi 30) (mi 31) (mi 32) (mi 33) w0_37 (mi 41) (mi 42) (mi 43) (mi 44) (mi 45) (mi 47) (mi 48) (mi 49) (mi 50) (mi 51) (mi 54) (mi 56) fm_trust fm_letter fm_reportPlace fm_reportKind fm_struck fm_reportMonth fm_reportDay fm_reportKnown fm_deedMonth fm_deedDay fm_deedLong fm_deedKind fm_kept fm_tape z1 z2 fm_pin fm_ways fm_verdict fm_row fm_official fm_aside fm_worth fm_out) H → va_D A (MWn h0 mr km (mi 0) (mi 1) (mi 2) (mi 3) (mi 4) (mi 5) (mi 6) (mi 7) (mi 10) (mi 17) (mi 23) (mi 24) (mi 26) (mi 27) (mi 28) (mi 29) (mi 30) (mi 31) (mi 32) (mi 33) w0_37 (mi 41) (mi 42) (mi 43) (mi 44) (mi 45) (mi 47) (mi 48) (mi 49) (mi 50) (mi 51) (mi 54) (mi 56) fm_trust fm_letter fm_reportPlace fm_reportKind fm_struck fm_reportMonth fm_reportDay fm_reportKnown fm_deedMonth fm_deedDay fm_deedLong fm_deedKind fm_kept fm_tape z1 z2 fm_pin fm_ways fm_verdict fm_row fm_official fm_aside fm_worth fm_out) → va_S A s.heap H locs → lv_has ls 2 [(0, .ref h0), (1, .int v1)] → W p l e R s m args below meth c H locs cells slots Q (F0 m 7 ls [])) := by
  intro z
  induction z with
  | zero =>
    intro v1 w0_37 z1 z2 H locs ls gv1 gw0_37 hmu hP hD hS hl
    exact absurd hmu (by have hv11 := gv1.1; have hv12 := gv1.2; omega)
  | succ z ih =>
      intro v1 w0_37 z1 z2 H locs ls gv1 gw0_37 hmu hP hD hS hl
      refine lv_iload_n hx hb dX12_frees_7 rfl (lv_at hl 1 rfl) ?_
      refine lv_bipush (v := 24) hx hb dX12_frees_8 (by decide) ?_
      refine lv_icmp_gt (tgt := 33) hx hb dX12_frees_10 (by decide) (fun c_77 => ?_) (fun c_77 => ?_)
      · have g_78 : gi v1 25 25 := gi_lt_r c_77 (gi_c 24 24 (by decide)) gv1 (by decide)
        refine lv_aload_n hx hb dX12_frees_33 rfl (lv_at hl 0 rfl) ?_
        have hFc := gz_fullF hD hS hA
        refine va_callv (va_runV (As := []) (rest := []) ⟨hx, hb, hml, hown, hts⟩ (sX12_unpins l dC dI H.size h0 (upd mi 37 w0_37) mr km fm_pin fm_trust fm_letter fm_reportPlace fm_reportKind fm_struck fm_reportMonth fm_reportDay fm_reportKnown fm_deedMonth fm_deedDay fm_deedLong fm_deedKind fm_kept fm_tape z1 z2 fm_ways fm_verdict fm_row fm_official fm_aside fm_worth fm_out gmi_0 gmi_1 gmi_2 gmi_4 gmi_7 gmi_10 gmi_17 gmi_23 gmi_24 gmi_26 gmi_29 gmi_30 gmi_33 gw0_37 gmi_41 gmi_50 gmi_51 gmi_56) (cwV 0 hts (gz_gV mGB_271 mGB_272 mGB_273 mGB_1 mGB_274 goodGB) rfl rfl rfl (by decide +kernel) ⟨Nat.le_trans (Nat.le_of_ble_eq_true rfl) hRf, Nat.le_trans (Nat.le_of_ble_eq_true rfl) hRl⟩) ⟨bl_W, mw_recv hK hP, fun U hU hW => ⟨rfl, by rw [hU], by rw [hU]; exact hP, va_K.moved hW.alike hK, hD.weaken (fun _ _ _ _ => trivial)⟩⟩ rfl rfl hl.1 rfl (lv_room (Nat.le_of_ble_eq_true rfl)) dX12_frees_34 ⟨hRc, hRs⟩) hS (fun q _ h => hFc q h) hFc (fun u t H1 locs ht hvm hw hB hz1 hk1 hS => ?_)
        obtain ⟨f_80, hB⟩ := hB
        obtain ⟨hP1, hD1⟩ := hB
        rw [ht] at hP1
        have hD : va_D A (MWn h0 mr km (mi 0) (mi 1) (mi 2) (mi 3) (mi 4) (mi 5) (mi 6) (mi 7) (mi 10) (mi 17) (mi 23) (mi 24) (mi 26) (mi 27) (mi 28) (mi 29) (mi 30) (mi 31) (mi 32) (mi 33) w0_37 (mi 41) (mi 42) (mi 43) (mi 44) (mi 45) (mi 47) (mi 48) (mi 49) (mi 50) (mi 51) (mi 54) (mi 56) fm_trust fm_letter fm_reportPlace fm_reportKind fm_struck fm_reportMonth fm_reportDay fm_reportKnown fm_deedMonth fm_deedDay fm_deedLong fm_deedKind fm_kept fm_tape z1 z2 f_80 fm_ways fm_verdict fm_row fm_official fm_aside fm_worth fm_out) := gz_fullD hFc hD1
        have hP : va_P (dC, dI) vwCl (MWn h0 mr km (mi 0) (mi 1) (mi 2) (mi 3) (mi 4) (mi 5) (mi 6) (mi 7) (mi 10) (mi 17) (mi 23) (mi 24) (mi 26) (mi 27) (mi 28) (mi 29) (mi 30) (mi 31) (mi 32) (mi 33) w0_37 (mi 41) (mi 42) (mi 43) (mi 44) (mi 45) (mi 47) (mi 48) (mi 49) (mi 50) (mi 51) (mi 54) (mi 56) fm_trust fm_letter fm_reportPlace fm_reportKind fm_struck fm_reportMonth fm_reportDay fm_reportKnown fm_deedMonth fm_deedDay fm_deedLong fm_deedKind fm_kept fm_tape z1 z2 f_80 fm_ways fm_verdict fm_row fm_official fm_aside fm_worth fm_out) H1 := hP1
        generalize H1 = H at hP hS ⊢
        exact kr37 w0_37 z1 z2 f_80 _ _ _ gw0_37 hP hD hS (lv_sub hl [] rfl)
      · have g_81 : gi v1 0 24 := gi_le_l (Int32.not_lt.mp c_77) gv1 (gi_c 24 24 (by decide))
        refine lv_aload_n hx hb dX12_frees_13 rfl (lv_at hl 0 rfl) ?_
        refine va_get (D := (dC, dI)) (ci := 12) (v := .ref (mr 14)) (C := RX12) (T := TX12) (N := 57) hx hb hts (fun w h => List.mem_cons_of_mem _ (jnGB_X12 w h)) hown hK hP 0 rfl rfl 34 (by decide) (hts _ (List.mem_cons_of_mem _ mGB_26)) (fun _ h9 => h9) rfl dX12_frees_14 ?_
        refine lv_iload_n hx hb dX12_frees_17 rfl (lv_at hl 1 rfl) ?_
        refine lv_iconst (v := (-1)) hx hb dX12_frees_18 (by decide) ?_
        refine va_iast hx hb hK hP hD hS 15 14 rfl rfl (gi_in g_81 (by decide)) dX12_frees_19 (fun H locs hP hD hS => ?_)
        have hP : va_P (dC, dI) vwCl (MWn h0 mr km (mi 0) (mi 1) (mi 2) (mi 3) (mi 4) (mi 5) (mi 6) (mi 7) (mi 10) (mi 17) (mi 23) (mi 24) (mi 26) (mi 27) (mi 28) (mi 29) (mi 30) (mi 31) (mi 32) (mi 33) w0_37 (mi 41) (mi 42) (mi 43) (mi 44) (mi 45) (mi 47) (mi 48) (mi 49) (mi 50) (mi 51) (mi 54) (mi 56) fm_trust fm_letter fm_reportPlace fm_reportKind fm_struck fm_reportMonth fm_reportDay fm_reportKnown fm_deedMonth fm_deedDay fm_deedLong fm_deedKind fm_kept fm_tape (upd z1 (v1 : Int32).toNatClampNeg (-1)) z2 fm_pin fm_ways fm_verdict fm_row fm_official fm_aside fm_worth fm_out) H := hP
        have hD : va_D A (MWn h0 mr km (mi 0) (mi 1) (mi 2) (mi 3) (mi 4) (mi 5) (mi 6) (mi 7) (mi 10) (mi 17) (mi 23) (mi 24) (mi 26) (mi 27) (mi 28) (mi 29) (mi 30) (mi 31) (mi 32) (mi 33) w0_37 (mi 41) (mi 42) (mi 43) (mi 44) (mi 45) (mi 47) (mi 48) (mi 49) (mi 50) (mi 51) (mi 54) (mi 56) fm_trust fm_letter fm_reportPlace fm_reportKind fm_struck fm_reportMonth fm_reportDay fm_reportKnown fm_deedMonth fm_deedDay fm_deedLong fm_deedKind fm_kept fm_tape (upd z1 (v1 : Int32).toNatClampNeg (-1)) z2 fm_pin fm_ways fm_verdict fm_row fm_official fm_aside fm_worth fm_out) := hD
        generalize upd z1 (v1 : Int32).toNatClampNeg (-1) = f_82 at hP hD
        refine lv_aload_n hx hb dX12_frees_20 rfl (lv_at hl 0 rfl) ?_
        refine va_get (D := (dC, dI)) (ci := 12) (v := .ref (mr 15)) (C := RX12) (T := TX12) (N := 57) hx hb hts (fun w h => List.mem_cons_of_mem _ (jnGB_X12 w h)) hown hK hP 0 rfl rfl 35 (by decide) (hts _ (List.mem_cons_of_mem _ mGB_27)) (fun _ h9 => h9) rfl dX12_frees_21 ?_
        refine lv_iload_n hx hb dX12_frees_24 rfl (lv_at hl 1 rfl) ?_
        refine lv_iconst (v := 0) hx hb dX12_frees_25 (by decide) ?_
        refine va_iast hx hb hK hP hD hS 16 15 rfl rfl (gi_in g_81 (by decide)) dX12_frees_26 (fun H locs hP hD hS => ?_)
        have hP : va_P (dC, dI) vwCl (MWn h0 mr km (mi 0) (mi 1) (mi 2) (mi 3) (mi 4) (mi 5) (mi 6) (mi 7) (mi 10) (mi 17) (mi 23) (mi 24) (mi 26) (mi 27) (mi 28) (mi 29) (mi 30) (mi 31) (mi 32) (mi 33) w0_37 (mi 41) (mi 42) (mi 43) (mi 44) (mi 45) (mi 47) (mi 48) (mi 49) (mi 50) (mi 51) (mi 54) (mi 56) fm_trust fm_letter fm_reportPlace fm_reportKind fm_struck fm_reportMonth fm_reportDay fm_reportKnown fm_deedMonth fm_deedDay fm_deedLong fm_deedKind fm_kept fm_tape f_82 (upd z2 (v1 : Int32).toNatClampNeg 0) fm_pin fm_ways fm_verdict fm_row fm_official fm_aside fm_worth fm_out) H := hP
        have hD : va_D A (MWn h0 mr km (mi 0) (mi 1) (mi 2) (mi 3) (mi 4) (mi 5) (mi 6) (mi 7) (mi 10) (mi 17) (mi 23) (mi 24) (mi 26) (mi 27) (mi 28) (mi 29) (mi 30) (mi 31) (mi 32) (mi 33) w0_37 (mi 41) (mi 42) (mi 43) (mi 44) (mi 45) (mi 47) (mi 48) (mi 49) (mi 50) (mi 51) (mi 54) (mi 56) fm_trust fm_letter fm_reportPlace fm_reportKind fm_struck fm_reportMonth fm_reportDay fm_reportKnown fm_deedMonth fm_deedDay fm_deedLong fm_deedKind fm_kept fm_tape f_82 (upd z2 (v1 : Int32).toNatClampNeg 0) fm_pin fm_ways fm_verdict fm_row fm_official fm_aside fm_worth fm_out) := hD
        generalize upd z2 (v1 : Int32).toNatClampNeg 0 = f_83 at hP hD
        obtain ⟨x_84, ex_84⟩ : ∃ y : Int32, y = v1 + 1 := ⟨_, rfl⟩
        have gx_84 : gi x_84 1 25 := gi_add ex_84 g_81 (gi_c 1 1 (by decide)) (by decide)
        refine lv_iinc (v := x_84) (lv' := [(1, .int x_84), (0, .ref h0)]) hx hb dX12_frees_27 hl (k := 1) rfl (by rw [ex_84]; rfl) (by decide) rfl (fun ls hl => ?_)
        refine lv_goto (tgt := 7) hx hb dX12_frees_30 (by decide) ?_
        exact ih x_84 w0_37 f_82 f_83 _ _ _ (gi_w gx_84 (by decide)) gw0_37 (by have av1 := gv1.1; have bv1 := gv1.2; have qgx_84 := gx_84.1; have rgx_84 := gx_84.2; have igx_84 : x_84.toInt = v1.toInt + 1 := (by have hc1 : (1 : Int32).toInt = 1 := (by decide); have h9 := gi_addI ex_84 (by have h1 := g_81.1; have h2 := (gi_c 1 1 (by decide)).1; have h3 := g_81.2; have h4 := (gi_c 1 1 (by decide)).2; omega) (by have h1 := g_81.1; have h2 := (gi_c 1 1 (by decide)).1; have h3 := g_81.2; have h4 := (gi_c 1 1 (by decide)).2; omega); rw [hc1] at h9; exact h9); have qgv1 := g_81.1; have rgv1 := g_81.2; omega) hP hD hS (lv_sub hl [1, 0] rfl)
abbrev pb_sX12_frees (dC : Nat → ClassId) (dI : Nat → Nat → Nat) (A9 : Nat → Prop) (h0 : Nat) (mi : Nat → Int32) (mr : Nat → Nat) (km : Nat → ClassId) (fm_must : Nat → Int32) (fm_least : Nat → Int32) (fm_pin : Nat → Int32) (fm_trust : Nat → Int32) (fm_letter : Nat → Int32) (fm_reportPlace : Nat → Int32) (fm_reportKind : Nat → Int32) (fm_struck : Nat → Int32) (fm_reportMonth : Nat → Int32) (fm_reportDay : Nat → Int32) (fm_reportKnown : Nat → Int32) (fm_deedMonth : Nat → Int32) (fm_deedDay : Nat → Int32) (fm_deedLong : Nat → Int32) (fm_deedKind : Nat → Int32) (fm_kept : Nat → Int32) (fm_tape : Nat → Int32) (fm_ways : Nat → Int32) (fm_verdict : Nat → Int32) (fm_row : Nat → Int32) (fm_official : Nat → Int32) (fm_aside : Nat → Int32) (fm_worth : Nat → Int32) (fm_out : Nat → Int32) (w0_37 : Int32) (z1 : Nat → Int32) (z2 : Nat → Int32) (z3 : Nat → Int32) (t : State) : Prop := gi w0_37 0 1 ∧ va_P (dC, dI) vwCl (MWn h0 mr km (mi 0) (mi 1) (mi 2) (mi 3) (mi 4) (mi 5) (mi 6) (mi 7) (mi 10) (mi 17) (mi 23) (mi 24) (mi 26) (mi 27) (mi 28) (mi 29) (mi 30) (mi 31) (mi 32) (mi 33) w0_37 (mi 41) (mi 42) (mi 43) (mi 44) (mi 45) (mi 47) (mi 48) (mi 49) (mi 50) (mi 51) (mi 54) (mi 56) fm_trust fm_letter fm_reportPlace fm_reportKind fm_struck fm_reportMonth fm_reportDay fm_reportKnown fm_deedMonth fm_deedDay fm_deedLong fm_deedKind fm_kept fm_tape z1 z2 z3 fm_ways fm_verdict fm_row fm_official fm_aside fm_worth fm_out) t.heap ∧ va_D A9 (MWn h0 mr km (mi 0) (mi 1) (mi 2) (mi 3) (mi 4) (mi 5) (mi 6) (mi 7) (mi 10) (mi 17) (mi 23) (mi 24) (mi 26) (mi 27) (mi 28) (mi 29) (mi 30) (mi 31) (mi 32) (mi 33) w0_37 (mi 41) (mi 42) (mi 43) (mi 44) (mi 45) (mi 47) (mi 48) (mi 49) (mi 50) (mi 51) (mi 54) (mi 56) fm_trust fm_letter fm_reportPlace fm_reportKind fm_struck fm_reportMonth fm_reportDay fm_reportKnown fm_deedMonth fm_deedDay fm_deedLong fm_deedKind fm_kept fm_tape z1 z2 z3 fm_ways fm_verdict fm_row fm_official fm_aside fm_worth fm_out)
set_option maxHeartbeats 4000000 in
set_option maxRecDepth 100000 in
theorem sX12_frees (l : Launch) (dC : Nat → ClassId) (dI : Nat → Nat → Nat) (sz : Nat) (h0 : Nat) (mi : Nat → Int32) (mr : Nat → Nat) (km : Nat → ClassId) (fm_must : Nat → Int32) (fm_least : Nat → Int32) (fm_pin : Nat → Int32) (fm_trust : Nat → Int32) (fm_letter : Nat → Int32) (fm_reportPlace : Nat → Int32) (fm_reportKind : Nat → Int32) (fm_struck : Nat → Int32) (fm_reportMonth : Nat → Int32) (fm_reportDay : Nat → Int32) (fm_reportKnown : Nat → Int32) (fm_deedMonth : Nat → Int32) (fm_deedDay : Nat → Int32) (fm_deedLong : Nat → Int32) (fm_deedKind : Nat → Int32) (fm_kept : Nat → Int32) (fm_tape : Nat → Int32) (fm_ways : Nat → Int32) (fm_verdict : Nat → Int32) (fm_row : Nat → Int32) (fm_official : Nat → Int32) (fm_aside : Nat → Int32) (fm_worth : Nat → Int32) (fm_out : Nat → Int32) (gmi_0 : gi (mi 0) 0 24) (gmi_1 : gi (mi 1) 0 5) (gmi_2 : gi (mi 2) 0 5) (gmi_4 : gi (mi 4) 0 1) (gmi_7 : gi (mi 7) 0 6) (gmi_10 : gi (mi 10) 0 24) (gmi_17 : gi (mi 17) 0 8) (gmi_23 : gi (mi 23) 0 300) (gmi_24 : gi (mi 24) 0 1) (gmi_26 : gi (mi 26) 0 1600) (gmi_29 : gi (mi 29) 0 1600) (gmi_30 : gi (mi 30) 0 1600) (gmi_33 : gi (mi 33) 0 1) (gmi_37 : gi (mi 37) 0 1) (gmi_41 : gi (mi 41) 0 24) (gmi_50 : gi (mi 50) 0 1) (gmi_51 : gi (mi 51) 0 1) (gmi_56 : gi (mi 56) 0 80) : Met l yX12_frees (.code yX12_frees cX12_frees 2 none :: wsGB) ({ frames := 1, cells := 0, slots := 0, locals := 21 }) (va_Pc [.ref h0] (fun U => U.heap.size = sz ∧ va_P (dC, dI) vwCl (MWn h0 mr km (mi 0) (mi 1) (mi 2) (mi 3) (mi 4) (mi 5) (mi 6) (mi 7) (mi 10) (mi 17) (mi 23) (mi 24) (mi 26) (mi 27) (mi 28) (mi 29) (mi 30) (mi 31) (mi 32) (mi 33) (mi 37) (mi 41) (mi 42) (mi 43) (mi 44) (mi 45) (mi 47) (mi 48) (mi 49) (mi 50) (mi 51) (mi 54) (mi 56) fm_trust fm_letter fm_reportPlace fm_reportKind fm_struck fm_reportMonth fm_reportDay fm_reportKnown fm_deedMonth fm_deedDay fm_deedLong fm_deedKind fm_kept fm_tape fm_must fm_least fm_pin fm_ways fm_verdict fm_row fm_official fm_aside fm_worth fm_out) U.heap ∧ va_K (dC, dI) vwCl (MT km) U ∧ va_D (fun _ => True) (MWn h0 mr km (mi 0) (mi 1) (mi 2) (mi 3) (mi 4) (mi 5) (mi 6) (mi 7) (mi 10) (mi 17) (mi 23) (mi 24) (mi 26) (mi 27) (mi 28) (mi 29) (mi 30) (mi 31) (mi 32) (mi 33) (mi 37) (mi 41) (mi 42) (mi 43) (mi 44) (mi 45) (mi 47) (mi 48) (mi 49) (mi 50) (mi 51) (mi 54) (mi 56) fm_trust fm_letter fm_reportPlace fm_reportKind fm_struck fm_reportMonth fm_reportDay fm_reportKnown fm_deedMonth fm_deedDay fm_deedLong fm_deedKind fm_kept fm_tape fm_must fm_least fm_pin fm_ways fm_verdict fm_row fm_official fm_aside fm_worth fm_out))) (va_Qv (fun (u : Unit) => True) (fun _ t => ∃ (w0_37 : Int32) (z1 : Nat → Int32) (z2 : Nat → Int32) (z3 : Nat → Int32), pb_sX12_frees dC dI (va_A (MWn h0 mr km (mi 0) (mi 1) (mi 2) (mi 3) (mi 4) (mi 5) (mi 6) (mi 7) (mi 10) (mi 17) (mi 23) (mi 24) (mi 26) (mi 27) (mi 28) (mi 29) (mi 30) (mi 31) (mi 32) (mi 33) (mi 37) (mi 41) (mi 42) (mi 43) (mi 44) (mi 45) (mi 47) (mi 48) (mi 49) (mi 50) (mi 51) (mi 54) (mi 56) fm_trust fm_letter fm_reportPlace fm_reportKind fm_struck fm_reportMonth fm_reportDay fm_reportKnown fm_deedMonth fm_deedDay fm_deedLong fm_deedKind fm_kept fm_tape fm_must fm_least fm_pin fm_ways fm_verdict fm_row fm_official fm_aside fm_worth fm_out) sz) h0 mi mr km fm_must fm_least fm_pin fm_trust fm_letter fm_reportPlace fm_reportKind fm_struck fm_reportMonth fm_reportDay fm_reportKnown fm_deedMonth fm_deedDay fm_deedLong fm_deedKind fm_kept fm_tape fm_ways fm_verdict fm_row fm_official fm_aside fm_worth fm_out w0_37 z1 z2 z3 t) (va_A (MWn h0 mr km (mi 0) (mi 1) (mi 2) (mi 3) (mi 4) (mi 5) (mi 6) (mi 7) (mi 10) (mi 17) (mi 23) (mi 24) (mi 26) (mi 27) (mi 28) (mi 29) (mi 30) (mi 31) (mi 32) (mi 33) (mi 37) (mi 41) (mi 42) (mi 43) (mi 44) (mi 45) (mi 47) (mi 48) (mi 49) (mi 50) (mi 51) (mi 54) (mi 56) fm_trust fm_letter fm_reportPlace fm_reportKind fm_struck fm_reportMonth fm_reportDay fm_reportKnown fm_deedMonth fm_deedDay fm_deedLong fm_deedKind fm_kept fm_tape fm_must fm_least fm_pin fm_ways fm_verdict fm_row fm_official fm_aside fm_worth fm_out) sz)) 0 0 (va_A (MWn h0 mr km (mi 0) (mi 1) (mi 2) (mi 3) (mi 4) (mi 5) (mi 6) (mi 7) (mi 10) (mi 17) (mi 23) (mi 24) (mi 26) (mi 27) (mi 28) (mi 29) (mi 30) (mi 31) (mi 32) (mi 33) (mi 37) (mi 41) (mi 42) (mi 43) (mi 44) (mi 45) (mi 47) (mi 48) (mi 49) (mi 50) (mi 51) (mi 54) (mi 56) fm_trust fm_letter fm_reportPlace fm_reportKind fm_struck fm_reportMonth fm_reportDay fm_reportKnown fm_deedMonth fm_deedDay fm_deedLong fm_deedKind fm_kept fm_tape fm_must fm_least fm_pin fm_ways fm_verdict fm_row fm_official fm_aside fm_worth fm_out) sz) := by
  refine Met.ofW (cc := cX12_frees) (maxL := 2) (ret := none) (by decide) rfl ?_
  intro p e s m args below meth c s₁ B hml hv
  obtain ⟨rfl, hsz, hP, hK, hD0⟩ := hv
  have hx := B.exec
  have hb := B.bytes
  have hr := B.returns
  have hts := atoms_spec (ws := (.code yX12_frees cX12_frees 2 none :: wsGB)) B.pre
  have hown : s.vm.findClass RX12 = some m.cls := findClass_of_methodNamed B.named
  have hlocks := B.notSynchronized
  subst hsz
  have hD := hD0.self (sz := s.heap.size)
  generalize hAe : va_A (MWn h0 mr km (mi 0) (mi 1) (mi 2) (mi 3) (mi 4) (mi 5) (mi 6) (mi 7) (mi 10) (mi 17) (mi 23) (mi 24) (mi 26) (mi 27) (mi 28) (mi 29) (mi 30) (mi 31) (mi 32) (mi 33) (mi 37) (mi 41) (mi 42) (mi 43) (mi 44) (mi 45) (mi 47) (mi 48) (mi 49) (mi 50) (mi 51) (mi 54) (mi 56) fm_trust fm_letter fm_reportPlace fm_reportKind fm_struck fm_reportMonth fm_reportDay fm_reportKnown fm_deedMonth fm_deedDay fm_deedLong fm_deedKind fm_kept fm_tape fm_must fm_least fm_pin fm_ways fm_verdict fm_row fm_official fm_aside fm_worth fm_out) s.heap.size = A at hD ⊢
  have hA : ∀ q : Nat, s.heap.size ≤ q → A q := fun q h => by rw [← hAe]; exact Or.inr h
  have hS : va_S A s.heap s.heap [] := va_S.rf
  have hl := lv_entry ([.ref h0]) (n := 2) (Nat.le_of_ble_eq_true rfl)
  rw [lg_entry_eq]
  generalize (lg_sl ([.ref h0]) ++ List.replicate (2 - (lg_sl ([.ref h0])).length) Slot.unset).toArray = ls at hl ⊢
  have hl : lv_has ls 2 [(0, .ref h0)] := hl
  refine lv_aload_n hx hb dX12_frees_0 rfl (lv_at hl 0 rfl) ?_
  refine lv_iconst (v := 0) hx hb dX12_frees_1 (by decide) ?_
  refine va_put (D := (dC, dI)) (ci := 12) (v := .int 0) (ty := .boolean) (C := RX12) (T := TX12) (N := 57) hx hb hts (fun w h => List.mem_cons_of_mem _ (jnGB_X12 w h)) tyX12 tyX12_ok nmX12 hown hK hP hD hS 0 rfl rfl 37 (by decide) (hts _ (List.mem_cons_of_mem _ mGB_270)) (fun _ h9 => h9) rfl (by decide +kernel) rfl rfl (Nat.le_of_ble_eq_true rfl) dX12_frees_2 (fun H locs hP hD hS => ?_)
  have hP : va_P (dC, dI) vwCl (MWn h0 mr km (mi 0) (mi 1) (mi 2) (mi 3) (mi 4) (mi 5) (mi 6) (mi 7) (mi 10) (mi 17) (mi 23) (mi 24) (mi 26) (mi 27) (mi 28) (mi 29) (mi 30) (mi 31) (mi 32) (mi 33) 0 (mi 41) (mi 42) (mi 43) (mi 44) (mi 45) (mi 47) (mi 48) (mi 49) (mi 50) (mi 51) (mi 54) (mi 56) fm_trust fm_letter fm_reportPlace fm_reportKind fm_struck fm_reportMonth fm_reportDay fm_reportKnown fm_deedMonth fm_deedDay fm_deedLong fm_deedKind fm_kept fm_tape fm_must fm_least fm_pin fm_ways fm_verdict fm_row fm_official fm_aside fm_worth fm_out) H := hP
  have hD : va_D A (MWn h0 mr km (mi 0) (mi 1) (mi 2) (mi 3) (mi 4) (mi 5) (mi 6) (mi 7) (mi 10) (mi 17) (mi 23) (mi 24) (mi 26) (mi 27) (mi 28) (mi 29) (mi 30) (mi 31) (mi 32) (mi 33) 0 (mi 41) (mi 42) (mi 43) (mi 44) (mi 45) (mi 47) (mi 48) (mi 49) (mi 50) (mi 51) (mi 54) (mi 56) fm_trust fm_letter fm_reportPlace fm_reportKind fm_struck fm_reportMonth fm_reportDay fm_reportKnown fm_deedMonth fm_deedDay fm_deedLong fm_deedKind fm_kept fm_tape fm_must fm_least fm_pin fm_ways fm_verdict fm_row fm_official fm_aside fm_worth fm_out) := hD
  refine lv_iconst (v := 0) hx hb dX12_frees_5 (by decide) ?_
  refine lv_istore_n (lv' := [(1, .int 0), (0, .ref h0)]) hx hb dX12_frees_6 rfl hl (by decide) rfl (fun ls hl => ?_)
  refine (lp_sX12_frees h0 mi mr km fm_must fm_least fm_pin fm_trust fm_letter fm_reportPlace fm_reportKind fm_struck fm_reportMonth fm_reportDay fm_reportKnown fm_deedMonth fm_deedDay fm_deedLong fm_deedKind fm_kept fm_tape fm_ways fm_verdict fm_row fm_official fm_aside fm_worth fm_out gmi_0 gmi_1 gmi_2 gmi_4 gmi_7 gmi_10 gmi_17 gmi_23 gmi_24 gmi_26 gmi_29 gmi_30 gmi_33 gmi_37 gmi_41 gmi_50 gmi_51 gmi_56 hx hb hml hown hts hK hA (Nat.le_of_ble_eq_true rfl) (Nat.le_of_ble_eq_true rfl) (Nat.zero_le _) (Nat.zero_le _) (fun w0_37 z1 z2 z3 H locs ls gw0_37 hP hD hS hl => ?_) 64) 0 0 fm_must fm_least _ _ _ (gi_w (gi_c 0 0 (by decide)) (by decide)) (gi_w (gi_c 0 0 (by decide)) (by decide)) (by have k0 : (0 : Int32).toInt = 0 := (by decide); omega) hP hD hS (lv_sub hl [1, 0] rfl)
  · skip
    exact W.vret hx hb hr (fun t ht hW => ⟨⟨(), rfl, trivial, w0_37, z1, z2, z3, gw0_37, by rw [ht]; exact hP, hD⟩, hS.F ht⟩) hS.2.2 dX12_frees_37
theorem dX12_trustOf_0 : decode cX12_trustOf 0 = .ok (.iload_n 1, 1) := by decide +kernel
theorem dX12_trustOf_1 : decode cX12_trustOf 1 = .ok (.aload_n 0, 1) := by decide +kernel
theorem dX12_trustOf_2 : decode cX12_trustOf 2 = .ok (.getfield 84, 3) := by decide +kernel
theorem dX12_trustOf_5 : decode cX12_trustOf 5 = .ok (.if_icmp .ne 10, 3) := by decide +kernel
theorem dX12_trustOf_8 : decode cX12_trustOf 8 = .ok (.aload_n 0, 1) := by decide +kernel
theorem dX12_trustOf_9 : decode cX12_trustOf 9 = .ok (.getfield 81, 3) := by decide +kernel
theorem dX12_trustOf_12 : decode cX12_trustOf 12 = .ok (.goto 9, 3) := by decide +kernel
theorem dX12_trustOf_15 : decode cX12_trustOf 15 = .ok (.aload_n 0, 1) := by decide +kernel
theorem dX12_trustOf_16 : decode cX12_trustOf 16 = .ok (.getfield 7, 3) := by decide +kernel
theorem dX12_trustOf_19 : decode cX12_trustOf 19 = .ok (.iload_n 1, 1) := by decide +kernel
theorem dX12_trustOf_20 : decode cX12_trustOf 20 = .ok (.iaload, 1) := by decide +kernel
theorem dX12_trustOf_21 : decode cX12_trustOf 21 = .ok (.ireturn, 1) := by decide +kernel
set_option maxHeartbeats 4000000 in
set_option maxRecDepth 100000 in
theorem sX12_trustOf (l : Launch) (dC : Nat → ClassId) (dI : Nat → Nat → Nat) (h0 : Nat) (mi : Nat → Int32) (mr : Nat → Nat) (km : Nat → ClassId) (fm_trust : Nat → Int32) (fm_letter : Nat → Int32) (fm_reportPlace : Nat → Int32) (fm_reportKind : Nat → Int32) (fm_struck : Nat → Int32) (fm_reportMonth : Nat → Int32) (fm_reportDay : Nat → Int32) (fm_reportKnown : Nat → Int32) (fm_deedMonth : Nat → Int32) (fm_deedDay : Nat → Int32) (fm_deedLong : Nat → Int32) (fm_deedKind : Nat → Int32) (fm_kept : Nat → Int32) (fm_tape : Nat → Int32) (fm_must : Nat → Int32) (fm_least : Nat → Int32) (fm_pin : Nat → Int32) (fm_ways : Nat → Int32) (fm_verdict : Nat → Int32) (fm_row : Nat → Int32) (fm_official : Nat → Int32) (fm_aside : Nat → Int32) (fm_worth : Nat → Int32) (fm_out : Nat → Int32) (p1 : Int32) (gmi_0 : gi (mi 0) 0 24) (gmi_1 : gi (mi 1) 0 5) (gmi_2 : gi (mi 2) 0 5) (gmi_4 : gi (mi 4) 0 1) (gmi_7 : gi (mi 7) 0 6) (gmi_10 : gi (mi 10) 0 24) (gmi_17 : gi (mi 17) 0 8) (gmi_23 : gi (mi 23) 0 300) (gmi_24 : gi (mi 24) 0 1) (gmi_26 : gi (mi 26) 0 1600) (gmi_29 : gi (mi 29) 0 1600) (gmi_30 : gi (mi 30) 0 1600) (gmi_33 : gi (mi 33) 0 1) (gmi_37 : gi (mi 37) 0 1) (gmi_41 : gi (mi 41) 0 24) (gmi_50 : gi (mi 50) 0 1) (gmi_51 : gi (mi 51) 0 1) (gmi_56 : gi (mi 56) 0 80) (gp1 : gi p1 0 5) : Met l yX12_trustOf (.code yX12_trustOf cX12_trustOf 2 (some .int) :: wsGB) ({ frames := 0, cells := 0, slots := 0, locals := 0 }) (va_Pc [.ref h0, .int p1] (fun U => va_P (dC, dI) vwCl (MWn h0 mr km (mi 0) (mi 1) (mi 2) (mi 3) (mi 4) (mi 5) (mi 6) (mi 7) (mi 10) (mi 17) (mi 23) (mi 24) (mi 26) (mi 27) (mi 28) (mi 29) (mi 30) (mi 31) (mi 32) (mi 33) (mi 37) (mi 41) (mi 42) (mi 43) (mi 44) (mi 45) (mi 47) (mi 48) (mi 49) (mi 50) (mi 51) (mi 54) (mi 56) fm_trust fm_letter fm_reportPlace fm_reportKind fm_struck fm_reportMonth fm_reportDay fm_reportKnown fm_deedMonth fm_deedDay fm_deedLong fm_deedKind fm_kept fm_tape fm_must fm_least fm_pin fm_ways fm_verdict fm_row fm_official fm_aside fm_worth fm_out) U.heap ∧ va_K (dC, dI) vwCl (MT km) U)) (va_Qi (fun (r : Int32) (u : Unit) => gi r (-2147483648) 2147483647) (fun _ _ => True) (fun _ => False)) 0 0 (fun _ => False) := by
  refine Met.ofW (cc := cX12_trustOf) (maxL := 2) (ret := (some .int)) (by decide) rfl ?_
  intro p e s m args below meth c s₁ B hml hv
  obtain ⟨rfl, hP, hK⟩ := hv
  have hx := B.exec
  have hb := B.bytes
  have hr := B.returns
  have hts := atoms_spec (ws := (.code yX12_trustOf cX12_trustOf 2 (some .int) :: wsGB)) B.pre
  have hown : s.vm.findClass RX12 = some m.cls := findClass_of_methodNamed B.named
  have hlocks := B.notSynchronized
  have hS : va_S (fun _ => False) s.heap s.heap [] := va_S.rf
  have hl := lv_entry ([.ref h0, .int p1]) (n := 2) (Nat.le_of_ble_eq_true rfl)
  rw [lg_entry_eq]
  generalize (lg_sl ([.ref h0, .int p1]) ++ List.replicate (2 - (lg_sl ([.ref h0, .int p1])).length) Slot.unset).toArray = ls at hl ⊢
  have hl : lv_has ls 2 [(0, .ref h0), (1, .int p1)] := hl
  refine lv_iload_n hx hb dX12_trustOf_0 rfl (lv_at hl 1 rfl) ?_
  refine lv_aload_n hx hb dX12_trustOf_1 rfl (lv_at hl 0 rfl) ?_
  refine va_get (D := (dC, dI)) (ci := 12) (v := .int (mi 45)) (C := RX12) (T := TX12) (N := 57) hx hb hts (fun w h => List.mem_cons_of_mem _ (jnGB_X12 w h)) hown hK hP 0 rfl rfl 45 (by decide) (hts _ (List.mem_cons_of_mem _ mGB_35)) (fun _ h9 => h9) rfl dX12_trustOf_2 ?_
  refine lv_icmp_ne (tgt := 15) hx hb dX12_trustOf_5 (by decide) (fun c_4 => ?_) (fun c_4 => ?_)
  · refine lv_aload_n hx hb dX12_trustOf_15 rfl (lv_at hl 0 rfl) ?_
    refine va_get (D := (dC, dI)) (ci := 12) (v := .ref (mr 0)) (C := RX12) (T := TX12) (N := 57) hx hb hts (fun w h => List.mem_cons_of_mem _ (jnGB_X12 w h)) hown hK hP 0 rfl rfl 8 (by decide) (hts _ (List.mem_cons_of_mem _ mGB_10)) (fun _ h9 => h9) rfl dX12_trustOf_16 ?_
    refine lv_iload_n hx hb dX12_trustOf_19 rfl (lv_at hl 1 rfl) ?_
    refine va_iald hx hb hK hP 1 0 rfl rfl (gi_in gp1 (by decide)) dX12_trustOf_20 ?_
    refine lv_topi (fun x_5 ex_5 => ?_)
    exact W.iret (v := x_5) hx hb hr (fun t ht hW => ⟨⟨x_5, (), rfl, (gi_any x_5), trivial⟩, hS.F ht⟩) hS.2.2 dX12_trustOf_21
  · have g_6 : gi (mi 45) 0 5 := gi_eq c_4.symm gp1
    refine lv_aload_n hx hb dX12_trustOf_8 rfl (lv_at hl 0 rfl) ?_
    refine va_get (D := (dC, dI)) (ci := 12) (v := .int (mi 44)) (C := RX12) (T := TX12) (N := 57) hx hb hts (fun w h => List.mem_cons_of_mem _ (jnGB_X12 w h)) hown hK hP 0 rfl rfl 44 (by decide) (hts _ (List.mem_cons_of_mem _ mGB_34)) (fun _ h9 => h9) rfl dX12_trustOf_9 ?_
    refine lv_goto (tgt := 21) hx hb dX12_trustOf_12 (by decide) ?_
    exact W.iret (v := (mi 44)) hx hb hr (fun t ht hW => ⟨⟨(mi 44), (), rfl, (gi_any (mi 44)), trivial⟩, hS.F ht⟩) hS.2.2 dX12_trustOf_21
theorem dX12_isAhead_0 : decode cX12_isAhead 0 = .ok (.aload_n 0, 1) := by decide +kernel
theorem dX12_isAhead_1 : decode cX12_isAhead 1 = .ok (.getfield 16, 3) := by decide +kernel
theorem dX12_isAhead_4 : decode cX12_isAhead 4 = .ok (.iload_n 1, 1) := by decide +kernel
theorem dX12_isAhead_5 : decode cX12_isAhead 5 = .ok (.iaload, 1) := by decide +kernel
theorem dX12_isAhead_6 : decode cX12_isAhead 6 = .ok (.istore_n 3, 1) := by decide +kernel
theorem dX12_isAhead_7 : decode cX12_isAhead 7 = .ok (.aload_n 0, 1) := by decide +kernel
theorem dX12_isAhead_8 : decode cX12_isAhead 8 = .ok (.getfield 16, 3) := by decide +kernel
theorem dX12_isAhead_11 : decode cX12_isAhead 11 = .ok (.iload_n 2, 1) := by decide +kernel
theorem dX12_isAhead_12 : decode cX12_isAhead 12 = .ok (.iaload, 1) := by decide +kernel
theorem dX12_isAhead_13 : decode cX12_isAhead 13 = .ok (.istore 4, 2) := by decide +kernel
theorem dX12_isAhead_15 : decode cX12_isAhead 15 = .ok (.aload_n 0, 1) := by decide +kernel
theorem dX12_isAhead_16 : decode cX12_isAhead 16 = .ok (.iload_n 3, 1) := by decide +kernel
theorem dX12_isAhead_17 : decode cX12_isAhead 17 = .ok (.invokevirtual 335, 3) := by decide +kernel
theorem dX12_isAhead_20 : decode cX12_isAhead 20 = .ok (.aload_n 0, 1) := by decide +kernel
theorem dX12_isAhead_21 : decode cX12_isAhead 21 = .ok (.iload 4, 2) := by decide +kernel
theorem dX12_isAhead_23 : decode cX12_isAhead 23 = .ok (.invokevirtual 335, 3) := by decide +kernel
theorem dX12_isAhead_26 : decode cX12_isAhead 26 = .ok (.if_icmp .eq 23, 3) := by decide +kernel
theorem dX12_isAhead_29 : decode cX12_isAhead 29 = .ok (.aload_n 0, 1) := by decide +kernel
theorem dX12_isAhead_30 : decode cX12_isAhead 30 = .ok (.iload_n 3, 1) := by decide +kernel
theorem dX12_isAhead_31 : decode cX12_isAhead 31 = .ok (.invokevirtual 335, 3) := by decide +kernel
theorem dX12_isAhead_34 : decode cX12_isAhead 34 = .ok (.aload_n 0, 1) := by decide +kernel
theorem dX12_isAhead_35 : decode cX12_isAhead 35 = .ok (.iload 4, 2) := by decide +kernel
theorem dX12_isAhead_37 : decode cX12_isAhead 37 = .ok (.invokevirtual 335, 3) := by decide +kernel
theorem dX12_isAhead_40 : decode cX12_isAhead 40 = .ok (.if_icmp .le 7, 3) := by decide +kernel
theorem dX12_isAhead_43 : decode cX12_isAhead 43 = .ok (.iconst 1, 1) := by decide +kernel
theorem dX12_isAhead_44 : decode cX12_isAhead 44 = .ok (.goto 4, 3) := by decide +kernel
theorem dX12_isAhead_47 : decode cX12_isAhead 47 = .ok (.iconst 0, 1) := by decide +kernel
theorem dX12_isAhead_48 : decode cX12_isAhead 48 = .ok (.ireturn, 1) := by decide +kernel
theorem dX12_isAhead_49 : decode cX12_isAhead 49 = .ok (.iload_n 3, 1) := by decide +kernel
theorem dX12_isAhead_50 : decode cX12_isAhead 50 = .ok (.iload 4, 2) := by decide +kernel
theorem dX12_isAhead_52 : decode cX12_isAhead 52 = .ok (.if_icmp .eq 11, 3) := by decide +kernel
theorem dX12_isAhead_55 : decode cX12_isAhead 55 = .ok (.aload_n 0, 1) := by decide +kernel
theorem dX12_isAhead_56 : decode cX12_isAhead 56 = .ok (.iload_n 3, 1) := by decide +kernel
theorem dX12_isAhead_57 : decode cX12_isAhead 57 = .ok (.iload 4, 2) := by decide +kernel
theorem dX12_isAhead_59 : decode cX12_isAhead 59 = .ok (.invokevirtual 300, 3) := by decide +kernel
theorem dX12_isAhead_62 : decode cX12_isAhead 62 = .ok (.ireturn, 1) := by decide +kernel
theorem dX12_isAhead_63 : decode cX12_isAhead 63 = .ok (.aload_n 0, 1) := by decide +kernel
theorem dX12_isAhead_64 : decode cX12_isAhead 64 = .ok (.getfield 26, 3) := by decide +kernel
theorem dX12_isAhead_67 : decode cX12_isAhead 67 = .ok (.iload_n 1, 1) := by decide +kernel
theorem dX12_isAhead_68 : decode cX12_isAhead 68 = .ok (.iaload, 1) := by decide +kernel
theorem dX12_isAhead_69 : decode cX12_isAhead 69 = .ok (.aload_n 0, 1) := by decide +kernel
theorem dX12_isAhead_70 : decode cX12_isAhead 70 = .ok (.getfield 26, 3) := by decide +kernel
theorem dX12_isAhead_73 : decode cX12_isAhead 73 = .ok (.iload_n 2, 1) := by decide +kernel
theorem dX12_isAhead_74 : decode cX12_isAhead 74 = .ok (.iaload, 1) := by decide +kernel
theorem dX12_isAhead_75 : decode cX12_isAhead 75 = .ok (.if_icmp .eq 24, 3) := by decide +kernel
theorem dX12_isAhead_78 : decode cX12_isAhead 78 = .ok (.aload_n 0, 1) := by decide +kernel
theorem dX12_isAhead_79 : decode cX12_isAhead 79 = .ok (.getfield 26, 3) := by decide +kernel
theorem dX12_isAhead_82 : decode cX12_isAhead 82 = .ok (.iload_n 1, 1) := by decide +kernel
theorem dX12_isAhead_83 : decode cX12_isAhead 83 = .ok (.iaload, 1) := by decide +kernel
theorem dX12_isAhead_84 : decode cX12_isAhead 84 = .ok (.aload_n 0, 1) := by decide +kernel
theorem dX12_isAhead_85 : decode cX12_isAhead 85 = .ok (.getfield 26, 3) := by decide +kernel
theorem dX12_isAhead_88 : decode cX12_isAhead 88 = .ok (.iload_n 2, 1) := by decide +kernel
theorem dX12_isAhead_89 : decode cX12_isAhead 89 = .ok (.iaload, 1) := by decide +kernel
theorem dX12_isAhead_90 : decode cX12_isAhead 90 = .ok (.if_icmp .ge 7, 3) := by decide +kernel
theorem dX12_isAhead_93 : decode cX12_isAhead 93 = .ok (.iconst 1, 1) := by decide +kernel
theorem dX12_isAhead_94 : decode cX12_isAhead 94 = .ok (.goto 4, 3) := by decide +kernel
theorem dX12_isAhead_97 : decode cX12_isAhead 97 = .ok (.iconst 0, 1) := by decide +kernel
theorem dX12_isAhead_98 : decode cX12_isAhead 98 = .ok (.ireturn, 1) := by decide +kernel
theorem dX12_isAhead_99 : decode cX12_isAhead 99 = .ok (.aload_n 0, 1) := by decide +kernel
theorem dX12_isAhead_100 : decode cX12_isAhead 100 = .ok (.getfield 29, 3) := by decide +kernel
theorem dX12_isAhead_103 : decode cX12_isAhead 103 = .ok (.iload_n 1, 1) := by decide +kernel
theorem dX12_isAhead_104 : decode cX12_isAhead 104 = .ok (.iaload, 1) := by decide +kernel
theorem dX12_isAhead_105 : decode cX12_isAhead 105 = .ok (.aload_n 0, 1) := by decide +kernel
theorem dX12_isAhead_106 : decode cX12_isAhead 106 = .ok (.getfield 29, 3) := by decide +kernel
theorem dX12_isAhead_109 : decode cX12_isAhead 109 = .ok (.iload_n 2, 1) := by decide +kernel
theorem dX12_isAhead_110 : decode cX12_isAhead 110 = .ok (.iaload, 1) := by decide +kernel
theorem dX12_isAhead_111 : decode cX12_isAhead 111 = .ok (.if_icmp .eq 24, 3) := by decide +kernel
theorem dX12_isAhead_114 : decode cX12_isAhead 114 = .ok (.aload_n 0, 1) := by decide +kernel
theorem dX12_isAhead_115 : decode cX12_isAhead 115 = .ok (.getfield 29, 3) := by decide +kernel
theorem dX12_isAhead_118 : decode cX12_isAhead 118 = .ok (.iload_n 1, 1) := by decide +kernel
theorem dX12_isAhead_119 : decode cX12_isAhead 119 = .ok (.iaload, 1) := by decide +kernel
theorem dX12_isAhead_120 : decode cX12_isAhead 120 = .ok (.aload_n 0, 1) := by decide +kernel
theorem dX12_isAhead_121 : decode cX12_isAhead 121 = .ok (.getfield 29, 3) := by decide +kernel
theorem dX12_isAhead_124 : decode cX12_isAhead 124 = .ok (.iload_n 2, 1) := by decide +kernel
theorem dX12_isAhead_125 : decode cX12_isAhead 125 = .ok (.iaload, 1) := by decide +kernel
theorem dX12_isAhead_126 : decode cX12_isAhead 126 = .ok (.if_icmp .ge 7, 3) := by decide +kernel
theorem dX12_isAhead_129 : decode cX12_isAhead 129 = .ok (.iconst 1, 1) := by decide +kernel
theorem dX12_isAhead_130 : decode cX12_isAhead 130 = .ok (.goto 4, 3) := by decide +kernel
theorem dX12_isAhead_133 : decode cX12_isAhead 133 = .ok (.iconst 0, 1) := by decide +kernel
theorem dX12_isAhead_134 : decode cX12_isAhead 134 = .ok (.ireturn, 1) := by decide +kernel
theorem dX12_isAhead_135 : decode cX12_isAhead 135 = .ok (.aload_n 0, 1) := by decide +kernel
theorem dX12_isAhead_136 : decode cX12_isAhead 136 = .ok (.getfield 19, 3) := by decide +kernel
theorem dX12_isAhead_139 : decode cX12_isAhead 139 = .ok (.iload_n 1, 1) := by decide +kernel
theorem dX12_isAhead_140 : decode cX12_isAhead 140 = .ok (.iaload, 1) := by decide +kernel
theorem dX12_isAhead_141 : decode cX12_isAhead 141 = .ok (.aload_n 0, 1) := by decide +kernel
theorem dX12_isAhead_142 : decode cX12_isAhead 142 = .ok (.getfield 19, 3) := by decide +kernel
theorem dX12_isAhead_145 : decode cX12_isAhead 145 = .ok (.iload_n 2, 1) := by decide +kernel
theorem dX12_isAhead_146 : decode cX12_isAhead 146 = .ok (.iaload, 1) := by decide +kernel
theorem dX12_isAhead_147 : decode cX12_isAhead 147 = .ok (.if_icmp .eq 26, 3) := by decide +kernel
theorem dX12_isAhead_150 : decode cX12_isAhead 150 = .ok (.aload_n 0, 1) := by decide +kernel
theorem dX12_isAhead_151 : decode cX12_isAhead 151 = .ok (.getfield 19, 3) := by decide +kernel
theorem dX12_isAhead_154 : decode cX12_isAhead 154 = .ok (.iload_n 1, 1) := by decide +kernel
theorem dX12_isAhead_155 : decode cX12_isAhead 155 = .ok (.iaload, 1) := by decide +kernel
theorem dX12_isAhead_156 : decode cX12_isAhead 156 = .ok (.aload_n 0, 1) := by decide +kernel
theorem dX12_isAhead_157 : decode cX12_isAhead 157 = .ok (.getfield 19, 3) := by decide +kernel
theorem dX12_isAhead_160 : decode cX12_isAhead 160 = .ok (.iload_n 2, 1) := by decide +kernel
theorem dX12_isAhead_161 : decode cX12_isAhead 161 = .ok (.iaload, 1) := by decide +kernel
theorem dX12_isAhead_162 : decode cX12_isAhead 162 = .ok (.if_icmp .ge 7, 3) := by decide +kernel
theorem dX12_isAhead_165 : decode cX12_isAhead 165 = .ok (.iconst 1, 1) := by decide +kernel
theorem dX12_isAhead_166 : decode cX12_isAhead 166 = .ok (.goto 17, 3) := by decide +kernel
theorem dX12_isAhead_169 : decode cX12_isAhead 169 = .ok (.iconst 0, 1) := by decide +kernel
theorem dX12_isAhead_170 : decode cX12_isAhead 170 = .ok (.goto 13, 3) := by decide +kernel
theorem dX12_isAhead_173 : decode cX12_isAhead 173 = .ok (.iload_n 1, 1) := by decide +kernel
theorem dX12_isAhead_174 : decode cX12_isAhead 174 = .ok (.iload_n 2, 1) := by decide +kernel
theorem dX12_isAhead_175 : decode cX12_isAhead 175 = .ok (.if_icmp .ge 7, 3) := by decide +kernel
theorem dX12_isAhead_178 : decode cX12_isAhead 178 = .ok (.iconst 1, 1) := by decide +kernel
theorem dX12_isAhead_179 : decode cX12_isAhead 179 = .ok (.goto 4, 3) := by decide +kernel
theorem dX12_isAhead_182 : decode cX12_isAhead 182 = .ok (.iconst 0, 1) := by decide +kernel
theorem dX12_isAhead_183 : decode cX12_isAhead 183 = .ok (.ireturn, 1) := by decide +kernel
set_option maxHeartbeats 4000000 in
set_option maxRecDepth 100000 in
theorem sX12_isAhead (l : Launch) (dC : Nat → ClassId) (dI : Nat → Nat → Nat) (h0 : Nat) (mi : Nat → Int32) (mr : Nat → Nat) (km : Nat → ClassId) (fm_reportPlace : Nat → Int32) (fm_reportMonth : Nat → Int32) (fm_reportDay : Nat → Int32) (fm_reportKind : Nat → Int32) (fm_trust : Nat → Int32) (fm_letter : Nat → Int32) (fm_struck : Nat → Int32) (fm_reportKnown : Nat → Int32) (fm_deedMonth : Nat → Int32) (fm_deedDay : Nat → Int32) (fm_deedLong : Nat → Int32) (fm_deedKind : Nat → Int32) (fm_kept : Nat → Int32) (fm_tape : Nat → Int32) (fm_must : Nat → Int32) (fm_least : Nat → Int32) (fm_pin : Nat → Int32) (fm_ways : Nat → Int32) (fm_verdict : Nat → Int32) (fm_row : Nat → Int32) (fm_official : Nat → Int32) (fm_aside : Nat → Int32) (fm_worth : Nat → Int32) (fm_out : Nat → Int32) (p1 : Int32) (p2 : Int32) (gmi_0 : gi (mi 0) 0 24) (gmi_1 : gi (mi 1) 0 5) (gmi_2 : gi (mi 2) 0 5) (gmi_4 : gi (mi 4) 0 1) (gmi_7 : gi (mi 7) 0 6) (gmi_10 : gi (mi 10) 0 24) (gmi_17 : gi (mi 17) 0 8) (gmi_23 : gi (mi 23) 0 300) (gmi_24 : gi (mi 24) 0 1) (gmi_26 : gi (mi 26) 0 1600) (gmi_29 : gi (mi 29) 0 1600) (gmi_30 : gi (mi 30) 0 1600) (gmi_33 : gi (mi 33) 0 1) (gmi_37 : gi (mi 37) 0 1) (gmi_41 : gi (mi 41) 0 24) (gmi_50 : gi (mi 50) 0 1) (gmi_51 : gi (mi 51) 0 1) (gmi_56 : gi (mi 56) 0 80) (gfm_reportPlace : ga fm_reportPlace 24 0 5) (gfm_reportMonth : ga fm_reportMonth 24 0 23) (gfm_reportDay : ga fm_reportDay 24 0 999) (gp1 : gi p1 0 23) (gp2 : gi p2 0 23) : Met l yX12_isAhead (.code yX12_isAhead cX12_isAhead 5 (some .boolean) :: wsGB) ({ frames := 1, cells := 0, slots := 0, locals := 25 }) (va_Pc [.ref h0, .int p1, .int p2] (fun U => va_P (dC, dI) vwCl (MWn h0 mr km (mi 0) (mi 1) (mi 2) (mi 3) (mi 4) (mi 5) (mi 6) (mi 7) (mi 10) (mi 17) (mi 23) (mi 24) (mi 26) (mi 27) (mi 28) (mi 29) (mi 30) (mi 31) (mi 32) (mi 33) (mi 37) (mi 41) (mi 42) (mi 43) (mi 44) (mi 45) (mi 47) (mi 48) (mi 49) (mi 50) (mi 51) (mi 54) (mi 56) fm_trust fm_letter fm_reportPlace fm_reportKind fm_struck fm_reportMonth fm_reportDay fm_reportKnown fm_deedMonth fm_deedDay fm_deedLong fm_deedKind fm_kept fm_tape fm_must fm_least fm_pin fm_ways fm_verdict fm_row fm_official fm_aside fm_worth fm_out) U.heap ∧ va_K (dC, dI) vwCl (MT km) U)) (va_Qi (fun (r : Int32) (u : Unit) => gi r 0 1) (fun _ _ => True) (fun _ => False)) 0 0 (fun _ => False) := by
  refine Met.ofW (cc := cX12_isAhead) (maxL := 5) (ret := (some .boolean)) (by decide) rfl ?_
  intro p e s m args below meth c s₁ B hml hv
  obtain ⟨rfl, hP, hK⟩ := hv
  have hx := B.exec
  have hb := B.bytes
  have hr := B.returns
  have hts := atoms_spec (ws := (.code yX12_isAhead cX12_isAhead 5 (some .boolean) :: wsGB)) B.pre
  have hown : s.vm.findClass RX12 = some m.cls := findClass_of_methodNamed B.named
  have hlocks := B.notSynchronized
  have hS : va_S (fun _ => False) s.heap s.heap [] := va_S.rf
  have hl := lv_entry ([.ref h0, .int p1, .int p2]) (n := 5) (Nat.le_of_ble_eq_true rfl)
  rw [lg_entry_eq]
  generalize (lg_sl ([.ref h0, .int p1, .int p2]) ++ List.replicate (5 - (lg_sl ([.ref h0, .int p1, .int p2])).length) Slot.unset).toArray = ls at hl ⊢
  have hl : lv_has ls 5 [(0, .ref h0), (1, .int p1), (2, .int p2)] := hl
  refine lv_aload_n hx hb dX12_isAhead_0 rfl (lv_at hl 0 rfl) ?_
  refine va_get (D := (dC, dI)) (ci := 12) (v := .ref (mr 2)) (C := RX12) (T := TX12) (N := 57) hx hb hts (fun w h => List.mem_cons_of_mem _ (jnGB_X12 w h)) hown hK hP 0 rfl rfl 11 (by decide) (hts _ (List.mem_cons_of_mem _ mGB_12)) (fun _ h9 => h9) rfl dX12_isAhead_1 ?_
  refine lv_iload_n hx hb dX12_isAhead_4 rfl (lv_at hl 1 rfl) ?_
  refine va_iald hx hb hK hP 3 2 rfl rfl (gi_in gp1 (by decide)) dX12_isAhead_5 ?_
  refine lv_topi (fun x_40 ex_40 => ?_)
  have gx_40 : gi x_40 0 5 := ga_at gfm_reportPlace (gi_in gp1 (by decide)) ex_40
  refine lv_istore_n (lv' := [(3, .int x_40), (0, .ref h0), (1, .int p1), (2, .int p2)]) hx hb dX12_isAhead_6 rfl hl (by decide) rfl (fun ls hl => ?_)
  refine lv_aload_n hx hb dX12_isAhead_7 rfl (lv_at hl 1 rfl) ?_
  refine va_get (D := (dC, dI)) (ci := 12) (v := .ref (mr 2)) (C := RX12) (T := TX12) (N := 57) hx hb hts (fun w h => List.mem_cons_of_mem _ (jnGB_X12 w h)) hown hK hP 0 rfl rfl 11 (by decide) (hts _ (List.mem_cons_of_mem _ mGB_12)) (fun _ h9 => h9) rfl dX12_isAhead_8 ?_
  refine lv_iload_n hx hb dX12_isAhead_11 rfl (lv_at hl 3 rfl) ?_
  refine va_iald hx hb hK hP 3 2 rfl rfl (gi_in gp2 (by decide)) dX12_isAhead_12 ?_
  refine lv_topi (fun x_41 ex_41 => ?_)
  have gx_41 : gi x_41 0 5 := ga_at gfm_reportPlace (gi_in gp2 (by decide)) ex_41
  refine lv_istore (lv' := [(4, .int x_41), (3, .int x_40), (0, .ref h0), (1, .int p1), (2, .int p2)]) hx hb dX12_isAhead_13 hl (by decide) rfl (fun ls hl => ?_)
  refine lv_aload_n hx hb dX12_isAhead_15 rfl (lv_at hl 2 rfl) ?_
  refine lv_iload_n hx hb dX12_isAhead_16 rfl (lv_at hl 1 rfl) ?_
  refine va_calli (va_runV (As := [.int x_40]) (rest := []) ⟨hx, hb, hml, hown, hts⟩ (sX12_trustOf l dC dI h0 mi mr km fm_trust fm_letter fm_reportPlace fm_reportKind fm_struck fm_reportMonth fm_reportDay fm_reportKnown fm_deedMonth fm_deedDay fm_deedLong fm_deedKind fm_kept fm_tape fm_must fm_least fm_pin fm_ways fm_verdict fm_row fm_official fm_aside fm_worth fm_out x_40 gmi_0 gmi_1 gmi_2 gmi_4 gmi_7 gmi_10 gmi_17 gmi_23 gmi_24 gmi_26 gmi_29 gmi_30 gmi_33 gmi_37 gmi_41 gmi_50 gmi_51 gmi_56 gx_40) (cwV 1 hts (gz_gV mGB_287 mGB_288 mGB_289 mGB_1 mGB_290 goodGB) rfl rfl rfl (by decide +kernel) ⟨Nat.le_of_ble_eq_true rfl, Nat.le_of_ble_eq_true rfl⟩) ⟨bl_R, mw_recv hK hP, fun U hU hW => ⟨rfl, by rw [hU]; exact hP, va_K.moved hW.alike hK⟩⟩ rfl rfl hl.1 rfl (lv_room (Nat.le_of_ble_eq_true rfl)) dX12_isAhead_17 ⟨Nat.zero_le _, Nat.zero_le _⟩) hS (fun q _ h => h.elim) (fun q h => h.elim) (fun r_42 u t H1 locs ht hvm hw hB hz1 hk1 hS => ?_)
  have hP := gz_keep hP hk1
  generalize H1 = H at hP hS ⊢
  refine lv_aload_n hx hb dX12_isAhead_20 rfl (lv_at hl 2 rfl) ?_
  refine lv_iload hx hb dX12_isAhead_21 (lv_at hl 0 rfl) ?_
  refine va_calli (va_runV (As := [.int x_41]) (rest := [.int r_42]) ⟨hx, hb, hml, hown, hts⟩ (sX12_trustOf l dC dI h0 mi mr km fm_trust fm_letter fm_reportPlace fm_reportKind fm_struck fm_reportMonth fm_reportDay fm_reportKnown fm_deedMonth fm_deedDay fm_deedLong fm_deedKind fm_kept fm_tape fm_must fm_least fm_pin fm_ways fm_verdict fm_row fm_official fm_aside fm_worth fm_out x_41 gmi_0 gmi_1 gmi_2 gmi_4 gmi_7 gmi_10 gmi_17 gmi_23 gmi_24 gmi_26 gmi_29 gmi_30 gmi_33 gmi_37 gmi_41 gmi_50 gmi_51 gmi_56 gx_41) (cwV 1 hts (gz_gV mGB_287 mGB_288 mGB_289 mGB_1 mGB_290 goodGB) rfl rfl rfl (by decide +kernel) ⟨Nat.le_of_ble_eq_true rfl, Nat.le_of_ble_eq_true rfl⟩) ⟨bl_R, mw_recv hK hP, fun U hU hW => ⟨rfl, by rw [hU]; exact hP, va_K.moved hW.alike hK⟩⟩ rfl rfl hl.1 rfl (lv_room (Nat.le_of_ble_eq_true rfl)) dX12_isAhead_23 ⟨Nat.zero_le _, Nat.zero_le _⟩) hS (fun q _ h => h.elim) (fun q h => h.elim) (fun r_43 u t H1 locs ht hvm hw hB hz1 hk1 hS => ?_)
  have hP := gz_keep hP hk1
  generalize H1 = H at hP hS ⊢
  refine lv_icmp_eq (tgt := 49) hx hb dX12_isAhead_26 (by decide) (fun c_44 => ?_) (fun c_44 => ?_)
  · refine lv_iload_n hx hb dX12_isAhead_49 rfl (lv_at hl 1 rfl) ?_
    refine lv_iload hx hb dX12_isAhead_50 (lv_at hl 0 rfl) ?_
    refine lv_icmp_eq (tgt := 63) hx hb dX12_isAhead_52 (by decide) (fun c_45 => ?_) (fun c_45 => ?_)
    · refine lv_aload_n hx hb dX12_isAhead_63 rfl (lv_at hl 2 rfl) ?_
      refine va_get (D := (dC, dI)) (ci := 12) (v := .ref (mr 5)) (C := RX12) (T := TX12) (N := 57) hx hb hts (fun w h => List.mem_cons_of_mem _ (jnGB_X12 w h)) hown hK hP 0 rfl rfl 14 (by decide) (hts _ (List.mem_cons_of_mem _ mGB_16)) (fun _ h9 => h9) rfl dX12_isAhead_64 ?_
      refine lv_iload_n hx hb dX12_isAhead_67 rfl (lv_at hl 3 rfl) ?_
      refine va_iald hx hb hK hP 6 5 rfl rfl (gi_in gp1 (by decide)) dX12_isAhead_68 ?_
      refine lv_topi (fun x_46 ex_46 => ?_)
      have gx_46 : gi x_46 0 23 := ga_at gfm_reportMonth (gi_in gp1 (by decide)) ex_46
      refine lv_aload_n hx hb dX12_isAhead_69 rfl (lv_at hl 2 rfl) ?_
      refine va_get (D := (dC, dI)) (ci := 12) (v := .ref (mr 5)) (C := RX12) (T := TX12) (N := 57) hx hb hts (fun w h => List.mem_cons_of_mem _ (jnGB_X12 w h)) hown hK hP 0 rfl rfl 14 (by decide) (hts _ (List.mem_cons_of_mem _ mGB_16)) (fun _ h9 => h9) rfl dX12_isAhead_70 ?_
      refine lv_iload_n hx hb dX12_isAhead_73 rfl (lv_at hl 4 rfl) ?_
      refine va_iald hx hb hK hP 6 5 rfl rfl (gi_in gp2 (by decide)) dX12_isAhead_74 ?_
      refine lv_topi (fun x_47 ex_47 => ?_)
      have gx_47 : gi x_47 0 23 := ga_at gfm_reportMonth (gi_in gp2 (by decide)) ex_47
      refine lv_icmp_eq (tgt := 99) hx hb dX12_isAhead_75 (by decide) (fun c_48 => ?_) (fun c_48 => ?_)
      · refine lv_aload_n hx hb dX12_isAhead_99 rfl (lv_at hl 2 rfl) ?_
        refine va_get (D := (dC, dI)) (ci := 12) (v := .ref (mr 6)) (C := RX12) (T := TX12) (N := 57) hx hb hts (fun w h => List.mem_cons_of_mem _ (jnGB_X12 w h)) hown hK hP 0 rfl rfl 15 (by decide) (hts _ (List.mem_cons_of_mem _ mGB_17)) (fun _ h9 => h9) rfl dX12_isAhead_100 ?_
        refine lv_iload_n hx hb dX12_isAhead_103 rfl (lv_at hl 3 rfl) ?_
        refine va_iald hx hb hK hP 7 6 rfl rfl (gi_in gp1 (by decide)) dX12_isAhead_104 ?_
        refine lv_topi (fun x_49 ex_49 => ?_)
        have gx_49 : gi x_49 0 999 := ga_at gfm_reportDay (gi_in gp1 (by decide)) ex_49
        refine lv_aload_n hx hb dX12_isAhead_105 rfl (lv_at hl 2 rfl) ?_
        refine va_get (D := (dC, dI)) (ci := 12) (v := .ref (mr 6)) (C := RX12) (T := TX12) (N := 57) hx hb hts (fun w h => List.mem_cons_of_mem _ (jnGB_X12 w h)) hown hK hP 0 rfl rfl 15 (by decide) (hts _ (List.mem_cons_of_mem _ mGB_17)) (fun _ h9 => h9) rfl dX12_isAhead_106 ?_
        refine lv_iload_n hx hb dX12_isAhead_109 rfl (lv_at hl 4 rfl) ?_
        refine va_iald hx hb hK hP 7 6 rfl rfl (gi_in gp2 (by decide)) dX12_isAhead_110 ?_
        refine lv_topi (fun x_50 ex_50 => ?_)
        have gx_50 : gi x_50 0 999 := ga_at gfm_reportDay (gi_in gp2 (by decide)) ex_50
        refine lv_icmp_eq (tgt := 135) hx hb dX12_isAhead_111 (by decide) (fun c_51 => ?_) (fun c_51 => ?_)
        · refine lv_aload_n hx hb dX12_isAhead_135 rfl (lv_at hl 2 rfl) ?_
          refine va_get (D := (dC, dI)) (ci := 12) (v := .ref (mr 3)) (C := RX12) (T := TX12) (N := 57) hx hb hts (fun w h => List.mem_cons_of_mem _ (jnGB_X12 w h)) hown hK hP 0 rfl rfl 12 (by decide) (hts _ (List.mem_cons_of_mem _ mGB_13)) (fun _ h9 => h9) rfl dX12_isAhead_136 ?_
          refine lv_iload_n hx hb dX12_isAhead_139 rfl (lv_at hl 3 rfl) ?_
          refine va_iald hx hb hK hP 4 3 rfl rfl (gi_in gp1 (by decide)) dX12_isAhead_140 ?_
          refine lv_topi (fun x_52 ex_52 => ?_)
          refine lv_aload_n hx hb dX12_isAhead_141 rfl (lv_at hl 2 rfl) ?_
          refine va_get (D := (dC, dI)) (ci := 12) (v := .ref (mr 3)) (C := RX12) (T := TX12) (N := 57) hx hb hts (fun w h => List.mem_cons_of_mem _ (jnGB_X12 w h)) hown hK hP 0 rfl rfl 12 (by decide) (hts _ (List.mem_cons_of_mem _ mGB_13)) (fun _ h9 => h9) rfl dX12_isAhead_142 ?_
          refine lv_iload_n hx hb dX12_isAhead_145 rfl (lv_at hl 4 rfl) ?_
          refine va_iald hx hb hK hP 4 3 rfl rfl (gi_in gp2 (by decide)) dX12_isAhead_146 ?_
          refine lv_topi (fun x_53 ex_53 => ?_)
          refine lv_icmp_eq (tgt := 173) hx hb dX12_isAhead_147 (by decide) (fun c_54 => ?_) (fun c_54 => ?_)
          · refine lv_iload_n hx hb dX12_isAhead_173 rfl (lv_at hl 3 rfl) ?_
            refine lv_iload_n hx hb dX12_isAhead_174 rfl (lv_at hl 4 rfl) ?_
            refine lv_icmp_ge (tgt := 182) hx hb dX12_isAhead_175 (by decide) (fun c_55 => ?_) (fun c_55 => ?_)
            · refine lv_iconst (v := 0) hx hb dX12_isAhead_182 (by decide) ?_
              exact W.zret (v := 0) hx hb hr (by decide) (fun t ht hW => ⟨⟨0, (), rfl, (gi_w (gi_c 0 0 (by decide)) (by decide)), trivial⟩, hS.F ht⟩) hS.2.2 dX12_isAhead_183
            · have g_56 : gi p1 0 22 := gi_lt_l (Int32.not_le.mp c_55) gp1 gp2 (by decide)
              have g_57 : gi p2 1 23 := gi_lt_r (Int32.not_le.mp c_55) gp1 gp2 (by decide)
              refine lv_iconst (v := 1) hx hb dX12_isAhead_178 (by decide) ?_
              refine lv_goto (tgt := 183) hx hb dX12_isAhead_179 (by decide) ?_
              exact W.zret (v := 1) hx hb hr (by decide) (fun t ht hW => ⟨⟨1, (), rfl, (gi_w (gi_c 1 1 (by decide)) (by decide)), trivial⟩, hS.F ht⟩) hS.2.2 dX12_isAhead_183
          · refine lv_aload_n hx hb dX12_isAhead_150 rfl (lv_at hl 2 rfl) ?_
            refine va_get (D := (dC, dI)) (ci := 12) (v := .ref (mr 3)) (C := RX12) (T := TX12) (N := 57) hx hb hts (fun w h => List.mem_cons_of_mem _ (jnGB_X12 w h)) hown hK hP 0 rfl rfl 12 (by decide) (hts _ (List.mem_cons_of_mem _ mGB_13)) (fun _ h9 => h9) rfl dX12_isAhead_151 ?_
            refine lv_iload_n hx hb dX12_isAhead_154 rfl (lv_at hl 3 rfl) ?_
            refine va_iald hx hb hK hP 4 3 rfl rfl (gi_in gp1 (by decide)) dX12_isAhead_155 ?_
            refine lv_topi (fun x_58 ex_58 => ?_)
            refine lv_aload_n hx hb dX12_isAhead_156 rfl (lv_at hl 2 rfl) ?_
            refine va_get (D := (dC, dI)) (ci := 12) (v := .ref (mr 3)) (C := RX12) (T := TX12) (N := 57) hx hb hts (fun w h => List.mem_cons_of_mem _ (jnGB_X12 w h)) hown hK hP 0 rfl rfl 12 (by decide) (hts _ (List.mem_cons_of_mem _ mGB_13)) (fun _ h9 => h9) rfl dX12_isAhead_157 ?_
            refine lv_iload_n hx hb dX12_isAhead_160 rfl (lv_at hl 4 rfl) ?_
            refine va_iald hx hb hK hP 4 3 rfl rfl (gi_in gp2 (by decide)) dX12_isAhead_161 ?_
            refine lv_topi (fun x_59 ex_59 => ?_)
            refine lv_icmp_ge (tgt := 169) hx hb dX12_isAhead_162 (by decide) (fun c_60 => ?_) (fun c_60 => ?_)
            · refine lv_iconst (v := 0) hx hb dX12_isAhead_169 (by decide) ?_
              refine lv_goto (tgt := 183) hx hb dX12_isAhead_170 (by decide) ?_
              exact W.zret (v := 0) hx hb hr (by decide) (fun t ht hW => ⟨⟨0, (), rfl, (gi_w (gi_c 0 0 (by decide)) (by decide)), trivial⟩, hS.F ht⟩) hS.2.2 dX12_isAhead_183
            · have g_61 : gi x_58 (-2147483648) 2147483646 := gi_lt_l (Int32.not_le.mp c_60) (gi_any x_58) (gi_any x_59) (by decide)
              have g_62 : gi x_59 (-2147483647) 2147483647 := gi_lt_r (Int32.not_le.mp c_60) (gi_any x_58) (gi_any x_59) (by decide)
              refine lv_iconst (v := 1) hx hb dX12_isAhead_165 (by decide) ?_
              refine lv_goto (tgt := 183) hx hb dX12_isAhead_166 (by decide) ?_
              exact W.zret (v := 1) hx hb hr (by decide) (fun t ht hW => ⟨⟨1, (), rfl, (gi_w (gi_c 1 1 (by decide)) (by decide)), trivial⟩, hS.F ht⟩) hS.2.2 dX12_isAhead_183
        · refine lv_aload_n hx hb dX12_isAhead_114 rfl (lv_at hl 2 rfl) ?_
          refine va_get (D := (dC, dI)) (ci := 12) (v := .ref (mr 6)) (C := RX12) (T := TX12) (N := 57) hx hb hts (fun w h => List.mem_cons_of_mem _ (jnGB_X12 w h)) hown hK hP 0 rfl rfl 15 (by decide) (hts _ (List.mem_cons_of_mem _ mGB_17)) (fun _ h9 => h9) rfl dX12_isAhead_115 ?_
          refine lv_iload_n hx hb dX12_isAhead_118 rfl (lv_at hl 3 rfl) ?_
          refine va_iald hx hb hK hP 7 6 rfl rfl (gi_in gp1 (by decide)) dX12_isAhead_119 ?_
          refine lv_topi (fun x_63 ex_63 => ?_)
          have gx_63 : gi x_63 0 999 := ga_at gfm_reportDay (gi_in gp1 (by decide)) ex_63
          refine lv_aload_n hx hb dX12_isAhead_120 rfl (lv_at hl 2 rfl) ?_
          refine va_get (D := (dC, dI)) (ci := 12) (v := .ref (mr 6)) (C := RX12) (T := TX12) (N := 57) hx hb hts (fun w h => List.mem_cons_of_mem _ (jnGB_X12 w h)) hown hK hP 0 rfl rfl 15 (by decide) (hts _ (List.mem_cons_of_mem _ mGB_17)) (fun _ h9 => h9) rfl dX12_isAhead_121 ?_
          refine lv_iload_n hx hb dX12_isAhead_124 rfl (lv_at hl 4 rfl) ?_
          refine va_iald hx hb hK hP 7 6 rfl rfl (gi_in gp2 (by decide)) dX12_isAhead_125 ?_
          refine lv_topi (fun x_64 ex_64 => ?_)
          have gx_64 : gi x_64 0 999 := ga_at gfm_reportDay (gi_in gp2 (by decide)) ex_64
          refine lv_icmp_ge (tgt := 133) hx hb dX12_isAhead_126 (by decide) (fun c_65 => ?_) (fun c_65 => ?_)
          · refine lv_iconst (v := 0) hx hb dX12_isAhead_133 (by decide) ?_
            exact W.zret (v := 0) hx hb hr (by decide) (fun t ht hW => ⟨⟨0, (), rfl, (gi_w (gi_c 0 0 (by decide)) (by decide)), trivial⟩, hS.F ht⟩) hS.2.2 dX12_isAhead_134
          · have g_66 : gi x_63 0 998 := gi_lt_l (Int32.not_le.mp c_65) gx_63 gx_64 (by decide)
            have g_67 : gi x_64 1 999 := gi_lt_r (Int32.not_le.mp c_65) gx_63 gx_64 (by decide)
            refine lv_iconst (v := 1) hx hb dX12_isAhead_129 (by decide) ?_
            refine lv_goto (tgt := 134) hx hb dX12_isAhead_130 (by decide) ?_
            exact W.zret (v := 1) hx hb hr (by decide) (fun t ht hW => ⟨⟨1, (), rfl, (gi_w (gi_c 1 1 (by decide)) (by decide)), trivial⟩, hS.F ht⟩) hS.2.2 dX12_isAhead_134
      · refine lv_aload_n hx hb dX12_isAhead_78 rfl (lv_at hl 2 rfl) ?_
        refine va_get (D := (dC, dI)) (ci := 12) (v := .ref (mr 5)) (C := RX12) (T := TX12) (N := 57) hx hb hts (fun w h => List.mem_cons_of_mem _ (jnGB_X12 w h)) hown hK hP 0 rfl rfl 14 (by decide) (hts _ (List.mem_cons_of_mem _ mGB_16)) (fun _ h9 => h9) rfl dX12_isAhead_79 ?_
        refine lv_iload_n hx hb dX12_isAhead_82 rfl (lv_at hl 3 rfl) ?_
        refine va_iald hx hb hK hP 6 5 rfl rfl (gi_in gp1 (by decide)) dX12_isAhead_83 ?_
        refine lv_topi (fun x_68 ex_68 => ?_)
        have gx_68 : gi x_68 0 23 := ga_at gfm_reportMonth (gi_in gp1 (by decide)) ex_68
        refine lv_aload_n hx hb dX12_isAhead_84 rfl (lv_at hl 2 rfl) ?_
        refine va_get (D := (dC, dI)) (ci := 12) (v := .ref (mr 5)) (C := RX12) (T := TX12) (N := 57) hx hb hts (fun w h => List.mem_cons_of_mem _ (jnGB_X12 w h)) hown hK hP 0 rfl rfl 14 (by decide) (hts _ (List.mem_cons_of_mem _ mGB_16)) (fun _ h9 => h9) rfl dX12_isAhead_85 ?_
        refine lv_iload_n hx hb dX12_isAhead_88 rfl (lv_at hl 4 rfl) ?_
        refine va_iald hx hb hK hP 6 5 rfl rfl (gi_in gp2 (by decide)) dX12_isAhead_89 ?_
        refine lv_topi (fun x_69 ex_69 => ?_)
        have gx_69 : gi x_69 0 23 := ga_at gfm_reportMonth (gi_in gp2 (by decide)) ex_69
        refine lv_icmp_ge (tgt := 97) hx hb dX12_isAhead_90 (by decide) (fun c_70 => ?_) (fun c_70 => ?_)
        · refine lv_iconst (v := 0) hx hb dX12_isAhead_97 (by decide) ?_
          exact W.zret (v := 0) hx hb hr (by decide) (fun t ht hW => ⟨⟨0, (), rfl, (gi_w (gi_c 0 0 (by decide)) (by decide)), trivial⟩, hS.F ht⟩) hS.2.2 dX12_isAhead_98
        · have g_71 : gi x_68 0 22 := gi_lt_l (Int32.not_le.mp c_70) gx_68 gx_69 (by decide)
          have g_72 : gi x_69 1 23 := gi_lt_r (Int32.not_le.mp c_70) gx_68 gx_69 (by decide)
          refine lv_iconst (v := 1) hx hb dX12_isAhead_93 (by decide) ?_
          refine lv_goto (tgt := 98) hx hb dX12_isAhead_94 (by decide) ?_
          exact W.zret (v := 1) hx hb hr (by decide) (fun t ht hW => ⟨⟨1, (), rfl, (gi_w (gi_c 1 1 (by decide)) (by decide)), trivial⟩, hS.F ht⟩) hS.2.2 dX12_isAhead_98
    · refine lv_aload_n hx hb dX12_isAhead_55 rfl (lv_at hl 2 rfl) ?_
      refine lv_iload_n hx hb dX12_isAhead_56 rfl (lv_at hl 1 rfl) ?_
      refine lv_iload hx hb dX12_isAhead_57 (lv_at hl 0 rfl) ?_
      refine va_calli (va_runV (As := [.int x_40, .int x_41]) (rest := []) ⟨hx, hb, hml, hown, hts⟩ (sX12_isNameAhead l dC dI h0 mi mr km fm_letter fm_trust fm_reportPlace fm_reportKind fm_struck fm_reportMonth fm_reportDay fm_reportKnown fm_deedMonth fm_deedDay fm_deedLong fm_deedKind fm_kept fm_tape fm_must fm_least fm_pin fm_ways fm_verdict fm_row fm_official fm_aside fm_worth fm_out x_40 x_41 gmi_0 gmi_1 gmi_2 gmi_4 gmi_7 gmi_10 gmi_17 gmi_23 gmi_24 gmi_26 gmi_29 gmi_30 gmi_33 gmi_37 gmi_41 gmi_50 gmi_51 gmi_56 gx_40 gx_41) (cwV 2 hts (gz_gV mGB_228 mGB_229 mGB_230 mGB_1 mGB_231 goodGB) rfl rfl rfl (by decide +kernel) ⟨Nat.le_of_ble_eq_true rfl, Nat.le_of_ble_eq_true rfl⟩) ⟨bl_R, mw_recv hK hP, fun U hU hW => ⟨rfl, by rw [hU]; exact hP, va_K.moved hW.alike hK⟩⟩ rfl rfl hl.1 rfl (lv_room (Nat.le_of_ble_eq_true rfl)) dX12_isAhead_59 ⟨Nat.zero_le _, Nat.zero_le _⟩) hS (fun q _ h => h.elim) (fun q h => h.elim) (fun r_73 u t H1 locs ht hvm hw hB hz1 hk1 hS => ?_)
      obtain ⟨hw, hE⟩ := hw
      have hP := gz_keep hP hk1
      generalize H1 = H at hP hS ⊢
      have gr_73 : gi r_73 0 1 := hw
      exact W.zret (v := r_73) hx hb hr (gz_nb gr_73) (fun t ht hW => ⟨⟨r_73, (), rfl, gr_73, trivial⟩, hS.F ht⟩) hS.2.2 dX12_isAhead_62
  · refine lv_aload_n hx hb dX12_isAhead_29 rfl (lv_at hl 2 rfl) ?_
    refine lv_iload_n hx hb dX12_isAhead_30 rfl (lv_at hl 1 rfl) ?_
    refine va_calli (va_runV (As := [.int x_40]) (rest := []) ⟨hx, hb, hml, hown, hts⟩ (sX12_trustOf l dC dI h0 mi mr km fm_trust fm_letter fm_reportPlace fm_reportKind fm_struck fm_reportMonth fm_reportDay fm_reportKnown fm_deedMonth fm_deedDay fm_deedLong fm_deedKind fm_kept fm_tape fm_must fm_least fm_pin fm_ways fm_verdict fm_row fm_official fm_aside fm_worth fm_out x_40 gmi_0 gmi_1 gmi_2 gmi_4 gmi_7 gmi_10 gmi_17 gmi_23 gmi_24 gmi_26 gmi_29 gmi_30 gmi_33 gmi_37 gmi_41 gmi_50 gmi_51 gmi_56 gx_40) (cwV 1 hts (gz_gV mGB_287 mGB_288 mGB_289 mGB_1 mGB_290 goodGB) rfl rfl rfl (by decide +kernel) ⟨Nat.le_of_ble_eq_true rfl, Nat.le_of_ble_eq_true rfl⟩) ⟨bl_R, mw_recv hK hP, fun U hU hW => ⟨rfl, by rw [hU]; exact hP, va_K.moved hW.alike hK⟩⟩ rfl rfl hl.1 rfl (lv_room (Nat.le_of_ble_eq_true rfl)) dX12_isAhead_31 ⟨Nat.zero_le _, Nat.zero_le _⟩) hS (fun q _ h => h.elim) (fun q h => h.elim) (fun r_74 u t H1 locs ht hvm hw hB hz1 hk1 hS => ?_)
    have hP := gz_keep hP hk1
    generalize H1 = H at hP hS ⊢
    refine lv_aload_n hx hb dX12_isAhead_34 rfl (lv_at hl 2 rfl) ?_
    refine lv_iload hx hb dX12_isAhead_35 (lv_at hl 0 rfl) ?_
    refine va_calli (va_runV (As := [.int x_41]) (rest := [.int r_74]) ⟨hx, hb, hml, hown, hts⟩ (sX12_trustOf l dC dI h0 mi mr km fm_trust fm_letter fm_reportPlace fm_reportKind fm_struck fm_reportMonth fm_reportDay fm_reportKnown fm_deedMonth fm_deedDay fm_deedLong fm_deedKind fm_kept fm_tape fm_must fm_least fm_pin fm_ways fm_verdict fm_row fm_official fm_aside fm_worth fm_out x_41 gmi_0 gmi_1 gmi_2 gmi_4 gmi_7 gmi_10 gmi_17 gmi_23 gmi_24 gmi_26 gmi_29 gmi_30 gmi_33 gmi_37 gmi_41 gmi_50 gmi_51 gmi_56 gx_41) (cwV 1 hts (gz_gV mGB_287 mGB_288 mGB_289 mGB_1 mGB_290 goodGB) rfl rfl rfl (by decide +kernel) ⟨Nat.le_of_ble_eq_true rfl, Nat.le_of_ble_eq_true rfl⟩) ⟨bl_R, mw_recv hK hP, fun U hU hW => ⟨rfl, by rw [hU]; exact hP, va_K.moved hW.alike hK⟩⟩ rfl rfl hl.1 rfl (lv_room (Nat.le_of_ble_eq_true rfl)) dX12_isAhead_37 ⟨Nat.zero_le _, Nat.zero_le _⟩) hS (fun q _ h => h.elim) (fun q h => h.elim) (fun r_75 u t H1 locs ht hvm hw hB hz1 hk1 hS => ?_)
    have hP := gz_keep hP hk1
    generalize H1 = H at hP hS ⊢
    refine lv_icmp_le (tgt := 47) hx hb dX12_isAhead_40 (by decide) (fun c_76 => ?_) (fun c_76 => ?_)
    · refine lv_iconst (v := 0) hx hb dX12_isAhead_47 (by decide) ?_
      exact W.zret (v := 0) hx hb hr (by decide) (fun t ht hW => ⟨⟨0, (), rfl, (gi_w (gi_c 0 0 (by decide)) (by decide)), trivial⟩, hS.F ht⟩) hS.2.2 dX12_isAhead_48
    · have g_77 : gi r_75 (-2147483648) 2147483646 := gi_lt_l (Int32.not_le.mp c_76) (gi_any r_75) (gi_any r_74) (by decide)
      have g_78 : gi r_74 (-2147483647) 2147483647 := gi_lt_r (Int32.not_le.mp c_76) (gi_any r_75) (gi_any r_74) (by decide)
      refine lv_iconst (v := 1) hx hb dX12_isAhead_43 (by decide) ?_
      refine lv_goto (tgt := 48) hx hb dX12_isAhead_44 (by decide) ?_
      exact W.zret (v := 1) hx hb hr (by decide) (fun t ht hW => ⟨⟨1, (), rfl, (gi_w (gi_c 1 1 (by decide)) (by decide)), trivial⟩, hS.F ht⟩) hS.2.2 dX12_isAhead_48
theorem dX12_laysRow_0 : decode cX12_laysRow 0 = .ok (.aload_n 0, 1) := by decide +kernel
theorem dX12_laysRow_1 : decode cX12_laysRow 1 = .ok (.iconst 0, 1) := by decide +kernel
theorem dX12_laysRow_2 : decode cX12_laysRow 2 = .ok (.putfield 338, 3) := by decide +kernel
theorem dX12_laysRow_5 : decode cX12_laysRow 5 = .ok (.iconst 0, 1) := by decide +kernel
theorem dX12_laysRow_6 : decode cX12_laysRow 6 = .ok (.istore_n 2, 1) := by decide +kernel
theorem dX12_laysRow_7 : decode cX12_laysRow 7 = .ok (.iload_n 2, 1) := by decide +kernel
theorem dX12_laysRow_8 : decode cX12_laysRow 8 = .ok (.aload_n 0, 1) := by decide +kernel
theorem dX12_laysRow_9 : decode cX12_laysRow 9 = .ok (.getfield 141, 3) := by decide +kernel
theorem dX12_laysRow_12 : decode cX12_laysRow 12 = .ok (.if_icmp .ge 119, 3) := by decide +kernel
theorem dX12_laysRow_15 : decode cX12_laysRow 15 = .ok (.aload_n 0, 1) := by decide +kernel
theorem dX12_laysRow_16 : decode cX12_laysRow 16 = .ok (.getfield 69, 3) := by decide +kernel
theorem dX12_laysRow_19 : decode cX12_laysRow 19 = .ok (.iload_n 2, 1) := by decide +kernel
theorem dX12_laysRow_20 : decode cX12_laysRow 20 = .ok (.iconst 3, 1) := by decide +kernel
theorem dX12_laysRow_21 : decode cX12_laysRow 21 = .ok (.iastore, 1) := by decide +kernel
theorem dX12_laysRow_22 : decode cX12_laysRow 22 = .ok (.aload_n 0, 1) := by decide +kernel
theorem dX12_laysRow_23 : decode cX12_laysRow 23 = .ok (.iload_n 2, 1) := by decide +kernel
theorem dX12_laysRow_24 : decode cX12_laysRow 24 = .ok (.iload_n 1, 1) := by decide +kernel
theorem dX12_laysRow_25 : decode cX12_laysRow 25 = .ok (.invokevirtual 341, 3) := by decide +kernel
theorem dX12_laysRow_28 : decode cX12_laysRow 28 = .ok (.ifCond .eq 97, 3) := by decide +kernel
theorem dX12_laysRow_31 : decode cX12_laysRow 31 = .ok (.iload_n 2, 1) := by decide +kernel
theorem dX12_laysRow_32 : decode cX12_laysRow 32 = .ok (.aload_n 0, 1) := by decide +kernel
theorem dX12_laysRow_33 : decode cX12_laysRow 33 = .ok (.getfield 78, 3) := by decide +kernel
theorem dX12_laysRow_36 : decode cX12_laysRow 36 = .ok (.if_icmp .eq 89, 3) := by decide +kernel
theorem dX12_laysRow_39 : decode cX12_laysRow 39 = .ok (.aload_n 0, 1) := by decide +kernel
theorem dX12_laysRow_40 : decode cX12_laysRow 40 = .ok (.getfield 75, 3) := by decide +kernel
theorem dX12_laysRow_43 : decode cX12_laysRow 43 = .ok (.iconst (-1), 1) := by decide +kernel
theorem dX12_laysRow_44 : decode cX12_laysRow 44 = .ok (.if_icmp .eq 19, 3) := by decide +kernel
theorem dX12_laysRow_47 : decode cX12_laysRow 47 = .ok (.aload_n 0, 1) := by decide +kernel
theorem dX12_laysRow_48 : decode cX12_laysRow 48 = .ok (.getfield 16, 3) := by decide +kernel
theorem dX12_laysRow_51 : decode cX12_laysRow 51 = .ok (.iload_n 2, 1) := by decide +kernel
theorem dX12_laysRow_52 : decode cX12_laysRow 52 = .ok (.iaload, 1) := by decide +kernel
theorem dX12_laysRow_53 : decode cX12_laysRow 53 = .ok (.aload_n 0, 1) := by decide +kernel
theorem dX12_laysRow_54 : decode cX12_laysRow 54 = .ok (.getfield 75, 3) := by decide +kernel
theorem dX12_laysRow_57 : decode cX12_laysRow 57 = .ok (.if_icmp .eq 6, 3) := by decide +kernel
theorem dX12_laysRow_60 : decode cX12_laysRow 60 = .ok (.goto 65, 3) := by decide +kernel
theorem dX12_laysRow_63 : decode cX12_laysRow 63 = .ok (.aload_n 0, 1) := by decide +kernel
theorem dX12_laysRow_64 : decode cX12_laysRow 64 = .ok (.getfield 338, 3) := by decide +kernel
theorem dX12_laysRow_67 : decode cX12_laysRow 67 = .ok (.istore_n 3, 1) := by decide +kernel
theorem dX12_laysRow_68 : decode cX12_laysRow 68 = .ok (.iload_n 3, 1) := by decide +kernel
theorem dX12_laysRow_69 : decode cX12_laysRow 69 = .ok (.ifCond .le 39, 3) := by decide +kernel
theorem dX12_laysRow_72 : decode cX12_laysRow 72 = .ok (.aload_n 0, 1) := by decide +kernel
theorem dX12_laysRow_73 : decode cX12_laysRow 73 = .ok (.iload_n 2, 1) := by decide +kernel
theorem dX12_laysRow_74 : decode cX12_laysRow 74 = .ok (.aload_n 0, 1) := by decide +kernel
theorem dX12_laysRow_75 : decode cX12_laysRow 75 = .ok (.getfield 72, 3) := by decide +kernel
theorem dX12_laysRow_78 : decode cX12_laysRow 78 = .ok (.iload_n 3, 1) := by decide +kernel
theorem dX12_laysRow_79 : decode cX12_laysRow 79 = .ok (.iconst 1, 1) := by decide +kernel
theorem dX12_laysRow_80 : decode cX12_laysRow 80 = .ok (.isub, 1) := by decide +kernel
theorem dX12_laysRow_81 : decode cX12_laysRow 81 = .ok (.iaload, 1) := by decide +kernel
theorem dX12_laysRow_82 : decode cX12_laysRow 82 = .ok (.invokevirtual 344, 3) := by decide +kernel
theorem dX12_laysRow_85 : decode cX12_laysRow 85 = .ok (.ifCond .eq 23, 3) := by decide +kernel
theorem dX12_laysRow_88 : decode cX12_laysRow 88 = .ok (.aload_n 0, 1) := by decide +kernel
theorem dX12_laysRow_89 : decode cX12_laysRow 89 = .ok (.getfield 72, 3) := by decide +kernel
theorem dX12_laysRow_92 : decode cX12_laysRow 92 = .ok (.iload_n 3, 1) := by decide +kernel
theorem dX12_laysRow_93 : decode cX12_laysRow 93 = .ok (.aload_n 0, 1) := by decide +kernel
theorem dX12_laysRow_94 : decode cX12_laysRow 94 = .ok (.getfield 72, 3) := by decide +kernel
theorem dX12_laysRow_97 : decode cX12_laysRow 97 = .ok (.iload_n 3, 1) := by decide +kernel
theorem dX12_laysRow_98 : decode cX12_laysRow 98 = .ok (.iconst 1, 1) := by decide +kernel
theorem dX12_laysRow_99 : decode cX12_laysRow 99 = .ok (.isub, 1) := by decide +kernel
theorem dX12_laysRow_100 : decode cX12_laysRow 100 = .ok (.iaload, 1) := by decide +kernel
theorem dX12_laysRow_101 : decode cX12_laysRow 101 = .ok (.iastore, 1) := by decide +kernel
theorem dX12_laysRow_102 : decode cX12_laysRow 102 = .ok (.iinc 3 (-1), 3) := by decide +kernel
theorem dX12_laysRow_105 : decode cX12_laysRow 105 = .ok (.goto (-37), 3) := by decide +kernel
theorem dX12_laysRow_108 : decode cX12_laysRow 108 = .ok (.aload_n 0, 1) := by decide +kernel
theorem dX12_laysRow_109 : decode cX12_laysRow 109 = .ok (.getfield 72, 3) := by decide +kernel
theorem dX12_laysRow_112 : decode cX12_laysRow 112 = .ok (.iload_n 3, 1) := by decide +kernel
theorem dX12_laysRow_113 : decode cX12_laysRow 113 = .ok (.iload_n 2, 1) := by decide +kernel
theorem dX12_laysRow_114 : decode cX12_laysRow 114 = .ok (.iastore, 1) := by decide +kernel
theorem dX12_laysRow_115 : decode cX12_laysRow 115 = .ok (.aload_n 0, 1) := by decide +kernel
theorem dX12_laysRow_116 : decode cX12_laysRow 116 = .ok (.dup, 1) := by decide +kernel
theorem dX12_laysRow_117 : decode cX12_laysRow 117 = .ok (.getfield 338, 3) := by decide +kernel
theorem dX12_laysRow_120 : decode cX12_laysRow 120 = .ok (.iconst 1, 1) := by decide +kernel
theorem dX12_laysRow_121 : decode cX12_laysRow 121 = .ok (.iadd, 1) := by decide +kernel
theorem dX12_laysRow_122 : decode cX12_laysRow 122 = .ok (.putfield 338, 3) := by decide +kernel
theorem dX12_laysRow_125 : decode cX12_laysRow 125 = .ok (.iinc 2 1, 3) := by decide +kernel
theorem dX12_laysRow_128 : decode cX12_laysRow 128 = .ok (.goto (-121), 3) := by decide +kernel
theorem dX12_laysRow_131 : decode cX12_laysRow 131 = .ok (.return_, 1) := by decide +kernel
set_option maxHeartbeats 4000000 in
set_option maxRecDepth 100000 in
theorem lp_sX12_laysRow {p : Program} {l : Launch} {e : Env} {R : Room} {s : State} {m : MethodId} {args : Array Value} {below : List Frame} {meth : Method} {c : Code} {Q : State → Prop} {A : Nat → Prop} {cells slots : Nat} {dC : Nat → ClassId} {dI : Nat → Nat → Nat} (h0 : Nat) (mi : Nat → Int32) (mr : Nat → Nat) (km : Nat → ClassId) (fm_verdict : Nat → Int32) (fm_row : Nat → Int32) (fm_struck : Nat → Int32) (fm_reportKnown : Nat → Int32) (fm_reportPlace : Nat → Int32) (fm_reportMonth : Nat → Int32) (fm_reportDay : Nat → Int32) (fm_reportKind : Nat → Int32) (fm_trust : Nat → Int32) (fm_letter : Nat → Int32) (fm_deedMonth : Nat → Int32) (fm_deedDay : Nat → Int32) (fm_deedLong : Nat → Int32) (fm_deedKind : Nat → Int32) (fm_kept : Nat → Int32) (fm_tape : Nat → Int32) (fm_must : Nat → Int32) (fm_least : Nat → Int32) (fm_pin : Nat → Int32) (fm_ways : Nat → Int32) (fm_official : Nat → Int32) (fm_aside : Nat → Int32) (fm_worth : Nat → Int32) (fm_out : Nat → Int32) (p1 : Int32) (gmi_0 : gi (mi 0) 0 24) (gmi_1 : gi (mi 1) 0 5) (gmi_2 : gi (mi 2) 0 5) (gmi_4 : gi (mi 4) 0 1) (gmi_7 : gi (mi 7) 0 6) (gmi_10 : gi (mi 10) 0 24) (gmi_17 : gi (mi 17) 0 8) (gmi_23 : gi (mi 23) 0 300) (gmi_24 : gi (mi 24) 0 1) (gmi_26 : gi (mi 26) 0 1600) (gmi_29 : gi (mi 29) 0 1600) (gmi_30 : gi (mi 30) 0 1600) (gmi_33 : gi (mi 33) 0 1) (gmi_37 : gi (mi 37) 0 1) (gmi_41 : gi (mi 41) 0 24) (gmi_50 : gi (mi 50) 0 1) (gmi_51 : gi (mi 51) 0 1) (gmi_56 : gi (mi 56) 0 80) (gfm_row : ga fm_row 24 0 23) (gfm_struck : ga fm_struck 24 0 1) (gfm_reportKnown : ga fm_reportKnown 24 0 999) (gfm_reportPlace : ga fm_reportPlace 24 0 5) (gfm_reportMonth : ga fm_reportMonth 24 0 23) (gfm_reportDay : ga fm_reportDay 24 0 999) (hx : p.tables.exec = Jvm.exec) (hb : c.code = cX12_laysRow) (hml : c.maxLocals = 4) (hown : s.vm.findClass RX12 = some m.cls) (hts : ∀ w ∈ ((.code yX12_laysRow cX12_laysRow 4 none :: wsGB) : List Cond), w.before args s = true) (hK : va_K (dC, dI) vwCl (MT km) s) (hA : ∀ q : Nat, s.heap.size ≤ q → A q) (hRf : 2 ≤ R.frames) (hRl : 49 ≤ R.locals) (hRc : cells ≤ R.cells) (hRs : slots ≤ R.slots) (kr131 : ∀ (w0_41 : Int32) (z1 : Nat → Int32) (z2 : Nat → Int32) (H : Heap) (locs : List Loc) (ls : Array Slot), gi w0_41 0 24 → ga z2 24 0 23 → va_P (dC, dI) vwCl (MWn h0 mr km (mi 0) (mi 1) (mi 2) (mi 3) (mi 4) (mi 5) (mi 6) (mi 7) (mi 10) (mi 17) (mi 23) (mi 24) (mi 26) (mi 27) (mi 28) (mi 29) (mi 30) (mi 31) (mi 32) (mi 33) (mi 37) w0_41 (mi 42) (mi 43) (mi 44) (mi 45) (mi 47) (mi 48) (mi 49) (mi 50) (mi 51) (mi 54) (mi 56) fm_trust fm_letter fm_reportPlace fm_reportKind fm_struck fm_reportMonth fm_reportDay fm_reportKnown fm_deedMonth fm_deedDay fm_deedLong fm_deedKind fm_kept fm_tape fm_must fm_least fm_pin fm_ways z1 z2 fm_official fm_aside fm_worth fm_out) H → va_D A (MWn h0 mr km (mi 0) (mi 1) (mi 2) (mi 3) (mi 4) (mi 5) (mi 6) (mi 7) (mi 10) (mi 17) (mi 23) (mi 24) (mi 26) (mi 27) (mi 28) (mi 29) (mi 30) (mi 31) (mi 32) (mi 33) (mi 37) w0_41 (mi 42) (mi 43) (mi 44) (mi 45) (mi 47) (mi 48) (mi 49) (mi 50) (mi 51) (mi 54) (mi 56) fm_trust fm_letter fm_reportPlace fm_reportKind fm_struck fm_reportMonth fm_reportDay fm_reportKnown fm_deedMonth fm_deedDay fm_deedLong fm_deedKind fm_kept fm_tape fm_must fm_least fm_pin fm_ways z1 z2 fm_official fm_aside fm_worth fm_out) → va_S A s.heap H locs → lv_has ls 4 [] → W p l e R s m args below meth c H locs cells slots Q (F0 m 131 ls [])) : ∀ z : Nat, (∀ (v2 : Int32) (w0_41 : Int32) (z1 : Nat → Int32) (z2 : Nat → Int32) (H : Heap) (locs : List Loc) (ls : Array Slot), gi v2 0 24 → gi w0_41 0 24 → ga z2 24 0 23 → w0_41.toInt ≤ v2.toInt → 1249 + (-52) * v2.toInt < (z : Int) → va_P (dC, dI) vwCl (MWn h0 mr km (mi 0) (mi 1) (mi 2) (mi 3) (mi 4) (mi 5) (mi 6) (mi 7) (mi 10) (mi 17) (mi 23) (mi 24) (mi 26) (mi 27) (mi 28) (mi 29) (mi 30) (mi 31) (mi 32) (mi 33) (mi 37) w0_41 (mi 42) (mi 43) (mi 44) (mi 45) (mi 47) (mi 48) (mi 49) (mi 50) (mi 51) (mi 54) (mi 56) fm_trust fm_letter fm_reportPlace fm_reportKind fm_struck fm_reportMonth fm_reportDay fm_reportKnown fm_deedMonth fm_deedDay fm_deedLong fm_deedKind fm_kept fm_tape fm_must fm_least fm_pin fm_ways z1 z2 fm_official fm_aside fm_worth fm_out) H → va_D A (MWn h0 mr km (mi 0) (mi 1) (mi 2) (mi 3) (mi 4) (mi 5) (mi 6) (mi 7) (mi 10) (mi 17) (mi 23) (mi 24) (mi 26) (mi 27) (mi 28) (mi 29) (mi 30) (mi 31) (mi 32) (mi 33) (mi 37) w0_41 (mi 42) (mi 43) (mi 44) (mi 45) (mi 47) (mi 48) (mi 49) (mi 50) (mi 51) (mi 54) (mi 56) fm_trust fm_letter fm_reportPlace fm_reportKind fm_struck fm_reportMonth fm_reportDay fm_reportKnown fm_deedMonth fm_deedDay fm_deedLong fm_deedKind fm_kept fm_tape fm_must fm_least fm_pin fm_ways z1 z2 fm_official fm_aside fm_worth fm_out) → va_S A s.heap H locs → lv_has ls 4 [(0, .ref h0), (1, .int p1), (2, .int v2)] → W p l e R s m args below meth c H locs cells slots Q (F0 m 7 ls [])) ∧ (∀ (v2 : Int32) (v3 : Int32) (w0_41 : Int32) (z1 : Nat → Int32) (z2 : Nat → Int32) (H : Heap) (locs : List Loc) (ls : Array Slot), gi v2 0 23 → gi v3 0 23 → gi w0_41 0 24 → ga z2 24 0 23 → w0_41.toInt ≤ v2.toInt → 1198 + (-52) * v2.toInt + 2 * v3.toInt < (z : Int) → va_P (dC, dI) vwCl (MWn h0 mr km (mi 0) (mi 1) (mi 2) (mi 3) (mi 4) (mi 5) (mi 6) (mi 7) (mi 10) (mi 17) (mi 23) (mi 24) (mi 26) (mi 27) (mi 28) (mi 29) (mi 30) (mi 31) (mi 32) (mi 33) (mi 37) w0_41 (mi 42) (mi 43) (mi 44) (mi 45) (mi 47) (mi 48) (mi 49) (mi 50) (mi 51) (mi 54) (mi 56) fm_trust fm_letter fm_reportPlace fm_reportKind fm_struck fm_reportMonth fm_reportDay fm_reportKnown fm_deedMonth fm_deedDay fm_deedLong fm_deedKind fm_kept fm_tape fm_must fm_least fm_pin fm_ways z1 z2 fm_official fm_aside fm_worth fm_out) H → va_D A (MWn h0 mr km (mi 0) (mi 1) (mi 2) (mi 3) (mi 4) (mi 5) (mi 6) (mi 7) (mi 10) (mi 17) (mi 23) (mi 24) (mi 26) (mi 27) (mi 28) (mi 29) (mi 30) (mi 31) (mi 32) (mi 33) (mi 37) w0_41 (mi 42) (mi 43) (mi 44) (mi 45) (mi 47) (mi 48) (mi 49) (mi 50) (mi 51) (mi 54) (mi 56) fm_trust fm_letter fm_reportPlace fm_reportKind fm_struck fm_reportMonth fm_reportDay fm_reportKnown fm_deedMonth fm_deedDay fm_deedLong fm_deedKind fm_kept fm_tape fm_must fm_least fm_pin fm_ways z1 z2 fm_official fm_aside fm_worth fm_out) → va_S A s.heap H locs → lv_has ls 4 [(0, .ref h0), (1, .int p1), (2, .int v2), (3, .int v3)] → W p l e R s m args below meth c H locs cells slots Q (F0 m 68 ls [])) := by
  intro z
  induction z with
  | zero =>
    refine ⟨?_, ?_⟩
    · intro v2 w0_41 z1 z2 H locs ls gv2 gw0_41 gz2 hle_gw0_41_gv2 hmu hP hD hS hl
      exact absurd hmu (by have hv21 := gv2.1; have hv22 := gv2.2; omega)
    · intro v2 v3 w0_41 z1 z2 H locs ls gv2 gv3 gw0_41 gz2 hle_gw0_41_gv2 hmu hP hD hS hl
      exact absurd hmu (by have hv21 := gv2.1; have hv22 := gv2.2; have hv31 := gv3.1; have hv32 := gv3.2; omega)
  | succ z ih =>
    refine ⟨?_, ?_⟩
    · intro v2 w0_41 z1 z2 H locs ls gv2 gw0_41 gz2 hle_gw0_41_gv2 hmu hP hD hS hl
      refine lv_iload_n hx hb dX12_laysRow_7 rfl (lv_at hl 2 rfl) ?_
      refine lv_aload_n hx hb dX12_laysRow_8 rfl (lv_at hl 0 rfl) ?_
      refine va_get (D := (dC, dI)) (ci := 12) (v := .int (mi 10)) (C := RX12) (T := TX12) (N := 57) hx hb hts (fun w h => List.mem_cons_of_mem _ (jnGB_X12 w h)) hown hK hP 0 rfl rfl 10 (by decide) (hts _ (List.mem_cons_of_mem _ mGB_111)) (fun _ h9 => h9) rfl dX12_laysRow_9 ?_
      refine lv_icmp_ge (tgt := 131) hx hb dX12_laysRow_12 (by decide) (fun c_571 => ?_) (fun c_571 => ?_)
      · exact kr131 w0_41 z1 z2 _ _ _ gw0_41 gz2 hP hD hS (lv_sub hl [] rfl)
      · have g_572 : gi v2 0 23 := gi_lt_l (Int32.not_le.mp c_571) gv2 gmi_10 (by decide)
        have g_573 : gi w0_41 0 23 := gi_rel hle_gw0_41_gv2 gw0_41 g_572
        have g_574 : gi (mi 10) 1 24 := gi_lt_r (Int32.not_le.mp c_571) gv2 gmi_10 (by decide)
        refine lv_aload_n hx hb dX12_laysRow_15 rfl (lv_at hl 0 rfl) ?_
        refine va_get (D := (dC, dI)) (ci := 12) (v := .ref (mr 18)) (C := RX12) (T := TX12) (N := 57) hx hb hts (fun w h => List.mem_cons_of_mem _ (jnGB_X12 w h)) hown hK hP 0 rfl rfl 39 (by decide) (hts _ (List.mem_cons_of_mem _ mGB_30)) (fun _ h9 => h9) rfl dX12_laysRow_16 ?_
        refine lv_iload_n hx hb dX12_laysRow_19 rfl (lv_at hl 2 rfl) ?_
        refine lv_iconst (v := 3) hx hb dX12_laysRow_20 (by decide) ?_
        refine va_iast hx hb hK hP hD hS 19 18 rfl rfl (gi_in g_572 (by decide)) dX12_laysRow_21 (fun H locs hP hD hS => ?_)
        have hP : va_P (dC, dI) vwCl (MWn h0 mr km (mi 0) (mi 1) (mi 2) (mi 3) (mi 4) (mi 5) (mi 6) (mi 7) (mi 10) (mi 17) (mi 23) (mi 24) (mi 26) (mi 27) (mi 28) (mi 29) (mi 30) (mi 31) (mi 32) (mi 33) (mi 37) w0_41 (mi 42) (mi 43) (mi 44) (mi 45) (mi 47) (mi 48) (mi 49) (mi 50) (mi 51) (mi 54) (mi 56) fm_trust fm_letter fm_reportPlace fm_reportKind fm_struck fm_reportMonth fm_reportDay fm_reportKnown fm_deedMonth fm_deedDay fm_deedLong fm_deedKind fm_kept fm_tape fm_must fm_least fm_pin fm_ways (upd z1 (v2 : Int32).toNatClampNeg 3) z2 fm_official fm_aside fm_worth fm_out) H := hP
        have hD : va_D A (MWn h0 mr km (mi 0) (mi 1) (mi 2) (mi 3) (mi 4) (mi 5) (mi 6) (mi 7) (mi 10) (mi 17) (mi 23) (mi 24) (mi 26) (mi 27) (mi 28) (mi 29) (mi 30) (mi 31) (mi 32) (mi 33) (mi 37) w0_41 (mi 42) (mi 43) (mi 44) (mi 45) (mi 47) (mi 48) (mi 49) (mi 50) (mi 51) (mi 54) (mi 56) fm_trust fm_letter fm_reportPlace fm_reportKind fm_struck fm_reportMonth fm_reportDay fm_reportKnown fm_deedMonth fm_deedDay fm_deedLong fm_deedKind fm_kept fm_tape fm_must fm_least fm_pin fm_ways (upd z1 (v2 : Int32).toNatClampNeg 3) z2 fm_official fm_aside fm_worth fm_out) := hD
        generalize upd z1 (v2 : Int32).toNatClampNeg 3 = f_575 at hP hD
        refine lv_aload_n hx hb dX12_laysRow_22 rfl (lv_at hl 0 rfl) ?_
        refine lv_iload_n hx hb dX12_laysRow_23 rfl (lv_at hl 2 rfl) ?_
        refine lv_iload_n hx hb dX12_laysRow_24 rfl (lv_at hl 1 rfl) ?_
        refine va_calli (va_runV (As := [.int v2, .int p1]) (rest := []) ⟨hx, hb, hml, hown, hts⟩ (sX12_isKnown l dC dI h0 (upd mi 41 w0_41) mr km fm_struck fm_reportKnown fm_trust fm_letter fm_reportPlace fm_reportKind fm_reportMonth fm_reportDay fm_deedMonth fm_deedDay fm_deedLong fm_deedKind fm_kept fm_tape fm_must fm_least fm_pin fm_ways f_575 z2 fm_official fm_aside fm_worth fm_out v2 p1 gmi_0 gmi_1 gmi_2 gmi_4 gmi_7 (gi_w g_574 (by decide)) gmi_17 gmi_23 gmi_24 gmi_26 gmi_29 gmi_30 gmi_33 gmi_37 (gi_w g_573 (by decide)) gmi_50 gmi_51 gmi_56 gfm_struck gfm_reportKnown g_572) (cwV 2 hts (gz_gV mGB_279 mGB_280 mGB_281 mGB_1 mGB_282 goodGB) rfl rfl rfl (by decide +kernel) ⟨Nat.le_trans (Nat.le_of_ble_eq_true rfl) hRf, Nat.le_trans (Nat.le_of_ble_eq_true rfl) hRl⟩) ⟨bl_R, mw_recv hK hP, fun U hU hW => ⟨rfl, by rw [hU]; exact hP, va_K.moved hW.alike hK⟩⟩ rfl rfl hl.1 rfl (lv_room (Nat.le_of_ble_eq_true rfl)) dX12_laysRow_25 ⟨hRc, hRs⟩) hS (fun q _ h => h.elim) (fun q h => h.elim) (fun r_576 u t H1 locs ht hvm hw hB hz1 hk1 hS => ?_)
        obtain ⟨hw, hE⟩ := hw
        have hP := gz_keep hP hk1
        generalize H1 = H at hP hS ⊢
        have gr_576 : gi r_576 0 1 := hw
        refine lv_if_eq (tgt := 125) hx hb dX12_laysRow_28 (by decide) (fun c_577 => ?_) (fun c_577 => ?_)
        · have g_578 : gi r_576 0 0 := gi_eq c_577 (gi_c 0 0 (by decide))
          obtain ⟨x_579, ex_579⟩ : ∃ y : Int32, y = v2 + 1 := ⟨_, rfl⟩
          have gx_579 : gi x_579 1 24 := gi_add ex_579 g_572 (gi_c 1 1 (by decide)) (by decide)
          refine lv_iinc (v := x_579) (lv' := [(2, .int x_579), (0, .ref h0), (1, .int p1)]) hx hb dX12_laysRow_125 hl (k := 2) rfl (by rw [ex_579]; rfl) (by decide) rfl (fun ls hl => ?_)
          refine lv_goto (tgt := 7) hx hb dX12_laysRow_128 (by decide) ?_
          exact ih.1 x_579 w0_41 f_575 z2 _ _ _ (gi_w gx_579 (by decide)) (gi_w g_573 (by decide)) gz2 (by have qgx_579 := gx_579.1; have rgx_579 := gx_579.2; have igx_579 : x_579.toInt = v2.toInt + 1 := (by have hc1 : (1 : Int32).toInt = 1 := (by decide); have h9 := gi_addI ex_579 (by have h1 := g_572.1; have h2 := (gi_c 1 1 (by decide)).1; have h3 := g_572.2; have h4 := (gi_c 1 1 (by decide)).2; omega) (by have h1 := g_572.1; have h2 := (gi_c 1 1 (by decide)).1; have h3 := g_572.2; have h4 := (gi_c 1 1 (by decide)).2; omega); rw [hc1] at h9; exact h9); have qgv2 := g_572.1; have rgv2 := g_572.2; have qgw0_41 := g_573.1; have rgw0_41 := g_573.2; have y1 := (Int32.lt_iff_toInt_lt.mp (Int32.not_le.mp c_571)); omega) (by have av2 := gv2.1; have bv2 := gv2.2; have qgx_579 := gx_579.1; have rgx_579 := gx_579.2; have igx_579 : x_579.toInt = v2.toInt + 1 := (by have hc1 : (1 : Int32).toInt = 1 := (by decide); have h9 := gi_addI ex_579 (by have h1 := g_572.1; have h2 := (gi_c 1 1 (by decide)).1; have h3 := g_572.2; have h4 := (gi_c 1 1 (by decide)).2; omega) (by have h1 := g_572.1; have h2 := (gi_c 1 1 (by decide)).1; have h3 := g_572.2; have h4 := (gi_c 1 1 (by decide)).2; omega); rw [hc1] at h9; exact h9); have qgv2 := g_572.1; have rgv2 := g_572.2; omega) hP hD hS (lv_sub hl [1, 2, 0] rfl)
        · have g_580 : gi r_576 1 1 := gi_ne_lo c_577 gr_576 (gi_c 0 0 (by decide)) (by decide)
          refine lv_iload_n hx hb dX12_laysRow_31 rfl (lv_at hl 2 rfl) ?_
          refine lv_aload_n hx hb dX12_laysRow_32 rfl (lv_at hl 0 rfl) ?_
          refine va_get (D := (dC, dI)) (ci := 12) (v := .int (mi 43)) (C := RX12) (T := TX12) (N := 57) hx hb hts (fun w h => List.mem_cons_of_mem _ (jnGB_X12 w h)) hown hK hP 0 rfl rfl 43 (by decide) (hts _ (List.mem_cons_of_mem _ mGB_33)) (fun _ h9 => h9) rfl dX12_laysRow_33 ?_
          refine lv_icmp_eq (tgt := 125) hx hb dX12_laysRow_36 (by decide) (fun c_581 => ?_) (fun c_581 => ?_)
          · have g_582 : gi (mi 43) 0 23 := gi_eq c_581.symm g_572
            obtain ⟨x_583, ex_583⟩ : ∃ y : Int32, y = v2 + 1 := ⟨_, rfl⟩
            have gx_583 : gi x_583 1 24 := gi_add ex_583 g_572 (gi_c 1 1 (by decide)) (by decide)
            refine lv_iinc (v := x_583) (lv' := [(2, .int x_583), (0, .ref h0), (1, .int p1)]) hx hb dX12_laysRow_125 hl (k := 2) rfl (by rw [ex_583]; rfl) (by decide) rfl (fun ls hl => ?_)
            refine lv_goto (tgt := 7) hx hb dX12_laysRow_128 (by decide) ?_
            exact ih.1 x_583 w0_41 f_575 z2 _ _ _ (gi_w gx_583 (by decide)) (gi_w g_573 (by decide)) gz2 (by have qgx_583 := gx_583.1; have rgx_583 := gx_583.2; have igx_583 : x_583.toInt = v2.toInt + 1 := (by have hc1 : (1 : Int32).toInt = 1 := (by decide); have h9 := gi_addI ex_583 (by have h1 := g_572.1; have h2 := (gi_c 1 1 (by decide)).1; have h3 := g_572.2; have h4 := (gi_c 1 1 (by decide)).2; omega) (by have h1 := g_572.1; have h2 := (gi_c 1 1 (by decide)).1; have h3 := g_572.2; have h4 := (gi_c 1 1 (by decide)).2; omega); rw [hc1] at h9; exact h9); have qgv2 := g_572.1; have rgv2 := g_572.2; have qgw0_41 := g_573.1; have rgw0_41 := g_573.2; have y1 := (Int32.lt_iff_toInt_lt.mp (Int32.not_le.mp c_571)); omega) (by have av2 := gv2.1; have bv2 := gv2.2; have qgx_583 := gx_583.1; have rgx_583 := gx_583.2; have igx_583 : x_583.toInt = v2.toInt + 1 := (by have hc1 : (1 : Int32).toInt = 1 := (by decide); have h9 := gi_addI ex_583 (by have h1 := g_572.1; have h2 := (gi_c 1 1 (by decide)).1; have h3 := g_572.2; have h4 := (gi_c 1 1 (by decide)).2; omega) (by have h1 := g_572.1; have h2 := (gi_c 1 1 (by decide)).1; have h3 := g_572.2; have h4 := (gi_c 1 1 (by decide)).2; omega); rw [hc1] at h9; exact h9); have qgv2 := g_572.1; have rgv2 := g_572.2; omega) hP hD hS (lv_sub hl [1, 2, 0] rfl)
          · refine lv_aload_n hx hb dX12_laysRow_39 rfl (lv_at hl 0 rfl) ?_
            refine va_get (D := (dC, dI)) (ci := 12) (v := .int (mi 42)) (C := RX12) (T := TX12) (N := 57) hx hb hts (fun w h => List.mem_cons_of_mem _ (jnGB_X12 w h)) hown hK hP 0 rfl rfl 42 (by decide) (hts _ (List.mem_cons_of_mem _ mGB_32)) (fun _ h9 => h9) rfl dX12_laysRow_40 ?_
            refine lv_iconst (v := (-1)) hx hb dX12_laysRow_43 (by decide) ?_
            refine lv_icmp_eq (tgt := 63) hx hb dX12_laysRow_44 (by decide) (fun c_584 => ?_) (fun c_584 => ?_)
            · have g_585 : gi (mi 42) (-1) (-1) := gi_eq c_584 (gi_c (-1) (-1) (by decide))
              refine lv_aload_n hx hb dX12_laysRow_63 rfl (lv_at hl 0 rfl) ?_
              refine va_get (D := (dC, dI)) (ci := 12) (v := .int w0_41) (C := RX12) (T := TX12) (N := 57) hx hb hts (fun w h => List.mem_cons_of_mem _ (jnGB_X12 w h)) hown hK hP 0 rfl rfl 41 (by decide) (hts _ (List.mem_cons_of_mem _ mGB_265)) (fun _ h9 => h9) rfl dX12_laysRow_64 ?_
              refine lv_istore_n (lv' := [(3, .int w0_41), (0, .ref h0), (1, .int p1), (2, .int v2)]) hx hb dX12_laysRow_67 rfl hl (by decide) rfl (fun ls hl => ?_)
              exact ih.2 v2 w0_41 w0_41 f_575 z2 _ _ _ g_572 g_573 (gi_w g_573 (by decide)) gz2 (by have qgv2 := g_572.1; have rgv2 := g_572.2; have qgw0_41 := g_573.1; have rgw0_41 := g_573.2; have y1 := (Int32.lt_iff_toInt_lt.mp (Int32.not_le.mp c_571)); omega) (by have av2 := gv2.1; have bv2 := gv2.2; have qgw0_41 := g_573.1; have rgw0_41 := g_573.2; have qgv2 := g_572.1; have rgv2 := g_572.2; omega) hP hD hS (lv_sub hl [1, 2, 3, 0] rfl)
            · refine lv_aload_n hx hb dX12_laysRow_47 rfl (lv_at hl 0 rfl) ?_
              refine va_get (D := (dC, dI)) (ci := 12) (v := .ref (mr 2)) (C := RX12) (T := TX12) (N := 57) hx hb hts (fun w h => List.mem_cons_of_mem _ (jnGB_X12 w h)) hown hK hP 0 rfl rfl 11 (by decide) (hts _ (List.mem_cons_of_mem _ mGB_12)) (fun _ h9 => h9) rfl dX12_laysRow_48 ?_
              refine lv_iload_n hx hb dX12_laysRow_51 rfl (lv_at hl 2 rfl) ?_
              refine va_iald hx hb hK hP 3 2 rfl rfl (gi_in g_572 (by decide)) dX12_laysRow_52 ?_
              refine lv_topi (fun x_586 ex_586 => ?_)
              have gx_586 : gi x_586 0 5 := ga_at gfm_reportPlace (gi_in g_572 (by decide)) ex_586
              refine lv_aload_n hx hb dX12_laysRow_53 rfl (lv_at hl 0 rfl) ?_
              refine va_get (D := (dC, dI)) (ci := 12) (v := .int (mi 42)) (C := RX12) (T := TX12) (N := 57) hx hb hts (fun w h => List.mem_cons_of_mem _ (jnGB_X12 w h)) hown hK hP 0 rfl rfl 42 (by decide) (hts _ (List.mem_cons_of_mem _ mGB_32)) (fun _ h9 => h9) rfl dX12_laysRow_54 ?_
              refine lv_icmp_eq (tgt := 63) hx hb dX12_laysRow_57 (by decide) (fun c_587 => ?_) (fun c_587 => ?_)
              · have g_588 : gi (mi 42) 0 5 := gi_eq c_587.symm gx_586
                refine lv_aload_n hx hb dX12_laysRow_63 rfl (lv_at hl 0 rfl) ?_
                refine va_get (D := (dC, dI)) (ci := 12) (v := .int w0_41) (C := RX12) (T := TX12) (N := 57) hx hb hts (fun w h => List.mem_cons_of_mem _ (jnGB_X12 w h)) hown hK hP 0 rfl rfl 41 (by decide) (hts _ (List.mem_cons_of_mem _ mGB_265)) (fun _ h9 => h9) rfl dX12_laysRow_64 ?_
                refine lv_istore_n (lv' := [(3, .int w0_41), (0, .ref h0), (1, .int p1), (2, .int v2)]) hx hb dX12_laysRow_67 rfl hl (by decide) rfl (fun ls hl => ?_)
                exact ih.2 v2 w0_41 w0_41 f_575 z2 _ _ _ g_572 g_573 (gi_w g_573 (by decide)) gz2 (by have qgv2 := g_572.1; have rgv2 := g_572.2; have qgw0_41 := g_573.1; have rgw0_41 := g_573.2; have y1 := (Int32.lt_iff_toInt_lt.mp (Int32.not_le.mp c_571)); omega) (by have av2 := gv2.1; have bv2 := gv2.2; have qgw0_41 := g_573.1; have rgw0_41 := g_573.2; have qgv2 := g_572.1; have rgv2 := g_572.2; omega) hP hD hS (lv_sub hl [1, 2, 3, 0] rfl)
              · refine lv_goto (tgt := 125) hx hb dX12_laysRow_60 (by decide) ?_
                obtain ⟨x_589, ex_589⟩ : ∃ y : Int32, y = v2 + 1 := ⟨_, rfl⟩
                have gx_589 : gi x_589 1 24 := gi_add ex_589 g_572 (gi_c 1 1 (by decide)) (by decide)
                refine lv_iinc (v := x_589) (lv' := [(2, .int x_589), (0, .ref h0), (1, .int p1)]) hx hb dX12_laysRow_125 hl (k := 2) rfl (by rw [ex_589]; rfl) (by decide) rfl (fun ls hl => ?_)
                refine lv_goto (tgt := 7) hx hb dX12_laysRow_128 (by decide) ?_
                exact ih.1 x_589 w0_41 f_575 z2 _ _ _ (gi_w gx_589 (by decide)) (gi_w g_573 (by decide)) gz2 (by have qgx_589 := gx_589.1; have rgx_589 := gx_589.2; have igx_589 : x_589.toInt = v2.toInt + 1 := (by have hc1 : (1 : Int32).toInt = 1 := (by decide); have h9 := gi_addI ex_589 (by have h1 := g_572.1; have h2 := (gi_c 1 1 (by decide)).1; have h3 := g_572.2; have h4 := (gi_c 1 1 (by decide)).2; omega) (by have h1 := g_572.1; have h2 := (gi_c 1 1 (by decide)).1; have h3 := g_572.2; have h4 := (gi_c 1 1 (by decide)).2; omega); rw [hc1] at h9; exact h9); have qgv2 := g_572.1; have rgv2 := g_572.2; have qgw0_41 := g_573.1; have rgw0_41 := g_573.2; have y1 := (Int32.lt_iff_toInt_lt.mp (Int32.not_le.mp c_571)); omega) (by have av2 := gv2.1; have bv2 := gv2.2; have qgx_589 := gx_589.1; have rgx_589 := gx_589.2; have igx_589 : x_589.toInt = v2.toInt + 1 := (by have hc1 : (1 : Int32).toInt = 1 := (by decide); have h9 := gi_addI ex_589 (by have h1 := g_572.1; have h2 := (gi_c 1 1 (by decide)).1; have h3 := g_572.2; have h4 := (gi_c 1 1 (by decide)).2; omega) (by have h1 := g_572.1; have h2 := (gi_c 1 1 (by decide)).1; have h3 := g_572.2; have h4 := (gi_c 1 1 (by decide)).2; omega); rw [hc1] at h9; exact h9); have qgv2 := g_572.1; have rgv2 := g_572.2; omega) hP hD hS (lv_sub hl [1, 2, 0] rfl)
    · intro v2 v3 w0_41 z1 z2 H locs ls gv2 gv3 gw0_41 gz2 hle_gw0_41_gv2 hmu hP hD hS hl
      have g_590 : gi w0_41 0 23 := gi_rel hle_gw0_41_gv2 gw0_41 gv2
      refine lv_iload_n hx hb dX12_laysRow_68 rfl (lv_at hl 3 rfl) ?_
      refine lv_if_le (tgt := 108) hx hb dX12_laysRow_69 (by decide) (fun c_591 => ?_) (fun c_591 => ?_)
      · have g_592 : gi v3 0 0 := gi_le_l c_591 gv3 (gi_c 0 0 (by decide))
        refine lv_aload_n hx hb dX12_laysRow_108 rfl (lv_at hl 0 rfl) ?_
        refine va_get (D := (dC, dI)) (ci := 12) (v := .ref (mr 19)) (C := RX12) (T := TX12) (N := 57) hx hb hts (fun w h => List.mem_cons_of_mem _ (jnGB_X12 w h)) hown hK hP 0 rfl rfl 40 (by decide) (hts _ (List.mem_cons_of_mem _ mGB_31)) (fun _ h9 => h9) rfl dX12_laysRow_109 ?_
        refine lv_iload_n hx hb dX12_laysRow_112 rfl (lv_at hl 3 rfl) ?_
        refine lv_iload_n hx hb dX12_laysRow_113 rfl (lv_at hl 2 rfl) ?_
        refine va_iast hx hb hK hP hD hS 20 19 rfl rfl (gi_in g_592 (by decide)) dX12_laysRow_114 (fun H locs hP hD hS => ?_)
        have hP : va_P (dC, dI) vwCl (MWn h0 mr km (mi 0) (mi 1) (mi 2) (mi 3) (mi 4) (mi 5) (mi 6) (mi 7) (mi 10) (mi 17) (mi 23) (mi 24) (mi 26) (mi 27) (mi 28) (mi 29) (mi 30) (mi 31) (mi 32) (mi 33) (mi 37) w0_41 (mi 42) (mi 43) (mi 44) (mi 45) (mi 47) (mi 48) (mi 49) (mi 50) (mi 51) (mi 54) (mi 56) fm_trust fm_letter fm_reportPlace fm_reportKind fm_struck fm_reportMonth fm_reportDay fm_reportKnown fm_deedMonth fm_deedDay fm_deedLong fm_deedKind fm_kept fm_tape fm_must fm_least fm_pin fm_ways z1 (upd z2 (v3 : Int32).toNatClampNeg v2) fm_official fm_aside fm_worth fm_out) H := hP
        have hD : va_D A (MWn h0 mr km (mi 0) (mi 1) (mi 2) (mi 3) (mi 4) (mi 5) (mi 6) (mi 7) (mi 10) (mi 17) (mi 23) (mi 24) (mi 26) (mi 27) (mi 28) (mi 29) (mi 30) (mi 31) (mi 32) (mi 33) (mi 37) w0_41 (mi 42) (mi 43) (mi 44) (mi 45) (mi 47) (mi 48) (mi 49) (mi 50) (mi 51) (mi 54) (mi 56) fm_trust fm_letter fm_reportPlace fm_reportKind fm_struck fm_reportMonth fm_reportDay fm_reportKnown fm_deedMonth fm_deedDay fm_deedLong fm_deedKind fm_kept fm_tape fm_must fm_least fm_pin fm_ways z1 (upd z2 (v3 : Int32).toNatClampNeg v2) fm_official fm_aside fm_worth fm_out) := hD
        have gf_593 : ga (upd z2 (v3 : Int32).toNatClampNeg v2) 24 0 23 := ga_upd gz2 gv2
        generalize upd z2 (v3 : Int32).toNatClampNeg v2 = f_593 at hP hD gf_593
        refine lv_aload_n hx hb dX12_laysRow_115 rfl (lv_at hl 0 rfl) ?_
        refine lv_dup hx hb dX12_laysRow_116 rfl ?_
        refine va_get (D := (dC, dI)) (ci := 12) (v := .int w0_41) (C := RX12) (T := TX12) (N := 57) hx hb hts (fun w h => List.mem_cons_of_mem _ (jnGB_X12 w h)) hown hK hP 0 rfl rfl 41 (by decide) (hts _ (List.mem_cons_of_mem _ mGB_265)) (fun _ h9 => h9) rfl dX12_laysRow_117 ?_
        refine lv_iconst (v := 1) hx hb dX12_laysRow_120 (by decide) ?_
        refine lv_iadd hx hb dX12_laysRow_121 ?_
        refine lv_topi (fun x_594 ex_594 => ?_)
        have gx_594 : gi x_594 1 24 := gi_add ex_594 g_590 (gi_c 1 1 (by decide)) (by decide)
        refine va_put (D := (dC, dI)) (ci := 12) (v := .int x_594) (ty := .int) (C := RX12) (T := TX12) (N := 57) hx hb hts (fun w h => List.mem_cons_of_mem _ (jnGB_X12 w h)) tyX12 tyX12_ok nmX12 hown hK hP hD hS 0 rfl rfl 41 (by decide) (hts _ (List.mem_cons_of_mem _ mGB_265)) (fun _ h9 => h9) rfl (by decide +kernel) rfl rfl (Nat.le_of_ble_eq_true rfl) dX12_laysRow_122 (fun H locs hP hD hS => ?_)
        have hP : va_P (dC, dI) vwCl (MWn h0 mr km (mi 0) (mi 1) (mi 2) (mi 3) (mi 4) (mi 5) (mi 6) (mi 7) (mi 10) (mi 17) (mi 23) (mi 24) (mi 26) (mi 27) (mi 28) (mi 29) (mi 30) (mi 31) (mi 32) (mi 33) (mi 37) x_594 (mi 42) (mi 43) (mi 44) (mi 45) (mi 47) (mi 48) (mi 49) (mi 50) (mi 51) (mi 54) (mi 56) fm_trust fm_letter fm_reportPlace fm_reportKind fm_struck fm_reportMonth fm_reportDay fm_reportKnown fm_deedMonth fm_deedDay fm_deedLong fm_deedKind fm_kept fm_tape fm_must fm_least fm_pin fm_ways z1 f_593 fm_official fm_aside fm_worth fm_out) H := hP
        have hD : va_D A (MWn h0 mr km (mi 0) (mi 1) (mi 2) (mi 3) (mi 4) (mi 5) (mi 6) (mi 7) (mi 10) (mi 17) (mi 23) (mi 24) (mi 26) (mi 27) (mi 28) (mi 29) (mi 30) (mi 31) (mi 32) (mi 33) (mi 37) x_594 (mi 42) (mi 43) (mi 44) (mi 45) (mi 47) (mi 48) (mi 49) (mi 50) (mi 51) (mi 54) (mi 56) fm_trust fm_letter fm_reportPlace fm_reportKind fm_struck fm_reportMonth fm_reportDay fm_reportKnown fm_deedMonth fm_deedDay fm_deedLong fm_deedKind fm_kept fm_tape fm_must fm_least fm_pin fm_ways z1 f_593 fm_official fm_aside fm_worth fm_out) := hD
        obtain ⟨x_595, ex_595⟩ : ∃ y : Int32, y = v2 + 1 := ⟨_, rfl⟩
        have gx_595 : gi x_595 1 24 := gi_add ex_595 gv2 (gi_c 1 1 (by decide)) (by decide)
        refine lv_iinc (v := x_595) (lv' := [(2, .int x_595), (0, .ref h0), (1, .int p1), (3, .int v3)]) hx hb dX12_laysRow_125 hl (k := 2) rfl (by rw [ex_595]; rfl) (by decide) rfl (fun ls hl => ?_)
        refine lv_goto (tgt := 7) hx hb dX12_laysRow_128 (by decide) ?_
        exact ih.1 x_595 x_594 z1 f_593 _ _ _ (gi_w gx_595 (by decide)) (gi_w gx_594 (by decide)) gf_593 (by have qgx_595 := gx_595.1; have rgx_595 := gx_595.2; have igx_595 : x_595.toInt = v2.toInt + 1 := (by have hc1 : (1 : Int32).toInt = 1 := (by decide); have h9 := gi_addI ex_595 (by have h1 := gv2.1; have h2 := (gi_c 1 1 (by decide)).1; have h3 := gv2.2; have h4 := (gi_c 1 1 (by decide)).2; omega) (by have h1 := gv2.1; have h2 := (gi_c 1 1 (by decide)).1; have h3 := gv2.2; have h4 := (gi_c 1 1 (by decide)).2; omega); rw [hc1] at h9; exact h9); have qgv2 := gv2.1; have rgv2 := gv2.2; have qgx_594 := gx_594.1; have rgx_594 := gx_594.2; have igx_594 : x_594.toInt = w0_41.toInt + 1 := (by have hc1 : (1 : Int32).toInt = 1 := (by decide); have h9 := gi_addI ex_594 (by have h1 := g_590.1; have h2 := (gi_c 1 1 (by decide)).1; have h3 := g_590.2; have h4 := (gi_c 1 1 (by decide)).2; omega) (by have h1 := g_590.1; have h2 := (gi_c 1 1 (by decide)).1; have h3 := g_590.2; have h4 := (gi_c 1 1 (by decide)).2; omega); rw [hc1] at h9; exact h9); have qgw0_41 := g_590.1; have rgw0_41 := g_590.2; omega) (by have av2 := gv2.1; have bv2 := gv2.2; have av3 := gv3.1; have bv3 := gv3.2; have qgx_595 := gx_595.1; have rgx_595 := gx_595.2; have igx_595 : x_595.toInt = v2.toInt + 1 := (by have hc1 : (1 : Int32).toInt = 1 := (by decide); have h9 := gi_addI ex_595 (by have h1 := gv2.1; have h2 := (gi_c 1 1 (by decide)).1; have h3 := gv2.2; have h4 := (gi_c 1 1 (by decide)).2; omega) (by have h1 := gv2.1; have h2 := (gi_c 1 1 (by decide)).1; have h3 := gv2.2; have h4 := (gi_c 1 1 (by decide)).2; omega); rw [hc1] at h9; exact h9); have qgv2 := gv2.1; have rgv2 := gv2.2; omega) hP hD hS (lv_sub hl [1, 2, 0] rfl)
      · have g_596 : gi v3 1 23 := gi_lt_r (Int32.not_le.mp c_591) (gi_c 0 0 (by decide)) gv3 (by decide)
        refine lv_aload_n hx hb dX12_laysRow_72 rfl (lv_at hl 0 rfl) ?_
        refine lv_iload_n hx hb dX12_laysRow_73 rfl (lv_at hl 2 rfl) ?_
        refine lv_aload_n hx hb dX12_laysRow_74 rfl (lv_at hl 0 rfl) ?_
        refine va_get (D := (dC, dI)) (ci := 12) (v := .ref (mr 19)) (C := RX12) (T := TX12) (N := 57) hx hb hts (fun w h => List.mem_cons_of_mem _ (jnGB_X12 w h)) hown hK hP 0 rfl rfl 40 (by decide) (hts _ (List.mem_cons_of_mem _ mGB_31)) (fun _ h9 => h9) rfl dX12_laysRow_75 ?_
        refine lv_iload_n hx hb dX12_laysRow_78 rfl (lv_at hl 3 rfl) ?_
        refine lv_iconst (v := 1) hx hb dX12_laysRow_79 (by decide) ?_
        refine lv_isub hx hb dX12_laysRow_80 ?_
        refine lv_topi (fun x_597 ex_597 => ?_)
        have gx_597 : gi x_597 0 22 := gi_sub ex_597 g_596 (gi_c 1 1 (by decide)) (by decide)
        refine va_iald hx hb hK hP 20 19 rfl rfl (gi_in gx_597 (by decide)) dX12_laysRow_81 ?_
        refine lv_topi (fun x_598 ex_598 => ?_)
        have gx_598 : gi x_598 0 23 := ga_at gz2 (gi_in gx_597 (by decide)) ex_598
        refine va_calli (va_runV (As := [.int v2, .int x_598]) (rest := []) ⟨hx, hb, hml, hown, hts⟩ (sX12_isAhead l dC dI h0 (upd mi 41 w0_41) mr km fm_reportPlace fm_reportMonth fm_reportDay fm_reportKind fm_trust fm_letter fm_struck fm_reportKnown fm_deedMonth fm_deedDay fm_deedLong fm_deedKind fm_kept fm_tape fm_must fm_least fm_pin fm_ways z1 z2 fm_official fm_aside fm_worth fm_out v2 x_598 gmi_0 gmi_1 gmi_2 gmi_4 gmi_7 gmi_10 gmi_17 gmi_23 gmi_24 gmi_26 gmi_29 gmi_30 gmi_33 gmi_37 (gi_w g_590 (by decide)) gmi_50 gmi_51 gmi_56 gfm_reportPlace gfm_reportMonth gfm_reportDay gv2 gx_598) (cwV 2 hts (gz_gV mGB_283 mGB_284 mGB_285 mGB_1 mGB_286 goodGB) rfl rfl rfl (by decide +kernel) ⟨Nat.le_trans (Nat.le_of_ble_eq_true rfl) hRf, Nat.le_trans (Nat.le_of_ble_eq_true rfl) hRl⟩) ⟨bl_R, mw_recv hK hP, fun U hU hW => ⟨rfl, by rw [hU]; exact hP, va_K.moved hW.alike hK⟩⟩ rfl rfl hl.1 rfl (lv_room (Nat.le_of_ble_eq_true rfl)) dX12_laysRow_82 ⟨hRc, hRs⟩) hS (fun q _ h => h.elim) (fun q h => h.elim) (fun r_599 u t H1 locs ht hvm hw hB hz1 hk1 hS => ?_)
        have hP := gz_keep hP hk1
        generalize H1 = H at hP hS ⊢
        have gr_599 : gi r_599 0 1 := hw
        refine lv_if_eq (tgt := 108) hx hb dX12_laysRow_85 (by decide) (fun c_600 => ?_) (fun c_600 => ?_)
        · have g_601 : gi r_599 0 0 := gi_eq c_600 (gi_c 0 0 (by decide))
          refine lv_aload_n hx hb dX12_laysRow_108 rfl (lv_at hl 0 rfl) ?_
          refine va_get (D := (dC, dI)) (ci := 12) (v := .ref (mr 19)) (C := RX12) (T := TX12) (N := 57) hx hb hts (fun w h => List.mem_cons_of_mem _ (jnGB_X12 w h)) hown hK hP 0 rfl rfl 40 (by decide) (hts _ (List.mem_cons_of_mem _ mGB_31)) (fun _ h9 => h9) rfl dX12_laysRow_109 ?_
          refine lv_iload_n hx hb dX12_laysRow_112 rfl (lv_at hl 3 rfl) ?_
          refine lv_iload_n hx hb dX12_laysRow_113 rfl (lv_at hl 2 rfl) ?_
          refine va_iast hx hb hK hP hD hS 20 19 rfl rfl (gi_in g_596 (by decide)) dX12_laysRow_114 (fun H locs hP hD hS => ?_)
          have hP : va_P (dC, dI) vwCl (MWn h0 mr km (mi 0) (mi 1) (mi 2) (mi 3) (mi 4) (mi 5) (mi 6) (mi 7) (mi 10) (mi 17) (mi 23) (mi 24) (mi 26) (mi 27) (mi 28) (mi 29) (mi 30) (mi 31) (mi 32) (mi 33) (mi 37) w0_41 (mi 42) (mi 43) (mi 44) (mi 45) (mi 47) (mi 48) (mi 49) (mi 50) (mi 51) (mi 54) (mi 56) fm_trust fm_letter fm_reportPlace fm_reportKind fm_struck fm_reportMonth fm_reportDay fm_reportKnown fm_deedMonth fm_deedDay fm_deedLong fm_deedKind fm_kept fm_tape fm_must fm_least fm_pin fm_ways z1 (upd z2 (v3 : Int32).toNatClampNeg v2) fm_official fm_aside fm_worth fm_out) H := hP
          have hD : va_D A (MWn h0 mr km (mi 0) (mi 1) (mi 2) (mi 3) (mi 4) (mi 5) (mi 6) (mi 7) (mi 10) (mi 17) (mi 23) (mi 24) (mi 26) (mi 27) (mi 28) (mi 29) (mi 30) (mi 31) (mi 32) (mi 33) (mi 37) w0_41 (mi 42) (mi 43) (mi 44) (mi 45) (mi 47) (mi 48) (mi 49) (mi 50) (mi 51) (mi 54) (mi 56) fm_trust fm_letter fm_reportPlace fm_reportKind fm_struck fm_reportMonth fm_reportDay fm_reportKnown fm_deedMonth fm_deedDay fm_deedLong fm_deedKind fm_kept fm_tape fm_must fm_least fm_pin fm_ways z1 (upd z2 (v3 : Int32).toNatClampNeg v2) fm_official fm_aside fm_worth fm_out) := hD
          have gf_602 : ga (upd z2 (v3 : Int32).toNatClampNeg v2) 24 0 23 := ga_upd gz2 gv2
          generalize upd z2 (v3 : Int32).toNatClampNeg v2 = f_602 at hP hD gf_602
          refine lv_aload_n hx hb dX12_laysRow_115 rfl (lv_at hl 0 rfl) ?_
          refine lv_dup hx hb dX12_laysRow_116 rfl ?_
          refine va_get (D := (dC, dI)) (ci := 12) (v := .int w0_41) (C := RX12) (T := TX12) (N := 57) hx hb hts (fun w h => List.mem_cons_of_mem _ (jnGB_X12 w h)) hown hK hP 0 rfl rfl 41 (by decide) (hts _ (List.mem_cons_of_mem _ mGB_265)) (fun _ h9 => h9) rfl dX12_laysRow_117 ?_
          refine lv_iconst (v := 1) hx hb dX12_laysRow_120 (by decide) ?_
          refine lv_iadd hx hb dX12_laysRow_121 ?_
          refine lv_topi (fun x_603 ex_603 => ?_)
          have gx_603 : gi x_603 1 24 := gi_add ex_603 g_590 (gi_c 1 1 (by decide)) (by decide)
          refine va_put (D := (dC, dI)) (ci := 12) (v := .int x_603) (ty := .int) (C := RX12) (T := TX12) (N := 57) hx hb hts (fun w h => List.mem_cons_of_mem _ (jnGB_X12 w h)) tyX12 tyX12_ok nmX12 hown hK hP hD hS 0 rfl rfl 41 (by decide) (hts _ (List.mem_cons_of_mem _ mGB_265)) (fun _ h9 => h9) rfl (by decide +kernel) rfl rfl (Nat.le_of_ble_eq_true rfl) dX12_laysRow_122 (fun H locs hP hD hS => ?_)
          have hP : va_P (dC, dI) vwCl (MWn h0 mr km (mi 0) (mi 1) (mi 2) (mi 3) (mi 4) (mi 5) (mi 6) (mi 7) (mi 10) (mi 17) (mi 23) (mi 24) (mi 26) (mi 27) (mi 28) (mi 29) (mi 30) (mi 31) (mi 32) (mi 33) (mi 37) x_603 (mi 42) (mi 43) (mi 44) (mi 45) (mi 47) (mi 48) (mi 49) (mi 50) (mi 51) (mi 54) (mi 56) fm_trust fm_letter fm_reportPlace fm_reportKind fm_struck fm_reportMonth fm_reportDay fm_reportKnown fm_deedMonth fm_deedDay fm_deedLong fm_deedKind fm_kept fm_tape fm_must fm_least fm_pin fm_ways z1 f_602 fm_official fm_aside fm_worth fm_out) H := hP
          have hD : va_D A (MWn h0 mr km (mi 0) (mi 1) (mi 2) (mi 3) (mi 4) (mi 5) (mi 6) (mi 7) (mi 10) (mi 17) (mi 23) (mi 24) (mi 26) (mi 27) (mi 28) (mi 29) (mi 30) (mi 31) (mi 32) (mi 33) (mi 37) x_603 (mi 42) (mi 43) (mi 44) (mi 45) (mi 47) (mi 48) (mi 49) (mi 50) (mi 51) (mi 54) (mi 56) fm_trust fm_letter fm_reportPlace fm_reportKind fm_struck fm_reportMonth fm_reportDay fm_reportKnown fm_deedMonth fm_deedDay fm_deedLong fm_deedKind fm_kept fm_tape fm_must fm_least fm_pin fm_ways z1 f_602 fm_official fm_aside fm_worth fm_out) := hD
          obtain ⟨x_604, ex_604⟩ : ∃ y : Int32, y = v2 + 1 := ⟨_, rfl⟩
          have gx_604 : gi x_604 1 24 := gi_add ex_604 gv2 (gi_c 1 1 (by decide)) (by decide)
          refine lv_iinc (v := x_604) (lv' := [(2, .int x_604), (0, .ref h0), (1, .int p1), (3, .int v3)]) hx hb dX12_laysRow_125 hl (k := 2) rfl (by rw [ex_604]; rfl) (by decide) rfl (fun ls hl => ?_)
          refine lv_goto (tgt := 7) hx hb dX12_laysRow_128 (by decide) ?_
          exact ih.1 x_604 x_603 z1 f_602 _ _ _ (gi_w gx_604 (by decide)) (gi_w gx_603 (by decide)) gf_602 (by have qgx_604 := gx_604.1; have rgx_604 := gx_604.2; have igx_604 : x_604.toInt = v2.toInt + 1 := (by have hc1 : (1 : Int32).toInt = 1 := (by decide); have h9 := gi_addI ex_604 (by have h1 := gv2.1; have h2 := (gi_c 1 1 (by decide)).1; have h3 := gv2.2; have h4 := (gi_c 1 1 (by decide)).2; omega) (by have h1 := gv2.1; have h2 := (gi_c 1 1 (by decide)).1; have h3 := gv2.2; have h4 := (gi_c 1 1 (by decide)).2; omega); rw [hc1] at h9; exact h9); have qgv2 := gv2.1; have rgv2 := gv2.2; have qgx_603 := gx_603.1; have rgx_603 := gx_603.2; have igx_603 : x_603.toInt = w0_41.toInt + 1 := (by have hc1 : (1 : Int32).toInt = 1 := (by decide); have h9 := gi_addI ex_603 (by have h1 := g_590.1; have h2 := (gi_c 1 1 (by decide)).1; have h3 := g_590.2; have h4 := (gi_c 1 1 (by decide)).2; omega) (by have h1 := g_590.1; have h2 := (gi_c 1 1 (by decide)).1; have h3 := g_590.2; have h4 := (gi_c 1 1 (by decide)).2; omega); rw [hc1] at h9; exact h9); have qgw0_41 := g_590.1; have rgw0_41 := g_590.2; omega) (by have av2 := gv2.1; have bv2 := gv2.2; have av3 := gv3.1; have bv3 := gv3.2; have qgx_604 := gx_604.1; have rgx_604 := gx_604.2; have igx_604 : x_604.toInt = v2.toInt + 1 := (by have hc1 : (1 : Int32).toInt = 1 := (by decide); have h9 := gi_addI ex_604 (by have h1 := gv2.1; have h2 := (gi_c 1 1 (by decide)).1; have h3 := gv2.2; have h4 := (gi_c 1 1 (by decide)).2; omega) (by have h1 := gv2.1; have h2 := (gi_c 1 1 (by decide)).1; have h3 := gv2.2; have h4 := (gi_c 1 1 (by decide)).2; omega); rw [hc1] at h9; exact h9); have qgv2 := gv2.1; have rgv2 := gv2.2; omega) hP hD hS (lv_sub hl [1, 2, 0] rfl)
        · have g_605 : gi r_599 1 1 := gi_ne_lo c_600 gr_599 (gi_c 0 0 (by decide)) (by decide)
          refine lv_aload_n hx hb dX12_laysRow_88 rfl (lv_at hl 0 rfl) ?_
          refine va_get (D := (dC, dI)) (ci := 12) (v := .ref (mr 19)) (C := RX12) (T := TX12) (N := 57) hx hb hts (fun w h => List.mem_cons_of_mem _ (jnGB_X12 w h)) hown hK hP 0 rfl rfl 40 (by decide) (hts _ (List.mem_cons_of_mem _ mGB_31)) (fun _ h9 => h9) rfl dX12_laysRow_89 ?_
          refine lv_iload_n hx hb dX12_laysRow_92 rfl (lv_at hl 3 rfl) ?_
          refine lv_aload_n hx hb dX12_laysRow_93 rfl (lv_at hl 0 rfl) ?_
          refine va_get (D := (dC, dI)) (ci := 12) (v := .ref (mr 19)) (C := RX12) (T := TX12) (N := 57) hx hb hts (fun w h => List.mem_cons_of_mem _ (jnGB_X12 w h)) hown hK hP 0 rfl rfl 40 (by decide) (hts _ (List.mem_cons_of_mem _ mGB_31)) (fun _ h9 => h9) rfl dX12_laysRow_94 ?_
          refine lv_iload_n hx hb dX12_laysRow_97 rfl (lv_at hl 3 rfl) ?_
          refine lv_iconst (v := 1) hx hb dX12_laysRow_98 (by decide) ?_
          refine lv_isub hx hb dX12_laysRow_99 ?_
          refine lv_topi (fun x_606 ex_606 => ?_)
          have gx_606 : gi x_606 0 22 := gi_sub ex_606 g_596 (gi_c 1 1 (by decide)) (by decide)
          refine va_iald hx hb hK hP 20 19 rfl rfl (gi_in gx_606 (by decide)) dX12_laysRow_100 ?_
          refine lv_topi (fun x_607 ex_607 => ?_)
          have gx_607 : gi x_607 0 23 := ga_at gz2 (gi_in gx_606 (by decide)) ex_607
          refine va_iast hx hb hK hP hD hS 20 19 rfl rfl (gi_in g_596 (by decide)) dX12_laysRow_101 (fun H locs hP hD hS => ?_)
          have hP : va_P (dC, dI) vwCl (MWn h0 mr km (mi 0) (mi 1) (mi 2) (mi 3) (mi 4) (mi 5) (mi 6) (mi 7) (mi 10) (mi 17) (mi 23) (mi 24) (mi 26) (mi 27) (mi 28) (mi 29) (mi 30) (mi 31) (mi 32) (mi 33) (mi 37) w0_41 (mi 42) (mi 43) (mi 44) (mi 45) (mi 47) (mi 48) (mi 49) (mi 50) (mi 51) (mi 54) (mi 56) fm_trust fm_letter fm_reportPlace fm_reportKind fm_struck fm_reportMonth fm_reportDay fm_reportKnown fm_deedMonth fm_deedDay fm_deedLong fm_deedKind fm_kept fm_tape fm_must fm_least fm_pin fm_ways z1 (upd z2 (v3 : Int32).toNatClampNeg x_607) fm_official fm_aside fm_worth fm_out) H := hP
          have hD : va_D A (MWn h0 mr km (mi 0) (mi 1) (mi 2) (mi 3) (mi 4) (mi 5) (mi 6) (mi 7) (mi 10) (mi 17) (mi 23) (mi 24) (mi 26) (mi 27) (mi 28) (mi 29) (mi 30) (mi 31) (mi 32) (mi 33) (mi 37) w0_41 (mi 42) (mi 43) (mi 44) (mi 45) (mi 47) (mi 48) (mi 49) (mi 50) (mi 51) (mi 54) (mi 56) fm_trust fm_letter fm_reportPlace fm_reportKind fm_struck fm_reportMonth fm_reportDay fm_reportKnown fm_deedMonth fm_deedDay fm_deedLong fm_deedKind fm_kept fm_tape fm_must fm_least fm_pin fm_ways z1 (upd z2 (v3 : Int32).toNatClampNeg x_607) fm_official fm_aside fm_worth fm_out) := hD
          have gf_608 : ga (upd z2 (v3 : Int32).toNatClampNeg x_607) 24 0 23 := ga_upd gz2 gx_607
          generalize upd z2 (v3 : Int32).toNatClampNeg x_607 = f_608 at hP hD gf_608
          obtain ⟨x_609, ex_609⟩ : ∃ y : Int32, y = v3 + (-1) := ⟨_, rfl⟩
          have gx_609 : gi x_609 0 22 := gi_add ex_609 g_596 (gi_c (-1) (-1) (by decide)) (by decide)
          refine lv_iinc (v := x_609) (lv' := [(3, .int x_609), (0, .ref h0), (1, .int p1), (2, .int v2)]) hx hb dX12_laysRow_102 hl (k := 3) rfl (by rw [ex_609]; rfl) (by decide) rfl (fun ls hl => ?_)
          refine lv_goto (tgt := 68) hx hb dX12_laysRow_105 (by decide) ?_
          exact ih.2 v2 x_609 w0_41 z1 f_608 _ _ _ gv2 (gi_w gx_609 (by decide)) (gi_w g_590 (by decide)) gf_608 (by have qgv2 := gv2.1; have rgv2 := gv2.2; have qgw0_41 := g_590.1; have rgw0_41 := g_590.2; omega) (by have av2 := gv2.1; have bv2 := gv2.2; have av3 := gv3.1; have bv3 := gv3.2; have qgx_609 := gx_609.1; have rgx_609 := gx_609.2; have igx_609 : x_609.toInt = v3.toInt + (-1) := (by have hcm1 : ((-1) : Int32).toInt = (-1) := (by decide); have h9 := gi_addI ex_609 (by have h1 := g_596.1; have h2 := (gi_c (-1) (-1) (by decide)).1; have h3 := g_596.2; have h4 := (gi_c (-1) (-1) (by decide)).2; omega) (by have h1 := g_596.1; have h2 := (gi_c (-1) (-1) (by decide)).1; have h3 := g_596.2; have h4 := (gi_c (-1) (-1) (by decide)).2; omega); rw [hcm1] at h9; exact h9); have qgv3 := g_596.1; have rgv3 := g_596.2; have qgv2 := gv2.1; have rgv2 := gv2.2; omega) hP hD hS (lv_sub hl [1, 2, 3, 0] rfl)
abbrev pb_sX12_laysRow (dC : Nat → ClassId) (dI : Nat → Nat → Nat) (A9 : Nat → Prop) (h0 : Nat) (mi : Nat → Int32) (mr : Nat → Nat) (km : Nat → ClassId) (fm_verdict : Nat → Int32) (fm_row : Nat → Int32) (fm_struck : Nat → Int32) (fm_reportKnown : Nat → Int32) (fm_reportPlace : Nat → Int32) (fm_reportMonth : Nat → Int32) (fm_reportDay : Nat → Int32) (fm_reportKind : Nat → Int32) (fm_trust : Nat → Int32) (fm_letter : Nat → Int32) (fm_deedMonth : Nat → Int32) (fm_deedDay : Nat → Int32) (fm_deedLong : Nat → Int32) (fm_deedKind : Nat → Int32) (fm_kept : Nat → Int32) (fm_tape : Nat → Int32) (fm_must : Nat → Int32) (fm_least : Nat → Int32) (fm_pin : Nat → Int32) (fm_ways : Nat → Int32) (fm_official : Nat → Int32) (fm_aside : Nat → Int32) (fm_worth : Nat → Int32) (fm_out : Nat → Int32) (p1 : Int32) (w0_41 : Int32) (z1 : Nat → Int32) (z2 : Nat → Int32) (t : State) : Prop := gi w0_41 0 24 ∧ ga z2 24 0 23 ∧ va_P (dC, dI) vwCl (MWn h0 mr km (mi 0) (mi 1) (mi 2) (mi 3) (mi 4) (mi 5) (mi 6) (mi 7) (mi 10) (mi 17) (mi 23) (mi 24) (mi 26) (mi 27) (mi 28) (mi 29) (mi 30) (mi 31) (mi 32) (mi 33) (mi 37) w0_41 (mi 42) (mi 43) (mi 44) (mi 45) (mi 47) (mi 48) (mi 49) (mi 50) (mi 51) (mi 54) (mi 56) fm_trust fm_letter fm_reportPlace fm_reportKind fm_struck fm_reportMonth fm_reportDay fm_reportKnown fm_deedMonth fm_deedDay fm_deedLong fm_deedKind fm_kept fm_tape fm_must fm_least fm_pin fm_ways z1 z2 fm_official fm_aside fm_worth fm_out) t.heap ∧ va_D A9 (MWn h0 mr km (mi 0) (mi 1) (mi 2) (mi 3) (mi 4) (mi 5) (mi 6) (mi 7) (mi 10) (mi 17) (mi 23) (mi 24) (mi 26) (mi 27) (mi 28) (mi 29) (mi 30) (mi 31) (mi 32) (mi 33) (mi 37) w0_41 (mi 42) (mi 43) (mi 44) (mi 45) (mi 47) (mi 48) (mi 49) (mi 50) (mi 51) (mi 54) (mi 56) fm_trust fm_letter fm_reportPlace fm_reportKind fm_struck fm_reportMonth fm_reportDay fm_reportKnown fm_deedMonth fm_deedDay fm_deedLong fm_deedKind fm_kept fm_tape fm_must fm_least fm_pin fm_ways z1 z2 fm_official fm_aside fm_worth fm_out)
set_option maxHeartbeats 4000000 in
set_option maxRecDepth 100000 in
theorem sX12_laysRow (l : Launch) (dC : Nat → ClassId) (dI : Nat → Nat → Nat) (sz : Nat) (h0 : Nat) (mi : Nat → Int32) (mr : Nat → Nat) (km : Nat → ClassId) (fm_verdict : Nat → Int32) (fm_row : Nat → Int32) (fm_struck : Nat → Int32) (fm_reportKnown : Nat → Int32) (fm_reportPlace : Nat → Int32) (fm_reportMonth : Nat → Int32) (fm_reportDay : Nat → Int32) (fm_reportKind : Nat → Int32) (fm_trust : Nat → Int32) (fm_letter : Nat → Int32) (fm_deedMonth : Nat → Int32) (fm_deedDay : Nat → Int32) (fm_deedLong : Nat → Int32) (fm_deedKind : Nat → Int32) (fm_kept : Nat → Int32) (fm_tape : Nat → Int32) (fm_must : Nat → Int32) (fm_least : Nat → Int32) (fm_pin : Nat → Int32) (fm_ways : Nat → Int32) (fm_official : Nat → Int32) (fm_aside : Nat → Int32) (fm_worth : Nat → Int32) (fm_out : Nat → Int32) (p1 : Int32) (gmi_0 : gi (mi 0) 0 24) (gmi_1 : gi (mi 1) 0 5) (gmi_2 : gi (mi 2) 0 5) (gmi_4 : gi (mi 4) 0 1) (gmi_7 : gi (mi 7) 0 6) (gmi_10 : gi (mi 10) 0 24) (gmi_17 : gi (mi 17) 0 8) (gmi_23 : gi (mi 23) 0 300) (gmi_24 : gi (mi 24) 0 1) (gmi_26 : gi (mi 26) 0 1600) (gmi_29 : gi (mi 29) 0 1600) (gmi_30 : gi (mi 30) 0 1600) (gmi_33 : gi (mi 33) 0 1) (gmi_37 : gi (mi 37) 0 1) (gmi_41 : gi (mi 41) 0 24) (gmi_50 : gi (mi 50) 0 1) (gmi_51 : gi (mi 51) 0 1) (gmi_56 : gi (mi 56) 0 80) (gfm_row : ga fm_row 24 0 23) (gfm_struck : ga fm_struck 24 0 1) (gfm_reportKnown : ga fm_reportKnown 24 0 999) (gfm_reportPlace : ga fm_reportPlace 24 0 5) (gfm_reportMonth : ga fm_reportMonth 24 0 23) (gfm_reportDay : ga fm_reportDay 24 0 999) : Met l yX12_laysRow (.code yX12_laysRow cX12_laysRow 4 none :: wsGB) ({ frames := 2, cells := 0, slots := 0, locals := 49 }) (va_Pc [.ref h0, .int p1] (fun U => U.heap.size = sz ∧ va_P (dC, dI) vwCl (MWn h0 mr km (mi 0) (mi 1) (mi 2) (mi 3) (mi 4) (mi 5) (mi 6) (mi 7) (mi 10) (mi 17) (mi 23) (mi 24) (mi 26) (mi 27) (mi 28) (mi 29) (mi 30) (mi 31) (mi 32) (mi 33) (mi 37) (mi 41) (mi 42) (mi 43) (mi 44) (mi 45) (mi 47) (mi 48) (mi 49) (mi 50) (mi 51) (mi 54) (mi 56) fm_trust fm_letter fm_reportPlace fm_reportKind fm_struck fm_reportMonth fm_reportDay fm_reportKnown fm_deedMonth fm_deedDay fm_deedLong fm_deedKind fm_kept fm_tape fm_must fm_least fm_pin fm_ways fm_verdict fm_row fm_official fm_aside fm_worth fm_out) U.heap ∧ va_K (dC, dI) vwCl (MT km) U ∧ va_D (fun _ => True) (MWn h0 mr km (mi 0) (mi 1) (mi 2) (mi 3) (mi 4) (mi 5) (mi 6) (mi 7) (mi 10) (mi 17) (mi 23) (mi 24) (mi 26) (mi 27) (mi 28) (mi 29) (mi 30) (mi 31) (mi 32) (mi 33) (mi 37) (mi 41) (mi 42) (mi 43) (mi 44) (mi 45) (mi 47) (mi 48) (mi 49) (mi 50) (mi 51) (mi 54) (mi 56) fm_trust fm_letter fm_reportPlace fm_reportKind fm_struck fm_reportMonth fm_reportDay fm_reportKnown fm_deedMonth fm_deedDay fm_deedLong fm_deedKind fm_kept fm_tape fm_must fm_least fm_pin fm_ways fm_verdict fm_row fm_official fm_aside fm_worth fm_out))) (va_Qv (fun (u : Unit) => True) (fun _ t => ∃ (w0_41 : Int32) (z1 : Nat → Int32) (z2 : Nat → Int32), pb_sX12_laysRow dC dI (va_A (MWn h0 mr km (mi 0) (mi 1) (mi 2) (mi 3) (mi 4) (mi 5) (mi 6) (mi 7) (mi 10) (mi 17) (mi 23) (mi 24) (mi 26) (mi 27) (mi 28) (mi 29) (mi 30) (mi 31) (mi 32) (mi 33) (mi 37) (mi 41) (mi 42) (mi 43) (mi 44) (mi 45) (mi 47) (mi 48) (mi 49) (mi 50) (mi 51) (mi 54) (mi 56) fm_trust fm_letter fm_reportPlace fm_reportKind fm_struck fm_reportMonth fm_reportDay fm_reportKnown fm_deedMonth fm_deedDay fm_deedLong fm_deedKind fm_kept fm_tape fm_must fm_least fm_pin fm_ways fm_verdict fm_row fm_official fm_aside fm_worth fm_out) sz) h0 mi mr km fm_verdict fm_row fm_struck fm_reportKnown fm_reportPlace fm_reportMonth fm_reportDay fm_reportKind fm_trust fm_letter fm_deedMonth fm_deedDay fm_deedLong fm_deedKind fm_kept fm_tape fm_must fm_least fm_pin fm_ways fm_official fm_aside fm_worth fm_out p1 w0_41 z1 z2 t) (va_A (MWn h0 mr km (mi 0) (mi 1) (mi 2) (mi 3) (mi 4) (mi 5) (mi 6) (mi 7) (mi 10) (mi 17) (mi 23) (mi 24) (mi 26) (mi 27) (mi 28) (mi 29) (mi 30) (mi 31) (mi 32) (mi 33) (mi 37) (mi 41) (mi 42) (mi 43) (mi 44) (mi 45) (mi 47) (mi 48) (mi 49) (mi 50) (mi 51) (mi 54) (mi 56) fm_trust fm_letter fm_reportPlace fm_reportKind fm_struck fm_reportMonth fm_reportDay fm_reportKnown fm_deedMonth fm_deedDay fm_deedLong fm_deedKind fm_kept fm_tape fm_must fm_least fm_pin fm_ways fm_verdict fm_row fm_official fm_aside fm_worth fm_out) sz)) 0 0 (va_A (MWn h0 mr km (mi 0) (mi 1) (mi 2) (mi 3) (mi 4) (mi 5) (mi 6) (mi 7) (mi 10) (mi 17) (mi 23) (mi 24) (mi 26) (mi 27) (mi 28) (mi 29) (mi 30) (mi 31) (mi 32) (mi 33) (mi 37) (mi 41) (mi 42) (mi 43) (mi 44) (mi 45) (mi 47) (mi 48) (mi 49) (mi 50) (mi 51) (mi 54) (mi 56) fm_trust fm_letter fm_reportPlace fm_reportKind fm_struck fm_reportMonth fm_reportDay fm_reportKnown fm_deedMonth fm_deedDay fm_deedLong fm_deedKind fm_kept fm_tape fm_must fm_least fm_pin fm_ways fm_verdict fm_row fm_official fm_aside fm_worth fm_out) sz) := by
  refine Met.ofW (cc := cX12_laysRow) (maxL := 4) (ret := none) (by decide) rfl ?_
  intro p e s m args below meth c s₁ B hml hv
  obtain ⟨rfl, hsz, hP, hK, hD0⟩ := hv
  have hx := B.exec
  have hb := B.bytes
  have hr := B.returns
  have hts := atoms_spec (ws := (.code yX12_laysRow cX12_laysRow 4 none :: wsGB)) B.pre
  have hown : s.vm.findClass RX12 = some m.cls := findClass_of_methodNamed B.named
  have hlocks := B.notSynchronized
  subst hsz
  have hD := hD0.self (sz := s.heap.size)
  generalize hAe : va_A (MWn h0 mr km (mi 0) (mi 1) (mi 2) (mi 3) (mi 4) (mi 5) (mi 6) (mi 7) (mi 10) (mi 17) (mi 23) (mi 24) (mi 26) (mi 27) (mi 28) (mi 29) (mi 30) (mi 31) (mi 32) (mi 33) (mi 37) (mi 41) (mi 42) (mi 43) (mi 44) (mi 45) (mi 47) (mi 48) (mi 49) (mi 50) (mi 51) (mi 54) (mi 56) fm_trust fm_letter fm_reportPlace fm_reportKind fm_struck fm_reportMonth fm_reportDay fm_reportKnown fm_deedMonth fm_deedDay fm_deedLong fm_deedKind fm_kept fm_tape fm_must fm_least fm_pin fm_ways fm_verdict fm_row fm_official fm_aside fm_worth fm_out) s.heap.size = A at hD ⊢
  have hA : ∀ q : Nat, s.heap.size ≤ q → A q := fun q h => by rw [← hAe]; exact Or.inr h
  have hS : va_S A s.heap s.heap [] := va_S.rf
  have hl := lv_entry ([.ref h0, .int p1]) (n := 4) (Nat.le_of_ble_eq_true rfl)
  rw [lg_entry_eq]
  generalize (lg_sl ([.ref h0, .int p1]) ++ List.replicate (4 - (lg_sl ([.ref h0, .int p1])).length) Slot.unset).toArray = ls at hl ⊢
  have hl : lv_has ls 4 [(0, .ref h0), (1, .int p1)] := hl
  refine lv_aload_n hx hb dX12_laysRow_0 rfl (lv_at hl 0 rfl) ?_
  refine lv_iconst (v := 0) hx hb dX12_laysRow_1 (by decide) ?_
  refine va_put (D := (dC, dI)) (ci := 12) (v := .int 0) (ty := .int) (C := RX12) (T := TX12) (N := 57) hx hb hts (fun w h => List.mem_cons_of_mem _ (jnGB_X12 w h)) tyX12 tyX12_ok nmX12 hown hK hP hD hS 0 rfl rfl 41 (by decide) (hts _ (List.mem_cons_of_mem _ mGB_265)) (fun _ h9 => h9) rfl (by decide +kernel) rfl rfl (Nat.le_of_ble_eq_true rfl) dX12_laysRow_2 (fun H locs hP hD hS => ?_)
  have hP : va_P (dC, dI) vwCl (MWn h0 mr km (mi 0) (mi 1) (mi 2) (mi 3) (mi 4) (mi 5) (mi 6) (mi 7) (mi 10) (mi 17) (mi 23) (mi 24) (mi 26) (mi 27) (mi 28) (mi 29) (mi 30) (mi 31) (mi 32) (mi 33) (mi 37) 0 (mi 42) (mi 43) (mi 44) (mi 45) (mi 47) (mi 48) (mi 49) (mi 50) (mi 51) (mi 54) (mi 56) fm_trust fm_letter fm_reportPlace fm_reportKind fm_struck fm_reportMonth fm_reportDay fm_reportKnown fm_deedMonth fm_deedDay fm_deedLong fm_deedKind fm_kept fm_tape fm_must fm_least fm_pin fm_ways fm_verdict fm_row fm_official fm_aside fm_worth fm_out) H := hP
  have hD : va_D A (MWn h0 mr km (mi 0) (mi 1) (mi 2) (mi 3) (mi 4) (mi 5) (mi 6) (mi 7) (mi 10) (mi 17) (mi 23) (mi 24) (mi 26) (mi 27) (mi 28) (mi 29) (mi 30) (mi 31) (mi 32) (mi 33) (mi 37) 0 (mi 42) (mi 43) (mi 44) (mi 45) (mi 47) (mi 48) (mi 49) (mi 50) (mi 51) (mi 54) (mi 56) fm_trust fm_letter fm_reportPlace fm_reportKind fm_struck fm_reportMonth fm_reportDay fm_reportKnown fm_deedMonth fm_deedDay fm_deedLong fm_deedKind fm_kept fm_tape fm_must fm_least fm_pin fm_ways fm_verdict fm_row fm_official fm_aside fm_worth fm_out) := hD
  refine lv_iconst (v := 0) hx hb dX12_laysRow_5 (by decide) ?_
  refine lv_istore_n (lv' := [(2, .int 0), (0, .ref h0), (1, .int p1)]) hx hb dX12_laysRow_6 rfl hl (by decide) rfl (fun ls hl => ?_)
  refine (lp_sX12_laysRow h0 mi mr km fm_verdict fm_row fm_struck fm_reportKnown fm_reportPlace fm_reportMonth fm_reportDay fm_reportKind fm_trust fm_letter fm_deedMonth fm_deedDay fm_deedLong fm_deedKind fm_kept fm_tape fm_must fm_least fm_pin fm_ways fm_official fm_aside fm_worth fm_out p1 gmi_0 gmi_1 gmi_2 gmi_4 gmi_7 gmi_10 gmi_17 gmi_23 gmi_24 gmi_26 gmi_29 gmi_30 gmi_33 gmi_37 gmi_41 gmi_50 gmi_51 gmi_56 gfm_row gfm_struck gfm_reportKnown gfm_reportPlace gfm_reportMonth gfm_reportDay hx hb hml hown hts hK hA (Nat.le_of_ble_eq_true rfl) (Nat.le_of_ble_eq_true rfl) (Nat.zero_le _) (Nat.zero_le _) (fun w0_41 z1 z2 H locs ls gw0_41 gz2 hP hD hS hl => ?_) 1362).1 0 0 fm_verdict fm_row _ _ _ (gi_w (gi_c 0 0 (by decide)) (by decide)) (gi_w (gi_c 0 0 (by decide)) (by decide)) gfm_row (by have k0 : (0 : Int32).toInt = 0 := (by decide); have k0 : (0 : Int32).toInt = 0 := (by decide); omega) (by have k0 : (0 : Int32).toInt = 0 := (by decide); omega) hP hD hS (lv_sub hl [1, 2, 0] rfl)
  · skip
    exact W.vret hx hb hr (fun t ht hW => ⟨⟨(), rfl, trivial, w0_41, z1, z2, gw0_41, gz2, by rw [ht]; exact hP, hD⟩, hS.F ht⟩) hS.2.2 dX12_laysRow_131
theorem dX12_isOpen_0 : decode cX12_isOpen 0 = .ok (.aload_n 0, 1) := by decide +kernel
theorem dX12_isOpen_1 : decode cX12_isOpen 1 = .ok (.getfield 57, 3) := by decide +kernel
theorem dX12_isOpen_4 : decode cX12_isOpen 4 = .ok (.iload_n 1, 1) := by decide +kernel
theorem dX12_isOpen_5 : decode cX12_isOpen 5 = .ok (.iaload, 1) := by decide +kernel
theorem dX12_isOpen_6 : decode cX12_isOpen 6 = .ok (.iconst (-1), 1) := by decide +kernel
theorem dX12_isOpen_7 : decode cX12_isOpen 7 = .ok (.if_icmp .eq 13, 3) := by decide +kernel
theorem dX12_isOpen_10 : decode cX12_isOpen 10 = .ok (.aload_n 0, 1) := by decide +kernel
theorem dX12_isOpen_11 : decode cX12_isOpen 11 = .ok (.getfield 57, 3) := by decide +kernel
theorem dX12_isOpen_14 : decode cX12_isOpen 14 = .ok (.iload_n 1, 1) := by decide +kernel
theorem dX12_isOpen_15 : decode cX12_isOpen 15 = .ok (.iaload, 1) := by decide +kernel
theorem dX12_isOpen_16 : decode cX12_isOpen 16 = .ok (.iload_n 2, 1) := by decide +kernel
theorem dX12_isOpen_17 : decode cX12_isOpen 17 = .ok (.if_icmp .ne 37, 3) := by decide +kernel
theorem dX12_isOpen_20 : decode cX12_isOpen 20 = .ok (.iload_n 2, 1) := by decide +kernel
theorem dX12_isOpen_21 : decode cX12_isOpen 21 = .ok (.aload_n 0, 1) := by decide +kernel
theorem dX12_isOpen_22 : decode cX12_isOpen 22 = .ok (.getfield 60, 3) := by decide +kernel
theorem dX12_isOpen_25 : decode cX12_isOpen 25 = .ok (.iload_n 1, 1) := by decide +kernel
theorem dX12_isOpen_26 : decode cX12_isOpen 26 = .ok (.iaload, 1) := by decide +kernel
theorem dX12_isOpen_27 : decode cX12_isOpen 27 = .ok (.if_icmp .lt 27, 3) := by decide +kernel
theorem dX12_isOpen_30 : decode cX12_isOpen 30 = .ok (.aload_n 0, 1) := by decide +kernel
theorem dX12_isOpen_31 : decode cX12_isOpen 31 = .ok (.getfield 63, 3) := by decide +kernel
theorem dX12_isOpen_34 : decode cX12_isOpen 34 = .ok (.iload_n 1, 1) := by decide +kernel
theorem dX12_isOpen_35 : decode cX12_isOpen 35 = .ok (.iaload, 1) := by decide +kernel
theorem dX12_isOpen_36 : decode cX12_isOpen 36 = .ok (.iconst (-1), 1) := by decide +kernel
theorem dX12_isOpen_37 : decode cX12_isOpen 37 = .ok (.if_icmp .eq 13, 3) := by decide +kernel
theorem dX12_isOpen_40 : decode cX12_isOpen 40 = .ok (.aload_n 0, 1) := by decide +kernel
theorem dX12_isOpen_41 : decode cX12_isOpen 41 = .ok (.getfield 63, 3) := by decide +kernel
theorem dX12_isOpen_44 : decode cX12_isOpen 44 = .ok (.iload_n 1, 1) := by decide +kernel
theorem dX12_isOpen_45 : decode cX12_isOpen 45 = .ok (.iaload, 1) := by decide +kernel
theorem dX12_isOpen_46 : decode cX12_isOpen 46 = .ok (.iload_n 2, 1) := by decide +kernel
theorem dX12_isOpen_47 : decode cX12_isOpen 47 = .ok (.if_icmp .ne 7, 3) := by decide +kernel
theorem dX12_isOpen_50 : decode cX12_isOpen 50 = .ok (.iconst 1, 1) := by decide +kernel
theorem dX12_isOpen_51 : decode cX12_isOpen 51 = .ok (.goto 4, 3) := by decide +kernel
theorem dX12_isOpen_54 : decode cX12_isOpen 54 = .ok (.iconst 0, 1) := by decide +kernel
theorem dX12_isOpen_55 : decode cX12_isOpen 55 = .ok (.ireturn, 1) := by decide +kernel
set_option maxHeartbeats 4000000 in
set_option maxRecDepth 100000 in
theorem sX12_isOpen (l : Launch) (dC : Nat → ClassId) (dI : Nat → Nat → Nat) (h0 : Nat) (mi : Nat → Int32) (mr : Nat → Nat) (km : Nat → ClassId) (fm_must : Nat → Int32) (fm_least : Nat → Int32) (fm_pin : Nat → Int32) (fm_trust : Nat → Int32) (fm_letter : Nat → Int32) (fm_reportPlace : Nat → Int32) (fm_reportKind : Nat → Int32) (fm_struck : Nat → Int32) (fm_reportMonth : Nat → Int32) (fm_reportDay : Nat → Int32) (fm_reportKnown : Nat → Int32) (fm_deedMonth : Nat → Int32) (fm_deedDay : Nat → Int32) (fm_deedLong : Nat → Int32) (fm_deedKind : Nat → Int32) (fm_kept : Nat → Int32) (fm_tape : Nat → Int32) (fm_ways : Nat → Int32) (fm_verdict : Nat → Int32) (fm_row : Nat → Int32) (fm_official : Nat → Int32) (fm_aside : Nat → Int32) (fm_worth : Nat → Int32) (fm_out : Nat → Int32) (p1 : Int32) (p2 : Int32) (gmi_0 : gi (mi 0) 0 24) (gmi_1 : gi (mi 1) 0 5) (gmi_2 : gi (mi 2) 0 5) (gmi_4 : gi (mi 4) 0 1) (gmi_7 : gi (mi 7) 0 6) (gmi_10 : gi (mi 10) 0 24) (gmi_17 : gi (mi 17) 0 8) (gmi_23 : gi (mi 23) 0 300) (gmi_24 : gi (mi 24) 0 1) (gmi_26 : gi (mi 26) 0 1600) (gmi_29 : gi (mi 29) 0 1600) (gmi_30 : gi (mi 30) 0 1600) (gmi_33 : gi (mi 33) 0 1) (gmi_37 : gi (mi 37) 0 1) (gmi_41 : gi (mi 41) 0 24) (gmi_50 : gi (mi 50) 0 1) (gmi_51 : gi (mi 51) 0 1) (gmi_56 : gi (mi 56) 0 80) (gp1 : gi p1 0 24) : Met l yX12_isOpen (.code yX12_isOpen cX12_isOpen 3 (some .boolean) :: wsGB) ({ frames := 0, cells := 0, slots := 0, locals := 0 }) (va_Pc [.ref h0, .int p1, .int p2] (fun U => va_P (dC, dI) vwCl (MWn h0 mr km (mi 0) (mi 1) (mi 2) (mi 3) (mi 4) (mi 5) (mi 6) (mi 7) (mi 10) (mi 17) (mi 23) (mi 24) (mi 26) (mi 27) (mi 28) (mi 29) (mi 30) (mi 31) (mi 32) (mi 33) (mi 37) (mi 41) (mi 42) (mi 43) (mi 44) (mi 45) (mi 47) (mi 48) (mi 49) (mi 50) (mi 51) (mi 54) (mi 56) fm_trust fm_letter fm_reportPlace fm_reportKind fm_struck fm_reportMonth fm_reportDay fm_reportKnown fm_deedMonth fm_deedDay fm_deedLong fm_deedKind fm_kept fm_tape fm_must fm_least fm_pin fm_ways fm_verdict fm_row fm_official fm_aside fm_worth fm_out) U.heap ∧ va_K (dC, dI) vwCl (MT km) U)) (va_Qi (fun (r : Int32) (u : Unit) => gi r 0 1) (fun _ _ => True) (fun _ => False)) 0 0 (fun _ => False) := by
  refine Met.ofW (cc := cX12_isOpen) (maxL := 3) (ret := (some .boolean)) (by decide) rfl ?_
  intro p e s m args below meth c s₁ B hml hv
  obtain ⟨rfl, hP, hK⟩ := hv
  have hx := B.exec
  have hb := B.bytes
  have hr := B.returns
  have hts := atoms_spec (ws := (.code yX12_isOpen cX12_isOpen 3 (some .boolean) :: wsGB)) B.pre
  have hown : s.vm.findClass RX12 = some m.cls := findClass_of_methodNamed B.named
  have hlocks := B.notSynchronized
  have hS : va_S (fun _ => False) s.heap s.heap [] := va_S.rf
  have hl := lv_entry ([.ref h0, .int p1, .int p2]) (n := 3) (Nat.le_of_ble_eq_true rfl)
  rw [lg_entry_eq]
  generalize (lg_sl ([.ref h0, .int p1, .int p2]) ++ List.replicate (3 - (lg_sl ([.ref h0, .int p1, .int p2])).length) Slot.unset).toArray = ls at hl ⊢
  have hl : lv_has ls 3 [(0, .ref h0), (1, .int p1), (2, .int p2)] := hl
  refine lv_aload_n hx hb dX12_isOpen_0 rfl (lv_at hl 0 rfl) ?_
  refine va_get (D := (dC, dI)) (ci := 12) (v := .ref (mr 14)) (C := RX12) (T := TX12) (N := 57) hx hb hts (fun w h => List.mem_cons_of_mem _ (jnGB_X12 w h)) hown hK hP 0 rfl rfl 34 (by decide) (hts _ (List.mem_cons_of_mem _ mGB_26)) (fun _ h9 => h9) rfl dX12_isOpen_1 ?_
  refine lv_iload_n hx hb dX12_isOpen_4 rfl (lv_at hl 1 rfl) ?_
  refine va_iald hx hb hK hP 15 14 rfl rfl (gi_in gp1 (by decide)) dX12_isOpen_5 ?_
  refine lv_topi (fun x_24 ex_24 => ?_)
  refine lv_iconst (v := (-1)) hx hb dX12_isOpen_6 (by decide) ?_
  refine lv_icmp_eq (tgt := 20) hx hb dX12_isOpen_7 (by decide) (fun c_25 => ?_) (fun c_25 => ?_)
  · have g_26 : gi x_24 (-1) (-1) := gi_eq c_25 (gi_c (-1) (-1) (by decide))
    refine lv_iload_n hx hb dX12_isOpen_20 rfl (lv_at hl 2 rfl) ?_
    refine lv_aload_n hx hb dX12_isOpen_21 rfl (lv_at hl 0 rfl) ?_
    refine va_get (D := (dC, dI)) (ci := 12) (v := .ref (mr 15)) (C := RX12) (T := TX12) (N := 57) hx hb hts (fun w h => List.mem_cons_of_mem _ (jnGB_X12 w h)) hown hK hP 0 rfl rfl 35 (by decide) (hts _ (List.mem_cons_of_mem _ mGB_27)) (fun _ h9 => h9) rfl dX12_isOpen_22 ?_
    refine lv_iload_n hx hb dX12_isOpen_25 rfl (lv_at hl 1 rfl) ?_
    refine va_iald hx hb hK hP 16 15 rfl rfl (gi_in gp1 (by decide)) dX12_isOpen_26 ?_
    refine lv_topi (fun x_27 ex_27 => ?_)
    refine lv_icmp_lt (tgt := 54) hx hb dX12_isOpen_27 (by decide) (fun c_28 => ?_) (fun c_28 => ?_)
    · have g_29 : gi p2 (-2147483648) 2147483646 := gi_lt_l c_28 (gi_any p2) (gi_any x_27) (by decide)
      have g_30 : gi x_27 (-2147483647) 2147483647 := gi_lt_r c_28 (gi_any p2) (gi_any x_27) (by decide)
      refine lv_iconst (v := 0) hx hb dX12_isOpen_54 (by decide) ?_
      exact W.zret (v := 0) hx hb hr (by decide) (fun t ht hW => ⟨⟨0, (), rfl, (gi_w (gi_c 0 0 (by decide)) (by decide)), trivial⟩, hS.F ht⟩) hS.2.2 dX12_isOpen_55
    · refine lv_aload_n hx hb dX12_isOpen_30 rfl (lv_at hl 0 rfl) ?_
      refine va_get (D := (dC, dI)) (ci := 12) (v := .ref (mr 16)) (C := RX12) (T := TX12) (N := 57) hx hb hts (fun w h => List.mem_cons_of_mem _ (jnGB_X12 w h)) hown hK hP 0 rfl rfl 36 (by decide) (hts _ (List.mem_cons_of_mem _ mGB_28)) (fun _ h9 => h9) rfl dX12_isOpen_31 ?_
      refine lv_iload_n hx hb dX12_isOpen_34 rfl (lv_at hl 1 rfl) ?_
      refine va_iald hx hb hK hP 17 16 rfl rfl (gi_in gp1 (by decide)) dX12_isOpen_35 ?_
      refine lv_topi (fun x_31 ex_31 => ?_)
      refine lv_iconst (v := (-1)) hx hb dX12_isOpen_36 (by decide) ?_
      refine lv_icmp_eq (tgt := 50) hx hb dX12_isOpen_37 (by decide) (fun c_32 => ?_) (fun c_32 => ?_)
      · have g_33 : gi x_31 (-1) (-1) := gi_eq c_32 (gi_c (-1) (-1) (by decide))
        refine lv_iconst (v := 1) hx hb dX12_isOpen_50 (by decide) ?_
        refine lv_goto (tgt := 55) hx hb dX12_isOpen_51 (by decide) ?_
        exact W.zret (v := 1) hx hb hr (by decide) (fun t ht hW => ⟨⟨1, (), rfl, (gi_w (gi_c 1 1 (by decide)) (by decide)), trivial⟩, hS.F ht⟩) hS.2.2 dX12_isOpen_55
      · refine lv_aload_n hx hb dX12_isOpen_40 rfl (lv_at hl 0 rfl) ?_
        refine va_get (D := (dC, dI)) (ci := 12) (v := .ref (mr 16)) (C := RX12) (T := TX12) (N := 57) hx hb hts (fun w h => List.mem_cons_of_mem _ (jnGB_X12 w h)) hown hK hP 0 rfl rfl 36 (by decide) (hts _ (List.mem_cons_of_mem _ mGB_28)) (fun _ h9 => h9) rfl dX12_isOpen_41 ?_
        refine lv_iload_n hx hb dX12_isOpen_44 rfl (lv_at hl 1 rfl) ?_
        refine va_iald hx hb hK hP 17 16 rfl rfl (gi_in gp1 (by decide)) dX12_isOpen_45 ?_
        refine lv_topi (fun x_34 ex_34 => ?_)
        refine lv_iload_n hx hb dX12_isOpen_46 rfl (lv_at hl 2 rfl) ?_
        refine lv_icmp_ne (tgt := 54) hx hb dX12_isOpen_47 (by decide) (fun c_35 => ?_) (fun c_35 => ?_)
        · refine lv_iconst (v := 0) hx hb dX12_isOpen_54 (by decide) ?_
          exact W.zret (v := 0) hx hb hr (by decide) (fun t ht hW => ⟨⟨0, (), rfl, (gi_w (gi_c 0 0 (by decide)) (by decide)), trivial⟩, hS.F ht⟩) hS.2.2 dX12_isOpen_55
        · refine lv_iconst (v := 1) hx hb dX12_isOpen_50 (by decide) ?_
          refine lv_goto (tgt := 55) hx hb dX12_isOpen_51 (by decide) ?_
          exact W.zret (v := 1) hx hb hr (by decide) (fun t ht hW => ⟨⟨1, (), rfl, (gi_w (gi_c 1 1 (by decide)) (by decide)), trivial⟩, hS.F ht⟩) hS.2.2 dX12_isOpen_55
  · refine lv_aload_n hx hb dX12_isOpen_10 rfl (lv_at hl 0 rfl) ?_
    refine va_get (D := (dC, dI)) (ci := 12) (v := .ref (mr 14)) (C := RX12) (T := TX12) (N := 57) hx hb hts (fun w h => List.mem_cons_of_mem _ (jnGB_X12 w h)) hown hK hP 0 rfl rfl 34 (by decide) (hts _ (List.mem_cons_of_mem _ mGB_26)) (fun _ h9 => h9) rfl dX12_isOpen_11 ?_
    refine lv_iload_n hx hb dX12_isOpen_14 rfl (lv_at hl 1 rfl) ?_
    refine va_iald hx hb hK hP 15 14 rfl rfl (gi_in gp1 (by decide)) dX12_isOpen_15 ?_
    refine lv_topi (fun x_36 ex_36 => ?_)
    refine lv_iload_n hx hb dX12_isOpen_16 rfl (lv_at hl 2 rfl) ?_
    refine lv_icmp_ne (tgt := 54) hx hb dX12_isOpen_17 (by decide) (fun c_37 => ?_) (fun c_37 => ?_)
    · refine lv_iconst (v := 0) hx hb dX12_isOpen_54 (by decide) ?_
      exact W.zret (v := 0) hx hb hr (by decide) (fun t ht hW => ⟨⟨0, (), rfl, (gi_w (gi_c 0 0 (by decide)) (by decide)), trivial⟩, hS.F ht⟩) hS.2.2 dX12_isOpen_55
    · refine lv_iload_n hx hb dX12_isOpen_20 rfl (lv_at hl 2 rfl) ?_
      refine lv_aload_n hx hb dX12_isOpen_21 rfl (lv_at hl 0 rfl) ?_
      refine va_get (D := (dC, dI)) (ci := 12) (v := .ref (mr 15)) (C := RX12) (T := TX12) (N := 57) hx hb hts (fun w h => List.mem_cons_of_mem _ (jnGB_X12 w h)) hown hK hP 0 rfl rfl 35 (by decide) (hts _ (List.mem_cons_of_mem _ mGB_27)) (fun _ h9 => h9) rfl dX12_isOpen_22 ?_
      refine lv_iload_n hx hb dX12_isOpen_25 rfl (lv_at hl 1 rfl) ?_
      refine va_iald hx hb hK hP 16 15 rfl rfl (gi_in gp1 (by decide)) dX12_isOpen_26 ?_
      refine lv_topi (fun x_38 ex_38 => ?_)
      refine lv_icmp_lt (tgt := 54) hx hb dX12_isOpen_27 (by decide) (fun c_39 => ?_) (fun c_39 => ?_)
      · have g_40 : gi p2 (-2147483648) 2147483646 := gi_lt_l c_39 (gi_any p2) (gi_any x_38) (by decide)
        have g_41 : gi x_38 (-2147483647) 2147483647 := gi_lt_r c_39 (gi_any p2) (gi_any x_38) (by decide)
        refine lv_iconst (v := 0) hx hb dX12_isOpen_54 (by decide) ?_
        exact W.zret (v := 0) hx hb hr (by decide) (fun t ht hW => ⟨⟨0, (), rfl, (gi_w (gi_c 0 0 (by decide)) (by decide)), trivial⟩, hS.F ht⟩) hS.2.2 dX12_isOpen_55
      · refine lv_aload_n hx hb dX12_isOpen_30 rfl (lv_at hl 0 rfl) ?_
        refine va_get (D := (dC, dI)) (ci := 12) (v := .ref (mr 16)) (C := RX12) (T := TX12) (N := 57) hx hb hts (fun w h => List.mem_cons_of_mem _ (jnGB_X12 w h)) hown hK hP 0 rfl rfl 36 (by decide) (hts _ (List.mem_cons_of_mem _ mGB_28)) (fun _ h9 => h9) rfl dX12_isOpen_31 ?_
        refine lv_iload_n hx hb dX12_isOpen_34 rfl (lv_at hl 1 rfl) ?_
        refine va_iald hx hb hK hP 17 16 rfl rfl (gi_in gp1 (by decide)) dX12_isOpen_35 ?_
        refine lv_topi (fun x_42 ex_42 => ?_)
        refine lv_iconst (v := (-1)) hx hb dX12_isOpen_36 (by decide) ?_
        refine lv_icmp_eq (tgt := 50) hx hb dX12_isOpen_37 (by decide) (fun c_43 => ?_) (fun c_43 => ?_)
        · have g_44 : gi x_42 (-1) (-1) := gi_eq c_43 (gi_c (-1) (-1) (by decide))
          refine lv_iconst (v := 1) hx hb dX12_isOpen_50 (by decide) ?_
          refine lv_goto (tgt := 55) hx hb dX12_isOpen_51 (by decide) ?_
          exact W.zret (v := 1) hx hb hr (by decide) (fun t ht hW => ⟨⟨1, (), rfl, (gi_w (gi_c 1 1 (by decide)) (by decide)), trivial⟩, hS.F ht⟩) hS.2.2 dX12_isOpen_55
        · refine lv_aload_n hx hb dX12_isOpen_40 rfl (lv_at hl 0 rfl) ?_
          refine va_get (D := (dC, dI)) (ci := 12) (v := .ref (mr 16)) (C := RX12) (T := TX12) (N := 57) hx hb hts (fun w h => List.mem_cons_of_mem _ (jnGB_X12 w h)) hown hK hP 0 rfl rfl 36 (by decide) (hts _ (List.mem_cons_of_mem _ mGB_28)) (fun _ h9 => h9) rfl dX12_isOpen_41 ?_
          refine lv_iload_n hx hb dX12_isOpen_44 rfl (lv_at hl 1 rfl) ?_
          refine va_iald hx hb hK hP 17 16 rfl rfl (gi_in gp1 (by decide)) dX12_isOpen_45 ?_
          refine lv_topi (fun x_45 ex_45 => ?_)
          refine lv_iload_n hx hb dX12_isOpen_46 rfl (lv_at hl 2 rfl) ?_
          refine lv_icmp_ne (tgt := 54) hx hb dX12_isOpen_47 (by decide) (fun c_46 => ?_) (fun c_46 => ?_)
          · refine lv_iconst (v := 0) hx hb dX12_isOpen_54 (by decide) ?_
            exact W.zret (v := 0) hx hb hr (by decide) (fun t ht hW => ⟨⟨0, (), rfl, (gi_w (gi_c 0 0 (by decide)) (by decide)), trivial⟩, hS.F ht⟩) hS.2.2 dX12_isOpen_55
          · refine lv_iconst (v := 1) hx hb dX12_isOpen_50 (by decide) ?_
            refine lv_goto (tgt := 55) hx hb dX12_isOpen_51 (by decide) ?_
            exact W.zret (v := 1) hx hb hr (by decide) (fun t ht hW => ⟨⟨1, (), rfl, (gi_w (gi_c 1 1 (by decide)) (by decide)), trivial⟩, hS.F ht⟩) hS.2.2 dX12_isOpen_55
theorem dX12_placeOf_0 : decode cX12_placeOf 0 = .ok (.sipush 275, 3) := by decide +kernel
theorem dX12_placeOf_3 : decode cX12_placeOf 3 = .ok (.iload_n 0, 1) := by decide +kernel
theorem dX12_placeOf_4 : decode cX12_placeOf 4 = .ok (.imul, 1) := by decide +kernel
theorem dX12_placeOf_5 : decode cX12_placeOf 5 = .ok (.bipush 11, 2) := by decide +kernel
theorem dX12_placeOf_7 : decode cX12_placeOf 7 = .ok (.iload_n 1, 1) := by decide +kernel
theorem dX12_placeOf_8 : decode cX12_placeOf 8 = .ok (.imul, 1) := by decide +kernel
theorem dX12_placeOf_9 : decode cX12_placeOf 9 = .ok (.iadd, 1) := by decide +kernel
theorem dX12_placeOf_10 : decode cX12_placeOf 10 = .ok (.iload_n 2, 1) := by decide +kernel
theorem dX12_placeOf_11 : decode cX12_placeOf 11 = .ok (.iadd, 1) := by decide +kernel
theorem dX12_placeOf_12 : decode cX12_placeOf 12 = .ok (.ireturn, 1) := by decide +kernel
set_option maxHeartbeats 4000000 in
set_option maxRecDepth 100000 in
theorem sX12_placeOf (l : Launch) (dC : Nat → ClassId) (dI : Nat → Nat → Nat) (p0 : Int32) (p1 : Int32) (p2 : Int32) (gp0 : gi p0 0 24) (gp1 : gi p1 0 24) (gp2 : gi p2 0 10) : Met l yX12_placeOf (.code yX12_placeOf cX12_placeOf 3 (some .int) :: wsGB) ({ frames := 0, cells := 0, slots := 0, locals := 0 }) (va_Pc [.int p0, .int p1, .int p2] (fun U => va_P (dC, dI) vwCl [] U.heap ∧ va_K (dC, dI) vwCl [] U)) (va_Qi (fun (r : Int32) (u : Unit) => gi r 0 6874) (fun _ _ => True) (fun _ => False)) 0 0 (fun _ => False) := by
  refine Met.ofW (cc := cX12_placeOf) (maxL := 3) (ret := (some .int)) (by decide) rfl ?_
  intro p e s m args below meth c s₁ B hml hv
  obtain ⟨rfl, hP, hK⟩ := hv
  have hx := B.exec
  have hb := B.bytes
  have hr := B.returns
  have hts := atoms_spec (ws := (.code yX12_placeOf cX12_placeOf 3 (some .int) :: wsGB)) B.pre
  have hown : s.vm.findClass RX12 = some m.cls := findClass_of_methodNamed B.named
  have hlocks := B.notSynchronized
  have hS : va_S (fun _ => False) s.heap s.heap [] := va_S.rf
  have hl := lv_entry ([.int p0, .int p1, .int p2]) (n := 3) (Nat.le_of_ble_eq_true rfl)
  rw [lg_entry_eq]
  generalize (lg_sl ([.int p0, .int p1, .int p2]) ++ List.replicate (3 - (lg_sl ([.int p0, .int p1, .int p2])).length) Slot.unset).toArray = ls at hl ⊢
  have hl : lv_has ls 3 [(0, .int p0), (1, .int p1), (2, .int p2)] := hl
  refine lv_sipush (v := 275) hx hb dX12_placeOf_0 (by decide) ?_
  refine lv_iload_n hx hb dX12_placeOf_3 rfl (lv_at hl 0 rfl) ?_
  refine lv_imul hx hb dX12_placeOf_4 ?_
  refine lv_topi (fun x_5 ex_5 => ?_)
  have gx_5 : gi x_5 0 6600 := gi_mul ex_5 (gi_c 275 275 (by decide)) gp0 (by decide)
  refine lv_bipush (v := 11) hx hb dX12_placeOf_5 (by decide) ?_
  refine lv_iload_n hx hb dX12_placeOf_7 rfl (lv_at hl 1 rfl) ?_
  refine lv_imul hx hb dX12_placeOf_8 ?_
  refine lv_topi (fun x_6 ex_6 => ?_)
  have gx_6 : gi x_6 0 264 := gi_mul ex_6 (gi_c 11 11 (by decide)) gp1 (by decide)
  refine lv_iadd hx hb dX12_placeOf_9 ?_
  refine lv_topi (fun x_7 ex_7 => ?_)
  have gx_7 : gi x_7 0 6864 := gi_add ex_7 gx_5 gx_6 (by decide)
  refine lv_iload_n hx hb dX12_placeOf_10 rfl (lv_at hl 2 rfl) ?_
  refine lv_iadd hx hb dX12_placeOf_11 ?_
  refine lv_topi (fun x_8 ex_8 => ?_)
  have gx_8 : gi x_8 0 6874 := gi_add ex_8 gx_7 gp2 (by decide)
  exact W.iret (v := x_8) hx hb hr (fun t ht hW => ⟨⟨x_8, (), rfl, gx_8, trivial⟩, hS.F ht⟩) hS.2.2 dX12_placeOf_12
theorem dX12_runBehind_0 : decode cX12_runBehind 0 = .ok (.iload_n 2, 1) := by decide +kernel
theorem dX12_runBehind_1 : decode cX12_runBehind 1 = .ok (.iconst 1, 1) := by decide +kernel
theorem dX12_runBehind_2 : decode cX12_runBehind 2 = .ok (.if_icmp .ne 18, 3) := by decide +kernel
theorem dX12_runBehind_5 : decode cX12_runBehind 5 = .ok (.iload_n 1, 1) := by decide +kernel
theorem dX12_runBehind_6 : decode cX12_runBehind 6 = .ok (.iconst 5, 1) := by decide +kernel
theorem dX12_runBehind_7 : decode cX12_runBehind 7 = .ok (.if_icmp .gt 9, 3) := by decide +kernel
theorem dX12_runBehind_10 : decode cX12_runBehind 10 = .ok (.iload_n 1, 1) := by decide +kernel
theorem dX12_runBehind_11 : decode cX12_runBehind 11 = .ok (.iconst 1, 1) := by decide +kernel
theorem dX12_runBehind_12 : decode cX12_runBehind 12 = .ok (.iadd, 1) := by decide +kernel
theorem dX12_runBehind_13 : decode cX12_runBehind 13 = .ok (.goto 21, 3) := by decide +kernel
theorem dX12_runBehind_16 : decode cX12_runBehind 16 = .ok (.iconst 1, 1) := by decide +kernel
theorem dX12_runBehind_17 : decode cX12_runBehind 17 = .ok (.goto 17, 3) := by decide +kernel
theorem dX12_runBehind_20 : decode cX12_runBehind 20 = .ok (.iload_n 1, 1) := by decide +kernel
theorem dX12_runBehind_21 : decode cX12_runBehind 21 = .ok (.iconst 5, 1) := by decide +kernel
theorem dX12_runBehind_22 : decode cX12_runBehind 22 = .ok (.if_icmp .le 11, 3) := by decide +kernel
theorem dX12_runBehind_25 : decode cX12_runBehind 25 = .ok (.iload_n 1, 1) := by decide +kernel
theorem dX12_runBehind_26 : decode cX12_runBehind 26 = .ok (.iconst 5, 1) := by decide +kernel
theorem dX12_runBehind_27 : decode cX12_runBehind 27 = .ok (.isub, 1) := by decide +kernel
theorem dX12_runBehind_28 : decode cX12_runBehind 28 = .ok (.iconst 1, 1) := by decide +kernel
theorem dX12_runBehind_29 : decode cX12_runBehind 29 = .ok (.iadd, 1) := by decide +kernel
theorem dX12_runBehind_30 : decode cX12_runBehind 30 = .ok (.goto 4, 3) := by decide +kernel
theorem dX12_runBehind_33 : decode cX12_runBehind 33 = .ok (.iconst 1, 1) := by decide +kernel
theorem dX12_runBehind_34 : decode cX12_runBehind 34 = .ok (.istore_n 3, 1) := by decide +kernel
theorem dX12_runBehind_35 : decode cX12_runBehind 35 = .ok (.iload_n 3, 1) := by decide +kernel
theorem dX12_runBehind_36 : decode cX12_runBehind 36 = .ok (.iload_n 2, 1) := by decide +kernel
theorem dX12_runBehind_37 : decode cX12_runBehind 37 = .ok (.iconst 1, 1) := by decide +kernel
theorem dX12_runBehind_38 : decode cX12_runBehind 38 = .ok (.if_icmp .ne 10, 3) := by decide +kernel
theorem dX12_runBehind_41 : decode cX12_runBehind 41 = .ok (.aload_n 0, 1) := by decide +kernel
theorem dX12_runBehind_42 : decode cX12_runBehind 42 = .ok (.getfield 120, 3) := by decide +kernel
theorem dX12_runBehind_45 : decode cX12_runBehind 45 = .ok (.goto 7, 3) := by decide +kernel
theorem dX12_runBehind_48 : decode cX12_runBehind 48 = .ok (.aload_n 0, 1) := by decide +kernel
theorem dX12_runBehind_49 : decode cX12_runBehind 49 = .ok (.getfield 123, 3) := by decide +kernel
theorem dX12_runBehind_52 : decode cX12_runBehind 52 = .ok (.if_icmp .le 5, 3) := by decide +kernel
theorem dX12_runBehind_55 : decode cX12_runBehind 55 = .ok (.iconst (-1), 1) := by decide +kernel
theorem dX12_runBehind_56 : decode cX12_runBehind 56 = .ok (.ireturn, 1) := by decide +kernel
theorem dX12_runBehind_57 : decode cX12_runBehind 57 = .ok (.iload_n 2, 1) := by decide +kernel
theorem dX12_runBehind_58 : decode cX12_runBehind 58 = .ok (.iconst 1, 1) := by decide +kernel
theorem dX12_runBehind_59 : decode cX12_runBehind 59 = .ok (.if_icmp .ne 7, 3) := by decide +kernel
theorem dX12_runBehind_62 : decode cX12_runBehind 62 = .ok (.iload_n 3, 1) := by decide +kernel
theorem dX12_runBehind_63 : decode cX12_runBehind 63 = .ok (.goto 6, 3) := by decide +kernel
theorem dX12_runBehind_66 : decode cX12_runBehind 66 = .ok (.iload_n 3, 1) := by decide +kernel
theorem dX12_runBehind_67 : decode cX12_runBehind 67 = .ok (.iconst 5, 1) := by decide +kernel
theorem dX12_runBehind_68 : decode cX12_runBehind 68 = .ok (.iadd, 1) := by decide +kernel
theorem dX12_runBehind_69 : decode cX12_runBehind 69 = .ok (.ireturn, 1) := by decide +kernel
set_option maxHeartbeats 4000000 in
set_option maxRecDepth 100000 in
theorem sX12_runBehind (l : Launch) (dC : Nat → ClassId) (dI : Nat → Nat → Nat) (h0 : Nat) (mi : Nat → Int32) (mr : Nat → Nat) (km : Nat → ClassId) (fm_trust : Nat → Int32) (fm_letter : Nat → Int32) (fm_reportPlace : Nat → Int32) (fm_reportKind : Nat → Int32) (fm_struck : Nat → Int32) (fm_reportMonth : Nat → Int32) (fm_reportDay : Nat → Int32) (fm_reportKnown : Nat → Int32) (fm_deedMonth : Nat → Int32) (fm_deedDay : Nat → Int32) (fm_deedLong : Nat → Int32) (fm_deedKind : Nat → Int32) (fm_kept : Nat → Int32) (fm_tape : Nat → Int32) (fm_must : Nat → Int32) (fm_least : Nat → Int32) (fm_pin : Nat → Int32) (fm_ways : Nat → Int32) (fm_verdict : Nat → Int32) (fm_row : Nat → Int32) (fm_official : Nat → Int32) (fm_aside : Nat → Int32) (fm_worth : Nat → Int32) (fm_out : Nat → Int32) (p1 : Int32) (p2 : Int32) (gmi_0 : gi (mi 0) 0 24) (gmi_1 : gi (mi 1) 0 5) (gmi_2 : gi (mi 2) 0 5) (gmi_4 : gi (mi 4) 0 1) (gmi_7 : gi (mi 7) 0 6) (gmi_10 : gi (mi 10) 0 24) (gmi_17 : gi (mi 17) 0 8) (gmi_23 : gi (mi 23) 0 300) (gmi_24 : gi (mi 24) 0 1) (gmi_26 : gi (mi 26) 0 1600) (gmi_29 : gi (mi 29) 0 1600) (gmi_30 : gi (mi 30) 0 1600) (gmi_33 : gi (mi 33) 0 1) (gmi_37 : gi (mi 37) 0 1) (gmi_41 : gi (mi 41) 0 24) (gmi_50 : gi (mi 50) 0 1) (gmi_51 : gi (mi 51) 0 1) (gmi_56 : gi (mi 56) 0 80) (gp1 : gi p1 (-1) 10) (gp2 : gi p2 0 1) : Met l yX12_runBehind (.code yX12_runBehind cX12_runBehind 4 (some .int) :: wsGB) ({ frames := 0, cells := 0, slots := 0, locals := 0 }) (va_Pc [.ref h0, .int p1, .int p2] (fun U => va_P (dC, dI) vwCl (MWn h0 mr km (mi 0) (mi 1) (mi 2) (mi 3) (mi 4) (mi 5) (mi 6) (mi 7) (mi 10) (mi 17) (mi 23) (mi 24) (mi 26) (mi 27) (mi 28) (mi 29) (mi 30) (mi 31) (mi 32) (mi 33) (mi 37) (mi 41) (mi 42) (mi 43) (mi 44) (mi 45) (mi 47) (mi 48) (mi 49) (mi 50) (mi 51) (mi 54) (mi 56) fm_trust fm_letter fm_reportPlace fm_reportKind fm_struck fm_reportMonth fm_reportDay fm_reportKnown fm_deedMonth fm_deedDay fm_deedLong fm_deedKind fm_kept fm_tape fm_must fm_least fm_pin fm_ways fm_verdict fm_row fm_official fm_aside fm_worth fm_out) U.heap ∧ va_K (dC, dI) vwCl (MT km) U)) (va_Qi (fun (r : Int32) (u : Unit) => gi r (-1) 10) (fun _ _ => True) (fun _ => False)) 0 0 (fun _ => False) := by
  refine Met.ofW (cc := cX12_runBehind) (maxL := 4) (ret := (some .int)) (by decide) rfl ?_
  intro p e s m args below meth c s₁ B hml hv
  obtain ⟨rfl, hP, hK⟩ := hv
  have hx := B.exec
  have hb := B.bytes
  have hr := B.returns
  have hts := atoms_spec (ws := (.code yX12_runBehind cX12_runBehind 4 (some .int) :: wsGB)) B.pre
  have hown : s.vm.findClass RX12 = some m.cls := findClass_of_methodNamed B.named
  have hlocks := B.notSynchronized
  have hS : va_S (fun _ => False) s.heap s.heap [] := va_S.rf
  have hl := lv_entry ([.ref h0, .int p1, .int p2]) (n := 4) (Nat.le_of_ble_eq_true rfl)
  rw [lg_entry_eq]
  generalize (lg_sl ([.ref h0, .int p1, .int p2]) ++ List.replicate (4 - (lg_sl ([.ref h0, .int p1, .int p2])).length) Slot.unset).toArray = ls at hl ⊢
  have hl : lv_has ls 4 [(0, .ref h0), (1, .int p1), (2, .int p2)] := hl
  refine lv_iload_n hx hb dX12_runBehind_0 rfl (lv_at hl 2 rfl) ?_
  refine lv_iconst (v := 1) hx hb dX12_runBehind_1 (by decide) ?_
  refine lv_icmp_ne (tgt := 20) hx hb dX12_runBehind_2 (by decide) (fun c_34 => ?_) (fun c_34 => ?_)
  · have g_35 : gi p2 0 0 := gi_ne_hi c_34 gp2 (gi_c 1 1 (by decide)) (by decide)
    refine lv_iload_n hx hb dX12_runBehind_20 rfl (lv_at hl 1 rfl) ?_
    refine lv_iconst (v := 5) hx hb dX12_runBehind_21 (by decide) ?_
    refine lv_icmp_le (tgt := 33) hx hb dX12_runBehind_22 (by decide) (fun c_36 => ?_) (fun c_36 => ?_)
    · have g_37 : gi p1 (-1) 5 := gi_le_l c_36 gp1 (gi_c 5 5 (by decide))
      refine lv_iconst (v := 1) hx hb dX12_runBehind_33 (by decide) ?_
      refine lv_istore_n (lv' := [(3, .int 1), (0, .ref h0), (1, .int p1), (2, .int p2)]) hx hb dX12_runBehind_34 rfl hl (by decide) rfl (fun ls hl => ?_)
      refine lv_iload_n hx hb dX12_runBehind_35 rfl (lv_at hl 0 rfl) ?_
      refine lv_iload_n hx hb dX12_runBehind_36 rfl (lv_at hl 3 rfl) ?_
      refine lv_iconst (v := 1) hx hb dX12_runBehind_37 (by decide) ?_
      refine lv_icmp_ne (tgt := 48) hx hb dX12_runBehind_38 (by decide) (fun c_38 => ?_) (fun c_38 => absurd c_38 (gi_no_eq g_35 (gi_c 1 1 (by decide)) (by decide)))
      refine lv_aload_n hx hb dX12_runBehind_48 rfl (lv_at hl 1 rfl) ?_
      refine va_get (D := (dC, dI)) (ci := 12) (v := .int (mi 2)) (C := RX12) (T := TX12) (N := 57) hx hb hts (fun w h => List.mem_cons_of_mem _ (jnGB_X12 w h)) hown hK hP 0 rfl rfl 2 (by decide) (hts _ (List.mem_cons_of_mem _ mGB_105)) (fun _ h9 => h9) rfl dX12_runBehind_49 ?_
      refine lv_icmp_le (tgt := 57) hx hb dX12_runBehind_52 (by decide) (fun c_39 => ?_) (fun c_39 => ?_)
      · have g_40 : gi (mi 2) 1 5 := gi_le_r c_39 (gi_c 1 1 (by decide)) gmi_2
        refine lv_iload_n hx hb dX12_runBehind_57 rfl (lv_at hl 3 rfl) ?_
        refine lv_iconst (v := 1) hx hb dX12_runBehind_58 (by decide) ?_
        refine lv_icmp_ne (tgt := 66) hx hb dX12_runBehind_59 (by decide) (fun c_41 => ?_) (fun c_41 => absurd c_41 (gi_no_eq g_35 (gi_c 1 1 (by decide)) (by decide)))
        refine lv_iload_n hx hb dX12_runBehind_66 rfl (lv_at hl 0 rfl) ?_
        refine lv_iconst (v := 5) hx hb dX12_runBehind_67 (by decide) ?_
        refine lv_iadd hx hb dX12_runBehind_68 ?_
        refine gz_topi (y := 6) (by decide) ?_
        exact W.iret (v := 6) hx hb hr (fun t ht hW => ⟨⟨6, (), rfl, (gi_w (gi_c 6 6 (by decide)) (by decide)), trivial⟩, hS.F ht⟩) hS.2.2 dX12_runBehind_69
      · have g_42 : gi (mi 2) 0 0 := gi_lt_l (Int32.not_le.mp c_39) gmi_2 (gi_c 1 1 (by decide)) (by decide)
        refine lv_iconst (v := (-1)) hx hb dX12_runBehind_55 (by decide) ?_
        exact W.iret (v := (-1)) hx hb hr (fun t ht hW => ⟨⟨(-1), (), rfl, (gi_w (gi_c (-1) (-1) (by decide)) (by decide)), trivial⟩, hS.F ht⟩) hS.2.2 dX12_runBehind_56
    · have g_43 : gi p1 6 10 := gi_lt_r (Int32.not_le.mp c_36) (gi_c 5 5 (by decide)) gp1 (by decide)
      refine lv_iload_n hx hb dX12_runBehind_25 rfl (lv_at hl 1 rfl) ?_
      refine lv_iconst (v := 5) hx hb dX12_runBehind_26 (by decide) ?_
      refine lv_isub hx hb dX12_runBehind_27 ?_
      refine lv_topi (fun x_44 ex_44 => ?_)
      have gx_44 : gi x_44 1 5 := gi_sub ex_44 g_43 (gi_c 5 5 (by decide)) (by decide)
      refine lv_iconst (v := 1) hx hb dX12_runBehind_28 (by decide) ?_
      refine lv_iadd hx hb dX12_runBehind_29 ?_
      refine lv_topi (fun x_45 ex_45 => ?_)
      have gx_45 : gi x_45 2 6 := gi_add ex_45 gx_44 (gi_c 1 1 (by decide)) (by decide)
      refine lv_goto (tgt := 34) hx hb dX12_runBehind_30 (by decide) ?_
      refine lv_istore_n (lv' := [(3, .int x_45), (0, .ref h0), (1, .int p1), (2, .int p2)]) hx hb dX12_runBehind_34 rfl hl (by decide) rfl (fun ls hl => ?_)
      refine lv_iload_n hx hb dX12_runBehind_35 rfl (lv_at hl 0 rfl) ?_
      refine lv_iload_n hx hb dX12_runBehind_36 rfl (lv_at hl 3 rfl) ?_
      refine lv_iconst (v := 1) hx hb dX12_runBehind_37 (by decide) ?_
      refine lv_icmp_ne (tgt := 48) hx hb dX12_runBehind_38 (by decide) (fun c_46 => ?_) (fun c_46 => absurd c_46 (gi_no_eq g_35 (gi_c 1 1 (by decide)) (by decide)))
      refine lv_aload_n hx hb dX12_runBehind_48 rfl (lv_at hl 1 rfl) ?_
      refine va_get (D := (dC, dI)) (ci := 12) (v := .int (mi 2)) (C := RX12) (T := TX12) (N := 57) hx hb hts (fun w h => List.mem_cons_of_mem _ (jnGB_X12 w h)) hown hK hP 0 rfl rfl 2 (by decide) (hts _ (List.mem_cons_of_mem _ mGB_105)) (fun _ h9 => h9) rfl dX12_runBehind_49 ?_
      refine lv_icmp_le (tgt := 57) hx hb dX12_runBehind_52 (by decide) (fun c_47 => ?_) (fun c_47 => ?_)
      · have g_48 : gi x_45 2 5 := gi_le_l c_47 gx_45 gmi_2
        have g_49 : gi (mi 2) 2 5 := gi_le_r c_47 gx_45 gmi_2
        refine lv_iload_n hx hb dX12_runBehind_57 rfl (lv_at hl 3 rfl) ?_
        refine lv_iconst (v := 1) hx hb dX12_runBehind_58 (by decide) ?_
        refine lv_icmp_ne (tgt := 66) hx hb dX12_runBehind_59 (by decide) (fun c_50 => ?_) (fun c_50 => absurd c_50 (gi_no_eq g_35 (gi_c 1 1 (by decide)) (by decide)))
        refine lv_iload_n hx hb dX12_runBehind_66 rfl (lv_at hl 0 rfl) ?_
        refine lv_iconst (v := 5) hx hb dX12_runBehind_67 (by decide) ?_
        refine lv_iadd hx hb dX12_runBehind_68 ?_
        refine lv_topi (fun x_51 ex_51 => ?_)
        have gx_51 : gi x_51 7 10 := gi_add ex_51 g_48 (gi_c 5 5 (by decide)) (by decide)
        exact W.iret (v := x_51) hx hb hr (fun t ht hW => ⟨⟨x_51, (), rfl, (gi_w gx_51 (by decide)), trivial⟩, hS.F ht⟩) hS.2.2 dX12_runBehind_69
      · refine lv_iconst (v := (-1)) hx hb dX12_runBehind_55 (by decide) ?_
        exact W.iret (v := (-1)) hx hb hr (fun t ht hW => ⟨⟨(-1), (), rfl, (gi_w (gi_c (-1) (-1) (by decide)) (by decide)), trivial⟩, hS.F ht⟩) hS.2.2 dX12_runBehind_56
  · have g_52 : gi p2 1 1 := gi_eq c_34 (gi_c 1 1 (by decide))
    refine lv_iload_n hx hb dX12_runBehind_5 rfl (lv_at hl 1 rfl) ?_
    refine lv_iconst (v := 5) hx hb dX12_runBehind_6 (by decide) ?_
    refine lv_icmp_gt (tgt := 16) hx hb dX12_runBehind_7 (by decide) (fun c_53 => ?_) (fun c_53 => ?_)
    · have g_54 : gi p1 6 10 := gi_lt_r c_53 (gi_c 5 5 (by decide)) gp1 (by decide)
      refine lv_iconst (v := 1) hx hb dX12_runBehind_16 (by decide) ?_
      refine lv_goto (tgt := 34) hx hb dX12_runBehind_17 (by decide) ?_
      refine lv_istore_n (lv' := [(3, .int 1), (0, .ref h0), (1, .int p1), (2, .int p2)]) hx hb dX12_runBehind_34 rfl hl (by decide) rfl (fun ls hl => ?_)
      refine lv_iload_n hx hb dX12_runBehind_35 rfl (lv_at hl 0 rfl) ?_
      refine lv_iload_n hx hb dX12_runBehind_36 rfl (lv_at hl 3 rfl) ?_
      refine lv_iconst (v := 1) hx hb dX12_runBehind_37 (by decide) ?_
      refine lv_icmp_ne (tgt := 48) hx hb dX12_runBehind_38 (by decide) (fun c_55 => absurd (gi_is_eq g_52 (gi_c 1 1 (by decide))) c_55) (fun c_55 => ?_)
      refine lv_aload_n hx hb dX12_runBehind_41 rfl (lv_at hl 1 rfl) ?_
      refine va_get (D := (dC, dI)) (ci := 12) (v := .int (mi 1)) (C := RX12) (T := TX12) (N := 57) hx hb hts (fun w h => List.mem_cons_of_mem _ (jnGB_X12 w h)) hown hK hP 0 rfl rfl 1 (by decide) (hts _ (List.mem_cons_of_mem _ mGB_104)) (fun _ h9 => h9) rfl dX12_runBehind_42 ?_
      refine lv_goto (tgt := 52) hx hb dX12_runBehind_45 (by decide) ?_
      refine lv_icmp_le (tgt := 57) hx hb dX12_runBehind_52 (by decide) (fun c_56 => ?_) (fun c_56 => ?_)
      · have g_57 : gi (mi 1) 1 5 := gi_le_r c_56 (gi_c 1 1 (by decide)) gmi_1
        refine lv_iload_n hx hb dX12_runBehind_57 rfl (lv_at hl 3 rfl) ?_
        refine lv_iconst (v := 1) hx hb dX12_runBehind_58 (by decide) ?_
        refine lv_icmp_ne (tgt := 66) hx hb dX12_runBehind_59 (by decide) (fun c_58 => absurd (gi_is_eq g_52 (gi_c 1 1 (by decide))) c_58) (fun c_58 => ?_)
        refine lv_iload_n hx hb dX12_runBehind_62 rfl (lv_at hl 0 rfl) ?_
        refine lv_goto (tgt := 69) hx hb dX12_runBehind_63 (by decide) ?_
        exact W.iret (v := 1) hx hb hr (fun t ht hW => ⟨⟨1, (), rfl, (gi_w (gi_c 1 1 (by decide)) (by decide)), trivial⟩, hS.F ht⟩) hS.2.2 dX12_runBehind_69
      · have g_59 : gi (mi 1) 0 0 := gi_lt_l (Int32.not_le.mp c_56) gmi_1 (gi_c 1 1 (by decide)) (by decide)
        refine lv_iconst (v := (-1)) hx hb dX12_runBehind_55 (by decide) ?_
        exact W.iret (v := (-1)) hx hb hr (fun t ht hW => ⟨⟨(-1), (), rfl, (gi_w (gi_c (-1) (-1) (by decide)) (by decide)), trivial⟩, hS.F ht⟩) hS.2.2 dX12_runBehind_56
    · have g_60 : gi p1 (-1) 5 := gi_le_l (Int32.not_lt.mp c_53) gp1 (gi_c 5 5 (by decide))
      refine lv_iload_n hx hb dX12_runBehind_10 rfl (lv_at hl 1 rfl) ?_
      refine lv_iconst (v := 1) hx hb dX12_runBehind_11 (by decide) ?_
      refine lv_iadd hx hb dX12_runBehind_12 ?_
      refine lv_topi (fun x_61 ex_61 => ?_)
      have gx_61 : gi x_61 0 6 := gi_add ex_61 g_60 (gi_c 1 1 (by decide)) (by decide)
      refine lv_goto (tgt := 34) hx hb dX12_runBehind_13 (by decide) ?_
      refine lv_istore_n (lv' := [(3, .int x_61), (0, .ref h0), (1, .int p1), (2, .int p2)]) hx hb dX12_runBehind_34 rfl hl (by decide) rfl (fun ls hl => ?_)
      refine lv_iload_n hx hb dX12_runBehind_35 rfl (lv_at hl 0 rfl) ?_
      refine lv_iload_n hx hb dX12_runBehind_36 rfl (lv_at hl 3 rfl) ?_
      refine lv_iconst (v := 1) hx hb dX12_runBehind_37 (by decide) ?_
      refine lv_icmp_ne (tgt := 48) hx hb dX12_runBehind_38 (by decide) (fun c_62 => absurd (gi_is_eq g_52 (gi_c 1 1 (by decide))) c_62) (fun c_62 => ?_)
      refine lv_aload_n hx hb dX12_runBehind_41 rfl (lv_at hl 1 rfl) ?_
      refine va_get (D := (dC, dI)) (ci := 12) (v := .int (mi 1)) (C := RX12) (T := TX12) (N := 57) hx hb hts (fun w h => List.mem_cons_of_mem _ (jnGB_X12 w h)) hown hK hP 0 rfl rfl 1 (by decide) (hts _ (List.mem_cons_of_mem _ mGB_104)) (fun _ h9 => h9) rfl dX12_runBehind_42 ?_
      refine lv_goto (tgt := 52) hx hb dX12_runBehind_45 (by decide) ?_
      refine lv_icmp_le (tgt := 57) hx hb dX12_runBehind_52 (by decide) (fun c_63 => ?_) (fun c_63 => ?_)
      · have g_64 : gi x_61 0 5 := gi_le_l c_63 gx_61 gmi_1
        refine lv_iload_n hx hb dX12_runBehind_57 rfl (lv_at hl 3 rfl) ?_
        refine lv_iconst (v := 1) hx hb dX12_runBehind_58 (by decide) ?_
        refine lv_icmp_ne (tgt := 66) hx hb dX12_runBehind_59 (by decide) (fun c_65 => absurd (gi_is_eq g_52 (gi_c 1 1 (by decide))) c_65) (fun c_65 => ?_)
        refine lv_iload_n hx hb dX12_runBehind_62 rfl (lv_at hl 0 rfl) ?_
        refine lv_goto (tgt := 69) hx hb dX12_runBehind_63 (by decide) ?_
        exact W.iret (v := x_61) hx hb hr (fun t ht hW => ⟨⟨x_61, (), rfl, (gi_w g_64 (by decide)), trivial⟩, hS.F ht⟩) hS.2.2 dX12_runBehind_69
      · have g_66 : gi x_61 1 6 := gi_lt_r (Int32.not_le.mp c_63) gmi_1 gx_61 (by decide)
        refine lv_iconst (v := (-1)) hx hb dX12_runBehind_55 (by decide) ?_
        exact W.iret (v := (-1)) hx hb hr (fun t ht hW => ⟨⟨(-1), (), rfl, (gi_w (gi_c (-1) (-1) (by decide)) (by decide)), trivial⟩, hS.F ht⟩) hS.2.2 dX12_runBehind_56
theorem dX12_waysBy_0 : decode cX12_waysBy 0 = .ok (.aload_n 0, 1) := by decide +kernel
theorem dX12_waysBy_1 : decode cX12_waysBy 1 = .ok (.iload_n 3, 1) := by decide +kernel
theorem dX12_waysBy_2 : decode cX12_waysBy 2 = .ok (.iload 4, 2) := by decide +kernel
theorem dX12_waysBy_4 : decode cX12_waysBy 4 = .ok (.invokevirtual 318, 3) := by decide +kernel
theorem dX12_waysBy_7 : decode cX12_waysBy 7 = .ok (.istore 5, 2) := by decide +kernel
theorem dX12_waysBy_9 : decode cX12_waysBy 9 = .ok (.iload 5, 2) := by decide +kernel
theorem dX12_waysBy_11 : decode cX12_waysBy 11 = .ok (.iconst (-1), 1) := by decide +kernel
theorem dX12_waysBy_12 : decode cX12_waysBy 12 = .ok (.if_icmp .ne 7, 3) := by decide +kernel
theorem dX12_waysBy_15 : decode cX12_waysBy 15 = .ok (.iconst 0, 1) := by decide +kernel
theorem dX12_waysBy_16 : decode cX12_waysBy 16 = .ok (.goto 20, 3) := by decide +kernel
theorem dX12_waysBy_19 : decode cX12_waysBy 19 = .ok (.aload_n 0, 1) := by decide +kernel
theorem dX12_waysBy_20 : decode cX12_waysBy 20 = .ok (.getfield 66, 3) := by decide +kernel
theorem dX12_waysBy_23 : decode cX12_waysBy 23 = .ok (.iload_n 1, 1) := by decide +kernel
theorem dX12_waysBy_24 : decode cX12_waysBy 24 = .ok (.iconst 1, 1) := by decide +kernel
theorem dX12_waysBy_25 : decode cX12_waysBy 25 = .ok (.iadd, 1) := by decide +kernel
theorem dX12_waysBy_26 : decode cX12_waysBy 26 = .ok (.iload_n 2, 1) := by decide +kernel
theorem dX12_waysBy_27 : decode cX12_waysBy 27 = .ok (.iload 4, 2) := by decide +kernel
theorem dX12_waysBy_29 : decode cX12_waysBy 29 = .ok (.iadd, 1) := by decide +kernel
theorem dX12_waysBy_30 : decode cX12_waysBy 30 = .ok (.iload 5, 2) := by decide +kernel
theorem dX12_waysBy_32 : decode cX12_waysBy 32 = .ok (.invokestatic 321, 3) := by decide +kernel
theorem dX12_waysBy_35 : decode cX12_waysBy 35 = .ok (.iaload, 1) := by decide +kernel
theorem dX12_waysBy_36 : decode cX12_waysBy 36 = .ok (.ireturn, 1) := by decide +kernel
set_option maxHeartbeats 4000000 in
set_option maxRecDepth 100000 in
theorem sX12_waysBy (l : Launch) (dC : Nat → ClassId) (dI : Nat → Nat → Nat) (h0 : Nat) (mi : Nat → Int32) (mr : Nat → Nat) (km : Nat → ClassId) (fm_ways : Nat → Int32) (fm_trust : Nat → Int32) (fm_letter : Nat → Int32) (fm_reportPlace : Nat → Int32) (fm_reportKind : Nat → Int32) (fm_struck : Nat → Int32) (fm_reportMonth : Nat → Int32) (fm_reportDay : Nat → Int32) (fm_reportKnown : Nat → Int32) (fm_deedMonth : Nat → Int32) (fm_deedDay : Nat → Int32) (fm_deedLong : Nat → Int32) (fm_deedKind : Nat → Int32) (fm_kept : Nat → Int32) (fm_tape : Nat → Int32) (fm_must : Nat → Int32) (fm_least : Nat → Int32) (fm_pin : Nat → Int32) (fm_verdict : Nat → Int32) (fm_row : Nat → Int32) (fm_official : Nat → Int32) (fm_aside : Nat → Int32) (fm_worth : Nat → Int32) (fm_out : Nat → Int32) (p1 : Int32) (p2 : Int32) (p3 : Int32) (p4 : Int32) (gmi_0 : gi (mi 0) 0 24) (gmi_1 : gi (mi 1) 0 5) (gmi_2 : gi (mi 2) 0 5) (gmi_4 : gi (mi 4) 0 1) (gmi_7 : gi (mi 7) 0 6) (gmi_10 : gi (mi 10) 0 24) (gmi_17 : gi (mi 17) 0 8) (gmi_23 : gi (mi 23) 0 300) (gmi_24 : gi (mi 24) 0 1) (gmi_26 : gi (mi 26) 0 1600) (gmi_29 : gi (mi 29) 0 1600) (gmi_30 : gi (mi 30) 0 1600) (gmi_33 : gi (mi 33) 0 1) (gmi_37 : gi (mi 37) 0 1) (gmi_41 : gi (mi 41) 0 24) (gmi_50 : gi (mi 50) 0 1) (gmi_51 : gi (mi 51) 0 1) (gmi_56 : gi (mi 56) 0 80) (gp1 : gi p1 0 23) (gp2 : gi p2 0 23) (gp3 : gi p3 (-1) 10) (gp4 : gi p4 0 1) : Met l yX12_waysBy (.code yX12_waysBy cX12_waysBy 6 (some .int) :: wsGB) ({ frames := 1, cells := 0, slots := 0, locals := 23 }) (va_Pc [.ref h0, .int p1, .int p2, .int p3, .int p4] (fun U => va_P (dC, dI) vwCl (MWn h0 mr km (mi 0) (mi 1) (mi 2) (mi 3) (mi 4) (mi 5) (mi 6) (mi 7) (mi 10) (mi 17) (mi 23) (mi 24) (mi 26) (mi 27) (mi 28) (mi 29) (mi 30) (mi 31) (mi 32) (mi 33) (mi 37) (mi 41) (mi 42) (mi 43) (mi 44) (mi 45) (mi 47) (mi 48) (mi 49) (mi 50) (mi 51) (mi 54) (mi 56) fm_trust fm_letter fm_reportPlace fm_reportKind fm_struck fm_reportMonth fm_reportDay fm_reportKnown fm_deedMonth fm_deedDay fm_deedLong fm_deedKind fm_kept fm_tape fm_must fm_least fm_pin fm_ways fm_verdict fm_row fm_official fm_aside fm_worth fm_out) U.heap ∧ va_K (dC, dI) vwCl (MT km) U)) (va_Qi (fun (r : Int32) (u : Unit) => gi r (-2147483648) 2147483647) (fun _ _ => True) (fun _ => False)) 0 0 (fun _ => False) := by
  refine Met.ofW (cc := cX12_waysBy) (maxL := 6) (ret := (some .int)) (by decide) rfl ?_
  intro p e s m args below meth c s₁ B hml hv
  obtain ⟨rfl, hP, hK⟩ := hv
  have hx := B.exec
  have hb := B.bytes
  have hr := B.returns
  have hts := atoms_spec (ws := (.code yX12_waysBy cX12_waysBy 6 (some .int) :: wsGB)) B.pre
  have hown : s.vm.findClass RX12 = some m.cls := findClass_of_methodNamed B.named
  have hlocks := B.notSynchronized
  have hS : va_S (fun _ => False) s.heap s.heap [] := va_S.rf
  have hl := lv_entry ([.ref h0, .int p1, .int p2, .int p3, .int p4]) (n := 6) (Nat.le_of_ble_eq_true rfl)
  rw [lg_entry_eq]
  generalize (lg_sl ([.ref h0, .int p1, .int p2, .int p3, .int p4]) ++ List.replicate (6 - (lg_sl ([.ref h0, .int p1, .int p2, .int p3, .int p4])).length) Slot.unset).toArray = ls at hl ⊢
  have hl : lv_has ls 6 [(0, .ref h0), (1, .int p1), (2, .int p2), (3, .int p3), (4, .int p4)] := hl
  refine lv_aload_n hx hb dX12_waysBy_0 rfl (lv_at hl 0 rfl) ?_
  refine lv_iload_n hx hb dX12_waysBy_1 rfl (lv_at hl 3 rfl) ?_
  refine lv_iload hx hb dX12_waysBy_2 (lv_at hl 4 rfl) ?_
  refine va_calli (va_runV (As := [.int p3, .int p4]) (rest := []) ⟨hx, hb, hml, hown, hts⟩ (sX12_runBehind l dC dI h0 mi mr km fm_trust fm_letter fm_reportPlace fm_reportKind fm_struck fm_reportMonth fm_reportDay fm_reportKnown fm_deedMonth fm_deedDay fm_deedLong fm_deedKind fm_kept fm_tape fm_must fm_least fm_pin fm_ways fm_verdict fm_row fm_official fm_aside fm_worth fm_out p3 p4 gmi_0 gmi_1 gmi_2 gmi_4 gmi_7 gmi_10 gmi_17 gmi_23 gmi_24 gmi_26 gmi_29 gmi_30 gmi_33 gmi_37 gmi_41 gmi_50 gmi_51 gmi_56 gp3 gp4) (cwV 2 hts (gz_gV mGB_311 mGB_312 mGB_313 mGB_1 mGB_314 goodGB) rfl rfl rfl (by decide +kernel) ⟨Nat.le_of_ble_eq_true rfl, Nat.le_of_ble_eq_true rfl⟩) ⟨bl_R, mw_recv hK hP, fun U hU hW => ⟨rfl, by rw [hU]; exact hP, va_K.moved hW.alike hK⟩⟩ rfl rfl hl.1 rfl (lv_room (Nat.le_of_ble_eq_true rfl)) dX12_waysBy_4 ⟨Nat.zero_le _, Nat.zero_le _⟩) hS (fun q _ h => h.elim) (fun q h => h.elim) (fun r_9 u t H1 locs ht hvm hw hB hz1 hk1 hS => ?_)
  have hP := gz_keep hP hk1
  generalize H1 = H at hP hS ⊢
  have gr_9 : gi r_9 (-1) 10 := hw
  refine lv_istore (lv' := [(5, .int r_9), (0, .ref h0), (1, .int p1), (2, .int p2), (3, .int p3), (4, .int p4)]) hx hb dX12_waysBy_7 hl (by decide) rfl (fun ls hl => ?_)
  refine lv_iload hx hb dX12_waysBy_9 (lv_at hl 0 rfl) ?_
  refine lv_iconst (v := (-1)) hx hb dX12_waysBy_11 (by decide) ?_
  refine lv_icmp_ne (tgt := 19) hx hb dX12_waysBy_12 (by decide) (fun c_10 => ?_) (fun c_10 => ?_)
  · have g_11 : gi r_9 0 10 := gi_ne_lo c_10 gr_9 (gi_c (-1) (-1) (by decide)) (by decide)
    refine lv_aload_n hx hb dX12_waysBy_19 rfl (lv_at hl 1 rfl) ?_
    refine va_get (D := (dC, dI)) (ci := 12) (v := .ref (mr 17)) (C := RX12) (T := TX12) (N := 57) hx hb hts (fun w h => List.mem_cons_of_mem _ (jnGB_X12 w h)) hown hK hP 0 rfl rfl 38 (by decide) (hts _ (List.mem_cons_of_mem _ mGB_29)) (fun _ h9 => h9) rfl dX12_waysBy_20 ?_
    refine lv_iload_n hx hb dX12_waysBy_23 rfl (lv_at hl 2 rfl) ?_
    refine lv_iconst (v := 1) hx hb dX12_waysBy_24 (by decide) ?_
    refine lv_iadd hx hb dX12_waysBy_25 ?_
    refine lv_topi (fun x_12 ex_12 => ?_)
    have gx_12 : gi x_12 1 24 := gi_add ex_12 gp1 (gi_c 1 1 (by decide)) (by decide)
    refine lv_iload_n hx hb dX12_waysBy_26 rfl (lv_at hl 3 rfl) ?_
    refine lv_iload hx hb dX12_waysBy_27 (lv_at hl 5 rfl) ?_
    refine lv_iadd hx hb dX12_waysBy_29 ?_
    refine lv_topi (fun x_13 ex_13 => ?_)
    have gx_13 : gi x_13 0 24 := gi_add ex_13 gp2 gp4 (by decide)
    refine lv_iload hx hb dX12_waysBy_30 (lv_at hl 0 rfl) ?_
    have hPc := hP.sub (ws' := []) [] rfl
    have hKc := hK.sub (tys' := []) [] rfl
    refine va_calli (va_runS (As := [.int x_12, .int x_13, .int r_9]) (rest := [.ref (mr 17)]) ⟨hx, hb, hml, hown, hts⟩ (sX12_placeOf l dC dI x_12 x_13 r_9 (gi_w gx_12 (by decide)) gx_13 g_11) (cwS 3 hts (gz_gS mGB_315 mGB_316 mGB_1 mGB_317 goodGB) rfl rfl rfl (by decide +kernel) ⟨Nat.le_of_ble_eq_true rfl, Nat.le_of_ble_eq_true rfl⟩) ⟨bl_R, fun U hU hW => ⟨rfl, by rw [hU]; exact hPc, va_K.moved hW.alike hKc⟩⟩ rfl rfl hl.1 rfl (lv_room (Nat.le_of_ble_eq_true rfl)) dX12_waysBy_32 ⟨Nat.zero_le _, Nat.zero_le _⟩) hS (fun q _ h => h.elim) (fun q h => h.elim) (fun r_14 u t H1 locs ht hvm hw hB hz1 hk1 hS => ?_)
    have hP := gz_keep hP hk1
    generalize H1 = H at hP hS ⊢
    have gr_14 : gi r_14 0 6874 := hw
    refine va_iald hx hb hK hP 18 17 rfl rfl (gi_in gr_14 (by decide)) dX12_waysBy_35 ?_
    refine lv_topi (fun x_15 ex_15 => ?_)
    exact W.iret (v := x_15) hx hb hr (fun t ht hW => ⟨⟨x_15, (), rfl, (gi_any x_15), trivial⟩, hS.F ht⟩) hS.2.2 dX12_waysBy_36
  · have g_16 : gi r_9 (-1) (-1) := gi_eq c_10 (gi_c (-1) (-1) (by decide))
    refine lv_iconst (v := 0) hx hb dX12_waysBy_15 (by decide) ?_
    refine lv_goto (tgt := 36) hx hb dX12_waysBy_16 (by decide) ?_
    exact W.iret (v := 0) hx hb hr (fun t ht hW => ⟨⟨0, (), rfl, (gi_any 0), trivial⟩, hS.F ht⟩) hS.2.2 dX12_waysBy_36
theorem dX12_counts_0 : decode cX12_counts 0 = .ok (.aload_n 0, 1) := by decide +kernel
theorem dX12_counts_1 : decode cX12_counts 1 = .ok (.getfield 117, 3) := by decide +kernel
theorem dX12_counts_4 : decode cX12_counts 4 = .ok (.istore_n 1, 1) := by decide +kernel
theorem dX12_counts_5 : decode cX12_counts 5 = .ok (.iload_n 1, 1) := by decide +kernel
theorem dX12_counts_6 : decode cX12_counts 6 = .ok (.ifCond .lt 120, 3) := by decide +kernel
theorem dX12_counts_9 : decode cX12_counts 9 = .ok (.iconst 0, 1) := by decide +kernel
theorem dX12_counts_10 : decode cX12_counts 10 = .ok (.istore_n 2, 1) := by decide +kernel
theorem dX12_counts_11 : decode cX12_counts 11 = .ok (.iload_n 2, 1) := by decide +kernel
theorem dX12_counts_12 : decode cX12_counts 12 = .ok (.iload_n 1, 1) := by decide +kernel
theorem dX12_counts_13 : decode cX12_counts 13 = .ok (.if_icmp .gt 107, 3) := by decide +kernel
theorem dX12_counts_16 : decode cX12_counts 16 = .ok (.aload_n 0, 1) := by decide +kernel
theorem dX12_counts_17 : decode cX12_counts 17 = .ok (.getfield 312, 3) := by decide +kernel
theorem dX12_counts_20 : decode cX12_counts 20 = .ok (.ifCond .ne 21, 3) := by decide +kernel
theorem dX12_counts_23 : decode cX12_counts 23 = .ok (.aload_n 0, 1) := by decide +kernel
theorem dX12_counts_24 : decode cX12_counts 24 = .ok (.iload_n 1, 1) := by decide +kernel
theorem dX12_counts_25 : decode cX12_counts 25 = .ok (.bipush 29, 2) := by decide +kernel
theorem dX12_counts_27 : decode cX12_counts 27 = .ok (.iload_n 1, 1) := by decide +kernel
theorem dX12_counts_28 : decode cX12_counts 28 = .ok (.imul, 1) := by decide +kernel
theorem dX12_counts_29 : decode cX12_counts 29 = .ok (.iload_n 2, 1) := by decide +kernel
theorem dX12_counts_30 : decode cX12_counts 30 = .ok (.iadd, 1) := by decide +kernel
theorem dX12_counts_31 : decode cX12_counts 31 = .ok (.invokevirtual 325, 3) := by decide +kernel
theorem dX12_counts_34 : decode cX12_counts 34 = .ok (.ifCond .eq 7, 3) := by decide +kernel
theorem dX12_counts_37 : decode cX12_counts 37 = .ok (.iconst 1, 1) := by decide +kernel
theorem dX12_counts_38 : decode cX12_counts 38 = .ok (.goto 4, 3) := by decide +kernel
theorem dX12_counts_41 : decode cX12_counts 41 = .ok (.iconst 0, 1) := by decide +kernel
theorem dX12_counts_42 : decode cX12_counts 42 = .ok (.istore_n 3, 1) := by decide +kernel
theorem dX12_counts_43 : decode cX12_counts 43 = .ok (.iconst 0, 1) := by decide +kernel
theorem dX12_counts_44 : decode cX12_counts 44 = .ok (.istore 4, 2) := by decide +kernel
theorem dX12_counts_46 : decode cX12_counts 46 = .ok (.iload 4, 2) := by decide +kernel
theorem dX12_counts_48 : decode cX12_counts 48 = .ok (.bipush 10, 2) := by decide +kernel
theorem dX12_counts_50 : decode cX12_counts 50 = .ok (.if_icmp .gt 64, 3) := by decide +kernel
theorem dX12_counts_53 : decode cX12_counts 53 = .ok (.iload_n 3, 1) := by decide +kernel
theorem dX12_counts_54 : decode cX12_counts 54 = .ok (.ifCond .ne 7, 3) := by decide +kernel
theorem dX12_counts_57 : decode cX12_counts 57 = .ok (.iconst 0, 1) := by decide +kernel
theorem dX12_counts_58 : decode cX12_counts 58 = .ok (.goto 34, 3) := by decide +kernel
theorem dX12_counts_61 : decode cX12_counts 61 = .ok (.iload_n 1, 1) := by decide +kernel
theorem dX12_counts_62 : decode cX12_counts 62 = .ok (.aload_n 0, 1) := by decide +kernel
theorem dX12_counts_63 : decode cX12_counts 63 = .ok (.getfield 117, 3) := by decide +kernel
theorem dX12_counts_66 : decode cX12_counts 66 = .ok (.if_icmp .ne 7, 3) := by decide +kernel
theorem dX12_counts_69 : decode cX12_counts 69 = .ok (.iconst 1, 1) := by decide +kernel
theorem dX12_counts_70 : decode cX12_counts 70 = .ok (.goto 22, 3) := by decide +kernel
theorem dX12_counts_73 : decode cX12_counts 73 = .ok (.aload_n 0, 1) := by decide +kernel
theorem dX12_counts_74 : decode cX12_counts 74 = .ok (.iload_n 1, 1) := by decide +kernel
theorem dX12_counts_75 : decode cX12_counts 75 = .ok (.iload_n 2, 1) := by decide +kernel
theorem dX12_counts_76 : decode cX12_counts 76 = .ok (.iload 4, 2) := by decide +kernel
theorem dX12_counts_78 : decode cX12_counts 78 = .ok (.iconst 0, 1) := by decide +kernel
theorem dX12_counts_79 : decode cX12_counts 79 = .ok (.invokevirtual 328, 3) := by decide +kernel
theorem dX12_counts_82 : decode cX12_counts 82 = .ok (.aload_n 0, 1) := by decide +kernel
theorem dX12_counts_83 : decode cX12_counts 83 = .ok (.iload_n 1, 1) := by decide +kernel
theorem dX12_counts_84 : decode cX12_counts 84 = .ok (.iload_n 2, 1) := by decide +kernel
theorem dX12_counts_85 : decode cX12_counts 85 = .ok (.iload 4, 2) := by decide +kernel
theorem dX12_counts_87 : decode cX12_counts 87 = .ok (.iconst 1, 1) := by decide +kernel
theorem dX12_counts_88 : decode cX12_counts 88 = .ok (.invokevirtual 328, 3) := by decide +kernel
theorem dX12_counts_91 : decode cX12_counts 91 = .ok (.iadd, 1) := by decide +kernel
theorem dX12_counts_92 : decode cX12_counts 92 = .ok (.istore 5, 2) := by decide +kernel
theorem dX12_counts_94 : decode cX12_counts 94 = .ok (.aload_n 0, 1) := by decide +kernel
theorem dX12_counts_95 : decode cX12_counts 95 = .ok (.getfield 66, 3) := by decide +kernel
theorem dX12_counts_98 : decode cX12_counts 98 = .ok (.iload_n 1, 1) := by decide +kernel
theorem dX12_counts_99 : decode cX12_counts 99 = .ok (.iload_n 2, 1) := by decide +kernel
theorem dX12_counts_100 : decode cX12_counts 100 = .ok (.iload 4, 2) := by decide +kernel
theorem dX12_counts_102 : decode cX12_counts 102 = .ok (.invokestatic 321, 3) := by decide +kernel
theorem dX12_counts_105 : decode cX12_counts 105 = .ok (.iload 5, 2) := by decide +kernel
theorem dX12_counts_107 : decode cX12_counts 107 = .ok (.iastore, 1) := by decide +kernel
theorem dX12_counts_108 : decode cX12_counts 108 = .ok (.iinc 4 1, 3) := by decide +kernel
theorem dX12_counts_111 : decode cX12_counts 111 = .ok (.goto (-65), 3) := by decide +kernel
theorem dX12_counts_114 : decode cX12_counts 114 = .ok (.iinc 2 1, 3) := by decide +kernel
theorem dX12_counts_117 : decode cX12_counts 117 = .ok (.goto (-106), 3) := by decide +kernel
theorem dX12_counts_120 : decode cX12_counts 120 = .ok (.iinc 1 (-1), 3) := by decide +kernel
theorem dX12_counts_123 : decode cX12_counts 123 = .ok (.goto (-118), 3) := by decide +kernel
theorem dX12_counts_126 : decode cX12_counts 126 = .ok (.aload_n 0, 1) := by decide +kernel
theorem dX12_counts_127 : decode cX12_counts 127 = .ok (.getfield 66, 3) := by decide +kernel
theorem dX12_counts_130 : decode cX12_counts 130 = .ok (.iconst 0, 1) := by decide +kernel
theorem dX12_counts_131 : decode cX12_counts 131 = .ok (.iaload, 1) := by decide +kernel
theorem dX12_counts_132 : decode cX12_counts 132 = .ok (.ireturn, 1) := by decide +kernel
set_option maxHeartbeats 4000000 in
set_option maxRecDepth 100000 in
theorem lp_sX12_counts {p : Program} {l : Launch} {e : Env} {R : Room} {s : State} {m : MethodId} {args : Array Value} {below : List Frame} {meth : Method} {c : Code} {Q : State → Prop} {A : Nat → Prop} {cells slots : Nat} {dC : Nat → ClassId} {dI : Nat → Nat → Nat} (h0 : Nat) (mi : Nat → Int32) (mr : Nat → Nat) (km : Nat → ClassId) (fm_must : Nat → Int32) (fm_least : Nat → Int32) (fm_pin : Nat → Int32) (fm_ways : Nat → Int32) (fm_trust : Nat → Int32) (fm_letter : Nat → Int32) (fm_reportPlace : Nat → Int32) (fm_reportKind : Nat → Int32) (fm_struck : Nat → Int32) (fm_reportMonth : Nat → Int32) (fm_reportDay : Nat → Int32) (fm_reportKnown : Nat → Int32) (fm_deedMonth : Nat → Int32) (fm_deedDay : Nat → Int32) (fm_deedLong : Nat → Int32) (fm_deedKind : Nat → Int32) (fm_kept : Nat → Int32) (fm_tape : Nat → Int32) (fm_verdict : Nat → Int32) (fm_row : Nat → Int32) (fm_official : Nat → Int32) (fm_aside : Nat → Int32) (fm_worth : Nat → Int32) (fm_out : Nat → Int32) (gmi_0 : gi (mi 0) 0 24) (gmi_1 : gi (mi 1) 0 5) (gmi_2 : gi (mi 2) 0 5) (gmi_4 : gi (mi 4) 0 1) (gmi_7 : gi (mi 7) 0 6) (gmi_10 : gi (mi 10) 0 24) (gmi_17 : gi (mi 17) 0 8) (gmi_23 : gi (mi 23) 0 300) (gmi_24 : gi (mi 24) 0 1) (gmi_26 : gi (mi 26) 0 1600) (gmi_29 : gi (mi 29) 0 1600) (gmi_30 : gi (mi 30) 0 1600) (gmi_33 : gi (mi 33) 0 1) (gmi_37 : gi (mi 37) 0 1) (gmi_41 : gi (mi 41) 0 24) (gmi_50 : gi (mi 50) 0 1) (gmi_51 : gi (mi 51) 0 1) (gmi_56 : gi (mi 56) 0 80) (hx : p.tables.exec = Jvm.exec) (hb : c.code = cX12_counts) (hml : c.maxLocals = 6) (hown : s.vm.findClass RX12 = some m.cls) (hts : ∀ w ∈ ((.code yX12_counts cX12_counts 6 (some .int) :: wsGB) : List Cond), w.before args s = true) (hK : va_K (dC, dI) vwCl (MT km) s) (hA : ∀ q : Nat, s.heap.size ≤ q → A q) (hRf : 2 ≤ R.frames) (hRl : 48 ≤ R.locals) (hRc : cells ≤ R.cells) (hRs : slots ≤ R.slots) (kr132 : ∀ (v : Int32) (z4 : Nat → Int32) (H : Heap) (locs : List Loc) (ls : Array Slot), va_P (dC, dI) vwCl (MWn h0 mr km (mi 0) (mi 1) (mi 2) (mi 3) (mi 4) (mi 5) (mi 6) (mi 7) (mi 10) (mi 17) (mi 23) (mi 24) (mi 26) (mi 27) (mi 28) (mi 29) (mi 30) (mi 31) (mi 32) (mi 33) (mi 37) (mi 41) (mi 42) (mi 43) (mi 44) (mi 45) (mi 47) (mi 48) (mi 49) (mi 50) (mi 51) (mi 54) (mi 56) fm_trust fm_letter fm_reportPlace fm_reportKind fm_struck fm_reportMonth fm_reportDay fm_reportKnown fm_deedMonth fm_deedDay fm_deedLong fm_deedKind fm_kept fm_tape fm_must fm_least fm_pin z4 fm_verdict fm_row fm_official fm_aside fm_worth fm_out) H → va_D A (MWn h0 mr km (mi 0) (mi 1) (mi 2) (mi 3) (mi 4) (mi 5) (mi 6) (mi 7) (mi 10) (mi 17) (mi 23) (mi 24) (mi 26) (mi 27) (mi 28) (mi 29) (mi 30) (mi 31) (mi 32) (mi 33) (mi 37) (mi 41) (mi 42) (mi 43) (mi 44) (mi 45) (mi 47) (mi 48) (mi 49) (mi 50) (mi 51) (mi 54) (mi 56) fm_trust fm_letter fm_reportPlace fm_reportKind fm_struck fm_reportMonth fm_reportDay fm_reportKnown fm_deedMonth fm_deedDay fm_deedLong fm_deedKind fm_kept fm_tape fm_must fm_least fm_pin z4 fm_verdict fm_row fm_official fm_aside fm_worth fm_out) → va_S A s.heap H locs → lv_has ls 6 [] → W p l e R s m args below meth c H locs cells slots Q (F0 m 132 ls [.int v])) : ∀ z : Nat, (∀ (v1 : Int32) (z4 : Nat → Int32) (H : Heap) (locs : List Loc) (ls : Array Slot), gi v1 (-1) 24 → v1.toInt ≤ (mi 0).toInt → 759 + 758 * v1.toInt < (z : Int) → va_P (dC, dI) vwCl (MWn h0 mr km (mi 0) (mi 1) (mi 2) (mi 3) (mi 4) (mi 5) (mi 6) (mi 7) (mi 10) (mi 17) (mi 23) (mi 24) (mi 26) (mi 27) (mi 28) (mi 29) (mi 30) (mi 31) (mi 32) (mi 33) (mi 37) (mi 41) (mi 42) (mi 43) (mi 44) (mi 45) (mi 47) (mi 48) (mi 49) (mi 50) (mi 51) (mi 54) (mi 56) fm_trust fm_letter fm_reportPlace fm_reportKind fm_struck fm_reportMonth fm_reportDay fm_reportKnown fm_deedMonth fm_deedDay fm_deedLong fm_deedKind fm_kept fm_tape fm_must fm_least fm_pin z4 fm_verdict fm_row fm_official fm_aside fm_worth fm_out) H → va_D A (MWn h0 mr km (mi 0) (mi 1) (mi 2) (mi 3) (mi 4) (mi 5) (mi 6) (mi 7) (mi 10) (mi 17) (mi 23) (mi 24) (mi 26) (mi 27) (mi 28) (mi 29) (mi 30) (mi 31) (mi 32) (mi 33) (mi 37) (mi 41) (mi 42) (mi 43) (mi 44) (mi 45) (mi 47) (mi 48) (mi 49) (mi 50) (mi 51) (mi 54) (mi 56) fm_trust fm_letter fm_reportPlace fm_reportKind fm_struck fm_reportMonth fm_reportDay fm_reportKnown fm_deedMonth fm_deedDay fm_deedLong fm_deedKind fm_kept fm_tape fm_must fm_least fm_pin z4 fm_verdict fm_row fm_official fm_aside fm_worth fm_out) → va_S A s.heap H locs → lv_has ls 6 [(0, .ref h0), (1, .int v1)] → W p l e R s m args below meth c H locs cells slots Q (F0 m 5 ls [])) ∧ (∀ (v1 : Int32) (v2 : Int32) (z4 : Nat → Int32) (H : Heap) (locs : List Loc) (ls : Array Slot), gi v1 0 24 → gi v2 0 25 → v1.toInt ≤ (mi 0).toInt → 702 + 758 * v1.toInt + (-28) * v2.toInt < (z : Int) → va_P (dC, dI) vwCl (MWn h0 mr km (mi 0) (mi 1) (mi 2) (mi 3) (mi 4) (mi 5) (mi 6) (mi 7) (mi 10) (mi 17) (mi 23) (mi 24) (mi 26) (mi 27) (mi 28) (mi 29) (mi 30) (mi 31) (mi 32) (mi 33) (mi 37) (mi 41) (mi 42) (mi 43) (mi 44) (mi 45) (mi 47) (mi 48) (mi 49) (mi 50) (mi 51) (mi 54) (mi 56) fm_trust fm_letter fm_reportPlace fm_reportKind fm_struck fm_reportMonth fm_reportDay fm_reportKnown fm_deedMonth fm_deedDay fm_deedLong fm_deedKind fm_kept fm_tape fm_must fm_least fm_pin z4 fm_verdict fm_row fm_official fm_aside fm_worth fm_out) H → va_D A (MWn h0 mr km (mi 0) (mi 1) (mi 2) (mi 3) (mi 4) (mi 5) (mi 6) (mi 7) (mi 10) (mi 17) (mi 23) (mi 24) (mi 26) (mi 27) (mi 28) (mi 29) (mi 30) (mi 31) (mi 32) (mi 33) (mi 37) (mi 41) (mi 42) (mi 43) (mi 44) (mi 45) (mi 47) (mi 48) (mi 49) (mi 50) (mi 51) (mi 54) (mi 56) fm_trust fm_letter fm_reportPlace fm_reportKind fm_struck fm_reportMonth fm_reportDay fm_reportKnown fm_deedMonth fm_deedDay fm_deedLong fm_deedKind fm_kept fm_tape fm_must fm_least fm_pin z4 fm_verdict fm_row fm_official fm_aside fm_worth fm_out) → va_S A s.heap H locs → lv_has ls 6 [(0, .ref h0), (1, .int v1), (2, .int v2)] → W p l e R s m args below meth c H locs cells slots Q (F0 m 11 ls [])) ∧ (∀ (v1 : Int32) (v2 : Int32) (v3 : Int32) (v4 : Int32) (z4 : Nat → Int32) (H : Heap) (locs : List Loc) (ls : Array Slot), gi v1 0 24 → gi v2 0 24 → gi v3 0 1 → gi v4 0 11 → v1.toInt ≤ (mi 0).toInt → v2.toInt ≤ v1.toInt → 697 + 758 * v1.toInt + (-28) * v2.toInt + (-2) * v4.toInt < (z : Int) → va_P (dC, dI) vwCl (MWn h0 mr km (mi 0) (mi 1) (mi 2) (mi 3) (mi 4) (mi 5) (mi 6) (mi 7) (mi 10) (mi 17) (mi 23) (mi 24) (mi 26) (mi 27) (mi 28) (mi 29) (mi 30) (mi 31) (mi 32) (mi 33) (mi 37) (mi 41) (mi 42) (mi 43) (mi 44) (mi 45) (mi 47) (mi 48) (mi 49) (mi 50) (mi 51) (mi 54) (mi 56) fm_trust fm_letter fm_reportPlace fm_reportKind fm_struck fm_reportMonth fm_reportDay fm_reportKnown fm_deedMonth fm_deedDay fm_deedLong fm_deedKind fm_kept fm_tape fm_must fm_least fm_pin z4 fm_verdict fm_row fm_official fm_aside fm_worth fm_out) H → va_D A (MWn h0 mr km (mi 0) (mi 1) (mi 2) (mi 3) (mi 4) (mi 5) (mi 6) (mi 7) (mi 10) (mi 17) (mi 23) (mi 24) (mi 26) (mi 27) (mi 28) (mi 29) (mi 30) (mi 31) (mi 32) (mi 33) (mi 37) (mi 41) (mi 42) (mi 43) (mi 44) (mi 45) (mi 47) (mi 48) (mi 49) (mi 50) (mi 51) (mi 54) (mi 56) fm_trust fm_letter fm_reportPlace fm_reportKind fm_struck fm_reportMonth fm_reportDay fm_reportKnown fm_deedMonth fm_deedDay fm_deedLong fm_deedKind fm_kept fm_tape fm_must fm_least fm_pin z4 fm_verdict fm_row fm_official fm_aside fm_worth fm_out) → va_S A s.heap H locs → lv_has ls 6 [(0, .ref h0), (1, .int v1), (2, .int v2), (3, .int v3), (4, .int v4)] → W p l e R s m args below meth c H locs cells slots Q (F0 m 46 ls [])) := by
  intro z
  induction z with
  | zero =>
    refine ⟨?_, ?_, ?_⟩
    · intro v1 z4 H locs ls gv1 hle_gv1_gmi_0 hmu hP hD hS hl
      exact absurd hmu (by have hv11 := gv1.1; have hv12 := gv1.2; omega)
    · intro v1 v2 z4 H locs ls gv1 gv2 hle_gv1_gmi_0 hmu hP hD hS hl
      exact absurd hmu (by have hv11 := gv1.1; have hv12 := gv1.2; have hv21 := gv2.1; have hv22 := gv2.2; omega)
    · intro v1 v2 v3 v4 z4 H locs ls gv1 gv2 gv3 gv4 hle_gv1_gmi_0 hle_gv2_gv1 hmu hP hD hS hl
      exact absurd hmu (by have hv11 := gv1.1; have hv12 := gv1.2; have hv21 := gv2.1; have hv22 := gv2.2; have hv41 := gv4.1; have hv42 := gv4.2; omega)
  | succ z ih =>
    refine ⟨?_, ?_, ?_⟩
    · intro v1 z4 H locs ls gv1 hle_gv1_gmi_0 hmu hP hD hS hl
      refine lv_iload_n hx hb dX12_counts_5 rfl (lv_at hl 1 rfl) ?_
      refine lv_if_lt (tgt := 126) hx hb dX12_counts_6 (by decide) (fun c_892 => ?_) (fun c_892 => ?_)
      · have g_893 : gi v1 (-1) (-1) := gi_lt_l c_892 gv1 (gi_c 0 0 (by decide)) (by decide)
        refine lv_aload_n hx hb dX12_counts_126 rfl (lv_at hl 0 rfl) ?_
        refine va_get (D := (dC, dI)) (ci := 12) (v := .ref (mr 17)) (C := RX12) (T := TX12) (N := 57) hx hb hts (fun w h => List.mem_cons_of_mem _ (jnGB_X12 w h)) hown hK hP 0 rfl rfl 38 (by decide) (hts _ (List.mem_cons_of_mem _ mGB_29)) (fun _ h9 => h9) rfl dX12_counts_127 ?_
        refine lv_iconst (v := 0) hx hb dX12_counts_130 (by decide) ?_
        refine va_iald hx hb hK hP 18 17 rfl rfl (gi_in (gi_c 0 0 (by decide)) (by decide)) dX12_counts_131 ?_
        refine lv_topi (fun x_894 ex_894 => ?_)
        exact kr132 x_894 z4 _ _ _ hP hD hS (lv_sub hl [] rfl)
      · have g_895 : gi v1 0 24 := gi_le_r (Int32.not_lt.mp c_892) (gi_c 0 0 (by decide)) gv1
        refine lv_iconst (v := 0) hx hb dX12_counts_9 (by decide) ?_
        refine lv_istore_n (lv' := [(2, .int 0), (0, .ref h0), (1, .int v1)]) hx hb dX12_counts_10 rfl hl (by decide) rfl (fun ls hl => ?_)
        exact ih.2.1 v1 0 z4 _ _ _ g_895 (gi_w (gi_c 0 0 (by decide)) (by decide)) (by have qgmi_0 := gmi_0.1; have rgmi_0 := gmi_0.2; have qgv1 := g_895.1; have rgv1 := g_895.2; omega) (by have k0 : (0 : Int32).toInt = 0 := (by decide); have av1 := gv1.1; have bv1 := gv1.2; have qgv1 := g_895.1; have rgv1 := g_895.2; omega) hP hD hS (lv_sub hl [1, 2, 0] rfl)
    · intro v1 v2 z4 H locs ls gv1 gv2 hle_gv1_gmi_0 hmu hP hD hS hl
      refine lv_iload_n hx hb dX12_counts_11 rfl (lv_at hl 2 rfl) ?_
      refine lv_iload_n hx hb dX12_counts_12 rfl (lv_at hl 1 rfl) ?_
      refine lv_icmp_gt (tgt := 120) hx hb dX12_counts_13 (by decide) (fun c_896 => ?_) (fun c_896 => ?_)
      · have g_897 : gi v2 1 25 := gi_lt_r c_896 gv1 gv2 (by decide)
        obtain ⟨x_898, ex_898⟩ : ∃ y : Int32, y = v1 + (-1) := ⟨_, rfl⟩
        have gx_898 : gi x_898 (-1) 23 := gi_add ex_898 gv1 (gi_c (-1) (-1) (by decide)) (by decide)
        refine lv_iinc (v := x_898) (lv' := [(1, .int x_898), (0, .ref h0), (2, .int v2)]) hx hb dX12_counts_120 hl (k := 1) rfl (by rw [ex_898]; rfl) (by decide) rfl (fun ls hl => ?_)
        refine lv_goto (tgt := 5) hx hb dX12_counts_123 (by decide) ?_
        exact ih.1 x_898 z4 _ _ _ (gi_w gx_898 (by decide)) (by have qgmi_0 := gmi_0.1; have rgmi_0 := gmi_0.2; have qgx_898 := gx_898.1; have rgx_898 := gx_898.2; have igx_898 : x_898.toInt = v1.toInt + (-1) := (by have hcm1 : ((-1) : Int32).toInt = (-1) := (by decide); have h9 := gi_addI ex_898 (by have h1 := gv1.1; have h2 := (gi_c (-1) (-1) (by decide)).1; have h3 := gv1.2; have h4 := (gi_c (-1) (-1) (by decide)).2; omega) (by have h1 := gv1.1; have h2 := (gi_c (-1) (-1) (by decide)).1; have h3 := gv1.2; have h4 := (gi_c (-1) (-1) (by decide)).2; omega); rw [hcm1] at h9; exact h9); have qgv1 := gv1.1; have rgv1 := gv1.2; have y1 := (Int32.lt_iff_toInt_lt.mp c_896); omega) (by have av1 := gv1.1; have bv1 := gv1.2; have av2 := gv2.1; have bv2 := gv2.2; have qgx_898 := gx_898.1; have rgx_898 := gx_898.2; have igx_898 : x_898.toInt = v1.toInt + (-1) := (by have hcm1 : ((-1) : Int32).toInt = (-1) := (by decide); have h9 := gi_addI ex_898 (by have h1 := gv1.1; have h2 := (gi_c (-1) (-1) (by decide)).1; have h3 := gv1.2; have h4 := (gi_c (-1) (-1) (by decide)).2; omega) (by have h1 := gv1.1; have h2 := (gi_c (-1) (-1) (by decide)).1; have h3 := gv1.2; have h4 := (gi_c (-1) (-1) (by decide)).2; omega); rw [hcm1] at h9; exact h9); have qgv1 := gv1.1; have rgv1 := gv1.2; omega) hP hD hS (lv_sub hl [1, 0] rfl)
      · have g_899 : gi v2 0 24 := gi_le_l (Int32.not_lt.mp c_896) gv2 gv1
        refine lv_aload_n hx hb dX12_counts_16 rfl (lv_at hl 0 rfl) ?_
        refine va_get (D := (dC, dI)) (ci := 12) (v := .int (mi 37)) (C := RX12) (T := TX12) (N := 57) hx hb hts (fun w h => List.mem_cons_of_mem _ (jnGB_X12 w h)) hown hK hP 0 rfl rfl 37 (by decide) (hts _ (List.mem_cons_of_mem _ mGB_270)) (fun _ h9 => h9) rfl dX12_counts_17 ?_
        refine lv_if_ne (tgt := 41) hx hb dX12_counts_20 (by decide) (fun c_900 => ?_) (fun c_900 => ?_)
        · have g_901 : gi (mi 37) 1 1 := gi_ne_lo c_900 gmi_37 (gi_c 0 0 (by decide)) (by decide)
          refine lv_iconst (v := 0) hx hb dX12_counts_41 (by decide) ?_
          refine lv_istore_n (lv' := [(3, .int 0), (0, .ref h0), (1, .int v1), (2, .int v2)]) hx hb dX12_counts_42 rfl hl (by decide) rfl (fun ls hl => ?_)
          refine lv_iconst (v := 0) hx hb dX12_counts_43 (by decide) ?_
          refine lv_istore (lv' := [(4, .int 0), (3, .int 0), (0, .ref h0), (1, .int v1), (2, .int v2)]) hx hb dX12_counts_44 hl (by decide) rfl (fun ls hl => ?_)
          exact ih.2.2 v1 v2 0 0 z4 _ _ _ gv1 g_899 (gi_w (gi_c 0 0 (by decide)) (by decide)) (gi_w (gi_c 0 0 (by decide)) (by decide)) (by have qgmi_0 := gmi_0.1; have rgmi_0 := gmi_0.2; have qgv1 := gv1.1; have rgv1 := gv1.2; have y1 := (Int32.le_iff_toInt_le.mp (Int32.not_lt.mp c_896)); omega) (by have qgv1 := gv1.1; have rgv1 := gv1.2; have qgv2 := g_899.1; have rgv2 := g_899.2; have y1 := (Int32.le_iff_toInt_le.mp (Int32.not_lt.mp c_896)); omega) (by have k0 : (0 : Int32).toInt = 0 := (by decide); have av1 := gv1.1; have bv1 := gv1.2; have av2 := gv2.1; have bv2 := gv2.2; have qgv2 := g_899.1; have rgv2 := g_899.2; have qgv1 := gv1.1; have rgv1 := gv1.2; omega) hP hD hS (lv_sub hl [2, 3, 4, 1, 0] rfl)
        · have g_902 : gi (mi 37) 0 0 := gi_eq c_900 (gi_c 0 0 (by decide))
          refine lv_aload_n hx hb dX12_counts_23 rfl (lv_at hl 0 rfl) ?_
          refine lv_iload_n hx hb dX12_counts_24 rfl (lv_at hl 1 rfl) ?_
          refine lv_bipush (v := 29) hx hb dX12_counts_25 (by decide) ?_
          refine lv_iload_n hx hb dX12_counts_27 rfl (lv_at hl 1 rfl) ?_
          refine lv_imul hx hb dX12_counts_28 ?_
          refine lv_topi (fun x_903 ex_903 => ?_)
          have gx_903 : gi x_903 0 696 := gi_mul ex_903 (gi_c 29 29 (by decide)) gv1 (by decide)
          refine lv_iload_n hx hb dX12_counts_29 rfl (lv_at hl 2 rfl) ?_
          refine lv_iadd hx hb dX12_counts_30 ?_
          refine lv_topi (fun x_904 ex_904 => ?_)
          have gx_904 : gi x_904 0 720 := gi_add ex_904 gx_903 g_899 (by decide)
          refine va_calli (va_runV (As := [.int v1, .int x_904]) (rest := []) ⟨hx, hb, hml, hown, hts⟩ (sX12_isOpen l dC dI h0 mi mr km fm_must fm_least fm_pin fm_trust fm_letter fm_reportPlace fm_reportKind fm_struck fm_reportMonth fm_reportDay fm_reportKnown fm_deedMonth fm_deedDay fm_deedLong fm_deedKind fm_kept fm_tape z4 fm_verdict fm_row fm_official fm_aside fm_worth fm_out v1 x_904 gmi_0 gmi_1 gmi_2 gmi_4 gmi_7 gmi_10 gmi_17 gmi_23 gmi_24 gmi_26 gmi_29 gmi_30 gmi_33 (gi_w g_902 (by decide)) gmi_41 gmi_50 gmi_51 gmi_56 gv1) (cwV 2 hts (gz_gV mGB_303 mGB_304 mGB_305 mGB_1 mGB_306 goodGB) rfl rfl rfl (by decide +kernel) ⟨Nat.le_trans (Nat.le_of_ble_eq_true rfl) hRf, Nat.le_trans (Nat.le_of_ble_eq_true rfl) hRl⟩) ⟨bl_R, mw_recv hK hP, fun U hU hW => ⟨rfl, by rw [hU]; exact hP, va_K.moved hW.alike hK⟩⟩ rfl rfl hl.1 rfl (lv_room (Nat.le_of_ble_eq_true rfl)) dX12_counts_31 ⟨hRc, hRs⟩) hS (fun q _ h => h.elim) (fun q h => h.elim) (fun r_905 u t H1 locs ht hvm hw hB hz1 hk1 hS => ?_)
          have hP := gz_keep hP hk1
          generalize H1 = H at hP hS ⊢
          have gr_905 : gi r_905 0 1 := hw
          refine lv_if_eq (tgt := 41) hx hb dX12_counts_34 (by decide) (fun c_906 => ?_) (fun c_906 => ?_)
          · have g_907 : gi r_905 0 0 := gi_eq c_906 (gi_c 0 0 (by decide))
            refine lv_iconst (v := 0) hx hb dX12_counts_41 (by decide) ?_
            refine lv_istore_n (lv' := [(3, .int 0), (0, .ref h0), (1, .int v1), (2, .int v2)]) hx hb dX12_counts_42 rfl hl (by decide) rfl (fun ls hl => ?_)
            refine lv_iconst (v := 0) hx hb dX12_counts_43 (by decide) ?_
            refine lv_istore (lv' := [(4, .int 0), (3, .int 0), (0, .ref h0), (1, .int v1), (2, .int v2)]) hx hb dX12_counts_44 hl (by decide) rfl (fun ls hl => ?_)
            exact ih.2.2 v1 v2 0 0 z4 _ _ _ gv1 g_899 (gi_w (gi_c 0 0 (by decide)) (by decide)) (gi_w (gi_c 0 0 (by decide)) (by decide)) (by have qgmi_0 := gmi_0.1; have rgmi_0 := gmi_0.2; have qgv1 := gv1.1; have rgv1 := gv1.2; have y1 := (Int32.le_iff_toInt_le.mp (Int32.not_lt.mp c_896)); omega) (by have qgv1 := gv1.1; have rgv1 := gv1.2; have qgv2 := g_899.1; have rgv2 := g_899.2; have y1 := (Int32.le_iff_toInt_le.mp (Int32.not_lt.mp c_896)); omega) (by have k0 : (0 : Int32).toInt = 0 := (by decide); have av1 := gv1.1; have bv1 := gv1.2; have av2 := gv2.1; have bv2 := gv2.2; have qgv2 := g_899.1; have rgv2 := g_899.2; have qgv1 := gv1.1; have rgv1 := gv1.2; omega) hP hD hS (lv_sub hl [2, 3, 4, 1, 0] rfl)
          · have g_908 : gi r_905 1 1 := gi_ne_lo c_906 gr_905 (gi_c 0 0 (by decide)) (by decide)
            refine lv_iconst (v := 1) hx hb dX12_counts_37 (by decide) ?_
            refine lv_goto (tgt := 42) hx hb dX12_counts_38 (by decide) ?_
            refine lv_istore_n (lv' := [(3, .int 1), (0, .ref h0), (1, .int v1), (2, .int v2)]) hx hb dX12_counts_42 rfl hl (by decide) rfl (fun ls hl => ?_)
            refine lv_iconst (v := 0) hx hb dX12_counts_43 (by decide) ?_
            refine lv_istore (lv' := [(4, .int 0), (3, .int 1), (0, .ref h0), (1, .int v1), (2, .int v2)]) hx hb dX12_counts_44 hl (by decide) rfl (fun ls hl => ?_)
            exact ih.2.2 v1 v2 1 0 z4 _ _ _ gv1 g_899 (gi_w (gi_c 1 1 (by decide)) (by decide)) (gi_w (gi_c 0 0 (by decide)) (by decide)) (by have qgmi_0 := gmi_0.1; have rgmi_0 := gmi_0.2; have qgv1 := gv1.1; have rgv1 := gv1.2; have y1 := (Int32.le_iff_toInt_le.mp (Int32.not_lt.mp c_896)); omega) (by have qgv1 := gv1.1; have rgv1 := gv1.2; have qgv2 := g_899.1; have rgv2 := g_899.2; have y1 := (Int32.le_iff_toInt_le.mp (Int32.not_lt.mp c_896)); omega) (by have k0 : (0 : Int32).toInt = 0 := (by decide); have av1 := gv1.1; have bv1 := gv1.2; have av2 := gv2.1; have bv2 := gv2.2; have qgv2 := g_899.1; have rgv2 := g_899.2; have qgv1 := gv1.1; have rgv1 := gv1.2; omega) hP hD hS (lv_sub hl [2, 3, 4, 1, 0] rfl)
    · intro v1 v2 v3 v4 z4 H locs ls gv1 gv2 gv3 gv4 hle_gv1_gmi_0 hle_gv2_gv1 hmu hP hD hS hl
      refine lv_iload hx hb dX12_counts_46 (lv_at hl 4 rfl) ?_
      refine lv_bipush (v := 10) hx hb dX12_counts_48 (by decide) ?_
      refine lv_icmp_gt (tgt := 114) hx hb dX12_counts_50 (by decide) (fun c_909 => ?_) (fun c_909 => ?_)
      · have g_910 : gi v4 11 11 := gi_lt_r c_909 (gi_c 10 10 (by decide)) gv4 (by decide)
        obtain ⟨x_911, ex_911⟩ : ∃ y : Int32, y = v2 + 1 := ⟨_, rfl⟩
        have gx_911 : gi x_911 1 25 := gi_add ex_911 gv2 (gi_c 1 1 (by decide)) (by decide)
        refine lv_iinc (v := x_911) (lv' := [(2, .int x_911), (0, .ref h0), (1, .int v1), (3, .int v3), (4, .int v4)]) hx hb dX12_counts_114 hl (k := 2) rfl (by rw [ex_911]; rfl) (by decide) rfl (fun ls hl => ?_)
        refine lv_goto (tgt := 11) hx hb dX12_counts_117 (by decide) ?_
        exact ih.2.1 v1 x_911 z4 _ _ _ gv1 (gi_w gx_911 (by decide)) (by have qgmi_0 := gmi_0.1; have rgmi_0 := gmi_0.2; have qgv1 := gv1.1; have rgv1 := gv1.2; omega) (by have av1 := gv1.1; have bv1 := gv1.2; have av2 := gv2.1; have bv2 := gv2.2; have av4 := gv4.1; have bv4 := gv4.2; have qgx_911 := gx_911.1; have rgx_911 := gx_911.2; have igx_911 : x_911.toInt = v2.toInt + 1 := (by have hc1 : (1 : Int32).toInt = 1 := (by decide); have h9 := gi_addI ex_911 (by have h1 := gv2.1; have h2 := (gi_c 1 1 (by decide)).1; have h3 := gv2.2; have h4 := (gi_c 1 1 (by decide)).2; omega) (by have h1 := gv2.1; have h2 := (gi_c 1 1 (by decide)).1; have h3 := gv2.2; have h4 := (gi_c 1 1 (by decide)).2; omega); rw [hc1] at h9; exact h9); have qgv2 := gv2.1; have rgv2 := gv2.2; have qgv1 := gv1.1; have rgv1 := gv1.2; omega) hP hD hS (lv_sub hl [1, 2, 0] rfl)
      · have g_912 : gi v4 0 10 := gi_le_l (Int32.not_lt.mp c_909) gv4 (gi_c 10 10 (by decide))
        refine lv_iload_n hx hb dX12_counts_53 rfl (lv_at hl 3 rfl) ?_
        refine lv_if_ne (tgt := 61) hx hb dX12_counts_54 (by decide) (fun c_913 => ?_) (fun c_913 => ?_)
        · have g_914 : gi v3 1 1 := gi_ne_lo c_913 gv3 (gi_c 0 0 (by decide)) (by decide)
          refine lv_iload_n hx hb dX12_counts_61 rfl (lv_at hl 1 rfl) ?_
          refine lv_aload_n hx hb dX12_counts_62 rfl (lv_at hl 0 rfl) ?_
          refine va_get (D := (dC, dI)) (ci := 12) (v := .int (mi 0)) (C := RX12) (T := TX12) (N := 57) hx hb hts (fun w h => List.mem_cons_of_mem _ (jnGB_X12 w h)) hown hK hP 0 rfl rfl 0 (by decide) (hts _ (List.mem_cons_of_mem _ mGB_103)) (fun _ h9 => h9) rfl dX12_counts_63 ?_
          refine lv_icmp_ne (tgt := 73) hx hb dX12_counts_66 (by decide) (fun c_915 => ?_) (fun c_915 => ?_)
          · have g_916 : gi v1 0 23 := gi_nele hle_gv1_gmi_0 c_915 gv1 gmi_0 (by decide)
            have g_917 : gi v2 0 23 := gi_rel hle_gv2_gv1 gv2 g_916
            refine lv_aload_n hx hb dX12_counts_73 rfl (lv_at hl 0 rfl) ?_
            refine lv_iload_n hx hb dX12_counts_74 rfl (lv_at hl 1 rfl) ?_
            refine lv_iload_n hx hb dX12_counts_75 rfl (lv_at hl 2 rfl) ?_
            refine lv_iload hx hb dX12_counts_76 (lv_at hl 4 rfl) ?_
            refine lv_iconst (v := 0) hx hb dX12_counts_78 (by decide) ?_
            refine va_calli (va_runV (As := [.int v1, .int v2, .int v4, .int 0]) (rest := []) ⟨hx, hb, hml, hown, hts⟩ (sX12_waysBy l dC dI h0 mi mr km z4 fm_trust fm_letter fm_reportPlace fm_reportKind fm_struck fm_reportMonth fm_reportDay fm_reportKnown fm_deedMonth fm_deedDay fm_deedLong fm_deedKind fm_kept fm_tape fm_must fm_least fm_pin fm_verdict fm_row fm_official fm_aside fm_worth fm_out v1 v2 v4 0 gmi_0 gmi_1 gmi_2 gmi_4 gmi_7 gmi_10 gmi_17 gmi_23 gmi_24 gmi_26 gmi_29 gmi_30 gmi_33 gmi_37 gmi_41 gmi_50 gmi_51 gmi_56 g_916 g_917 (gi_w g_912 (by decide)) (gi_w (gi_c 0 0 (by decide)) (by decide))) (cwV 4 hts (gz_gV mGB_307 mGB_308 mGB_309 mGB_1 mGB_310 goodGB) rfl rfl rfl (by decide +kernel) ⟨Nat.le_trans (Nat.le_of_ble_eq_true rfl) hRf, Nat.le_trans (Nat.le_of_ble_eq_true rfl) hRl⟩) ⟨bl_R, mw_recv hK hP, fun U hU hW => ⟨rfl, by rw [hU]; exact hP, va_K.moved hW.alike hK⟩⟩ rfl rfl hl.1 rfl (lv_room (Nat.le_of_ble_eq_true rfl)) dX12_counts_79 ⟨hRc, hRs⟩) hS (fun q _ h => h.elim) (fun q h => h.elim) (fun r_918 u t H1 locs ht hvm hw hB hz1 hk1 hS => ?_)
            have hP := gz_keep hP hk1
            generalize H1 = H at hP hS ⊢
            refine lv_aload_n hx hb dX12_counts_82 rfl (lv_at hl 0 rfl) ?_
            refine lv_iload_n hx hb dX12_counts_83 rfl (lv_at hl 1 rfl) ?_
            refine lv_iload_n hx hb dX12_counts_84 rfl (lv_at hl 2 rfl) ?_
            refine lv_iload hx hb dX12_counts_85 (lv_at hl 4 rfl) ?_
            refine lv_iconst (v := 1) hx hb dX12_counts_87 (by decide) ?_
            refine va_calli (va_runV (As := [.int v1, .int v2, .int v4, .int 1]) (rest := [.int r_918]) ⟨hx, hb, hml, hown, hts⟩ (sX12_waysBy l dC dI h0 mi mr km z4 fm_trust fm_letter fm_reportPlace fm_reportKind fm_struck fm_reportMonth fm_reportDay fm_reportKnown fm_deedMonth fm_deedDay fm_deedLong fm_deedKind fm_kept fm_tape fm_must fm_least fm_pin fm_verdict fm_row fm_official fm_aside fm_worth fm_out v1 v2 v4 1 gmi_0 gmi_1 gmi_2 gmi_4 gmi_7 gmi_10 gmi_17 gmi_23 gmi_24 gmi_26 gmi_29 gmi_30 gmi_33 gmi_37 gmi_41 gmi_50 gmi_51 gmi_56 g_916 g_917 (gi_w g_912 (by decide)) (gi_w (gi_c 1 1 (by decide)) (by decide))) (cwV 4 hts (gz_gV mGB_307 mGB_308 mGB_309 mGB_1 mGB_310 goodGB) rfl rfl rfl (by decide +kernel) ⟨Nat.le_trans (Nat.le_of_ble_eq_true rfl) hRf, Nat.le_trans (Nat.le_of_ble_eq_true rfl) hRl⟩) ⟨bl_R, mw_recv hK hP, fun U hU hW => ⟨rfl, by rw [hU]; exact hP, va_K.moved hW.alike hK⟩⟩ rfl rfl hl.1 rfl (lv_room (Nat.le_of_ble_eq_true rfl)) dX12_counts_88 ⟨hRc, hRs⟩) hS (fun q _ h => h.elim) (fun q h => h.elim) (fun r_919 u t H1 locs ht hvm hw hB hz1 hk1 hS => ?_)
            have hP := gz_keep hP hk1
            generalize H1 = H at hP hS ⊢
            refine lv_iadd hx hb dX12_counts_91 ?_
            refine lv_topi (fun x_920 ex_920 => ?_)
            refine lv_istore (lv' := [(5, .int x_920), (0, .ref h0), (1, .int v1), (2, .int v2), (3, .int v3), (4, .int v4)]) hx hb dX12_counts_92 hl (by decide) rfl (fun ls hl => ?_)
            refine lv_aload_n hx hb dX12_counts_94 rfl (lv_at hl 1 rfl) ?_
            refine va_get (D := (dC, dI)) (ci := 12) (v := .ref (mr 17)) (C := RX12) (T := TX12) (N := 57) hx hb hts (fun w h => List.mem_cons_of_mem _ (jnGB_X12 w h)) hown hK hP 0 rfl rfl 38 (by decide) (hts _ (List.mem_cons_of_mem _ mGB_29)) (fun _ h9 => h9) rfl dX12_counts_95 ?_
            refine lv_iload_n hx hb dX12_counts_98 rfl (lv_at hl 2 rfl) ?_
            refine lv_iload_n hx hb dX12_counts_99 rfl (lv_at hl 3 rfl) ?_
            refine lv_iload hx hb dX12_counts_100 (lv_at hl 5 rfl) ?_
            have hPc := hP.sub (ws' := []) [] rfl
            have hKc := hK.sub (tys' := []) [] rfl
            refine va_calli (va_runS (As := [.int v1, .int v2, .int v4]) (rest := [.ref (mr 17)]) ⟨hx, hb, hml, hown, hts⟩ (sX12_placeOf l dC dI v1 v2 v4 (gi_w g_916 (by decide)) (gi_w g_917 (by decide)) g_912) (cwS 3 hts (gz_gS mGB_315 mGB_316 mGB_1 mGB_317 goodGB) rfl rfl rfl (by decide +kernel) ⟨Nat.le_trans (Nat.le_of_ble_eq_true rfl) hRf, Nat.le_trans (Nat.le_of_ble_eq_true rfl) hRl⟩) ⟨bl_R, fun U hU hW => ⟨rfl, by rw [hU]; exact hPc, va_K.moved hW.alike hKc⟩⟩ rfl rfl hl.1 rfl (lv_room (Nat.le_of_ble_eq_true rfl)) dX12_counts_102 ⟨hRc, hRs⟩) hS (fun q _ h => h.elim) (fun q h => h.elim) (fun r_921 u t H1 locs ht hvm hw hB hz1 hk1 hS => ?_)
            have hP := gz_keep hP hk1
            generalize H1 = H at hP hS ⊢
            have gr_921 : gi r_921 0 6874 := hw
            refine lv_iload hx hb dX12_counts_105 (lv_at hl 0 rfl) ?_
            refine va_iast hx hb hK hP hD hS 18 17 rfl rfl (gi_in gr_921 (by decide)) dX12_counts_107 (fun H locs hP hD hS => ?_)
            have hP : va_P (dC, dI) vwCl (MWn h0 mr km (mi 0) (mi 1) (mi 2) (mi 3) (mi 4) (mi 5) (mi 6) (mi 7) (mi 10) (mi 17) (mi 23) (mi 24) (mi 26) (mi 27) (mi 28) (mi 29) (mi 30) (mi 31) (mi 32) (mi 33) (mi 37) (mi 41) (mi 42) (mi 43) (mi 44) (mi 45) (mi 47) (mi 48) (mi 49) (mi 50) (mi 51) (mi 54) (mi 56) fm_trust fm_letter fm_reportPlace fm_reportKind fm_struck fm_reportMonth fm_reportDay fm_reportKnown fm_deedMonth fm_deedDay fm_deedLong fm_deedKind fm_kept fm_tape fm_must fm_least fm_pin (upd z4 (r_921 : Int32).toNatClampNeg x_920) fm_verdict fm_row fm_official fm_aside fm_worth fm_out) H := hP
            have hD : va_D A (MWn h0 mr km (mi 0) (mi 1) (mi 2) (mi 3) (mi 4) (mi 5) (mi 6) (mi 7) (mi 10) (mi 17) (mi 23) (mi 24) (mi 26) (mi 27) (mi 28) (mi 29) (mi 30) (mi 31) (mi 32) (mi 33) (mi 37) (mi 41) (mi 42) (mi 43) (mi 44) (mi 45) (mi 47) (mi 48) (mi 49) (mi 50) (mi 51) (mi 54) (mi 56) fm_trust fm_letter fm_reportPlace fm_reportKind fm_struck fm_reportMonth fm_reportDay fm_reportKnown fm_deedMonth fm_deedDay fm_deedLong fm_deedKind fm_kept fm_tape fm_must fm_least fm_pin (upd z4 (r_921 : Int32).toNatClampNeg x_920) fm_verdict fm_row fm_official fm_aside fm_worth fm_out) := hD
            generalize upd z4 (r_921 : Int32).toNatClampNeg x_920 = f_922 at hP hD
            obtain ⟨x_923, ex_923⟩ : ∃ y : Int32, y = v4 + 1 := ⟨_, rfl⟩
            have gx_923 : gi x_923 1 11 := gi_add ex_923 g_912 (gi_c 1 1 (by decide)) (by decide)
            refine lv_iinc (v := x_923) (lv' := [(4, .int x_923), (5, .int x_920), (0, .ref h0), (1, .int v1), (2, .int v2), (3, .int v3)]) hx hb dX12_counts_108 hl (k := 5) rfl (by rw [ex_923]; rfl) (by decide) rfl (fun ls hl => ?_)
            refine lv_goto (tgt := 46) hx hb dX12_counts_111 (by decide) ?_
            exact ih.2.2 v1 v2 v3 x_923 f_922 _ _ _ (gi_w g_916 (by decide)) (gi_w g_917 (by decide)) (gi_w g_914 (by decide)) (gi_w gx_923 (by decide)) (by have qgmi_0 := gmi_0.1; have rgmi_0 := gmi_0.2; have qgv1 := g_916.1; have rgv1 := g_916.2; omega) (by have qgv1 := g_916.1; have rgv1 := g_916.2; have qgv2 := g_917.1; have rgv2 := g_917.2; omega) (by have av1 := gv1.1; have bv1 := gv1.2; have av2 := gv2.1; have bv2 := gv2.2; have av4 := gv4.1; have bv4 := gv4.2; have qgx_923 := gx_923.1; have rgx_923 := gx_923.2; have igx_923 : x_923.toInt = v4.toInt + 1 := (by have hc1 : (1 : Int32).toInt = 1 := (by decide); have h9 := gi_addI ex_923 (by have h1 := g_912.1; have h2 := (gi_c 1 1 (by decide)).1; have h3 := g_912.2; have h4 := (gi_c 1 1 (by decide)).2; omega) (by have h1 := g_912.1; have h2 := (gi_c 1 1 (by decide)).1; have h3 := g_912.2; have h4 := (gi_c 1 1 (by decide)).2; omega); rw [hc1] at h9; exact h9); have qgv4 := g_912.1; have rgv4 := g_912.2; have qgv2 := g_917.1; have rgv2 := g_917.2; have qgv1 := g_916.1; have rgv1 := g_916.2; omega) hP hD hS (lv_sub hl [2, 3, 4, 5, 0] rfl)
          · refine lv_iconst (v := 1) hx hb dX12_counts_69 (by decide) ?_
            refine lv_goto (tgt := 92) hx hb dX12_counts_70 (by decide) ?_
            refine lv_istore (lv' := [(5, .int 1), (0, .ref h0), (1, .int v1), (2, .int v2), (3, .int v3), (4, .int v4)]) hx hb dX12_counts_92 hl (by decide) rfl (fun ls hl => ?_)
            refine lv_aload_n hx hb dX12_counts_94 rfl (lv_at hl 1 rfl) ?_
            refine va_get (D := (dC, dI)) (ci := 12) (v := .ref (mr 17)) (C := RX12) (T := TX12) (N := 57) hx hb hts (fun w h => List.mem_cons_of_mem _ (jnGB_X12 w h)) hown hK hP 0 rfl rfl 38 (by decide) (hts _ (List.mem_cons_of_mem _ mGB_29)) (fun _ h9 => h9) rfl dX12_counts_95 ?_
            refine lv_iload_n hx hb dX12_counts_98 rfl (lv_at hl 2 rfl) ?_
            refine lv_iload_n hx hb dX12_counts_99 rfl (lv_at hl 3 rfl) ?_
            refine lv_iload hx hb dX12_counts_100 (lv_at hl 5 rfl) ?_
            have hPc := hP.sub (ws' := []) [] rfl
            have hKc := hK.sub (tys' := []) [] rfl
            refine va_calli (va_runS (As := [.int v1, .int v2, .int v4]) (rest := [.ref (mr 17)]) ⟨hx, hb, hml, hown, hts⟩ (sX12_placeOf l dC dI v1 v2 v4 gv1 gv2 g_912) (cwS 3 hts (gz_gS mGB_315 mGB_316 mGB_1 mGB_317 goodGB) rfl rfl rfl (by decide +kernel) ⟨Nat.le_trans (Nat.le_of_ble_eq_true rfl) hRf, Nat.le_trans (Nat.le_of_ble_eq_true rfl) hRl⟩) ⟨bl_R, fun U hU hW => ⟨rfl, by rw [hU]; exact hPc, va_K.moved hW.alike hKc⟩⟩ rfl rfl hl.1 rfl (lv_room (Nat.le_of_ble_eq_true rfl)) dX12_counts_102 ⟨hRc, hRs⟩) hS (fun q _ h => h.elim) (fun q h => h.elim) (fun r_924 u t H1 locs ht hvm hw hB hz1 hk1 hS => ?_)
            have hP := gz_keep hP hk1
            generalize H1 = H at hP hS ⊢
            have gr_924 : gi r_924 0 6874 := hw
            refine lv_iload hx hb dX12_counts_105 (lv_at hl 0 rfl) ?_
            refine va_iast hx hb hK hP hD hS 18 17 rfl rfl (gi_in gr_924 (by decide)) dX12_counts_107 (fun H locs hP hD hS => ?_)
            have hP : va_P (dC, dI) vwCl (MWn h0 mr km (mi 0) (mi 1) (mi 2) (mi 3) (mi 4) (mi 5) (mi 6) (mi 7) (mi 10) (mi 17) (mi 23) (mi 24) (mi 26) (mi 27) (mi 28) (mi 29) (mi 30) (mi 31) (mi 32) (mi 33) (mi 37) (mi 41) (mi 42) (mi 43) (mi 44) (mi 45) (mi 47) (mi 48) (mi 49) (mi 50) (mi 51) (mi 54) (mi 56) fm_trust fm_letter fm_reportPlace fm_reportKind fm_struck fm_reportMonth fm_reportDay fm_reportKnown fm_deedMonth fm_deedDay fm_deedLong fm_deedKind fm_kept fm_tape fm_must fm_least fm_pin (upd z4 (r_924 : Int32).toNatClampNeg 1) fm_verdict fm_row fm_official fm_aside fm_worth fm_out) H := hP
            have hD : va_D A (MWn h0 mr km (mi 0) (mi 1) (mi 2) (mi 3) (mi 4) (mi 5) (mi 6) (mi 7) (mi 10) (mi 17) (mi 23) (mi 24) (mi 26) (mi 27) (mi 28) (mi 29) (mi 30) (mi 31) (mi 32) (mi 33) (mi 37) (mi 41) (mi 42) (mi 43) (mi 44) (mi 45) (mi 47) (mi 48) (mi 49) (mi 50) (mi 51) (mi 54) (mi 56) fm_trust fm_letter fm_reportPlace fm_reportKind fm_struck fm_reportMonth fm_reportDay fm_reportKnown fm_deedMonth fm_deedDay fm_deedLong fm_deedKind fm_kept fm_tape fm_must fm_least fm_pin (upd z4 (r_924 : Int32).toNatClampNeg 1) fm_verdict fm_row fm_official fm_aside fm_worth fm_out) := hD
            generalize upd z4 (r_924 : Int32).toNatClampNeg 1 = f_925 at hP hD
            obtain ⟨x_926, ex_926⟩ : ∃ y : Int32, y = v4 + 1 := ⟨_, rfl⟩
            have gx_926 : gi x_926 1 11 := gi_add ex_926 g_912 (gi_c 1 1 (by decide)) (by decide)
            refine lv_iinc (v := x_926) (lv' := [(4, .int x_926), (5, .int 1), (0, .ref h0), (1, .int v1), (2, .int v2), (3, .int v3)]) hx hb dX12_counts_108 hl (k := 5) rfl (by rw [ex_926]; rfl) (by decide) rfl (fun ls hl => ?_)
            refine lv_goto (tgt := 46) hx hb dX12_counts_111 (by decide) ?_
            exact ih.2.2 v1 v2 v3 x_926 f_925 _ _ _ gv1 gv2 (gi_w g_914 (by decide)) (gi_w gx_926 (by decide)) (by have qgmi_0 := gmi_0.1; have rgmi_0 := gmi_0.2; have qgv1 := gv1.1; have rgv1 := gv1.2; omega) (by have qgv1 := gv1.1; have rgv1 := gv1.2; have qgv2 := gv2.1; have rgv2 := gv2.2; omega) (by have av1 := gv1.1; have bv1 := gv1.2; have av2 := gv2.1; have bv2 := gv2.2; have av4 := gv4.1; have bv4 := gv4.2; have qgx_926 := gx_926.1; have rgx_926 := gx_926.2; have igx_926 : x_926.toInt = v4.toInt + 1 := (by have hc1 : (1 : Int32).toInt = 1 := (by decide); have h9 := gi_addI ex_926 (by have h1 := g_912.1; have h2 := (gi_c 1 1 (by decide)).1; have h3 := g_912.2; have h4 := (gi_c 1 1 (by decide)).2; omega) (by have h1 := g_912.1; have h2 := (gi_c 1 1 (by decide)).1; have h3 := g_912.2; have h4 := (gi_c 1 1 (by decide)).2; omega); rw [hc1] at h9; exact h9); have qgv4 := g_912.1; have rgv4 := g_912.2; have qgv2 := gv2.1; have rgv2 := gv2.2; have qgv1 := gv1.1; have rgv1 := gv1.2; omega) hP hD hS (lv_sub hl [2, 3, 4, 5, 0] rfl)
        · have g_927 : gi v3 0 0 := gi_eq c_913 (gi_c 0 0 (by decide))
          refine lv_iconst (v := 0) hx hb dX12_counts_57 (by decide) ?_
          refine lv_goto (tgt := 92) hx hb dX12_counts_58 (by decide) ?_
          refine lv_istore (lv' := [(5, .int 0), (0, .ref h0), (1, .int v1), (2, .int v2), (3, .int v3), (4, .int v4)]) hx hb dX12_counts_92 hl (by decide) rfl (fun ls hl => ?_)
          refine lv_aload_n hx hb dX12_counts_94 rfl (lv_at hl 1 rfl) ?_
          refine va_get (D := (dC, dI)) (ci := 12) (v := .ref (mr 17)) (C := RX12) (T := TX12) (N := 57) hx hb hts (fun w h => List.mem_cons_of_mem _ (jnGB_X12 w h)) hown hK hP 0 rfl rfl 38 (by decide) (hts _ (List.mem_cons_of_mem _ mGB_29)) (fun _ h9 => h9) rfl dX12_counts_95 ?_
          refine lv_iload_n hx hb dX12_counts_98 rfl (lv_at hl 2 rfl) ?_
          refine lv_iload_n hx hb dX12_counts_99 rfl (lv_at hl 3 rfl) ?_
          refine lv_iload hx hb dX12_counts_100 (lv_at hl 5 rfl) ?_
          have hPc := hP.sub (ws' := []) [] rfl
          have hKc := hK.sub (tys' := []) [] rfl
          refine va_calli (va_runS (As := [.int v1, .int v2, .int v4]) (rest := [.ref (mr 17)]) ⟨hx, hb, hml, hown, hts⟩ (sX12_placeOf l dC dI v1 v2 v4 gv1 gv2 g_912) (cwS 3 hts (gz_gS mGB_315 mGB_316 mGB_1 mGB_317 goodGB) rfl rfl rfl (by decide +kernel) ⟨Nat.le_trans (Nat.le_of_ble_eq_true rfl) hRf, Nat.le_trans (Nat.le_of_ble_eq_true rfl) hRl⟩) ⟨bl_R, fun U hU hW => ⟨rfl, by rw [hU]; exact hPc, va_K.moved hW.alike hKc⟩⟩ rfl rfl hl.1 rfl (lv_room (Nat.le_of_ble_eq_true rfl)) dX12_counts_102 ⟨hRc, hRs⟩) hS (fun q _ h => h.elim) (fun q h => h.elim) (fun r_928 u t H1 locs ht hvm hw hB hz1 hk1 hS => ?_)
          have hP := gz_keep hP hk1
          generalize H1 = H at hP hS ⊢
          have gr_928 : gi r_928 0 6874 := hw
          refine lv_iload hx hb dX12_counts_105 (lv_at hl 0 rfl) ?_
          refine va_iast hx hb hK hP hD hS 18 17 rfl rfl (gi_in gr_928 (by decide)) dX12_counts_107 (fun H locs hP hD hS => ?_)
          have hP : va_P (dC, dI) vwCl (MWn h0 mr km (mi 0) (mi 1) (mi 2) (mi 3) (mi 4) (mi 5) (mi 6) (mi 7) (mi 10) (mi 17) (mi 23) (mi 24) (mi 26) (mi 27) (mi 28) (mi 29) (mi 30) (mi 31) (mi 32) (mi 33) (mi 37) (mi 41) (mi 42) (mi 43) (mi 44) (mi 45) (mi 47) (mi 48) (mi 49) (mi 50) (mi 51) (mi 54) (mi 56) fm_trust fm_letter fm_reportPlace fm_reportKind fm_struck fm_reportMonth fm_reportDay fm_reportKnown fm_deedMonth fm_deedDay fm_deedLong fm_deedKind fm_kept fm_tape fm_must fm_least fm_pin (upd z4 (r_928 : Int32).toNatClampNeg 0) fm_verdict fm_row fm_official fm_aside fm_worth fm_out) H := hP
          have hD : va_D A (MWn h0 mr km (mi 0) (mi 1) (mi 2) (mi 3) (mi 4) (mi 5) (mi 6) (mi 7) (mi 10) (mi 17) (mi 23) (mi 24) (mi 26) (mi 27) (mi 28) (mi 29) (mi 30) (mi 31) (mi 32) (mi 33) (mi 37) (mi 41) (mi 42) (mi 43) (mi 44) (mi 45) (mi 47) (mi 48) (mi 49) (mi 50) (mi 51) (mi 54) (mi 56) fm_trust fm_letter fm_reportPlace fm_reportKind fm_struck fm_reportMonth fm_reportDay fm_reportKnown fm_deedMonth fm_deedDay fm_deedLong fm_deedKind fm_kept fm_tape fm_must fm_least fm_pin (upd z4 (r_928 : Int32).toNatClampNeg 0) fm_verdict fm_row fm_official fm_aside fm_worth fm_out) := hD
          generalize upd z4 (r_928 : Int32).toNatClampNeg 0 = f_929 at hP hD
          obtain ⟨x_930, ex_930⟩ : ∃ y : Int32, y = v4 + 1 := ⟨_, rfl⟩
          have gx_930 : gi x_930 1 11 := gi_add ex_930 g_912 (gi_c 1 1 (by decide)) (by decide)
          refine lv_iinc (v := x_930) (lv' := [(4, .int x_930), (5, .int 0), (0, .ref h0), (1, .int v1), (2, .int v2), (3, .int v3)]) hx hb dX12_counts_108 hl (k := 5) rfl (by rw [ex_930]; rfl) (by decide) rfl (fun ls hl => ?_)
          refine lv_goto (tgt := 46) hx hb dX12_counts_111 (by decide) ?_
          exact ih.2.2 v1 v2 v3 x_930 f_929 _ _ _ gv1 gv2 (gi_w g_927 (by decide)) (gi_w gx_930 (by decide)) (by have qgmi_0 := gmi_0.1; have rgmi_0 := gmi_0.2; have qgv1 := gv1.1; have rgv1 := gv1.2; omega) (by have qgv1 := gv1.1; have rgv1 := gv1.2; have qgv2 := gv2.1; have rgv2 := gv2.2; omega) (by have av1 := gv1.1; have bv1 := gv1.2; have av2 := gv2.1; have bv2 := gv2.2; have av4 := gv4.1; have bv4 := gv4.2; have qgx_930 := gx_930.1; have rgx_930 := gx_930.2; have igx_930 : x_930.toInt = v4.toInt + 1 := (by have hc1 : (1 : Int32).toInt = 1 := (by decide); have h9 := gi_addI ex_930 (by have h1 := g_912.1; have h2 := (gi_c 1 1 (by decide)).1; have h3 := g_912.2; have h4 := (gi_c 1 1 (by decide)).2; omega) (by have h1 := g_912.1; have h2 := (gi_c 1 1 (by decide)).1; have h3 := g_912.2; have h4 := (gi_c 1 1 (by decide)).2; omega); rw [hc1] at h9; exact h9); have qgv4 := g_912.1; have rgv4 := g_912.2; have qgv2 := gv2.1; have rgv2 := gv2.2; have qgv1 := gv1.1; have rgv1 := gv1.2; omega) hP hD hS (lv_sub hl [2, 3, 4, 5, 0] rfl)
abbrev pb_sX12_counts (dC : Nat → ClassId) (dI : Nat → Nat → Nat) (A9 : Nat → Prop) (h0 : Nat) (mi : Nat → Int32) (mr : Nat → Nat) (km : Nat → ClassId) (fm_must : Nat → Int32) (fm_least : Nat → Int32) (fm_pin : Nat → Int32) (fm_ways : Nat → Int32) (fm_trust : Nat → Int32) (fm_letter : Nat → Int32) (fm_reportPlace : Nat → Int32) (fm_reportKind : Nat → Int32) (fm_struck : Nat → Int32) (fm_reportMonth : Nat → Int32) (fm_reportDay : Nat → Int32) (fm_reportKnown : Nat → Int32) (fm_deedMonth : Nat → Int32) (fm_deedDay : Nat → Int32) (fm_deedLong : Nat → Int32) (fm_deedKind : Nat → Int32) (fm_kept : Nat → Int32) (fm_tape : Nat → Int32) (fm_verdict : Nat → Int32) (fm_row : Nat → Int32) (fm_official : Nat → Int32) (fm_aside : Nat → Int32) (fm_worth : Nat → Int32) (fm_out : Nat → Int32) (z4 : Nat → Int32) (t : State) : Prop := va_P (dC, dI) vwCl (MWn h0 mr km (mi 0) (mi 1) (mi 2) (mi 3) (mi 4) (mi 5) (mi 6) (mi 7) (mi 10) (mi 17) (mi 23) (mi 24) (mi 26) (mi 27) (mi 28) (mi 29) (mi 30) (mi 31) (mi 32) (mi 33) (mi 37) (mi 41) (mi 42) (mi 43) (mi 44) (mi 45) (mi 47) (mi 48) (mi 49) (mi 50) (mi 51) (mi 54) (mi 56) fm_trust fm_letter fm_reportPlace fm_reportKind fm_struck fm_reportMonth fm_reportDay fm_reportKnown fm_deedMonth fm_deedDay fm_deedLong fm_deedKind fm_kept fm_tape fm_must fm_least fm_pin z4 fm_verdict fm_row fm_official fm_aside fm_worth fm_out) t.heap ∧ va_D A9 (MWn h0 mr km (mi 0) (mi 1) (mi 2) (mi 3) (mi 4) (mi 5) (mi 6) (mi 7) (mi 10) (mi 17) (mi 23) (mi 24) (mi 26) (mi 27) (mi 28) (mi 29) (mi 30) (mi 31) (mi 32) (mi 33) (mi 37) (mi 41) (mi 42) (mi 43) (mi 44) (mi 45) (mi 47) (mi 48) (mi 49) (mi 50) (mi 51) (mi 54) (mi 56) fm_trust fm_letter fm_reportPlace fm_reportKind fm_struck fm_reportMonth fm_reportDay fm_reportKnown fm_deedMonth fm_deedDay fm_deedLong fm_deedKind fm_kept fm_tape fm_must fm_least fm_pin z4 fm_verdict fm_row fm_official fm_aside fm_worth fm_out)
set_option maxHeartbeats 4000000 in
set_option maxRecDepth 100000 in
theorem sX12_counts (l : Launch) (dC : Nat → ClassId) (dI : Nat → Nat → Nat) (sz : Nat) (h0 : Nat) (mi : Nat → Int32) (mr : Nat → Nat) (km : Nat → ClassId) (fm_must : Nat → Int32) (fm_least : Nat → Int32) (fm_pin : Nat → Int32) (fm_ways : Nat → Int32) (fm_trust : Nat → Int32) (fm_letter : Nat → Int32) (fm_reportPlace : Nat → Int32) (fm_reportKind : Nat → Int32) (fm_struck : Nat → Int32) (fm_reportMonth : Nat → Int32) (fm_reportDay : Nat → Int32) (fm_reportKnown : Nat → Int32) (fm_deedMonth : Nat → Int32) (fm_deedDay : Nat → Int32) (fm_deedLong : Nat → Int32) (fm_deedKind : Nat → Int32) (fm_kept : Nat → Int32) (fm_tape : Nat → Int32) (fm_verdict : Nat → Int32) (fm_row : Nat → Int32) (fm_official : Nat → Int32) (fm_aside : Nat → Int32) (fm_worth : Nat → Int32) (fm_out : Nat → Int32) (gmi_0 : gi (mi 0) 0 24) (gmi_1 : gi (mi 1) 0 5) (gmi_2 : gi (mi 2) 0 5) (gmi_4 : gi (mi 4) 0 1) (gmi_7 : gi (mi 7) 0 6) (gmi_10 : gi (mi 10) 0 24) (gmi_17 : gi (mi 17) 0 8) (gmi_23 : gi (mi 23) 0 300) (gmi_24 : gi (mi 24) 0 1) (gmi_26 : gi (mi 26) 0 1600) (gmi_29 : gi (mi 29) 0 1600) (gmi_30 : gi (mi 30) 0 1600) (gmi_33 : gi (mi 33) 0 1) (gmi_37 : gi (mi 37) 0 1) (gmi_41 : gi (mi 41) 0 24) (gmi_50 : gi (mi 50) 0 1) (gmi_51 : gi (mi 51) 0 1) (gmi_56 : gi (mi 56) 0 80) : Met l yX12_counts (.code yX12_counts cX12_counts 6 (some .int) :: wsGB) ({ frames := 2, cells := 0, slots := 0, locals := 48 }) (va_Pc [.ref h0] (fun U => U.heap.size = sz ∧ va_P (dC, dI) vwCl (MWn h0 mr km (mi 0) (mi 1) (mi 2) (mi 3) (mi 4) (mi 5) (mi 6) (mi 7) (mi 10) (mi 17) (mi 23) (mi 24) (mi 26) (mi 27) (mi 28) (mi 29) (mi 30) (mi 31) (mi 32) (mi 33) (mi 37) (mi 41) (mi 42) (mi 43) (mi 44) (mi 45) (mi 47) (mi 48) (mi 49) (mi 50) (mi 51) (mi 54) (mi 56) fm_trust fm_letter fm_reportPlace fm_reportKind fm_struck fm_reportMonth fm_reportDay fm_reportKnown fm_deedMonth fm_deedDay fm_deedLong fm_deedKind fm_kept fm_tape fm_must fm_least fm_pin fm_ways fm_verdict fm_row fm_official fm_aside fm_worth fm_out) U.heap ∧ va_K (dC, dI) vwCl (MT km) U ∧ va_D (fun _ => True) (MWn h0 mr km (mi 0) (mi 1) (mi 2) (mi 3) (mi 4) (mi 5) (mi 6) (mi 7) (mi 10) (mi 17) (mi 23) (mi 24) (mi 26) (mi 27) (mi 28) (mi 29) (mi 30) (mi 31) (mi 32) (mi 33) (mi 37) (mi 41) (mi 42) (mi 43) (mi 44) (mi 45) (mi 47) (mi 48) (mi 49) (mi 50) (mi 51) (mi 54) (mi 56) fm_trust fm_letter fm_reportPlace fm_reportKind fm_struck fm_reportMonth fm_reportDay fm_reportKnown fm_deedMonth fm_deedDay fm_deedLong fm_deedKind fm_kept fm_tape fm_must fm_least fm_pin fm_ways fm_verdict fm_row fm_official fm_aside fm_worth fm_out))) (va_Qi (fun (r : Int32) (u : Unit) => gi r (-2147483648) 2147483647) (fun _ t => ∃ (z4 : Nat → Int32), pb_sX12_counts dC dI (va_A (MWn h0 mr km (mi 0) (mi 1) (mi 2) (mi 3) (mi 4) (mi 5) (mi 6) (mi 7) (mi 10) (mi 17) (mi 23) (mi 24) (mi 26) (mi 27) (mi 28) (mi 29) (mi 30) (mi 31) (mi 32) (mi 33) (mi 37) (mi 41) (mi 42) (mi 43) (mi 44) (mi 45) (mi 47) (mi 48) (mi 49) (mi 50) (mi 51) (mi 54) (mi 56) fm_trust fm_letter fm_reportPlace fm_reportKind fm_struck fm_reportMonth fm_reportDay fm_reportKnown fm_deedMonth fm_deedDay fm_deedLong fm_deedKind fm_kept fm_tape fm_must fm_least fm_pin fm_ways fm_verdict fm_row fm_official fm_aside fm_worth fm_out) sz) h0 mi mr km fm_must fm_least fm_pin fm_ways fm_trust fm_letter fm_reportPlace fm_reportKind fm_struck fm_reportMonth fm_reportDay fm_reportKnown fm_deedMonth fm_deedDay fm_deedLong fm_deedKind fm_kept fm_tape fm_verdict fm_row fm_official fm_aside fm_worth fm_out z4 t) (va_A (MWn h0 mr km (mi 0) (mi 1) (mi 2) (mi 3) (mi 4) (mi 5) (mi 6) (mi 7) (mi 10) (mi 17) (mi 23) (mi 24) (mi 26) (mi 27) (mi 28) (mi 29) (mi 30) (mi 31) (mi 32) (mi 33) (mi 37) (mi 41) (mi 42) (mi 43) (mi 44) (mi 45) (mi 47) (mi 48) (mi 49) (mi 50) (mi 51) (mi 54) (mi 56) fm_trust fm_letter fm_reportPlace fm_reportKind fm_struck fm_reportMonth fm_reportDay fm_reportKnown fm_deedMonth fm_deedDay fm_deedLong fm_deedKind fm_kept fm_tape fm_must fm_least fm_pin fm_ways fm_verdict fm_row fm_official fm_aside fm_worth fm_out) sz)) 0 0 (va_A (MWn h0 mr km (mi 0) (mi 1) (mi 2) (mi 3) (mi 4) (mi 5) (mi 6) (mi 7) (mi 10) (mi 17) (mi 23) (mi 24) (mi 26) (mi 27) (mi 28) (mi 29) (mi 30) (mi 31) (mi 32) (mi 33) (mi 37) (mi 41) (mi 42) (mi 43) (mi 44) (mi 45) (mi 47) (mi 48) (mi 49) (mi 50) (mi 51) (mi 54) (mi 56) fm_trust fm_letter fm_reportPlace fm_reportKind fm_struck fm_reportMonth fm_reportDay fm_reportKnown fm_deedMonth fm_deedDay fm_deedLong fm_deedKind fm_kept fm_tape fm_must fm_least fm_pin fm_ways fm_verdict fm_row fm_official fm_aside fm_worth fm_out) sz) := by
  refine Met.ofW (cc := cX12_counts) (maxL := 6) (ret := (some .int)) (by decide) rfl ?_
  intro p e s m args below meth c s₁ B hml hv
  obtain ⟨rfl, hsz, hP, hK, hD0⟩ := hv
  have hx := B.exec
  have hb := B.bytes
  have hr := B.returns
  have hts := atoms_spec (ws := (.code yX12_counts cX12_counts 6 (some .int) :: wsGB)) B.pre
  have hown : s.vm.findClass RX12 = some m.cls := findClass_of_methodNamed B.named
  have hlocks := B.notSynchronized
  subst hsz
  have hD := hD0.self (sz := s.heap.size)
  generalize hAe : va_A (MWn h0 mr km (mi 0) (mi 1) (mi 2) (mi 3) (mi 4) (mi 5) (mi 6) (mi 7) (mi 10) (mi 17) (mi 23) (mi 24) (mi 26) (mi 27) (mi 28) (mi 29) (mi 30) (mi 31) (mi 32) (mi 33) (mi 37) (mi 41) (mi 42) (mi 43) (mi 44) (mi 45) (mi 47) (mi 48) (mi 49) (mi 50) (mi 51) (mi 54) (mi 56) fm_trust fm_letter fm_reportPlace fm_reportKind fm_struck fm_reportMonth fm_reportDay fm_reportKnown fm_deedMonth fm_deedDay fm_deedLong fm_deedKind fm_kept fm_tape fm_must fm_least fm_pin fm_ways fm_verdict fm_row fm_official fm_aside fm_worth fm_out) s.heap.size = A at hD ⊢
  have hA : ∀ q : Nat, s.heap.size ≤ q → A q := fun q h => by rw [← hAe]; exact Or.inr h
  have hS : va_S A s.heap s.heap [] := va_S.rf
  have hl := lv_entry ([.ref h0]) (n := 6) (Nat.le_of_ble_eq_true rfl)
  rw [lg_entry_eq]
  generalize (lg_sl ([.ref h0]) ++ List.replicate (6 - (lg_sl ([.ref h0])).length) Slot.unset).toArray = ls at hl ⊢
  have hl : lv_has ls 6 [(0, .ref h0)] := hl
  refine lv_aload_n hx hb dX12_counts_0 rfl (lv_at hl 0 rfl) ?_
  refine va_get (D := (dC, dI)) (ci := 12) (v := .int (mi 0)) (C := RX12) (T := TX12) (N := 57) hx hb hts (fun w h => List.mem_cons_of_mem _ (jnGB_X12 w h)) hown hK hP 0 rfl rfl 0 (by decide) (hts _ (List.mem_cons_of_mem _ mGB_103)) (fun _ h9 => h9) rfl dX12_counts_1 ?_
  refine lv_istore_n (lv' := [(1, .int (mi 0)), (0, .ref h0)]) hx hb dX12_counts_4 rfl hl (by decide) rfl (fun ls hl => ?_)
  refine (lp_sX12_counts h0 mi mr km fm_must fm_least fm_pin fm_ways fm_trust fm_letter fm_reportPlace fm_reportKind fm_struck fm_reportMonth fm_reportDay fm_reportKnown fm_deedMonth fm_deedDay fm_deedLong fm_deedKind fm_kept fm_tape fm_verdict fm_row fm_official fm_aside fm_worth fm_out gmi_0 gmi_1 gmi_2 gmi_4 gmi_7 gmi_10 gmi_17 gmi_23 gmi_24 gmi_26 gmi_29 gmi_30 gmi_33 gmi_37 gmi_41 gmi_50 gmi_51 gmi_56 hx hb hml hown hts hK hA (Nat.le_of_ble_eq_true rfl) (Nat.le_of_ble_eq_true rfl) (Nat.zero_le _) (Nat.zero_le _) (fun v z4 H locs ls hP hD hS hl => ?_) 20476).1 (mi 0) fm_ways _ _ _ (gi_w gmi_0 (by decide)) (by have qgmi_0 := gmi_0.1; have rgmi_0 := gmi_0.2; omega) (by have qgmi_0 := gmi_0.1; have rgmi_0 := gmi_0.2; omega) hP hD hS (lv_sub hl [1, 0] rfl)
  · skip
    exact W.iret (v := v) hx hb hr (fun t ht hW => ⟨⟨v, (), rfl, (gi_any v), z4, by rw [ht]; exact hP, hD⟩, hS.F ht⟩) hS.2.2 dX12_counts_132
theorem dX12_holds_0 : decode cX12_holds 0 = .ok (.aload_n 0, 1) := by decide +kernel
theorem dX12_holds_1 : decode cX12_holds 1 = .ok (.getfield 26, 3) := by decide +kernel
theorem dX12_holds_4 : decode cX12_holds 4 = .ok (.iload_n 1, 1) := by decide +kernel
theorem dX12_holds_5 : decode cX12_holds 5 = .ok (.iaload, 1) := by decide +kernel
theorem dX12_holds_6 : decode cX12_holds 6 = .ok (.istore_n 2, 1) := by decide +kernel
theorem dX12_holds_7 : decode cX12_holds 7 = .ok (.aload_n 0, 1) := by decide +kernel
theorem dX12_holds_8 : decode cX12_holds 8 = .ok (.getfield 29, 3) := by decide +kernel
theorem dX12_holds_11 : decode cX12_holds 11 = .ok (.iload_n 1, 1) := by decide +kernel
theorem dX12_holds_12 : decode cX12_holds 12 = .ok (.iaload, 1) := by decide +kernel
theorem dX12_holds_13 : decode cX12_holds 13 = .ok (.iconst 1, 1) := by decide +kernel
theorem dX12_holds_14 : decode cX12_holds 14 = .ok (.iadd, 1) := by decide +kernel
theorem dX12_holds_15 : decode cX12_holds 15 = .ok (.istore_n 3, 1) := by decide +kernel
theorem dX12_holds_16 : decode cX12_holds 16 = .ok (.aload_n 0, 1) := by decide +kernel
theorem dX12_holds_17 : decode cX12_holds 17 = .ok (.getfield 19, 3) := by decide +kernel
theorem dX12_holds_20 : decode cX12_holds 20 = .ok (.iload_n 1, 1) := by decide +kernel
theorem dX12_holds_21 : decode cX12_holds 21 = .ok (.iaload, 1) := by decide +kernel
theorem dX12_holds_22 : decode cX12_holds 22 = .ok (.ifCond .ne 46, 3) := by decide +kernel
theorem dX12_holds_25 : decode cX12_holds 25 = .ok (.aload_n 0, 1) := by decide +kernel
theorem dX12_holds_26 : decode cX12_holds 26 = .ok (.aload_n 0, 1) := by decide +kernel
theorem dX12_holds_27 : decode cX12_holds 27 = .ok (.getfield 312, 3) := by decide +kernel
theorem dX12_holds_30 : decode cX12_holds 30 = .ok (.ifCond .ne 23, 3) := by decide +kernel
theorem dX12_holds_33 : decode cX12_holds 33 = .ok (.aload_n 0, 1) := by decide +kernel
theorem dX12_holds_34 : decode cX12_holds 34 = .ok (.getfield 57, 3) := by decide +kernel
theorem dX12_holds_37 : decode cX12_holds 37 = .ok (.iload_n 2, 1) := by decide +kernel
theorem dX12_holds_38 : decode cX12_holds 38 = .ok (.iaload, 1) := by decide +kernel
theorem dX12_holds_39 : decode cX12_holds 39 = .ok (.iconst (-1), 1) := by decide +kernel
theorem dX12_holds_40 : decode cX12_holds 40 = .ok (.if_icmp .eq 17, 3) := by decide +kernel
theorem dX12_holds_43 : decode cX12_holds 43 = .ok (.aload_n 0, 1) := by decide +kernel
theorem dX12_holds_44 : decode cX12_holds 44 = .ok (.getfield 57, 3) := by decide +kernel
theorem dX12_holds_47 : decode cX12_holds 47 = .ok (.iload_n 2, 1) := by decide +kernel
theorem dX12_holds_48 : decode cX12_holds 48 = .ok (.iaload, 1) := by decide +kernel
theorem dX12_holds_49 : decode cX12_holds 49 = .ok (.iload_n 3, 1) := by decide +kernel
theorem dX12_holds_50 : decode cX12_holds 50 = .ok (.if_icmp .eq 7, 3) := by decide +kernel
theorem dX12_holds_53 : decode cX12_holds 53 = .ok (.iconst 1, 1) := by decide +kernel
theorem dX12_holds_54 : decode cX12_holds 54 = .ok (.goto 4, 3) := by decide +kernel
theorem dX12_holds_57 : decode cX12_holds 57 = .ok (.iconst 0, 1) := by decide +kernel
theorem dX12_holds_58 : decode cX12_holds 58 = .ok (.putfield 312, 3) := by decide +kernel
theorem dX12_holds_61 : decode cX12_holds 61 = .ok (.aload_n 0, 1) := by decide +kernel
theorem dX12_holds_62 : decode cX12_holds 62 = .ok (.getfield 57, 3) := by decide +kernel
theorem dX12_holds_65 : decode cX12_holds 65 = .ok (.iload_n 2, 1) := by decide +kernel
theorem dX12_holds_66 : decode cX12_holds 66 = .ok (.iload_n 3, 1) := by decide +kernel
theorem dX12_holds_67 : decode cX12_holds 67 = .ok (.iastore, 1) := by decide +kernel
theorem dX12_holds_68 : decode cX12_holds 68 = .ok (.aload_n 0, 1) := by decide +kernel
theorem dX12_holds_69 : decode cX12_holds 69 = .ok (.getfield 19, 3) := by decide +kernel
theorem dX12_holds_72 : decode cX12_holds 72 = .ok (.iload_n 1, 1) := by decide +kernel
theorem dX12_holds_73 : decode cX12_holds 73 = .ok (.iaload, 1) := by decide +kernel
theorem dX12_holds_74 : decode cX12_holds 74 = .ok (.iconst 1, 1) := by decide +kernel
theorem dX12_holds_75 : decode cX12_holds 75 = .ok (.if_icmp .ne 21, 3) := by decide +kernel
theorem dX12_holds_78 : decode cX12_holds 78 = .ok (.aload_n 0, 1) := by decide +kernel
theorem dX12_holds_79 : decode cX12_holds 79 = .ok (.getfield 60, 3) := by decide +kernel
theorem dX12_holds_82 : decode cX12_holds 82 = .ok (.iload_n 2, 1) := by decide +kernel
theorem dX12_holds_83 : decode cX12_holds 83 = .ok (.aload_n 0, 1) := by decide +kernel
theorem dX12_holds_84 : decode cX12_holds 84 = .ok (.getfield 60, 3) := by decide +kernel
theorem dX12_holds_87 : decode cX12_holds 87 = .ok (.iload_n 2, 1) := by decide +kernel
theorem dX12_holds_88 : decode cX12_holds 88 = .ok (.iaload, 1) := by decide +kernel
theorem dX12_holds_89 : decode cX12_holds 89 = .ok (.iload_n 3, 1) := by decide +kernel
theorem dX12_holds_90 : decode cX12_holds 90 = .ok (.iconst 1, 1) := by decide +kernel
theorem dX12_holds_91 : decode cX12_holds 91 = .ok (.iadd, 1) := by decide +kernel
theorem dX12_holds_92 : decode cX12_holds 92 = .ok (.invokestatic 219, 3) := by decide +kernel
theorem dX12_holds_95 : decode cX12_holds 95 = .ok (.iastore, 1) := by decide +kernel
theorem dX12_holds_96 : decode cX12_holds 96 = .ok (.return_, 1) := by decide +kernel
abbrev pb_sX12_holds (dC : Nat → ClassId) (dI : Nat → Nat → Nat) (A9 : Nat → Prop) (h0 : Nat) (mi : Nat → Int32) (mr : Nat → Nat) (km : Nat → ClassId) (fm_reportMonth : Nat → Int32) (fm_reportDay : Nat → Int32) (fm_reportKind : Nat → Int32) (fm_must : Nat → Int32) (fm_least : Nat → Int32) (fm_trust : Nat → Int32) (fm_letter : Nat → Int32) (fm_reportPlace : Nat → Int32) (fm_struck : Nat → Int32) (fm_reportKnown : Nat → Int32) (fm_deedMonth : Nat → Int32) (fm_deedDay : Nat → Int32) (fm_deedLong : Nat → Int32) (fm_deedKind : Nat → Int32) (fm_kept : Nat → Int32) (fm_tape : Nat → Int32) (fm_pin : Nat → Int32) (fm_ways : Nat → Int32) (fm_verdict : Nat → Int32) (fm_row : Nat → Int32) (fm_official : Nat → Int32) (fm_aside : Nat → Int32) (fm_worth : Nat → Int32) (fm_out : Nat → Int32) (p1 : Int32) (w0_37 : Int32) (z4 : Nat → Int32) (z5 : Nat → Int32) (t : State) : Prop := gi w0_37 0 1 ∧ va_P (dC, dI) vwCl (MWn h0 mr km (mi 0) (mi 1) (mi 2) (mi 3) (mi 4) (mi 5) (mi 6) (mi 7) (mi 10) (mi 17) (mi 23) (mi 24) (mi 26) (mi 27) (mi 28) (mi 29) (mi 30) (mi 31) (mi 32) (mi 33) w0_37 (mi 41) (mi 42) (mi 43) (mi 44) (mi 45) (mi 47) (mi 48) (mi 49) (mi 50) (mi 51) (mi 54) (mi 56) fm_trust fm_letter fm_reportPlace fm_reportKind fm_struck fm_reportMonth fm_reportDay fm_reportKnown fm_deedMonth fm_deedDay fm_deedLong fm_deedKind fm_kept fm_tape z4 z5 fm_pin fm_ways fm_verdict fm_row fm_official fm_aside fm_worth fm_out) t.heap ∧ va_D A9 (MWn h0 mr km (mi 0) (mi 1) (mi 2) (mi 3) (mi 4) (mi 5) (mi 6) (mi 7) (mi 10) (mi 17) (mi 23) (mi 24) (mi 26) (mi 27) (mi 28) (mi 29) (mi 30) (mi 31) (mi 32) (mi 33) w0_37 (mi 41) (mi 42) (mi 43) (mi 44) (mi 45) (mi 47) (mi 48) (mi 49) (mi 50) (mi 51) (mi 54) (mi 56) fm_trust fm_letter fm_reportPlace fm_reportKind fm_struck fm_reportMonth fm_reportDay fm_reportKnown fm_deedMonth fm_deedDay fm_deedLong fm_deedKind fm_kept fm_tape z4 z5 fm_pin fm_ways fm_verdict fm_row fm_official fm_aside fm_worth fm_out)
set_option maxHeartbeats 4000000 in
set_option maxRecDepth 100000 in
theorem sX12_holds (l : Launch) (dC : Nat → ClassId) (dI : Nat → Nat → Nat) (sz : Nat) (h0 : Nat) (mi : Nat → Int32) (mr : Nat → Nat) (km : Nat → ClassId) (fm_reportMonth : Nat → Int32) (fm_reportDay : Nat → Int32) (fm_reportKind : Nat → Int32) (fm_must : Nat → Int32) (fm_least : Nat → Int32) (fm_trust : Nat → Int32) (fm_letter : Nat → Int32) (fm_reportPlace : Nat → Int32) (fm_struck : Nat → Int32) (fm_reportKnown : Nat → Int32) (fm_deedMonth : Nat → Int32) (fm_deedDay : Nat → Int32) (fm_deedLong : Nat → Int32) (fm_deedKind : Nat → Int32) (fm_kept : Nat → Int32) (fm_tape : Nat → Int32) (fm_pin : Nat → Int32) (fm_ways : Nat → Int32) (fm_verdict : Nat → Int32) (fm_row : Nat → Int32) (fm_official : Nat → Int32) (fm_aside : Nat → Int32) (fm_worth : Nat → Int32) (fm_out : Nat → Int32) (p1 : Int32) (gmi_0 : gi (mi 0) 0 24) (gmi_1 : gi (mi 1) 0 5) (gmi_2 : gi (mi 2) 0 5) (gmi_4 : gi (mi 4) 0 1) (gmi_7 : gi (mi 7) 0 6) (gmi_10 : gi (mi 10) 0 24) (gmi_17 : gi (mi 17) 0 8) (gmi_23 : gi (mi 23) 0 300) (gmi_24 : gi (mi 24) 0 1) (gmi_26 : gi (mi 26) 0 1600) (gmi_29 : gi (mi 29) 0 1600) (gmi_30 : gi (mi 30) 0 1600) (gmi_33 : gi (mi 33) 0 1) (gmi_37 : gi (mi 37) 0 1) (gmi_41 : gi (mi 41) 0 24) (gmi_50 : gi (mi 50) 0 1) (gmi_51 : gi (mi 51) 0 1) (gmi_56 : gi (mi 56) 0 80) (gfm_reportMonth : ga fm_reportMonth 24 0 23) (gfm_reportDay : ga fm_reportDay 24 0 999) (gp1 : gi p1 0 23) : Met l yX12_holds (.code yX12_holds cX12_holds 4 none :: wsGB) ({ frames := 1, cells := 0, slots := 0, locals := 15 }) (va_Pc [.ref h0, .int p1] (fun U => U.heap.size = sz ∧ va_P (dC, dI) vwCl (MWn h0 mr km (mi 0) (mi 1) (mi 2) (mi 3) (mi 4) (mi 5) (mi 6) (mi 7) (mi 10) (mi 17) (mi 23) (mi 24) (mi 26) (mi 27) (mi 28) (mi 29) (mi 30) (mi 31) (mi 32) (mi 33) (mi 37) (mi 41) (mi 42) (mi 43) (mi 44) (mi 45) (mi 47) (mi 48) (mi 49) (mi 50) (mi 51) (mi 54) (mi 56) fm_trust fm_letter fm_reportPlace fm_reportKind fm_struck fm_reportMonth fm_reportDay fm_reportKnown fm_deedMonth fm_deedDay fm_deedLong fm_deedKind fm_kept fm_tape fm_must fm_least fm_pin fm_ways fm_verdict fm_row fm_official fm_aside fm_worth fm_out) U.heap ∧ va_K (dC, dI) vwCl (MT km) U ∧ va_D (fun _ => True) (MWn h0 mr km (mi 0) (mi 1) (mi 2) (mi 3) (mi 4) (mi 5) (mi 6) (mi 7) (mi 10) (mi 17) (mi 23) (mi 24) (mi 26) (mi 27) (mi 28) (mi 29) (mi 30) (mi 31) (mi 32) (mi 33) (mi 37) (mi 41) (mi 42) (mi 43) (mi 44) (mi 45) (mi 47) (mi 48) (mi 49) (mi 50) (mi 51) (mi 54) (mi 56) fm_trust fm_letter fm_reportPlace fm_reportKind fm_struck fm_reportMonth fm_reportDay fm_reportKnown fm_deedMonth fm_deedDay fm_deedLong fm_deedKind fm_kept fm_tape fm_must fm_least fm_pin fm_ways fm_verdict fm_row fm_official fm_aside fm_worth fm_out))) (va_Qv (fun (u : Unit) => True) (fun _ t => ∃ (w0_37 : Int32) (z4 : Nat → Int32) (z5 : Nat → Int32), pb_sX12_holds dC dI (va_A (MWn h0 mr km (mi 0) (mi 1) (mi 2) (mi 3) (mi 4) (mi 5) (mi 6) (mi 7) (mi 10) (mi 17) (mi 23) (mi 24) (mi 26) (mi 27) (mi 28) (mi 29) (mi 30) (mi 31) (mi 32) (mi 33) (mi 37) (mi 41) (mi 42) (mi 43) (mi 44) (mi 45) (mi 47) (mi 48) (mi 49) (mi 50) (mi 51) (mi 54) (mi 56) fm_trust fm_letter fm_reportPlace fm_reportKind fm_struck fm_reportMonth fm_reportDay fm_reportKnown fm_deedMonth fm_deedDay fm_deedLong fm_deedKind fm_kept fm_tape fm_must fm_least fm_pin fm_ways fm_verdict fm_row fm_official fm_aside fm_worth fm_out) sz) h0 mi mr km fm_reportMonth fm_reportDay fm_reportKind fm_must fm_least fm_trust fm_letter fm_reportPlace fm_struck fm_reportKnown fm_deedMonth fm_deedDay fm_deedLong fm_deedKind fm_kept fm_tape fm_pin fm_ways fm_verdict fm_row fm_official fm_aside fm_worth fm_out p1 w0_37 z4 z5 t) (va_A (MWn h0 mr km (mi 0) (mi 1) (mi 2) (mi 3) (mi 4) (mi 5) (mi 6) (mi 7) (mi 10) (mi 17) (mi 23) (mi 24) (mi 26) (mi 27) (mi 28) (mi 29) (mi 30) (mi 31) (mi 32) (mi 33) (mi 37) (mi 41) (mi 42) (mi 43) (mi 44) (mi 45) (mi 47) (mi 48) (mi 49) (mi 50) (mi 51) (mi 54) (mi 56) fm_trust fm_letter fm_reportPlace fm_reportKind fm_struck fm_reportMonth fm_reportDay fm_reportKnown fm_deedMonth fm_deedDay fm_deedLong fm_deedKind fm_kept fm_tape fm_must fm_least fm_pin fm_ways fm_verdict fm_row fm_official fm_aside fm_worth fm_out) sz)) 0 0 (va_A (MWn h0 mr km (mi 0) (mi 1) (mi 2) (mi 3) (mi 4) (mi 5) (mi 6) (mi 7) (mi 10) (mi 17) (mi 23) (mi 24) (mi 26) (mi 27) (mi 28) (mi 29) (mi 30) (mi 31) (mi 32) (mi 33) (mi 37) (mi 41) (mi 42) (mi 43) (mi 44) (mi 45) (mi 47) (mi 48) (mi 49) (mi 50) (mi 51) (mi 54) (mi 56) fm_trust fm_letter fm_reportPlace fm_reportKind fm_struck fm_reportMonth fm_reportDay fm_reportKnown fm_deedMonth fm_deedDay fm_deedLong fm_deedKind fm_kept fm_tape fm_must fm_least fm_pin fm_ways fm_verdict fm_row fm_official fm_aside fm_worth fm_out) sz) := by
  refine Met.ofW (cc := cX12_holds) (maxL := 4) (ret := none) (by decide) rfl ?_
  intro p e s m args below meth c s₁ B hml hv
  obtain ⟨rfl, hsz, hP, hK, hD0⟩ := hv
  have hx := B.exec
  have hb := B.bytes
  have hr := B.returns
  have hts := atoms_spec (ws := (.code yX12_holds cX12_holds 4 none :: wsGB)) B.pre
  have hown : s.vm.findClass RX12 = some m.cls := findClass_of_methodNamed B.named
  have hlocks := B.notSynchronized
  subst hsz
  have hD := hD0.self (sz := s.heap.size)
  generalize hAe : va_A (MWn h0 mr km (mi 0) (mi 1) (mi 2) (mi 3) (mi 4) (mi 5) (mi 6) (mi 7) (mi 10) (mi 17) (mi 23) (mi 24) (mi 26) (mi 27) (mi 28) (mi 29) (mi 30) (mi 31) (mi 32) (mi 33) (mi 37) (mi 41) (mi 42) (mi 43) (mi 44) (mi 45) (mi 47) (mi 48) (mi 49) (mi 50) (mi 51) (mi 54) (mi 56) fm_trust fm_letter fm_reportPlace fm_reportKind fm_struck fm_reportMonth fm_reportDay fm_reportKnown fm_deedMonth fm_deedDay fm_deedLong fm_deedKind fm_kept fm_tape fm_must fm_least fm_pin fm_ways fm_verdict fm_row fm_official fm_aside fm_worth fm_out) s.heap.size = A at hD ⊢
  have hA : ∀ q : Nat, s.heap.size ≤ q → A q := fun q h => by rw [← hAe]; exact Or.inr h
  have hS : va_S A s.heap s.heap [] := va_S.rf
  have hl := lv_entry ([.ref h0, .int p1]) (n := 4) (Nat.le_of_ble_eq_true rfl)
  rw [lg_entry_eq]
  generalize (lg_sl ([.ref h0, .int p1]) ++ List.replicate (4 - (lg_sl ([.ref h0, .int p1])).length) Slot.unset).toArray = ls at hl ⊢
  have hl : lv_has ls 4 [(0, .ref h0), (1, .int p1)] := hl
  refine lv_aload_n hx hb dX12_holds_0 rfl (lv_at hl 0 rfl) ?_
  refine va_get (D := (dC, dI)) (ci := 12) (v := .ref (mr 5)) (C := RX12) (T := TX12) (N := 57) hx hb hts (fun w h => List.mem_cons_of_mem _ (jnGB_X12 w h)) hown hK hP 0 rfl rfl 14 (by decide) (hts _ (List.mem_cons_of_mem _ mGB_16)) (fun _ h9 => h9) rfl dX12_holds_1 ?_
  refine lv_iload_n hx hb dX12_holds_4 rfl (lv_at hl 1 rfl) ?_
  refine va_iald hx hb hK hP 6 5 rfl rfl (gi_in gp1 (by decide)) dX12_holds_5 ?_
  refine lv_topi (fun x_109 ex_109 => ?_)
  have gx_109 : gi x_109 0 23 := ga_at gfm_reportMonth (gi_in gp1 (by decide)) ex_109
  refine lv_istore_n (lv' := [(2, .int x_109), (0, .ref h0), (1, .int p1)]) hx hb dX12_holds_6 rfl hl (by decide) rfl (fun ls hl => ?_)
  refine lv_aload_n hx hb dX12_holds_7 rfl (lv_at hl 1 rfl) ?_
  refine va_get (D := (dC, dI)) (ci := 12) (v := .ref (mr 6)) (C := RX12) (T := TX12) (N := 57) hx hb hts (fun w h => List.mem_cons_of_mem _ (jnGB_X12 w h)) hown hK hP 0 rfl rfl 15 (by decide) (hts _ (List.mem_cons_of_mem _ mGB_17)) (fun _ h9 => h9) rfl dX12_holds_8 ?_
  refine lv_iload_n hx hb dX12_holds_11 rfl (lv_at hl 2 rfl) ?_
  refine va_iald hx hb hK hP 7 6 rfl rfl (gi_in gp1 (by decide)) dX12_holds_12 ?_
  refine lv_topi (fun x_110 ex_110 => ?_)
  have gx_110 : gi x_110 0 999 := ga_at gfm_reportDay (gi_in gp1 (by decide)) ex_110
  refine lv_iconst (v := 1) hx hb dX12_holds_13 (by decide) ?_
  refine lv_iadd hx hb dX12_holds_14 ?_
  refine lv_topi (fun x_111 ex_111 => ?_)
  have gx_111 : gi x_111 1 1000 := gi_add ex_111 gx_110 (gi_c 1 1 (by decide)) (by decide)
  refine lv_istore_n (lv' := [(3, .int x_111), (2, .int x_109), (0, .ref h0), (1, .int p1)]) hx hb dX12_holds_15 rfl hl (by decide) rfl (fun ls hl => ?_)
  refine lv_aload_n hx hb dX12_holds_16 rfl (lv_at hl 2 rfl) ?_
  refine va_get (D := (dC, dI)) (ci := 12) (v := .ref (mr 3)) (C := RX12) (T := TX12) (N := 57) hx hb hts (fun w h => List.mem_cons_of_mem _ (jnGB_X12 w h)) hown hK hP 0 rfl rfl 12 (by decide) (hts _ (List.mem_cons_of_mem _ mGB_13)) (fun _ h9 => h9) rfl dX12_holds_17 ?_
  refine lv_iload_n hx hb dX12_holds_20 rfl (lv_at hl 3 rfl) ?_
  refine va_iald hx hb hK hP 4 3 rfl rfl (gi_in gp1 (by decide)) dX12_holds_21 ?_
  refine lv_topi (fun x_112 ex_112 => ?_)
  refine lv_if_ne (tgt := 68) hx hb dX12_holds_22 (by decide) (fun c_113 => ?_) (fun c_113 => ?_)
  · refine lv_aload_n hx hb dX12_holds_68 rfl (lv_at hl 2 rfl) ?_
    refine va_get (D := (dC, dI)) (ci := 12) (v := .ref (mr 3)) (C := RX12) (T := TX12) (N := 57) hx hb hts (fun w h => List.mem_cons_of_mem _ (jnGB_X12 w h)) hown hK hP 0 rfl rfl 12 (by decide) (hts _ (List.mem_cons_of_mem _ mGB_13)) (fun _ h9 => h9) rfl dX12_holds_69 ?_
    refine lv_iload_n hx hb dX12_holds_72 rfl (lv_at hl 3 rfl) ?_
    refine va_iald hx hb hK hP 4 3 rfl rfl (gi_in gp1 (by decide)) dX12_holds_73 ?_
    refine lv_topi (fun x_114 ex_114 => ?_)
    refine lv_iconst (v := 1) hx hb dX12_holds_74 (by decide) ?_
    refine lv_icmp_ne (tgt := 96) hx hb dX12_holds_75 (by decide) (fun c_115 => ?_) (fun c_115 => ?_)
    · exact W.vret hx hb hr (fun t ht hW => ⟨⟨(), rfl, trivial, (mi 37), fm_must, fm_least, gmi_37, by rw [ht]; exact hP, hD⟩, hS.F ht⟩) hS.2.2 dX12_holds_96
    · have g_116 : gi x_114 1 1 := gi_eq c_115 (gi_c 1 1 (by decide))
      refine lv_aload_n hx hb dX12_holds_78 rfl (lv_at hl 2 rfl) ?_
      refine va_get (D := (dC, dI)) (ci := 12) (v := .ref (mr 15)) (C := RX12) (T := TX12) (N := 57) hx hb hts (fun w h => List.mem_cons_of_mem _ (jnGB_X12 w h)) hown hK hP 0 rfl rfl 35 (by decide) (hts _ (List.mem_cons_of_mem _ mGB_27)) (fun _ h9 => h9) rfl dX12_holds_79 ?_
      refine lv_iload_n hx hb dX12_holds_82 rfl (lv_at hl 1 rfl) ?_
      refine lv_aload_n hx hb dX12_holds_83 rfl (lv_at hl 2 rfl) ?_
      refine va_get (D := (dC, dI)) (ci := 12) (v := .ref (mr 15)) (C := RX12) (T := TX12) (N := 57) hx hb hts (fun w h => List.mem_cons_of_mem _ (jnGB_X12 w h)) hown hK hP 0 rfl rfl 35 (by decide) (hts _ (List.mem_cons_of_mem _ mGB_27)) (fun _ h9 => h9) rfl dX12_holds_84 ?_
      refine lv_iload_n hx hb dX12_holds_87 rfl (lv_at hl 1 rfl) ?_
      refine va_iald hx hb hK hP 16 15 rfl rfl (gi_in gx_109 (by decide)) dX12_holds_88 ?_
      refine lv_topi (fun x_117 ex_117 => ?_)
      refine lv_iload_n hx hb dX12_holds_89 rfl (lv_at hl 0 rfl) ?_
      refine lv_iconst (v := 1) hx hb dX12_holds_90 (by decide) ?_
      refine lv_iadd hx hb dX12_holds_91 ?_
      refine lv_topi (fun x_118 ex_118 => ?_)
      have gx_118 : gi x_118 2 1001 := gi_add ex_118 gx_111 (gi_c 1 1 (by decide)) (by decide)
      refine va_mmax (own := RX12) hx hb (by rw [hml]; exact hl.1.symm) hown (hts _ (List.mem_cons_of_mem _ mGB_202)) (hts _ (List.mem_cons_of_mem _ mGB_203)) (hts _ (List.mem_cons_of_mem _ mGB_98)) (hts _ (List.mem_cons_of_mem _ mGB_204)) (Nat.le_of_ble_eq_true rfl) (Nat.le_of_ble_eq_true rfl) (Nat.zero_le _) (Nat.zero_le _) dX12_holds_92 ?_
      refine lv_topi (fun x_119 ex_119 => ?_)
      have gx_119 : gi x_119 2 2147483647 := gi_max ex_119 (gi_any x_117) gx_118 (by decide)
      refine va_iast hx hb hK hP hD hS 16 15 rfl rfl (gi_in gx_109 (by decide)) dX12_holds_95 (fun H locs hP hD hS => ?_)
      have hP : va_P (dC, dI) vwCl (MWn h0 mr km (mi 0) (mi 1) (mi 2) (mi 3) (mi 4) (mi 5) (mi 6) (mi 7) (mi 10) (mi 17) (mi 23) (mi 24) (mi 26) (mi 27) (mi 28) (mi 29) (mi 30) (mi 31) (mi 32) (mi 33) (mi 37) (mi 41) (mi 42) (mi 43) (mi 44) (mi 45) (mi 47) (mi 48) (mi 49) (mi 50) (mi 51) (mi 54) (mi 56) fm_trust fm_letter fm_reportPlace fm_reportKind fm_struck fm_reportMonth fm_reportDay fm_reportKnown fm_deedMonth fm_deedDay fm_deedLong fm_deedKind fm_kept fm_tape fm_must (upd fm_least (x_109 : Int32).toNatClampNeg x_119) fm_pin fm_ways fm_verdict fm_row fm_official fm_aside fm_worth fm_out) H := hP
      have hD : va_D A (MWn h0 mr km (mi 0) (mi 1) (mi 2) (mi 3) (mi 4) (mi 5) (mi 6) (mi 7) (mi 10) (mi 17) (mi 23) (mi 24) (mi 26) (mi 27) (mi 28) (mi 29) (mi 30) (mi 31) (mi 32) (mi 33) (mi 37) (mi 41) (mi 42) (mi 43) (mi 44) (mi 45) (mi 47) (mi 48) (mi 49) (mi 50) (mi 51) (mi 54) (mi 56) fm_trust fm_letter fm_reportPlace fm_reportKind fm_struck fm_reportMonth fm_reportDay fm_reportKnown fm_deedMonth fm_deedDay fm_deedLong fm_deedKind fm_kept fm_tape fm_must (upd fm_least (x_109 : Int32).toNatClampNeg x_119) fm_pin fm_ways fm_verdict fm_row fm_official fm_aside fm_worth fm_out) := hD
      generalize upd fm_least (x_109 : Int32).toNatClampNeg x_119 = f_120 at hP hD
      exact W.vret hx hb hr (fun t ht hW => ⟨⟨(), rfl, trivial, (mi 37), fm_must, f_120, gmi_37, by rw [ht]; exact hP, hD⟩, hS.F ht⟩) hS.2.2 dX12_holds_96
  · have g_121 : gi x_112 0 0 := gi_eq c_113 (gi_c 0 0 (by decide))
    refine lv_aload_n hx hb dX12_holds_25 rfl (lv_at hl 2 rfl) ?_
    refine lv_aload_n hx hb dX12_holds_26 rfl (lv_at hl 2 rfl) ?_
    refine va_get (D := (dC, dI)) (ci := 12) (v := .int (mi 37)) (C := RX12) (T := TX12) (N := 57) hx hb hts (fun w h => List.mem_cons_of_mem _ (jnGB_X12 w h)) hown hK hP 0 rfl rfl 37 (by decide) (hts _ (List.mem_cons_of_mem _ mGB_270)) (fun _ h9 => h9) rfl dX12_holds_27 ?_
    refine lv_if_ne (tgt := 53) hx hb dX12_holds_30 (by decide) (fun c_122 => ?_) (fun c_122 => ?_)
    · have g_123 : gi (mi 37) 1 1 := gi_ne_lo c_122 gmi_37 (gi_c 0 0 (by decide)) (by decide)
      refine lv_iconst (v := 1) hx hb dX12_holds_53 (by decide) ?_
      refine lv_goto (tgt := 58) hx hb dX12_holds_54 (by decide) ?_
      refine va_put (D := (dC, dI)) (ci := 12) (v := .int 1) (ty := .boolean) (C := RX12) (T := TX12) (N := 57) hx hb hts (fun w h => List.mem_cons_of_mem _ (jnGB_X12 w h)) tyX12 tyX12_ok nmX12 hown hK hP hD hS 0 rfl rfl 37 (by decide) (hts _ (List.mem_cons_of_mem _ mGB_270)) (fun _ h9 => h9) rfl (by decide +kernel) rfl rfl (Nat.le_of_ble_eq_true rfl) dX12_holds_58 (fun H locs hP hD hS => ?_)
      have hP : va_P (dC, dI) vwCl (MWn h0 mr km (mi 0) (mi 1) (mi 2) (mi 3) (mi 4) (mi 5) (mi 6) (mi 7) (mi 10) (mi 17) (mi 23) (mi 24) (mi 26) (mi 27) (mi 28) (mi 29) (mi 30) (mi 31) (mi 32) (mi 33) 1 (mi 41) (mi 42) (mi 43) (mi 44) (mi 45) (mi 47) (mi 48) (mi 49) (mi 50) (mi 51) (mi 54) (mi 56) fm_trust fm_letter fm_reportPlace fm_reportKind fm_struck fm_reportMonth fm_reportDay fm_reportKnown fm_deedMonth fm_deedDay fm_deedLong fm_deedKind fm_kept fm_tape fm_must fm_least fm_pin fm_ways fm_verdict fm_row fm_official fm_aside fm_worth fm_out) H := hP
      have hD : va_D A (MWn h0 mr km (mi 0) (mi 1) (mi 2) (mi 3) (mi 4) (mi 5) (mi 6) (mi 7) (mi 10) (mi 17) (mi 23) (mi 24) (mi 26) (mi 27) (mi 28) (mi 29) (mi 30) (mi 31) (mi 32) (mi 33) 1 (mi 41) (mi 42) (mi 43) (mi 44) (mi 45) (mi 47) (mi 48) (mi 49) (mi 50) (mi 51) (mi 54) (mi 56) fm_trust fm_letter fm_reportPlace fm_reportKind fm_struck fm_reportMonth fm_reportDay fm_reportKnown fm_deedMonth fm_deedDay fm_deedLong fm_deedKind fm_kept fm_tape fm_must fm_least fm_pin fm_ways fm_verdict fm_row fm_official fm_aside fm_worth fm_out) := hD
      refine lv_aload_n hx hb dX12_holds_61 rfl (lv_at hl 2 rfl) ?_
      refine va_get (D := (dC, dI)) (ci := 12) (v := .ref (mr 14)) (C := RX12) (T := TX12) (N := 57) hx hb hts (fun w h => List.mem_cons_of_mem _ (jnGB_X12 w h)) hown hK hP 0 rfl rfl 34 (by decide) (hts _ (List.mem_cons_of_mem _ mGB_26)) (fun _ h9 => h9) rfl dX12_holds_62 ?_
      refine lv_iload_n hx hb dX12_holds_65 rfl (lv_at hl 1 rfl) ?_
      refine lv_iload_n hx hb dX12_holds_66 rfl (lv_at hl 0 rfl) ?_
      refine va_iast hx hb hK hP hD hS 15 14 rfl rfl (gi_in gx_109 (by decide)) dX12_holds_67 (fun H locs hP hD hS => ?_)
      have hP : va_P (dC, dI) vwCl (MWn h0 mr km (mi 0) (mi 1) (mi 2) (mi 3) (mi 4) (mi 5) (mi 6) (mi 7) (mi 10) (mi 17) (mi 23) (mi 24) (mi 26) (mi 27) (mi 28) (mi 29) (mi 30) (mi 31) (mi 32) (mi 33) 1 (mi 41) (mi 42) (mi 43) (mi 44) (mi 45) (mi 47) (mi 48) (mi 49) (mi 50) (mi 51) (mi 54) (mi 56) fm_trust fm_letter fm_reportPlace fm_reportKind fm_struck fm_reportMonth fm_reportDay fm_reportKnown fm_deedMonth fm_deedDay fm_deedLong fm_deedKind fm_kept fm_tape (upd fm_must (x_109 : Int32).toNatClampNeg x_111) fm_least fm_pin fm_ways fm_verdict fm_row fm_official fm_aside fm_worth fm_out) H := hP
      have hD : va_D A (MWn h0 mr km (mi 0) (mi 1) (mi 2) (mi 3) (mi 4) (mi 5) (mi 6) (mi 7) (mi 10) (mi 17) (mi 23) (mi 24) (mi 26) (mi 27) (mi 28) (mi 29) (mi 30) (mi 31) (mi 32) (mi 33) 1 (mi 41) (mi 42) (mi 43) (mi 44) (mi 45) (mi 47) (mi 48) (mi 49) (mi 50) (mi 51) (mi 54) (mi 56) fm_trust fm_letter fm_reportPlace fm_reportKind fm_struck fm_reportMonth fm_reportDay fm_reportKnown fm_deedMonth fm_deedDay fm_deedLong fm_deedKind fm_kept fm_tape (upd fm_must (x_109 : Int32).toNatClampNeg x_111) fm_least fm_pin fm_ways fm_verdict fm_row fm_official fm_aside fm_worth fm_out) := hD
      generalize upd fm_must (x_109 : Int32).toNatClampNeg x_111 = f_124 at hP hD
      refine lv_aload_n hx hb dX12_holds_68 rfl (lv_at hl 2 rfl) ?_
      refine va_get (D := (dC, dI)) (ci := 12) (v := .ref (mr 3)) (C := RX12) (T := TX12) (N := 57) hx hb hts (fun w h => List.mem_cons_of_mem _ (jnGB_X12 w h)) hown hK hP 0 rfl rfl 12 (by decide) (hts _ (List.mem_cons_of_mem _ mGB_13)) (fun _ h9 => h9) rfl dX12_holds_69 ?_
      refine lv_iload_n hx hb dX12_holds_72 rfl (lv_at hl 3 rfl) ?_
      refine va_iald hx hb hK hP 4 3 rfl rfl (gi_in gp1 (by decide)) dX12_holds_73 ?_
      refine lv_topi (fun x_125 ex_125 => ?_)
      refine lv_iconst (v := 1) hx hb dX12_holds_74 (by decide) ?_
      refine lv_icmp_ne (tgt := 96) hx hb dX12_holds_75 (by decide) (fun c_126 => ?_) (fun c_126 => ?_)
      · exact W.vret hx hb hr (fun t ht hW => ⟨⟨(), rfl, trivial, 1, f_124, fm_least, (gi_w (gi_c 1 1 (by decide)) (by decide)), by rw [ht]; exact hP, hD⟩, hS.F ht⟩) hS.2.2 dX12_holds_96
      · have g_127 : gi x_125 1 1 := gi_eq c_126 (gi_c 1 1 (by decide))
        refine lv_aload_n hx hb dX12_holds_78 rfl (lv_at hl 2 rfl) ?_
        refine va_get (D := (dC, dI)) (ci := 12) (v := .ref (mr 15)) (C := RX12) (T := TX12) (N := 57) hx hb hts (fun w h => List.mem_cons_of_mem _ (jnGB_X12 w h)) hown hK hP 0 rfl rfl 35 (by decide) (hts _ (List.mem_cons_of_mem _ mGB_27)) (fun _ h9 => h9) rfl dX12_holds_79 ?_
        refine lv_iload_n hx hb dX12_holds_82 rfl (lv_at hl 1 rfl) ?_
        refine lv_aload_n hx hb dX12_holds_83 rfl (lv_at hl 2 rfl) ?_
        refine va_get (D := (dC, dI)) (ci := 12) (v := .ref (mr 15)) (C := RX12) (T := TX12) (N := 57) hx hb hts (fun w h => List.mem_cons_of_mem _ (jnGB_X12 w h)) hown hK hP 0 rfl rfl 35 (by decide) (hts _ (List.mem_cons_of_mem _ mGB_27)) (fun _ h9 => h9) rfl dX12_holds_84 ?_
        refine lv_iload_n hx hb dX12_holds_87 rfl (lv_at hl 1 rfl) ?_
        refine va_iald hx hb hK hP 16 15 rfl rfl (gi_in gx_109 (by decide)) dX12_holds_88 ?_
        refine lv_topi (fun x_128 ex_128 => ?_)
        refine lv_iload_n hx hb dX12_holds_89 rfl (lv_at hl 0 rfl) ?_
        refine lv_iconst (v := 1) hx hb dX12_holds_90 (by decide) ?_
        refine lv_iadd hx hb dX12_holds_91 ?_
        refine lv_topi (fun x_129 ex_129 => ?_)
        have gx_129 : gi x_129 2 1001 := gi_add ex_129 gx_111 (gi_c 1 1 (by decide)) (by decide)
        refine va_mmax (own := RX12) hx hb (by rw [hml]; exact hl.1.symm) hown (hts _ (List.mem_cons_of_mem _ mGB_202)) (hts _ (List.mem_cons_of_mem _ mGB_203)) (hts _ (List.mem_cons_of_mem _ mGB_98)) (hts _ (List.mem_cons_of_mem _ mGB_204)) (Nat.le_of_ble_eq_true rfl) (Nat.le_of_ble_eq_true rfl) (Nat.zero_le _) (Nat.zero_le _) dX12_holds_92 ?_
        refine lv_topi (fun x_130 ex_130 => ?_)
        have gx_130 : gi x_130 2 2147483647 := gi_max ex_130 (gi_any x_128) gx_129 (by decide)
        refine va_iast hx hb hK hP hD hS 16 15 rfl rfl (gi_in gx_109 (by decide)) dX12_holds_95 (fun H locs hP hD hS => ?_)
        have hP : va_P (dC, dI) vwCl (MWn h0 mr km (mi 0) (mi 1) (mi 2) (mi 3) (mi 4) (mi 5) (mi 6) (mi 7) (mi 10) (mi 17) (mi 23) (mi 24) (mi 26) (mi 27) (mi 28) (mi 29) (mi 30) (mi 31) (mi 32) (mi 33) 1 (mi 41) (mi 42) (mi 43) (mi 44) (mi 45) (mi 47) (mi 48) (mi 49) (mi 50) (mi 51) (mi 54) (mi 56) fm_trust fm_letter fm_reportPlace fm_reportKind fm_struck fm_reportMonth fm_reportDay fm_reportKnown fm_deedMonth fm_deedDay fm_deedLong fm_deedKind fm_kept fm_tape f_124 (upd fm_least (x_109 : Int32).toNatClampNeg x_130) fm_pin fm_ways fm_verdict fm_row fm_official fm_aside fm_worth fm_out) H := hP
        have hD : va_D A (MWn h0 mr km (mi 0) (mi 1) (mi 2) (mi 3) (mi 4) (mi 5) (mi 6) (mi 7) (mi 10) (mi 17) (mi 23) (mi 24) (mi 26) (mi 27) (mi 28) (mi 29) (mi 30) (mi 31) (mi 32) (mi 33) 1 (mi 41) (mi 42) (mi 43) (mi 44) (mi 45) (mi 47) (mi 48) (mi 49) (mi 50) (mi 51) (mi 54) (mi 56) fm_trust fm_letter fm_reportPlace fm_reportKind fm_struck fm_reportMonth fm_reportDay fm_reportKnown fm_deedMonth fm_deedDay fm_deedLong fm_deedKind fm_kept fm_tape f_124 (upd fm_least (x_109 : Int32).toNatClampNeg x_130) fm_pin fm_ways fm_verdict fm_row fm_official fm_aside fm_worth fm_out) := hD
        generalize upd fm_least (x_109 : Int32).toNatClampNeg x_130 = f_131 at hP hD
        exact W.vret hx hb hr (fun t ht hW => ⟨⟨(), rfl, trivial, 1, f_124, f_131, (gi_w (gi_c 1 1 (by decide)) (by decide)), by rw [ht]; exact hP, hD⟩, hS.F ht⟩) hS.2.2 dX12_holds_96
    · have g_132 : gi (mi 37) 0 0 := gi_eq c_122 (gi_c 0 0 (by decide))
      refine lv_aload_n hx hb dX12_holds_33 rfl (lv_at hl 2 rfl) ?_
      refine va_get (D := (dC, dI)) (ci := 12) (v := .ref (mr 14)) (C := RX12) (T := TX12) (N := 57) hx hb hts (fun w h => List.mem_cons_of_mem _ (jnGB_X12 w h)) hown hK hP 0 rfl rfl 34 (by decide) (hts _ (List.mem_cons_of_mem _ mGB_26)) (fun _ h9 => h9) rfl dX12_holds_34 ?_
      refine lv_iload_n hx hb dX12_holds_37 rfl (lv_at hl 1 rfl) ?_
      refine va_iald hx hb hK hP 15 14 rfl rfl (gi_in gx_109 (by decide)) dX12_holds_38 ?_
      refine lv_topi (fun x_133 ex_133 => ?_)
      refine lv_iconst (v := (-1)) hx hb dX12_holds_39 (by decide) ?_
      refine lv_icmp_eq (tgt := 57) hx hb dX12_holds_40 (by decide) (fun c_134 => ?_) (fun c_134 => ?_)
      · have g_135 : gi x_133 (-1) (-1) := gi_eq c_134 (gi_c (-1) (-1) (by decide))
        refine lv_iconst (v := 0) hx hb dX12_holds_57 (by decide) ?_
        refine va_put (D := (dC, dI)) (ci := 12) (v := .int 0) (ty := .boolean) (C := RX12) (T := TX12) (N := 57) hx hb hts (fun w h => List.mem_cons_of_mem _ (jnGB_X12 w h)) tyX12 tyX12_ok nmX12 hown hK hP hD hS 0 rfl rfl 37 (by decide) (hts _ (List.mem_cons_of_mem _ mGB_270)) (fun _ h9 => h9) rfl (by decide +kernel) rfl rfl (Nat.le_of_ble_eq_true rfl) dX12_holds_58 (fun H locs hP hD hS => ?_)
        have hP : va_P (dC, dI) vwCl (MWn h0 mr km (mi 0) (mi 1) (mi 2) (mi 3) (mi 4) (mi 5) (mi 6) (mi 7) (mi 10) (mi 17) (mi 23) (mi 24) (mi 26) (mi 27) (mi 28) (mi 29) (mi 30) (mi 31) (mi 32) (mi 33) 0 (mi 41) (mi 42) (mi 43) (mi 44) (mi 45) (mi 47) (mi 48) (mi 49) (mi 50) (mi 51) (mi 54) (mi 56) fm_trust fm_letter fm_reportPlace fm_reportKind fm_struck fm_reportMonth fm_reportDay fm_reportKnown fm_deedMonth fm_deedDay fm_deedLong fm_deedKind fm_kept fm_tape fm_must fm_least fm_pin fm_ways fm_verdict fm_row fm_official fm_aside fm_worth fm_out) H := hP
        have hD : va_D A (MWn h0 mr km (mi 0) (mi 1) (mi 2) (mi 3) (mi 4) (mi 5) (mi 6) (mi 7) (mi 10) (mi 17) (mi 23) (mi 24) (mi 26) (mi 27) (mi 28) (mi 29) (mi 30) (mi 31) (mi 32) (mi 33) 0 (mi 41) (mi 42) (mi 43) (mi 44) (mi 45) (mi 47) (mi 48) (mi 49) (mi 50) (mi 51) (mi 54) (mi 56) fm_trust fm_letter fm_reportPlace fm_reportKind fm_struck fm_reportMonth fm_reportDay fm_reportKnown fm_deedMonth fm_deedDay fm_deedLong fm_deedKind fm_kept fm_tape fm_must fm_least fm_pin fm_ways fm_verdict fm_row fm_official fm_aside fm_worth fm_out) := hD
        refine lv_aload_n hx hb dX12_holds_61 rfl (lv_at hl 2 rfl) ?_
        refine va_get (D := (dC, dI)) (ci := 12) (v := .ref (mr 14)) (C := RX12) (T := TX12) (N := 57) hx hb hts (fun w h => List.mem_cons_of_mem _ (jnGB_X12 w h)) hown hK hP 0 rfl rfl 34 (by decide) (hts _ (List.mem_cons_of_mem _ mGB_26)) (fun _ h9 => h9) rfl dX12_holds_62 ?_
        refine lv_iload_n hx hb dX12_holds_65 rfl (lv_at hl 1 rfl) ?_
        refine lv_iload_n hx hb dX12_holds_66 rfl (lv_at hl 0 rfl) ?_
        refine va_iast hx hb hK hP hD hS 15 14 rfl rfl (gi_in gx_109 (by decide)) dX12_holds_67 (fun H locs hP hD hS => ?_)
        have hP : va_P (dC, dI) vwCl (MWn h0 mr km (mi 0) (mi 1) (mi 2) (mi 3) (mi 4) (mi 5) (mi 6) (mi 7) (mi 10) (mi 17) (mi 23) (mi 24) (mi 26) (mi 27) (mi 28) (mi 29) (mi 30) (mi 31) (mi 32) (mi 33) 0 (mi 41) (mi 42) (mi 43) (mi 44) (mi 45) (mi 47) (mi 48) (mi 49) (mi 50) (mi 51) (mi 54) (mi 56) fm_trust fm_letter fm_reportPlace fm_reportKind fm_struck fm_reportMonth fm_reportDay fm_reportKnown fm_deedMonth fm_deedDay fm_deedLong fm_deedKind fm_kept fm_tape (upd fm_must (x_109 : Int32).toNatClampNeg x_111) fm_least fm_pin fm_ways fm_verdict fm_row fm_official fm_aside fm_worth fm_out) H := hP
        have hD : va_D A (MWn h0 mr km (mi 0) (mi 1) (mi 2) (mi 3) (mi 4) (mi 5) (mi 6) (mi 7) (mi 10) (mi 17) (mi 23) (mi 24) (mi 26) (mi 27) (mi 28) (mi 29) (mi 30) (mi 31) (mi 32) (mi 33) 0 (mi 41) (mi 42) (mi 43) (mi 44) (mi 45) (mi 47) (mi 48) (mi 49) (mi 50) (mi 51) (mi 54) (mi 56) fm_trust fm_letter fm_reportPlace fm_reportKind fm_struck fm_reportMonth fm_reportDay fm_reportKnown fm_deedMonth fm_deedDay fm_deedLong fm_deedKind fm_kept fm_tape (upd fm_must (x_109 : Int32).toNatClampNeg x_111) fm_least fm_pin fm_ways fm_verdict fm_row fm_official fm_aside fm_worth fm_out) := hD
        generalize upd fm_must (x_109 : Int32).toNatClampNeg x_111 = f_136 at hP hD
        refine lv_aload_n hx hb dX12_holds_68 rfl (lv_at hl 2 rfl) ?_
        refine va_get (D := (dC, dI)) (ci := 12) (v := .ref (mr 3)) (C := RX12) (T := TX12) (N := 57) hx hb hts (fun w h => List.mem_cons_of_mem _ (jnGB_X12 w h)) hown hK hP 0 rfl rfl 12 (by decide) (hts _ (List.mem_cons_of_mem _ mGB_13)) (fun _ h9 => h9) rfl dX12_holds_69 ?_
        refine lv_iload_n hx hb dX12_holds_72 rfl (lv_at hl 3 rfl) ?_
        refine va_iald hx hb hK hP 4 3 rfl rfl (gi_in gp1 (by decide)) dX12_holds_73 ?_
        refine lv_topi (fun x_137 ex_137 => ?_)
        refine lv_iconst (v := 1) hx hb dX12_holds_74 (by decide) ?_
        refine lv_icmp_ne (tgt := 96) hx hb dX12_holds_75 (by decide) (fun c_138 => ?_) (fun c_138 => ?_)
        · exact W.vret hx hb hr (fun t ht hW => ⟨⟨(), rfl, trivial, 0, f_136, fm_least, (gi_w (gi_c 0 0 (by decide)) (by decide)), by rw [ht]; exact hP, hD⟩, hS.F ht⟩) hS.2.2 dX12_holds_96
        · have g_139 : gi x_137 1 1 := gi_eq c_138 (gi_c 1 1 (by decide))
          refine lv_aload_n hx hb dX12_holds_78 rfl (lv_at hl 2 rfl) ?_
          refine va_get (D := (dC, dI)) (ci := 12) (v := .ref (mr 15)) (C := RX12) (T := TX12) (N := 57) hx hb hts (fun w h => List.mem_cons_of_mem _ (jnGB_X12 w h)) hown hK hP 0 rfl rfl 35 (by decide) (hts _ (List.mem_cons_of_mem _ mGB_27)) (fun _ h9 => h9) rfl dX12_holds_79 ?_
          refine lv_iload_n hx hb dX12_holds_82 rfl (lv_at hl 1 rfl) ?_
          refine lv_aload_n hx hb dX12_holds_83 rfl (lv_at hl 2 rfl) ?_
          refine va_get (D := (dC, dI)) (ci := 12) (v := .ref (mr 15)) (C := RX12) (T := TX12) (N := 57) hx hb hts (fun w h => List.mem_cons_of_mem _ (jnGB_X12 w h)) hown hK hP 0 rfl rfl 35 (by decide) (hts _ (List.mem_cons_of_mem _ mGB_27)) (fun _ h9 => h9) rfl dX12_holds_84 ?_
          refine lv_iload_n hx hb dX12_holds_87 rfl (lv_at hl 1 rfl) ?_
          refine va_iald hx hb hK hP 16 15 rfl rfl (gi_in gx_109 (by decide)) dX12_holds_88 ?_
          refine lv_topi (fun x_140 ex_140 => ?_)
          refine lv_iload_n hx hb dX12_holds_89 rfl (lv_at hl 0 rfl) ?_
          refine lv_iconst (v := 1) hx hb dX12_holds_90 (by decide) ?_
          refine lv_iadd hx hb dX12_holds_91 ?_
          refine lv_topi (fun x_141 ex_141 => ?_)
          have gx_141 : gi x_141 2 1001 := gi_add ex_141 gx_111 (gi_c 1 1 (by decide)) (by decide)
          refine va_mmax (own := RX12) hx hb (by rw [hml]; exact hl.1.symm) hown (hts _ (List.mem_cons_of_mem _ mGB_202)) (hts _ (List.mem_cons_of_mem _ mGB_203)) (hts _ (List.mem_cons_of_mem _ mGB_98)) (hts _ (List.mem_cons_of_mem _ mGB_204)) (Nat.le_of_ble_eq_true rfl) (Nat.le_of_ble_eq_true rfl) (Nat.zero_le _) (Nat.zero_le _) dX12_holds_92 ?_
          refine lv_topi (fun x_142 ex_142 => ?_)
          have gx_142 : gi x_142 2 2147483647 := gi_max ex_142 (gi_any x_140) gx_141 (by decide)
          refine va_iast hx hb hK hP hD hS 16 15 rfl rfl (gi_in gx_109 (by decide)) dX12_holds_95 (fun H locs hP hD hS => ?_)
          have hP : va_P (dC, dI) vwCl (MWn h0 mr km (mi 0) (mi 1) (mi 2) (mi 3) (mi 4) (mi 5) (mi 6) (mi 7) (mi 10) (mi 17) (mi 23) (mi 24) (mi 26) (mi 27) (mi 28) (mi 29) (mi 30) (mi 31) (mi 32) (mi 33) 0 (mi 41) (mi 42) (mi 43) (mi 44) (mi 45) (mi 47) (mi 48) (mi 49) (mi 50) (mi 51) (mi 54) (mi 56) fm_trust fm_letter fm_reportPlace fm_reportKind fm_struck fm_reportMonth fm_reportDay fm_reportKnown fm_deedMonth fm_deedDay fm_deedLong fm_deedKind fm_kept fm_tape f_136 (upd fm_least (x_109 : Int32).toNatClampNeg x_142) fm_pin fm_ways fm_verdict fm_row fm_official fm_aside fm_worth fm_out) H := hP
          have hD : va_D A (MWn h0 mr km (mi 0) (mi 1) (mi 2) (mi 3) (mi 4) (mi 5) (mi 6) (mi 7) (mi 10) (mi 17) (mi 23) (mi 24) (mi 26) (mi 27) (mi 28) (mi 29) (mi 30) (mi 31) (mi 32) (mi 33) 0 (mi 41) (mi 42) (mi 43) (mi 44) (mi 45) (mi 47) (mi 48) (mi 49) (mi 50) (mi 51) (mi 54) (mi 56) fm_trust fm_letter fm_reportPlace fm_reportKind fm_struck fm_reportMonth fm_reportDay fm_reportKnown fm_deedMonth fm_deedDay fm_deedLong fm_deedKind fm_kept fm_tape f_136 (upd fm_least (x_109 : Int32).toNatClampNeg x_142) fm_pin fm_ways fm_verdict fm_row fm_official fm_aside fm_worth fm_out) := hD
          generalize upd fm_least (x_109 : Int32).toNatClampNeg x_142 = f_143 at hP hD
          exact W.vret hx hb hr (fun t ht hW => ⟨⟨(), rfl, trivial, 0, f_136, f_143, (gi_w (gi_c 0 0 (by decide)) (by decide)), by rw [ht]; exact hP, hD⟩, hS.F ht⟩) hS.2.2 dX12_holds_96
      · refine lv_aload_n hx hb dX12_holds_43 rfl (lv_at hl 2 rfl) ?_
        refine va_get (D := (dC, dI)) (ci := 12) (v := .ref (mr 14)) (C := RX12) (T := TX12) (N := 57) hx hb hts (fun w h => List.mem_cons_of_mem _ (jnGB_X12 w h)) hown hK hP 0 rfl rfl 34 (by decide) (hts _ (List.mem_cons_of_mem _ mGB_26)) (fun _ h9 => h9) rfl dX12_holds_44 ?_
        refine lv_iload_n hx hb dX12_holds_47 rfl (lv_at hl 1 rfl) ?_
        refine va_iald hx hb hK hP 15 14 rfl rfl (gi_in gx_109 (by decide)) dX12_holds_48 ?_
        refine lv_topi (fun x_144 ex_144 => ?_)
        refine lv_iload_n hx hb dX12_holds_49 rfl (lv_at hl 0 rfl) ?_
        refine lv_icmp_eq (tgt := 57) hx hb dX12_holds_50 (by decide) (fun c_145 => ?_) (fun c_145 => ?_)
        · have g_146 : gi x_144 1 1000 := gi_eq c_145 gx_111
          refine lv_iconst (v := 0) hx hb dX12_holds_57 (by decide) ?_
          refine va_put (D := (dC, dI)) (ci := 12) (v := .int 0) (ty := .boolean) (C := RX12) (T := TX12) (N := 57) hx hb hts (fun w h => List.mem_cons_of_mem _ (jnGB_X12 w h)) tyX12 tyX12_ok nmX12 hown hK hP hD hS 0 rfl rfl 37 (by decide) (hts _ (List.mem_cons_of_mem _ mGB_270)) (fun _ h9 => h9) rfl (by decide +kernel) rfl rfl (Nat.le_of_ble_eq_true rfl) dX12_holds_58 (fun H locs hP hD hS => ?_)
          have hP : va_P (dC, dI) vwCl (MWn h0 mr km (mi 0) (mi 1) (mi 2) (mi 3) (mi 4) (mi 5) (mi 6) (mi 7) (mi 10) (mi 17) (mi 23) (mi 24) (mi 26) (mi 27) (mi 28) (mi 29) (mi 30) (mi 31) (mi 32) (mi 33) 0 (mi 41) (mi 42) (mi 43) (mi 44) (mi 45) (mi 47) (mi 48) (mi 49) (mi 50) (mi 51) (mi 54) (mi 56) fm_trust fm_letter fm_reportPlace fm_reportKind fm_struck fm_reportMonth fm_reportDay fm_reportKnown fm_deedMonth fm_deedDay fm_deedLong fm_deedKind fm_kept fm_tape fm_must fm_least fm_pin fm_ways fm_verdict fm_row fm_official fm_aside fm_worth fm_out) H := hP
          have hD : va_D A (MWn h0 mr km (mi 0) (mi 1) (mi 2) (mi 3) (mi 4) (mi 5) (mi 6) (mi 7) (mi 10) (mi 17) (mi 23) (mi 24) (mi 26) (mi 27) (mi 28) (mi 29) (mi 30) (mi 31) (mi 32) (mi 33) 0 (mi 41) (mi 42) (mi 43) (mi 44) (mi 45) (mi 47) (mi 48) (mi 49) (mi 50) (mi 51) (mi 54) (mi 56) fm_trust fm_letter fm_reportPlace fm_reportKind fm_struck fm_reportMonth fm_reportDay fm_reportKnown fm_deedMonth fm_deedDay fm_deedLong fm_deedKind fm_kept fm_tape fm_must fm_least fm_pin fm_ways fm_verdict fm_row fm_official fm_aside fm_worth fm_out) := hD
          refine lv_aload_n hx hb dX12_holds_61 rfl (lv_at hl 2 rfl) ?_
          refine va_get (D := (dC, dI)) (ci := 12) (v := .ref (mr 14)) (C := RX12) (T := TX12) (N := 57) hx hb hts (fun w h => List.mem_cons_of_mem _ (jnGB_X12 w h)) hown hK hP 0 rfl rfl 34 (by decide) (hts _ (List.mem_cons_of_mem _ mGB_26)) (fun _ h9 => h9) rfl dX12_holds_62 ?_
          refine lv_iload_n hx hb dX12_holds_65 rfl (lv_at hl 1 rfl) ?_
          refine lv_iload_n hx hb dX12_holds_66 rfl (lv_at hl 0 rfl) ?_
          refine va_iast hx hb hK hP hD hS 15 14 rfl rfl (gi_in gx_109 (by decide)) dX12_holds_67 (fun H locs hP hD hS => ?_)
          have hP : va_P (dC, dI) vwCl (MWn h0 mr km (mi 0) (mi 1) (mi 2) (mi 3) (mi 4) (mi 5) (mi 6) (mi 7) (mi 10) (mi 17) (mi 23) (mi 24) (mi 26) (mi 27) (mi 28) (mi 29) (mi 30) (mi 31) (mi 32) (mi 33) 0 (mi 41) (mi 42) (mi 43) (mi 44) (mi 45) (mi 47) (mi 48) (mi 49) (mi 50) (mi 51) (mi 54) (mi 56) fm_trust fm_letter fm_reportPlace fm_reportKind fm_struck fm_reportMonth fm_reportDay fm_reportKnown fm_deedMonth fm_deedDay fm_deedLong fm_deedKind fm_kept fm_tape (upd fm_must (x_109 : Int32).toNatClampNeg x_111) fm_least fm_pin fm_ways fm_verdict fm_row fm_official fm_aside fm_worth fm_out) H := hP
          have hD : va_D A (MWn h0 mr km (mi 0) (mi 1) (mi 2) (mi 3) (mi 4) (mi 5) (mi 6) (mi 7) (mi 10) (mi 17) (mi 23) (mi 24) (mi 26) (mi 27) (mi 28) (mi 29) (mi 30) (mi 31) (mi 32) (mi 33) 0 (mi 41) (mi 42) (mi 43) (mi 44) (mi 45) (mi 47) (mi 48) (mi 49) (mi 50) (mi 51) (mi 54) (mi 56) fm_trust fm_letter fm_reportPlace fm_reportKind fm_struck fm_reportMonth fm_reportDay fm_reportKnown fm_deedMonth fm_deedDay fm_deedLong fm_deedKind fm_kept fm_tape (upd fm_must (x_109 : Int32).toNatClampNeg x_111) fm_least fm_pin fm_ways fm_verdict fm_row fm_official fm_aside fm_worth fm_out) := hD
          generalize upd fm_must (x_109 : Int32).toNatClampNeg x_111 = f_147 at hP hD
          refine lv_aload_n hx hb dX12_holds_68 rfl (lv_at hl 2 rfl) ?_
          refine va_get (D := (dC, dI)) (ci := 12) (v := .ref (mr 3)) (C := RX12) (T := TX12) (N := 57) hx hb hts (fun w h => List.mem_cons_of_mem _ (jnGB_X12 w h)) hown hK hP 0 rfl rfl 12 (by decide) (hts _ (List.mem_cons_of_mem _ mGB_13)) (fun _ h9 => h9) rfl dX12_holds_69 ?_
          refine lv_iload_n hx hb dX12_holds_72 rfl (lv_at hl 3 rfl) ?_
          refine va_iald hx hb hK hP 4 3 rfl rfl (gi_in gp1 (by decide)) dX12_holds_73 ?_
          refine lv_topi (fun x_148 ex_148 => ?_)
          refine lv_iconst (v := 1) hx hb dX12_holds_74 (by decide) ?_
          refine lv_icmp_ne (tgt := 96) hx hb dX12_holds_75 (by decide) (fun c_149 => ?_) (fun c_149 => ?_)
          · exact W.vret hx hb hr (fun t ht hW => ⟨⟨(), rfl, trivial, 0, f_147, fm_least, (gi_w (gi_c 0 0 (by decide)) (by decide)), by rw [ht]; exact hP, hD⟩, hS.F ht⟩) hS.2.2 dX12_holds_96
          · have g_150 : gi x_148 1 1 := gi_eq c_149 (gi_c 1 1 (by decide))
            refine lv_aload_n hx hb dX12_holds_78 rfl (lv_at hl 2 rfl) ?_
            refine va_get (D := (dC, dI)) (ci := 12) (v := .ref (mr 15)) (C := RX12) (T := TX12) (N := 57) hx hb hts (fun w h => List.mem_cons_of_mem _ (jnGB_X12 w h)) hown hK hP 0 rfl rfl 35 (by decide) (hts _ (List.mem_cons_of_mem _ mGB_27)) (fun _ h9 => h9) rfl dX12_holds_79 ?_
            refine lv_iload_n hx hb dX12_holds_82 rfl (lv_at hl 1 rfl) ?_
            refine lv_aload_n hx hb dX12_holds_83 rfl (lv_at hl 2 rfl) ?_
            refine va_get (D := (dC, dI)) (ci := 12) (v := .ref (mr 15)) (C := RX12) (T := TX12) (N := 57) hx hb hts (fun w h => List.mem_cons_of_mem _ (jnGB_X12 w h)) hown hK hP 0 rfl rfl 35 (by decide) (hts _ (List.mem_cons_of_mem _ mGB_27)) (fun _ h9 => h9) rfl dX12_holds_84 ?_
            refine lv_iload_n hx hb dX12_holds_87 rfl (lv_at hl 1 rfl) ?_
            refine va_iald hx hb hK hP 16 15 rfl rfl (gi_in gx_109 (by decide)) dX12_holds_88 ?_
            refine lv_topi (fun x_151 ex_151 => ?_)
            refine lv_iload_n hx hb dX12_holds_89 rfl (lv_at hl 0 rfl) ?_
            refine lv_iconst (v := 1) hx hb dX12_holds_90 (by decide) ?_
            refine lv_iadd hx hb dX12_holds_91 ?_
            refine lv_topi (fun x_152 ex_152 => ?_)
            have gx_152 : gi x_152 2 1001 := gi_add ex_152 gx_111 (gi_c 1 1 (by decide)) (by decide)
            refine va_mmax (own := RX12) hx hb (by rw [hml]; exact hl.1.symm) hown (hts _ (List.mem_cons_of_mem _ mGB_202)) (hts _ (List.mem_cons_of_mem _ mGB_203)) (hts _ (List.mem_cons_of_mem _ mGB_98)) (hts _ (List.mem_cons_of_mem _ mGB_204)) (Nat.le_of_ble_eq_true rfl) (Nat.le_of_ble_eq_true rfl) (Nat.zero_le _) (Nat.zero_le _) dX12_holds_92 ?_
            refine lv_topi (fun x_153 ex_153 => ?_)
            have gx_153 : gi x_153 2 2147483647 := gi_max ex_153 (gi_any x_151) gx_152 (by decide)
            refine va_iast hx hb hK hP hD hS 16 15 rfl rfl (gi_in gx_109 (by decide)) dX12_holds_95 (fun H locs hP hD hS => ?_)
            have hP : va_P (dC, dI) vwCl (MWn h0 mr km (mi 0) (mi 1) (mi 2) (mi 3) (mi 4) (mi 5) (mi 6) (mi 7) (mi 10) (mi 17) (mi 23) (mi 24) (mi 26) (mi 27) (mi 28) (mi 29) (mi 30) (mi 31) (mi 32) (mi 33) 0 (mi 41) (mi 42) (mi 43) (mi 44) (mi 45) (mi 47) (mi 48) (mi 49) (mi 50) (mi 51) (mi 54) (mi 56) fm_trust fm_letter fm_reportPlace fm_reportKind fm_struck fm_reportMonth fm_reportDay fm_reportKnown fm_deedMonth fm_deedDay fm_deedLong fm_deedKind fm_kept fm_tape f_147 (upd fm_least (x_109 : Int32).toNatClampNeg x_153) fm_pin fm_ways fm_verdict fm_row fm_official fm_aside fm_worth fm_out) H := hP
            have hD : va_D A (MWn h0 mr km (mi 0) (mi 1) (mi 2) (mi 3) (mi 4) (mi 5) (mi 6) (mi 7) (mi 10) (mi 17) (mi 23) (mi 24) (mi 26) (mi 27) (mi 28) (mi 29) (mi 30) (mi 31) (mi 32) (mi 33) 0 (mi 41) (mi 42) (mi 43) (mi 44) (mi 45) (mi 47) (mi 48) (mi 49) (mi 50) (mi 51) (mi 54) (mi 56) fm_trust fm_letter fm_reportPlace fm_reportKind fm_struck fm_reportMonth fm_reportDay fm_reportKnown fm_deedMonth fm_deedDay fm_deedLong fm_deedKind fm_kept fm_tape f_147 (upd fm_least (x_109 : Int32).toNatClampNeg x_153) fm_pin fm_ways fm_verdict fm_row fm_official fm_aside fm_worth fm_out) := hD
            generalize upd fm_least (x_109 : Int32).toNatClampNeg x_153 = f_154 at hP hD
            exact W.vret hx hb hr (fun t ht hW => ⟨⟨(), rfl, trivial, 0, f_147, f_154, (gi_w (gi_c 0 0 (by decide)) (by decide)), by rw [ht]; exact hP, hD⟩, hS.F ht⟩) hS.2.2 dX12_holds_96
        · refine lv_iconst (v := 1) hx hb dX12_holds_53 (by decide) ?_
          refine lv_goto (tgt := 58) hx hb dX12_holds_54 (by decide) ?_
          refine va_put (D := (dC, dI)) (ci := 12) (v := .int 1) (ty := .boolean) (C := RX12) (T := TX12) (N := 57) hx hb hts (fun w h => List.mem_cons_of_mem _ (jnGB_X12 w h)) tyX12 tyX12_ok nmX12 hown hK hP hD hS 0 rfl rfl 37 (by decide) (hts _ (List.mem_cons_of_mem _ mGB_270)) (fun _ h9 => h9) rfl (by decide +kernel) rfl rfl (Nat.le_of_ble_eq_true rfl) dX12_holds_58 (fun H locs hP hD hS => ?_)
          have hP : va_P (dC, dI) vwCl (MWn h0 mr km (mi 0) (mi 1) (mi 2) (mi 3) (mi 4) (mi 5) (mi 6) (mi 7) (mi 10) (mi 17) (mi 23) (mi 24) (mi 26) (mi 27) (mi 28) (mi 29) (mi 30) (mi 31) (mi 32) (mi 33) 1 (mi 41) (mi 42) (mi 43) (mi 44) (mi 45) (mi 47) (mi 48) (mi 49) (mi 50) (mi 51) (mi 54) (mi 56) fm_trust fm_letter fm_reportPlace fm_reportKind fm_struck fm_reportMonth fm_reportDay fm_reportKnown fm_deedMonth fm_deedDay fm_deedLong fm_deedKind fm_kept fm_tape fm_must fm_least fm_pin fm_ways fm_verdict fm_row fm_official fm_aside fm_worth fm_out) H := hP
          have hD : va_D A (MWn h0 mr km (mi 0) (mi 1) (mi 2) (mi 3) (mi 4) (mi 5) (mi 6) (mi 7) (mi 10) (mi 17) (mi 23) (mi 24) (mi 26) (mi 27) (mi 28) (mi 29) (mi 30) (mi 31) (mi 32) (mi 33) 1 (mi 41) (mi 42) (mi 43) (mi 44) (mi 45) (mi 47) (mi 48) (mi 49) (mi 50) (mi 51) (mi 54) (mi 56) fm_trust fm_letter fm_reportPlace fm_reportKind fm_struck fm_reportMonth fm_reportDay fm_reportKnown fm_deedMonth fm_deedDay fm_deedLong fm_deedKind fm_kept fm_tape fm_must fm_least fm_pin fm_ways fm_verdict fm_row fm_official fm_aside fm_worth fm_out) := hD
          refine lv_aload_n hx hb dX12_holds_61 rfl (lv_at hl 2 rfl) ?_
          refine va_get (D := (dC, dI)) (ci := 12) (v := .ref (mr 14)) (C := RX12) (T := TX12) (N := 57) hx hb hts (fun w h => List.mem_cons_of_mem _ (jnGB_X12 w h)) hown hK hP 0 rfl rfl 34 (by decide) (hts _ (List.mem_cons_of_mem _ mGB_26)) (fun _ h9 => h9) rfl dX12_holds_62 ?_
          refine lv_iload_n hx hb dX12_holds_65 rfl (lv_at hl 1 rfl) ?_
          refine lv_iload_n hx hb dX12_holds_66 rfl (lv_at hl 0 rfl) ?_
          refine va_iast hx hb hK hP hD hS 15 14 rfl rfl (gi_in gx_109 (by decide)) dX12_holds_67 (fun H locs hP hD hS => ?_)
          have hP : va_P (dC, dI) vwCl (MWn h0 mr km (mi 0) (mi 1) (mi 2) (mi 3) (mi 4) (mi 5) (mi 6) (mi 7) (mi 10) (mi 17) (mi 23) (mi 24) (mi 26) (mi 27) (mi 28) (mi 29) (mi 30) (mi 31) (mi 32) (mi 33) 1 (mi 41) (mi 42) (mi 43) (mi 44) (mi 45) (mi 47) (mi 48) (mi 49) (mi 50) (mi 51) (mi 54) (mi 56) fm_trust fm_letter fm_reportPlace fm_reportKind fm_struck fm_reportMonth fm_reportDay fm_reportKnown fm_deedMonth fm_deedDay fm_deedLong fm_deedKind fm_kept fm_tape (upd fm_must (x_109 : Int32).toNatClampNeg x_111) fm_least fm_pin fm_ways fm_verdict fm_row fm_official fm_aside fm_worth fm_out) H := hP
          have hD : va_D A (MWn h0 mr km (mi 0) (mi 1) (mi 2) (mi 3) (mi 4) (mi 5) (mi 6) (mi 7) (mi 10) (mi 17) (mi 23) (mi 24) (mi 26) (mi 27) (mi 28) (mi 29) (mi 30) (mi 31) (mi 32) (mi 33) 1 (mi 41) (mi 42) (mi 43) (mi 44) (mi 45) (mi 47) (mi 48) (mi 49) (mi 50) (mi 51) (mi 54) (mi 56) fm_trust fm_letter fm_reportPlace fm_reportKind fm_struck fm_reportMonth fm_reportDay fm_reportKnown fm_deedMonth fm_deedDay fm_deedLong fm_deedKind fm_kept fm_tape (upd fm_must (x_109 : Int32).toNatClampNeg x_111) fm_least fm_pin fm_ways fm_verdict fm_row fm_official fm_aside fm_worth fm_out) := hD
          generalize upd fm_must (x_109 : Int32).toNatClampNeg x_111 = f_155 at hP hD
          refine lv_aload_n hx hb dX12_holds_68 rfl (lv_at hl 2 rfl) ?_
          refine va_get (D := (dC, dI)) (ci := 12) (v := .ref (mr 3)) (C := RX12) (T := TX12) (N := 57) hx hb hts (fun w h => List.mem_cons_of_mem _ (jnGB_X12 w h)) hown hK hP 0 rfl rfl 12 (by decide) (hts _ (List.mem_cons_of_mem _ mGB_13)) (fun _ h9 => h9) rfl dX12_holds_69 ?_
          refine lv_iload_n hx hb dX12_holds_72 rfl (lv_at hl 3 rfl) ?_
          refine va_iald hx hb hK hP 4 3 rfl rfl (gi_in gp1 (by decide)) dX12_holds_73 ?_
          refine lv_topi (fun x_156 ex_156 => ?_)
          refine lv_iconst (v := 1) hx hb dX12_holds_74 (by decide) ?_
          refine lv_icmp_ne (tgt := 96) hx hb dX12_holds_75 (by decide) (fun c_157 => ?_) (fun c_157 => ?_)
          · exact W.vret hx hb hr (fun t ht hW => ⟨⟨(), rfl, trivial, 1, f_155, fm_least, (gi_w (gi_c 1 1 (by decide)) (by decide)), by rw [ht]; exact hP, hD⟩, hS.F ht⟩) hS.2.2 dX12_holds_96
          · have g_158 : gi x_156 1 1 := gi_eq c_157 (gi_c 1 1 (by decide))
            refine lv_aload_n hx hb dX12_holds_78 rfl (lv_at hl 2 rfl) ?_
            refine va_get (D := (dC, dI)) (ci := 12) (v := .ref (mr 15)) (C := RX12) (T := TX12) (N := 57) hx hb hts (fun w h => List.mem_cons_of_mem _ (jnGB_X12 w h)) hown hK hP 0 rfl rfl 35 (by decide) (hts _ (List.mem_cons_of_mem _ mGB_27)) (fun _ h9 => h9) rfl dX12_holds_79 ?_
            refine lv_iload_n hx hb dX12_holds_82 rfl (lv_at hl 1 rfl) ?_
            refine lv_aload_n hx hb dX12_holds_83 rfl (lv_at hl 2 rfl) ?_
            refine va_get (D := (dC, dI)) (ci := 12) (v := .ref (mr 15)) (C := RX12) (T := TX12) (N := 57) hx hb hts (fun w h => List.mem_cons_of_mem _ (jnGB_X12 w h)) hown hK hP 0 rfl rfl 35 (by decide) (hts _ (List.mem_cons_of_mem _ mGB_27)) (fun _ h9 => h9) rfl dX12_holds_84 ?_
            refine lv_iload_n hx hb dX12_holds_87 rfl (lv_at hl 1 rfl) ?_
            refine va_iald hx hb hK hP 16 15 rfl rfl (gi_in gx_109 (by decide)) dX12_holds_88 ?_
            refine lv_topi (fun x_159 ex_159 => ?_)
            refine lv_iload_n hx hb dX12_holds_89 rfl (lv_at hl 0 rfl) ?_
            refine lv_iconst (v := 1) hx hb dX12_holds_90 (by decide) ?_
            refine lv_iadd hx hb dX12_holds_91 ?_
            refine lv_topi (fun x_160 ex_160 => ?_)
            have gx_160 : gi x_160 2 1001 := gi_add ex_160 gx_111 (gi_c 1 1 (by decide)) (by decide)
            refine va_mmax (own := RX12) hx hb (by rw [hml]; exact hl.1.symm) hown (hts _ (List.mem_cons_of_mem _ mGB_202)) (hts _ (List.mem_cons_of_mem _ mGB_203)) (hts _ (List.mem_cons_of_mem _ mGB_98)) (hts _ (List.mem_cons_of_mem _ mGB_204)) (Nat.le_of_ble_eq_true rfl) (Nat.le_of_ble_eq_true rfl) (Nat.zero_le _) (Nat.zero_le _) dX12_holds_92 ?_
            refine lv_topi (fun x_161 ex_161 => ?_)
            have gx_161 : gi x_161 2 2147483647 := gi_max ex_161 (gi_any x_159) gx_160 (by decide)
            refine va_iast hx hb hK hP hD hS 16 15 rfl rfl (gi_in gx_109 (by decide)) dX12_holds_95 (fun H locs hP hD hS => ?_)
            have hP : va_P (dC, dI) vwCl (MWn h0 mr km (mi 0) (mi 1) (mi 2) (mi 3) (mi 4) (mi 5) (mi 6) (mi 7) (mi 10) (mi 17) (mi 23) (mi 24) (mi 26) (mi 27) (mi 28) (mi 29) (mi 30) (mi 31) (mi 32) (mi 33) 1 (mi 41) (mi 42) (mi 43) (mi 44) (mi 45) (mi 47) (mi 48) (mi 49) (mi 50) (mi 51) (mi 54) (mi 56) fm_trust fm_letter fm_reportPlace fm_reportKind fm_struck fm_reportMonth fm_reportDay fm_reportKnown fm_deedMonth fm_deedDay fm_deedLong fm_deedKind fm_kept fm_tape f_155 (upd fm_least (x_109 : Int32).toNatClampNeg x_161) fm_pin fm_ways fm_verdict fm_row fm_official fm_aside fm_worth fm_out) H := hP
            have hD : va_D A (MWn h0 mr km (mi 0) (mi 1) (mi 2) (mi 3) (mi 4) (mi 5) (mi 6) (mi 7) (mi 10) (mi 17) (mi 23) (mi 24) (mi 26) (mi 27) (mi 28) (mi 29) (mi 30) (mi 31) (mi 32) (mi 33) 1 (mi 41) (mi 42) (mi 43) (mi 44) (mi 45) (mi 47) (mi 48) (mi 49) (mi 50) (mi 51) (mi 54) (mi 56) fm_trust fm_letter fm_reportPlace fm_reportKind fm_struck fm_reportMonth fm_reportDay fm_reportKnown fm_deedMonth fm_deedDay fm_deedLong fm_deedKind fm_kept fm_tape f_155 (upd fm_least (x_109 : Int32).toNatClampNeg x_161) fm_pin fm_ways fm_verdict fm_row fm_official fm_aside fm_worth fm_out) := hD
            generalize upd fm_least (x_109 : Int32).toNatClampNeg x_161 = f_162 at hP hD
            exact W.vret hx hb hr (fun t ht hW => ⟨⟨(), rfl, trivial, 1, f_155, f_162, (gi_w (gi_c 1 1 (by decide)) (by decide)), by rw [ht]; exact hP, hD⟩, hS.F ht⟩) hS.2.2 dX12_holds_96
theorem dX12_judges_0 : decode cX12_judges 0 = .ok (.aload_n 0, 1) := by decide +kernel
theorem dX12_judges_1 : decode cX12_judges 1 = .ok (.getfield 129, 3) := by decide +kernel
theorem dX12_judges_4 : decode cX12_judges 4 = .ok (.ifCond .eq 33, 3) := by decide +kernel
theorem dX12_judges_7 : decode cX12_judges 7 = .ok (.aload_n 0, 1) := by decide +kernel
theorem dX12_judges_8 : decode cX12_judges 8 = .ok (.getfield 19, 3) := by decide +kernel
theorem dX12_judges_11 : decode cX12_judges 11 = .ok (.iload_n 1, 1) := by decide +kernel
theorem dX12_judges_12 : decode cX12_judges 12 = .ok (.iaload, 1) := by decide +kernel
theorem dX12_judges_13 : decode cX12_judges 13 = .ok (.ifCond .ne 24, 3) := by decide +kernel
theorem dX12_judges_16 : decode cX12_judges 16 = .ok (.aload_n 0, 1) := by decide +kernel
theorem dX12_judges_17 : decode cX12_judges 17 = .ok (.getfield 29, 3) := by decide +kernel
theorem dX12_judges_20 : decode cX12_judges 20 = .ok (.iload_n 1, 1) := by decide +kernel
theorem dX12_judges_21 : decode cX12_judges 21 = .ok (.iaload, 1) := by decide +kernel
theorem dX12_judges_22 : decode cX12_judges 22 = .ok (.aload_n 0, 1) := by decide +kernel
theorem dX12_judges_23 : decode cX12_judges 23 = .ok (.aload_n 0, 1) := by decide +kernel
theorem dX12_judges_24 : decode cX12_judges 24 = .ok (.getfield 26, 3) := by decide +kernel
theorem dX12_judges_27 : decode cX12_judges 27 = .ok (.iload_n 1, 1) := by decide +kernel
theorem dX12_judges_28 : decode cX12_judges 28 = .ok (.iaload, 1) := by decide +kernel
theorem dX12_judges_29 : decode cX12_judges 29 = .ok (.invokevirtual 309, 3) := by decide +kernel
theorem dX12_judges_32 : decode cX12_judges 32 = .ok (.if_icmp .ge 5, 3) := by decide +kernel
theorem dX12_judges_35 : decode cX12_judges 35 = .ok (.iconst 1, 1) := by decide +kernel
theorem dX12_judges_36 : decode cX12_judges 36 = .ok (.ireturn, 1) := by decide +kernel
theorem dX12_judges_37 : decode cX12_judges 37 = .ok (.aload_n 0, 1) := by decide +kernel
theorem dX12_judges_38 : decode cX12_judges 38 = .ok (.getfield 26, 3) := by decide +kernel
theorem dX12_judges_41 : decode cX12_judges 41 = .ok (.iload_n 1, 1) := by decide +kernel
theorem dX12_judges_42 : decode cX12_judges 42 = .ok (.iaload, 1) := by decide +kernel
theorem dX12_judges_43 : decode cX12_judges 43 = .ok (.istore_n 2, 1) := by decide +kernel
theorem dX12_judges_44 : decode cX12_judges 44 = .ok (.aload_n 0, 1) := by decide +kernel
theorem dX12_judges_45 : decode cX12_judges 45 = .ok (.getfield 57, 3) := by decide +kernel
theorem dX12_judges_48 : decode cX12_judges 48 = .ok (.iload_n 2, 1) := by decide +kernel
theorem dX12_judges_49 : decode cX12_judges 49 = .ok (.iaload, 1) := by decide +kernel
theorem dX12_judges_50 : decode cX12_judges 50 = .ok (.istore_n 3, 1) := by decide +kernel
theorem dX12_judges_51 : decode cX12_judges 51 = .ok (.aload_n 0, 1) := by decide +kernel
theorem dX12_judges_52 : decode cX12_judges 52 = .ok (.getfield 60, 3) := by decide +kernel
theorem dX12_judges_55 : decode cX12_judges 55 = .ok (.iload_n 2, 1) := by decide +kernel
theorem dX12_judges_56 : decode cX12_judges 56 = .ok (.iaload, 1) := by decide +kernel
theorem dX12_judges_57 : decode cX12_judges 57 = .ok (.istore 4, 2) := by decide +kernel
theorem dX12_judges_59 : decode cX12_judges 59 = .ok (.aload_n 0, 1) := by decide +kernel
theorem dX12_judges_60 : decode cX12_judges 60 = .ok (.iload_n 1, 1) := by decide +kernel
theorem dX12_judges_61 : decode cX12_judges 61 = .ok (.invokevirtual 347, 3) := by decide +kernel
theorem dX12_judges_64 : decode cX12_judges 64 = .ok (.aload_n 0, 1) := by decide +kernel
theorem dX12_judges_65 : decode cX12_judges 65 = .ok (.invokevirtual 332, 3) := by decide +kernel
theorem dX12_judges_68 : decode cX12_judges 68 = .ok (.ifCond .le 5, 3) := by decide +kernel
theorem dX12_judges_71 : decode cX12_judges 71 = .ok (.iconst 0, 1) := by decide +kernel
theorem dX12_judges_72 : decode cX12_judges 72 = .ok (.ireturn, 1) := by decide +kernel
theorem dX12_judges_73 : decode cX12_judges 73 = .ok (.aload_n 0, 1) := by decide +kernel
theorem dX12_judges_74 : decode cX12_judges 74 = .ok (.getfield 57, 3) := by decide +kernel
theorem dX12_judges_77 : decode cX12_judges 77 = .ok (.iload_n 2, 1) := by decide +kernel
theorem dX12_judges_78 : decode cX12_judges 78 = .ok (.iload_n 3, 1) := by decide +kernel
theorem dX12_judges_79 : decode cX12_judges 79 = .ok (.iastore, 1) := by decide +kernel
theorem dX12_judges_80 : decode cX12_judges 80 = .ok (.aload_n 0, 1) := by decide +kernel
theorem dX12_judges_81 : decode cX12_judges 81 = .ok (.getfield 60, 3) := by decide +kernel
theorem dX12_judges_84 : decode cX12_judges 84 = .ok (.iload_n 2, 1) := by decide +kernel
theorem dX12_judges_85 : decode cX12_judges 85 = .ok (.iload 4, 2) := by decide +kernel
theorem dX12_judges_87 : decode cX12_judges 87 = .ok (.iastore, 1) := by decide +kernel
theorem dX12_judges_88 : decode cX12_judges 88 = .ok (.aload_n 0, 1) := by decide +kernel
theorem dX12_judges_89 : decode cX12_judges 89 = .ok (.iconst 0, 1) := by decide +kernel
theorem dX12_judges_90 : decode cX12_judges 90 = .ok (.putfield 312, 3) := by decide +kernel
theorem dX12_judges_93 : decode cX12_judges 93 = .ok (.iconst 2, 1) := by decide +kernel
theorem dX12_judges_94 : decode cX12_judges 94 = .ok (.ireturn, 1) := by decide +kernel
abbrev pb_sX12_judges (dC : Nat → ClassId) (dI : Nat → Nat → Nat) (A9 : Nat → Prop) (h0 : Nat) (mi : Nat → Int32) (mr : Nat → Nat) (km : Nat → ClassId) (fm_must : Nat → Int32) (fm_least : Nat → Int32) (fm_pin : Nat → Int32) (fm_ways : Nat → Int32) (fm_reportMonth : Nat → Int32) (fm_reportDay : Nat → Int32) (fm_reportKind : Nat → Int32) (fm_trust : Nat → Int32) (fm_letter : Nat → Int32) (fm_reportPlace : Nat → Int32) (fm_struck : Nat → Int32) (fm_reportKnown : Nat → Int32) (fm_deedMonth : Nat → Int32) (fm_deedDay : Nat → Int32) (fm_deedLong : Nat → Int32) (fm_deedKind : Nat → Int32) (fm_kept : Nat → Int32) (fm_tape : Nat → Int32) (fm_verdict : Nat → Int32) (fm_row : Nat → Int32) (fm_official : Nat → Int32) (fm_aside : Nat → Int32) (fm_worth : Nat → Int32) (fm_out : Nat → Int32) (p1 : Int32) (w0_37 : Int32) (z1 : Nat → Int32) (z2 : Nat → Int32) (z4 : Nat → Int32) (t : State) : Prop := gi w0_37 0 1 ∧ va_P (dC, dI) vwCl (MWn h0 mr km (mi 0) (mi 1) (mi 2) (mi 3) (mi 4) (mi 5) (mi 6) (mi 7) (mi 10) (mi 17) (mi 23) (mi 24) (mi 26) (mi 27) (mi 28) (mi 29) (mi 30) (mi 31) (mi 32) (mi 33) w0_37 (mi 41) (mi 42) (mi 43) (mi 44) (mi 45) (mi 47) (mi 48) (mi 49) (mi 50) (mi 51) (mi 54) (mi 56) fm_trust fm_letter fm_reportPlace fm_reportKind fm_struck fm_reportMonth fm_reportDay fm_reportKnown fm_deedMonth fm_deedDay fm_deedLong fm_deedKind fm_kept fm_tape z1 z2 fm_pin z4 fm_verdict fm_row fm_official fm_aside fm_worth fm_out) t.heap ∧ va_D A9 (MWn h0 mr km (mi 0) (mi 1) (mi 2) (mi 3) (mi 4) (mi 5) (mi 6) (mi 7) (mi 10) (mi 17) (mi 23) (mi 24) (mi 26) (mi 27) (mi 28) (mi 29) (mi 30) (mi 31) (mi 32) (mi 33) w0_37 (mi 41) (mi 42) (mi 43) (mi 44) (mi 45) (mi 47) (mi 48) (mi 49) (mi 50) (mi 51) (mi 54) (mi 56) fm_trust fm_letter fm_reportPlace fm_reportKind fm_struck fm_reportMonth fm_reportDay fm_reportKnown fm_deedMonth fm_deedDay fm_deedLong fm_deedKind fm_kept fm_tape z1 z2 fm_pin z4 fm_verdict fm_row fm_official fm_aside fm_worth fm_out)
set_option maxHeartbeats 4000000 in
set_option maxRecDepth 100000 in
theorem sX12_judges (l : Launch) (dC : Nat → ClassId) (dI : Nat → Nat → Nat) (sz : Nat) (h0 : Nat) (mi : Nat → Int32) (mr : Nat → Nat) (km : Nat → ClassId) (fm_must : Nat → Int32) (fm_least : Nat → Int32) (fm_pin : Nat → Int32) (fm_ways : Nat → Int32) (fm_reportMonth : Nat → Int32) (fm_reportDay : Nat → Int32) (fm_reportKind : Nat → Int32) (fm_trust : Nat → Int32) (fm_letter : Nat → Int32) (fm_reportPlace : Nat → Int32) (fm_struck : Nat → Int32) (fm_reportKnown : Nat → Int32) (fm_deedMonth : Nat → Int32) (fm_deedDay : Nat → Int32) (fm_deedLong : Nat → Int32) (fm_deedKind : Nat → Int32) (fm_kept : Nat → Int32) (fm_tape : Nat → Int32) (fm_verdict : Nat → Int32) (fm_row : Nat → Int32) (fm_official : Nat → Int32) (fm_aside : Nat → Int32) (fm_worth : Nat → Int32) (fm_out : Nat → Int32) (p1 : Int32) (gmi_0 : gi (mi 0) 0 24) (gmi_1 : gi (mi 1) 0 5) (gmi_2 : gi (mi 2) 0 5) (gmi_4 : gi (mi 4) 0 1) (gmi_7 : gi (mi 7) 0 6) (gmi_10 : gi (mi 10) 0 24) (gmi_17 : gi (mi 17) 0 8) (gmi_23 : gi (mi 23) 0 300) (gmi_24 : gi (mi 24) 0 1) (gmi_26 : gi (mi 26) 0 1600) (gmi_29 : gi (mi 29) 0 1600) (gmi_30 : gi (mi 30) 0 1600) (gmi_33 : gi (mi 33) 0 1) (gmi_37 : gi (mi 37) 0 1) (gmi_41 : gi (mi 41) 0 24) (gmi_50 : gi (mi 50) 0 1) (gmi_51 : gi (mi 51) 0 1) (gmi_56 : gi (mi 56) 0 80) (gfm_reportMonth : ga fm_reportMonth 24 0 23) (gfm_reportDay : ga fm_reportDay 24 0 999) (gp1 : gi p1 0 23) : Met l yX12_judges (.code yX12_judges cX12_judges 5 (some .int) :: wsGB) ({ frames := 3, cells := 0, slots := 0, locals := 73 }) (va_Pc [.ref h0, .int p1] (fun U => U.heap.size = sz ∧ va_P (dC, dI) vwCl (MWn h0 mr km (mi 0) (mi 1) (mi 2) (mi 3) (mi 4) (mi 5) (mi 6) (mi 7) (mi 10) (mi 17) (mi 23) (mi 24) (mi 26) (mi 27) (mi 28) (mi 29) (mi 30) (mi 31) (mi 32) (mi 33) (mi 37) (mi 41) (mi 42) (mi 43) (mi 44) (mi 45) (mi 47) (mi 48) (mi 49) (mi 50) (mi 51) (mi 54) (mi 56) fm_trust fm_letter fm_reportPlace fm_reportKind fm_struck fm_reportMonth fm_reportDay fm_reportKnown fm_deedMonth fm_deedDay fm_deedLong fm_deedKind fm_kept fm_tape fm_must fm_least fm_pin fm_ways fm_verdict fm_row fm_official fm_aside fm_worth fm_out) U.heap ∧ va_K (dC, dI) vwCl (MT km) U ∧ va_D (fun _ => True) (MWn h0 mr km (mi 0) (mi 1) (mi 2) (mi 3) (mi 4) (mi 5) (mi 6) (mi 7) (mi 10) (mi 17) (mi 23) (mi 24) (mi 26) (mi 27) (mi 28) (mi 29) (mi 30) (mi 31) (mi 32) (mi 33) (mi 37) (mi 41) (mi 42) (mi 43) (mi 44) (mi 45) (mi 47) (mi 48) (mi 49) (mi 50) (mi 51) (mi 54) (mi 56) fm_trust fm_letter fm_reportPlace fm_reportKind fm_struck fm_reportMonth fm_reportDay fm_reportKnown fm_deedMonth fm_deedDay fm_deedLong fm_deedKind fm_kept fm_tape fm_must fm_least fm_pin fm_ways fm_verdict fm_row fm_official fm_aside fm_worth fm_out))) (va_Qi (fun (r : Int32) (u : Unit) => gi r 0 2) (fun _ t => ∃ (w0_37 : Int32) (z1 : Nat → Int32) (z2 : Nat → Int32) (z4 : Nat → Int32), pb_sX12_judges dC dI (va_A (MWn h0 mr km (mi 0) (mi 1) (mi 2) (mi 3) (mi 4) (mi 5) (mi 6) (mi 7) (mi 10) (mi 17) (mi 23) (mi 24) (mi 26) (mi 27) (mi 28) (mi 29) (mi 30) (mi 31) (mi 32) (mi 33) (mi 37) (mi 41) (mi 42) (mi 43) (mi 44) (mi 45) (mi 47) (mi 48) (mi 49) (mi 50) (mi 51) (mi 54) (mi 56) fm_trust fm_letter fm_reportPlace fm_reportKind fm_struck fm_reportMonth fm_reportDay fm_reportKnown fm_deedMonth fm_deedDay fm_deedLong fm_deedKind fm_kept fm_tape fm_must fm_least fm_pin fm_ways fm_verdict fm_row fm_official fm_aside fm_worth fm_out) sz) h0 mi mr km fm_must fm_least fm_pin fm_ways fm_reportMonth fm_reportDay fm_reportKind fm_trust fm_letter fm_reportPlace fm_struck fm_reportKnown fm_deedMonth fm_deedDay fm_deedLong fm_deedKind fm_kept fm_tape fm_verdict fm_row fm_official fm_aside fm_worth fm_out p1 w0_37 z1 z2 z4 t) (va_A (MWn h0 mr km (mi 0) (mi 1) (mi 2) (mi 3) (mi 4) (mi 5) (mi 6) (mi 7) (mi 10) (mi 17) (mi 23) (mi 24) (mi 26) (mi 27) (mi 28) (mi 29) (mi 30) (mi 31) (mi 32) (mi 33) (mi 37) (mi 41) (mi 42) (mi 43) (mi 44) (mi 45) (mi 47) (mi 48) (mi 49) (mi 50) (mi 51) (mi 54) (mi 56) fm_trust fm_letter fm_reportPlace fm_reportKind fm_struck fm_reportMonth fm_reportDay fm_reportKnown fm_deedMonth fm_deedDay fm_deedLong fm_deedKind fm_kept fm_tape fm_must fm_least fm_pin fm_ways fm_verdict fm_row fm_official fm_aside fm_worth fm_out) sz)) 0 0 (va_A (MWn h0 mr km (mi 0) (mi 1) (mi 2) (mi 3) (mi 4) (mi 5) (mi 6) (mi 7) (mi 10) (mi 17) (mi 23) (mi 24) (mi 26) (mi 27) (mi 28) (mi 29) (mi 30) (mi 31) (mi 32) (mi 33) (mi 37) (mi 41) (mi 42) (mi 43) (mi 44) (mi 45) (mi 47) (mi 48) (mi 49) (mi 50) (mi 51) (mi 54) (mi 56) fm_trust fm_letter fm_reportPlace fm_reportKind fm_struck fm_reportMonth fm_reportDay fm_reportKnown fm_deedMonth fm_deedDay fm_deedLong fm_deedKind fm_kept fm_tape fm_must fm_least fm_pin fm_ways fm_verdict fm_row fm_official fm_aside fm_worth fm_out) sz) := by
  refine Met.ofW (cc := cX12_judges) (maxL := 5) (ret := (some .int)) (by decide) rfl ?_
  intro p e s m args below meth c s₁ B hml hv
  obtain ⟨rfl, hsz, hP, hK, hD0⟩ := hv
  have hx := B.exec
  have hb := B.bytes
  have hr := B.returns
  have hts := atoms_spec (ws := (.code yX12_judges cX12_judges 5 (some .int) :: wsGB)) B.pre
  have hown : s.vm.findClass RX12 = some m.cls := findClass_of_methodNamed B.named
  have hlocks := B.notSynchronized
  subst hsz
  have hD := hD0.self (sz := s.heap.size)
  generalize hAe : va_A (MWn h0 mr km (mi 0) (mi 1) (mi 2) (mi 3) (mi 4) (mi 5) (mi 6) (mi 7) (mi 10) (mi 17) (mi 23) (mi 24) (mi 26) (mi 27) (mi 28) (mi 29) (mi 30) (mi 31) (mi 32) (mi 33) (mi 37) (mi 41) (mi 42) (mi 43) (mi 44) (mi 45) (mi 47) (mi 48) (mi 49) (mi 50) (mi 51) (mi 54) (mi 56) fm_trust fm_letter fm_reportPlace fm_reportKind fm_struck fm_reportMonth fm_reportDay fm_reportKnown fm_deedMonth fm_deedDay fm_deedLong fm_deedKind fm_kept fm_tape fm_must fm_least fm_pin fm_ways fm_verdict fm_row fm_official fm_aside fm_worth fm_out) s.heap.size = A at hD ⊢
  have hA : ∀ q : Nat, s.heap.size ≤ q → A q := fun q h => by rw [← hAe]; exact Or.inr h
  have hS : va_S A s.heap s.heap [] := va_S.rf
  have hl := lv_entry ([.ref h0, .int p1]) (n := 5) (Nat.le_of_ble_eq_true rfl)
  rw [lg_entry_eq]
  generalize (lg_sl ([.ref h0, .int p1]) ++ List.replicate (5 - (lg_sl ([.ref h0, .int p1])).length) Slot.unset).toArray = ls at hl ⊢
  have hl : lv_has ls 5 [(0, .ref h0), (1, .int p1)] := hl
  refine lv_aload_n hx hb dX12_judges_0 rfl (lv_at hl 0 rfl) ?_
  refine va_get (D := (dC, dI)) (ci := 12) (v := .int (mi 4)) (C := RX12) (T := TX12) (N := 57) hx hb hts (fun w h => List.mem_cons_of_mem _ (jnGB_X12 w h)) hown hK hP 0 rfl rfl 4 (by decide) (hts _ (List.mem_cons_of_mem _ mGB_107)) (fun _ h9 => h9) rfl dX12_judges_1 ?_
  refine lv_if_eq (tgt := 37) hx hb dX12_judges_4 (by decide) (fun c_109 => ?_) (fun c_109 => ?_)
  · have g_110 : gi (mi 4) 0 0 := gi_eq c_109 (gi_c 0 0 (by decide))
    refine lv_aload_n hx hb dX12_judges_37 rfl (lv_at hl 0 rfl) ?_
    refine va_get (D := (dC, dI)) (ci := 12) (v := .ref (mr 5)) (C := RX12) (T := TX12) (N := 57) hx hb hts (fun w h => List.mem_cons_of_mem _ (jnGB_X12 w h)) hown hK hP 0 rfl rfl 14 (by decide) (hts _ (List.mem_cons_of_mem _ mGB_16)) (fun _ h9 => h9) rfl dX12_judges_38 ?_
    refine lv_iload_n hx hb dX12_judges_41 rfl (lv_at hl 1 rfl) ?_
    refine va_iald hx hb hK hP 6 5 rfl rfl (gi_in gp1 (by decide)) dX12_judges_42 ?_
    refine lv_topi (fun x_111 ex_111 => ?_)
    have gx_111 : gi x_111 0 23 := ga_at gfm_reportMonth (gi_in gp1 (by decide)) ex_111
    refine lv_istore_n (lv' := [(2, .int x_111), (0, .ref h0), (1, .int p1)]) hx hb dX12_judges_43 rfl hl (by decide) rfl (fun ls hl => ?_)
    refine lv_aload_n hx hb dX12_judges_44 rfl (lv_at hl 1 rfl) ?_
    refine va_get (D := (dC, dI)) (ci := 12) (v := .ref (mr 14)) (C := RX12) (T := TX12) (N := 57) hx hb hts (fun w h => List.mem_cons_of_mem _ (jnGB_X12 w h)) hown hK hP 0 rfl rfl 34 (by decide) (hts _ (List.mem_cons_of_mem _ mGB_26)) (fun _ h9 => h9) rfl dX12_judges_45 ?_
    refine lv_iload_n hx hb dX12_judges_48 rfl (lv_at hl 0 rfl) ?_
    refine va_iald hx hb hK hP 15 14 rfl rfl (gi_in gx_111 (by decide)) dX12_judges_49 ?_
    refine lv_topi (fun x_112 ex_112 => ?_)
    refine lv_istore_n (lv' := [(3, .int x_112), (2, .int x_111), (0, .ref h0), (1, .int p1)]) hx hb dX12_judges_50 rfl hl (by decide) rfl (fun ls hl => ?_)
    refine lv_aload_n hx hb dX12_judges_51 rfl (lv_at hl 2 rfl) ?_
    refine va_get (D := (dC, dI)) (ci := 12) (v := .ref (mr 15)) (C := RX12) (T := TX12) (N := 57) hx hb hts (fun w h => List.mem_cons_of_mem _ (jnGB_X12 w h)) hown hK hP 0 rfl rfl 35 (by decide) (hts _ (List.mem_cons_of_mem _ mGB_27)) (fun _ h9 => h9) rfl dX12_judges_52 ?_
    refine lv_iload_n hx hb dX12_judges_55 rfl (lv_at hl 1 rfl) ?_
    refine va_iald hx hb hK hP 16 15 rfl rfl (gi_in gx_111 (by decide)) dX12_judges_56 ?_
    refine lv_topi (fun x_113 ex_113 => ?_)
    refine lv_istore (lv' := [(4, .int x_113), (3, .int x_112), (2, .int x_111), (0, .ref h0), (1, .int p1)]) hx hb dX12_judges_57 hl (by decide) rfl (fun ls hl => ?_)
    refine lv_aload_n hx hb dX12_judges_59 rfl (lv_at hl 3 rfl) ?_
    refine lv_iload_n hx hb dX12_judges_60 rfl (lv_at hl 4 rfl) ?_
    have hFc := gz_fullF hD hS hA
    refine va_callv (va_runV (As := [.int p1]) (rest := []) ⟨hx, hb, hml, hown, hts⟩ (sX12_holds l dC dI s.heap.size h0 mi mr km fm_reportMonth fm_reportDay fm_reportKind fm_must fm_least fm_trust fm_letter fm_reportPlace fm_struck fm_reportKnown fm_deedMonth fm_deedDay fm_deedLong fm_deedKind fm_kept fm_tape fm_pin fm_ways fm_verdict fm_row fm_official fm_aside fm_worth fm_out p1 gmi_0 gmi_1 gmi_2 (gi_w g_110 (by decide)) gmi_7 gmi_10 gmi_17 gmi_23 gmi_24 gmi_26 gmi_29 gmi_30 gmi_33 gmi_37 gmi_41 gmi_50 gmi_51 gmi_56 gfm_reportMonth gfm_reportDay gp1) (cwV 1 hts (gz_gV mGB_295 mGB_296 mGB_297 mGB_1 mGB_298 goodGB) rfl rfl rfl (by decide +kernel) ⟨Nat.le_of_ble_eq_true rfl, Nat.le_of_ble_eq_true rfl⟩) ⟨bl_W, mw_recv hK hP, fun U hU hW => ⟨rfl, by rw [hU], by rw [hU]; exact hP, va_K.moved hW.alike hK, hD.weaken (fun _ _ _ _ => trivial)⟩⟩ rfl rfl hl.1 rfl (lv_room (Nat.le_of_ble_eq_true rfl)) dX12_judges_61 ⟨Nat.zero_le _, Nat.zero_le _⟩) hS (fun q _ h => hFc q h) hFc (fun u t H1 locs ht hvm hw hB hz1 hk1 hS => ?_)
    obtain ⟨y_115, f_116, f_117, hB⟩ := hB
    obtain ⟨gy_115, hP1, hD1⟩ := hB
    rw [ht] at hP1
    have hD : va_D A (MWn h0 mr km (mi 0) (mi 1) (mi 2) (mi 3) (mi 4) (mi 5) (mi 6) (mi 7) (mi 10) (mi 17) (mi 23) (mi 24) (mi 26) (mi 27) (mi 28) (mi 29) (mi 30) (mi 31) (mi 32) (mi 33) y_115 (mi 41) (mi 42) (mi 43) (mi 44) (mi 45) (mi 47) (mi 48) (mi 49) (mi 50) (mi 51) (mi 54) (mi 56) fm_trust fm_letter fm_reportPlace fm_reportKind fm_struck fm_reportMonth fm_reportDay fm_reportKnown fm_deedMonth fm_deedDay fm_deedLong fm_deedKind fm_kept fm_tape f_116 f_117 fm_pin fm_ways fm_verdict fm_row fm_official fm_aside fm_worth fm_out) := gz_fullD hFc hD1
    have hP : va_P (dC, dI) vwCl (MWn h0 mr km (mi 0) (mi 1) (mi 2) (mi 3) (mi 4) (mi 5) (mi 6) (mi 7) (mi 10) (mi 17) (mi 23) (mi 24) (mi 26) (mi 27) (mi 28) (mi 29) (mi 30) (mi 31) (mi 32) (mi 33) y_115 (mi 41) (mi 42) (mi 43) (mi 44) (mi 45) (mi 47) (mi 48) (mi 49) (mi 50) (mi 51) (mi 54) (mi 56) fm_trust fm_letter fm_reportPlace fm_reportKind fm_struck fm_reportMonth fm_reportDay fm_reportKnown fm_deedMonth fm_deedDay fm_deedLong fm_deedKind fm_kept fm_tape f_116 f_117 fm_pin fm_ways fm_verdict fm_row fm_official fm_aside fm_worth fm_out) H1 := hP1
    generalize H1 = H at hP hS ⊢
    refine lv_aload_n hx hb dX12_judges_64 rfl (lv_at hl 3 rfl) ?_
    have hFc := gz_fullF hD hS hA
    refine va_calli (va_runV (As := []) (rest := []) ⟨hx, hb, hml, hown, hts⟩ (sX12_counts l dC dI H.size h0 (upd mi 37 y_115) mr km f_116 f_117 fm_pin fm_ways fm_trust fm_letter fm_reportPlace fm_reportKind fm_struck fm_reportMonth fm_reportDay fm_reportKnown fm_deedMonth fm_deedDay fm_deedLong fm_deedKind fm_kept fm_tape fm_verdict fm_row fm_official fm_aside fm_worth fm_out gmi_0 gmi_1 gmi_2 (gi_w g_110 (by decide)) gmi_7 gmi_10 gmi_17 gmi_23 gmi_24 gmi_26 gmi_29 gmi_30 gmi_33 gy_115 gmi_41 gmi_50 gmi_51 gmi_56) (cwV 0 hts (gz_gV mGB_299 mGB_300 mGB_301 mGB_1 mGB_302 goodGB) rfl rfl rfl (by decide +kernel) ⟨Nat.le_of_ble_eq_true rfl, Nat.le_of_ble_eq_true rfl⟩) ⟨bl_W, mw_recv hK hP, fun U hU hW => ⟨rfl, by rw [hU], by rw [hU]; exact hP, va_K.moved hW.alike hK, hD.weaken (fun _ _ _ _ => trivial)⟩⟩ rfl rfl hl.1 rfl (lv_room (Nat.le_of_ble_eq_true rfl)) dX12_judges_65 ⟨Nat.zero_le _, Nat.zero_le _⟩) hS (fun q _ h => hFc q h) hFc (fun r_118 u t H1 locs ht hvm hw hB hz1 hk1 hS => ?_)
    obtain ⟨f_119, hB⟩ := hB
    obtain ⟨hP1, hD1⟩ := hB
    rw [ht] at hP1
    have hD : va_D A (MWn h0 mr km (mi 0) (mi 1) (mi 2) (mi 3) (mi 4) (mi 5) (mi 6) (mi 7) (mi 10) (mi 17) (mi 23) (mi 24) (mi 26) (mi 27) (mi 28) (mi 29) (mi 30) (mi 31) (mi 32) (mi 33) y_115 (mi 41) (mi 42) (mi 43) (mi 44) (mi 45) (mi 47) (mi 48) (mi 49) (mi 50) (mi 51) (mi 54) (mi 56) fm_trust fm_letter fm_reportPlace fm_reportKind fm_struck fm_reportMonth fm_reportDay fm_reportKnown fm_deedMonth fm_deedDay fm_deedLong fm_deedKind fm_kept fm_tape f_116 f_117 fm_pin f_119 fm_verdict fm_row fm_official fm_aside fm_worth fm_out) := gz_fullD hFc hD1
    have hP : va_P (dC, dI) vwCl (MWn h0 mr km (mi 0) (mi 1) (mi 2) (mi 3) (mi 4) (mi 5) (mi 6) (mi 7) (mi 10) (mi 17) (mi 23) (mi 24) (mi 26) (mi 27) (mi 28) (mi 29) (mi 30) (mi 31) (mi 32) (mi 33) y_115 (mi 41) (mi 42) (mi 43) (mi 44) (mi 45) (mi 47) (mi 48) (mi 49) (mi 50) (mi 51) (mi 54) (mi 56) fm_trust fm_letter fm_reportPlace fm_reportKind fm_struck fm_reportMonth fm_reportDay fm_reportKnown fm_deedMonth fm_deedDay fm_deedLong fm_deedKind fm_kept fm_tape f_116 f_117 fm_pin f_119 fm_verdict fm_row fm_official fm_aside fm_worth fm_out) H1 := hP1
    generalize H1 = H at hP hS ⊢
    refine lv_if_le (tgt := 73) hx hb dX12_judges_68 (by decide) (fun c_120 => ?_) (fun c_120 => ?_)
    · have g_121 : gi r_118 (-2147483648) 0 := gi_le_l c_120 (gi_any r_118) (gi_c 0 0 (by decide))
      refine lv_aload_n hx hb dX12_judges_73 rfl (lv_at hl 3 rfl) ?_
      refine va_get (D := (dC, dI)) (ci := 12) (v := .ref (mr 14)) (C := RX12) (T := TX12) (N := 57) hx hb hts (fun w h => List.mem_cons_of_mem _ (jnGB_X12 w h)) hown hK hP 0 rfl rfl 34 (by decide) (hts _ (List.mem_cons_of_mem _ mGB_26)) (fun _ h9 => h9) rfl dX12_judges_74 ?_
      refine lv_iload_n hx hb dX12_judges_77 rfl (lv_at hl 2 rfl) ?_
      refine lv_iload_n hx hb dX12_judges_78 rfl (lv_at hl 1 rfl) ?_
      refine va_iast hx hb hK hP hD hS 15 14 rfl rfl (gi_in gx_111 (by decide)) dX12_judges_79 (fun H locs hP hD hS => ?_)
      have hP : va_P (dC, dI) vwCl (MWn h0 mr km (mi 0) (mi 1) (mi 2) (mi 3) (mi 4) (mi 5) (mi 6) (mi 7) (mi 10) (mi 17) (mi 23) (mi 24) (mi 26) (mi 27) (mi 28) (mi 29) (mi 30) (mi 31) (mi 32) (mi 33) y_115 (mi 41) (mi 42) (mi 43) (mi 44) (mi 45) (mi 47) (mi 48) (mi 49) (mi 50) (mi 51) (mi 54) (mi 56) fm_trust fm_letter fm_reportPlace fm_reportKind fm_struck fm_reportMonth fm_reportDay fm_reportKnown fm_deedMonth fm_deedDay fm_deedLong fm_deedKind fm_kept fm_tape (upd f_116 (x_111 : Int32).toNatClampNeg x_112) f_117 fm_pin f_119 fm_verdict fm_row fm_official fm_aside fm_worth fm_out) H := hP
      have hD : va_D A (MWn h0 mr km (mi 0) (mi 1) (mi 2) (mi 3) (mi 4) (mi 5) (mi 6) (mi 7) (mi 10) (mi 17) (mi 23) (mi 24) (mi 26) (mi 27) (mi 28) (mi 29) (mi 30) (mi 31) (mi 32) (mi 33) y_115 (mi 41) (mi 42) (mi 43) (mi 44) (mi 45) (mi 47) (mi 48) (mi 49) (mi 50) (mi 51) (mi 54) (mi 56) fm_trust fm_letter fm_reportPlace fm_reportKind fm_struck fm_reportMonth fm_reportDay fm_reportKnown fm_deedMonth fm_deedDay fm_deedLong fm_deedKind fm_kept fm_tape (upd f_116 (x_111 : Int32).toNatClampNeg x_112) f_117 fm_pin f_119 fm_verdict fm_row fm_official fm_aside fm_worth fm_out) := hD
      generalize upd f_116 (x_111 : Int32).toNatClampNeg x_112 = f_122 at hP hD
      refine lv_aload_n hx hb dX12_judges_80 rfl (lv_at hl 3 rfl) ?_
      refine va_get (D := (dC, dI)) (ci := 12) (v := .ref (mr 15)) (C := RX12) (T := TX12) (N := 57) hx hb hts (fun w h => List.mem_cons_of_mem _ (jnGB_X12 w h)) hown hK hP 0 rfl rfl 35 (by decide) (hts _ (List.mem_cons_of_mem _ mGB_27)) (fun _ h9 => h9) rfl dX12_judges_81 ?_
      refine lv_iload_n hx hb dX12_judges_84 rfl (lv_at hl 2 rfl) ?_
      refine lv_iload hx hb dX12_judges_85 (lv_at hl 0 rfl) ?_
      refine va_iast hx hb hK hP hD hS 16 15 rfl rfl (gi_in gx_111 (by decide)) dX12_judges_87 (fun H locs hP hD hS => ?_)
      have hP : va_P (dC, dI) vwCl (MWn h0 mr km (mi 0) (mi 1) (mi 2) (mi 3) (mi 4) (mi 5) (mi 6) (mi 7) (mi 10) (mi 17) (mi 23) (mi 24) (mi 26) (mi 27) (mi 28) (mi 29) (mi 30) (mi 31) (mi 32) (mi 33) y_115 (mi 41) (mi 42) (mi 43) (mi 44) (mi 45) (mi 47) (mi 48) (mi 49) (mi 50) (mi 51) (mi 54) (mi 56) fm_trust fm_letter fm_reportPlace fm_reportKind fm_struck fm_reportMonth fm_reportDay fm_reportKnown fm_deedMonth fm_deedDay fm_deedLong fm_deedKind fm_kept fm_tape f_122 (upd f_117 (x_111 : Int32).toNatClampNeg x_113) fm_pin f_119 fm_verdict fm_row fm_official fm_aside fm_worth fm_out) H := hP
      have hD : va_D A (MWn h0 mr km (mi 0) (mi 1) (mi 2) (mi 3) (mi 4) (mi 5) (mi 6) (mi 7) (mi 10) (mi 17) (mi 23) (mi 24) (mi 26) (mi 27) (mi 28) (mi 29) (mi 30) (mi 31) (mi 32) (mi 33) y_115 (mi 41) (mi 42) (mi 43) (mi 44) (mi 45) (mi 47) (mi 48) (mi 49) (mi 50) (mi 51) (mi 54) (mi 56) fm_trust fm_letter fm_reportPlace fm_reportKind fm_struck fm_reportMonth fm_reportDay fm_reportKnown fm_deedMonth fm_deedDay fm_deedLong fm_deedKind fm_kept fm_tape f_122 (upd f_117 (x_111 : Int32).toNatClampNeg x_113) fm_pin f_119 fm_verdict fm_row fm_official fm_aside fm_worth fm_out) := hD
      generalize upd f_117 (x_111 : Int32).toNatClampNeg x_113 = f_123 at hP hD
      refine lv_aload_n hx hb dX12_judges_88 rfl (lv_at hl 3 rfl) ?_
      refine lv_iconst (v := 0) hx hb dX12_judges_89 (by decide) ?_
      refine va_put (D := (dC, dI)) (ci := 12) (v := .int 0) (ty := .boolean) (C := RX12) (T := TX12) (N := 57) hx hb hts (fun w h => List.mem_cons_of_mem _ (jnGB_X12 w h)) tyX12 tyX12_ok nmX12 hown hK hP hD hS 0 rfl rfl 37 (by decide) (hts _ (List.mem_cons_of_mem _ mGB_270)) (fun _ h9 => h9) rfl (by decide +kernel) rfl rfl (Nat.le_of_ble_eq_true rfl) dX12_judges_90 (fun H locs hP hD hS => ?_)
      have hP : va_P (dC, dI) vwCl (MWn h0 mr km (mi 0) (mi 1) (mi 2) (mi 3) (mi 4) (mi 5) (mi 6) (mi 7) (mi 10) (mi 17) (mi 23) (mi 24) (mi 26) (mi 27) (mi 28) (mi 29) (mi 30) (mi 31) (mi 32) (mi 33) 0 (mi 41) (mi 42) (mi 43) (mi 44) (mi 45) (mi 47) (mi 48) (mi 49) (mi 50) (mi 51) (mi 54) (mi 56) fm_trust fm_letter fm_reportPlace fm_reportKind fm_struck fm_reportMonth fm_reportDay fm_reportKnown fm_deedMonth fm_deedDay fm_deedLong fm_deedKind fm_kept fm_tape f_122 f_123 fm_pin f_119 fm_verdict fm_row fm_official fm_aside fm_worth fm_out) H := hP
      have hD : va_D A (MWn h0 mr km (mi 0) (mi 1) (mi 2) (mi 3) (mi 4) (mi 5) (mi 6) (mi 7) (mi 10) (mi 17) (mi 23) (mi 24) (mi 26) (mi 27) (mi 28) (mi 29) (mi 30) (mi 31) (mi 32) (mi 33) 0 (mi 41) (mi 42) (mi 43) (mi 44) (mi 45) (mi 47) (mi 48) (mi 49) (mi 50) (mi 51) (mi 54) (mi 56) fm_trust fm_letter fm_reportPlace fm_reportKind fm_struck fm_reportMonth fm_reportDay fm_reportKnown fm_deedMonth fm_deedDay fm_deedLong fm_deedKind fm_kept fm_tape f_122 f_123 fm_pin f_119 fm_verdict fm_row fm_official fm_aside fm_worth fm_out) := hD
      refine lv_iconst (v := 2) hx hb dX12_judges_93 (by decide) ?_
      exact W.iret (v := 2) hx hb hr (fun t ht hW => ⟨⟨2, (), rfl, (gi_w (gi_c 2 2 (by decide)) (by decide)), 0, f_122, f_123, f_119, (gi_w (gi_c 0 0 (by decide)) (by decide)), by rw [ht]; exact hP, hD⟩, hS.F ht⟩) hS.2.2 dX12_judges_94
    · have g_124 : gi r_118 1 2147483647 := gi_lt_r (Int32.not_le.mp c_120) (gi_c 0 0 (by decide)) (gi_any r_118) (by decide)
      refine lv_iconst (v := 0) hx hb dX12_judges_71 (by decide) ?_
      exact W.iret (v := 0) hx hb hr (fun t ht hW => ⟨⟨0, (), rfl, (gi_w (gi_c 0 0 (by decide)) (by decide)), y_115, f_116, f_117, f_119, gy_115, by rw [ht]; exact hP, hD⟩, hS.F ht⟩) hS.2.2 dX12_judges_72
  · have g_125 : gi (mi 4) 1 1 := gi_ne_lo c_109 gmi_4 (gi_c 0 0 (by decide)) (by decide)
    refine lv_aload_n hx hb dX12_judges_7 rfl (lv_at hl 0 rfl) ?_
    refine va_get (D := (dC, dI)) (ci := 12) (v := .ref (mr 3)) (C := RX12) (T := TX12) (N := 57) hx hb hts (fun w h => List.mem_cons_of_mem _ (jnGB_X12 w h)) hown hK hP 0 rfl rfl 12 (by decide) (hts _ (List.mem_cons_of_mem _ mGB_13)) (fun _ h9 => h9) rfl dX12_judges_8 ?_
    refine lv_iload_n hx hb dX12_judges_11 rfl (lv_at hl 1 rfl) ?_
    refine va_iald hx hb hK hP 4 3 rfl rfl (gi_in gp1 (by decide)) dX12_judges_12 ?_
    refine lv_topi (fun x_126 ex_126 => ?_)
    refine lv_if_ne (tgt := 37) hx hb dX12_judges_13 (by decide) (fun c_127 => ?_) (fun c_127 => ?_)
    · refine lv_aload_n hx hb dX12_judges_37 rfl (lv_at hl 0 rfl) ?_
      refine va_get (D := (dC, dI)) (ci := 12) (v := .ref (mr 5)) (C := RX12) (T := TX12) (N := 57) hx hb hts (fun w h => List.mem_cons_of_mem _ (jnGB_X12 w h)) hown hK hP 0 rfl rfl 14 (by decide) (hts _ (List.mem_cons_of_mem _ mGB_16)) (fun _ h9 => h9) rfl dX12_judges_38 ?_
      refine lv_iload_n hx hb dX12_judges_41 rfl (lv_at hl 1 rfl) ?_
      refine va_iald hx hb hK hP 6 5 rfl rfl (gi_in gp1 (by decide)) dX12_judges_42 ?_
      refine lv_topi (fun x_128 ex_128 => ?_)
      have gx_128 : gi x_128 0 23 := ga_at gfm_reportMonth (gi_in gp1 (by decide)) ex_128
      refine lv_istore_n (lv' := [(2, .int x_128), (0, .ref h0), (1, .int p1)]) hx hb dX12_judges_43 rfl hl (by decide) rfl (fun ls hl => ?_)
      refine lv_aload_n hx hb dX12_judges_44 rfl (lv_at hl 1 rfl) ?_
      refine va_get (D := (dC, dI)) (ci := 12) (v := .ref (mr 14)) (C := RX12) (T := TX12) (N := 57) hx hb hts (fun w h => List.mem_cons_of_mem _ (jnGB_X12 w h)) hown hK hP 0 rfl rfl 34 (by decide) (hts _ (List.mem_cons_of_mem _ mGB_26)) (fun _ h9 => h9) rfl dX12_judges_45 ?_
      refine lv_iload_n hx hb dX12_judges_48 rfl (lv_at hl 0 rfl) ?_
      refine va_iald hx hb hK hP 15 14 rfl rfl (gi_in gx_128 (by decide)) dX12_judges_49 ?_
      refine lv_topi (fun x_129 ex_129 => ?_)
      refine lv_istore_n (lv' := [(3, .int x_129), (2, .int x_128), (0, .ref h0), (1, .int p1)]) hx hb dX12_judges_50 rfl hl (by decide) rfl (fun ls hl => ?_)
      refine lv_aload_n hx hb dX12_judges_51 rfl (lv_at hl 2 rfl) ?_
      refine va_get (D := (dC, dI)) (ci := 12) (v := .ref (mr 15)) (C := RX12) (T := TX12) (N := 57) hx hb hts (fun w h => List.mem_cons_of_mem _ (jnGB_X12 w h)) hown hK hP 0 rfl rfl 35 (by decide) (hts _ (List.mem_cons_of_mem _ mGB_27)) (fun _ h9 => h9) rfl dX12_judges_52 ?_
      refine lv_iload_n hx hb dX12_judges_55 rfl (lv_at hl 1 rfl) ?_
      refine va_iald hx hb hK hP 16 15 rfl rfl (gi_in gx_128 (by decide)) dX12_judges_56 ?_
      refine lv_topi (fun x_130 ex_130 => ?_)
      refine lv_istore (lv' := [(4, .int x_130), (3, .int x_129), (2, .int x_128), (0, .ref h0), (1, .int p1)]) hx hb dX12_judges_57 hl (by decide) rfl (fun ls hl => ?_)
      refine lv_aload_n hx hb dX12_judges_59 rfl (lv_at hl 3 rfl) ?_
      refine lv_iload_n hx hb dX12_judges_60 rfl (lv_at hl 4 rfl) ?_
      have hFc := gz_fullF hD hS hA
      refine va_callv (va_runV (As := [.int p1]) (rest := []) ⟨hx, hb, hml, hown, hts⟩ (sX12_holds l dC dI s.heap.size h0 mi mr km fm_reportMonth fm_reportDay fm_reportKind fm_must fm_least fm_trust fm_letter fm_reportPlace fm_struck fm_reportKnown fm_deedMonth fm_deedDay fm_deedLong fm_deedKind fm_kept fm_tape fm_pin fm_ways fm_verdict fm_row fm_official fm_aside fm_worth fm_out p1 gmi_0 gmi_1 gmi_2 (gi_w g_125 (by decide)) gmi_7 gmi_10 gmi_17 gmi_23 gmi_24 gmi_26 gmi_29 gmi_30 gmi_33 gmi_37 gmi_41 gmi_50 gmi_51 gmi_56 gfm_reportMonth gfm_reportDay gp1) (cwV 1 hts (gz_gV mGB_295 mGB_296 mGB_297 mGB_1 mGB_298 goodGB) rfl rfl rfl (by decide +kernel) ⟨Nat.le_of_ble_eq_true rfl, Nat.le_of_ble_eq_true rfl⟩) ⟨bl_W, mw_recv hK hP, fun U hU hW => ⟨rfl, by rw [hU], by rw [hU]; exact hP, va_K.moved hW.alike hK, hD.weaken (fun _ _ _ _ => trivial)⟩⟩ rfl rfl hl.1 rfl (lv_room (Nat.le_of_ble_eq_true rfl)) dX12_judges_61 ⟨Nat.zero_le _, Nat.zero_le _⟩) hS (fun q _ h => hFc q h) hFc (fun u t H1 locs ht hvm hw hB hz1 hk1 hS => ?_)
      obtain ⟨y_132, f_133, f_134, hB⟩ := hB
      obtain ⟨gy_132, hP1, hD1⟩ := hB
      rw [ht] at hP1
      have hD : va_D A (MWn h0 mr km (mi 0) (mi 1) (mi 2) (mi 3) (mi 4) (mi 5) (mi 6) (mi 7) (mi 10) (mi 17) (mi 23) (mi 24) (mi 26) (mi 27) (mi 28) (mi 29) (mi 30) (mi 31) (mi 32) (mi 33) y_132 (mi 41) (mi 42) (mi 43) (mi 44) (mi 45) (mi 47) (mi 48) (mi 49) (mi 50) (mi 51) (mi 54) (mi 56) fm_trust fm_letter fm_reportPlace fm_reportKind fm_struck fm_reportMonth fm_reportDay fm_reportKnown fm_deedMonth fm_deedDay fm_deedLong fm_deedKind fm_kept fm_tape f_133 f_134 fm_pin fm_ways fm_verdict fm_row fm_official fm_aside fm_worth fm_out) := gz_fullD hFc hD1
      have hP : va_P (dC, dI) vwCl (MWn h0 mr km (mi 0) (mi 1) (mi 2) (mi 3) (mi 4) (mi 5) (mi 6) (mi 7) (mi 10) (mi 17) (mi 23) (mi 24) (mi 26) (mi 27) (mi 28) (mi 29) (mi 30) (mi 31) (mi 32) (mi 33) y_132 (mi 41) (mi 42) (mi 43) (mi 44) (mi 45) (mi 47) (mi 48) (mi 49) (mi 50) (mi 51) (mi 54) (mi 56) fm_trust fm_letter fm_reportPlace fm_reportKind fm_struck fm_reportMonth fm_reportDay fm_reportKnown fm_deedMonth fm_deedDay fm_deedLong fm_deedKind fm_kept fm_tape f_133 f_134 fm_pin fm_ways fm_verdict fm_row fm_official fm_aside fm_worth fm_out) H1 := hP1
      generalize H1 = H at hP hS ⊢
      refine lv_aload_n hx hb dX12_judges_64 rfl (lv_at hl 3 rfl) ?_
      have hFc := gz_fullF hD hS hA
      refine va_calli (va_runV (As := []) (rest := []) ⟨hx, hb, hml, hown, hts⟩ (sX12_counts l dC dI H.size h0 (upd mi 37 y_132) mr km f_133 f_134 fm_pin fm_ways fm_trust fm_letter fm_reportPlace fm_reportKind fm_struck fm_reportMonth fm_reportDay fm_reportKnown fm_deedMonth fm_deedDay fm_deedLong fm_deedKind fm_kept fm_tape fm_verdict fm_row fm_official fm_aside fm_worth fm_out gmi_0 gmi_1 gmi_2 (gi_w g_125 (by decide)) gmi_7 gmi_10 gmi_17 gmi_23 gmi_24 gmi_26 gmi_29 gmi_30 gmi_33 gy_132 gmi_41 gmi_50 gmi_51 gmi_56) (cwV 0 hts (gz_gV mGB_299 mGB_300 mGB_301 mGB_1 mGB_302 goodGB) rfl rfl rfl (by decide +kernel) ⟨Nat.le_of_ble_eq_true rfl, Nat.le_of_ble_eq_true rfl⟩) ⟨bl_W, mw_recv hK hP, fun U hU hW => ⟨rfl, by rw [hU], by rw [hU]; exact hP, va_K.moved hW.alike hK, hD.weaken (fun _ _ _ _ => trivial)⟩⟩ rfl rfl hl.1 rfl (lv_room (Nat.le_of_ble_eq_true rfl)) dX12_judges_65 ⟨Nat.zero_le _, Nat.zero_le _⟩) hS (fun q _ h => hFc q h) hFc (fun r_135 u t H1 locs ht hvm hw hB hz1 hk1 hS => ?_)
      obtain ⟨f_136, hB⟩ := hB
      obtain ⟨hP1, hD1⟩ := hB
      rw [ht] at hP1
      have hD : va_D A (MWn h0 mr km (mi 0) (mi 1) (mi 2) (mi 3) (mi 4) (mi 5) (mi 6) (mi 7) (mi 10) (mi 17) (mi 23) (mi 24) (mi 26) (mi 27) (mi 28) (mi 29) (mi 30) (mi 31) (mi 32) (mi 33) y_132 (mi 41) (mi 42) (mi 43) (mi 44) (mi 45) (mi 47) (mi 48) (mi 49) (mi 50) (mi 51) (mi 54) (mi 56) fm_trust fm_letter fm_reportPlace fm_reportKind fm_struck fm_reportMonth fm_reportDay fm_reportKnown fm_deedMonth fm_deedDay fm_deedLong fm_deedKind fm_kept fm_tape f_133 f_134 fm_pin f_136 fm_verdict fm_row fm_official fm_aside fm_worth fm_out) := gz_fullD hFc hD1
      have hP : va_P (dC, dI) vwCl (MWn h0 mr km (mi 0) (mi 1) (mi 2) (mi 3) (mi 4) (mi 5) (mi 6) (mi 7) (mi 10) (mi 17) (mi 23) (mi 24) (mi 26) (mi 27) (mi 28) (mi 29) (mi 30) (mi 31) (mi 32) (mi 33) y_132 (mi 41) (mi 42) (mi 43) (mi 44) (mi 45) (mi 47) (mi 48) (mi 49) (mi 50) (mi 51) (mi 54) (mi 56) fm_trust fm_letter fm_reportPlace fm_reportKind fm_struck fm_reportMonth fm_reportDay fm_reportKnown fm_deedMonth fm_deedDay fm_deedLong fm_deedKind fm_kept fm_tape f_133 f_134 fm_pin f_136 fm_verdict fm_row fm_official fm_aside fm_worth fm_out) H1 := hP1
      generalize H1 = H at hP hS ⊢
      refine lv_if_le (tgt := 73) hx hb dX12_judges_68 (by decide) (fun c_137 => ?_) (fun c_137 => ?_)
      · have g_138 : gi r_135 (-2147483648) 0 := gi_le_l c_137 (gi_any r_135) (gi_c 0 0 (by decide))
        refine lv_aload_n hx hb dX12_judges_73 rfl (lv_at hl 3 rfl) ?_
        refine va_get (D := (dC, dI)) (ci := 12) (v := .ref (mr 14)) (C := RX12) (T := TX12) (N := 57) hx hb hts (fun w h => List.mem_cons_of_mem _ (jnGB_X12 w h)) hown hK hP 0 rfl rfl 34 (by decide) (hts _ (List.mem_cons_of_mem _ mGB_26)) (fun _ h9 => h9) rfl dX12_judges_74 ?_
        refine lv_iload_n hx hb dX12_judges_77 rfl (lv_at hl 2 rfl) ?_
        refine lv_iload_n hx hb dX12_judges_78 rfl (lv_at hl 1 rfl) ?_
        refine va_iast hx hb hK hP hD hS 15 14 rfl rfl (gi_in gx_128 (by decide)) dX12_judges_79 (fun H locs hP hD hS => ?_)
        have hP : va_P (dC, dI) vwCl (MWn h0 mr km (mi 0) (mi 1) (mi 2) (mi 3) (mi 4) (mi 5) (mi 6) (mi 7) (mi 10) (mi 17) (mi 23) (mi 24) (mi 26) (mi 27) (mi 28) (mi 29) (mi 30) (mi 31) (mi 32) (mi 33) y_132 (mi 41) (mi 42) (mi 43) (mi 44) (mi 45) (mi 47) (mi 48) (mi 49) (mi 50) (mi 51) (mi 54) (mi 56) fm_trust fm_letter fm_reportPlace fm_reportKind fm_struck fm_reportMonth fm_reportDay fm_reportKnown fm_deedMonth fm_deedDay fm_deedLong fm_deedKind fm_kept fm_tape (upd f_133 (x_128 : Int32).toNatClampNeg x_129) f_134 fm_pin f_136 fm_verdict fm_row fm_official fm_aside fm_worth fm_out) H := hP
        have hD : va_D A (MWn h0 mr km (mi 0) (mi 1) (mi 2) (mi 3) (mi 4) (mi 5) (mi 6) (mi 7) (mi 10) (mi 17) (mi 23) (mi 24) (mi 26) (mi 27) (mi 28) (mi 29) (mi 30) (mi 31) (mi 32) (mi 33) y_132 (mi 41) (mi 42) (mi 43) (mi 44) (mi 45) (mi 47) (mi 48) (mi 49) (mi 50) (mi 51) (mi 54) (mi 56) fm_trust fm_letter fm_reportPlace fm_reportKind fm_struck fm_reportMonth fm_reportDay fm_reportKnown fm_deedMonth fm_deedDay fm_deedLong fm_deedKind fm_kept fm_tape (upd f_133 (x_128 : Int32).toNatClampNeg x_129) f_134 fm_pin f_136 fm_verdict fm_row fm_official fm_aside fm_worth fm_out) := hD
        generalize upd f_133 (x_128 : Int32).toNatClampNeg x_129 = f_139 at hP hD
        refine lv_aload_n hx hb dX12_judges_80 rfl (lv_at hl 3 rfl) ?_
        refine va_get (D := (dC, dI)) (ci := 12) (v := .ref (mr 15)) (C := RX12) (T := TX12) (N := 57) hx hb hts (fun w h => List.mem_cons_of_mem _ (jnGB_X12 w h)) hown hK hP 0 rfl rfl 35 (by decide) (hts _ (List.mem_cons_of_mem _ mGB_27)) (fun _ h9 => h9) rfl dX12_judges_81 ?_
        refine lv_iload_n hx hb dX12_judges_84 rfl (lv_at hl 2 rfl) ?_
        refine lv_iload hx hb dX12_judges_85 (lv_at hl 0 rfl) ?_
        refine va_iast hx hb hK hP hD hS 16 15 rfl rfl (gi_in gx_128 (by decide)) dX12_judges_87 (fun H locs hP hD hS => ?_)
        have hP : va_P (dC, dI) vwCl (MWn h0 mr km (mi 0) (mi 1) (mi 2) (mi 3) (mi 4) (mi 5) (mi 6) (mi 7) (mi 10) (mi 17) (mi 23) (mi 24) (mi 26) (mi 27) (mi 28) (mi 29) (mi 30) (mi 31) (mi 32) (mi 33) y_132 (mi 41) (mi 42) (mi 43) (mi 44) (mi 45) (mi 47) (mi 48) (mi 49) (mi 50) (mi 51) (mi 54) (mi 56) fm_trust fm_letter fm_reportPlace fm_reportKind fm_struck fm_reportMonth fm_reportDay fm_reportKnown fm_deedMonth fm_deedDay fm_deedLong fm_deedKind fm_kept fm_tape f_139 (upd f_134 (x_128 : Int32).toNatClampNeg x_130) fm_pin f_136 fm_verdict fm_row fm_official fm_aside fm_worth fm_out) H := hP
        have hD : va_D A (MWn h0 mr km (mi 0) (mi 1) (mi 2) (mi 3) (mi 4) (mi 5) (mi 6) (mi 7) (mi 10) (mi 17) (mi 23) (mi 24) (mi 26) (mi 27) (mi 28) (mi 29) (mi 30) (mi 31) (mi 32) (mi 33) y_132 (mi 41) (mi 42) (mi 43) (mi 44) (mi 45) (mi 47) (mi 48) (mi 49) (mi 50) (mi 51) (mi 54) (mi 56) fm_trust fm_letter fm_reportPlace fm_reportKind fm_struck fm_reportMonth fm_reportDay fm_reportKnown fm_deedMonth fm_deedDay fm_deedLong fm_deedKind fm_kept fm_tape f_139 (upd f_134 (x_128 : Int32).toNatClampNeg x_130) fm_pin f_136 fm_verdict fm_row fm_official fm_aside fm_worth fm_out) := hD
        generalize upd f_134 (x_128 : Int32).toNatClampNeg x_130 = f_140 at hP hD
        refine lv_aload_n hx hb dX12_judges_88 rfl (lv_at hl 3 rfl) ?_
        refine lv_iconst (v := 0) hx hb dX12_judges_89 (by decide) ?_
        refine va_put (D := (dC, dI)) (ci := 12) (v := .int 0) (ty := .boolean) (C := RX12) (T := TX12) (N := 57) hx hb hts (fun w h => List.mem_cons_of_mem _ (jnGB_X12 w h)) tyX12 tyX12_ok nmX12 hown hK hP hD hS 0 rfl rfl 37 (by decide) (hts _ (List.mem_cons_of_mem _ mGB_270)) (fun _ h9 => h9) rfl (by decide +kernel) rfl rfl (Nat.le_of_ble_eq_true rfl) dX12_judges_90 (fun H locs hP hD hS => ?_)
        have hP : va_P (dC, dI) vwCl (MWn h0 mr km (mi 0) (mi 1) (mi 2) (mi 3) (mi 4) (mi 5) (mi 6) (mi 7) (mi 10) (mi 17) (mi 23) (mi 24) (mi 26) (mi 27) (mi 28) (mi 29) (mi 30) (mi 31) (mi 32) (mi 33) 0 (mi 41) (mi 42) (mi 43) (mi 44) (mi 45) (mi 47) (mi 48) (mi 49) (mi 50) (mi 51) (mi 54) (mi 56) fm_trust fm_letter fm_reportPlace fm_reportKind fm_struck fm_reportMonth fm_reportDay fm_reportKnown fm_deedMonth fm_deedDay fm_deedLong fm_deedKind fm_kept fm_tape f_139 f_140 fm_pin f_136 fm_verdict fm_row fm_official fm_aside fm_worth fm_out) H := hP
        have hD : va_D A (MWn h0 mr km (mi 0) (mi 1) (mi 2) (mi 3) (mi 4) (mi 5) (mi 6) (mi 7) (mi 10) (mi 17) (mi 23) (mi 24) (mi 26) (mi 27) (mi 28) (mi 29) (mi 30) (mi 31) (mi 32) (mi 33) 0 (mi 41) (mi 42) (mi 43) (mi 44) (mi 45) (mi 47) (mi 48) (mi 49) (mi 50) (mi 51) (mi 54) (mi 56) fm_trust fm_letter fm_reportPlace fm_reportKind fm_struck fm_reportMonth fm_reportDay fm_reportKnown fm_deedMonth fm_deedDay fm_deedLong fm_deedKind fm_kept fm_tape f_139 f_140 fm_pin f_136 fm_verdict fm_row fm_official fm_aside fm_worth fm_out) := hD
        refine lv_iconst (v := 2) hx hb dX12_judges_93 (by decide) ?_
        exact W.iret (v := 2) hx hb hr (fun t ht hW => ⟨⟨2, (), rfl, (gi_w (gi_c 2 2 (by decide)) (by decide)), 0, f_139, f_140, f_136, (gi_w (gi_c 0 0 (by decide)) (by decide)), by rw [ht]; exact hP, hD⟩, hS.F ht⟩) hS.2.2 dX12_judges_94
      · have g_141 : gi r_135 1 2147483647 := gi_lt_r (Int32.not_le.mp c_137) (gi_c 0 0 (by decide)) (gi_any r_135) (by decide)
        refine lv_iconst (v := 0) hx hb dX12_judges_71 (by decide) ?_
        exact W.iret (v := 0) hx hb hr (fun t ht hW => ⟨⟨0, (), rfl, (gi_w (gi_c 0 0 (by decide)) (by decide)), y_132, f_133, f_134, f_136, gy_132, by rw [ht]; exact hP, hD⟩, hS.F ht⟩) hS.2.2 dX12_judges_72
    · have g_142 : gi x_126 0 0 := gi_eq c_127 (gi_c 0 0 (by decide))
      refine lv_aload_n hx hb dX12_judges_16 rfl (lv_at hl 0 rfl) ?_
      refine va_get (D := (dC, dI)) (ci := 12) (v := .ref (mr 6)) (C := RX12) (T := TX12) (N := 57) hx hb hts (fun w h => List.mem_cons_of_mem _ (jnGB_X12 w h)) hown hK hP 0 rfl rfl 15 (by decide) (hts _ (List.mem_cons_of_mem _ mGB_17)) (fun _ h9 => h9) rfl dX12_judges_17 ?_
      refine lv_iload_n hx hb dX12_judges_20 rfl (lv_at hl 1 rfl) ?_
      refine va_iald hx hb hK hP 7 6 rfl rfl (gi_in gp1 (by decide)) dX12_judges_21 ?_
      refine lv_topi (fun x_143 ex_143 => ?_)
      have gx_143 : gi x_143 0 999 := ga_at gfm_reportDay (gi_in gp1 (by decide)) ex_143
      refine lv_aload_n hx hb dX12_judges_22 rfl (lv_at hl 0 rfl) ?_
      refine lv_aload_n hx hb dX12_judges_23 rfl (lv_at hl 0 rfl) ?_
      refine va_get (D := (dC, dI)) (ci := 12) (v := .ref (mr 5)) (C := RX12) (T := TX12) (N := 57) hx hb hts (fun w h => List.mem_cons_of_mem _ (jnGB_X12 w h)) hown hK hP 0 rfl rfl 14 (by decide) (hts _ (List.mem_cons_of_mem _ mGB_16)) (fun _ h9 => h9) rfl dX12_judges_24 ?_
      refine lv_iload_n hx hb dX12_judges_27 rfl (lv_at hl 1 rfl) ?_
      refine va_iald hx hb hK hP 6 5 rfl rfl (gi_in gp1 (by decide)) dX12_judges_28 ?_
      refine lv_topi (fun x_144 ex_144 => ?_)
      have gx_144 : gi x_144 0 23 := ga_at gfm_reportMonth (gi_in gp1 (by decide)) ex_144
      refine va_calli (va_runV (As := [.int x_144]) (rest := [.int x_143]) ⟨hx, hb, hml, hown, hts⟩ (sX12_earlyOf l dC dI h0 mi mr km fm_trust fm_letter fm_reportPlace fm_reportKind fm_struck fm_reportMonth fm_reportDay fm_reportKnown fm_deedMonth fm_deedDay fm_deedLong fm_deedKind fm_kept fm_tape fm_must fm_least fm_pin fm_ways fm_verdict fm_row fm_official fm_aside fm_worth fm_out x_144 gmi_0 gmi_1 gmi_2 (gi_w g_125 (by decide)) gmi_7 gmi_10 gmi_17 gmi_23 gmi_24 gmi_26 gmi_29 gmi_30 gmi_33 gmi_37 gmi_41 gmi_50 gmi_51 gmi_56) (cwV 1 hts (gz_gV mGB_249 mGB_250 mGB_251 mGB_1 mGB_252 goodGB) rfl rfl rfl (by decide +kernel) ⟨Nat.le_of_ble_eq_true rfl, Nat.le_of_ble_eq_true rfl⟩) ⟨bl_R, mw_recv hK hP, fun U hU hW => ⟨rfl, by rw [hU]; exact hP, va_K.moved hW.alike hK⟩⟩ rfl rfl hl.1 rfl (lv_room (Nat.le_of_ble_eq_true rfl)) dX12_judges_29 ⟨Nat.zero_le _, Nat.zero_le _⟩) hS (fun q _ h => h.elim) (fun q h => h.elim) (fun r_145 u t H1 locs ht hvm hw hB hz1 hk1 hS => ?_)
      obtain ⟨hw, hE⟩ := hw
      have hP := gz_keep hP hk1
      generalize H1 = H at hP hS ⊢
      refine lv_icmp_ge (tgt := 37) hx hb dX12_judges_32 (by decide) (fun c_146 => ?_) (fun c_146 => ?_)
      · have g_147 : gi r_145 (-2147483648) 999 := gi_le_l c_146 (gi_any r_145) gx_143
        refine lv_aload_n hx hb dX12_judges_37 rfl (lv_at hl 0 rfl) ?_
        refine va_get (D := (dC, dI)) (ci := 12) (v := .ref (mr 5)) (C := RX12) (T := TX12) (N := 57) hx hb hts (fun w h => List.mem_cons_of_mem _ (jnGB_X12 w h)) hown hK hP 0 rfl rfl 14 (by decide) (hts _ (List.mem_cons_of_mem _ mGB_16)) (fun _ h9 => h9) rfl dX12_judges_38 ?_
        refine lv_iload_n hx hb dX12_judges_41 rfl (lv_at hl 1 rfl) ?_
        refine va_iald hx hb hK hP 6 5 rfl rfl (gi_in gp1 (by decide)) dX12_judges_42 ?_
        refine lv_topi (fun x_148 ex_148 => ?_)
        have gx_148 : gi x_148 0 23 := ga_at gfm_reportMonth (gi_in gp1 (by decide)) ex_148
        refine lv_istore_n (lv' := [(2, .int x_148), (0, .ref h0), (1, .int p1)]) hx hb dX12_judges_43 rfl hl (by decide) rfl (fun ls hl => ?_)
        refine lv_aload_n hx hb dX12_judges_44 rfl (lv_at hl 1 rfl) ?_
        refine va_get (D := (dC, dI)) (ci := 12) (v := .ref (mr 14)) (C := RX12) (T := TX12) (N := 57) hx hb hts (fun w h => List.mem_cons_of_mem _ (jnGB_X12 w h)) hown hK hP 0 rfl rfl 34 (by decide) (hts _ (List.mem_cons_of_mem _ mGB_26)) (fun _ h9 => h9) rfl dX12_judges_45 ?_
        refine lv_iload_n hx hb dX12_judges_48 rfl (lv_at hl 0 rfl) ?_
        refine va_iald hx hb hK hP 15 14 rfl rfl (gi_in gx_148 (by decide)) dX12_judges_49 ?_
        refine lv_topi (fun x_149 ex_149 => ?_)
        refine lv_istore_n (lv' := [(3, .int x_149), (2, .int x_148), (0, .ref h0), (1, .int p1)]) hx hb dX12_judges_50 rfl hl (by decide) rfl (fun ls hl => ?_)
        refine lv_aload_n hx hb dX12_judges_51 rfl (lv_at hl 2 rfl) ?_
        refine va_get (D := (dC, dI)) (ci := 12) (v := .ref (mr 15)) (C := RX12) (T := TX12) (N := 57) hx hb hts (fun w h => List.mem_cons_of_mem _ (jnGB_X12 w h)) hown hK hP 0 rfl rfl 35 (by decide) (hts _ (List.mem_cons_of_mem _ mGB_27)) (fun _ h9 => h9) rfl dX12_judges_52 ?_
        refine lv_iload_n hx hb dX12_judges_55 rfl (lv_at hl 1 rfl) ?_
        refine va_iald hx hb hK hP 16 15 rfl rfl (gi_in gx_148 (by decide)) dX12_judges_56 ?_
        refine lv_topi (fun x_150 ex_150 => ?_)
        refine lv_istore (lv' := [(4, .int x_150), (3, .int x_149), (2, .int x_148), (0, .ref h0), (1, .int p1)]) hx hb dX12_judges_57 hl (by decide) rfl (fun ls hl => ?_)
        refine lv_aload_n hx hb dX12_judges_59 rfl (lv_at hl 3 rfl) ?_
        refine lv_iload_n hx hb dX12_judges_60 rfl (lv_at hl 4 rfl) ?_
        have hFc := gz_fullF hD hS hA
        refine va_callv (va_runV (As := [.int p1]) (rest := []) ⟨hx, hb, hml, hown, hts⟩ (sX12_holds l dC dI H.size h0 mi mr km fm_reportMonth fm_reportDay fm_reportKind fm_must fm_least fm_trust fm_letter fm_reportPlace fm_struck fm_reportKnown fm_deedMonth fm_deedDay fm_deedLong fm_deedKind fm_kept fm_tape fm_pin fm_ways fm_verdict fm_row fm_official fm_aside fm_worth fm_out p1 gmi_0 gmi_1 gmi_2 (gi_w g_125 (by decide)) gmi_7 gmi_10 gmi_17 gmi_23 gmi_24 gmi_26 gmi_29 gmi_30 gmi_33 gmi_37 gmi_41 gmi_50 gmi_51 gmi_56 gfm_reportMonth gfm_reportDay gp1) (cwV 1 hts (gz_gV mGB_295 mGB_296 mGB_297 mGB_1 mGB_298 goodGB) rfl rfl rfl (by decide +kernel) ⟨Nat.le_of_ble_eq_true rfl, Nat.le_of_ble_eq_true rfl⟩) ⟨bl_W, mw_recv hK hP, fun U hU hW => ⟨rfl, by rw [hU], by rw [hU]; exact hP, va_K.moved hW.alike hK, hD.weaken (fun _ _ _ _ => trivial)⟩⟩ rfl rfl hl.1 rfl (lv_room (Nat.le_of_ble_eq_true rfl)) dX12_judges_61 ⟨Nat.zero_le _, Nat.zero_le _⟩) hS (fun q _ h => hFc q h) hFc (fun u t H1 locs ht hvm hw hB hz1 hk1 hS => ?_)
        obtain ⟨y_152, f_153, f_154, hB⟩ := hB
        obtain ⟨gy_152, hP1, hD1⟩ := hB
        rw [ht] at hP1
        have hD : va_D A (MWn h0 mr km (mi 0) (mi 1) (mi 2) (mi 3) (mi 4) (mi 5) (mi 6) (mi 7) (mi 10) (mi 17) (mi 23) (mi 24) (mi 26) (mi 27) (mi 28) (mi 29) (mi 30) (mi 31) (mi 32) (mi 33) y_152 (mi 41) (mi 42) (mi 43) (mi 44) (mi 45) (mi 47) (mi 48) (mi 49) (mi 50) (mi 51) (mi 54) (mi 56) fm_trust fm_letter fm_reportPlace fm_reportKind fm_struck fm_reportMonth fm_reportDay fm_reportKnown fm_deedMonth fm_deedDay fm_deedLong fm_deedKind fm_kept fm_tape f_153 f_154 fm_pin fm_ways fm_verdict fm_row fm_official fm_aside fm_worth fm_out) := gz_fullD hFc hD1
        have hP : va_P (dC, dI) vwCl (MWn h0 mr km (mi 0) (mi 1) (mi 2) (mi 3) (mi 4) (mi 5) (mi 6) (mi 7) (mi 10) (mi 17) (mi 23) (mi 24) (mi 26) (mi 27) (mi 28) (mi 29) (mi 30) (mi 31) (mi 32) (mi 33) y_152 (mi 41) (mi 42) (mi 43) (mi 44) (mi 45) (mi 47) (mi 48) (mi 49) (mi 50) (mi 51) (mi 54) (mi 56) fm_trust fm_letter fm_reportPlace fm_reportKind fm_struck fm_reportMonth fm_reportDay fm_reportKnown fm_deedMonth fm_deedDay fm_deedLong fm_deedKind fm_kept fm_tape f_153 f_154 fm_pin fm_ways fm_verdict fm_row fm_official fm_aside fm_worth fm_out) H1 := hP1
        generalize H1 = H at hP hS ⊢
        refine lv_aload_n hx hb dX12_judges_64 rfl (lv_at hl 3 rfl) ?_
        have hFc := gz_fullF hD hS hA
        refine va_calli (va_runV (As := []) (rest := []) ⟨hx, hb, hml, hown, hts⟩ (sX12_counts l dC dI H.size h0 (upd mi 37 y_152) mr km f_153 f_154 fm_pin fm_ways fm_trust fm_letter fm_reportPlace fm_reportKind fm_struck fm_reportMonth fm_reportDay fm_reportKnown fm_deedMonth fm_deedDay fm_deedLong fm_deedKind fm_kept fm_tape fm_verdict fm_row fm_official fm_aside fm_worth fm_out gmi_0 gmi_1 gmi_2 (gi_w g_125 (by decide)) gmi_7 gmi_10 gmi_17 gmi_23 gmi_24 gmi_26 gmi_29 gmi_30 gmi_33 gy_152 gmi_41 gmi_50 gmi_51 gmi_56) (cwV 0 hts (gz_gV mGB_299 mGB_300 mGB_301 mGB_1 mGB_302 goodGB) rfl rfl rfl (by decide +kernel) ⟨Nat.le_of_ble_eq_true rfl, Nat.le_of_ble_eq_true rfl⟩) ⟨bl_W, mw_recv hK hP, fun U hU hW => ⟨rfl, by rw [hU], by rw [hU]; exact hP, va_K.moved hW.alike hK, hD.weaken (fun _ _ _ _ => trivial)⟩⟩ rfl rfl hl.1 rfl (lv_room (Nat.le_of_ble_eq_true rfl)) dX12_judges_65 ⟨Nat.zero_le _, Nat.zero_le _⟩) hS (fun q _ h => hFc q h) hFc (fun r_155 u t H1 locs ht hvm hw hB hz1 hk1 hS => ?_)
        obtain ⟨f_156, hB⟩ := hB
        obtain ⟨hP1, hD1⟩ := hB
        rw [ht] at hP1
        have hD : va_D A (MWn h0 mr km (mi 0) (mi 1) (mi 2) (mi 3) (mi 4) (mi 5) (mi 6) (mi 7) (mi 10) (mi 17) (mi 23) (mi 24) (mi 26) (mi 27) (mi 28) (mi 29) (mi 30) (mi 31) (mi 32) (mi 33) y_152 (mi 41) (mi 42) (mi 43) (mi 44) (mi 45) (mi 47) (mi 48) (mi 49) (mi 50) (mi 51) (mi 54) (mi 56) fm_trust fm_letter fm_reportPlace fm_reportKind fm_struck fm_reportMonth fm_reportDay fm_reportKnown fm_deedMonth fm_deedDay fm_deedLong fm_deedKind fm_kept fm_tape f_153 f_154 fm_pin f_156 fm_verdict fm_row fm_official fm_aside fm_worth fm_out) := gz_fullD hFc hD1
        have hP : va_P (dC, dI) vwCl (MWn h0 mr km (mi 0) (mi 1) (mi 2) (mi 3) (mi 4) (mi 5) (mi 6) (mi 7) (mi 10) (mi 17) (mi 23) (mi 24) (mi 26) (mi 27) (mi 28) (mi 29) (mi 30) (mi 31) (mi 32) (mi 33) y_152 (mi 41) (mi 42) (mi 43) (mi 44) (mi 45) (mi 47) (mi 48) (mi 49) (mi 50) (mi 51) (mi 54) (mi 56) fm_trust fm_letter fm_reportPlace fm_reportKind fm_struck fm_reportMonth fm_reportDay fm_reportKnown fm_deedMonth fm_deedDay fm_deedLong fm_deedKind fm_kept fm_tape f_153 f_154 fm_pin f_156 fm_verdict fm_row fm_official fm_aside fm_worth fm_out) H1 := hP1
        generalize H1 = H at hP hS ⊢
        refine lv_if_le (tgt := 73) hx hb dX12_judges_68 (by decide) (fun c_157 => ?_) (fun c_157 => ?_)
        · have g_158 : gi r_155 (-2147483648) 0 := gi_le_l c_157 (gi_any r_155) (gi_c 0 0 (by decide))
          refine lv_aload_n hx hb dX12_judges_73 rfl (lv_at hl 3 rfl) ?_
          refine va_get (D := (dC, dI)) (ci := 12) (v := .ref (mr 14)) (C := RX12) (T := TX12) (N := 57) hx hb hts (fun w h => List.mem_cons_of_mem _ (jnGB_X12 w h)) hown hK hP 0 rfl rfl 34 (by decide) (hts _ (List.mem_cons_of_mem _ mGB_26)) (fun _ h9 => h9) rfl dX12_judges_74 ?_
          refine lv_iload_n hx hb dX12_judges_77 rfl (lv_at hl 2 rfl) ?_
          refine lv_iload_n hx hb dX12_judges_78 rfl (lv_at hl 1 rfl) ?_
          refine va_iast hx hb hK hP hD hS 15 14 rfl rfl (gi_in gx_148 (by decide)) dX12_judges_79 (fun H locs hP hD hS => ?_)
          have hP : va_P (dC, dI) vwCl (MWn h0 mr km (mi 0) (mi 1) (mi 2) (mi 3) (mi 4) (mi 5) (mi 6) (mi 7) (mi 10) (mi 17) (mi 23) (mi 24) (mi 26) (mi 27) (mi 28) (mi 29) (mi 30) (mi 31) (mi 32) (mi 33) y_152 (mi 41) (mi 42) (mi 43) (mi 44) (mi 45) (mi 47) (mi 48) (mi 49) (mi 50) (mi 51) (mi 54) (mi 56) fm_trust fm_letter fm_reportPlace fm_reportKind fm_struck fm_reportMonth fm_reportDay fm_reportKnown fm_deedMonth fm_deedDay fm_deedLong fm_deedKind fm_kept fm_tape (upd f_153 (x_148 : Int32).toNatClampNeg x_149) f_154 fm_pin f_156 fm_verdict fm_row fm_official fm_aside fm_worth fm_out) H := hP
          have hD : va_D A (MWn h0 mr km (mi 0) (mi 1) (mi 2) (mi 3) (mi 4) (mi 5) (mi 6) (mi 7) (mi 10) (mi 17) (mi 23) (mi 24) (mi 26) (mi 27) (mi 28) (mi 29) (mi 30) (mi 31) (mi 32) (mi 33) y_152 (mi 41) (mi 42) (mi 43) (mi 44) (mi 45) (mi 47) (mi 48) (mi 49) (mi 50) (mi 51) (mi 54) (mi 56) fm_trust fm_letter fm_reportPlace fm_reportKind fm_struck fm_reportMonth fm_reportDay fm_reportKnown fm_deedMonth fm_deedDay fm_deedLong fm_deedKind fm_kept fm_tape (upd f_153 (x_148 : Int32).toNatClampNeg x_149) f_154 fm_pin f_156 fm_verdict fm_row fm_official fm_aside fm_worth fm_out) := hD
          generalize upd f_153 (x_148 : Int32).toNatClampNeg x_149 = f_159 at hP hD
          refine lv_aload_n hx hb dX12_judges_80 rfl (lv_at hl 3 rfl) ?_
          refine va_get (D := (dC, dI)) (ci := 12) (v := .ref (mr 15)) (C := RX12) (T := TX12) (N := 57) hx hb hts (fun w h => List.mem_cons_of_mem _ (jnGB_X12 w h)) hown hK hP 0 rfl rfl 35 (by decide) (hts _ (List.mem_cons_of_mem _ mGB_27)) (fun _ h9 => h9) rfl dX12_judges_81 ?_
          refine lv_iload_n hx hb dX12_judges_84 rfl (lv_at hl 2 rfl) ?_
          refine lv_iload hx hb dX12_judges_85 (lv_at hl 0 rfl) ?_
          refine va_iast hx hb hK hP hD hS 16 15 rfl rfl (gi_in gx_148 (by decide)) dX12_judges_87 (fun H locs hP hD hS => ?_)
          have hP : va_P (dC, dI) vwCl (MWn h0 mr km (mi 0) (mi 1) (mi 2) (mi 3) (mi 4) (mi 5) (mi 6) (mi 7) (mi 10) (mi 17) (mi 23) (mi 24) (mi 26) (mi 27) (mi 28) (mi 29) (mi 30) (mi 31) (mi 32) (mi 33) y_152 (mi 41) (mi 42) (mi 43) (mi 44) (mi 45) (mi 47) (mi 48) (mi 49) (mi 50) (mi 51) (mi 54) (mi 56) fm_trust fm_letter fm_reportPlace fm_reportKind fm_struck fm_reportMonth fm_reportDay fm_reportKnown fm_deedMonth fm_deedDay fm_deedLong fm_deedKind fm_kept fm_tape f_159 (upd f_154 (x_148 : Int32).toNatClampNeg x_150) fm_pin f_156 fm_verdict fm_row fm_official fm_aside fm_worth fm_out) H := hP
          have hD : va_D A (MWn h0 mr km (mi 0) (mi 1) (mi 2) (mi 3) (mi 4) (mi 5) (mi 6) (mi 7) (mi 10) (mi 17) (mi 23) (mi 24) (mi 26) (mi 27) (mi 28) (mi 29) (mi 30) (mi 31) (mi 32) (mi 33) y_152 (mi 41) (mi 42) (mi 43) (mi 44) (mi 45) (mi 47) (mi 48) (mi 49) (mi 50) (mi 51) (mi 54) (mi 56) fm_trust fm_letter fm_reportPlace fm_reportKind fm_struck fm_reportMonth fm_reportDay fm_reportKnown fm_deedMonth fm_deedDay fm_deedLong fm_deedKind fm_kept fm_tape f_159 (upd f_154 (x_148 : Int32).toNatClampNeg x_150) fm_pin f_156 fm_verdict fm_row fm_official fm_aside fm_worth fm_out) := hD
          generalize upd f_154 (x_148 : Int32).toNatClampNeg x_150 = f_160 at hP hD
          refine lv_aload_n hx hb dX12_judges_88 rfl (lv_at hl 3 rfl) ?_
          refine lv_iconst (v := 0) hx hb dX12_judges_89 (by decide) ?_
          refine va_put (D := (dC, dI)) (ci := 12) (v := .int 0) (ty := .boolean) (C := RX12) (T := TX12) (N := 57) hx hb hts (fun w h => List.mem_cons_of_mem _ (jnGB_X12 w h)) tyX12 tyX12_ok nmX12 hown hK hP hD hS 0 rfl rfl 37 (by decide) (hts _ (List.mem_cons_of_mem _ mGB_270)) (fun _ h9 => h9) rfl (by decide +kernel) rfl rfl (Nat.le_of_ble_eq_true rfl) dX12_judges_90 (fun H locs hP hD hS => ?_)
          have hP : va_P (dC, dI) vwCl (MWn h0 mr km (mi 0) (mi 1) (mi 2) (mi 3) (mi 4) (mi 5) (mi 6) (mi 7) (mi 10) (mi 17) (mi 23) (mi 24) (mi 26) (mi 27) (mi 28) (mi 29) (mi 30) (mi 31) (mi 32) (mi 33) 0 (mi 41) (mi 42) (mi 43) (mi 44) (mi 45) (mi 47) (mi 48) (mi 49) (mi 50) (mi 51) (mi 54) (mi 56) fm_trust fm_letter fm_reportPlace fm_reportKind fm_struck fm_reportMonth fm_reportDay fm_reportKnown fm_deedMonth fm_deedDay fm_deedLong fm_deedKind fm_kept fm_tape f_159 f_160 fm_pin f_156 fm_verdict fm_row fm_official fm_aside fm_worth fm_out) H := hP
          have hD : va_D A (MWn h0 mr km (mi 0) (mi 1) (mi 2) (mi 3) (mi 4) (mi 5) (mi 6) (mi 7) (mi 10) (mi 17) (mi 23) (mi 24) (mi 26) (mi 27) (mi 28) (mi 29) (mi 30) (mi 31) (mi 32) (mi 33) 0 (mi 41) (mi 42) (mi 43) (mi 44) (mi 45) (mi 47) (mi 48) (mi 49) (mi 50) (mi 51) (mi 54) (mi 56) fm_trust fm_letter fm_reportPlace fm_reportKind fm_struck fm_reportMonth fm_reportDay fm_reportKnown fm_deedMonth fm_deedDay fm_deedLong fm_deedKind fm_kept fm_tape f_159 f_160 fm_pin f_156 fm_verdict fm_row fm_official fm_aside fm_worth fm_out) := hD
          refine lv_iconst (v := 2) hx hb dX12_judges_93 (by decide) ?_
          exact W.iret (v := 2) hx hb hr (fun t ht hW => ⟨⟨2, (), rfl, (gi_w (gi_c 2 2 (by decide)) (by decide)), 0, f_159, f_160, f_156, (gi_w (gi_c 0 0 (by decide)) (by decide)), by rw [ht]; exact hP, hD⟩, hS.F ht⟩) hS.2.2 dX12_judges_94
        · have g_161 : gi r_155 1 2147483647 := gi_lt_r (Int32.not_le.mp c_157) (gi_c 0 0 (by decide)) (gi_any r_155) (by decide)
          refine lv_iconst (v := 0) hx hb dX12_judges_71 (by decide) ?_
          exact W.iret (v := 0) hx hb hr (fun t ht hW => ⟨⟨0, (), rfl, (gi_w (gi_c 0 0 (by decide)) (by decide)), y_152, f_153, f_154, f_156, gy_152, by rw [ht]; exact hP, hD⟩, hS.F ht⟩) hS.2.2 dX12_judges_72
      · have g_162 : gi r_145 1 2147483647 := gi_lt_r (Int32.not_le.mp c_146) gx_143 (gi_any r_145) (by decide)
        refine lv_iconst (v := 1) hx hb dX12_judges_35 (by decide) ?_
        exact W.iret (v := 1) hx hb hr (fun t ht hW => ⟨⟨1, (), rfl, (gi_w (gi_c 1 1 (by decide)) (by decide)), (mi 37), fm_must, fm_least, fm_ways, gmi_37, by rw [ht]; exact hP, hD⟩, hS.F ht⟩) hS.2.2 dX12_judges_36
theorem dX12_judgesAll_0 : decode cX12_judgesAll 0 = .ok (.aload_n 0, 1) := by decide +kernel
theorem dX12_judgesAll_1 : decode cX12_judgesAll 1 = .ok (.invokevirtual 350, 3) := by decide +kernel
theorem dX12_judgesAll_4 : decode cX12_judgesAll 4 = .ok (.aload_n 0, 1) := by decide +kernel
theorem dX12_judgesAll_5 : decode cX12_judgesAll 5 = .ok (.iload_n 1, 1) := by decide +kernel
theorem dX12_judgesAll_6 : decode cX12_judgesAll 6 = .ok (.invokevirtual 353, 3) := by decide +kernel
theorem dX12_judgesAll_9 : decode cX12_judgesAll 9 = .ok (.iconst 0, 1) := by decide +kernel
theorem dX12_judgesAll_10 : decode cX12_judgesAll 10 = .ok (.istore_n 2, 1) := by decide +kernel
theorem dX12_judgesAll_11 : decode cX12_judgesAll 11 = .ok (.iload_n 2, 1) := by decide +kernel
theorem dX12_judgesAll_12 : decode cX12_judgesAll 12 = .ok (.aload_n 0, 1) := by decide +kernel
theorem dX12_judgesAll_13 : decode cX12_judgesAll 13 = .ok (.getfield 338, 3) := by decide +kernel
theorem dX12_judgesAll_16 : decode cX12_judgesAll 16 = .ok (.if_icmp .ge 30, 3) := by decide +kernel
theorem dX12_judgesAll_19 : decode cX12_judgesAll 19 = .ok (.aload_n 0, 1) := by decide +kernel
theorem dX12_judgesAll_20 : decode cX12_judgesAll 20 = .ok (.getfield 69, 3) := by decide +kernel
theorem dX12_judgesAll_23 : decode cX12_judgesAll 23 = .ok (.aload_n 0, 1) := by decide +kernel
theorem dX12_judgesAll_24 : decode cX12_judgesAll 24 = .ok (.getfield 72, 3) := by decide +kernel
theorem dX12_judgesAll_27 : decode cX12_judgesAll 27 = .ok (.iload_n 2, 1) := by decide +kernel
theorem dX12_judgesAll_28 : decode cX12_judgesAll 28 = .ok (.iaload, 1) := by decide +kernel
theorem dX12_judgesAll_29 : decode cX12_judgesAll 29 = .ok (.aload_n 0, 1) := by decide +kernel
theorem dX12_judgesAll_30 : decode cX12_judgesAll 30 = .ok (.aload_n 0, 1) := by decide +kernel
theorem dX12_judgesAll_31 : decode cX12_judgesAll 31 = .ok (.getfield 72, 3) := by decide +kernel
theorem dX12_judgesAll_34 : decode cX12_judgesAll 34 = .ok (.iload_n 2, 1) := by decide +kernel
theorem dX12_judgesAll_35 : decode cX12_judgesAll 35 = .ok (.iaload, 1) := by decide +kernel
theorem dX12_judgesAll_36 : decode cX12_judgesAll 36 = .ok (.invokevirtual 356, 3) := by decide +kernel
theorem dX12_judgesAll_39 : decode cX12_judgesAll 39 = .ok (.iastore, 1) := by decide +kernel
theorem dX12_judgesAll_40 : decode cX12_judgesAll 40 = .ok (.iinc 2 1, 3) := by decide +kernel
theorem dX12_judgesAll_43 : decode cX12_judgesAll 43 = .ok (.goto (-32), 3) := by decide +kernel
theorem dX12_judgesAll_46 : decode cX12_judgesAll 46 = .ok (.return_, 1) := by decide +kernel
set_option maxHeartbeats 4000000 in
set_option maxRecDepth 100000 in
theorem lp_sX12_judgesAll {p : Program} {l : Launch} {e : Env} {R : Room} {s : State} {m : MethodId} {args : Array Value} {below : List Frame} {meth : Method} {c : Code} {Q : State → Prop} {A : Nat → Prop} {cells slots : Nat} {dC : Nat → ClassId} {dI : Nat → Nat → Nat} (h0 : Nat) (mi : Nat → Int32) (mr : Nat → Nat) (km : Nat → ClassId) (fm_must : Nat → Int32) (fm_least : Nat → Int32) (fm_pin : Nat → Int32) (fm_ways : Nat → Int32) (fm_verdict : Nat → Int32) (fm_row : Nat → Int32) (fm_struck : Nat → Int32) (fm_reportKnown : Nat → Int32) (fm_reportPlace : Nat → Int32) (fm_reportMonth : Nat → Int32) (fm_reportDay : Nat → Int32) (fm_reportKind : Nat → Int32) (fm_trust : Nat → Int32) (fm_letter : Nat → Int32) (fm_deedMonth : Nat → Int32) (fm_deedDay : Nat → Int32) (fm_deedLong : Nat → Int32) (fm_deedKind : Nat → Int32) (fm_kept : Nat → Int32) (fm_tape : Nat → Int32) (fm_official : Nat → Int32) (fm_aside : Nat → Int32) (fm_worth : Nat → Int32) (fm_out : Nat → Int32) (p1 : Int32) (gmi_0 : gi (mi 0) 0 24) (gmi_1 : gi (mi 1) 0 5) (gmi_2 : gi (mi 2) 0 5) (gmi_4 : gi (mi 4) 0 1) (gmi_7 : gi (mi 7) 0 6) (gmi_10 : gi (mi 10) 0 24) (gmi_17 : gi (mi 17) 0 8) (gmi_23 : gi (mi 23) 0 300) (gmi_24 : gi (mi 24) 0 1) (gmi_26 : gi (mi 26) 0 1600) (gmi_29 : gi (mi 29) 0 1600) (gmi_30 : gi (mi 30) 0 1600) (gmi_33 : gi (mi 33) 0 1) (gmi_37 : gi (mi 37) 0 1) (gmi_41 : gi (mi 41) 0 24) (gmi_50 : gi (mi 50) 0 1) (gmi_51 : gi (mi 51) 0 1) (gmi_56 : gi (mi 56) 0 80) (gfm_row : ga fm_row 24 0 23) (gfm_struck : ga fm_struck 24 0 1) (gfm_reportKnown : ga fm_reportKnown 24 0 999) (gfm_reportPlace : ga fm_reportPlace 24 0 5) (gfm_reportMonth : ga fm_reportMonth 24 0 23) (gfm_reportDay : ga fm_reportDay 24 0 999) (hx : p.tables.exec = Jvm.exec) (hb : c.code = cX12_judgesAll) (hml : c.maxLocals = 3) (hown : s.vm.findClass RX12 = some m.cls) (hts : ∀ w ∈ ((.code yX12_judgesAll cX12_judgesAll 3 none :: wsGB) : List Cond), w.before args s = true) (hK : va_K (dC, dI) vwCl (MT km) s) (hA : ∀ q : Nat, s.heap.size ≤ q → A q) (hRf : 4 ≤ R.frames) (hRl : 97 ≤ R.locals) (hRc : cells ≤ R.cells) (hRs : slots ≤ R.slots) (kr46 : ∀ (w0_37 : Int32) (w0_41 : Int32) (z1 : Nat → Int32) (z2 : Nat → Int32) (z3 : Nat → Int32) (z4 : Nat → Int32) (z5 : Nat → Int32) (z6 : Nat → Int32) (H : Heap) (locs : List Loc) (ls : Array Slot), gi w0_37 0 1 → gi w0_41 0 24 → ga z6 24 0 23 → va_P (dC, dI) vwCl (MWn h0 mr km (mi 0) (mi 1) (mi 2) (mi 3) (mi 4) (mi 5) (mi 6) (mi 7) (mi 10) (mi 17) (mi 23) (mi 24) (mi 26) (mi 27) (mi 28) (mi 29) (mi 30) (mi 31) (mi 32) (mi 33) w0_37 w0_41 (mi 42) (mi 43) (mi 44) (mi 45) (mi 47) (mi 48) (mi 49) (mi 50) (mi 51) (mi 54) (mi 56) fm_trust fm_letter fm_reportPlace fm_reportKind fm_struck fm_reportMonth fm_reportDay fm_reportKnown fm_deedMonth fm_deedDay fm_deedLong fm_deedKind fm_kept fm_tape z1 z2 z3 z4 z5 z6 fm_official fm_aside fm_worth fm_out) H → va_D A (MWn h0 mr km (mi 0) (mi 1) (mi 2) (mi 3) (mi 4) (mi 5) (mi 6) (mi 7) (mi 10) (mi 17) (mi 23) (mi 24) (mi 26) (mi 27) (mi 28) (mi 29) (mi 30) (mi 31) (mi 32) (mi 33) w0_37 w0_41 (mi 42) (mi 43) (mi 44) (mi 45) (mi 47) (mi 48) (mi 49) (mi 50) (mi 51) (mi 54) (mi 56) fm_trust fm_letter fm_reportPlace fm_reportKind fm_struck fm_reportMonth fm_reportDay fm_reportKnown fm_deedMonth fm_deedDay fm_deedLong fm_deedKind fm_kept fm_tape z1 z2 z3 z4 z5 z6 fm_official fm_aside fm_worth fm_out) → va_S A s.heap H locs → lv_has ls 3 [] → W p l e R s m args below meth c H locs cells slots Q (F0 m 46 ls [])) : ∀ z : Nat, (∀ (v2 : Int32) (w0_37 : Int32) (w0_41 : Int32) (z1 : Nat → Int32) (z2 : Nat → Int32) (z3 : Nat → Int32) (z4 : Nat → Int32) (z5 : Nat → Int32) (z6 : Nat → Int32) (H : Heap) (locs : List Loc) (ls : Array Slot), gi v2 0 24 → gi w0_37 0 1 → gi w0_41 0 24 → ga z6 24 0 23 → 49 + (-2) * v2.toInt < (z : Int) → va_P (dC, dI) vwCl (MWn h0 mr km (mi 0) (mi 1) (mi 2) (mi 3) (mi 4) (mi 5) (mi 6) (mi 7) (mi 10) (mi 17) (mi 23) (mi 24) (mi 26) (mi 27) (mi 28) (mi 29) (mi 30) (mi 31) (mi 32) (mi 33) w0_37 w0_41 (mi 42) (mi 43) (mi 44) (mi 45) (mi 47) (mi 48) (mi 49) (mi 50) (mi 51) (mi 54) (mi 56) fm_trust fm_letter fm_reportPlace fm_reportKind fm_struck fm_reportMonth fm_reportDay fm_reportKnown fm_deedMonth fm_deedDay fm_deedLong fm_deedKind fm_kept fm_tape z1 z2 z3 z4 z5 z6 fm_official fm_aside fm_worth fm_out) H → va_D A (MWn h0 mr km (mi 0) (mi 1) (mi 2) (mi 3) (mi 4) (mi 5) (mi 6) (mi 7) (mi 10) (mi 17) (mi 23) (mi 24) (mi 26) (mi 27) (mi 28) (mi 29) (mi 30) (mi 31) (mi 32) (mi 33) w0_37 w0_41 (mi 42) (mi 43) (mi 44) (mi 45) (mi 47) (mi 48) (mi 49) (mi 50) (mi 51) (mi 54) (mi 56) fm_trust fm_letter fm_reportPlace fm_reportKind fm_struck fm_reportMonth fm_reportDay fm_reportKnown fm_deedMonth fm_deedDay fm_deedLong fm_deedKind fm_kept fm_tape z1 z2 z3 z4 z5 z6 fm_official fm_aside fm_worth fm_out) → va_S A s.heap H locs → lv_has ls 3 [(0, .ref h0), (1, .int p1), (2, .int v2)] → W p l e R s m args below meth c H locs cells slots Q (F0 m 11 ls [])) := by
  intro z
  induction z with
  | zero =>
    intro v2 w0_37 w0_41 z1 z2 z3 z4 z5 z6 H locs ls gv2 gw0_37 gw0_41 gz6 hmu hP hD hS hl
    exact absurd hmu (by have hv21 := gv2.1; have hv22 := gv2.2; omega)
  | succ z ih =>
      intro v2 w0_37 w0_41 z1 z2 z3 z4 z5 z6 H locs ls gv2 gw0_37 gw0_41 gz6 hmu hP hD hS hl
      refine lv_iload_n hx hb dX12_judgesAll_11 rfl (lv_at hl 2 rfl) ?_
      refine lv_aload_n hx hb dX12_judgesAll_12 rfl (lv_at hl 0 rfl) ?_
      refine va_get (D := (dC, dI)) (ci := 12) (v := .int w0_41) (C := RX12) (T := TX12) (N := 57) hx hb hts (fun w h => List.mem_cons_of_mem _ (jnGB_X12 w h)) hown hK hP 0 rfl rfl 41 (by decide) (hts _ (List.mem_cons_of_mem _ mGB_265)) (fun _ h9 => h9) rfl dX12_judgesAll_13 ?_
      refine lv_icmp_ge (tgt := 46) hx hb dX12_judgesAll_16 (by decide) (fun c_316 => ?_) (fun c_316 => ?_)
      · exact kr46 w0_37 w0_41 z1 z2 z3 z4 z5 z6 _ _ _ gw0_37 gw0_41 gz6 hP hD hS (lv_sub hl [] rfl)
      · have g_317 : gi v2 0 23 := gi_lt_l (Int32.not_le.mp c_316) gv2 gw0_41 (by decide)
        have g_318 : gi w0_41 1 24 := gi_lt_r (Int32.not_le.mp c_316) gv2 gw0_41 (by decide)
        refine lv_aload_n hx hb dX12_judgesAll_19 rfl (lv_at hl 0 rfl) ?_
        refine va_get (D := (dC, dI)) (ci := 12) (v := .ref (mr 18)) (C := RX12) (T := TX12) (N := 57) hx hb hts (fun w h => List.mem_cons_of_mem _ (jnGB_X12 w h)) hown hK hP 0 rfl rfl 39 (by decide) (hts _ (List.mem_cons_of_mem _ mGB_30)) (fun _ h9 => h9) rfl dX12_judgesAll_20 ?_
        refine lv_aload_n hx hb dX12_judgesAll_23 rfl (lv_at hl 0 rfl) ?_
        refine va_get (D := (dC, dI)) (ci := 12) (v := .ref (mr 19)) (C := RX12) (T := TX12) (N := 57) hx hb hts (fun w h => List.mem_cons_of_mem _ (jnGB_X12 w h)) hown hK hP 0 rfl rfl 40 (by decide) (hts _ (List.mem_cons_of_mem _ mGB_31)) (fun _ h9 => h9) rfl dX12_judgesAll_24 ?_
        refine lv_iload_n hx hb dX12_judgesAll_27 rfl (lv_at hl 2 rfl) ?_
        refine va_iald hx hb hK hP 20 19 rfl rfl (gi_in g_317 (by decide)) dX12_judgesAll_28 ?_
        refine lv_topi (fun x_319 ex_319 => ?_)
        have gx_319 : gi x_319 0 23 := ga_at gz6 (gi_in g_317 (by decide)) ex_319
        refine lv_aload_n hx hb dX12_judgesAll_29 rfl (lv_at hl 0 rfl) ?_
        refine lv_aload_n hx hb dX12_judgesAll_30 rfl (lv_at hl 0 rfl) ?_
        refine va_get (D := (dC, dI)) (ci := 12) (v := .ref (mr 19)) (C := RX12) (T := TX12) (N := 57) hx hb hts (fun w h => List.mem_cons_of_mem _ (jnGB_X12 w h)) hown hK hP 0 rfl rfl 40 (by decide) (hts _ (List.mem_cons_of_mem _ mGB_31)) (fun _ h9 => h9) rfl dX12_judgesAll_31 ?_
        refine lv_iload_n hx hb dX12_judgesAll_34 rfl (lv_at hl 2 rfl) ?_
        refine va_iald hx hb hK hP 20 19 rfl rfl (gi_in g_317 (by decide)) dX12_judgesAll_35 ?_
        refine lv_topi (fun x_320 ex_320 => ?_)
        have gx_320 : gi x_320 0 23 := ga_at gz6 (gi_in g_317 (by decide)) ex_320
        have hFc := gz_fullF hD hS hA
        refine va_calli (va_runV (As := [.int x_320]) (rest := [.int x_319, .ref (mr 18)]) ⟨hx, hb, hml, hown, hts⟩ (sX12_judges l dC dI H.size h0 (upd (upd mi 37 w0_37) 41 w0_41) mr km z1 z2 z3 z4 fm_reportMonth fm_reportDay fm_reportKind fm_trust fm_letter fm_reportPlace fm_struck fm_reportKnown fm_deedMonth fm_deedDay fm_deedLong fm_deedKind fm_kept fm_tape z5 z6 fm_official fm_aside fm_worth fm_out x_320 gmi_0 gmi_1 gmi_2 gmi_4 gmi_7 gmi_10 gmi_17 gmi_23 gmi_24 gmi_26 gmi_29 gmi_30 gmi_33 gw0_37 (gi_w g_318 (by decide)) gmi_50 gmi_51 gmi_56 gfm_reportMonth gfm_reportDay gx_320) (cwV 1 hts (gz_gV mGB_291 mGB_292 mGB_293 mGB_1 mGB_294 goodGB) rfl rfl rfl (by decide +kernel) ⟨Nat.le_trans (Nat.le_of_ble_eq_true rfl) hRf, Nat.le_trans (Nat.le_of_ble_eq_true rfl) hRl⟩) ⟨bl_W, mw_recv hK hP, fun U hU hW => ⟨rfl, by rw [hU], by rw [hU]; exact hP, va_K.moved hW.alike hK, hD.weaken (fun _ _ _ _ => trivial)⟩⟩ rfl rfl hl.1 rfl (lv_room (Nat.le_of_ble_eq_true rfl)) dX12_judgesAll_36 ⟨hRc, hRs⟩) hS (fun q _ h => hFc q h) hFc (fun r_321 u t H1 locs ht hvm hw hB hz1 hk1 hS => ?_)
        obtain ⟨y_322, f_323, f_324, f_325, hB⟩ := hB
        obtain ⟨gy_322, hP1, hD1⟩ := hB
        rw [ht] at hP1
        have hD : va_D A (MWn h0 mr km (mi 0) (mi 1) (mi 2) (mi 3) (mi 4) (mi 5) (mi 6) (mi 7) (mi 10) (mi 17) (mi 23) (mi 24) (mi 26) (mi 27) (mi 28) (mi 29) (mi 30) (mi 31) (mi 32) (mi 33) y_322 w0_41 (mi 42) (mi 43) (mi 44) (mi 45) (mi 47) (mi 48) (mi 49) (mi 50) (mi 51) (mi 54) (mi 56) fm_trust fm_letter fm_reportPlace fm_reportKind fm_struck fm_reportMonth fm_reportDay fm_reportKnown fm_deedMonth fm_deedDay fm_deedLong fm_deedKind fm_kept fm_tape f_323 f_324 z3 f_325 z5 z6 fm_official fm_aside fm_worth fm_out) := gz_fullD hFc hD1
        have hP : va_P (dC, dI) vwCl (MWn h0 mr km (mi 0) (mi 1) (mi 2) (mi 3) (mi 4) (mi 5) (mi 6) (mi 7) (mi 10) (mi 17) (mi 23) (mi 24) (mi 26) (mi 27) (mi 28) (mi 29) (mi 30) (mi 31) (mi 32) (mi 33) y_322 w0_41 (mi 42) (mi 43) (mi 44) (mi 45) (mi 47) (mi 48) (mi 49) (mi 50) (mi 51) (mi 54) (mi 56) fm_trust fm_letter fm_reportPlace fm_reportKind fm_struck fm_reportMonth fm_reportDay fm_reportKnown fm_deedMonth fm_deedDay fm_deedLong fm_deedKind fm_kept fm_tape f_323 f_324 z3 f_325 z5 z6 fm_official fm_aside fm_worth fm_out) H1 := hP1
        generalize H1 = H at hP hS ⊢
        have gr_321 : gi r_321 0 2 := hw
        refine va_iast hx hb hK hP hD hS 19 18 rfl rfl (gi_in gx_319 (by decide)) dX12_judgesAll_39 (fun H locs hP hD hS => ?_)
        have hP : va_P (dC, dI) vwCl (MWn h0 mr km (mi 0) (mi 1) (mi 2) (mi 3) (mi 4) (mi 5) (mi 6) (mi 7) (mi 10) (mi 17) (mi 23) (mi 24) (mi 26) (mi 27) (mi 28) (mi 29) (mi 30) (mi 31) (mi 32) (mi 33) y_322 w0_41 (mi 42) (mi 43) (mi 44) (mi 45) (mi 47) (mi 48) (mi 49) (mi 50) (mi 51) (mi 54) (mi 56) fm_trust fm_letter fm_reportPlace fm_reportKind fm_struck fm_reportMonth fm_reportDay fm_reportKnown fm_deedMonth fm_deedDay fm_deedLong fm_deedKind fm_kept fm_tape f_323 f_324 z3 f_325 (upd z5 (x_319 : Int32).toNatClampNeg r_321) z6 fm_official fm_aside fm_worth fm_out) H := hP
        have hD : va_D A (MWn h0 mr km (mi 0) (mi 1) (mi 2) (mi 3) (mi 4) (mi 5) (mi 6) (mi 7) (mi 10) (mi 17) (mi 23) (mi 24) (mi 26) (mi 27) (mi 28) (mi 29) (mi 30) (mi 31) (mi 32) (mi 33) y_322 w0_41 (mi 42) (mi 43) (mi 44) (mi 45) (mi 47) (mi 48) (mi 49) (mi 50) (mi 51) (mi 54) (mi 56) fm_trust fm_letter fm_reportPlace fm_reportKind fm_struck fm_reportMonth fm_reportDay fm_reportKnown fm_deedMonth fm_deedDay fm_deedLong fm_deedKind fm_kept fm_tape f_323 f_324 z3 f_325 (upd z5 (x_319 : Int32).toNatClampNeg r_321) z6 fm_official fm_aside fm_worth fm_out) := hD
        generalize upd z5 (x_319 : Int32).toNatClampNeg r_321 = f_326 at hP hD
        obtain ⟨x_327, ex_327⟩ : ∃ y : Int32, y = v2 + 1 := ⟨_, rfl⟩
        have gx_327 : gi x_327 1 24 := gi_add ex_327 g_317 (gi_c 1 1 (by decide)) (by decide)
        refine lv_iinc (v := x_327) (lv' := [(2, .int x_327), (0, .ref h0), (1, .int p1)]) hx hb dX12_judgesAll_40 hl (k := 2) rfl (by rw [ex_327]; rfl) (by decide) rfl (fun ls hl => ?_)
        refine lv_goto (tgt := 11) hx hb dX12_judgesAll_43 (by decide) ?_
        exact ih x_327 y_322 w0_41 f_323 f_324 z3 f_325 f_326 z6 _ _ _ (gi_w gx_327 (by decide)) gy_322 (gi_w g_318 (by decide)) gz6 (by have av2 := gv2.1; have bv2 := gv2.2; have qgx_327 := gx_327.1; have rgx_327 := gx_327.2; have igx_327 : x_327.toInt = v2.toInt + 1 := (by have hc1 : (1 : Int32).toInt = 1 := (by decide); have h9 := gi_addI ex_327 (by have h1 := g_317.1; have h2 := (gi_c 1 1 (by decide)).1; have h3 := g_317.2; have h4 := (gi_c 1 1 (by decide)).2; omega) (by have h1 := g_317.1; have h2 := (gi_c 1 1 (by decide)).1; have h3 := g_317.2; have h4 := (gi_c 1 1 (by decide)).2; omega); rw [hc1] at h9; exact h9); have qgv2 := g_317.1; have rgv2 := g_317.2; omega) hP hD hS (lv_sub hl [1, 2, 0] rfl)
abbrev pb_sX12_judgesAll (dC : Nat → ClassId) (dI : Nat → Nat → Nat) (A9 : Nat → Prop) (h0 : Nat) (mi : Nat → Int32) (mr : Nat → Nat) (km : Nat → ClassId) (fm_must : Nat → Int32) (fm_least : Nat → Int32) (fm_pin : Nat → Int32) (fm_ways : Nat → Int32) (fm_verdict : Nat → Int32) (fm_row : Nat → Int32) (fm_struck : Nat → Int32) (fm_reportKnown : Nat → Int32) (fm_reportPlace : Nat → Int32) (fm_reportMonth : Nat → Int32) (fm_reportDay : Nat → Int32) (fm_reportKind : Nat → Int32) (fm_trust : Nat → Int32) (fm_letter : Nat → Int32) (fm_deedMonth : Nat → Int32) (fm_deedDay : Nat → Int32) (fm_deedLong : Nat → Int32) (fm_deedKind : Nat → Int32) (fm_kept : Nat → Int32) (fm_tape : Nat → Int32) (fm_official : Nat → Int32) (fm_aside : Nat → Int32) (fm_worth : Nat → Int32) (fm_out : Nat → Int32) (p1 : Int32) (w0_37 : Int32) (w0_41 : Int32) (z1 : Nat → Int32) (z2 : Nat → Int32) (z3 : Nat → Int32) (z4 : Nat → Int32) (z5 : Nat → Int32) (z6 : Nat → Int32) (t : State) : Prop := gi w0_37 0 1 ∧ gi w0_41 0 24 ∧ ga z6 24 0 23 ∧ va_P (dC, dI) vwCl (MWn h0 mr km (mi 0) (mi 1) (mi 2) (mi 3) (mi 4) (mi 5) (mi 6) (mi 7) (mi 10) (mi 17) (mi 23) (mi 24) (mi 26) (mi 27) (mi 28) (mi 29) (mi 30) (mi 31) (mi 32) (mi 33) w0_37 w0_41 (mi 42) (mi 43) (mi 44) (mi 45) (mi 47) (mi 48) (mi 49) (mi 50) (mi 51) (mi 54) (mi 56) fm_trust fm_letter fm_reportPlace fm_reportKind fm_struck fm_reportMonth fm_reportDay fm_reportKnown fm_deedMonth fm_deedDay fm_deedLong fm_deedKind fm_kept fm_tape z1 z2 z3 z4 z5 z6 fm_official fm_aside fm_worth fm_out) t.heap ∧ va_D A9 (MWn h0 mr km (mi 0) (mi 1) (mi 2) (mi 3) (mi 4) (mi 5) (mi 6) (mi 7) (mi 10) (mi 17) (mi 23) (mi 24) (mi 26) (mi 27) (mi 28) (mi 29) (mi 30) (mi 31) (mi 32) (mi 33) w0_37 w0_41 (mi 42) (mi 43) (mi 44) (mi 45) (mi 47) (mi 48) (mi 49) (mi 50) (mi 51) (mi 54) (mi 56) fm_trust fm_letter fm_reportPlace fm_reportKind fm_struck fm_reportMonth fm_reportDay fm_reportKnown fm_deedMonth fm_deedDay fm_deedLong fm_deedKind fm_kept fm_tape z1 z2 z3 z4 z5 z6 fm_official fm_aside fm_worth fm_out)
set_option maxHeartbeats 4000000 in
set_option maxRecDepth 100000 in
theorem sX12_judgesAll (l : Launch) (dC : Nat → ClassId) (dI : Nat → Nat → Nat) (sz : Nat) (h0 : Nat) (mi : Nat → Int32) (mr : Nat → Nat) (km : Nat → ClassId) (fm_must : Nat → Int32) (fm_least : Nat → Int32) (fm_pin : Nat → Int32) (fm_ways : Nat → Int32) (fm_verdict : Nat → Int32) (fm_row : Nat → Int32) (fm_struck : Nat → Int32) (fm_reportKnown : Nat → Int32) (fm_reportPlace : Nat → Int32) (fm_reportMonth : Nat → Int32) (fm_reportDay : Nat → Int32) (fm_reportKind : Nat → Int32) (fm_trust : Nat → Int32) (fm_letter : Nat → Int32) (fm_deedMonth : Nat → Int32) (fm_deedDay : Nat → Int32) (fm_deedLong : Nat → Int32) (fm_deedKind : Nat → Int32) (fm_kept : Nat → Int32) (fm_tape : Nat → Int32) (fm_official : Nat → Int32) (fm_aside : Nat → Int32) (fm_worth : Nat → Int32) (fm_out : Nat → Int32) (p1 : Int32) (gmi_0 : gi (mi 0) 0 24) (gmi_1 : gi (mi 1) 0 5) (gmi_2 : gi (mi 2) 0 5) (gmi_4 : gi (mi 4) 0 1) (gmi_7 : gi (mi 7) 0 6) (gmi_10 : gi (mi 10) 0 24) (gmi_17 : gi (mi 17) 0 8) (gmi_23 : gi (mi 23) 0 300) (gmi_24 : gi (mi 24) 0 1) (gmi_26 : gi (mi 26) 0 1600) (gmi_29 : gi (mi 29) 0 1600) (gmi_30 : gi (mi 30) 0 1600) (gmi_33 : gi (mi 33) 0 1) (gmi_37 : gi (mi 37) 0 1) (gmi_41 : gi (mi 41) 0 24) (gmi_50 : gi (mi 50) 0 1) (gmi_51 : gi (mi 51) 0 1) (gmi_56 : gi (mi 56) 0 80) (gfm_row : ga fm_row 24 0 23) (gfm_struck : ga fm_struck 24 0 1) (gfm_reportKnown : ga fm_reportKnown 24 0 999) (gfm_reportPlace : ga fm_reportPlace 24 0 5) (gfm_reportMonth : ga fm_reportMonth 24 0 23) (gfm_reportDay : ga fm_reportDay 24 0 999) : Met l yX12_judgesAll (.code yX12_judgesAll cX12_judgesAll 3 none :: wsGB) ({ frames := 4, cells := 0, slots := 0, locals := 97 }) (va_Pc [.ref h0, .int p1] (fun U => U.heap.size = sz ∧ va_P (dC, dI) vwCl (MWn h0 mr km (mi 0) (mi 1) (mi 2) (mi 3) (mi 4) (mi 5) (mi 6) (mi 7) (mi 10) (mi 17) (mi 23) (mi 24) (mi 26) (mi 27) (mi 28) (mi 29) (mi 30) (mi 31) (mi 32) (mi 33) (mi 37) (mi 41) (mi 42) (mi 43) (mi 44) (mi 45) (mi 47) (mi 48) (mi 49) (mi 50) (mi 51) (mi 54) (mi 56) fm_trust fm_letter fm_reportPlace fm_reportKind fm_struck fm_reportMonth fm_reportDay fm_reportKnown fm_deedMonth fm_deedDay fm_deedLong fm_deedKind fm_kept fm_tape fm_must fm_least fm_pin fm_ways fm_verdict fm_row fm_official fm_aside fm_worth fm_out) U.heap ∧ va_K (dC, dI) vwCl (MT km) U ∧ va_D (fun _ => True) (MWn h0 mr km (mi 0) (mi 1) (mi 2) (mi 3) (mi 4) (mi 5) (mi 6) (mi 7) (mi 10) (mi 17) (mi 23) (mi 24) (mi 26) (mi 27) (mi 28) (mi 29) (mi 30) (mi 31) (mi 32) (mi 33) (mi 37) (mi 41) (mi 42) (mi 43) (mi 44) (mi 45) (mi 47) (mi 48) (mi 49) (mi 50) (mi 51) (mi 54) (mi 56) fm_trust fm_letter fm_reportPlace fm_reportKind fm_struck fm_reportMonth fm_reportDay fm_reportKnown fm_deedMonth fm_deedDay fm_deedLong fm_deedKind fm_kept fm_tape fm_must fm_least fm_pin fm_ways fm_verdict fm_row fm_official fm_aside fm_worth fm_out))) (va_Qv (fun (u : Unit) => True) (fun _ t => ∃ (w0_37 : Int32) (w0_41 : Int32) (z1 : Nat → Int32) (z2 : Nat → Int32) (z3 : Nat → Int32) (z4 : Nat → Int32) (z5 : Nat → Int32) (z6 : Nat → Int32), pb_sX12_judgesAll dC dI (va_A (MWn h0 mr km (mi 0) (mi 1) (mi 2) (mi 3) (mi 4) (mi 5) (mi 6) (mi 7) (mi 10) (mi 17) (mi 23) (mi 24) (mi 26) (mi 27) (mi 28) (mi 29) (mi 30) (mi 31) (mi 32) (mi 33) (mi 37) (mi 41) (mi 42) (mi 43) (mi 44) (mi 45) (mi 47) (mi 48) (mi 49) (mi 50) (mi 51) (mi 54) (mi 56) fm_trust fm_letter fm_reportPlace fm_reportKind fm_struck fm_reportMonth fm_reportDay fm_reportKnown fm_deedMonth fm_deedDay fm_deedLong fm_deedKind fm_kept fm_tape fm_must fm_least fm_pin fm_ways fm_verdict fm_row fm_official fm_aside fm_worth fm_out) sz) h0 mi mr km fm_must fm_least fm_pin fm_ways fm_verdict fm_row fm_struck fm_reportKnown fm_reportPlace fm_reportMonth fm_reportDay fm_reportKind fm_trust fm_letter fm_deedMonth fm_deedDay fm_deedLong fm_deedKind fm_kept fm_tape fm_official fm_aside fm_worth fm_out p1 w0_37 w0_41 z1 z2 z3 z4 z5 z6 t) (va_A (MWn h0 mr km (mi 0) (mi 1) (mi 2) (mi 3) (mi 4) (mi 5) (mi 6) (mi 7) (mi 10) (mi 17) (mi 23) (mi 24) (mi 26) (mi 27) (mi 28) (mi 29) (mi 30) (mi 31) (mi 32) (mi 33) (mi 37) (mi 41) (mi 42) (mi 43) (mi 44) (mi 45) (mi 47) (mi 48) (mi 49) (mi 50) (mi 51) (mi 54) (mi 56) fm_trust fm_letter fm_reportPlace fm_reportKind fm_struck fm_reportMonth fm_reportDay fm_reportKnown fm_deedMonth fm_deedDay fm_deedLong fm_deedKind fm_kept fm_tape fm_must fm_least fm_pin fm_ways fm_verdict fm_row fm_official fm_aside fm_worth fm_out) sz)) 0 0 (va_A (MWn h0 mr km (mi 0) (mi 1) (mi 2) (mi 3) (mi 4) (mi 5) (mi 6) (mi 7) (mi 10) (mi 17) (mi 23) (mi 24) (mi 26) (mi 27) (mi 28) (mi 29) (mi 30) (mi 31) (mi 32) (mi 33) (mi 37) (mi 41) (mi 42) (mi 43) (mi 44) (mi 45) (mi 47) (mi 48) (mi 49) (mi 50) (mi 51) (mi 54) (mi 56) fm_trust fm_letter fm_reportPlace fm_reportKind fm_struck fm_reportMonth fm_reportDay fm_reportKnown fm_deedMonth fm_deedDay fm_deedLong fm_deedKind fm_kept fm_tape fm_must fm_least fm_pin fm_ways fm_verdict fm_row fm_official fm_aside fm_worth fm_out) sz) := by
  refine Met.ofW (cc := cX12_judgesAll) (maxL := 3) (ret := none) (by decide) rfl ?_
  intro p e s m args below meth c s₁ B hml hv
  obtain ⟨rfl, hsz, hP, hK, hD0⟩ := hv
  have hx := B.exec
  have hb := B.bytes
  have hr := B.returns
  have hts := atoms_spec (ws := (.code yX12_judgesAll cX12_judgesAll 3 none :: wsGB)) B.pre
  have hown : s.vm.findClass RX12 = some m.cls := findClass_of_methodNamed B.named
  have hlocks := B.notSynchronized
  subst hsz
  have hD := hD0.self (sz := s.heap.size)
  generalize hAe : va_A (MWn h0 mr km (mi 0) (mi 1) (mi 2) (mi 3) (mi 4) (mi 5) (mi 6) (mi 7) (mi 10) (mi 17) (mi 23) (mi 24) (mi 26) (mi 27) (mi 28) (mi 29) (mi 30) (mi 31) (mi 32) (mi 33) (mi 37) (mi 41) (mi 42) (mi 43) (mi 44) (mi 45) (mi 47) (mi 48) (mi 49) (mi 50) (mi 51) (mi 54) (mi 56) fm_trust fm_letter fm_reportPlace fm_reportKind fm_struck fm_reportMonth fm_reportDay fm_reportKnown fm_deedMonth fm_deedDay fm_deedLong fm_deedKind fm_kept fm_tape fm_must fm_least fm_pin fm_ways fm_verdict fm_row fm_official fm_aside fm_worth fm_out) s.heap.size = A at hD ⊢
  have hA : ∀ q : Nat, s.heap.size ≤ q → A q := fun q h => by rw [← hAe]; exact Or.inr h
  have hS : va_S A s.heap s.heap [] := va_S.rf
  have hl := lv_entry ([.ref h0, .int p1]) (n := 3) (Nat.le_of_ble_eq_true rfl)
  rw [lg_entry_eq]
  generalize (lg_sl ([.ref h0, .int p1]) ++ List.replicate (3 - (lg_sl ([.ref h0, .int p1])).length) Slot.unset).toArray = ls at hl ⊢
  have hl : lv_has ls 3 [(0, .ref h0), (1, .int p1)] := hl
  refine lv_aload_n hx hb dX12_judgesAll_0 rfl (lv_at hl 0 rfl) ?_
  have hFc := gz_fullF hD hS hA
  refine va_callv (va_runV (As := []) (rest := []) ⟨hx, hb, hml, hown, hts⟩ (sX12_frees l dC dI s.heap.size h0 mi mr km fm_must fm_least fm_pin fm_trust fm_letter fm_reportPlace fm_reportKind fm_struck fm_reportMonth fm_reportDay fm_reportKnown fm_deedMonth fm_deedDay fm_deedLong fm_deedKind fm_kept fm_tape fm_ways fm_verdict fm_row fm_official fm_aside fm_worth fm_out gmi_0 gmi_1 gmi_2 gmi_4 gmi_7 gmi_10 gmi_17 gmi_23 gmi_24 gmi_26 gmi_29 gmi_30 gmi_33 gmi_37 gmi_41 gmi_50 gmi_51 gmi_56) (cwV 0 hts (gz_gV mGB_266 mGB_267 mGB_268 mGB_1 mGB_269 goodGB) rfl rfl rfl (by decide +kernel) ⟨Nat.le_of_ble_eq_true rfl, Nat.le_of_ble_eq_true rfl⟩) ⟨bl_W, mw_recv hK hP, fun U hU hW => ⟨rfl, by rw [hU], by rw [hU]; exact hP, va_K.moved hW.alike hK, hD.weaken (fun _ _ _ _ => trivial)⟩⟩ rfl rfl hl.1 rfl (lv_room (Nat.le_of_ble_eq_true rfl)) dX12_judgesAll_1 ⟨Nat.zero_le _, Nat.zero_le _⟩) hS (fun q _ h => hFc q h) hFc (fun u t H1 locs ht hvm hw hB hz1 hk1 hS => ?_)
  obtain ⟨y_329, f_330, f_331, f_332, hB⟩ := hB
  obtain ⟨gy_329, hP1, hD1⟩ := hB
  rw [ht] at hP1
  have hD : va_D A (MWn h0 mr km (mi 0) (mi 1) (mi 2) (mi 3) (mi 4) (mi 5) (mi 6) (mi 7) (mi 10) (mi 17) (mi 23) (mi 24) (mi 26) (mi 27) (mi 28) (mi 29) (mi 30) (mi 31) (mi 32) (mi 33) y_329 (mi 41) (mi 42) (mi 43) (mi 44) (mi 45) (mi 47) (mi 48) (mi 49) (mi 50) (mi 51) (mi 54) (mi 56) fm_trust fm_letter fm_reportPlace fm_reportKind fm_struck fm_reportMonth fm_reportDay fm_reportKnown fm_deedMonth fm_deedDay fm_deedLong fm_deedKind fm_kept fm_tape f_330 f_331 f_332 fm_ways fm_verdict fm_row fm_official fm_aside fm_worth fm_out) := gz_fullD hFc hD1
  have hP : va_P (dC, dI) vwCl (MWn h0 mr km (mi 0) (mi 1) (mi 2) (mi 3) (mi 4) (mi 5) (mi 6) (mi 7) (mi 10) (mi 17) (mi 23) (mi 24) (mi 26) (mi 27) (mi 28) (mi 29) (mi 30) (mi 31) (mi 32) (mi 33) y_329 (mi 41) (mi 42) (mi 43) (mi 44) (mi 45) (mi 47) (mi 48) (mi 49) (mi 50) (mi 51) (mi 54) (mi 56) fm_trust fm_letter fm_reportPlace fm_reportKind fm_struck fm_reportMonth fm_reportDay fm_reportKnown fm_deedMonth fm_deedDay fm_deedLong fm_deedKind fm_kept fm_tape f_330 f_331 f_332 fm_ways fm_verdict fm_row fm_official fm_aside fm_worth fm_out) H1 := hP1
  generalize H1 = H at hP hS ⊢
  refine lv_aload_n hx hb dX12_judgesAll_4 rfl (lv_at hl 0 rfl) ?_
  refine lv_iload_n hx hb dX12_judgesAll_5 rfl (lv_at hl 1 rfl) ?_
  have hFc := gz_fullF hD hS hA
  refine va_callv (va_runV (As := [.int p1]) (rest := []) ⟨hx, hb, hml, hown, hts⟩ (sX12_laysRow l dC dI H.size h0 (upd mi 37 y_329) mr km fm_verdict fm_row fm_struck fm_reportKnown fm_reportPlace fm_reportMonth fm_reportDay fm_reportKind fm_trust fm_letter fm_deedMonth fm_deedDay fm_deedLong fm_deedKind fm_kept fm_tape f_330 f_331 f_332 fm_ways fm_official fm_aside fm_worth fm_out p1 gmi_0 gmi_1 gmi_2 gmi_4 gmi_7 gmi_10 gmi_17 gmi_23 gmi_24 gmi_26 gmi_29 gmi_30 gmi_33 gy_329 gmi_41 gmi_50 gmi_51 gmi_56 gfm_row gfm_struck gfm_reportKnown gfm_reportPlace gfm_reportMonth gfm_reportDay) (cwV 1 hts (gz_gV mGB_275 mGB_276 mGB_277 mGB_1 mGB_278 goodGB) rfl rfl rfl (by decide +kernel) ⟨Nat.le_of_ble_eq_true rfl, Nat.le_of_ble_eq_true rfl⟩) ⟨bl_W, mw_recv hK hP, fun U hU hW => ⟨rfl, by rw [hU], by rw [hU]; exact hP, va_K.moved hW.alike hK, hD.weaken (fun _ _ _ _ => trivial)⟩⟩ rfl rfl hl.1 rfl (lv_room (Nat.le_of_ble_eq_true rfl)) dX12_judgesAll_6 ⟨Nat.zero_le _, Nat.zero_le _⟩) hS (fun q _ h => hFc q h) hFc (fun u t H1 locs ht hvm hw hB hz1 hk1 hS => ?_)
  obtain ⟨y_334, f_335, f_336, hB⟩ := hB
  obtain ⟨gy_334, gf_336, hP1, hD1⟩ := hB
  rw [ht] at hP1
  have hD : va_D A (MWn h0 mr km (mi 0) (mi 1) (mi 2) (mi 3) (mi 4) (mi 5) (mi 6) (mi 7) (mi 10) (mi 17) (mi 23) (mi 24) (mi 26) (mi 27) (mi 28) (mi 29) (mi 30) (mi 31) (mi 32) (mi 33) y_329 y_334 (mi 42) (mi 43) (mi 44) (mi 45) (mi 47) (mi 48) (mi 49) (mi 50) (mi 51) (mi 54) (mi 56) fm_trust fm_letter fm_reportPlace fm_reportKind fm_struck fm_reportMonth fm_reportDay fm_reportKnown fm_deedMonth fm_deedDay fm_deedLong fm_deedKind fm_kept fm_tape f_330 f_331 f_332 fm_ways f_335 f_336 fm_official fm_aside fm_worth fm_out) := gz_fullD hFc hD1
  have hP : va_P (dC, dI) vwCl (MWn h0 mr km (mi 0) (mi 1) (mi 2) (mi 3) (mi 4) (mi 5) (mi 6) (mi 7) (mi 10) (mi 17) (mi 23) (mi 24) (mi 26) (mi 27) (mi 28) (mi 29) (mi 30) (mi 31) (mi 32) (mi 33) y_329 y_334 (mi 42) (mi 43) (mi 44) (mi 45) (mi 47) (mi 48) (mi 49) (mi 50) (mi 51) (mi 54) (mi 56) fm_trust fm_letter fm_reportPlace fm_reportKind fm_struck fm_reportMonth fm_reportDay fm_reportKnown fm_deedMonth fm_deedDay fm_deedLong fm_deedKind fm_kept fm_tape f_330 f_331 f_332 fm_ways f_335 f_336 fm_official fm_aside fm_worth fm_out) H1 := hP1
  generalize H1 = H at hP hS ⊢
  refine lv_iconst (v := 0) hx hb dX12_judgesAll_9 (by decide) ?_
  refine lv_istore_n (lv' := [(2, .int 0), (0, .ref h0), (1, .int p1)]) hx hb dX12_judgesAll_10 rfl hl (by decide) rfl (fun ls hl => ?_)
  refine (lp_sX12_judgesAll h0 mi mr km fm_must fm_least fm_pin fm_ways fm_verdict fm_row fm_struck fm_reportKnown fm_reportPlace fm_reportMonth fm_reportDay fm_reportKind fm_trust fm_letter fm_deedMonth fm_deedDay fm_deedLong fm_deedKind fm_kept fm_tape fm_official fm_aside fm_worth fm_out p1 gmi_0 gmi_1 gmi_2 gmi_4 gmi_7 gmi_10 gmi_17 gmi_23 gmi_24 gmi_26 gmi_29 gmi_30 gmi_33 gmi_37 gmi_41 gmi_50 gmi_51 gmi_56 gfm_row gfm_struck gfm_reportKnown gfm_reportPlace gfm_reportMonth gfm_reportDay hx hb hml hown hts hK hA (Nat.le_of_ble_eq_true rfl) (Nat.le_of_ble_eq_true rfl) (Nat.zero_le _) (Nat.zero_le _) (fun w0_37 w0_41 z1 z2 z3 z4 z5 z6 H locs ls gw0_37 gw0_41 gz6 hP hD hS hl => ?_) 62) 0 y_329 y_334 f_330 f_331 f_332 fm_ways f_335 f_336 _ _ _ (gi_w (gi_c 0 0 (by decide)) (by decide)) gy_329 gy_334 gf_336 (by have k0 : (0 : Int32).toInt = 0 := (by decide); omega) hP hD hS (lv_sub hl [1, 2, 0] rfl)
  · skip
    exact W.vret hx hb hr (fun t ht hW => ⟨⟨(), rfl, trivial, w0_37, w0_41, z1, z2, z3, z4, z5, z6, gw0_37, gw0_41, gz6, by rw [ht]; exact hP, hD⟩, hS.F ht⟩) hS.2.2 dX12_judgesAll_46
theorem dX12_judged_0 : decode cX12_judged 0 = .ok (.aload_n 0, 1) := by decide +kernel
theorem dX12_judged_1 : decode cX12_judged 1 = .ok (.iload_n 1, 1) := by decide +kernel
theorem dX12_judged_2 : decode cX12_judged 2 = .ok (.invokevirtual 359, 3) := by decide +kernel
theorem dX12_judged_5 : decode cX12_judged 5 = .ok (.ifCond .eq 11, 3) := by decide +kernel
theorem dX12_judged_8 : decode cX12_judged 8 = .ok (.aload_n 0, 1) := by decide +kernel
theorem dX12_judged_9 : decode cX12_judged 9 = .ok (.iload_n 2, 1) := by decide +kernel
theorem dX12_judged_10 : decode cX12_judged 10 = .ok (.invokevirtual 303, 3) := by decide +kernel
theorem dX12_judged_13 : decode cX12_judged 13 = .ok (.ifCond .ne 6, 3) := by decide +kernel
theorem dX12_judged_16 : decode cX12_judged 16 = .ok (.bipush (-2), 2) := by decide +kernel
theorem dX12_judged_18 : decode cX12_judged 18 = .ok (.ireturn, 1) := by decide +kernel
theorem dX12_judged_19 : decode cX12_judged 19 = .ok (.aload_n 0, 1) := by decide +kernel
theorem dX12_judged_20 : decode cX12_judged 20 = .ok (.iload_n 1, 1) := by decide +kernel
theorem dX12_judged_21 : decode cX12_judged 21 = .ok (.invokevirtual 362, 3) := by decide +kernel
theorem dX12_judged_24 : decode cX12_judged 24 = .ok (.aload_n 0, 1) := by decide +kernel
theorem dX12_judged_25 : decode cX12_judged 25 = .ok (.getfield 69, 3) := by decide +kernel
theorem dX12_judged_28 : decode cX12_judged 28 = .ok (.iload_n 2, 1) := by decide +kernel
theorem dX12_judged_29 : decode cX12_judged 29 = .ok (.iaload, 1) := by decide +kernel
theorem dX12_judged_30 : decode cX12_judged 30 = .ok (.ireturn, 1) := by decide +kernel
abbrev pb_sX12_judged (dC : Nat → ClassId) (dI : Nat → Nat → Nat) (A9 : Nat → Prop) (h0 : Nat) (mi : Nat → Int32) (mr : Nat → Nat) (km : Nat → ClassId) (fm_must : Nat → Int32) (fm_least : Nat → Int32) (fm_pin : Nat → Int32) (fm_ways : Nat → Int32) (fm_verdict : Nat → Int32) (fm_row : Nat → Int32) (fm_struck : Nat → Int32) (fm_reportKnown : Nat → Int32) (fm_reportPlace : Nat → Int32) (fm_reportMonth : Nat → Int32) (fm_reportDay : Nat → Int32) (fm_reportKind : Nat → Int32) (fm_trust : Nat → Int32) (fm_letter : Nat → Int32) (fm_deedMonth : Nat → Int32) (fm_deedDay : Nat → Int32) (fm_deedLong : Nat → Int32) (fm_deedKind : Nat → Int32) (fm_kept : Nat → Int32) (fm_tape : Nat → Int32) (fm_official : Nat → Int32) (fm_aside : Nat → Int32) (fm_worth : Nat → Int32) (fm_out : Nat → Int32) (p1 : Int32) (p2 : Int32) (w0_37 : Int32) (w0_41 : Int32) (z1 : Nat → Int32) (z2 : Nat → Int32) (z3 : Nat → Int32) (z4 : Nat → Int32) (z5 : Nat → Int32) (z6 : Nat → Int32) (t : State) : Prop := gi w0_37 0 1 ∧ gi w0_41 0 24 ∧ ga z6 24 0 23 ∧ va_P (dC, dI) vwCl (MWn h0 mr km (mi 0) (mi 1) (mi 2) (mi 3) (mi 4) (mi 5) (mi 6) (mi 7) (mi 10) (mi 17) (mi 23) (mi 24) (mi 26) (mi 27) (mi 28) (mi 29) (mi 30) (mi 31) (mi 32) (mi 33) w0_37 w0_41 (mi 42) (mi 43) (mi 44) (mi 45) (mi 47) (mi 48) (mi 49) (mi 50) (mi 51) (mi 54) (mi 56) fm_trust fm_letter fm_reportPlace fm_reportKind fm_struck fm_reportMonth fm_reportDay fm_reportKnown fm_deedMonth fm_deedDay fm_deedLong fm_deedKind fm_kept fm_tape z1 z2 z3 z4 z5 z6 fm_official fm_aside fm_worth fm_out) t.heap ∧ va_D A9 (MWn h0 mr km (mi 0) (mi 1) (mi 2) (mi 3) (mi 4) (mi 5) (mi 6) (mi 7) (mi 10) (mi 17) (mi 23) (mi 24) (mi 26) (mi 27) (mi 28) (mi 29) (mi 30) (mi 31) (mi 32) (mi 33) w0_37 w0_41 (mi 42) (mi 43) (mi 44) (mi 45) (mi 47) (mi 48) (mi 49) (mi 50) (mi 51) (mi 54) (mi 56) fm_trust fm_letter fm_reportPlace fm_reportKind fm_struck fm_reportMonth fm_reportDay fm_reportKnown fm_deedMonth fm_deedDay fm_deedLong fm_deedKind fm_kept fm_tape z1 z2 z3 z4 z5 z6 fm_official fm_aside fm_worth fm_out)
set_option maxHeartbeats 4000000 in
set_option maxRecDepth 100000 in
theorem sX12_judged (l : Launch) (dC : Nat → ClassId) (dI : Nat → Nat → Nat) (sz : Nat) (h0 : Nat) (mi : Nat → Int32) (mr : Nat → Nat) (km : Nat → ClassId) (fm_must : Nat → Int32) (fm_least : Nat → Int32) (fm_pin : Nat → Int32) (fm_ways : Nat → Int32) (fm_verdict : Nat → Int32) (fm_row : Nat → Int32) (fm_struck : Nat → Int32) (fm_reportKnown : Nat → Int32) (fm_reportPlace : Nat → Int32) (fm_reportMonth : Nat → Int32) (fm_reportDay : Nat → Int32) (fm_reportKind : Nat → Int32) (fm_trust : Nat → Int32) (fm_letter : Nat → Int32) (fm_deedMonth : Nat → Int32) (fm_deedDay : Nat → Int32) (fm_deedLong : Nat → Int32) (fm_deedKind : Nat → Int32) (fm_kept : Nat → Int32) (fm_tape : Nat → Int32) (fm_official : Nat → Int32) (fm_aside : Nat → Int32) (fm_worth : Nat → Int32) (fm_out : Nat → Int32) (p1 : Int32) (p2 : Int32) (gmi_0 : gi (mi 0) 0 24) (gmi_1 : gi (mi 1) 0 5) (gmi_2 : gi (mi 2) 0 5) (gmi_4 : gi (mi 4) 0 1) (gmi_7 : gi (mi 7) 0 6) (gmi_10 : gi (mi 10) 0 24) (gmi_17 : gi (mi 17) 0 8) (gmi_23 : gi (mi 23) 0 300) (gmi_24 : gi (mi 24) 0 1) (gmi_26 : gi (mi 26) 0 1600) (gmi_29 : gi (mi 29) 0 1600) (gmi_30 : gi (mi 30) 0 1600) (gmi_33 : gi (mi 33) 0 1) (gmi_37 : gi (mi 37) 0 1) (gmi_41 : gi (mi 41) 0 24) (gmi_50 : gi (mi 50) 0 1) (gmi_51 : gi (mi 51) 0 1) (gmi_56 : gi (mi 56) 0 80) (gfm_row : ga fm_row 24 0 23) (gfm_struck : ga fm_struck 24 0 1) (gfm_reportKnown : ga fm_reportKnown 24 0 999) (gfm_reportPlace : ga fm_reportPlace 24 0 5) (gfm_reportMonth : ga fm_reportMonth 24 0 23) (gfm_reportDay : ga fm_reportDay 24 0 999) : Met l yX12_judged (.code yX12_judged cX12_judged 3 (some .int) :: wsGB) ({ frames := 5, cells := 0, slots := 0, locals := 119 }) (va_Pc [.ref h0, .int p1, .int p2] (fun U => U.heap.size = sz ∧ va_P (dC, dI) vwCl (MWn h0 mr km (mi 0) (mi 1) (mi 2) (mi 3) (mi 4) (mi 5) (mi 6) (mi 7) (mi 10) (mi 17) (mi 23) (mi 24) (mi 26) (mi 27) (mi 28) (mi 29) (mi 30) (mi 31) (mi 32) (mi 33) (mi 37) (mi 41) (mi 42) (mi 43) (mi 44) (mi 45) (mi 47) (mi 48) (mi 49) (mi 50) (mi 51) (mi 54) (mi 56) fm_trust fm_letter fm_reportPlace fm_reportKind fm_struck fm_reportMonth fm_reportDay fm_reportKnown fm_deedMonth fm_deedDay fm_deedLong fm_deedKind fm_kept fm_tape fm_must fm_least fm_pin fm_ways fm_verdict fm_row fm_official fm_aside fm_worth fm_out) U.heap ∧ va_K (dC, dI) vwCl (MT km) U ∧ va_D (fun _ => True) (MWn h0 mr km (mi 0) (mi 1) (mi 2) (mi 3) (mi 4) (mi 5) (mi 6) (mi 7) (mi 10) (mi 17) (mi 23) (mi 24) (mi 26) (mi 27) (mi 28) (mi 29) (mi 30) (mi 31) (mi 32) (mi 33) (mi 37) (mi 41) (mi 42) (mi 43) (mi 44) (mi 45) (mi 47) (mi 48) (mi 49) (mi 50) (mi 51) (mi 54) (mi 56) fm_trust fm_letter fm_reportPlace fm_reportKind fm_struck fm_reportMonth fm_reportDay fm_reportKnown fm_deedMonth fm_deedDay fm_deedLong fm_deedKind fm_kept fm_tape fm_must fm_least fm_pin fm_ways fm_verdict fm_row fm_official fm_aside fm_worth fm_out))) (va_Qi (fun (r : Int32) (u : Unit) => gi r (-2147483648) 2147483647) (fun _ t => ∃ (w0_37 : Int32) (w0_41 : Int32) (z1 : Nat → Int32) (z2 : Nat → Int32) (z3 : Nat → Int32) (z4 : Nat → Int32) (z5 : Nat → Int32) (z6 : Nat → Int32), pb_sX12_judged dC dI (va_A (MWn h0 mr km (mi 0) (mi 1) (mi 2) (mi 3) (mi 4) (mi 5) (mi 6) (mi 7) (mi 10) (mi 17) (mi 23) (mi 24) (mi 26) (mi 27) (mi 28) (mi 29) (mi 30) (mi 31) (mi 32) (mi 33) (mi 37) (mi 41) (mi 42) (mi 43) (mi 44) (mi 45) (mi 47) (mi 48) (mi 49) (mi 50) (mi 51) (mi 54) (mi 56) fm_trust fm_letter fm_reportPlace fm_reportKind fm_struck fm_reportMonth fm_reportDay fm_reportKnown fm_deedMonth fm_deedDay fm_deedLong fm_deedKind fm_kept fm_tape fm_must fm_least fm_pin fm_ways fm_verdict fm_row fm_official fm_aside fm_worth fm_out) sz) h0 mi mr km fm_must fm_least fm_pin fm_ways fm_verdict fm_row fm_struck fm_reportKnown fm_reportPlace fm_reportMonth fm_reportDay fm_reportKind fm_trust fm_letter fm_deedMonth fm_deedDay fm_deedLong fm_deedKind fm_kept fm_tape fm_official fm_aside fm_worth fm_out p1 p2 w0_37 w0_41 z1 z2 z3 z4 z5 z6 t) (va_A (MWn h0 mr km (mi 0) (mi 1) (mi 2) (mi 3) (mi 4) (mi 5) (mi 6) (mi 7) (mi 10) (mi 17) (mi 23) (mi 24) (mi 26) (mi 27) (mi 28) (mi 29) (mi 30) (mi 31) (mi 32) (mi 33) (mi 37) (mi 41) (mi 42) (mi 43) (mi 44) (mi 45) (mi 47) (mi 48) (mi 49) (mi 50) (mi 51) (mi 54) (mi 56) fm_trust fm_letter fm_reportPlace fm_reportKind fm_struck fm_reportMonth fm_reportDay fm_reportKnown fm_deedMonth fm_deedDay fm_deedLong fm_deedKind fm_kept fm_tape fm_must fm_least fm_pin fm_ways fm_verdict fm_row fm_official fm_aside fm_worth fm_out) sz)) 0 0 (va_A (MWn h0 mr km (mi 0) (mi 1) (mi 2) (mi 3) (mi 4) (mi 5) (mi 6) (mi 7) (mi 10) (mi 17) (mi 23) (mi 24) (mi 26) (mi 27) (mi 28) (mi 29) (mi 30) (mi 31) (mi 32) (mi 33) (mi 37) (mi 41) (mi 42) (mi 43) (mi 44) (mi 45) (mi 47) (mi 48) (mi 49) (mi 50) (mi 51) (mi 54) (mi 56) fm_trust fm_letter fm_reportPlace fm_reportKind fm_struck fm_reportMonth fm_reportDay fm_reportKnown fm_deedMonth fm_deedDay fm_deedLong fm_deedKind fm_kept fm_tape fm_must fm_least fm_pin fm_ways fm_verdict fm_row fm_official fm_aside fm_worth fm_out) sz) := by
  refine Met.ofW (cc := cX12_judged) (maxL := 3) (ret := (some .int)) (by decide) rfl ?_
  intro p e s m args below meth c s₁ B hml hv
  obtain ⟨rfl, hsz, hP, hK, hD0⟩ := hv
  have hx := B.exec
  have hb := B.bytes
  have hr := B.returns
  have hts := atoms_spec (ws := (.code yX12_judged cX12_judged 3 (some .int) :: wsGB)) B.pre
  have hown : s.vm.findClass RX12 = some m.cls := findClass_of_methodNamed B.named
  have hlocks := B.notSynchronized
  subst hsz
  have hD := hD0.self (sz := s.heap.size)
  generalize hAe : va_A (MWn h0 mr km (mi 0) (mi 1) (mi 2) (mi 3) (mi 4) (mi 5) (mi 6) (mi 7) (mi 10) (mi 17) (mi 23) (mi 24) (mi 26) (mi 27) (mi 28) (mi 29) (mi 30) (mi 31) (mi 32) (mi 33) (mi 37) (mi 41) (mi 42) (mi 43) (mi 44) (mi 45) (mi 47) (mi 48) (mi 49) (mi 50) (mi 51) (mi 54) (mi 56) fm_trust fm_letter fm_reportPlace fm_reportKind fm_struck fm_reportMonth fm_reportDay fm_reportKnown fm_deedMonth fm_deedDay fm_deedLong fm_deedKind fm_kept fm_tape fm_must fm_least fm_pin fm_ways fm_verdict fm_row fm_official fm_aside fm_worth fm_out) s.heap.size = A at hD ⊢
  have hA : ∀ q : Nat, s.heap.size ≤ q → A q := fun q h => by rw [← hAe]; exact Or.inr h
  have hS : va_S A s.heap s.heap [] := va_S.rf
  have hl := lv_entry ([.ref h0, .int p1, .int p2]) (n := 3) (Nat.le_of_ble_eq_true rfl)
  rw [lg_entry_eq]
  generalize (lg_sl ([.ref h0, .int p1, .int p2]) ++ List.replicate (3 - (lg_sl ([.ref h0, .int p1, .int p2])).length) Slot.unset).toArray = ls at hl ⊢
  have hl : lv_has ls 3 [(0, .ref h0), (1, .int p1), (2, .int p2)] := hl
  refine lv_aload_n hx hb dX12_judged_0 rfl (lv_at hl 0 rfl) ?_
  refine lv_iload_n hx hb dX12_judged_1 rfl (lv_at hl 1 rfl) ?_
  refine va_calli (va_runV (As := [.int p1]) (rest := []) ⟨hx, hb, hml, hown, hts⟩ (sX12_isTime l dC dI h0 mi mr km fm_trust fm_letter fm_reportPlace fm_reportKind fm_struck fm_reportMonth fm_reportDay fm_reportKnown fm_deedMonth fm_deedDay fm_deedLong fm_deedKind fm_kept fm_tape fm_must fm_least fm_pin fm_ways fm_verdict fm_row fm_official fm_aside fm_worth fm_out p1 gmi_0 gmi_1 gmi_2 gmi_4 gmi_7 gmi_10 gmi_17 gmi_23 gmi_24 gmi_26 gmi_29 gmi_30 gmi_33 gmi_37 gmi_41 gmi_50 gmi_51 gmi_56) (cwV 1 hts (gz_gV mGB_256 mGB_257 mGB_258 mGB_1 mGB_259 goodGB) rfl rfl rfl (by decide +kernel) ⟨Nat.le_of_ble_eq_true rfl, Nat.le_of_ble_eq_true rfl⟩) ⟨bl_R, mw_recv hK hP, fun U hU hW => ⟨rfl, by rw [hU]; exact hP, va_K.moved hW.alike hK⟩⟩ rfl rfl hl.1 rfl (lv_room (Nat.le_of_ble_eq_true rfl)) dX12_judged_2 ⟨Nat.zero_le _, Nat.zero_le _⟩) hS (fun q _ h => h.elim) (fun q h => h.elim) (fun r_41 u t H1 locs ht hvm hw hB hz1 hk1 hS => ?_)
  obtain ⟨hw, hE⟩ := hw
  have hP := gz_keep hP hk1
  generalize H1 = H at hP hS ⊢
  have gr_41 : gi r_41 0 1 := hw.1
  have hqr_41 := hw.2
  refine lv_if_eq (tgt := 16) hx hb dX12_judged_5 (by decide) (fun c_42 => ?_) (fun c_42 => ?_)
  · have g_43 : gi r_41 0 0 := gi_eq c_42 (gi_c 0 0 (by decide))
    refine lv_bipush (v := (-2)) hx hb dX12_judged_16 (by decide) ?_
    exact W.iret (v := (-2)) hx hb hr (fun t ht hW => ⟨⟨(-2), (), rfl, (gi_any (-2)), (mi 37), (mi 41), fm_must, fm_least, fm_pin, fm_ways, fm_verdict, fm_row, gmi_37, gmi_41, gfm_row, by rw [ht]; exact hP, hD⟩, hS.F ht⟩) hS.2.2 dX12_judged_18
  · have g_44 : gi r_41 1 1 := gi_ne_lo c_42 gr_41 (gi_c 0 0 (by decide)) (by decide)
    have g_45 : gi p1 0 999 := gi_cap (gi_any p1) (hqr_41 (gz_one g_44)) (by decide)
    refine lv_aload_n hx hb dX12_judged_8 rfl (lv_at hl 0 rfl) ?_
    refine lv_iload_n hx hb dX12_judged_9 rfl (lv_at hl 2 rfl) ?_
    refine va_calli (va_runV (As := [.int p2]) (rest := []) ⟨hx, hb, hml, hown, hts⟩ (sX12_isReport l dC dI h0 mi mr km fm_trust fm_letter fm_reportPlace fm_reportKind fm_struck fm_reportMonth fm_reportDay fm_reportKnown fm_deedMonth fm_deedDay fm_deedLong fm_deedKind fm_kept fm_tape fm_must fm_least fm_pin fm_ways fm_verdict fm_row fm_official fm_aside fm_worth fm_out p2 gmi_0 gmi_1 gmi_2 gmi_4 gmi_7 gmi_10 gmi_17 gmi_23 gmi_24 gmi_26 gmi_29 gmi_30 gmi_33 gmi_37 gmi_41 gmi_50 gmi_51 gmi_56) (cwV 1 hts (gz_gV mGB_235 mGB_236 mGB_237 mGB_1 mGB_238 goodGB) rfl rfl rfl (by decide +kernel) ⟨Nat.le_of_ble_eq_true rfl, Nat.le_of_ble_eq_true rfl⟩) ⟨bl_R, mw_recv hK hP, fun U hU hW => ⟨rfl, by rw [hU]; exact hP, va_K.moved hW.alike hK⟩⟩ rfl rfl hl.1 rfl (lv_room (Nat.le_of_ble_eq_true rfl)) dX12_judged_10 ⟨Nat.zero_le _, Nat.zero_le _⟩) hS (fun q _ h => h.elim) (fun q h => h.elim) (fun r_46 u t H1 locs ht hvm hw hB hz1 hk1 hS => ?_)
    obtain ⟨hw, hE⟩ := hw
    have hP := gz_keep hP hk1
    generalize H1 = H at hP hS ⊢
    have gr_46 : gi r_46 0 1 := hw.1
    have hqr_46 := hw.2
    refine lv_if_ne (tgt := 19) hx hb dX12_judged_13 (by decide) (fun c_47 => ?_) (fun c_47 => ?_)
    · have g_48 : gi r_46 1 1 := gi_ne_lo c_47 gr_46 (gi_c 0 0 (by decide)) (by decide)
      have g_49 : gi p2 0 23 := gi_cap (gi_any p2) (hqr_46 (gz_one g_48)) (by decide)
      refine lv_aload_n hx hb dX12_judged_19 rfl (lv_at hl 0 rfl) ?_
      refine lv_iload_n hx hb dX12_judged_20 rfl (lv_at hl 1 rfl) ?_
      have hFc := gz_fullF hD hS hA
      refine va_callv (va_runV (As := [.int p1]) (rest := []) ⟨hx, hb, hml, hown, hts⟩ (sX12_judgesAll l dC dI H.size h0 mi mr km fm_must fm_least fm_pin fm_ways fm_verdict fm_row fm_struck fm_reportKnown fm_reportPlace fm_reportMonth fm_reportDay fm_reportKind fm_trust fm_letter fm_deedMonth fm_deedDay fm_deedLong fm_deedKind fm_kept fm_tape fm_official fm_aside fm_worth fm_out p1 gmi_0 gmi_1 gmi_2 gmi_4 gmi_7 gmi_10 gmi_17 gmi_23 gmi_24 gmi_26 gmi_29 gmi_30 gmi_33 gmi_37 gmi_41 gmi_50 gmi_51 gmi_56 gfm_row gfm_struck gfm_reportKnown gfm_reportPlace gfm_reportMonth gfm_reportDay) (cwV 1 hts (gz_gV mGB_261 mGB_262 mGB_263 mGB_1 mGB_264 goodGB) rfl rfl rfl (by decide +kernel) ⟨Nat.le_of_ble_eq_true rfl, Nat.le_of_ble_eq_true rfl⟩) ⟨bl_W, mw_recv hK hP, fun U hU hW => ⟨rfl, by rw [hU], by rw [hU]; exact hP, va_K.moved hW.alike hK, hD.weaken (fun _ _ _ _ => trivial)⟩⟩ rfl rfl hl.1 rfl (lv_room (Nat.le_of_ble_eq_true rfl)) dX12_judged_21 ⟨Nat.zero_le _, Nat.zero_le _⟩) hS (fun q _ h => hFc q h) hFc (fun u t H1 locs ht hvm hw hB hz1 hk1 hS => ?_)
      obtain ⟨y_51, y_52, f_53, f_54, f_55, f_56, f_57, f_58, hB⟩ := hB
      obtain ⟨gy_51, gy_52, gf_58, hP1, hD1⟩ := hB
      rw [ht] at hP1
      have hD : va_D A (MWn h0 mr km (mi 0) (mi 1) (mi 2) (mi 3) (mi 4) (mi 5) (mi 6) (mi 7) (mi 10) (mi 17) (mi 23) (mi 24) (mi 26) (mi 27) (mi 28) (mi 29) (mi 30) (mi 31) (mi 32) (mi 33) y_51 y_52 (mi 42) (mi 43) (mi 44) (mi 45) (mi 47) (mi 48) (mi 49) (mi 50) (mi 51) (mi 54) (mi 56) fm_trust fm_letter fm_reportPlace fm_reportKind fm_struck fm_reportMonth fm_reportDay fm_reportKnown fm_deedMonth fm_deedDay fm_deedLong fm_deedKind fm_kept fm_tape f_53 f_54 f_55 f_56 f_57 f_58 fm_official fm_aside fm_worth fm_out) := gz_fullD hFc hD1
      have hP : va_P (dC, dI) vwCl (MWn h0 mr km (mi 0) (mi 1) (mi 2) (mi 3) (mi 4) (mi 5) (mi 6) (mi 7) (mi 10) (mi 17) (mi 23) (mi 24) (mi 26) (mi 27) (mi 28) (mi 29) (mi 30) (mi 31) (mi 32) (mi 33) y_51 y_52 (mi 42) (mi 43) (mi 44) (mi 45) (mi 47) (mi 48) (mi 49) (mi 50) (mi 51) (mi 54) (mi 56) fm_trust fm_letter fm_reportPlace fm_reportKind fm_struck fm_reportMonth fm_reportDay fm_reportKnown fm_deedMonth fm_deedDay fm_deedLong fm_deedKind fm_kept fm_tape f_53 f_54 f_55 f_56 f_57 f_58 fm_official fm_aside fm_worth fm_out) H1 := hP1
      generalize H1 = H at hP hS ⊢
      refine lv_aload_n hx hb dX12_judged_24 rfl (lv_at hl 0 rfl) ?_
      refine va_get (D := (dC, dI)) (ci := 12) (v := .ref (mr 18)) (C := RX12) (T := TX12) (N := 57) hx hb hts (fun w h => List.mem_cons_of_mem _ (jnGB_X12 w h)) hown hK hP 0 rfl rfl 39 (by decide) (hts _ (List.mem_cons_of_mem _ mGB_30)) (fun _ h9 => h9) rfl dX12_judged_25 ?_
      refine lv_iload_n hx hb dX12_judged_28 rfl (lv_at hl 2 rfl) ?_
      refine va_iald hx hb hK hP 19 18 rfl rfl (gi_in g_49 (by decide)) dX12_judged_29 ?_
      refine lv_topi (fun x_59 ex_59 => ?_)
      exact W.iret (v := x_59) hx hb hr (fun t ht hW => ⟨⟨x_59, (), rfl, (gi_any x_59), y_51, y_52, f_53, f_54, f_55, f_56, f_57, f_58, gy_51, gy_52, gf_58, by rw [ht]; exact hP, hD⟩, hS.F ht⟩) hS.2.2 dX12_judged_30
    · have g_60 : gi r_46 0 0 := gi_eq c_47 (gi_c 0 0 (by decide))
      refine lv_bipush (v := (-2)) hx hb dX12_judged_16 (by decide) ?_
      exact W.iret (v := (-2)) hx hb hr (fun t ht hW => ⟨⟨(-2), (), rfl, (gi_any (-2)), (mi 37), (mi 41), fm_must, fm_least, fm_pin, fm_ways, fm_verdict, fm_row, gmi_37, gmi_41, gfm_row, by rw [ht]; exact hP, hD⟩, hS.F ht⟩) hS.2.2 dX12_judged_18
