theorem dX0_placeNamed_0 : decode cX0_placeNamed 0 = .ok (.iconst 0, 1) := by decide +kernel
theorem dX0_placeNamed_1 : decode cX0_placeNamed 1 = .ok (.istore_n 2, 1) := by decide +kernel
theorem dX0_placeNamed_2 : decode cX0_placeNamed 2 = .ok (.iload_n 2, 1) := by decide +kernel
theorem dX0_placeNamed_3 : decode cX0_placeNamed 3 = .ok (.aload_n 0, 1) := by decide +kernel
theorem dX0_placeNamed_4 : decode cX0_placeNamed 4 = .ok (.getfield 55, 3) := by decide +kernel
theorem dX0_placeNamed_7 : decode cX0_placeNamed 7 = .ok (.if_icmp .ge 24, 3) := by decide +kernel
theorem dX0_placeNamed_10 : decode cX0_placeNamed 10 = .ok (.aload_n 0, 1) := by decide +kernel
theorem dX0_placeNamed_11 : decode cX0_placeNamed 11 = .ok (.getfield 11, 3) := by decide +kernel
theorem dX0_placeNamed_14 : decode cX0_placeNamed 14 = .ok (.iload_n 2, 1) := by decide +kernel
theorem dX0_placeNamed_15 : decode cX0_placeNamed 15 = .ok (.aaload, 1) := by decide +kernel
theorem dX0_placeNamed_16 : decode cX0_placeNamed 16 = .ok (.getfield 67, 3) := by decide +kernel
theorem dX0_placeNamed_19 : decode cX0_placeNamed 19 = .ok (.iload_n 1, 1) := by decide +kernel
theorem dX0_placeNamed_20 : decode cX0_placeNamed 20 = .ok (.if_icmp .ne 5, 3) := by decide +kernel
theorem dX0_placeNamed_23 : decode cX0_placeNamed 23 = .ok (.iload_n 2, 1) := by decide +kernel
theorem dX0_placeNamed_24 : decode cX0_placeNamed 24 = .ok (.ireturn, 1) := by decide +kernel
theorem dX0_placeNamed_25 : decode cX0_placeNamed 25 = .ok (.iinc 2 1, 3) := by decide +kernel
theorem dX0_placeNamed_28 : decode cX0_placeNamed 28 = .ok (.goto (-26), 3) := by decide +kernel
theorem dX0_placeNamed_31 : decode cX0_placeNamed 31 = .ok (.iconst (-1), 1) := by decide +kernel
theorem dX0_placeNamed_32 : decode cX0_placeNamed 32 = .ok (.ireturn, 1) := by decide +kernel
set_option maxHeartbeats 4000000 in
set_option maxRecDepth 100000 in
theorem lp_sX0_placeNamed {p : Program} {l : Launch} {e : Env} {R : Room} {s : State} {m : MethodId} {args : Array Value} {below : List Frame} {meth : Method} {c : Code} {Q : State → Prop} {A : Nat → Prop} {cells slots : Nat} {dC : Nat → ClassId} {dI : Nat → Nat → Nat} (h0 : Nat) (pl : Nat) (amonths : Int32) (afull : Int32) (alean : Int32) (alines : Int32) (ahasMoon : Int32) (amoonStart : Int32) (amoonStep : Int32) (aplaceCount : Int32) (areportCount : Int32) (adeedCount : Int32) (re : Nat) (de : Nat) (kpl : ClassId) (pa : Nat → Nat) (p_name : Nat → Int32) (p_trust : Nat → Int32) (p1 : Int32) (gamonths : gi amonths 0 24) (gafull : gi afull 0 5) (galean : gi alean 0 5) (gahasMoon : gi ahasMoon 0 1) (gaplaceCount : gi aplaceCount 0 6) (gareportCount : gi areportCount 0 24) (gadeedCount : gi adeedCount 0 8) (hx : p.tables.exec = Jvm.exec) (hb : c.code = cX0_placeNamed) (hml : c.maxLocals = 3) (hown : s.vm.findClass RX0 = some m.cls) (hts : ∀ w ∈ ((.code yX0_placeNamed cX0_placeNamed 3 (some .int) :: wsGA) : List Cond), w.before args s = true) (hK : va_K (dC, dI) vwCl [(kpl, .object RX5)] s) (hz : nzA s) (hF0 : va_P (dC, dI) vwCl (gz_fam 6 pa 5 (fun i => [.int (p_name i), .int (p_trust i)])) s.heap) (hFA0 : gz_ap A (gz_fam 6 pa 5 (fun i => [.int (p_name i), .int (p_trust i)]))) (hRf : 0 ≤ R.frames) (hRl : 0 ≤ R.locals) (hRc : cells ≤ R.cells) (hRs : slots ≤ R.slots) (kr32 : ∀ (v : Int32) (H : Heap) (locs : List Loc) (ls : Array Slot), gi v (-1) (-1) → va_P (dC, dI) vwCl [(h0, .inr (0, [.int amonths, .int afull, .int alean, .int alines, .int ahasMoon, .int amoonStart, .int amoonStep, .int aplaceCount, .int areportCount, .int adeedCount, .ref pl, .ref re, .ref de])), (pl, .inl (kpl, 6, .inr (.inr (.inr (.inr (fun i => some (pa i)))))))] H → va_S A s.heap H locs → lv_has ls 3 [] → W p l e R s m args below meth c H locs cells slots Q (F0 m 32 ls [.int v])) (kr24 : ∀ (v : Int32) (H : Heap) (locs : List Loc) (ls : Array Slot), gi v 0 5 → va_P (dC, dI) vwCl [(h0, .inr (0, [.int amonths, .int afull, .int alean, .int alines, .int ahasMoon, .int amoonStart, .int amoonStep, .int aplaceCount, .int areportCount, .int adeedCount, .ref pl, .ref re, .ref de])), (pl, .inl (kpl, 6, .inr (.inr (.inr (.inr (fun i => some (pa i)))))))] H → va_S A s.heap H locs → lv_has ls 3 [] → W p l e R s m args below meth c H locs cells slots Q (F0 m 24 ls [.int v])) : ∀ z : Nat, (∀ (v2 : Int32) (H : Heap) (locs : List Loc) (ls : Array Slot), gi v2 0 6 → 13 + (-2) * v2.toInt < (z : Int) → va_P (dC, dI) vwCl [(h0, .inr (0, [.int amonths, .int afull, .int alean, .int alines, .int ahasMoon, .int amoonStart, .int amoonStep, .int aplaceCount, .int areportCount, .int adeedCount, .ref pl, .ref re, .ref de])), (pl, .inl (kpl, 6, .inr (.inr (.inr (.inr (fun i => some (pa i)))))))] H → va_S A s.heap H locs → lv_has ls 3 [(0, .ref h0), (1, .int p1), (2, .int v2)] → W p l e R s m args below meth c H locs cells slots Q (F0 m 2 ls [])) := by
  intro z
  induction z with
  | zero =>
    intro v2 H locs ls gv2 hmu hP hS hl
    exact absurd hmu (by have hv21 := gv2.1; have hv22 := gv2.2; omega)
  | succ z ih =>
      intro v2 H locs ls gv2 hmu hP hS hl
      refine lv_iload_n hx hb dX0_placeNamed_2 rfl (lv_at hl 2 rfl) ?_
      refine lv_aload_n hx hb dX0_placeNamed_3 rfl (lv_at hl 0 rfl) ?_
      refine va_get (D := (dC, dI)) (ci := 0) (v := .int aplaceCount) (C := RX0) (T := TX0) (N := 13) hx hb hts (fun w h => List.mem_cons_of_mem _ (jnGA_X0 w h)) hown hK hP 0 rfl rfl 7 (by decide) (hts _ (List.mem_cons_of_mem _ mGA_159)) (fun _ h9 => h9) rfl dX0_placeNamed_4 ?_
      refine lv_icmp_ge (tgt := 31) hx hb dX0_placeNamed_7 (by decide) (fun c_43 => ?_) (fun c_43 => ?_)
      · refine lv_iconst (v := (-1)) hx hb dX0_placeNamed_31 (by decide) ?_
        exact kr32 (-1) _ _ _ (gi_c (-1) (-1) (by decide)) hP hS (lv_sub hl [] rfl)
      · have g_44 : gi v2 0 5 := gi_lt_l (Int32.not_le.mp c_43) gv2 gaplaceCount (by decide)
        have g_45 : gi aplaceCount 1 6 := gi_lt_r (Int32.not_le.mp c_43) gv2 gaplaceCount (by decide)
        refine lv_aload_n hx hb dX0_placeNamed_10 rfl (lv_at hl 0 rfl) ?_
        refine va_get (D := (dC, dI)) (ci := 0) (v := .ref pl) (C := RX0) (T := TX0) (N := 13) hx hb hts (fun w h => List.mem_cons_of_mem _ (jnGA_X0 w h)) hown hK hP 0 rfl rfl 10 (by decide) (hts _ (List.mem_cons_of_mem _ mGA_70)) (fun _ h9 => h9) rfl dX0_placeNamed_11 ?_
        refine lv_iload_n hx hb dX0_placeNamed_14 rfl (lv_at hl 2 rfl) ?_
        refine va_aldq hx hb hK hP 1 0 rfl rfl (gi_in g_44 (by decide)) dX0_placeNamed_15 ?_
        refine W.eq (g2 := F0 m 16 ls [.ref (pa v2.toNatClampNeg)]) rfl ?_
        refine va_get (D := (dC, dI)) (ci := 5) (v := .int (p_name v2.toNatClampNeg)) (C := RX5) (T := TX5) (N := 2) hx hb hts (fun w h => List.mem_cons_of_mem _ (jnGA_X5 w h)) hown hK (gz_ro hF0 hFA0 hS) (v2.toNatClampNeg) (gz_fam_at (gz_clt (gi_in (n := 6) g_44 (by decide)))) rfl 0 (by decide) (hts _ (List.mem_cons_of_mem _ mGA_302)) (fun _ h9 => h9) rfl dX0_placeNamed_16 ?_
        refine lv_topi (fun x_46 ex_46 => ?_)
        refine lv_iload_n hx hb dX0_placeNamed_19 rfl (lv_at hl 1 rfl) ?_
        refine lv_icmp_ne (tgt := 25) hx hb dX0_placeNamed_20 (by decide) (fun c_47 => ?_) (fun c_47 => ?_)
        · obtain ⟨x_48, ex_48⟩ : ∃ y : Int32, y = v2 + 1 := ⟨_, rfl⟩
          have gx_48 : gi x_48 1 6 := gi_add ex_48 g_44 (gi_c 1 1 (by decide)) (by decide)
          refine lv_iinc (v := x_48) (lv' := [(2, .int x_48), (0, .ref h0), (1, .int p1)]) hx hb dX0_placeNamed_25 hl (k := 2) rfl (by rw [ex_48]; rfl) (by decide) rfl (fun ls hl => ?_)
          refine lv_goto (tgt := 2) hx hb dX0_placeNamed_28 (by decide) ?_
          exact ih x_48 _ _ _ (gi_w gx_48 (by decide)) (by have av2 := gv2.1; have bv2 := gv2.2; have qgx_48 := gx_48.1; have rgx_48 := gx_48.2; have igx_48 : x_48.toInt = v2.toInt + 1 := (by have hc1 : (1 : Int32).toInt = 1 := (by decide); have h9 := gi_addI ex_48 (by have h1 := g_44.1; have h2 := (gi_c 1 1 (by decide)).1; have h3 := g_44.2; have h4 := (gi_c 1 1 (by decide)).2; omega) (by have h1 := g_44.1; have h2 := (gi_c 1 1 (by decide)).1; have h3 := g_44.2; have h4 := (gi_c 1 1 (by decide)).2; omega); rw [hc1] at h9; exact h9); have qgv2 := g_44.1; have rgv2 := g_44.2; omega) hP hS (lv_sub hl [1, 2, 0] rfl)
        · refine lv_iload_n hx hb dX0_placeNamed_23 rfl (lv_at hl 2 rfl) ?_
          exact kr24 v2 _ _ _ g_44 hP hS (lv_sub hl [] rfl)
set_option maxHeartbeats 4000000 in
set_option maxRecDepth 100000 in
theorem sX0_placeNamed (l : Launch) (dC : Nat → ClassId) (dI : Nat → Nat → Nat) (h0 : Nat) (pl : Nat) (amonths : Int32) (afull : Int32) (alean : Int32) (alines : Int32) (ahasMoon : Int32) (amoonStart : Int32) (amoonStep : Int32) (aplaceCount : Int32) (areportCount : Int32) (adeedCount : Int32) (re : Nat) (de : Nat) (kpl : ClassId) (pa : Nat → Nat) (p_name : Nat → Int32) (p_trust : Nat → Int32) (p1 : Int32) (gamonths : gi amonths 0 24) (gafull : gi afull 0 5) (galean : gi alean 0 5) (gahasMoon : gi ahasMoon 0 1) (gaplaceCount : gi aplaceCount 0 6) (gareportCount : gi areportCount 0 24) (gadeedCount : gi adeedCount 0 8) : Met l yX0_placeNamed (.code yX0_placeNamed cX0_placeNamed 3 (some .int) :: wsGA) ({ frames := 0, cells := 0, slots := 0, locals := 0 }) (va_Pc [.ref h0, .int p1] (fun U => va_P (dC, dI) vwCl [(h0, .inr (0, [.int amonths, .int afull, .int alean, .int alines, .int ahasMoon, .int amoonStart, .int amoonStep, .int aplaceCount, .int areportCount, .int adeedCount, .ref pl, .ref re, .ref de])), (pl, .inl (kpl, 6, .inr (.inr (.inr (.inr (fun i => some (pa i)))))))] U.heap ∧ va_K (dC, dI) vwCl [(kpl, .object RX5)] U ∧ nzA U ∧ va_P (dC, dI) vwCl (gz_fam 6 pa 5 (fun i => [.int (p_name i), .int (p_trust i)])) U.heap)) (va_Qi (fun (r : Int32) (u : Unit) => gi r (-1) 5) (fun _ _ => True) (fun _ => False)) 0 0 (fun _ => False) := by
  refine Met.ofW (cc := cX0_placeNamed) (maxL := 3) (ret := (some .int)) (by decide) rfl ?_
  intro p e s m args below meth c s₁ B hml hv
  obtain ⟨rfl, hP, hK, hz, hF0⟩ := hv
  have hx := B.exec
  have hb := B.bytes
  have hr := B.returns
  have hts := atoms_spec (ws := (.code yX0_placeNamed cX0_placeNamed 3 (some .int) :: wsGA)) B.pre
  have hown : s.vm.findClass RX0 = some m.cls := findClass_of_methodNamed B.named
  have hlocks := B.notSynchronized
  have hS : va_S (fun _ => False) s.heap s.heap [] := va_S.rf
  have hFA0 : gz_ap (fun _ => False) (gz_fam 6 pa 5 (fun i => [.int (p_name i), .int (p_trust i)])) := gz_ap0
  have hl := lv_entry ([.ref h0, .int p1]) (n := 3) (Nat.le_of_ble_eq_true rfl)
  rw [lg_entry_eq]
  generalize (lg_sl ([.ref h0, .int p1]) ++ List.replicate (3 - (lg_sl ([.ref h0, .int p1])).length) Slot.unset).toArray = ls at hl ⊢
  have hl : lv_has ls 3 [(0, .ref h0), (1, .int p1)] := hl
  refine lv_iconst (v := 0) hx hb dX0_placeNamed_0 (by decide) ?_
  refine lv_istore_n (lv' := [(2, .int 0), (0, .ref h0), (1, .int p1)]) hx hb dX0_placeNamed_1 rfl hl (by decide) rfl (fun ls hl => ?_)
  refine (lp_sX0_placeNamed h0 pl amonths afull alean alines ahasMoon amoonStart amoonStep aplaceCount areportCount adeedCount re de kpl pa p_name p_trust p1 gamonths gafull galean gahasMoon gaplaceCount gareportCount gadeedCount hx hb hml hown hts hK hz hF0 hFA0 (Nat.le_of_ble_eq_true rfl) (Nat.le_of_ble_eq_true rfl) (Nat.zero_le _) (Nat.zero_le _) (fun v H locs ls gv hP hS hl => ?_) (fun v H locs ls gv hP hS hl => ?_) 26) 0 _ _ _ (gi_w (gi_c 0 0 (by decide)) (by decide)) (by have k0 : (0 : Int32).toInt = 0 := (by decide); omega) hP hS (lv_sub hl [1, 2, 0] rfl)
  · skip
    exact W.iret (v := v) hx hb hr (fun t ht hW => ⟨⟨v, (), rfl, (gi_w gv (by decide)), trivial⟩, hS.F ht⟩) hS.2.2 dX0_placeNamed_32
  · skip
    exact W.iret (v := v) hx hb hr (fun t ht hW => ⟨⟨v, (), rfl, (gi_w gv (by decide)), trivial⟩, hS.F ht⟩) hS.2.2 dX0_placeNamed_24
theorem dX0_namesAhead_0 : decode cX0_namesAhead 0 = .ok (.iconst 0, 1) := by decide +kernel
theorem dX0_namesAhead_1 : decode cX0_namesAhead 1 = .ok (.istore_n 2, 1) := by decide +kernel
theorem dX0_namesAhead_2 : decode cX0_namesAhead 2 = .ok (.iconst 0, 1) := by decide +kernel
theorem dX0_namesAhead_3 : decode cX0_namesAhead 3 = .ok (.istore_n 3, 1) := by decide +kernel
theorem dX0_namesAhead_4 : decode cX0_namesAhead 4 = .ok (.iload_n 3, 1) := by decide +kernel
theorem dX0_namesAhead_5 : decode cX0_namesAhead 5 = .ok (.aload_n 0, 1) := by decide +kernel
theorem dX0_namesAhead_6 : decode cX0_namesAhead 6 = .ok (.getfield 55, 3) := by decide +kernel
theorem dX0_namesAhead_9 : decode cX0_namesAhead 9 = .ok (.if_icmp .ge 33, 3) := by decide +kernel
theorem dX0_namesAhead_12 : decode cX0_namesAhead 12 = .ok (.aload_n 0, 1) := by decide +kernel
theorem dX0_namesAhead_13 : decode cX0_namesAhead 13 = .ok (.getfield 11, 3) := by decide +kernel
theorem dX0_namesAhead_16 : decode cX0_namesAhead 16 = .ok (.iload_n 3, 1) := by decide +kernel
theorem dX0_namesAhead_17 : decode cX0_namesAhead 17 = .ok (.aaload, 1) := by decide +kernel
theorem dX0_namesAhead_18 : decode cX0_namesAhead 18 = .ok (.getfield 67, 3) := by decide +kernel
theorem dX0_namesAhead_21 : decode cX0_namesAhead 21 = .ok (.aload_n 0, 1) := by decide +kernel
theorem dX0_namesAhead_22 : decode cX0_namesAhead 22 = .ok (.getfield 11, 3) := by decide +kernel
theorem dX0_namesAhead_25 : decode cX0_namesAhead 25 = .ok (.iload_n 1, 1) := by decide +kernel
theorem dX0_namesAhead_26 : decode cX0_namesAhead 26 = .ok (.aaload, 1) := by decide +kernel
theorem dX0_namesAhead_27 : decode cX0_namesAhead 27 = .ok (.getfield 67, 3) := by decide +kernel
theorem dX0_namesAhead_30 : decode cX0_namesAhead 30 = .ok (.if_icmp .ge 6, 3) := by decide +kernel
theorem dX0_namesAhead_33 : decode cX0_namesAhead 33 = .ok (.iinc 2 1, 3) := by decide +kernel
theorem dX0_namesAhead_36 : decode cX0_namesAhead 36 = .ok (.iinc 3 1, 3) := by decide +kernel
theorem dX0_namesAhead_39 : decode cX0_namesAhead 39 = .ok (.goto (-35), 3) := by decide +kernel
theorem dX0_namesAhead_42 : decode cX0_namesAhead 42 = .ok (.iload_n 2, 1) := by decide +kernel
theorem dX0_namesAhead_43 : decode cX0_namesAhead 43 = .ok (.ireturn, 1) := by decide +kernel
set_option maxHeartbeats 4000000 in
set_option maxRecDepth 100000 in
theorem lp_sX0_namesAhead {p : Program} {l : Launch} {e : Env} {R : Room} {s : State} {m : MethodId} {args : Array Value} {below : List Frame} {meth : Method} {c : Code} {Q : State → Prop} {A : Nat → Prop} {cells slots : Nat} {dC : Nat → ClassId} {dI : Nat → Nat → Nat} (h0 : Nat) (pl : Nat) (amonths : Int32) (afull : Int32) (alean : Int32) (alines : Int32) (ahasMoon : Int32) (amoonStart : Int32) (amoonStep : Int32) (aplaceCount : Int32) (areportCount : Int32) (adeedCount : Int32) (re : Nat) (de : Nat) (kpl : ClassId) (pa : Nat → Nat) (p_name : Nat → Int32) (p_trust : Nat → Int32) (p1 : Int32) (gamonths : gi amonths 0 24) (gafull : gi afull 0 5) (galean : gi alean 0 5) (gahasMoon : gi ahasMoon 0 1) (gaplaceCount : gi aplaceCount 0 6) (gareportCount : gi areportCount 0 24) (gadeedCount : gi adeedCount 0 8) (gp1 : gi p1 0 5) (hx : p.tables.exec = Jvm.exec) (hb : c.code = cX0_namesAhead) (hml : c.maxLocals = 4) (hown : s.vm.findClass RX0 = some m.cls) (hts : ∀ w ∈ ((.code yX0_namesAhead cX0_namesAhead 4 (some .int) :: wsGA) : List Cond), w.before args s = true) (hK : va_K (dC, dI) vwCl [(kpl, .object RX5)] s) (hz : nzA s) (hF0 : va_P (dC, dI) vwCl (gz_fam 6 pa 5 (fun i => [.int (p_name i), .int (p_trust i)])) s.heap) (hFA0 : gz_ap A (gz_fam 6 pa 5 (fun i => [.int (p_name i), .int (p_trust i)]))) (hRf : 0 ≤ R.frames) (hRl : 0 ≤ R.locals) (hRc : cells ≤ R.cells) (hRs : slots ≤ R.slots) (kr43 : ∀ (v : Int32) (H : Heap) (locs : List Loc) (ls : Array Slot), va_P (dC, dI) vwCl [(h0, .inr (0, [.int amonths, .int afull, .int alean, .int alines, .int ahasMoon, .int amoonStart, .int amoonStep, .int aplaceCount, .int areportCount, .int adeedCount, .ref pl, .ref re, .ref de])), (pl, .inl (kpl, 6, .inr (.inr (.inr (.inr (fun i => some (pa i)))))))] H → va_S A s.heap H locs → lv_has ls 4 [] → W p l e R s m args below meth c H locs cells slots Q (F0 m 43 ls [.int v])) : ∀ z : Nat, (∀ (v2 : Int32) (v3 : Int32) (H : Heap) (locs : List Loc) (ls : Array Slot), gi v3 0 6 → 13 + (-2) * v3.toInt < (z : Int) → va_P (dC, dI) vwCl [(h0, .inr (0, [.int amonths, .int afull, .int alean, .int alines, .int ahasMoon, .int amoonStart, .int amoonStep, .int aplaceCount, .int areportCount, .int adeedCount, .ref pl, .ref re, .ref de])), (pl, .inl (kpl, 6, .inr (.inr (.inr (.inr (fun i => some (pa i)))))))] H → va_S A s.heap H locs → lv_has ls 4 [(0, .ref h0), (1, .int p1), (2, .int v2), (3, .int v3)] → W p l e R s m args below meth c H locs cells slots Q (F0 m 4 ls [])) := by
  intro z
  induction z with
  | zero =>
    intro v2 v3 H locs ls gv3 hmu hP hS hl
    exact absurd hmu (by have hv31 := gv3.1; have hv32 := gv3.2; omega)
  | succ z ih =>
      intro v2 v3 H locs ls gv3 hmu hP hS hl
      refine lv_iload_n hx hb dX0_namesAhead_4 rfl (lv_at hl 3 rfl) ?_
      refine lv_aload_n hx hb dX0_namesAhead_5 rfl (lv_at hl 0 rfl) ?_
      refine va_get (D := (dC, dI)) (ci := 0) (v := .int aplaceCount) (C := RX0) (T := TX0) (N := 13) hx hb hts (fun w h => List.mem_cons_of_mem _ (jnGA_X0 w h)) hown hK hP 0 rfl rfl 7 (by decide) (hts _ (List.mem_cons_of_mem _ mGA_159)) (fun _ h9 => h9) rfl dX0_namesAhead_6 ?_
      refine lv_icmp_ge (tgt := 42) hx hb dX0_namesAhead_9 (by decide) (fun c_430 => ?_) (fun c_430 => ?_)
      · refine lv_iload_n hx hb dX0_namesAhead_42 rfl (lv_at hl 2 rfl) ?_
        exact kr43 v2 _ _ _ hP hS (lv_sub hl [] rfl)
      · have g_431 : gi v3 0 5 := gi_lt_l (Int32.not_le.mp c_430) gv3 gaplaceCount (by decide)
        have g_432 : gi aplaceCount 1 6 := gi_lt_r (Int32.not_le.mp c_430) gv3 gaplaceCount (by decide)
        refine lv_aload_n hx hb dX0_namesAhead_12 rfl (lv_at hl 0 rfl) ?_
        refine va_get (D := (dC, dI)) (ci := 0) (v := .ref pl) (C := RX0) (T := TX0) (N := 13) hx hb hts (fun w h => List.mem_cons_of_mem _ (jnGA_X0 w h)) hown hK hP 0 rfl rfl 10 (by decide) (hts _ (List.mem_cons_of_mem _ mGA_70)) (fun _ h9 => h9) rfl dX0_namesAhead_13 ?_
        refine lv_iload_n hx hb dX0_namesAhead_16 rfl (lv_at hl 3 rfl) ?_
        refine va_aldq hx hb hK hP 1 0 rfl rfl (gi_in g_431 (by decide)) dX0_namesAhead_17 ?_
        refine W.eq (g2 := F0 m 18 ls [.ref (pa v3.toNatClampNeg)]) rfl ?_
        refine va_get (D := (dC, dI)) (ci := 5) (v := .int (p_name v3.toNatClampNeg)) (C := RX5) (T := TX5) (N := 2) hx hb hts (fun w h => List.mem_cons_of_mem _ (jnGA_X5 w h)) hown hK (gz_ro hF0 hFA0 hS) (v3.toNatClampNeg) (gz_fam_at (gz_clt (gi_in (n := 6) g_431 (by decide)))) rfl 0 (by decide) (hts _ (List.mem_cons_of_mem _ mGA_302)) (fun _ h9 => h9) rfl dX0_namesAhead_18 ?_
        refine lv_topi (fun x_433 ex_433 => ?_)
        refine lv_aload_n hx hb dX0_namesAhead_21 rfl (lv_at hl 0 rfl) ?_
        refine va_get (D := (dC, dI)) (ci := 0) (v := .ref pl) (C := RX0) (T := TX0) (N := 13) hx hb hts (fun w h => List.mem_cons_of_mem _ (jnGA_X0 w h)) hown hK hP 0 rfl rfl 10 (by decide) (hts _ (List.mem_cons_of_mem _ mGA_70)) (fun _ h9 => h9) rfl dX0_namesAhead_22 ?_
        refine lv_iload_n hx hb dX0_namesAhead_25 rfl (lv_at hl 1 rfl) ?_
        refine va_aldq hx hb hK hP 1 0 rfl rfl (gi_in gp1 (by decide)) dX0_namesAhead_26 ?_
        refine W.eq (g2 := F0 m 27 ls [.ref (pa p1.toNatClampNeg), .int x_433]) rfl ?_
        refine va_get (D := (dC, dI)) (ci := 5) (v := .int (p_name p1.toNatClampNeg)) (C := RX5) (T := TX5) (N := 2) hx hb hts (fun w h => List.mem_cons_of_mem _ (jnGA_X5 w h)) hown hK (gz_ro hF0 hFA0 hS) (p1.toNatClampNeg) (gz_fam_at (gz_clt (gi_in (n := 6) gp1 (by decide)))) rfl 0 (by decide) (hts _ (List.mem_cons_of_mem _ mGA_302)) (fun _ h9 => h9) rfl dX0_namesAhead_27 ?_
        refine lv_topi (fun x_434 ex_434 => ?_)
        refine lv_icmp_ge (tgt := 36) hx hb dX0_namesAhead_30 (by decide) (fun c_435 => ?_) (fun c_435 => ?_)
        · obtain ⟨x_436, ex_436⟩ : ∃ y : Int32, y = v3 + 1 := ⟨_, rfl⟩
          have gx_436 : gi x_436 1 6 := gi_add ex_436 g_431 (gi_c 1 1 (by decide)) (by decide)
          refine lv_iinc (v := x_436) (lv' := [(3, .int x_436), (0, .ref h0), (1, .int p1), (2, .int v2)]) hx hb dX0_namesAhead_36 hl (k := 3) rfl (by rw [ex_436]; rfl) (by decide) rfl (fun ls hl => ?_)
          refine lv_goto (tgt := 4) hx hb dX0_namesAhead_39 (by decide) ?_
          exact ih v2 x_436 _ _ _ (gi_w gx_436 (by decide)) (by have av3 := gv3.1; have bv3 := gv3.2; have qgx_436 := gx_436.1; have rgx_436 := gx_436.2; have igx_436 : x_436.toInt = v3.toInt + 1 := (by have hc1 : (1 : Int32).toInt = 1 := (by decide); have h9 := gi_addI ex_436 (by have h1 := g_431.1; have h2 := (gi_c 1 1 (by decide)).1; have h3 := g_431.2; have h4 := (gi_c 1 1 (by decide)).2; omega) (by have h1 := g_431.1; have h2 := (gi_c 1 1 (by decide)).1; have h3 := g_431.2; have h4 := (gi_c 1 1 (by decide)).2; omega); rw [hc1] at h9; exact h9); have qgv3 := g_431.1; have rgv3 := g_431.2; omega) hP hS (lv_sub hl [1, 2, 3, 0] rfl)
        · have g_437 : gi x_433 (-2147483648) 2147483646 := gi_lt_l (Int32.not_le.mp c_435) (gi_any x_433) (gi_any x_434) (by decide)
          have g_438 : gi x_434 (-2147483647) 2147483647 := gi_lt_r (Int32.not_le.mp c_435) (gi_any x_433) (gi_any x_434) (by decide)
          obtain ⟨x_439, ex_439⟩ : ∃ y : Int32, y = v2 + 1 := ⟨_, rfl⟩
          refine lv_iinc (v := x_439) (lv' := [(2, .int x_439), (0, .ref h0), (1, .int p1), (3, .int v3)]) hx hb dX0_namesAhead_33 hl (k := 2) rfl (by rw [ex_439]; rfl) (by decide) rfl (fun ls hl => ?_)
          obtain ⟨x_440, ex_440⟩ : ∃ y : Int32, y = v3 + 1 := ⟨_, rfl⟩
          have gx_440 : gi x_440 1 6 := gi_add ex_440 g_431 (gi_c 1 1 (by decide)) (by decide)
          refine lv_iinc (v := x_440) (lv' := [(3, .int x_440), (2, .int x_439), (0, .ref h0), (1, .int p1)]) hx hb dX0_namesAhead_36 hl (k := 3) rfl (by rw [ex_440]; rfl) (by decide) rfl (fun ls hl => ?_)
          refine lv_goto (tgt := 4) hx hb dX0_namesAhead_39 (by decide) ?_
          exact ih x_439 x_440 _ _ _ (gi_w gx_440 (by decide)) (by have av3 := gv3.1; have bv3 := gv3.2; have qgx_440 := gx_440.1; have rgx_440 := gx_440.2; have igx_440 : x_440.toInt = v3.toInt + 1 := (by have hc1 : (1 : Int32).toInt = 1 := (by decide); have h9 := gi_addI ex_440 (by have h1 := g_431.1; have h2 := (gi_c 1 1 (by decide)).1; have h3 := g_431.2; have h4 := (gi_c 1 1 (by decide)).2; omega) (by have h1 := g_431.1; have h2 := (gi_c 1 1 (by decide)).1; have h3 := g_431.2; have h4 := (gi_c 1 1 (by decide)).2; omega); rw [hc1] at h9; exact h9); have qgv3 := g_431.1; have rgv3 := g_431.2; omega) hP hS (lv_sub hl [2, 3, 1, 0] rfl)
set_option maxHeartbeats 4000000 in
set_option maxRecDepth 100000 in
theorem sX0_namesAhead (l : Launch) (dC : Nat → ClassId) (dI : Nat → Nat → Nat) (h0 : Nat) (pl : Nat) (amonths : Int32) (afull : Int32) (alean : Int32) (alines : Int32) (ahasMoon : Int32) (amoonStart : Int32) (amoonStep : Int32) (aplaceCount : Int32) (areportCount : Int32) (adeedCount : Int32) (re : Nat) (de : Nat) (kpl : ClassId) (pa : Nat → Nat) (p_name : Nat → Int32) (p_trust : Nat → Int32) (p1 : Int32) (gamonths : gi amonths 0 24) (gafull : gi afull 0 5) (galean : gi alean 0 5) (gahasMoon : gi ahasMoon 0 1) (gaplaceCount : gi aplaceCount 0 6) (gareportCount : gi areportCount 0 24) (gadeedCount : gi adeedCount 0 8) (gp1 : gi p1 0 5) : Met l yX0_namesAhead (.code yX0_namesAhead cX0_namesAhead 4 (some .int) :: wsGA) ({ frames := 0, cells := 0, slots := 0, locals := 0 }) (va_Pc [.ref h0, .int p1] (fun U => va_P (dC, dI) vwCl [(h0, .inr (0, [.int amonths, .int afull, .int alean, .int alines, .int ahasMoon, .int amoonStart, .int amoonStep, .int aplaceCount, .int areportCount, .int adeedCount, .ref pl, .ref re, .ref de])), (pl, .inl (kpl, 6, .inr (.inr (.inr (.inr (fun i => some (pa i)))))))] U.heap ∧ va_K (dC, dI) vwCl [(kpl, .object RX5)] U ∧ nzA U ∧ va_P (dC, dI) vwCl (gz_fam 6 pa 5 (fun i => [.int (p_name i), .int (p_trust i)])) U.heap)) (va_Qi (fun (r : Int32) (u : Unit) => gi r (-2147483648) 2147483647) (fun _ _ => True) (fun _ => False)) 0 0 (fun _ => False) := by
  refine Met.ofW (cc := cX0_namesAhead) (maxL := 4) (ret := (some .int)) (by decide) rfl ?_
  intro p e s m args below meth c s₁ B hml hv
  obtain ⟨rfl, hP, hK, hz, hF0⟩ := hv
  have hx := B.exec
  have hb := B.bytes
  have hr := B.returns
  have hts := atoms_spec (ws := (.code yX0_namesAhead cX0_namesAhead 4 (some .int) :: wsGA)) B.pre
  have hown : s.vm.findClass RX0 = some m.cls := findClass_of_methodNamed B.named
  have hlocks := B.notSynchronized
  have hS : va_S (fun _ => False) s.heap s.heap [] := va_S.rf
  have hFA0 : gz_ap (fun _ => False) (gz_fam 6 pa 5 (fun i => [.int (p_name i), .int (p_trust i)])) := gz_ap0
  have hl := lv_entry ([.ref h0, .int p1]) (n := 4) (Nat.le_of_ble_eq_true rfl)
  rw [lg_entry_eq]
  generalize (lg_sl ([.ref h0, .int p1]) ++ List.replicate (4 - (lg_sl ([.ref h0, .int p1])).length) Slot.unset).toArray = ls at hl ⊢
  have hl : lv_has ls 4 [(0, .ref h0), (1, .int p1)] := hl
  refine lv_iconst (v := 0) hx hb dX0_namesAhead_0 (by decide) ?_
  refine lv_istore_n (lv' := [(2, .int 0), (0, .ref h0), (1, .int p1)]) hx hb dX0_namesAhead_1 rfl hl (by decide) rfl (fun ls hl => ?_)
  refine lv_iconst (v := 0) hx hb dX0_namesAhead_2 (by decide) ?_
  refine lv_istore_n (lv' := [(3, .int 0), (2, .int 0), (0, .ref h0), (1, .int p1)]) hx hb dX0_namesAhead_3 rfl hl (by decide) rfl (fun ls hl => ?_)
  refine (lp_sX0_namesAhead h0 pl amonths afull alean alines ahasMoon amoonStart amoonStep aplaceCount areportCount adeedCount re de kpl pa p_name p_trust p1 gamonths gafull galean gahasMoon gaplaceCount gareportCount gadeedCount gp1 hx hb hml hown hts hK hz hF0 hFA0 (Nat.le_of_ble_eq_true rfl) (Nat.le_of_ble_eq_true rfl) (Nat.zero_le _) (Nat.zero_le _) (fun v H locs ls hP hS hl => ?_) 26) 0 0 _ _ _ (gi_w (gi_c 0 0 (by decide)) (by decide)) (by have k0 : (0 : Int32).toInt = 0 := (by decide); omega) hP hS (lv_sub hl [2, 3, 1, 0] rfl)
  · skip
    exact W.iret (v := v) hx hb hr (fun t ht hW => ⟨⟨v, (), rfl, (gi_any v), trivial⟩, hS.F ht⟩) hS.2.2 dX0_namesAhead_43
theorem dX0_standingOf_0 : decode cX0_standingOf 0 = .ok (.iconst 0, 1) := by decide +kernel
theorem dX0_standingOf_1 : decode cX0_standingOf 1 = .ok (.istore_n 2, 1) := by decide +kernel
theorem dX0_standingOf_2 : decode cX0_standingOf 2 = .ok (.iconst 0, 1) := by decide +kernel
theorem dX0_standingOf_3 : decode cX0_standingOf 3 = .ok (.istore_n 3, 1) := by decide +kernel
theorem dX0_standingOf_4 : decode cX0_standingOf 4 = .ok (.iload_n 3, 1) := by decide +kernel
theorem dX0_standingOf_5 : decode cX0_standingOf 5 = .ok (.aload_n 0, 1) := by decide +kernel
theorem dX0_standingOf_6 : decode cX0_standingOf 6 = .ok (.getfield 58, 3) := by decide +kernel
theorem dX0_standingOf_9 : decode cX0_standingOf 9 = .ok (.if_icmp .ge 37, 3) := by decide +kernel
theorem dX0_standingOf_12 : decode cX0_standingOf 12 = .ok (.aload_n 0, 1) := by decide +kernel
theorem dX0_standingOf_13 : decode cX0_standingOf 13 = .ok (.getfield 19, 3) := by decide +kernel
theorem dX0_standingOf_16 : decode cX0_standingOf 16 = .ok (.iload_n 3, 1) := by decide +kernel
theorem dX0_standingOf_17 : decode cX0_standingOf 17 = .ok (.aaload, 1) := by decide +kernel
theorem dX0_standingOf_18 : decode cX0_standingOf 18 = .ok (.getfield 77, 3) := by decide +kernel
theorem dX0_standingOf_21 : decode cX0_standingOf 21 = .ok (.iload_n 1, 1) := by decide +kernel
theorem dX0_standingOf_22 : decode cX0_standingOf 22 = .ok (.if_icmp .ne 18, 3) := by decide +kernel
theorem dX0_standingOf_25 : decode cX0_standingOf 25 = .ok (.aload_n 0, 1) := by decide +kernel
theorem dX0_standingOf_26 : decode cX0_standingOf 26 = .ok (.getfield 19, 3) := by decide +kernel
theorem dX0_standingOf_29 : decode cX0_standingOf 29 = .ok (.iload_n 3, 1) := by decide +kernel
theorem dX0_standingOf_30 : decode cX0_standingOf 30 = .ok (.aaload, 1) := by decide +kernel
theorem dX0_standingOf_31 : decode cX0_standingOf 31 = .ok (.getfield 96, 3) := by decide +kernel
theorem dX0_standingOf_34 : decode cX0_standingOf 34 = .ok (.ifCond .ne 6, 3) := by decide +kernel
theorem dX0_standingOf_37 : decode cX0_standingOf 37 = .ok (.iinc 2 1, 3) := by decide +kernel
theorem dX0_standingOf_40 : decode cX0_standingOf 40 = .ok (.iinc 3 1, 3) := by decide +kernel
theorem dX0_standingOf_43 : decode cX0_standingOf 43 = .ok (.goto (-39), 3) := by decide +kernel
theorem dX0_standingOf_46 : decode cX0_standingOf 46 = .ok (.iload_n 2, 1) := by decide +kernel
theorem dX0_standingOf_47 : decode cX0_standingOf 47 = .ok (.ireturn, 1) := by decide +kernel
set_option maxHeartbeats 4000000 in
set_option maxRecDepth 100000 in
theorem lp_sX0_standingOf {p : Program} {l : Launch} {e : Env} {R : Room} {s : State} {m : MethodId} {args : Array Value} {below : List Frame} {meth : Method} {c : Code} {Q : State → Prop} {A : Nat → Prop} {cells slots : Nat} {dC : Nat → ClassId} {dI : Nat → Nat → Nat} (h0 : Nat) (re : Nat) (amonths : Int32) (afull : Int32) (alean : Int32) (alines : Int32) (ahasMoon : Int32) (amoonStart : Int32) (amoonStep : Int32) (aplaceCount : Int32) (areportCount : Int32) (adeedCount : Int32) (pl : Nat) (de : Nat) (kre : ClassId) (ra : Nat → Nat) (r_place : Nat → Int32) (r_kind : Nat → Int32) (r_month : Nat → Int32) (r_day : Nat → Int32) (r_known : Nat → Int32) (r_struck : Nat → Int32) (p1 : Int32) (gamonths : gi amonths 0 24) (gafull : gi afull 0 5) (galean : gi alean 0 5) (gahasMoon : gi ahasMoon 0 1) (gaplaceCount : gi aplaceCount 0 6) (gareportCount : gi areportCount 0 24) (gadeedCount : gi adeedCount 0 8) (gr_place : ga r_place 24 0 5) (gr_month : ga r_month 24 0 23) (gr_struck : ga r_struck 24 0 1) (hx : p.tables.exec = Jvm.exec) (hb : c.code = cX0_standingOf) (hml : c.maxLocals = 4) (hown : s.vm.findClass RX0 = some m.cls) (hts : ∀ w ∈ ((.code yX0_standingOf cX0_standingOf 4 (some .int) :: wsGA) : List Cond), w.before args s = true) (hK : va_K (dC, dI) vwCl [(kre, .object RX7)] s) (hz : nzA s) (hF0 : va_P (dC, dI) vwCl (gz_fam 24 ra 7 (fun i => [.int (r_place i), .int (r_kind i), .int (r_month i), .int (r_day i), .int (r_known i), .int (r_struck i)])) s.heap) (hFA0 : gz_ap A (gz_fam 24 ra 7 (fun i => [.int (r_place i), .int (r_kind i), .int (r_month i), .int (r_day i), .int (r_known i), .int (r_struck i)]))) (hRf : 0 ≤ R.frames) (hRl : 0 ≤ R.locals) (hRc : cells ≤ R.cells) (hRs : slots ≤ R.slots) (kr47 : ∀ (v : Int32) (H : Heap) (locs : List Loc) (ls : Array Slot), va_P (dC, dI) vwCl [(h0, .inr (0, [.int amonths, .int afull, .int alean, .int alines, .int ahasMoon, .int amoonStart, .int amoonStep, .int aplaceCount, .int areportCount, .int adeedCount, .ref pl, .ref re, .ref de])), (re, .inl (kre, 24, .inr (.inr (.inr (.inr (fun i => some (ra i)))))))] H → va_S A s.heap H locs → lv_has ls 4 [] → W p l e R s m args below meth c H locs cells slots Q (F0 m 47 ls [.int v])) : ∀ z : Nat, (∀ (v2 : Int32) (v3 : Int32) (H : Heap) (locs : List Loc) (ls : Array Slot), gi v3 0 24 → 49 + (-2) * v3.toInt < (z : Int) → va_P (dC, dI) vwCl [(h0, .inr (0, [.int amonths, .int afull, .int alean, .int alines, .int ahasMoon, .int amoonStart, .int amoonStep, .int aplaceCount, .int areportCount, .int adeedCount, .ref pl, .ref re, .ref de])), (re, .inl (kre, 24, .inr (.inr (.inr (.inr (fun i => some (ra i)))))))] H → va_S A s.heap H locs → lv_has ls 4 [(0, .ref h0), (1, .int p1), (2, .int v2), (3, .int v3)] → W p l e R s m args below meth c H locs cells slots Q (F0 m 4 ls [])) := by
  intro z
  induction z with
  | zero =>
    intro v2 v3 H locs ls gv3 hmu hP hS hl
    exact absurd hmu (by have hv31 := gv3.1; have hv32 := gv3.2; omega)
  | succ z ih =>
      intro v2 v3 H locs ls gv3 hmu hP hS hl
      refine lv_iload_n hx hb dX0_standingOf_4 rfl (lv_at hl 3 rfl) ?_
      refine lv_aload_n hx hb dX0_standingOf_5 rfl (lv_at hl 0 rfl) ?_
      refine va_get (D := (dC, dI)) (ci := 0) (v := .int areportCount) (C := RX0) (T := TX0) (N := 13) hx hb hts (fun w h => List.mem_cons_of_mem _ (jnGA_X0 w h)) hown hK hP 0 rfl rfl 8 (by decide) (hts _ (List.mem_cons_of_mem _ mGA_160)) (fun _ h9 => h9) rfl dX0_standingOf_6 ?_
      refine lv_icmp_ge (tgt := 46) hx hb dX0_standingOf_9 (by decide) (fun c_547 => ?_) (fun c_547 => ?_)
      · refine lv_iload_n hx hb dX0_standingOf_46 rfl (lv_at hl 2 rfl) ?_
        exact kr47 v2 _ _ _ hP hS (lv_sub hl [] rfl)
      · have g_548 : gi v3 0 23 := gi_lt_l (Int32.not_le.mp c_547) gv3 gareportCount (by decide)
        have g_549 : gi areportCount 1 24 := gi_lt_r (Int32.not_le.mp c_547) gv3 gareportCount (by decide)
        refine lv_aload_n hx hb dX0_standingOf_12 rfl (lv_at hl 0 rfl) ?_
        refine va_get (D := (dC, dI)) (ci := 0) (v := .ref re) (C := RX0) (T := TX0) (N := 13) hx hb hts (fun w h => List.mem_cons_of_mem _ (jnGA_X0 w h)) hown hK hP 0 rfl rfl 11 (by decide) (hts _ (List.mem_cons_of_mem _ mGA_72)) (fun _ h9 => h9) rfl dX0_standingOf_13 ?_
        refine lv_iload_n hx hb dX0_standingOf_16 rfl (lv_at hl 3 rfl) ?_
        refine va_aldq hx hb hK hP 1 0 rfl rfl (gi_in g_548 (by decide)) dX0_standingOf_17 ?_
        refine W.eq (g2 := F0 m 18 ls [.ref (ra v3.toNatClampNeg)]) rfl ?_
        refine va_get (D := (dC, dI)) (ci := 7) (v := .int (r_place v3.toNatClampNeg)) (C := RX7) (T := TX7) (N := 6) hx hb hts (fun w h => List.mem_cons_of_mem _ (jnGA_X7 w h)) hown hK (gz_ro hF0 hFA0 hS) (v3.toNatClampNeg) (gz_fam_at (gz_clt (gi_in (n := 24) g_548 (by decide)))) rfl 0 (by decide) (hts _ (List.mem_cons_of_mem _ mGA_317)) (fun _ h9 => h9) rfl dX0_standingOf_18 ?_
        refine lv_topi (fun x_550 ex_550 => ?_)
        have gx_550 : gi x_550 0 5 := ga_at gr_place (gi_in (n := 24) g_548 (by decide)) ex_550
        refine lv_iload_n hx hb dX0_standingOf_21 rfl (lv_at hl 1 rfl) ?_
        refine lv_icmp_ne (tgt := 40) hx hb dX0_standingOf_22 (by decide) (fun c_551 => ?_) (fun c_551 => ?_)
        · obtain ⟨x_552, ex_552⟩ : ∃ y : Int32, y = v3 + 1 := ⟨_, rfl⟩
          have gx_552 : gi x_552 1 24 := gi_add ex_552 g_548 (gi_c 1 1 (by decide)) (by decide)
          refine lv_iinc (v := x_552) (lv' := [(3, .int x_552), (0, .ref h0), (1, .int p1), (2, .int v2)]) hx hb dX0_standingOf_40 hl (k := 3) rfl (by rw [ex_552]; rfl) (by decide) rfl (fun ls hl => ?_)
          refine lv_goto (tgt := 4) hx hb dX0_standingOf_43 (by decide) ?_
          exact ih v2 x_552 _ _ _ (gi_w gx_552 (by decide)) (by have av3 := gv3.1; have bv3 := gv3.2; have qgx_552 := gx_552.1; have rgx_552 := gx_552.2; have igx_552 : x_552.toInt = v3.toInt + 1 := (by have hc1 : (1 : Int32).toInt = 1 := (by decide); have h9 := gi_addI ex_552 (by have h1 := g_548.1; have h2 := (gi_c 1 1 (by decide)).1; have h3 := g_548.2; have h4 := (gi_c 1 1 (by decide)).2; omega) (by have h1 := g_548.1; have h2 := (gi_c 1 1 (by decide)).1; have h3 := g_548.2; have h4 := (gi_c 1 1 (by decide)).2; omega); rw [hc1] at h9; exact h9); have qgv3 := g_548.1; have rgv3 := g_548.2; omega) hP hS (lv_sub hl [1, 2, 3, 0] rfl)
        · have g_553 : gi p1 0 5 := gi_eq c_551.symm gx_550
          refine lv_aload_n hx hb dX0_standingOf_25 rfl (lv_at hl 0 rfl) ?_
          refine va_get (D := (dC, dI)) (ci := 0) (v := .ref re) (C := RX0) (T := TX0) (N := 13) hx hb hts (fun w h => List.mem_cons_of_mem _ (jnGA_X0 w h)) hown hK hP 0 rfl rfl 11 (by decide) (hts _ (List.mem_cons_of_mem _ mGA_72)) (fun _ h9 => h9) rfl dX0_standingOf_26 ?_
          refine lv_iload_n hx hb dX0_standingOf_29 rfl (lv_at hl 3 rfl) ?_
          refine va_aldq hx hb hK hP 1 0 rfl rfl (gi_in g_548 (by decide)) dX0_standingOf_30 ?_
          refine W.eq (g2 := F0 m 31 ls [.ref (ra v3.toNatClampNeg)]) rfl ?_
          refine va_get (D := (dC, dI)) (ci := 7) (v := .int (r_struck v3.toNatClampNeg)) (C := RX7) (T := TX7) (N := 6) hx hb hts (fun w h => List.mem_cons_of_mem _ (jnGA_X7 w h)) hown hK (gz_ro hF0 hFA0 hS) (v3.toNatClampNeg) (gz_fam_at (gz_clt (gi_in (n := 24) g_548 (by decide)))) rfl 5 (by decide) (hts _ (List.mem_cons_of_mem _ mGA_322)) (fun _ h9 => h9) rfl dX0_standingOf_31 ?_
          refine lv_topi (fun x_554 ex_554 => ?_)
          have gx_554 : gi x_554 0 1 := ga_at gr_struck (gi_in (n := 24) g_548 (by decide)) ex_554
          refine lv_if_ne (tgt := 40) hx hb dX0_standingOf_34 (by decide) (fun c_555 => ?_) (fun c_555 => ?_)
          · have g_556 : gi x_554 1 1 := gi_ne_lo c_555 gx_554 (gi_c 0 0 (by decide)) (by decide)
            obtain ⟨x_557, ex_557⟩ : ∃ y : Int32, y = v3 + 1 := ⟨_, rfl⟩
            have gx_557 : gi x_557 1 24 := gi_add ex_557 g_548 (gi_c 1 1 (by decide)) (by decide)
            refine lv_iinc (v := x_557) (lv' := [(3, .int x_557), (0, .ref h0), (1, .int p1), (2, .int v2)]) hx hb dX0_standingOf_40 hl (k := 3) rfl (by rw [ex_557]; rfl) (by decide) rfl (fun ls hl => ?_)
            refine lv_goto (tgt := 4) hx hb dX0_standingOf_43 (by decide) ?_
            exact ih v2 x_557 _ _ _ (gi_w gx_557 (by decide)) (by have av3 := gv3.1; have bv3 := gv3.2; have qgx_557 := gx_557.1; have rgx_557 := gx_557.2; have igx_557 : x_557.toInt = v3.toInt + 1 := (by have hc1 : (1 : Int32).toInt = 1 := (by decide); have h9 := gi_addI ex_557 (by have h1 := g_548.1; have h2 := (gi_c 1 1 (by decide)).1; have h3 := g_548.2; have h4 := (gi_c 1 1 (by decide)).2; omega) (by have h1 := g_548.1; have h2 := (gi_c 1 1 (by decide)).1; have h3 := g_548.2; have h4 := (gi_c 1 1 (by decide)).2; omega); rw [hc1] at h9; exact h9); have qgv3 := g_548.1; have rgv3 := g_548.2; omega) hP hS (lv_sub hl [1, 2, 3, 0] rfl)
          · have g_558 : gi x_554 0 0 := gi_eq c_555 (gi_c 0 0 (by decide))
            obtain ⟨x_559, ex_559⟩ : ∃ y : Int32, y = v2 + 1 := ⟨_, rfl⟩
            refine lv_iinc (v := x_559) (lv' := [(2, .int x_559), (0, .ref h0), (1, .int p1), (3, .int v3)]) hx hb dX0_standingOf_37 hl (k := 2) rfl (by rw [ex_559]; rfl) (by decide) rfl (fun ls hl => ?_)
            obtain ⟨x_560, ex_560⟩ : ∃ y : Int32, y = v3 + 1 := ⟨_, rfl⟩
            have gx_560 : gi x_560 1 24 := gi_add ex_560 g_548 (gi_c 1 1 (by decide)) (by decide)
            refine lv_iinc (v := x_560) (lv' := [(3, .int x_560), (2, .int x_559), (0, .ref h0), (1, .int p1)]) hx hb dX0_standingOf_40 hl (k := 3) rfl (by rw [ex_560]; rfl) (by decide) rfl (fun ls hl => ?_)
            refine lv_goto (tgt := 4) hx hb dX0_standingOf_43 (by decide) ?_
            exact ih x_559 x_560 _ _ _ (gi_w gx_560 (by decide)) (by have av3 := gv3.1; have bv3 := gv3.2; have qgx_560 := gx_560.1; have rgx_560 := gx_560.2; have igx_560 : x_560.toInt = v3.toInt + 1 := (by have hc1 : (1 : Int32).toInt = 1 := (by decide); have h9 := gi_addI ex_560 (by have h1 := g_548.1; have h2 := (gi_c 1 1 (by decide)).1; have h3 := g_548.2; have h4 := (gi_c 1 1 (by decide)).2; omega) (by have h1 := g_548.1; have h2 := (gi_c 1 1 (by decide)).1; have h3 := g_548.2; have h4 := (gi_c 1 1 (by decide)).2; omega); rw [hc1] at h9; exact h9); have qgv3 := g_548.1; have rgv3 := g_548.2; omega) hP hS (lv_sub hl [2, 3, 1, 0] rfl)
set_option maxHeartbeats 4000000 in
set_option maxRecDepth 100000 in
theorem sX0_standingOf (l : Launch) (dC : Nat → ClassId) (dI : Nat → Nat → Nat) (h0 : Nat) (re : Nat) (amonths : Int32) (afull : Int32) (alean : Int32) (alines : Int32) (ahasMoon : Int32) (amoonStart : Int32) (amoonStep : Int32) (aplaceCount : Int32) (areportCount : Int32) (adeedCount : Int32) (pl : Nat) (de : Nat) (kre : ClassId) (ra : Nat → Nat) (r_place : Nat → Int32) (r_kind : Nat → Int32) (r_month : Nat → Int32) (r_day : Nat → Int32) (r_known : Nat → Int32) (r_struck : Nat → Int32) (p1 : Int32) (gamonths : gi amonths 0 24) (gafull : gi afull 0 5) (galean : gi alean 0 5) (gahasMoon : gi ahasMoon 0 1) (gaplaceCount : gi aplaceCount 0 6) (gareportCount : gi areportCount 0 24) (gadeedCount : gi adeedCount 0 8) (gr_place : ga r_place 24 0 5) (gr_month : ga r_month 24 0 23) (gr_struck : ga r_struck 24 0 1) : Met l yX0_standingOf (.code yX0_standingOf cX0_standingOf 4 (some .int) :: wsGA) ({ frames := 0, cells := 0, slots := 0, locals := 0 }) (va_Pc [.ref h0, .int p1] (fun U => va_P (dC, dI) vwCl [(h0, .inr (0, [.int amonths, .int afull, .int alean, .int alines, .int ahasMoon, .int amoonStart, .int amoonStep, .int aplaceCount, .int areportCount, .int adeedCount, .ref pl, .ref re, .ref de])), (re, .inl (kre, 24, .inr (.inr (.inr (.inr (fun i => some (ra i)))))))] U.heap ∧ va_K (dC, dI) vwCl [(kre, .object RX7)] U ∧ nzA U ∧ va_P (dC, dI) vwCl (gz_fam 24 ra 7 (fun i => [.int (r_place i), .int (r_kind i), .int (r_month i), .int (r_day i), .int (r_known i), .int (r_struck i)])) U.heap)) (va_Qi (fun (r : Int32) (u : Unit) => gi r (-2147483648) 2147483647) (fun _ _ => True) (fun _ => False)) 0 0 (fun _ => False) := by
  refine Met.ofW (cc := cX0_standingOf) (maxL := 4) (ret := (some .int)) (by decide) rfl ?_
  intro p e s m args below meth c s₁ B hml hv
  obtain ⟨rfl, hP, hK, hz, hF0⟩ := hv
  have hx := B.exec
  have hb := B.bytes
  have hr := B.returns
  have hts := atoms_spec (ws := (.code yX0_standingOf cX0_standingOf 4 (some .int) :: wsGA)) B.pre
  have hown : s.vm.findClass RX0 = some m.cls := findClass_of_methodNamed B.named
  have hlocks := B.notSynchronized
  have hS : va_S (fun _ => False) s.heap s.heap [] := va_S.rf
  have hFA0 : gz_ap (fun _ => False) (gz_fam 24 ra 7 (fun i => [.int (r_place i), .int (r_kind i), .int (r_month i), .int (r_day i), .int (r_known i), .int (r_struck i)])) := gz_ap0
  have hl := lv_entry ([.ref h0, .int p1]) (n := 4) (Nat.le_of_ble_eq_true rfl)
  rw [lg_entry_eq]
  generalize (lg_sl ([.ref h0, .int p1]) ++ List.replicate (4 - (lg_sl ([.ref h0, .int p1])).length) Slot.unset).toArray = ls at hl ⊢
  have hl : lv_has ls 4 [(0, .ref h0), (1, .int p1)] := hl
  refine lv_iconst (v := 0) hx hb dX0_standingOf_0 (by decide) ?_
  refine lv_istore_n (lv' := [(2, .int 0), (0, .ref h0), (1, .int p1)]) hx hb dX0_standingOf_1 rfl hl (by decide) rfl (fun ls hl => ?_)
  refine lv_iconst (v := 0) hx hb dX0_standingOf_2 (by decide) ?_
  refine lv_istore_n (lv' := [(3, .int 0), (2, .int 0), (0, .ref h0), (1, .int p1)]) hx hb dX0_standingOf_3 rfl hl (by decide) rfl (fun ls hl => ?_)
  refine (lp_sX0_standingOf h0 re amonths afull alean alines ahasMoon amoonStart amoonStep aplaceCount areportCount adeedCount pl de kre ra r_place r_kind r_month r_day r_known r_struck p1 gamonths gafull galean gahasMoon gaplaceCount gareportCount gadeedCount gr_place gr_month gr_struck hx hb hml hown hts hK hz hF0 hFA0 (Nat.le_of_ble_eq_true rfl) (Nat.le_of_ble_eq_true rfl) (Nat.zero_le _) (Nat.zero_le _) (fun v H locs ls hP hS hl => ?_) 62) 0 0 _ _ _ (gi_w (gi_c 0 0 (by decide)) (by decide)) (by have k0 : (0 : Int32).toInt = 0 := (by decide); omega) hP hS (lv_sub hl [2, 3, 1, 0] rfl)
  · skip
    exact W.iret (v := v) hx hb hr (fun t ht hW => ⟨⟨v, (), rfl, (gi_any v), trivial⟩, hS.F ht⟩) hS.2.2 dX0_standingOf_47
theorem dX0_standing_0 : decode cX0_standing 0 = .ok (.iconst 0, 1) := by decide +kernel
theorem dX0_standing_1 : decode cX0_standing 1 = .ok (.istore_n 1, 1) := by decide +kernel
theorem dX0_standing_2 : decode cX0_standing 2 = .ok (.iconst 0, 1) := by decide +kernel
theorem dX0_standing_3 : decode cX0_standing 3 = .ok (.istore_n 2, 1) := by decide +kernel
theorem dX0_standing_4 : decode cX0_standing 4 = .ok (.iload_n 2, 1) := by decide +kernel
theorem dX0_standing_5 : decode cX0_standing 5 = .ok (.aload_n 0, 1) := by decide +kernel
theorem dX0_standing_6 : decode cX0_standing 6 = .ok (.getfield 55, 3) := by decide +kernel
theorem dX0_standing_9 : decode cX0_standing 9 = .ok (.if_icmp .ge 17, 3) := by decide +kernel
theorem dX0_standing_12 : decode cX0_standing 12 = .ok (.iload_n 1, 1) := by decide +kernel
theorem dX0_standing_13 : decode cX0_standing 13 = .ok (.aload_n 0, 1) := by decide +kernel
theorem dX0_standing_14 : decode cX0_standing 14 = .ok (.iload_n 2, 1) := by decide +kernel
theorem dX0_standing_15 : decode cX0_standing 15 = .ok (.invokevirtual 107, 3) := by decide +kernel
theorem dX0_standing_18 : decode cX0_standing 18 = .ok (.iadd, 1) := by decide +kernel
theorem dX0_standing_19 : decode cX0_standing 19 = .ok (.istore_n 1, 1) := by decide +kernel
theorem dX0_standing_20 : decode cX0_standing 20 = .ok (.iinc 2 1, 3) := by decide +kernel
theorem dX0_standing_23 : decode cX0_standing 23 = .ok (.goto (-19), 3) := by decide +kernel
theorem dX0_standing_26 : decode cX0_standing 26 = .ok (.iload_n 1, 1) := by decide +kernel
theorem dX0_standing_27 : decode cX0_standing 27 = .ok (.ireturn, 1) := by decide +kernel
set_option maxHeartbeats 4000000 in
set_option maxRecDepth 100000 in
theorem lp_sX0_standing {p : Program} {l : Launch} {e : Env} {R : Room} {s : State} {m : MethodId} {args : Array Value} {below : List Frame} {meth : Method} {c : Code} {Q : State → Prop} {A : Nat → Prop} {cells slots : Nat} {dC : Nat → ClassId} {dI : Nat → Nat → Nat} (h0 : Nat) (re : Nat) (amonths : Int32) (afull : Int32) (alean : Int32) (alines : Int32) (ahasMoon : Int32) (amoonStart : Int32) (amoonStep : Int32) (aplaceCount : Int32) (areportCount : Int32) (adeedCount : Int32) (pl : Nat) (de : Nat) (kre : ClassId) (ra : Nat → Nat) (r_place : Nat → Int32) (r_kind : Nat → Int32) (r_month : Nat → Int32) (r_day : Nat → Int32) (r_known : Nat → Int32) (r_struck : Nat → Int32) (gamonths : gi amonths 0 24) (gafull : gi afull 0 5) (galean : gi alean 0 5) (gahasMoon : gi ahasMoon 0 1) (gaplaceCount : gi aplaceCount 0 6) (gareportCount : gi areportCount 0 24) (gadeedCount : gi adeedCount 0 8) (gr_place : ga r_place 24 0 5) (gr_month : ga r_month 24 0 23) (gr_struck : ga r_struck 24 0 1) (hx : p.tables.exec = Jvm.exec) (hb : c.code = cX0_standing) (hml : c.maxLocals = 3) (hown : s.vm.findClass RX0 = some m.cls) (hts : ∀ w ∈ ((.code yX0_standing cX0_standing 3 (some .int) :: wsGA) : List Cond), w.before args s = true) (hK : va_K (dC, dI) vwCl [(kre, .object RX7)] s) (hz : nzA s) (hF0 : va_P (dC, dI) vwCl (gz_fam 24 ra 7 (fun i => [.int (r_place i), .int (r_kind i), .int (r_month i), .int (r_day i), .int (r_known i), .int (r_struck i)])) s.heap) (hFA0 : gz_ap A (gz_fam 24 ra 7 (fun i => [.int (r_place i), .int (r_kind i), .int (r_month i), .int (r_day i), .int (r_known i), .int (r_struck i)]))) (hRf : 1 ≤ R.frames) (hRl : 23 ≤ R.locals) (hRc : cells ≤ R.cells) (hRs : slots ≤ R.slots) (kr27 : ∀ (v : Int32) (H : Heap) (locs : List Loc) (ls : Array Slot), va_P (dC, dI) vwCl [(h0, .inr (0, [.int amonths, .int afull, .int alean, .int alines, .int ahasMoon, .int amoonStart, .int amoonStep, .int aplaceCount, .int areportCount, .int adeedCount, .ref pl, .ref re, .ref de])), (re, .inl (kre, 24, .inr (.inr (.inr (.inr (fun i => some (ra i)))))))] H → va_S A s.heap H locs → lv_has ls 3 [] → W p l e R s m args below meth c H locs cells slots Q (F0 m 27 ls [.int v])) : ∀ z : Nat, (∀ (v1 : Int32) (v2 : Int32) (H : Heap) (locs : List Loc) (ls : Array Slot), gi v2 0 6 → 13 + (-2) * v2.toInt < (z : Int) → va_P (dC, dI) vwCl [(h0, .inr (0, [.int amonths, .int afull, .int alean, .int alines, .int ahasMoon, .int amoonStart, .int amoonStep, .int aplaceCount, .int areportCount, .int adeedCount, .ref pl, .ref re, .ref de])), (re, .inl (kre, 24, .inr (.inr (.inr (.inr (fun i => some (ra i)))))))] H → va_S A s.heap H locs → lv_has ls 3 [(0, .ref h0), (1, .int v1), (2, .int v2)] → W p l e R s m args below meth c H locs cells slots Q (F0 m 4 ls [])) := by
  intro z
  induction z with
  | zero =>
    intro v1 v2 H locs ls gv2 hmu hP hS hl
    exact absurd hmu (by have hv21 := gv2.1; have hv22 := gv2.2; omega)
  | succ z ih =>
      intro v1 v2 H locs ls gv2 hmu hP hS hl
      refine lv_iload_n hx hb dX0_standing_4 rfl (lv_at hl 2 rfl) ?_
      refine lv_aload_n hx hb dX0_standing_5 rfl (lv_at hl 0 rfl) ?_
      refine va_get (D := (dC, dI)) (ci := 0) (v := .int aplaceCount) (C := RX0) (T := TX0) (N := 13) hx hb hts (fun w h => List.mem_cons_of_mem _ (jnGA_X0 w h)) hown hK hP 0 rfl rfl 7 (by decide) (hts _ (List.mem_cons_of_mem _ mGA_159)) (fun _ h9 => h9) rfl dX0_standing_6 ?_
      refine lv_icmp_ge (tgt := 26) hx hb dX0_standing_9 (by decide) (fun c_43 => ?_) (fun c_43 => ?_)
      · refine lv_iload_n hx hb dX0_standing_26 rfl (lv_at hl 1 rfl) ?_
        exact kr27 v1 _ _ _ hP hS (lv_sub hl [] rfl)
      · have g_44 : gi v2 0 5 := gi_lt_l (Int32.not_le.mp c_43) gv2 gaplaceCount (by decide)
        have g_45 : gi aplaceCount 1 6 := gi_lt_r (Int32.not_le.mp c_43) gv2 gaplaceCount (by decide)
        refine lv_iload_n hx hb dX0_standing_12 rfl (lv_at hl 1 rfl) ?_
        refine lv_aload_n hx hb dX0_standing_13 rfl (lv_at hl 0 rfl) ?_
        refine lv_iload_n hx hb dX0_standing_14 rfl (lv_at hl 2 rfl) ?_
        have hPc := hP.sub (ws' := [(h0, .inr (0, [.int amonths, .int afull, .int alean, .int alines, .int ahasMoon, .int amoonStart, .int amoonStep, .int aplaceCount, .int areportCount, .int adeedCount, .ref pl, .ref re, .ref de])), (re, .inl (kre, 24, .inr (.inr (.inr (.inr (fun i => some (ra i)))))))]) [0, 1] rfl
        have hKc := hK.sub (tys' := [(kre, .object RX7)]) [0] rfl
        refine va_calli (va_runV (As := [.int v2]) (rest := [.int v1]) ⟨hx, hb, hml, hown, hts⟩ (sX0_standingOf l dC dI h0 re amonths afull alean alines ahasMoon amoonStart amoonStep aplaceCount areportCount adeedCount pl de kre ra r_place r_kind r_month r_day r_known r_struck v2 gamonths gafull galean gahasMoon (gi_w g_45 (by decide)) gareportCount gadeedCount gr_place gr_month gr_struck) (cwV 1 hts (gz_gV mGA_906 mGA_375 mGA_376 mGA_13 mGA_377 goodGA) rfl rfl rfl (by decide +kernel) ⟨Nat.le_trans (Nat.le_of_ble_eq_true rfl) hRf, Nat.le_trans (Nat.le_of_ble_eq_true rfl) hRl⟩) ⟨fun a U g mk q => by obtain ⟨q0, qP, qK, qZ, qF0⟩ := q; exact ⟨q0, qP, va_K.moved (u := U) (U := U.calling g mk a) (Vm.Alike.refl U.vm) qK, nzA_same (u := U) (U := U.calling g mk a) rfl qZ, qF0⟩, va_recv hKc hPc (ci := 0) (q0 := 0) rfl rfl, fun U hU hW => ⟨rfl, by rw [hU]; exact hPc, va_K.moved hW.alike hKc, nzA_warm hW hz, by rw [hU]; exact gz_ro hF0 hFA0 hS⟩⟩ rfl rfl hl.1 rfl (lv_room (Nat.le_of_ble_eq_true rfl)) dX0_standing_15 ⟨hRc, hRs⟩) hS (fun q _ h => h.elim) (fun q h => h.elim) (fun r_46 u t H1 locs ht hvm hw hB hz1 hk1 hS => ?_)
        have hP := gz_keep hP hk1
        generalize H1 = H at hP hS ⊢
        refine lv_iadd hx hb dX0_standing_18 ?_
        refine lv_topi (fun x_47 ex_47 => ?_)
        refine lv_istore_n (lv' := [(1, .int x_47), (0, .ref h0), (2, .int v2)]) hx hb dX0_standing_19 rfl hl (by decide) rfl (fun ls hl => ?_)
        obtain ⟨x_48, ex_48⟩ : ∃ y : Int32, y = v2 + 1 := ⟨_, rfl⟩
        have gx_48 : gi x_48 1 6 := gi_add ex_48 g_44 (gi_c 1 1 (by decide)) (by decide)
        refine lv_iinc (v := x_48) (lv' := [(2, .int x_48), (1, .int x_47), (0, .ref h0)]) hx hb dX0_standing_20 hl (k := 2) rfl (by rw [ex_48]; rfl) (by decide) rfl (fun ls hl => ?_)
        refine lv_goto (tgt := 4) hx hb dX0_standing_23 (by decide) ?_
        exact ih x_47 x_48 _ _ _ (gi_w gx_48 (by decide)) (by have av2 := gv2.1; have bv2 := gv2.2; have qgx_48 := gx_48.1; have rgx_48 := gx_48.2; have igx_48 : x_48.toInt = v2.toInt + 1 := (by have hc1 : (1 : Int32).toInt = 1 := (by decide); have h9 := gi_addI ex_48 (by have h1 := g_44.1; have h2 := (gi_c 1 1 (by decide)).1; have h3 := g_44.2; have h4 := (gi_c 1 1 (by decide)).2; omega) (by have h1 := g_44.1; have h2 := (gi_c 1 1 (by decide)).1; have h3 := g_44.2; have h4 := (gi_c 1 1 (by decide)).2; omega); rw [hc1] at h9; exact h9); have qgv2 := g_44.1; have rgv2 := g_44.2; omega) hP hS (lv_sub hl [2, 1, 0] rfl)
set_option maxHeartbeats 4000000 in
set_option maxRecDepth 100000 in
theorem sX0_standing (l : Launch) (dC : Nat → ClassId) (dI : Nat → Nat → Nat) (h0 : Nat) (re : Nat) (amonths : Int32) (afull : Int32) (alean : Int32) (alines : Int32) (ahasMoon : Int32) (amoonStart : Int32) (amoonStep : Int32) (aplaceCount : Int32) (areportCount : Int32) (adeedCount : Int32) (pl : Nat) (de : Nat) (kre : ClassId) (ra : Nat → Nat) (r_place : Nat → Int32) (r_kind : Nat → Int32) (r_month : Nat → Int32) (r_day : Nat → Int32) (r_known : Nat → Int32) (r_struck : Nat → Int32) (gamonths : gi amonths 0 24) (gafull : gi afull 0 5) (galean : gi alean 0 5) (gahasMoon : gi ahasMoon 0 1) (gaplaceCount : gi aplaceCount 0 6) (gareportCount : gi areportCount 0 24) (gadeedCount : gi adeedCount 0 8) (gr_place : ga r_place 24 0 5) (gr_month : ga r_month 24 0 23) (gr_struck : ga r_struck 24 0 1) : Met l yX0_standing (.code yX0_standing cX0_standing 3 (some .int) :: wsGA) ({ frames := 1, cells := 0, slots := 0, locals := 23 }) (va_Pc [.ref h0] (fun U => va_P (dC, dI) vwCl [(h0, .inr (0, [.int amonths, .int afull, .int alean, .int alines, .int ahasMoon, .int amoonStart, .int amoonStep, .int aplaceCount, .int areportCount, .int adeedCount, .ref pl, .ref re, .ref de])), (re, .inl (kre, 24, .inr (.inr (.inr (.inr (fun i => some (ra i)))))))] U.heap ∧ va_K (dC, dI) vwCl [(kre, .object RX7)] U ∧ nzA U ∧ va_P (dC, dI) vwCl (gz_fam 24 ra 7 (fun i => [.int (r_place i), .int (r_kind i), .int (r_month i), .int (r_day i), .int (r_known i), .int (r_struck i)])) U.heap)) (va_Qi (fun (r : Int32) (u : Unit) => gi r (-2147483648) 2147483647) (fun _ _ => True) (fun _ => False)) 0 0 (fun _ => False) := by
  refine Met.ofW (cc := cX0_standing) (maxL := 3) (ret := (some .int)) (by decide) rfl ?_
  intro p e s m args below meth c s₁ B hml hv
  obtain ⟨rfl, hP, hK, hz, hF0⟩ := hv
  have hx := B.exec
  have hb := B.bytes
  have hr := B.returns
  have hts := atoms_spec (ws := (.code yX0_standing cX0_standing 3 (some .int) :: wsGA)) B.pre
  have hown : s.vm.findClass RX0 = some m.cls := findClass_of_methodNamed B.named
  have hlocks := B.notSynchronized
  have hS : va_S (fun _ => False) s.heap s.heap [] := va_S.rf
  have hFA0 : gz_ap (fun _ => False) (gz_fam 24 ra 7 (fun i => [.int (r_place i), .int (r_kind i), .int (r_month i), .int (r_day i), .int (r_known i), .int (r_struck i)])) := gz_ap0
  have hl := lv_entry ([.ref h0]) (n := 3) (Nat.le_of_ble_eq_true rfl)
  rw [lg_entry_eq]
  generalize (lg_sl ([.ref h0]) ++ List.replicate (3 - (lg_sl ([.ref h0])).length) Slot.unset).toArray = ls at hl ⊢
  have hl : lv_has ls 3 [(0, .ref h0)] := hl
  refine lv_iconst (v := 0) hx hb dX0_standing_0 (by decide) ?_
  refine lv_istore_n (lv' := [(1, .int 0), (0, .ref h0)]) hx hb dX0_standing_1 rfl hl (by decide) rfl (fun ls hl => ?_)
  refine lv_iconst (v := 0) hx hb dX0_standing_2 (by decide) ?_
  refine lv_istore_n (lv' := [(2, .int 0), (1, .int 0), (0, .ref h0)]) hx hb dX0_standing_3 rfl hl (by decide) rfl (fun ls hl => ?_)
  refine (lp_sX0_standing h0 re amonths afull alean alines ahasMoon amoonStart amoonStep aplaceCount areportCount adeedCount pl de kre ra r_place r_kind r_month r_day r_known r_struck gamonths gafull galean gahasMoon gaplaceCount gareportCount gadeedCount gr_place gr_month gr_struck hx hb hml hown hts hK hz hF0 hFA0 (Nat.le_of_ble_eq_true rfl) (Nat.le_of_ble_eq_true rfl) (Nat.zero_le _) (Nat.zero_le _) (fun v H locs ls hP hS hl => ?_) 26) 0 0 _ _ _ (gi_w (gi_c 0 0 (by decide)) (by decide)) (by have k0 : (0 : Int32).toInt = 0 := (by decide); omega) hP hS (lv_sub hl [2, 1, 0] rfl)
  · skip
    exact W.iret (v := v) hx hb hr (fun t ht hW => ⟨⟨v, (), rfl, (gi_any v), trivial⟩, hS.F ht⟩) hS.2.2 dX0_standing_27
theorem dX0_knownBits_0 : decode cX0_knownBits 0 = .ok (.iconst 0, 1) := by decide +kernel
theorem dX0_knownBits_1 : decode cX0_knownBits 1 = .ok (.istore_n 2, 1) := by decide +kernel
theorem dX0_knownBits_2 : decode cX0_knownBits 2 = .ok (.iconst 0, 1) := by decide +kernel
theorem dX0_knownBits_3 : decode cX0_knownBits 3 = .ok (.istore_n 3, 1) := by decide +kernel
theorem dX0_knownBits_4 : decode cX0_knownBits 4 = .ok (.iload_n 3, 1) := by decide +kernel
theorem dX0_knownBits_5 : decode cX0_knownBits 5 = .ok (.aload_n 0, 1) := by decide +kernel
theorem dX0_knownBits_6 : decode cX0_knownBits 6 = .ok (.getfield 58, 3) := by decide +kernel
theorem dX0_knownBits_9 : decode cX0_knownBits 9 = .ok (.if_icmp .ge 28, 3) := by decide +kernel
theorem dX0_knownBits_12 : decode cX0_knownBits 12 = .ok (.aload_n 0, 1) := by decide +kernel
theorem dX0_knownBits_13 : decode cX0_knownBits 13 = .ok (.getfield 19, 3) := by decide +kernel
theorem dX0_knownBits_16 : decode cX0_knownBits 16 = .ok (.iload_n 3, 1) := by decide +kernel
theorem dX0_knownBits_17 : decode cX0_knownBits 17 = .ok (.aaload, 1) := by decide +kernel
theorem dX0_knownBits_18 : decode cX0_knownBits 18 = .ok (.iload_n 1, 1) := by decide +kernel
theorem dX0_knownBits_19 : decode cX0_knownBits 19 = .ok (.invokevirtual 111, 3) := by decide +kernel
theorem dX0_knownBits_22 : decode cX0_knownBits 22 = .ok (.ifCond .eq 9, 3) := by decide +kernel
theorem dX0_knownBits_25 : decode cX0_knownBits 25 = .ok (.iload_n 2, 1) := by decide +kernel
theorem dX0_knownBits_26 : decode cX0_knownBits 26 = .ok (.iconst 1, 1) := by decide +kernel
theorem dX0_knownBits_27 : decode cX0_knownBits 27 = .ok (.iload_n 3, 1) := by decide +kernel
theorem dX0_knownBits_28 : decode cX0_knownBits 28 = .ok (.ishl, 1) := by decide +kernel
theorem dX0_knownBits_29 : decode cX0_knownBits 29 = .ok (.ior, 1) := by decide +kernel
theorem dX0_knownBits_30 : decode cX0_knownBits 30 = .ok (.istore_n 2, 1) := by decide +kernel
theorem dX0_knownBits_31 : decode cX0_knownBits 31 = .ok (.iinc 3 1, 3) := by decide +kernel
theorem dX0_knownBits_34 : decode cX0_knownBits 34 = .ok (.goto (-30), 3) := by decide +kernel
theorem dX0_knownBits_37 : decode cX0_knownBits 37 = .ok (.iload_n 2, 1) := by decide +kernel
theorem dX0_knownBits_38 : decode cX0_knownBits 38 = .ok (.ireturn, 1) := by decide +kernel
set_option maxHeartbeats 4000000 in
set_option maxRecDepth 100000 in
theorem lp_sX0_knownBits {p : Program} {l : Launch} {e : Env} {R : Room} {s : State} {m : MethodId} {args : Array Value} {below : List Frame} {meth : Method} {c : Code} {Q : State → Prop} {A : Nat → Prop} {cells slots : Nat} {dC : Nat → ClassId} {dI : Nat → Nat → Nat} (h0 : Nat) (re : Nat) (amonths : Int32) (afull : Int32) (alean : Int32) (alines : Int32) (ahasMoon : Int32) (amoonStart : Int32) (amoonStep : Int32) (aplaceCount : Int32) (areportCount : Int32) (adeedCount : Int32) (pl : Nat) (de : Nat) (kre : ClassId) (ra : Nat → Nat) (r_place : Nat → Int32) (r_kind : Nat → Int32) (r_month : Nat → Int32) (r_day : Nat → Int32) (r_known : Nat → Int32) (r_struck : Nat → Int32) (p1 : Int32) (gamonths : gi amonths 0 24) (gafull : gi afull 0 5) (galean : gi alean 0 5) (gahasMoon : gi ahasMoon 0 1) (gaplaceCount : gi aplaceCount 0 6) (gareportCount : gi areportCount 0 24) (gadeedCount : gi adeedCount 0 8) (gr_place : ga r_place 24 0 5) (gr_month : ga r_month 24 0 23) (gr_struck : ga r_struck 24 0 1) (hx : p.tables.exec = Jvm.exec) (hb : c.code = cX0_knownBits) (hml : c.maxLocals = 4) (hown : s.vm.findClass RX0 = some m.cls) (hts : ∀ w ∈ ((.code yX0_knownBits cX0_knownBits 4 (some .int) :: wsGA) : List Cond), w.before args s = true) (hK : va_K (dC, dI) vwCl [(kre, .object RX7)] s) (hz : nzA s) (hF0 : va_P (dC, dI) vwCl (gz_fam 24 ra 7 (fun i => [.int (r_place i), .int (r_kind i), .int (r_month i), .int (r_day i), .int (r_known i), .int (r_struck i)])) s.heap) (hFA0 : gz_ap A (gz_fam 24 ra 7 (fun i => [.int (r_place i), .int (r_kind i), .int (r_month i), .int (r_day i), .int (r_known i), .int (r_struck i)]))) (hRf : 1 ≤ R.frames) (hRl : 21 ≤ R.locals) (hRc : cells ≤ R.cells) (hRs : slots ≤ R.slots) (kr38 : ∀ (v : Int32) (H : Heap) (locs : List Loc) (ls : Array Slot), va_P (dC, dI) vwCl [(h0, .inr (0, [.int amonths, .int afull, .int alean, .int alines, .int ahasMoon, .int amoonStart, .int amoonStep, .int aplaceCount, .int areportCount, .int adeedCount, .ref pl, .ref re, .ref de])), (re, .inl (kre, 24, .inr (.inr (.inr (.inr (fun i => some (ra i)))))))] H → va_S A s.heap H locs → lv_has ls 4 [] → W p l e R s m args below meth c H locs cells slots Q (F0 m 38 ls [.int v])) : ∀ z : Nat, (∀ (v2 : Int32) (v3 : Int32) (H : Heap) (locs : List Loc) (ls : Array Slot), gi v3 0 24 → 49 + (-2) * v3.toInt < (z : Int) → va_P (dC, dI) vwCl [(h0, .inr (0, [.int amonths, .int afull, .int alean, .int alines, .int ahasMoon, .int amoonStart, .int amoonStep, .int aplaceCount, .int areportCount, .int adeedCount, .ref pl, .ref re, .ref de])), (re, .inl (kre, 24, .inr (.inr (.inr (.inr (fun i => some (ra i)))))))] H → va_S A s.heap H locs → lv_has ls 4 [(0, .ref h0), (1, .int p1), (2, .int v2), (3, .int v3)] → W p l e R s m args below meth c H locs cells slots Q (F0 m 4 ls [])) := by
  intro z
  induction z with
  | zero =>
    intro v2 v3 H locs ls gv3 hmu hP hS hl
    exact absurd hmu (by have hv31 := gv3.1; have hv32 := gv3.2; omega)
  | succ z ih =>
      intro v2 v3 H locs ls gv3 hmu hP hS hl
      refine lv_iload_n hx hb dX0_knownBits_4 rfl (lv_at hl 3 rfl) ?_
      refine lv_aload_n hx hb dX0_knownBits_5 rfl (lv_at hl 0 rfl) ?_
      refine va_get (D := (dC, dI)) (ci := 0) (v := .int areportCount) (C := RX0) (T := TX0) (N := 13) hx hb hts (fun w h => List.mem_cons_of_mem _ (jnGA_X0 w h)) hown hK hP 0 rfl rfl 8 (by decide) (hts _ (List.mem_cons_of_mem _ mGA_160)) (fun _ h9 => h9) rfl dX0_knownBits_6 ?_
      refine lv_icmp_ge (tgt := 37) hx hb dX0_knownBits_9 (by decide) (fun c_166 => ?_) (fun c_166 => ?_)
      · refine lv_iload_n hx hb dX0_knownBits_37 rfl (lv_at hl 2 rfl) ?_
        exact kr38 v2 _ _ _ hP hS (lv_sub hl [] rfl)
      · have g_167 : gi v3 0 23 := gi_lt_l (Int32.not_le.mp c_166) gv3 gareportCount (by decide)
        have g_168 : gi areportCount 1 24 := gi_lt_r (Int32.not_le.mp c_166) gv3 gareportCount (by decide)
        refine lv_aload_n hx hb dX0_knownBits_12 rfl (lv_at hl 0 rfl) ?_
        refine va_get (D := (dC, dI)) (ci := 0) (v := .ref re) (C := RX0) (T := TX0) (N := 13) hx hb hts (fun w h => List.mem_cons_of_mem _ (jnGA_X0 w h)) hown hK hP 0 rfl rfl 11 (by decide) (hts _ (List.mem_cons_of_mem _ mGA_72)) (fun _ h9 => h9) rfl dX0_knownBits_13 ?_
        refine lv_iload_n hx hb dX0_knownBits_16 rfl (lv_at hl 3 rfl) ?_
        refine va_aldq hx hb hK hP 1 0 rfl rfl (gi_in g_167 (by decide)) dX0_knownBits_17 ?_
        refine W.eq (g2 := F0 m 18 ls [.ref (ra v3.toNatClampNeg)]) rfl ?_
        refine lv_iload_n hx hb dX0_knownBits_18 rfl (lv_at hl 1 rfl) ?_
        have hPc : va_P (dC, dI) vwCl [((ra v3.toNatClampNeg), .inr (7, [.int (r_place v3.toNatClampNeg), .int (r_kind v3.toNatClampNeg), .int (r_month v3.toNatClampNeg), .int (r_day v3.toNatClampNeg), .int (r_known v3.toNatClampNeg), .int (r_struck v3.toNatClampNeg)]))] H := (gz_fam1 (gz_ro hF0 hFA0 hS) (gz_clt (gi_in (n := 24) g_167 (by decide))))
        have hKc := hK.sub (tys' := []) [] rfl
        refine va_calli (va_runV (As := [.int p1]) (rest := []) ⟨hx, hb, hml, hown, hts⟩ (sX7_isKnownBy l dC dI (ra v3.toNatClampNeg) (r_place v3.toNatClampNeg) (r_kind v3.toNatClampNeg) (r_month v3.toNatClampNeg) (r_day v3.toNatClampNeg) (r_known v3.toNatClampNeg) (r_struck v3.toNatClampNeg) p1 (ga_ix gr_place (gi_in (n := 24) g_167 (by decide))) (ga_ix gr_month (gi_in (n := 24) g_167 (by decide))) (ga_ix gr_struck (gi_in (n := 24) g_167 (by decide)))) (cwV 1 hts (gz_gV mGA_437 mGA_438 mGA_439 mGA_78 mGA_440 goodGA) rfl rfl rfl (by decide +kernel) ⟨Nat.le_trans (Nat.le_of_ble_eq_true rfl) hRf, Nat.le_trans (Nat.le_of_ble_eq_true rfl) hRl⟩) ⟨fun a U g mk q => by obtain ⟨q0, qP, qK, qZ⟩ := q; exact ⟨q0, qP, va_K.moved (u := U) (U := U.calling g mk a) (Vm.Alike.refl U.vm) qK, nzA_same (u := U) (U := U.calling g mk a) rfl qZ⟩, va_recv hKc hPc (ci := 7) (q0 := 0) rfl rfl, fun U hU hW => ⟨rfl, by rw [hU]; exact hPc, va_K.moved hW.alike hKc, nzA_warm hW hz⟩⟩ rfl rfl hl.1 rfl (lv_room (Nat.le_of_ble_eq_true rfl)) dX0_knownBits_19 ⟨hRc, hRs⟩) hS (fun q _ h => h.elim) (fun q h => h.elim) (fun r_169 u t H1 locs ht hvm hw hB hz1 hk1 hS => ?_)
        have hP := gz_keep hP hk1
        generalize H1 = H at hP hS ⊢
        have gr_169 : gi r_169 0 1 := hw
        refine lv_if_eq (tgt := 31) hx hb dX0_knownBits_22 (by decide) (fun c_170 => ?_) (fun c_170 => ?_)
        · have g_171 : gi r_169 0 0 := gi_eq c_170 (gi_c 0 0 (by decide))
          obtain ⟨x_172, ex_172⟩ : ∃ y : Int32, y = v3 + 1 := ⟨_, rfl⟩
          have gx_172 : gi x_172 1 24 := gi_add ex_172 g_167 (gi_c 1 1 (by decide)) (by decide)
          refine lv_iinc (v := x_172) (lv' := [(3, .int x_172), (0, .ref h0), (1, .int p1), (2, .int v2)]) hx hb dX0_knownBits_31 hl (k := 3) rfl (by rw [ex_172]; rfl) (by decide) rfl (fun ls hl => ?_)
          refine lv_goto (tgt := 4) hx hb dX0_knownBits_34 (by decide) ?_
          exact ih v2 x_172 _ _ _ (gi_w gx_172 (by decide)) (by have av3 := gv3.1; have bv3 := gv3.2; have qgx_172 := gx_172.1; have rgx_172 := gx_172.2; have igx_172 : x_172.toInt = v3.toInt + 1 := (by have hc1 : (1 : Int32).toInt = 1 := (by decide); have h9 := gi_addI ex_172 (by have h1 := g_167.1; have h2 := (gi_c 1 1 (by decide)).1; have h3 := g_167.2; have h4 := (gi_c 1 1 (by decide)).2; omega) (by have h1 := g_167.1; have h2 := (gi_c 1 1 (by decide)).1; have h3 := g_167.2; have h4 := (gi_c 1 1 (by decide)).2; omega); rw [hc1] at h9; exact h9); have qgv3 := g_167.1; have rgv3 := g_167.2; omega) hP hS (lv_sub hl [1, 2, 3, 0] rfl)
        · have g_173 : gi r_169 1 1 := gi_ne_lo c_170 gr_169 (gi_c 0 0 (by decide)) (by decide)
          refine lv_iload_n hx hb dX0_knownBits_25 rfl (lv_at hl 2 rfl) ?_
          refine lv_iconst (v := 1) hx hb dX0_knownBits_26 (by decide) ?_
          refine lv_iload_n hx hb dX0_knownBits_27 rfl (lv_at hl 3 rfl) ?_
          refine lv_ishl hx hb dX0_knownBits_28 ?_
          refine lv_topi (fun x_174 ex_174 => ?_)
          refine lv_ior hx hb dX0_knownBits_29 ?_
          refine lv_topi (fun x_175 ex_175 => ?_)
          refine lv_istore_n (lv' := [(2, .int x_175), (0, .ref h0), (1, .int p1), (3, .int v3)]) hx hb dX0_knownBits_30 rfl hl (by decide) rfl (fun ls hl => ?_)
          obtain ⟨x_176, ex_176⟩ : ∃ y : Int32, y = v3 + 1 := ⟨_, rfl⟩
          have gx_176 : gi x_176 1 24 := gi_add ex_176 g_167 (gi_c 1 1 (by decide)) (by decide)
          refine lv_iinc (v := x_176) (lv' := [(3, .int x_176), (2, .int x_175), (0, .ref h0), (1, .int p1)]) hx hb dX0_knownBits_31 hl (k := 3) rfl (by rw [ex_176]; rfl) (by decide) rfl (fun ls hl => ?_)
          refine lv_goto (tgt := 4) hx hb dX0_knownBits_34 (by decide) ?_
          exact ih x_175 x_176 _ _ _ (gi_w gx_176 (by decide)) (by have av3 := gv3.1; have bv3 := gv3.2; have qgx_176 := gx_176.1; have rgx_176 := gx_176.2; have igx_176 : x_176.toInt = v3.toInt + 1 := (by have hc1 : (1 : Int32).toInt = 1 := (by decide); have h9 := gi_addI ex_176 (by have h1 := g_167.1; have h2 := (gi_c 1 1 (by decide)).1; have h3 := g_167.2; have h4 := (gi_c 1 1 (by decide)).2; omega) (by have h1 := g_167.1; have h2 := (gi_c 1 1 (by decide)).1; have h3 := g_167.2; have h4 := (gi_c 1 1 (by decide)).2; omega); rw [hc1] at h9; exact h9); have qgv3 := g_167.1; have rgv3 := g_167.2; omega) hP hS (lv_sub hl [2, 3, 1, 0] rfl)
set_option maxHeartbeats 4000000 in
set_option maxRecDepth 100000 in
theorem sX0_knownBits (l : Launch) (dC : Nat → ClassId) (dI : Nat → Nat → Nat) (h0 : Nat) (re : Nat) (amonths : Int32) (afull : Int32) (alean : Int32) (alines : Int32) (ahasMoon : Int32) (amoonStart : Int32) (amoonStep : Int32) (aplaceCount : Int32) (areportCount : Int32) (adeedCount : Int32) (pl : Nat) (de : Nat) (kre : ClassId) (ra : Nat → Nat) (r_place : Nat → Int32) (r_kind : Nat → Int32) (r_month : Nat → Int32) (r_day : Nat → Int32) (r_known : Nat → Int32) (r_struck : Nat → Int32) (p1 : Int32) (gamonths : gi amonths 0 24) (gafull : gi afull 0 5) (galean : gi alean 0 5) (gahasMoon : gi ahasMoon 0 1) (gaplaceCount : gi aplaceCount 0 6) (gareportCount : gi areportCount 0 24) (gadeedCount : gi adeedCount 0 8) (gr_place : ga r_place 24 0 5) (gr_month : ga r_month 24 0 23) (gr_struck : ga r_struck 24 0 1) : Met l yX0_knownBits (.code yX0_knownBits cX0_knownBits 4 (some .int) :: wsGA) ({ frames := 1, cells := 0, slots := 0, locals := 21 }) (va_Pc [.ref h0, .int p1] (fun U => va_P (dC, dI) vwCl [(h0, .inr (0, [.int amonths, .int afull, .int alean, .int alines, .int ahasMoon, .int amoonStart, .int amoonStep, .int aplaceCount, .int areportCount, .int adeedCount, .ref pl, .ref re, .ref de])), (re, .inl (kre, 24, .inr (.inr (.inr (.inr (fun i => some (ra i)))))))] U.heap ∧ va_K (dC, dI) vwCl [(kre, .object RX7)] U ∧ nzA U ∧ va_P (dC, dI) vwCl (gz_fam 24 ra 7 (fun i => [.int (r_place i), .int (r_kind i), .int (r_month i), .int (r_day i), .int (r_known i), .int (r_struck i)])) U.heap)) (va_Qi (fun (r : Int32) (u : Unit) => gi r (-2147483648) 2147483647) (fun _ _ => True) (fun _ => False)) 0 0 (fun _ => False) := by
  refine Met.ofW (cc := cX0_knownBits) (maxL := 4) (ret := (some .int)) (by decide) rfl ?_
  intro p e s m args below meth c s₁ B hml hv
  obtain ⟨rfl, hP, hK, hz, hF0⟩ := hv
  have hx := B.exec
  have hb := B.bytes
  have hr := B.returns
  have hts := atoms_spec (ws := (.code yX0_knownBits cX0_knownBits 4 (some .int) :: wsGA)) B.pre
  have hown : s.vm.findClass RX0 = some m.cls := findClass_of_methodNamed B.named
  have hlocks := B.notSynchronized
  have hS : va_S (fun _ => False) s.heap s.heap [] := va_S.rf
  have hFA0 : gz_ap (fun _ => False) (gz_fam 24 ra 7 (fun i => [.int (r_place i), .int (r_kind i), .int (r_month i), .int (r_day i), .int (r_known i), .int (r_struck i)])) := gz_ap0
  have hl := lv_entry ([.ref h0, .int p1]) (n := 4) (Nat.le_of_ble_eq_true rfl)
  rw [lg_entry_eq]
  generalize (lg_sl ([.ref h0, .int p1]) ++ List.replicate (4 - (lg_sl ([.ref h0, .int p1])).length) Slot.unset).toArray = ls at hl ⊢
  have hl : lv_has ls 4 [(0, .ref h0), (1, .int p1)] := hl
  refine lv_iconst (v := 0) hx hb dX0_knownBits_0 (by decide) ?_
  refine lv_istore_n (lv' := [(2, .int 0), (0, .ref h0), (1, .int p1)]) hx hb dX0_knownBits_1 rfl hl (by decide) rfl (fun ls hl => ?_)
  refine lv_iconst (v := 0) hx hb dX0_knownBits_2 (by decide) ?_
  refine lv_istore_n (lv' := [(3, .int 0), (2, .int 0), (0, .ref h0), (1, .int p1)]) hx hb dX0_knownBits_3 rfl hl (by decide) rfl (fun ls hl => ?_)
  refine (lp_sX0_knownBits h0 re amonths afull alean alines ahasMoon amoonStart amoonStep aplaceCount areportCount adeedCount pl de kre ra r_place r_kind r_month r_day r_known r_struck p1 gamonths gafull galean gahasMoon gaplaceCount gareportCount gadeedCount gr_place gr_month gr_struck hx hb hml hown hts hK hz hF0 hFA0 (Nat.le_of_ble_eq_true rfl) (Nat.le_of_ble_eq_true rfl) (Nat.zero_le _) (Nat.zero_le _) (fun v H locs ls hP hS hl => ?_) 62) 0 0 _ _ _ (gi_w (gi_c 0 0 (by decide)) (by decide)) (by have k0 : (0 : Int32).toInt = 0 := (by decide); omega) hP hS (lv_sub hl [2, 3, 1, 0] rfl)
  · skip
    exact W.iret (v := v) hx hb hr (fun t ht hW => ⟨⟨v, (), rfl, (gi_any v), trivial⟩, hS.F ht⟩) hS.2.2 dX0_knownBits_38
theorem dX0_latestNews_0 : decode cX0_latestNews 0 = .ok (.iconst (-1), 1) := by decide +kernel
theorem dX0_latestNews_1 : decode cX0_latestNews 1 = .ok (.istore_n 2, 1) := by decide +kernel
theorem dX0_latestNews_2 : decode cX0_latestNews 2 = .ok (.iconst 0, 1) := by decide +kernel
theorem dX0_latestNews_3 : decode cX0_latestNews 3 = .ok (.istore_n 3, 1) := by decide +kernel
theorem dX0_latestNews_4 : decode cX0_latestNews 4 = .ok (.iload_n 3, 1) := by decide +kernel
theorem dX0_latestNews_5 : decode cX0_latestNews 5 = .ok (.aload_n 0, 1) := by decide +kernel
theorem dX0_latestNews_6 : decode cX0_latestNews 6 = .ok (.getfield 58, 3) := by decide +kernel
theorem dX0_latestNews_9 : decode cX0_latestNews 9 = .ok (.if_icmp .ge 36, 3) := by decide +kernel
theorem dX0_latestNews_12 : decode cX0_latestNews 12 = .ok (.aload_n 0, 1) := by decide +kernel
theorem dX0_latestNews_13 : decode cX0_latestNews 13 = .ok (.getfield 19, 3) := by decide +kernel
theorem dX0_latestNews_16 : decode cX0_latestNews 16 = .ok (.iload_n 3, 1) := by decide +kernel
theorem dX0_latestNews_17 : decode cX0_latestNews 17 = .ok (.aaload, 1) := by decide +kernel
theorem dX0_latestNews_18 : decode cX0_latestNews 18 = .ok (.iload_n 1, 1) := by decide +kernel
theorem dX0_latestNews_19 : decode cX0_latestNews 19 = .ok (.invokevirtual 111, 3) := by decide +kernel
theorem dX0_latestNews_22 : decode cX0_latestNews 22 = .ok (.ifCond .eq 17, 3) := by decide +kernel
theorem dX0_latestNews_25 : decode cX0_latestNews 25 = .ok (.iload_n 2, 1) := by decide +kernel
theorem dX0_latestNews_26 : decode cX0_latestNews 26 = .ok (.aload_n 0, 1) := by decide +kernel
theorem dX0_latestNews_27 : decode cX0_latestNews 27 = .ok (.getfield 19, 3) := by decide +kernel
theorem dX0_latestNews_30 : decode cX0_latestNews 30 = .ok (.iload_n 3, 1) := by decide +kernel
theorem dX0_latestNews_31 : decode cX0_latestNews 31 = .ok (.aaload, 1) := by decide +kernel
theorem dX0_latestNews_32 : decode cX0_latestNews 32 = .ok (.getfield 89, 3) := by decide +kernel
theorem dX0_latestNews_35 : decode cX0_latestNews 35 = .ok (.invokestatic 115, 3) := by decide +kernel
theorem dX0_latestNews_38 : decode cX0_latestNews 38 = .ok (.istore_n 2, 1) := by decide +kernel
theorem dX0_latestNews_39 : decode cX0_latestNews 39 = .ok (.iinc 3 1, 3) := by decide +kernel
theorem dX0_latestNews_42 : decode cX0_latestNews 42 = .ok (.goto (-38), 3) := by decide +kernel
theorem dX0_latestNews_45 : decode cX0_latestNews 45 = .ok (.iload_n 2, 1) := by decide +kernel
theorem dX0_latestNews_46 : decode cX0_latestNews 46 = .ok (.ireturn, 1) := by decide +kernel
set_option maxHeartbeats 4000000 in
set_option maxRecDepth 100000 in
theorem lp_sX0_latestNews {p : Program} {l : Launch} {e : Env} {R : Room} {s : State} {m : MethodId} {args : Array Value} {below : List Frame} {meth : Method} {c : Code} {Q : State → Prop} {A : Nat → Prop} {cells slots : Nat} {dC : Nat → ClassId} {dI : Nat → Nat → Nat} (h0 : Nat) (re : Nat) (amonths : Int32) (afull : Int32) (alean : Int32) (alines : Int32) (ahasMoon : Int32) (amoonStart : Int32) (amoonStep : Int32) (aplaceCount : Int32) (areportCount : Int32) (adeedCount : Int32) (pl : Nat) (de : Nat) (kre : ClassId) (ra : Nat → Nat) (r_place : Nat → Int32) (r_kind : Nat → Int32) (r_month : Nat → Int32) (r_day : Nat → Int32) (r_known : Nat → Int32) (r_struck : Nat → Int32) (p1 : Int32) (gamonths : gi amonths 0 24) (gafull : gi afull 0 5) (galean : gi alean 0 5) (gahasMoon : gi ahasMoon 0 1) (gaplaceCount : gi aplaceCount 0 6) (gareportCount : gi areportCount 0 24) (gadeedCount : gi adeedCount 0 8) (gr_place : ga r_place 24 0 5) (gr_month : ga r_month 24 0 23) (gr_struck : ga r_struck 24 0 1) (hx : p.tables.exec = Jvm.exec) (hb : c.code = cX0_latestNews) (hml : c.maxLocals = 4) (hown : s.vm.findClass RX0 = some m.cls) (hts : ∀ w ∈ ((.code yX0_latestNews cX0_latestNews 4 (some .int) :: wsGA) : List Cond), w.before args s = true) (hK : va_K (dC, dI) vwCl [(kre, .object RX7)] s) (hz : nzA s) (hF0 : va_P (dC, dI) vwCl (gz_fam 24 ra 7 (fun i => [.int (r_place i), .int (r_kind i), .int (r_month i), .int (r_day i), .int (r_known i), .int (r_struck i)])) s.heap) (hFA0 : gz_ap A (gz_fam 24 ra 7 (fun i => [.int (r_place i), .int (r_kind i), .int (r_month i), .int (r_day i), .int (r_known i), .int (r_struck i)]))) (hRf : 1 ≤ R.frames) (hRl : 21 ≤ R.locals) (hRc : cells ≤ R.cells) (hRs : slots ≤ R.slots) (kr46 : ∀ (v : Int32) (H : Heap) (locs : List Loc) (ls : Array Slot), gi v (-1) 2147483647 → va_P (dC, dI) vwCl [(h0, .inr (0, [.int amonths, .int afull, .int alean, .int alines, .int ahasMoon, .int amoonStart, .int amoonStep, .int aplaceCount, .int areportCount, .int adeedCount, .ref pl, .ref re, .ref de])), (re, .inl (kre, 24, .inr (.inr (.inr (.inr (fun i => some (ra i)))))))] H → va_S A s.heap H locs → lv_has ls 4 [] → W p l e R s m args below meth c H locs cells slots Q (F0 m 46 ls [.int v])) : ∀ z : Nat, (∀ (v2 : Int32) (v3 : Int32) (H : Heap) (locs : List Loc) (ls : Array Slot), gi v2 (-1) 2147483647 → gi v3 0 24 → 49 + (-2) * v3.toInt < (z : Int) → va_P (dC, dI) vwCl [(h0, .inr (0, [.int amonths, .int afull, .int alean, .int alines, .int ahasMoon, .int amoonStart, .int amoonStep, .int aplaceCount, .int areportCount, .int adeedCount, .ref pl, .ref re, .ref de])), (re, .inl (kre, 24, .inr (.inr (.inr (.inr (fun i => some (ra i)))))))] H → va_S A s.heap H locs → lv_has ls 4 [(0, .ref h0), (1, .int p1), (2, .int v2), (3, .int v3)] → W p l e R s m args below meth c H locs cells slots Q (F0 m 4 ls [])) := by
  intro z
  induction z with
  | zero =>
    intro v2 v3 H locs ls gv2 gv3 hmu hP hS hl
    exact absurd hmu (by have hv31 := gv3.1; have hv32 := gv3.2; omega)
  | succ z ih =>
      intro v2 v3 H locs ls gv2 gv3 hmu hP hS hl
      refine lv_iload_n hx hb dX0_latestNews_4 rfl (lv_at hl 3 rfl) ?_
      refine lv_aload_n hx hb dX0_latestNews_5 rfl (lv_at hl 0 rfl) ?_
      refine va_get (D := (dC, dI)) (ci := 0) (v := .int areportCount) (C := RX0) (T := TX0) (N := 13) hx hb hts (fun w h => List.mem_cons_of_mem _ (jnGA_X0 w h)) hown hK hP 0 rfl rfl 8 (by decide) (hts _ (List.mem_cons_of_mem _ mGA_160)) (fun _ h9 => h9) rfl dX0_latestNews_6 ?_
      refine lv_icmp_ge (tgt := 45) hx hb dX0_latestNews_9 (by decide) (fun c_166 => ?_) (fun c_166 => ?_)
      · refine lv_iload_n hx hb dX0_latestNews_45 rfl (lv_at hl 2 rfl) ?_
        exact kr46 v2 _ _ _ gv2 hP hS (lv_sub hl [] rfl)
      · have g_167 : gi v3 0 23 := gi_lt_l (Int32.not_le.mp c_166) gv3 gareportCount (by decide)
        have g_168 : gi areportCount 1 24 := gi_lt_r (Int32.not_le.mp c_166) gv3 gareportCount (by decide)
        refine lv_aload_n hx hb dX0_latestNews_12 rfl (lv_at hl 0 rfl) ?_
        refine va_get (D := (dC, dI)) (ci := 0) (v := .ref re) (C := RX0) (T := TX0) (N := 13) hx hb hts (fun w h => List.mem_cons_of_mem _ (jnGA_X0 w h)) hown hK hP 0 rfl rfl 11 (by decide) (hts _ (List.mem_cons_of_mem _ mGA_72)) (fun _ h9 => h9) rfl dX0_latestNews_13 ?_
        refine lv_iload_n hx hb dX0_latestNews_16 rfl (lv_at hl 3 rfl) ?_
        refine va_aldq hx hb hK hP 1 0 rfl rfl (gi_in g_167 (by decide)) dX0_latestNews_17 ?_
        refine W.eq (g2 := F0 m 18 ls [.ref (ra v3.toNatClampNeg)]) rfl ?_
        refine lv_iload_n hx hb dX0_latestNews_18 rfl (lv_at hl 1 rfl) ?_
        have hPc : va_P (dC, dI) vwCl [((ra v3.toNatClampNeg), .inr (7, [.int (r_place v3.toNatClampNeg), .int (r_kind v3.toNatClampNeg), .int (r_month v3.toNatClampNeg), .int (r_day v3.toNatClampNeg), .int (r_known v3.toNatClampNeg), .int (r_struck v3.toNatClampNeg)]))] H := (gz_fam1 (gz_ro hF0 hFA0 hS) (gz_clt (gi_in (n := 24) g_167 (by decide))))
        have hKc := hK.sub (tys' := []) [] rfl
        refine va_calli (va_runV (As := [.int p1]) (rest := []) ⟨hx, hb, hml, hown, hts⟩ (sX7_isKnownBy l dC dI (ra v3.toNatClampNeg) (r_place v3.toNatClampNeg) (r_kind v3.toNatClampNeg) (r_month v3.toNatClampNeg) (r_day v3.toNatClampNeg) (r_known v3.toNatClampNeg) (r_struck v3.toNatClampNeg) p1 (ga_ix gr_place (gi_in (n := 24) g_167 (by decide))) (ga_ix gr_month (gi_in (n := 24) g_167 (by decide))) (ga_ix gr_struck (gi_in (n := 24) g_167 (by decide)))) (cwV 1 hts (gz_gV mGA_437 mGA_438 mGA_439 mGA_78 mGA_440 goodGA) rfl rfl rfl (by decide +kernel) ⟨Nat.le_trans (Nat.le_of_ble_eq_true rfl) hRf, Nat.le_trans (Nat.le_of_ble_eq_true rfl) hRl⟩) ⟨fun a U g mk q => by obtain ⟨q0, qP, qK, qZ⟩ := q; exact ⟨q0, qP, va_K.moved (u := U) (U := U.calling g mk a) (Vm.Alike.refl U.vm) qK, nzA_same (u := U) (U := U.calling g mk a) rfl qZ⟩, va_recv hKc hPc (ci := 7) (q0 := 0) rfl rfl, fun U hU hW => ⟨rfl, by rw [hU]; exact hPc, va_K.moved hW.alike hKc, nzA_warm hW hz⟩⟩ rfl rfl hl.1 rfl (lv_room (Nat.le_of_ble_eq_true rfl)) dX0_latestNews_19 ⟨hRc, hRs⟩) hS (fun q _ h => h.elim) (fun q h => h.elim) (fun r_169 u t H1 locs ht hvm hw hB hz1 hk1 hS => ?_)
        have hP := gz_keep hP hk1
        generalize H1 = H at hP hS ⊢
        have gr_169 : gi r_169 0 1 := hw
        refine lv_if_eq (tgt := 39) hx hb dX0_latestNews_22 (by decide) (fun c_170 => ?_) (fun c_170 => ?_)
        · have g_171 : gi r_169 0 0 := gi_eq c_170 (gi_c 0 0 (by decide))
          obtain ⟨x_172, ex_172⟩ : ∃ y : Int32, y = v3 + 1 := ⟨_, rfl⟩
          have gx_172 : gi x_172 1 24 := gi_add ex_172 g_167 (gi_c 1 1 (by decide)) (by decide)
          refine lv_iinc (v := x_172) (lv' := [(3, .int x_172), (0, .ref h0), (1, .int p1), (2, .int v2)]) hx hb dX0_latestNews_39 hl (k := 3) rfl (by rw [ex_172]; rfl) (by decide) rfl (fun ls hl => ?_)
          refine lv_goto (tgt := 4) hx hb dX0_latestNews_42 (by decide) ?_
          exact ih v2 x_172 _ _ _ gv2 (gi_w gx_172 (by decide)) (by have av3 := gv3.1; have bv3 := gv3.2; have qgx_172 := gx_172.1; have rgx_172 := gx_172.2; have igx_172 : x_172.toInt = v3.toInt + 1 := (by have hc1 : (1 : Int32).toInt = 1 := (by decide); have h9 := gi_addI ex_172 (by have h1 := g_167.1; have h2 := (gi_c 1 1 (by decide)).1; have h3 := g_167.2; have h4 := (gi_c 1 1 (by decide)).2; omega) (by have h1 := g_167.1; have h2 := (gi_c 1 1 (by decide)).1; have h3 := g_167.2; have h4 := (gi_c 1 1 (by decide)).2; omega); rw [hc1] at h9; exact h9); have qgv3 := g_167.1; have rgv3 := g_167.2; omega) hP hS (lv_sub hl [1, 2, 3, 0] rfl)
        · have g_173 : gi r_169 1 1 := gi_ne_lo c_170 gr_169 (gi_c 0 0 (by decide)) (by decide)
          refine lv_iload_n hx hb dX0_latestNews_25 rfl (lv_at hl 2 rfl) ?_
          refine lv_aload_n hx hb dX0_latestNews_26 rfl (lv_at hl 0 rfl) ?_
          refine va_get (D := (dC, dI)) (ci := 0) (v := .ref re) (C := RX0) (T := TX0) (N := 13) hx hb hts (fun w h => List.mem_cons_of_mem _ (jnGA_X0 w h)) hown hK hP 0 rfl rfl 11 (by decide) (hts _ (List.mem_cons_of_mem _ mGA_72)) (fun _ h9 => h9) rfl dX0_latestNews_27 ?_
          refine lv_iload_n hx hb dX0_latestNews_30 rfl (lv_at hl 3 rfl) ?_
          refine va_aldq hx hb hK hP 1 0 rfl rfl (gi_in g_167 (by decide)) dX0_latestNews_31 ?_
          refine W.eq (g2 := F0 m 32 ls [.ref (ra v3.toNatClampNeg), .int v2]) rfl ?_
          refine va_get (D := (dC, dI)) (ci := 7) (v := .int (r_known v3.toNatClampNeg)) (C := RX7) (T := TX7) (N := 6) hx hb hts (fun w h => List.mem_cons_of_mem _ (jnGA_X7 w h)) hown hK (gz_ro hF0 hFA0 hS) (v3.toNatClampNeg) (gz_fam_at (gz_clt (gi_in (n := 24) g_167 (by decide)))) rfl 4 (by decide) (hts _ (List.mem_cons_of_mem _ mGA_321)) (fun _ h9 => h9) rfl dX0_latestNews_32 ?_
          refine lv_topi (fun x_174 ex_174 => ?_)
          refine va_mmax (own := RX0) hx hb (by rw [hml]; exact hl.1.symm) hown (hts _ (List.mem_cons_of_mem _ mGA_436)) (hts _ (List.mem_cons_of_mem _ mGA_344)) (hts _ (List.mem_cons_of_mem _ mGA_269)) (hts _ (List.mem_cons_of_mem _ mGA_345)) (Nat.le_trans (Nat.le_of_ble_eq_true rfl) hRf) (Nat.le_trans (Nat.le_of_ble_eq_true rfl) hRl) hRc hRs dX0_latestNews_35 ?_
          refine lv_topi (fun x_175 ex_175 => ?_)
          have gx_175 : gi x_175 (-1) 2147483647 := gi_max ex_175 gv2 (gi_any x_174) (by decide)
          refine lv_istore_n (lv' := [(2, .int x_175), (0, .ref h0), (1, .int p1), (3, .int v3)]) hx hb dX0_latestNews_38 rfl hl (by decide) rfl (fun ls hl => ?_)
          obtain ⟨x_176, ex_176⟩ : ∃ y : Int32, y = v3 + 1 := ⟨_, rfl⟩
          have gx_176 : gi x_176 1 24 := gi_add ex_176 g_167 (gi_c 1 1 (by decide)) (by decide)
          refine lv_iinc (v := x_176) (lv' := [(3, .int x_176), (2, .int x_175), (0, .ref h0), (1, .int p1)]) hx hb dX0_latestNews_39 hl (k := 3) rfl (by rw [ex_176]; rfl) (by decide) rfl (fun ls hl => ?_)
          refine lv_goto (tgt := 4) hx hb dX0_latestNews_42 (by decide) ?_
          exact ih x_175 x_176 _ _ _ gx_175 (gi_w gx_176 (by decide)) (by have av3 := gv3.1; have bv3 := gv3.2; have qgx_176 := gx_176.1; have rgx_176 := gx_176.2; have igx_176 : x_176.toInt = v3.toInt + 1 := (by have hc1 : (1 : Int32).toInt = 1 := (by decide); have h9 := gi_addI ex_176 (by have h1 := g_167.1; have h2 := (gi_c 1 1 (by decide)).1; have h3 := g_167.2; have h4 := (gi_c 1 1 (by decide)).2; omega) (by have h1 := g_167.1; have h2 := (gi_c 1 1 (by decide)).1; have h3 := g_167.2; have h4 := (gi_c 1 1 (by decide)).2; omega); rw [hc1] at h9; exact h9); have qgv3 := g_167.1; have rgv3 := g_167.2; omega) hP hS (lv_sub hl [2, 3, 1, 0] rfl)
set_option maxHeartbeats 4000000 in
set_option maxRecDepth 100000 in
theorem sX0_latestNews (l : Launch) (dC : Nat → ClassId) (dI : Nat → Nat → Nat) (h0 : Nat) (re : Nat) (amonths : Int32) (afull : Int32) (alean : Int32) (alines : Int32) (ahasMoon : Int32) (amoonStart : Int32) (amoonStep : Int32) (aplaceCount : Int32) (areportCount : Int32) (adeedCount : Int32) (pl : Nat) (de : Nat) (kre : ClassId) (ra : Nat → Nat) (r_place : Nat → Int32) (r_kind : Nat → Int32) (r_month : Nat → Int32) (r_day : Nat → Int32) (r_known : Nat → Int32) (r_struck : Nat → Int32) (p1 : Int32) (gamonths : gi amonths 0 24) (gafull : gi afull 0 5) (galean : gi alean 0 5) (gahasMoon : gi ahasMoon 0 1) (gaplaceCount : gi aplaceCount 0 6) (gareportCount : gi areportCount 0 24) (gadeedCount : gi adeedCount 0 8) (gr_place : ga r_place 24 0 5) (gr_month : ga r_month 24 0 23) (gr_struck : ga r_struck 24 0 1) : Met l yX0_latestNews (.code yX0_latestNews cX0_latestNews 4 (some .int) :: wsGA) ({ frames := 1, cells := 0, slots := 0, locals := 21 }) (va_Pc [.ref h0, .int p1] (fun U => va_P (dC, dI) vwCl [(h0, .inr (0, [.int amonths, .int afull, .int alean, .int alines, .int ahasMoon, .int amoonStart, .int amoonStep, .int aplaceCount, .int areportCount, .int adeedCount, .ref pl, .ref re, .ref de])), (re, .inl (kre, 24, .inr (.inr (.inr (.inr (fun i => some (ra i)))))))] U.heap ∧ va_K (dC, dI) vwCl [(kre, .object RX7)] U ∧ nzA U ∧ va_P (dC, dI) vwCl (gz_fam 24 ra 7 (fun i => [.int (r_place i), .int (r_kind i), .int (r_month i), .int (r_day i), .int (r_known i), .int (r_struck i)])) U.heap)) (va_Qi (fun (r : Int32) (u : Unit) => gi r (-1) 2147483647) (fun _ _ => True) (fun _ => False)) 0 0 (fun _ => False) := by
  refine Met.ofW (cc := cX0_latestNews) (maxL := 4) (ret := (some .int)) (by decide) rfl ?_
  intro p e s m args below meth c s₁ B hml hv
  obtain ⟨rfl, hP, hK, hz, hF0⟩ := hv
  have hx := B.exec
  have hb := B.bytes
  have hr := B.returns
  have hts := atoms_spec (ws := (.code yX0_latestNews cX0_latestNews 4 (some .int) :: wsGA)) B.pre
  have hown : s.vm.findClass RX0 = some m.cls := findClass_of_methodNamed B.named
  have hlocks := B.notSynchronized
  have hS : va_S (fun _ => False) s.heap s.heap [] := va_S.rf
  have hFA0 : gz_ap (fun _ => False) (gz_fam 24 ra 7 (fun i => [.int (r_place i), .int (r_kind i), .int (r_month i), .int (r_day i), .int (r_known i), .int (r_struck i)])) := gz_ap0
  have hl := lv_entry ([.ref h0, .int p1]) (n := 4) (Nat.le_of_ble_eq_true rfl)
  rw [lg_entry_eq]
  generalize (lg_sl ([.ref h0, .int p1]) ++ List.replicate (4 - (lg_sl ([.ref h0, .int p1])).length) Slot.unset).toArray = ls at hl ⊢
  have hl : lv_has ls 4 [(0, .ref h0), (1, .int p1)] := hl
  refine lv_iconst (v := (-1)) hx hb dX0_latestNews_0 (by decide) ?_
  refine lv_istore_n (lv' := [(2, .int (-1)), (0, .ref h0), (1, .int p1)]) hx hb dX0_latestNews_1 rfl hl (by decide) rfl (fun ls hl => ?_)
  refine lv_iconst (v := 0) hx hb dX0_latestNews_2 (by decide) ?_
  refine lv_istore_n (lv' := [(3, .int 0), (2, .int (-1)), (0, .ref h0), (1, .int p1)]) hx hb dX0_latestNews_3 rfl hl (by decide) rfl (fun ls hl => ?_)
  refine (lp_sX0_latestNews h0 re amonths afull alean alines ahasMoon amoonStart amoonStep aplaceCount areportCount adeedCount pl de kre ra r_place r_kind r_month r_day r_known r_struck p1 gamonths gafull galean gahasMoon gaplaceCount gareportCount gadeedCount gr_place gr_month gr_struck hx hb hml hown hts hK hz hF0 hFA0 (Nat.le_of_ble_eq_true rfl) (Nat.le_of_ble_eq_true rfl) (Nat.zero_le _) (Nat.zero_le _) (fun v H locs ls gv hP hS hl => ?_) 62) (-1) 0 _ _ _ (gi_w (gi_c (-1) (-1) (by decide)) (by decide)) (gi_w (gi_c 0 0 (by decide)) (by decide)) (by have k0 : (0 : Int32).toInt = 0 := (by decide); omega) hP hS (lv_sub hl [2, 3, 1, 0] rfl)
  · skip
    exact W.iret (v := v) hx hb hr (fun t ht hW => ⟨⟨v, (), rfl, gv, trivial⟩, hS.F ht⟩) hS.2.2 dX0_latestNews_46
theorem dX0_newsBehind_0 : decode cX0_newsBehind 0 = .ok (.sipush 1000, 3) := by decide +kernel
theorem dX0_newsBehind_3 : decode cX0_newsBehind 3 = .ok (.istore_n 2, 1) := by decide +kernel
theorem dX0_newsBehind_4 : decode cX0_newsBehind 4 = .ok (.iconst 0, 1) := by decide +kernel
theorem dX0_newsBehind_5 : decode cX0_newsBehind 5 = .ok (.istore_n 3, 1) := by decide +kernel
theorem dX0_newsBehind_6 : decode cX0_newsBehind 6 = .ok (.iload_n 3, 1) := by decide +kernel
theorem dX0_newsBehind_7 : decode cX0_newsBehind 7 = .ok (.aload_n 0, 1) := by decide +kernel
theorem dX0_newsBehind_8 : decode cX0_newsBehind 8 = .ok (.getfield 58, 3) := by decide +kernel
theorem dX0_newsBehind_11 : decode cX0_newsBehind 11 = .ok (.if_icmp .ge 48, 3) := by decide +kernel
theorem dX0_newsBehind_14 : decode cX0_newsBehind 14 = .ok (.aload_n 0, 1) := by decide +kernel
theorem dX0_newsBehind_15 : decode cX0_newsBehind 15 = .ok (.getfield 19, 3) := by decide +kernel
theorem dX0_newsBehind_18 : decode cX0_newsBehind 18 = .ok (.iload_n 3, 1) := by decide +kernel
theorem dX0_newsBehind_19 : decode cX0_newsBehind 19 = .ok (.aaload, 1) := by decide +kernel
theorem dX0_newsBehind_20 : decode cX0_newsBehind 20 = .ok (.getfield 96, 3) := by decide +kernel
theorem dX0_newsBehind_23 : decode cX0_newsBehind 23 = .ok (.ifCond .ne 30, 3) := by decide +kernel
theorem dX0_newsBehind_26 : decode cX0_newsBehind 26 = .ok (.aload_n 0, 1) := by decide +kernel
theorem dX0_newsBehind_27 : decode cX0_newsBehind 27 = .ok (.getfield 19, 3) := by decide +kernel
theorem dX0_newsBehind_30 : decode cX0_newsBehind 30 = .ok (.iload_n 3, 1) := by decide +kernel
theorem dX0_newsBehind_31 : decode cX0_newsBehind 31 = .ok (.aaload, 1) := by decide +kernel
theorem dX0_newsBehind_32 : decode cX0_newsBehind 32 = .ok (.getfield 89, 3) := by decide +kernel
theorem dX0_newsBehind_35 : decode cX0_newsBehind 35 = .ok (.iload_n 1, 1) := by decide +kernel
theorem dX0_newsBehind_36 : decode cX0_newsBehind 36 = .ok (.if_icmp .le 17, 3) := by decide +kernel
theorem dX0_newsBehind_39 : decode cX0_newsBehind 39 = .ok (.iload_n 2, 1) := by decide +kernel
theorem dX0_newsBehind_40 : decode cX0_newsBehind 40 = .ok (.aload_n 0, 1) := by decide +kernel
theorem dX0_newsBehind_41 : decode cX0_newsBehind 41 = .ok (.getfield 19, 3) := by decide +kernel
theorem dX0_newsBehind_44 : decode cX0_newsBehind 44 = .ok (.iload_n 3, 1) := by decide +kernel
theorem dX0_newsBehind_45 : decode cX0_newsBehind 45 = .ok (.aaload, 1) := by decide +kernel
theorem dX0_newsBehind_46 : decode cX0_newsBehind 46 = .ok (.getfield 89, 3) := by decide +kernel
theorem dX0_newsBehind_49 : decode cX0_newsBehind 49 = .ok (.invokestatic 121, 3) := by decide +kernel
theorem dX0_newsBehind_52 : decode cX0_newsBehind 52 = .ok (.istore_n 2, 1) := by decide +kernel
theorem dX0_newsBehind_53 : decode cX0_newsBehind 53 = .ok (.iinc 3 1, 3) := by decide +kernel
theorem dX0_newsBehind_56 : decode cX0_newsBehind 56 = .ok (.goto (-50), 3) := by decide +kernel
theorem dX0_newsBehind_59 : decode cX0_newsBehind 59 = .ok (.iload_n 2, 1) := by decide +kernel
theorem dX0_newsBehind_60 : decode cX0_newsBehind 60 = .ok (.ireturn, 1) := by decide +kernel
set_option maxHeartbeats 4000000 in
set_option maxRecDepth 100000 in
theorem lp_sX0_newsBehind {p : Program} {l : Launch} {e : Env} {R : Room} {s : State} {m : MethodId} {args : Array Value} {below : List Frame} {meth : Method} {c : Code} {Q : State → Prop} {A : Nat → Prop} {cells slots : Nat} {dC : Nat → ClassId} {dI : Nat → Nat → Nat} (h0 : Nat) (re : Nat) (amonths : Int32) (afull : Int32) (alean : Int32) (alines : Int32) (ahasMoon : Int32) (amoonStart : Int32) (amoonStep : Int32) (aplaceCount : Int32) (areportCount : Int32) (adeedCount : Int32) (pl : Nat) (de : Nat) (kre : ClassId) (ra : Nat → Nat) (r_place : Nat → Int32) (r_kind : Nat → Int32) (r_month : Nat → Int32) (r_day : Nat → Int32) (r_known : Nat → Int32) (r_struck : Nat → Int32) (p1 : Int32) (gamonths : gi amonths 0 24) (gafull : gi afull 0 5) (galean : gi alean 0 5) (gahasMoon : gi ahasMoon 0 1) (gaplaceCount : gi aplaceCount 0 6) (gareportCount : gi areportCount 0 24) (gadeedCount : gi adeedCount 0 8) (gr_place : ga r_place 24 0 5) (gr_month : ga r_month 24 0 23) (gr_struck : ga r_struck 24 0 1) (hx : p.tables.exec = Jvm.exec) (hb : c.code = cX0_newsBehind) (hml : c.maxLocals = 4) (hown : s.vm.findClass RX0 = some m.cls) (hts : ∀ w ∈ ((.code yX0_newsBehind cX0_newsBehind 4 (some .int) :: wsGA) : List Cond), w.before args s = true) (hK : va_K (dC, dI) vwCl [(kre, .object RX7)] s) (hz : nzA s) (hF0 : va_P (dC, dI) vwCl (gz_fam 24 ra 7 (fun i => [.int (r_place i), .int (r_kind i), .int (r_month i), .int (r_day i), .int (r_known i), .int (r_struck i)])) s.heap) (hFA0 : gz_ap A (gz_fam 24 ra 7 (fun i => [.int (r_place i), .int (r_kind i), .int (r_month i), .int (r_day i), .int (r_known i), .int (r_struck i)]))) (hRf : 1 ≤ R.frames) (hRl : 13 ≤ R.locals) (hRc : cells ≤ R.cells) (hRs : slots ≤ R.slots) (kr60 : ∀ (v : Int32) (H : Heap) (locs : List Loc) (ls : Array Slot), gi v (-2147483648) 1000 → va_P (dC, dI) vwCl [(h0, .inr (0, [.int amonths, .int afull, .int alean, .int alines, .int ahasMoon, .int amoonStart, .int amoonStep, .int aplaceCount, .int areportCount, .int adeedCount, .ref pl, .ref re, .ref de])), (re, .inl (kre, 24, .inr (.inr (.inr (.inr (fun i => some (ra i)))))))] H → va_S A s.heap H locs → lv_has ls 4 [] → W p l e R s m args below meth c H locs cells slots Q (F0 m 60 ls [.int v])) : ∀ z : Nat, (∀ (v2 : Int32) (v3 : Int32) (H : Heap) (locs : List Loc) (ls : Array Slot), gi v2 (-2147483648) 1000 → gi v3 0 24 → 49 + (-2) * v3.toInt < (z : Int) → va_P (dC, dI) vwCl [(h0, .inr (0, [.int amonths, .int afull, .int alean, .int alines, .int ahasMoon, .int amoonStart, .int amoonStep, .int aplaceCount, .int areportCount, .int adeedCount, .ref pl, .ref re, .ref de])), (re, .inl (kre, 24, .inr (.inr (.inr (.inr (fun i => some (ra i)))))))] H → va_S A s.heap H locs → lv_has ls 4 [(0, .ref h0), (1, .int p1), (2, .int v2), (3, .int v3)] → W p l e R s m args below meth c H locs cells slots Q (F0 m 6 ls [])) := by
  intro z
  induction z with
  | zero =>
    intro v2 v3 H locs ls gv2 gv3 hmu hP hS hl
    exact absurd hmu (by have hv31 := gv3.1; have hv32 := gv3.2; omega)
  | succ z ih =>
      intro v2 v3 H locs ls gv2 gv3 hmu hP hS hl
      refine lv_iload_n hx hb dX0_newsBehind_6 rfl (lv_at hl 3 rfl) ?_
      refine lv_aload_n hx hb dX0_newsBehind_7 rfl (lv_at hl 0 rfl) ?_
      refine va_get (D := (dC, dI)) (ci := 0) (v := .int areportCount) (C := RX0) (T := TX0) (N := 13) hx hb hts (fun w h => List.mem_cons_of_mem _ (jnGA_X0 w h)) hown hK hP 0 rfl rfl 8 (by decide) (hts _ (List.mem_cons_of_mem _ mGA_160)) (fun _ h9 => h9) rfl dX0_newsBehind_8 ?_
      refine lv_icmp_ge (tgt := 59) hx hb dX0_newsBehind_11 (by decide) (fun c_241 => ?_) (fun c_241 => ?_)
      · refine lv_iload_n hx hb dX0_newsBehind_59 rfl (lv_at hl 2 rfl) ?_
        exact kr60 v2 _ _ _ gv2 hP hS (lv_sub hl [] rfl)
      · have g_242 : gi v3 0 23 := gi_lt_l (Int32.not_le.mp c_241) gv3 gareportCount (by decide)
        have g_243 : gi areportCount 1 24 := gi_lt_r (Int32.not_le.mp c_241) gv3 gareportCount (by decide)
        refine lv_aload_n hx hb dX0_newsBehind_14 rfl (lv_at hl 0 rfl) ?_
        refine va_get (D := (dC, dI)) (ci := 0) (v := .ref re) (C := RX0) (T := TX0) (N := 13) hx hb hts (fun w h => List.mem_cons_of_mem _ (jnGA_X0 w h)) hown hK hP 0 rfl rfl 11 (by decide) (hts _ (List.mem_cons_of_mem _ mGA_72)) (fun _ h9 => h9) rfl dX0_newsBehind_15 ?_
        refine lv_iload_n hx hb dX0_newsBehind_18 rfl (lv_at hl 3 rfl) ?_
        refine va_aldq hx hb hK hP 1 0 rfl rfl (gi_in g_242 (by decide)) dX0_newsBehind_19 ?_
        refine W.eq (g2 := F0 m 20 ls [.ref (ra v3.toNatClampNeg)]) rfl ?_
        refine va_get (D := (dC, dI)) (ci := 7) (v := .int (r_struck v3.toNatClampNeg)) (C := RX7) (T := TX7) (N := 6) hx hb hts (fun w h => List.mem_cons_of_mem _ (jnGA_X7 w h)) hown hK (gz_ro hF0 hFA0 hS) (v3.toNatClampNeg) (gz_fam_at (gz_clt (gi_in (n := 24) g_242 (by decide)))) rfl 5 (by decide) (hts _ (List.mem_cons_of_mem _ mGA_322)) (fun _ h9 => h9) rfl dX0_newsBehind_20 ?_
        refine lv_topi (fun x_244 ex_244 => ?_)
        have gx_244 : gi x_244 0 1 := ga_at gr_struck (gi_in (n := 24) g_242 (by decide)) ex_244
        refine lv_if_ne (tgt := 53) hx hb dX0_newsBehind_23 (by decide) (fun c_245 => ?_) (fun c_245 => ?_)
        · have g_246 : gi x_244 1 1 := gi_ne_lo c_245 gx_244 (gi_c 0 0 (by decide)) (by decide)
          obtain ⟨x_247, ex_247⟩ : ∃ y : Int32, y = v3 + 1 := ⟨_, rfl⟩
          have gx_247 : gi x_247 1 24 := gi_add ex_247 g_242 (gi_c 1 1 (by decide)) (by decide)
          refine lv_iinc (v := x_247) (lv' := [(3, .int x_247), (0, .ref h0), (1, .int p1), (2, .int v2)]) hx hb dX0_newsBehind_53 hl (k := 3) rfl (by rw [ex_247]; rfl) (by decide) rfl (fun ls hl => ?_)
          refine lv_goto (tgt := 6) hx hb dX0_newsBehind_56 (by decide) ?_
          exact ih v2 x_247 _ _ _ gv2 (gi_w gx_247 (by decide)) (by have av3 := gv3.1; have bv3 := gv3.2; have qgx_247 := gx_247.1; have rgx_247 := gx_247.2; have igx_247 : x_247.toInt = v3.toInt + 1 := (by have hc1 : (1 : Int32).toInt = 1 := (by decide); have h9 := gi_addI ex_247 (by have h1 := g_242.1; have h2 := (gi_c 1 1 (by decide)).1; have h3 := g_242.2; have h4 := (gi_c 1 1 (by decide)).2; omega) (by have h1 := g_242.1; have h2 := (gi_c 1 1 (by decide)).1; have h3 := g_242.2; have h4 := (gi_c 1 1 (by decide)).2; omega); rw [hc1] at h9; exact h9); have qgv3 := g_242.1; have rgv3 := g_242.2; omega) hP hS (lv_sub hl [1, 2, 3, 0] rfl)
        · have g_248 : gi x_244 0 0 := gi_eq c_245 (gi_c 0 0 (by decide))
          refine lv_aload_n hx hb dX0_newsBehind_26 rfl (lv_at hl 0 rfl) ?_
          refine va_get (D := (dC, dI)) (ci := 0) (v := .ref re) (C := RX0) (T := TX0) (N := 13) hx hb hts (fun w h => List.mem_cons_of_mem _ (jnGA_X0 w h)) hown hK hP 0 rfl rfl 11 (by decide) (hts _ (List.mem_cons_of_mem _ mGA_72)) (fun _ h9 => h9) rfl dX0_newsBehind_27 ?_
          refine lv_iload_n hx hb dX0_newsBehind_30 rfl (lv_at hl 3 rfl) ?_
          refine va_aldq hx hb hK hP 1 0 rfl rfl (gi_in g_242 (by decide)) dX0_newsBehind_31 ?_
          refine W.eq (g2 := F0 m 32 ls [.ref (ra v3.toNatClampNeg)]) rfl ?_
          refine va_get (D := (dC, dI)) (ci := 7) (v := .int (r_known v3.toNatClampNeg)) (C := RX7) (T := TX7) (N := 6) hx hb hts (fun w h => List.mem_cons_of_mem _ (jnGA_X7 w h)) hown hK (gz_ro hF0 hFA0 hS) (v3.toNatClampNeg) (gz_fam_at (gz_clt (gi_in (n := 24) g_242 (by decide)))) rfl 4 (by decide) (hts _ (List.mem_cons_of_mem _ mGA_321)) (fun _ h9 => h9) rfl dX0_newsBehind_32 ?_
          refine lv_topi (fun x_249 ex_249 => ?_)
          refine lv_iload_n hx hb dX0_newsBehind_35 rfl (lv_at hl 1 rfl) ?_
          refine lv_icmp_le (tgt := 53) hx hb dX0_newsBehind_36 (by decide) (fun c_250 => ?_) (fun c_250 => ?_)
          · obtain ⟨x_251, ex_251⟩ : ∃ y : Int32, y = v3 + 1 := ⟨_, rfl⟩
            have gx_251 : gi x_251 1 24 := gi_add ex_251 g_242 (gi_c 1 1 (by decide)) (by decide)
            refine lv_iinc (v := x_251) (lv' := [(3, .int x_251), (0, .ref h0), (1, .int p1), (2, .int v2)]) hx hb dX0_newsBehind_53 hl (k := 3) rfl (by rw [ex_251]; rfl) (by decide) rfl (fun ls hl => ?_)
            refine lv_goto (tgt := 6) hx hb dX0_newsBehind_56 (by decide) ?_
            exact ih v2 x_251 _ _ _ gv2 (gi_w gx_251 (by decide)) (by have av3 := gv3.1; have bv3 := gv3.2; have qgx_251 := gx_251.1; have rgx_251 := gx_251.2; have igx_251 : x_251.toInt = v3.toInt + 1 := (by have hc1 : (1 : Int32).toInt = 1 := (by decide); have h9 := gi_addI ex_251 (by have h1 := g_242.1; have h2 := (gi_c 1 1 (by decide)).1; have h3 := g_242.2; have h4 := (gi_c 1 1 (by decide)).2; omega) (by have h1 := g_242.1; have h2 := (gi_c 1 1 (by decide)).1; have h3 := g_242.2; have h4 := (gi_c 1 1 (by decide)).2; omega); rw [hc1] at h9; exact h9); have qgv3 := g_242.1; have rgv3 := g_242.2; omega) hP hS (lv_sub hl [1, 2, 3, 0] rfl)
          · have g_252 : gi p1 (-2147483648) 2147483646 := gi_lt_l (Int32.not_le.mp c_250) (gi_any p1) (gi_any x_249) (by decide)
            have g_253 : gi x_249 (-2147483647) 2147483647 := gi_lt_r (Int32.not_le.mp c_250) (gi_any p1) (gi_any x_249) (by decide)
            refine lv_iload_n hx hb dX0_newsBehind_39 rfl (lv_at hl 2 rfl) ?_
            refine lv_aload_n hx hb dX0_newsBehind_40 rfl (lv_at hl 0 rfl) ?_
            refine va_get (D := (dC, dI)) (ci := 0) (v := .ref re) (C := RX0) (T := TX0) (N := 13) hx hb hts (fun w h => List.mem_cons_of_mem _ (jnGA_X0 w h)) hown hK hP 0 rfl rfl 11 (by decide) (hts _ (List.mem_cons_of_mem _ mGA_72)) (fun _ h9 => h9) rfl dX0_newsBehind_41 ?_
            refine lv_iload_n hx hb dX0_newsBehind_44 rfl (lv_at hl 3 rfl) ?_
            refine va_aldq hx hb hK hP 1 0 rfl rfl (gi_in g_242 (by decide)) dX0_newsBehind_45 ?_
            refine W.eq (g2 := F0 m 46 ls [.ref (ra v3.toNatClampNeg), .int v2]) rfl ?_
            refine va_get (D := (dC, dI)) (ci := 7) (v := .int (r_known v3.toNatClampNeg)) (C := RX7) (T := TX7) (N := 6) hx hb hts (fun w h => List.mem_cons_of_mem _ (jnGA_X7 w h)) hown hK (gz_ro hF0 hFA0 hS) (v3.toNatClampNeg) (gz_fam_at (gz_clt (gi_in (n := 24) g_242 (by decide)))) rfl 4 (by decide) (hts _ (List.mem_cons_of_mem _ mGA_321)) (fun _ h9 => h9) rfl dX0_newsBehind_46 ?_
            refine lv_topi (fun x_254 ex_254 => ?_)
            refine va_mmin (own := RX0) hx hb (by rw [hml]; exact hl.1.symm) hown (hts _ (List.mem_cons_of_mem _ mGA_718)) (hts _ (List.mem_cons_of_mem _ mGA_268)) (hts _ (List.mem_cons_of_mem _ mGA_269)) (hts _ (List.mem_cons_of_mem _ mGA_270)) (Nat.le_trans (Nat.le_of_ble_eq_true rfl) hRf) (Nat.le_trans (Nat.le_of_ble_eq_true rfl) hRl) hRc hRs dX0_newsBehind_49 ?_
            refine lv_topi (fun x_255 ex_255 => ?_)
            have gx_255 : gi x_255 (-2147483648) 1000 := gi_min ex_255 gv2 (gi_any x_254) (by decide)
            refine lv_istore_n (lv' := [(2, .int x_255), (0, .ref h0), (1, .int p1), (3, .int v3)]) hx hb dX0_newsBehind_52 rfl hl (by decide) rfl (fun ls hl => ?_)
            obtain ⟨x_256, ex_256⟩ : ∃ y : Int32, y = v3 + 1 := ⟨_, rfl⟩
            have gx_256 : gi x_256 1 24 := gi_add ex_256 g_242 (gi_c 1 1 (by decide)) (by decide)
            refine lv_iinc (v := x_256) (lv' := [(3, .int x_256), (2, .int x_255), (0, .ref h0), (1, .int p1)]) hx hb dX0_newsBehind_53 hl (k := 3) rfl (by rw [ex_256]; rfl) (by decide) rfl (fun ls hl => ?_)
            refine lv_goto (tgt := 6) hx hb dX0_newsBehind_56 (by decide) ?_
            exact ih x_255 x_256 _ _ _ gx_255 (gi_w gx_256 (by decide)) (by have av3 := gv3.1; have bv3 := gv3.2; have qgx_256 := gx_256.1; have rgx_256 := gx_256.2; have igx_256 : x_256.toInt = v3.toInt + 1 := (by have hc1 : (1 : Int32).toInt = 1 := (by decide); have h9 := gi_addI ex_256 (by have h1 := g_242.1; have h2 := (gi_c 1 1 (by decide)).1; have h3 := g_242.2; have h4 := (gi_c 1 1 (by decide)).2; omega) (by have h1 := g_242.1; have h2 := (gi_c 1 1 (by decide)).1; have h3 := g_242.2; have h4 := (gi_c 1 1 (by decide)).2; omega); rw [hc1] at h9; exact h9); have qgv3 := g_242.1; have rgv3 := g_242.2; omega) hP hS (lv_sub hl [2, 3, 1, 0] rfl)
set_option maxHeartbeats 4000000 in
set_option maxRecDepth 100000 in
theorem sX0_newsBehind (l : Launch) (dC : Nat → ClassId) (dI : Nat → Nat → Nat) (h0 : Nat) (re : Nat) (amonths : Int32) (afull : Int32) (alean : Int32) (alines : Int32) (ahasMoon : Int32) (amoonStart : Int32) (amoonStep : Int32) (aplaceCount : Int32) (areportCount : Int32) (adeedCount : Int32) (pl : Nat) (de : Nat) (kre : ClassId) (ra : Nat → Nat) (r_place : Nat → Int32) (r_kind : Nat → Int32) (r_month : Nat → Int32) (r_day : Nat → Int32) (r_known : Nat → Int32) (r_struck : Nat → Int32) (p1 : Int32) (gamonths : gi amonths 0 24) (gafull : gi afull 0 5) (galean : gi alean 0 5) (gahasMoon : gi ahasMoon 0 1) (gaplaceCount : gi aplaceCount 0 6) (gareportCount : gi areportCount 0 24) (gadeedCount : gi adeedCount 0 8) (gr_place : ga r_place 24 0 5) (gr_month : ga r_month 24 0 23) (gr_struck : ga r_struck 24 0 1) : Met l yX0_newsBehind (.code yX0_newsBehind cX0_newsBehind 4 (some .int) :: wsGA) ({ frames := 1, cells := 0, slots := 0, locals := 13 }) (va_Pc [.ref h0, .int p1] (fun U => va_P (dC, dI) vwCl [(h0, .inr (0, [.int amonths, .int afull, .int alean, .int alines, .int ahasMoon, .int amoonStart, .int amoonStep, .int aplaceCount, .int areportCount, .int adeedCount, .ref pl, .ref re, .ref de])), (re, .inl (kre, 24, .inr (.inr (.inr (.inr (fun i => some (ra i)))))))] U.heap ∧ va_K (dC, dI) vwCl [(kre, .object RX7)] U ∧ nzA U ∧ va_P (dC, dI) vwCl (gz_fam 24 ra 7 (fun i => [.int (r_place i), .int (r_kind i), .int (r_month i), .int (r_day i), .int (r_known i), .int (r_struck i)])) U.heap)) (va_Qi (fun (r : Int32) (u : Unit) => gi r (-2147483648) 1000) (fun _ _ => True) (fun _ => False)) 0 0 (fun _ => False) := by
  refine Met.ofW (cc := cX0_newsBehind) (maxL := 4) (ret := (some .int)) (by decide) rfl ?_
  intro p e s m args below meth c s₁ B hml hv
  obtain ⟨rfl, hP, hK, hz, hF0⟩ := hv
  have hx := B.exec
  have hb := B.bytes
  have hr := B.returns
  have hts := atoms_spec (ws := (.code yX0_newsBehind cX0_newsBehind 4 (some .int) :: wsGA)) B.pre
  have hown : s.vm.findClass RX0 = some m.cls := findClass_of_methodNamed B.named
  have hlocks := B.notSynchronized
  have hS : va_S (fun _ => False) s.heap s.heap [] := va_S.rf
  have hFA0 : gz_ap (fun _ => False) (gz_fam 24 ra 7 (fun i => [.int (r_place i), .int (r_kind i), .int (r_month i), .int (r_day i), .int (r_known i), .int (r_struck i)])) := gz_ap0
  have hl := lv_entry ([.ref h0, .int p1]) (n := 4) (Nat.le_of_ble_eq_true rfl)
  rw [lg_entry_eq]
  generalize (lg_sl ([.ref h0, .int p1]) ++ List.replicate (4 - (lg_sl ([.ref h0, .int p1])).length) Slot.unset).toArray = ls at hl ⊢
  have hl : lv_has ls 4 [(0, .ref h0), (1, .int p1)] := hl
  refine lv_sipush (v := 1000) hx hb dX0_newsBehind_0 (by decide) ?_
  refine lv_istore_n (lv' := [(2, .int 1000), (0, .ref h0), (1, .int p1)]) hx hb dX0_newsBehind_3 rfl hl (by decide) rfl (fun ls hl => ?_)
  refine lv_iconst (v := 0) hx hb dX0_newsBehind_4 (by decide) ?_
  refine lv_istore_n (lv' := [(3, .int 0), (2, .int 1000), (0, .ref h0), (1, .int p1)]) hx hb dX0_newsBehind_5 rfl hl (by decide) rfl (fun ls hl => ?_)
  refine (lp_sX0_newsBehind h0 re amonths afull alean alines ahasMoon amoonStart amoonStep aplaceCount areportCount adeedCount pl de kre ra r_place r_kind r_month r_day r_known r_struck p1 gamonths gafull galean gahasMoon gaplaceCount gareportCount gadeedCount gr_place gr_month gr_struck hx hb hml hown hts hK hz hF0 hFA0 (Nat.le_of_ble_eq_true rfl) (Nat.le_of_ble_eq_true rfl) (Nat.zero_le _) (Nat.zero_le _) (fun v H locs ls gv hP hS hl => ?_) 62) 1000 0 _ _ _ (gi_w (gi_c 1000 1000 (by decide)) (by decide)) (gi_w (gi_c 0 0 (by decide)) (by decide)) (by have k0 : (0 : Int32).toInt = 0 := (by decide); omega) hP hS (lv_sub hl [2, 3, 1, 0] rfl)
  · skip
    exact W.iret (v := v) hx hb hr (fun t ht hW => ⟨⟨v, (), rfl, gv, trivial⟩, hS.F ht⟩) hS.2.2 dX0_newsBehind_60
