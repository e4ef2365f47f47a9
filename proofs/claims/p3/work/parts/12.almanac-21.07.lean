theorem dX0_placeNamed_0 : decode cX0_placeNamed 0 = .ok (.iconst 0, 1) := by decide +kernel
theorem dX0_placeNamed_1 : decode cX0_placeNamed 1 = .ok (.istore_n 2, 1) := by decide +kernel
theorem dX0_placeNamed_2 : decode cX0_placeNamed 2 = .ok (.iload_n 2, 1) := by decide +kernel
theorem dX0_placeNamed_3 : decode cX0_placeNamed 3 = .ok (.aload_n 0, 1) := by decide +kernel
theorem dX0_placeNamed_4 : decode cX0_placeNamed 4 = .ok (.getfield 55, 3) := by decide +kernel
theorem dX0_placeNamed_7 : decode cX0_placeNamed 7 = .ok (.if_icmp .ge 24, 3) := by decide +kernel
theorem dX0_placeNamed_10 : decode cX0_placeNamed 10 = .ok (.aload_n 0, 1) := by decide +kernel
theorem dX0_placeNamed_11 : decode cX0_placeNamed 11 = .ok (.getfield 11, 3) := by decide +kernel
theorem dX0_placeNamed_14 : decode cX0_placeNamed 14 = .ok (.iload_n 2, 1) := by decide +kernel
theorem dX0_placeNamed_15 : decode cX0_placeNamed 15 = .ok (.aaload, 1) := by decide +kernel
theorem dX0_placeNamed_16 : decode cX0_placeNamed 16 = .ok (.getfield 67, 3) := by decide +kernel
theorem dX0_placeNamed_19 : decode cX0_placeNamed 19 = .ok (.iload_n 1, 1) := by decide +kernel
theorem dX0_placeNamed_20 : decode cX0_placeNamed 20 = .ok (.if_icmp .ne 5, 3) := by decide +kernel
theorem dX0_placeNamed_23 : decode cX0_placeNamed 23 = .ok (.iload_n 2, 1) := by decide +kernel
theorem dX0_placeNamed_24 : decode cX0_placeNamed 24 = .ok (.ireturn, 1) := by decide +kernel
theorem dX0_placeNamed_25 : decode cX0_placeNamed 25 = .ok (.iinc 2 1, 3) := by decide +kernel
theorem dX0_placeNamed_28 : decode cX0_placeNamed 28 = .ok (.goto (-26), 3) := by decide +kernel
theorem dX0_placeNamed_31 : decode cX0_placeNamed 31 = .ok (.iconst (-1), 1) := by decide +kernel
theorem dX0_placeNamed_32 : decode cX0_placeNamed 32 = .ok (.ireturn, 1) := by decide +kernel
set_option maxHeartbeats 4000000 in
set_option maxRecDepth 100000 in
theorem lp_sX0_placeNamed {p : Program} {l : Launch} {e : Env} {R : Room} {s : State} {m : MethodId} {args : Array Value} {below : List Frame} {meth : Method} {c : Code} {Q : State → Prop} {A : Nat → Prop} {cells slots : Nat} {dC : Nat → ClassId} {dI : Nat → Nat → Nat} (h0 : Nat) (pl : Nat) (amonths : Int32) (afull : Int32) (alean : Int32) (alines : Int32) (ahasMoon : Int32) (amoonStart : Int32) (amoonStep : Int32) (aplaceCount : Int32) (areportCount : Int32) (adeedCount : Int32) (re : Nat) (de : Nat) (kpl : ClassId) (pa : Nat → Nat) (p_name : Nat → Int32) (p_trust : Nat → Int32) (p1 : Int32) (gamonths : gi amonths 0 24) (gafull : gi afull 0 5) (galean : gi alean 0 5) (gahasMoon : gi ahasMoon 0 1) (gaplaceCount : gi aplaceCount 0 6) (gareportCount : gi areportCount 0 24) (gadeedCount : gi adeedCount 0 8) (hx : p.tables.exec = Jvm.exec) (hb : c.code = cX0_placeNamed) (hml : c.maxLocals = 3) (hown : s.vm.findClass RX0 = some m.cls) (hts : ∀ w ∈ ((.code yX0_placeNamed cX0_placeNamed 3 (some .int) :: wsGA) : List Cond), w.before args s = true) (hK : va_K (dC, dI) vwCl [(kpl, .object RX5)] s) (hz : nzA s) (hF0 : va_P (dC, dI) vwCl (gz_fam 6 pa 5 (fun i => [.int (p_name i), .int (p_trust i)])) s.heap) (hFA0 : gz_ap A (gz_fam 6 pa 5 (fun i => [.int (p_name i), .int (p_trust i)]))) (hRf : 0 ≤ R.frames) (hRl : 0 ≤ R.locals) (hRc : cells ≤ R.cells) (hRs : slots ≤ R.slots) (kr32 : ∀ (v : Int32) (H : Heap) (locs : List Loc) (ls : Array Slot), gi v (-1) (-1) → va_P (dC, dI) vwCl [(h0, .inr (0, [.int amonths, .int afull, .int alean, .int alines, .int ahasMoon, .int amoonStart, .int amoonStep, .int aplaceCount, .int areportCount, .int adeedCount, .ref pl, .ref re, .ref de])), (pl, .inl (kpl, 6, .inr (.inr (.inr (.inr (fun i => some (pa i)))))))] H → va_S A s.heap H locs → lv_has ls 3 [] → W p l e R s m args below meth c H locs cells slots Q (F0 m 32 ls [.int v])) (kr24 : ∀ (v : Int32) (H : Heap) (locs : List Loc) (ls : Array Slot), gi v 0 5 → va_P (dC, dI) vwCl [(h0, .inr (0, [.int amonths, .int afull, .int alean, .int alines, .int ahasMoon, .int amoonStart, .int amoonStep, .int aplaceCount, .int areportCount, .int adeedCount, .ref pl, .ref re, .ref de])), (pl, .inl (kpl, 6, .inr (.inr (.inr (.inr (fun i => some (pa i)))))))] H → va_S A s.heap H locs → lv_has ls 3 [] → W p l e R s m args below meth c H locs cells slots Q (F0 m 24 ls [.int v])) : ∀ z : Nat, (∀ (v2 : Int32) (H : Heap) (locs : List Loc) (ls : Array Slot), gi v2 0 6 → 13 + (-2) * v2.toInt < (z : Int) → va_P (dC, dI) vwCl [(h0, .inr (0, [.int amonths, .int afull, .int alean, .int alines, .int ahasMoon, .int amoonStart, .int amoonStep, .int aplaceCount, .int areportCount, .int adeedCount, .ref pl, .ref re, .ref de])), (pl, .inl (kpl, 6, .inr (.inr (.inr (.inr (fun i => some (pa i)))))))] H → va_S A s.heap H locs → lv_has ls 3 [(0, .ref h0), (1, .int p1), (2, .int v2)] → W p l e R s m args below meth c H locs cells slots Q (F0 m 2 ls [])) := by
  intro z
  induction z with
  | zero =>
    intro v2 H locs ls gv2 hmu hP hS hl
    exact absurd hmu (by have hv21 := gv2.1; have hv22 := gv2.2; omega)
  | succ z ih =>
      intro v2 H locs ls gv2 hmu hP hS hl
      refine lv_iload_n hx hb dX0_placeNamed_2 rfl (lv_at hl 2 rfl) ?_
      refine lv_aload_n hx hb dX0_placeNamed_3 rfl (lv_at hl 0 rfl) ?_
      refine va_get (D := (dC, dI)) (ci := 0) (v := .int aplaceCount) (C := RX0) (T := TX0) (N := 13) hx hb hts (fun w h => List.mem_cons_of_mem _ (jnGA_X0 w h)) hown hK hP 0 rfl rfl 7 (by decide) (hts _ (List.mem_cons_of_mem _ mGA_159)) (fun _ h9 => h9) rfl dX0_placeNamed_4 ?_
      refine lv_icmp_ge (tgt := 31) hx hb dX0_placeNamed_7 (by decide) (fun c_43 => ?_) (fun c_43 => ?_)
      · refine lv_iconst (v := (-1)) hx hb dX0_placeNamed_31 (by decide) ?_
        exact kr32 (-1) _ _ _ (gi_c (-1) (-1) (by decide)) hP hS (lv_sub hl [] rfl)
      · have g_44 : gi v2 0 5 := gi_lt_l (Int32.not_le.mp c_43) gv2 gaplaceCount (by decide)
        have g_45 : gi aplaceCount 1 6 := gi_lt_r (Int32.not_le.mp c_43) gv2 gaplaceCount (by decide)
        refine lv_aload_n hx hb dX0_placeNamed_10 rfl (lv_at hl 0 rfl) ?_
        refine va_get (D := (dC, dI)) (ci := 0) (v := .ref pl) (C := RX0) (T := TX0) (N := 13) hx hb hts (fun w h => List.mem_cons_of_mem _ (jnGA_X0 w h)) hown hK hP 0 rfl rfl 10 (by decide) (hts _ (List.mem_cons_of_mem _ mGA_70)) (fun _ h9 => h9) rfl dX0_placeNamed_11 ?_
        refine lv_iload_n hx hb dX0_placeNamed_14 rfl (lv_at hl 2 rfl) ?_
        refine va_aldq hx hb hK hP 1 0 rfl rfl (gi_in g_44 (by decide)) dX0_placeNamed_15 ?_
        refine W.eq (g2 := F0 m 16 ls [.ref (pa v2.toNatClampNeg)]) rfl ?_
        refine va_get (D := (dC, dI)) (ci := 5) (v := .int (p_name v2.toNatClampNeg)) (C := RX5) (T := TX5) (N := 2) hx hb hts (fun w h => List.mem_cons_of_mem _ (jnGA_X5 w h)) hown hK (gz_ro hF0 hFA0 hS) (v2.toNatClampNeg) (gz_fam_at (gz_clt (gi_in (n := 6) g_44 (by decide)))) rfl 0 (by decide) (hts _ (List.mem_cons_of_mem _ mGA_302)) (fun _ h9 => h9) rfl dX0_placeNamed_16 ?_
        refine lv_topi (fun x_46 ex_46 => ?_)
        refine lv_iload_n hx hb dX0_placeNamed_19 rfl (lv_at hl 1 rfl) ?_
        refine lv_icmp_ne (tgt := 25) hx hb dX0_placeNamed_20 (by decide) (fun c_47 => ?_) (fun c_47 => ?_)
        · obtain ⟨x_48, ex_48⟩ : ∃ y : Int32, y = v2 + 1 := ⟨_, rfl⟩
          have gx_48 : gi x_48 1 6 := gi_add ex_48 g_44 (gi_c 1 1 (by decide)) (by decide)
          refine lv_iinc (v := x_48) (lv' := [(2, .int x_48), (0, .ref h0), (1, .int p1)]) hx hb dX0_placeNamed_25 hl (k := 2) rfl (by rw [ex_48]; rfl) (by decide) rfl (fun ls hl => ?_)
          refine lv_goto (tgt := 2) hx hb dX0_placeNamed_28 (by decide) ?_
          exact ih x_48 _ _ _ (gi_w gx_48 (by decide)) (by have av2 := gv2.1; have bv2 := gv2.2; have qgx_48 := gx_48.1; have rgx_48 := gx_48.2; have igx_48 : x_48.toInt = v2.toInt + 1 := (by have hc1 : (1 : Int32).toInt = 1 := (by decide); have h9 := gi_addI ex_48 (by have h1 := g_44.1; have h2 := (gi_c 1 1 (by decide)).1; have h3 := g_44.2; have h4 := (gi_c 1 1 (by decide)).2; omega) (by have h1 := g_44.1; have h2 := (gi_c 1 1 (by decide)).1; have h3 := g_44.2; have h4 := (gi_c 1 1 (by decide)).2; omega); rw [hc1] at h9; exact h9); have qgv2 := g_44.1; have rgv2 := g_44.2; omega) hP hS (lv_sub hl [1, 2, 0] rfl)
        · refine lv_iload_n hx hb dX0_placeNamed_23 rfl (lv_at hl 2 rfl) ?_
          exact kr24 v2 _ _ _ g_44 hP hS (lv_sub hl [] rfl)
set_option maxHeartbeats 4000000 in
set_option maxRecDepth 100000 in
theorem sX0_placeNamed (l : Launch) (dC : Nat → ClassId) (dI : Nat → Nat → Nat) (h0 : Nat) (pl : Nat) (amonths : Int32) (afull : Int32) (alean : Int32) (alines : Int32) (ahasMoon : Int32) (amoonStart : Int32) (amoonStep : Int32) (aplaceCount : Int32) (areportCount : Int32) (adeedCount : Int32) (re : Nat) (de : Nat) (kpl : ClassId) (pa : Nat → Nat) (p_name : Nat → Int32) (p_trust : Nat → Int32) (p1 : Int32) (gamonths : gi amonths 0 24) (gafull : gi afull 0 5) (galean : gi alean 0 5) (gahasMoon : gi ahasMoon 0 1) (gaplaceCount : gi aplaceCount 0 6) (gareportCount : gi areportCount 0 24) (gadeedCount : gi adeedCount 0 8) : Met l yX0_placeNamed (.code yX0_placeNamed cX0_placeNamed 3 (some .int) :: wsGA) ({ frames := 0, cells := 0, slots := 0, locals := 0 }) (va_Pc [.ref h0, .int p1] (fun U => va_P (dC, dI) vwCl [(h0, .inr (0, [.int amonths, .int afull, .int alean, .int alines, .int ahasMoon, .int amoonStart, .int amoonStep, .int aplaceCount, .int areportCount, .int adeedCount, .ref pl, .ref re, .ref de])), (pl, .inl (kpl, 6, .inr (.inr (.inr (.inr (fun i => some (pa i)))))))] U.heap ∧ va_K (dC, dI) vwCl [(kpl, .object RX5)] U ∧ nzA U ∧ va_P (dC, dI) vwCl (gz_fam 6 pa 5 (fun i => [.int (p_name i), .int (p_trust i)])) U.heap)) (va_Qi (fun (r : Int32) (u : Unit) => gi r (-1) 5) (fun _ _ => True) (fun _ => False)) 0 0 (fun _ => False) := by
  refine Met.ofW (cc := cX0_placeNamed) (maxL := 3) (ret := (some .int)) (by decide) rfl ?_
  intro p e s m args below meth c s₁ B hml hv
  obtain ⟨rfl, hP, hK, hz, hF0⟩ := hv
  have hx := B.exec
  have hb := B.bytes
  have hr := B.returns
  have hts := atoms_spec (ws := (.code yX0_placeNamed cX0_placeNamed 3 (some .int) :: wsGA)) B.pre
  have hown : s.vm.findClass RX0 = some m.cls := findClass_of_methodNamed B.named
  have hlocks := B.notSynchronized
  have hS : va_S (fun _ => False) s.heap s.heap [] := va_S.rf
  have hFA0 : gz_ap (fun _ => False) (gz_fam 6 pa 5 (fun i => [.int (p_name i), .int (p_trust i)])) := gz_ap0
  have hl := lv_entry ([.ref h0, .int p1]) (n := 3) (Nat.le_of_ble_eq_true rfl)
  rw [lg_entry_eq]
  generalize (lg_sl ([.ref h0, .int p1]) ++ List.replicate (3 - (lg_sl ([.ref h0, .int p1])).length) Slot.unset).toArray = ls at hl ⊢
  have hl : lv_has ls 3 [(0, .ref h0), (1, .int p1)] := hl
  refine lv_iconst (v := 0) hx hb dX0_placeNamed_0 (by decide) ?_
  refine lv_istore_n (lv' := [(2, .int 0), (0, .ref h0), (1, .int p1)]) hx hb dX0_placeNamed_1 rfl hl (by decide) rfl (fun ls hl => ?_)
  refine (lp_sX0_placeNamed h0 pl amonths afull alean alines ahasMoon amoonStart amoonStep aplaceCount areportCount adeedCount re de kpl pa p_name p_trust p1 gamonths gafull galean gahasMoon gaplaceCount gareportCount gadeedCount hx hb hml hown hts hK hz hF0 hFA0 (Nat.le_of_ble_eq_true rfl) (Nat.le_of_ble_eq_true rfl) (Nat.zero_le _) (Nat.zero_le _) (fun v H locs ls gv hP hS hl => ?_) (fun v H locs ls gv hP hS hl => ?_) 26) 0 _ _ _ (gi_w (gi_c 0 0 (by decide)) (by decide)) (by have k0 : (0 : Int32).toInt = 0 := (by decide); omega) hP hS (lv_sub hl [1, 2, 0] rfl)
  · skip
    exact W.iret (v := v) hx hb hr (fun t ht hW => ⟨⟨v, (), rfl, (gi_w gv (by decide)), trivial⟩, hS.F ht⟩) hS.2.2 dX0_placeNamed_32
  · skip
    exact W.iret (v := v) hx hb hr (fun t ht hW => ⟨⟨v, (), rfl, (gi_w gv (by decide)), trivial⟩, hS.F ht⟩) hS.2.2 dX0_placeNamed_24
theorem dX0_namesAhead_0 : decode cX0_namesAhead 0 = .ok (.iconst 0, 1) := by decide +kernel
theorem dX0_namesAhead_1 : decode cX0_namesAhead 1 = .ok (.istore_n 2, 1) := by decide +kernel
theorem dX0_namesAhead_2 : decode cX0_namesAhead 2 = .ok (.iconst 0, 1) := by decide +kernel
theorem dX0_namesAhead_3 : decode cX0_namesAhead 3 = .ok (.istore_n 3, 1) := by decide +kernel
theorem dX0_namesAhead_4 : decode cX0_namesAhead 4 = .ok (.iload_n 3, 1) := by decide +kernel
theorem dX0_namesAhead_5 : decode cX0_namesAhead 5 = .ok (.aload_n 0, 1) := by decide +kernel
theorem dX0_namesAhead_6 : decode cX0_namesAhead 6 = .ok (.getfield 55, 3) := by decide +kernel
theorem dX0_namesAhead_9 : decode cX0_namesAhead 9 = .ok (.if_icmp .ge 33, 3) := by decide +kernel
theorem dX0_namesAhead_12 : decode cX0_namesAhead 12 = .ok (.aload_n 0, 1) := by decide +kernel
theorem dX0_namesAhead_13 : decode cX0_namesAhead 13 = .ok (.getfield 11, 3) := by decide +kernel
theorem dX0_namesAhead_16 : decode cX0_namesAhead 16 = .ok (.iload_n 3, 1) := by decide +kernel
theorem dX0_namesAhead_17 : decode cX0_namesAhead 17 = .ok (.aaload, 1) := by decide +kernel
theorem dX0_namesAhead_18 : decode cX0_namesAhead 18 = .ok (.getfield 67, 3) := by decide +kernel
theorem dX0_namesAhead_21 : decode cX0_namesAhead 21 = .ok (.aload_n 0, 1) := by decide +kernel
theorem dX0_namesAhead_22 : decode cX0_namesAhead 22 = .ok (.getfield 11, 3) := by decide +kernel
theorem dX0_namesAhead_25 : decode cX0_namesAhead 25 = .ok (.iload_n 1, 1) := by decide +kernel
theorem dX0_namesAhead_26 : decode cX0_namesAhead 26 = .ok (.aaload, 1) := by decide +kernel
theorem dX0_namesAhead_27 : decode cX0_namesAhead 27 = .ok (.getfield 67, 3) := by decide +kernel
theorem dX0_namesAhead_30 : decode cX0_namesAhead 30 = .ok (.if_icmp .ge 6, 3) := by decide +kernel
theorem dX0_namesAhead_33 : decode cX0_namesAhead 33 = .ok (.iinc 2 1, 3) := by decide +kernel
theorem dX0_namesAhead_36 : decode cX0_namesAhead 36 = .ok (.iinc 3 1, 3) := by decide +kernel
theorem dX0_namesAhead_39 : decode cX0_namesAhead 39 = .ok (.goto (-35), 3) := by decide +kernel
theorem dX0_namesAhead_42 : decode cX0_namesAhead 42 = .ok (.iload_n 2, 1) := by decide +kernel
theorem dX0_namesAhead_43 : decode cX0_namesAhead 43 = .ok (.ireturn, 1) := by decide +kernel
set_option maxHeartbeats 4000000 in
set_option maxRecDepth 100000 in
theorem lp_sX0_namesAhead {p : Program} {l : Launch} {e : Env} {R : Room} {s : State} {m : MethodId} {args : Array Value} {below : List Frame} {meth : Method} {c : Code} {Q : State → Prop} {A : Nat → Prop} {cells slots : Nat} {dC : Nat → ClassId} {dI : Nat → Nat → Nat} (h0 : Nat) (pl : Nat) (amonths : Int32) (afull : Int32) (alean : Int32) (alines : Int32) (ahasMoon : Int32) (amoonStart : Int32) (amoonStep : Int32) (aplaceCount : Int32) (areportCount : Int32) (adeedCount : Int32) (re : Nat) (de : Nat) (kpl : ClassId) (pa : Nat → Nat) (p_name : Nat → Int32) (p_trust : Nat → Int32) (p1 : Int32) (gamonths : gi amonths 0 24) (gafull : gi afull 0 5) (galean : gi alean 0 5) (gahasMoon : gi ahasMoon 0 1) (gaplaceCount : gi aplaceCount 0 6) (gareportCount : gi areportCount 0 24) (gadeedCount : gi adeedCount 0 8) (gp1 : gi p1 0 5) (hx : p.tables.exec = Jvm.exec) (hb : c.code = cX0_namesAhead) (hml : c.maxLocals = 4) (hown : s.vm.findClass RX0 = some m.cls) (hts : ∀ w ∈ ((.code yX0_namesAhead cX0_namesAhead 4 (some .int) :: wsGA) : List Cond), w.before args s = true) (hK : va_K (dC, dI) vwCl [(kpl, .object RX5)] s) (hz : nzA s) (hF0 : va_P (dC, dI) vwCl (gz_fam 6 pa 5 (fun i => [.int (p_name i), .int (p_trust i)])) s.heap) (hFA0 : gz_ap A (gz_fam 6 pa 5 (fun i => [.int (p_name i), .int (p_trust i)]))) (hRf : 0 ≤ R.frames) (hRl : 0 ≤ R.locals) (hRc : cells ≤ R.cells) (hRs : slots ≤ R.slots) (kr43 : ∀ (v : Int32) (H : Heap) (locs : List Loc) (ls : Array Slot), va_P (dC, dI) vwCl [(h0, .inr (0, [.int amonths, .int afull, .int alean, .int alines, .int ahasMoon, .int amoonStart, .int amoonStep, .int aplaceCount, .int areportCount, .int adeedCount, .ref pl, .ref re, .ref de])), (pl, .inl (kpl, 6, .inr (.inr (.inr (.inr (fun i => some (pa i)))))))] H → va_S A s.heap H locs → lv_has ls 4 [] → W p l e R s m args below meth c H locs cells slots Q (F0 m 43 ls [.int v])) : ∀ z : Nat, (∀ (v2 : Int32) (v3 : Int32) (H : Heap) (locs : List Loc) (ls : Array Slot), gi v3 0 6 → 13 + (-2) * v3.toInt < (z : Int) → va_P (dC, dI) vwCl [(h0, .inr (0, [.int amonths, .int afull, .int alean, .int alines, .int ahasMoon, .int amoonStart, .int amoonStep, .int aplaceCount, .int areportCount, .int adeedCount, .ref pl, .ref re, .ref de])), (pl, .inl (kpl, 6, .inr (.inr (.inr (.inr (fun i => some (pa i)))))))] H → va_S A s.heap H locs → lv_has ls 4 [(0, .ref h0), (1, .int p1), (2, .int v2), (3, .int v3)] → W p l e R s m args below meth c H locs cells slots Q (F0 m 4 ls [])) := by
  intro z
  induction z with
  | zero =>
    intro v2 v3 H locs ls gv3 hmu hP hS hl
    exact absurd hmu (by have hv31 := gv3.1; have hv32 := gv3.2; omega)
  | succ z ih =>
      intro v2 v3 H locs ls gv3 hmu hP hS hl
      refine lv_iload_n hx hb dX0_namesAhead_4 rfl (lv_at hl 3 rfl) ?_
      refine lv_aload_n hx hb dX0_namesAhead_5 rfl (lv_at hl 0 rfl) ?_
      refine va_get (D := (dC, dI)) (ci := 0) (v := .int aplaceCount) (C := RX0) (T := TX0) (N := 13) hx hb hts (fun w h => List.mem_cons_of_mem _ (jnGA_X0 w h)) hown hK hP 0 rfl rfl 7 (by decide) (hts _ (List.mem_cons_of_mem _ mGA_159)) (fun _ h9 => h9) rfl dX0_namesAhead_6 ?_
      refine lv_icmp_ge (tgt := 42) hx hb dX0_namesAhead_9 (by decide) (fun c_430 => ?_) (fun c_430 => ?_)
      · refine lv_iload_n hx hb dX0_namesAhead_42 rfl (lv_at hl 2 rfl) ?_
        exact kr43 v2 _ _ _ hP hS (lv_sub hl [] rfl)
      · have g_431 : gi v3 0 5 := gi_lt_l (Int32.not_le.mp c_430) gv3 gaplaceCount (by decide)
        have g_432 : gi aplaceCount 1 6 := gi_lt_r (Int32.not_le.mp c_430) gv3 gaplaceCount (by decide)
        refine lv_aload_n hx hb dX0_namesAhead_12 rfl (lv_at hl 0 rfl) ?_
        refine va_get (D := (dC, dI)) (ci := 0) (v := .ref pl) (C := RX0) (T := TX0) (N := 13) hx hb hts (fun w h => List.mem_cons_of_mem _ (jnGA_X0 w h)) hown hK hP 0 rfl rfl 10 (by decide) (hts _ (List.mem_cons_of_mem _ mGA_70)) (fun _ h9 => h9) rfl dX0_namesAhead_13 ?_
        refine lv_iload_n hx hb dX0_namesAhead_16 rfl (lv_at hl 3 rfl) ?_
        refine va_aldq hx hb hK hP 1 0 rfl rfl (gi_in g_431 (by decide)) dX0_namesAhead_17 ?_
        refine W.eq (g2 := F0 m 18 ls [.ref (pa v3.toNatClampNeg)]) rfl ?_
        refine va_get (D := (dC, dI)) (ci := 5) (v := .int (p_name v3.toNatClampNeg)) (C := RX5) (T := TX5) (N := 2) hx hb hts (fun w h => List.mem_cons_of_mem _ (jnGA_X5 w h)) hown hK (gz_ro hF0 hFA0 hS) (v3.toNatClampNeg) (gz_fam_at (gz_clt (gi_in (n := 6) g_431 (by decide)))) rfl 0 (by decide) (hts _ (List.mem_cons_of_mem _ mGA_302)) (fun _ h9 => h9) rfl dX0_namesAhead_18 ?_
        refine lv_topi (fun x_433 ex_433 => ?_)
        refine lv_aload_n hx hb dX0_namesAhead_21 rfl (lv_at hl 0 rfl) ?_
        refine va_get (D := (dC, dI)) (ci := 0) (v := .ref pl) (C := RX0) (T := TX0) (N := 13) hx hb hts (fun w h => List.mem_cons_of_mem _ (jnGA_X0 w h)) hown hK hP 0 rfl rfl 10 (by decide) (hts _ (List.mem_cons_of_mem _ mGA_70)) (fun _ h9 => h9) rfl dX0_namesAhead_22 ?_
        refine lv_iload_n hx hb dX0_namesAhead_25 rfl (lv_at hl 1 rfl) ?_
        refine va_aldq hx hb hK hP 1 0 rfl rfl (gi_in gp1 (by decide)) dX0_namesAhead_26 ?_
        refine W.eq (g2 := F0 m 27 ls [.ref (pa p1.toNatClampNeg), .int x_433]) rfl ?_
        refine va_get (D := (dC, dI)) (ci := 5) (v := .int (p_name p1.toNatClampNeg)) (C := RX5) (T := TX5) (N := 2) hx hb hts (fun w h => List.mem_cons_of_mem _ (jnGA_X5 w h)) hown hK (gz_ro hF0 hFA0 hS) (p1.toNatClampNeg) (gz_fam_at (gz_clt (gi_in (n := 6) gp1 (by decide)))) rfl 0 (by decide) (hts _ (List.mem_cons_of_mem _ mGA_302)) (fun _ h9 => h9) rfl dX0_namesAhead_27 ?_
        refine lv_topi (fun x_434 ex_434 => ?_)
        refine lv_icmp_ge (tgt := 36) hx hb dX0_namesAhead_30 (by decide) (fun c_435 => ?_) (fun c_435 => ?_)
        · obtain ⟨x_436, ex_436⟩ : ∃ y : Int32, y = v3 + 1 := ⟨_, rfl⟩
          have gx_436 : gi x_436 1 6 := gi_add ex_436 g_431 (gi_c 1 1 (by decide)) (by decide)
          refine lv_iinc (v := x_436) (lv' := [(3, .int x_436), (0, .ref h0), (1, .int p1), (2, .int v2)]) hx hb dX0_namesAhead_36 hl (k := 3) rfl (by rw [ex_436]; rfl) (by decide) rfl (fun ls hl => ?_)
          refine lv_goto (tgt := 4) hx hb dX0_namesAhead_39 (by decide) ?_
          exact ih v2 x_436 _ _ _ (gi_w gx_436 (by decide)) (by have av3 := gv3.1; have bv3 := gv3.2; have qgx_436 := gx_436.1; have rgx_436 := gx_436.2; have igx_436 : x_436.toInt = v3.toInt + 1 := (by have hc1 : (1 : Int32).toInt = 1 := (by decide); have h9 := gi_addI ex_436 (by have h1 := g_431.1; have h2 := (gi_c 1 1 (by decide)).1; have h3 := g_431.2; have h4 := (gi_c 1 1 (by decide)).2; omega) (by have h1 := g_431.1; have h2 := (gi_c 1 1 (by decide)).1; have h3 := g_431.2; have h4 := (gi_c 1 1 (by decide)).2; omega); rw [hc1] at h9; exact h9); have qgv3 := g_431.1; have rgv3 := g_431.2; omega) hP hS (lv_sub hl [1, 2, 3, 0] rfl)
        · have g_437 : gi x_433 (-2147483648) 2147483646 := gi_lt_l (Int32.not_le.mp c_435) (gi_any x_433) (gi_any x_434) (by decide)
          have g_438 : gi x_434 (-2147483647) 2147483647 := gi_lt_r (Int32.not_le.mp c_435) (gi_any x_433) (gi_any x_434) (by decide)
          obtain ⟨x_439, ex_439⟩ : ∃ y : Int32, y = v2 + 1 := ⟨_, rfl⟩
          refine lv_iinc (v := x_439) (lv' := [(2, .int x_439), (0, .ref h0), (1, .int p1), (3, .int v3)]) hx hb dX0_namesAhead_33 hl (k := 2) rfl (by rw [ex_439]; rfl) (by decide) rfl (fun ls hl => ?_)
          obtain ⟨x_440, ex_440⟩ : ∃ y : Int32, y = v3 + 1 := ⟨_, rfl⟩
          have gx_440 : gi x_440 1 6 := gi_add ex_440 g_431 (gi_c 1 1 (by decide)) (by decide)
          refine lv_iinc (v := x_440) (lv' := [(3, .int x_440), (2, .int x_439), (0, .ref h0), (1, .int p1)]) hx hb dX0_namesAhead_36 hl (k := 3) rfl (by rw [ex_440]; rfl) (by decide) rfl (fun ls hl => ?_)
          refine lv_goto (tgt := 4) hx hb dX0_namesAhead_39 (by decide) ?_
          exact ih x_439 x_440 _ _ _ (gi_w gx_440 (by decide)) (by have av3 := gv3.1; have bv3 := gv3.2; have qgx_440 := gx_440.1; have rgx_440 := gx_440.2; have igx_440 : x_440.toInt = v3.toInt + 1 := (by have hc1 : (1 : Int32).toInt = 1 := (by decide); have h9 := gi_addI ex_440 (by have h1 := g_431.1; have h2 := (gi_c 1 1 (by decide)).1; have h3 := g_431.2; have h4 := (gi_c 1 1 (by decide)).2; omega) (by have h1 := g_431.1; have h2 := (gi_c 1 1 (by decide)).1; have h3 := g_431.2; have h4 := (gi_c 1 1 (by decide)).2; omega); rw [hc1] at h9; exact h9); have qgv3 := g_431.1; have rgv3 := g_431.2; omega) hP hS (lv_sub hl [2, 3, 1, 0] rfl)
set_option maxHeartbeats 4000000 in
set_option maxRecDepth 100000 in
theorem sX0_namesAhead (l : Launch) (dC : Nat → ClassId) (dI : Nat → Nat → Nat) (h0 : Nat) (pl : Nat) (amonths : Int32) (afull : Int32) (alean : Int32) (alines : Int32) (ahasMoon : Int32) (amoonStart : Int32) (amoonStep : Int32) (aplaceCount : Int32) (areportCount : Int32) (adeedCount : Int32) (re : Nat) (de : Nat) (kpl : ClassId) (pa : Nat → Nat) (p_name : Nat → Int32) (p_trust : Nat → Int32) (p1 : Int32) (gamonths : gi amonths 0 24) (gafull : gi afull 0 5) (galean : gi alean 0 5) (gahasMoon : gi ahasMoon 0 1) (gaplaceCount : gi aplaceCount 0 6) (gareportCount : gi areportCount 0 24) (gadeedCount : gi adeedCount 0 8) (gp1 : gi p1 0 5) : Met l yX0_namesAhead (.code yX0_namesAhead cX0_namesAhead 4 (some .int) :: wsGA) ({ frames := 0, cells := 0, slots := 0, locals := 0 }) (va_Pc [.ref h0, .int p1] (fun U => va_P (dC, dI) vwCl [(h0, .inr (0, [.int amonths, .int afull, .int alean, .int alines, .int ahasMoon, .int amoonStart, .int amoonStep, .int aplaceCount, .int areportCount, .int adeedCount, .ref pl, .ref re, .ref de])), (pl, .inl (kpl, 6, .inr (.inr (.inr (.inr (fun i => some (pa i)))))))] U.heap ∧ va_K (dC, dI) vwCl [(kpl, .object RX5)] U ∧ nzA U ∧ va_P (dC, dI) vwCl (gz_fam 6 pa 5 (fun i => [.int (p_name i), .int (p_trust i)])) U.heap)) (va_Qi (fun (r : Int32) (u : Unit) => gi r (-2147483648) 2147483647) (fun _ _ => True) (fun _ => False)) 0 0 (fun _ => False) := by
  refine Met.ofW (cc := cX0_namesAhead) (maxL := 4) (ret := (some .int)) (by decide) rfl ?_
  intro p e s m args below meth c s₁ B hml hv
  obtain ⟨rfl, hP, hK, hz, hF0⟩ := hv
  have hx := B.exec
  have hb := B.bytes
  have hr := B.returns
  have hts := atoms_spec (ws := (.code yX0_namesAhead cX0_namesAhead 4 (some .int) :: wsGA)) B.pre
  have hown : s.vm.findClass RX0 = some m.cls := findClass_of_methodNamed B.named
  have hlocks := B.notSynchronized
  have hS : va_S (fun _ => False) s.heap s.heap [] := va_S.rf
  have hFA0 : gz_ap (fun _ => False) (gz_fam 6 pa 5 (fun i => [.int (p_name i), .int (p_trust i)])) := gz_ap0
  have hl := lv_entry ([.ref h0, .int p1]) (n := 4) (Nat.le_of_ble_eq_true rfl)
  rw [lg_entry_eq]
  generalize (lg_sl ([.ref h0, .int p1]) ++ List.replicate (4 - (lg_sl ([.ref h0, .int p1])).length) Slot.unset).toArray = ls at hl ⊢
  have hl : lv_has ls 4 [(0, .ref h0), (1, .int p1)] := hl
  refine lv_iconst (v := 0) hx hb dX0_namesAhead_0 (by decide) ?_
  refine lv_istore_n (lv' := [(2, .int 0), (0, .ref h0), (1, .int p1)]) hx hb dX0_namesAhead_1 rfl hl (by decide) rfl (fun ls hl => ?_)
  refine lv_iconst (v := 0) hx hb dX0_namesAhead_2 (by decide) ?_
  refine lv_istore_n (lv' := [(3, .int 0), (2, .int 0), (0, .ref h0), (1, .int p1)]) hx hb dX0_namesAhead_3 rfl hl (by decide) rfl (fun ls hl => ?_)
  refine (lp_sX0_namesAhead h0 pl amonths afull alean alines ahasMoon amoonStart amoonStep aplaceCount areportCount adeedCount re de kpl pa p_name p_trust p1 gamonths gafull galean gahasMoon gaplaceCount gareportCount gadeedCount gp1 hx hb hml hown hts hK hz hF0 hFA0 (Nat.le_of_ble_eq_true rfl) (Nat.le_of_ble_eq_true rfl) (Nat.zero_le _) (Nat.zero_le _) (fun v H locs ls hP hS hl => ?_) 26) 0 0 _ _ _ (gi_w (gi_c 0 0 (by decide)) (by decide)) (by have k0 : (0 : Int32).toInt = 0 := (by decide); omega) hP hS (lv_sub hl [2, 3, 1, 0] rfl)
  · skip
    exact W.iret (v := v) hx hb hr (fun t ht hW => ⟨⟨v, (), rfl, (gi_any v), trivial⟩, hS.F ht⟩) hS.2.2 dX0_namesAhead_43
theorem dX0_standingOf_0 : decode cX0_standingOf 0 = .ok (.iconst 0, 1) := by decide +kernel
theorem dX0_standingOf_1 : decode cX0_standingOf 1 = .ok (.istore_n 2, 1) := by decide +kernel
theorem dX0_standingOf_2 : decode cX0_standingOf 2 = .ok (.iconst 0, 1) := by decide +kernel
theorem dX0_standingOf_3 : decode cX0_standingOf 3 = .ok (.istore_n 3, 1) := by decide +kernel
theorem dX0_standingOf_4 : decode cX0_standingOf 4 = .ok (.iload_n 3, 1) := by decide +kernel
theorem dX0_standingOf_5 : decode cX0_standingOf 5 = .ok (.aload_n 0, 1) := by decide +kernel
theorem dX0_standingOf_6 : decode cX0_standingOf 6 = .ok (.getfield 58, 3) := by decide +kernel
theorem dX0_standingOf_9 : decode cX0_standingOf 9 = .ok (.if_icmp .ge 37, 3) := by decide +kernel
theorem dX0_standingOf_12 : decode cX0_standingOf 12 = .ok (.aload_n 0, 1) := by decide +kernel
theorem dX0_standingOf_13 : decode cX0_standingOf 13 = .ok (.getfield 19, 3) := by decide +kernel
theorem dX0_standingOf_16 : decode cX0_standingOf 16 = .ok (.iload_n 3, 1) := by decide +kernel
theorem dX0_standingOf_17 : decode cX0_standingOf 17 = .ok (.aaload, 1) := by decide +kernel
theorem dX0_standingOf_18 : decode cX0_standingOf 18 = .ok (.getfield 77, 3) := by decide +kernel
theorem dX0_standingOf_21 : decode cX0_standingOf 21 = .ok (.iload_n 1, 1) := by decide +kernel
theorem dX0_standingOf_22 : decode cX0_standingOf 22 = .ok (.if_icmp .ne 18, 3) := by decide +kernel
theorem dX0_standingOf_25 : decode cX0_standingOf 25 = .ok (.aload_n 0, 1) := by decide +kernel
theorem dX0_standingOf_26 : decode cX0_standingOf 26 = .ok (.getfield 19, 3) := by decide +kernel
theorem dX0_standingOf_29 : decode cX0_standingOf 29 = .ok (.iload_n 3, 1) := by decide +kernel
theorem dX0_standingOf_30 : decode cX0_standingOf 30 = .ok (.aaload, 1) := by decide +kernel
theorem dX0_standingOf_31 : decode cX0_standingOf 31 = .ok (.getfield 96, 3) := by decide +kernel
theorem dX0_standingOf_34 : decode cX0_standingOf 34 = .ok (.ifCond .ne 6, 3) := by decide +kernel
theorem dX0_standingOf_37 : decode cX0_standingOf 37 = .ok (.iinc 2 1, 3) := by decide +kernel
theorem dX0_standingOf_40 : decode cX0_standingOf 40 = .ok (.iinc 3 1, 3) := by decide +kernel
theorem dX0_standingOf_43 : decode cX0_standingOf 43 = .ok (.goto (-39), 3) := by decide +kernel
theorem dX0_standingOf_46 : decode cX0_standingOf 46 = .ok (.iload_n 2, 1) := by decide +kernel
theorem dX0_standingOf_47 : decode cX0_standingOf 47 = .ok (.ireturn, 1) := by decide +kernel
set_option maxHeartbeats 4000000 in
set_option maxRecDepth 100000 in
theorem lp_sX0_standingOf {p : Program} {l : Launch} {e : Env} {R : Room} {s : State} {m : MethodId} {args : Array Value} {below : List Frame} {meth : Method} {c : Code} {Q : State → Prop} {A : Nat → Prop} {cells slots : Nat} {dC : Nat → ClassId} {dI : Nat → Nat → Nat} (h0 : Nat) (re : Nat) (amonths : Int32) (afull : Int32) (alean : Int32) (alines : Int32) (ahasMoon : Int32) (amoonStart : Int32) (amoonStep : Int32) (aplaceCount : Int32) (areportCount : Int32) (adeedCount : Int32) (pl : Nat) (de : Nat) (kre : ClassId) (ra : Nat → Nat) (r_place : Nat → Int32) (r_kind : Nat → Int32) (r_month : Nat → Int32) (r_day : Nat → Int32) (r_known : Nat → Int32) (r_struck : Nat → Int32) (p1 : Int32) (gamonths : gi amonths 0 24) (gafull : gi afull 0 5) (galean : gi alean 0 5) (gahasMoon : gi ahasMoon 0 1) (gaplaceCount : gi aplaceCount 0 6) (gareportCount : gi areportCount 0 24) (gadeedCount : gi adeedCount 0 8) (gr_place : ga r_place 24 0 5) (gr_month : ga r_month 24 0 23) (gr_struck : ga r_struck 24 0 1) (hx : p.tables.exec = Jvm.exec) (hb : c.code = cX0_standingOf) (hml : c.maxLocals = 4) (hown : s.vm.findClass RX0 = some m.cls) (hts : ∀ w ∈ ((.code yX0_standingOf cX0_standingOf 4 (some .int) :: wsGA) : List Cond), w.before args s = true) (hK : va_K (dC, dI) vwCl [(kre, .object RX7)] s) (hz : nzA s) (hF0 : va_P (dC, dI) vwCl (gz_fam 24 ra 7 (fun i => [.int (r_place i), .int (r_kind i), .int (r_month i), .int (r_day i), .int (r_known i), .int (r_struck i)])) s.heap) (hFA0 : gz_ap A (gz_fam 24 ra 7 (fun i => [.int (r_place i), .int (r_kind i), .int (r_month i), .int (r_day i), .int (r_known i), .int (r_struck i)]))) (hRf : 0 ≤ R.frames) (hRl : 0 ≤ R.locals) (hRc : cells ≤ R.cells) (hRs : slots ≤ R.slots) (kr47 : ∀ (v : Int32) (H : Heap) (locs : List Loc) (ls : Array Slot), va_P (dC, dI) vwCl [(h0, .inr (0, [.int amonths, .int afull, .int alean, .int alines, .int ahasMoon, .int amoonStart, .int amoonStep, .int aplaceCount, .int areportCount, .int adeedCount, .ref pl, .ref re, .ref de])), (re, .inl (kre, 24, .inr (.inr (.inr (.inr (fun i => some (ra i)))))))] H → va_S A s.heap H locs → lv_has ls 4 [] → W p l e R s m args below meth c H locs cells slots Q (F0 m 47 ls [.int v])) : ∀ z : Nat, (∀ (v2 : Int32) (v3 : Int32) (H : Heap) (locs : List Loc) (ls : Array Slot), gi v3 0 24 → 49 + (-2) * v3.toInt < (z : Int) → va_P (dC, dI) vwCl [(h0, .inr (0, [.int amonths, .int afull, .int alean, .int alines, .int ahasMoon, .int amoonStart, .int amoonStep, .int aplaceCount, .int areportCount, .int adeedCount, .ref pl, .ref re, .ref de])), (re, .inl (kre, 24, .inr (.inr (.inr (.inr (fun i => some (ra i)))))))] H → va_S A s.heap H locs → lv_has ls 4 [(0, .ref h0), (1, .int p1), (2, .int v2), (3, .int v3)] → W p l e R s m args below meth c H locs cells slots Q (F0 m 4 ls [])) := by
  intro z
  induction z with
  | zero =>
    intro v2 v3 H locs ls gv3 hmu hP hS hl
    exact absurd hmu (by have hv31 := gv3.1; have hv32 := gv3.2; omega)
  | succ z ih =>
      intro v2 v3 H locs ls gv3 hmu hP hS hl
      refine lv_iload_n hx hb dX0_standingOf_4 rfl (lv_at hl 3 rfl) ?_
      refine lv_aload_n hx hb dX0_standingOf_5 rfl (lv_at hl 0 rfl) ?_
      refine va_get (D := (dC, dI)) (ci := 0) (v := .int areportCount) (C := RX0) (T := TX0) (N := 13) hx hb hts (fun w h => List.mem_cons_of_mem _ (jnGA_X0 w h)) hown hK hP 0 rfl rfl 8 (by decide) (hts _ (List.mem_cons_of_mem _ mGA_160)) (fun _ h9 => h9) rfl dX0_standingOf_6 ?_
      refine lv_icmp_ge (tgt := 46) hx hb dX0_standingOf_9 (by decide) (fun c_547 => ?_) (fun c_547 => ?_)
      · refine lv_iload_n hx hb dX0_standingOf_46 rfl (lv_at hl 2 rfl) ?_
        exact kr47 v2 _ _ _ hP hS (lv_sub hl [] rfl)
      · have g_548 : gi v3 0 23 := gi_lt_l (Int32.not_le.mp c_547) gv3 gareportCount (by decide)
        have g_549 : gi areportCount 1 24 := gi_lt_r (Int32.not_le.mp c_547) gv3 gareportCount (by decide)
        refine lv_aload_n hx hb dX0_standingOf_12 rfl (lv_at hl 0 rfl) ?_
        refine va_get (D := (dC, dI)) (ci := 0) (v := .ref re) (C := RX0) (T := TX0) (N := 13) hx hb hts (fun w h => List.mem_cons_of_mem _ (jnGA_X0 w h)) hown hK hP 0 rfl rfl 11 (by decide) (hts _ (List.mem_cons_of_mem _ mGA_72)) (fun _ h9 => h9) rfl dX0_standingOf_13 ?_
        refine lv_iload_n hx hb dX0_standingOf_16 rfl (lv_at hl 3 rfl) ?_
        refine va_aldq hx hb hK hP 1 0 rfl rfl (gi_in g_548 (by decide)) dX0_standingOf_17 ?_
        refine W.eq (g2 := F0 m 18 ls [.ref (ra v3.toNatClampNeg)]) rfl ?_
        refine va_get (D := (dC, dI)) (ci := 7) (v := .int (r_place v3.toNatClampNeg)) (C := RX7) (T := TX7) (N := 6) hx hb hts (fun w h => List.mem_cons_of_mem _ (jnGA_X7 w h)) hown hK (gz_ro hF0 hFA0 hS) (v3.toNatClampNeg) (gz_fam_at (gz_clt (gi_in (n := 24) g_548 (by decide)))) rfl 0 (by decide) (hts _ (List.mem_cons_of_mem _ mGA_317)) (fun _ h9 => h9) rfl dX0_standingOf_18 ?_
        refine lv_topi (fun x_550 ex_550 => ?_)
        have gx_550 : gi x_550 0 5 := ga_at gr_place (gi_in (n := 24) g_548 (by decide)) ex_550
        refine lv_iload_n hx hb dX0_standingOf_21 rfl (lv_at hl 1 rfl) ?_
        refine lv_icmp_ne (tgt := 40) hx hb dX0_standingOf_22 (by decide) (fun c_551 => ?_) (fun c_551 => ?_)
        · obtain ⟨x_552, ex_552⟩ : ∃ y : Int32, y = v3 + 1 := ⟨_, rfl⟩
          have gx_552 : gi x_552 1 24 := gi_add ex_552 g_548 (gi_c 1 1 (by decide)) (by decide)
          refine lv_iinc (v := x_552) (lv' := [(3, .int x_552), (0, .ref h0), (1, .int p1), (2, .int v2)]) hx hb dX0_standingOf_40 hl (k := 3) rfl (by rw [ex_552]; rfl) (by decide) rfl (fun ls hl => ?_)
          refine lv_goto (tgt := 4) hx hb dX0_standingOf_43 (by decide) ?_
          exact ih v2 x_552 _ _ _ (gi_w gx_552 (by decide)) (by have av3 := gv3.1; have bv3 := gv3.2; have qgx_552 := gx_552.1; have rgx_552 := gx_552.2; have igx_552 : x_552.toInt = v3.toInt + 1 := (by have hc1 : (1 : Int32).toInt = 1 := (by decide); have h9 := gi_addI ex_552 (by have h1 := g_548.1; have h2 := (gi_c 1 1 (by decide)).1; have h3 := g_548.2; have h4 := (gi_c 1 1 (by decide)).2; omega) (by have h1 := g_548.1; have h2 := (gi_c 1 1 (by decide)).1; have h3 := g_548.2; have h4 := (gi_c 1 1 (by decide)).2; omega); rw [hc1] at h9; exact h9); have qgv3 := g_548.1; have rgv3 := g_548.2; omega) hP hS (lv_sub hl [1, 2, 3, 0] rfl)
        · have g_553 : gi p1 0 5 := gi_eq c_551.symm gx_550
          refine lv_aload_n hx hb dX0_standingOf_25 rfl (lv_at hl 0 rfl) ?_
          refine va_get (D := (dC, dI)) (ci := 0) (v := .ref re) (C := RX0) (T := TX0) (N := 13) hx hb hts (fun w h => List.mem_cons_of_mem _ (jnGA_X0 w h)) hown hK hP 0 rfl rfl 11 (by decide) (hts _ (List.mem_cons_of_mem _ mGA_72)) (fun _ h9 => h9) rfl dX0_standingOf_26 ?_
          refine lv_iload_n hx hb dX0_standingOf_29 rfl (lv_at hl 3 rfl) ?_
          refine va_aldq hx hb hK hP 1 0 rfl rfl (gi_in g_548 (by decide)) dX0_standingOf_30 ?_
          refine W.eq (g2 := F0 m 31 ls [.ref (ra v3.toNatClampNeg)]) rfl ?_
          refine va_get (D := (dC, dI)) (ci := 7) (v := .int (r_struck v3.toNatClampNeg)) (C := RX7) (T := TX7) (N := 6) hx hb hts (fun w h => List.mem_cons_of_mem _ (jnGA_X7 w h)) hown hK (gz_ro hF0 hFA0 hS) (v3.toNatClampNeg) (gz_fam_at (gz_clt (gi_in (n := 24) g_548 (by decide)))) rfl 5 (by decide) (hts _ (List.mem_cons_of_mem _ mGA_322)) (fun _ h9 => h9) rfl dX0_standingOf_31 ?_
          refine lv_topi (fun x_554 ex_554 => ?_)
          have gx_554 : gi x_554 0 1 := ga_at gr_struck (gi_in (n := 24) g_548 (by decide)) ex_554
          refine lv_if_ne (tgt := 40) hx hb dX0_standingOf_34 (by decide) (fun c_555 => ?_) (fun c_555 => ?_)
          · have g_556 : gi x_554 1 1 := gi_ne_lo c_555 gx_554 (gi_c 0 0 (by decide)) (by decide)
            obtain ⟨x_557, ex_557⟩ : ∃ y : Int32, y = v3 + 1 := ⟨_, rfl⟩
            have gx_557 : gi x_557 1 24 := gi_add ex_557 g_548 (gi_c 1 1 (by decide)) (by decide)
            refine lv_iinc (v := x_557) (lv' := [(3, .int x_557), (0, .ref h0), (1, .int p1), (2, .int v2)]) hx hb dX0_standingOf_40 hl (k := 3) rfl (by rw [ex_557]; rfl) (by decide) rfl (fun ls hl => ?_)
            refine lv_goto (tgt := 4) hx hb dX0_standingOf_43 (by decide) ?_
            exact ih v2 x_557 _ _ _ (gi_w gx_557 (by decide)) (by have av3 := gv3.1; have bv3 := gv3.2; have qgx_557 := gx_557.1; have rgx_557 := gx_557.2; have igx_557 : x_557.toInt = v3.toInt + 1 := (by have hc1 : (1 : Int32).toInt = 1 := (by decide); have h9 := gi_addI ex_557 (by have h1 := g_548.1; have h2 := (gi_c 1 1 (by decide)).1; have h3 := g_548.2; have h4 := (gi_c 1 1 (by decide)).2; omega) (by have h1 := g_548.1; have h2 := (gi_c 1 1 (by decide)).1; have h3 := g_548.2; have h4 := (gi_c 1 1 (by decide)).2; omega); rw [hc1] at h9; exact h9); have qgv3 := g_548.1; have rgv3 := g_548.2; omega) hP hS (lv_sub hl [1, 2, 3, 0] rfl)
          · have g_558 : gi x_554 0 0 := gi_eq c_555 (gi_c 0 0 (by decide))
            obtain ⟨x_559, ex_559⟩ : ∃ y : Int32, y = v2 + 1 := ⟨_, rfl⟩
            refine lv_iinc (v := x_559) (lv' := [(2, .int x_559), (0, .ref h0), (1, .int p1), (3, .int v3)]) hx hb dX0_standingOf_37 hl (k := 2) rfl (by rw [ex_559]; rfl) (by decide) rfl (fun ls hl => ?_)
            obtain ⟨x_560, ex_560⟩ : ∃ y : Int32, y = v3 + 1 := ⟨_, rfl⟩
            have gx_560 : gi x_560 1 24 := gi_add ex_560 g_548 (gi_c 1 1 (by decide)) (by decide)
            refine lv_iinc (v := x_560) (lv' := [(3, .int x_560), (2, .int x_559), (0, .ref h0), (1, .int p1)]) hx hb dX0_standingOf_40 hl (k := 3) rfl (by rw [ex_560]; rfl) (by decide) rfl (fun ls hl => ?_)
            refine lv_goto (tgt := 4) hx hb dX0_standingOf_43 (by decide) ?_
            exact ih x_559 x_560 _ _ _ (gi_w gx_560 (by decide)) (by have av3 := gv3.1; have bv3 := gv3.2; have qgx_560 := gx_560.1; have rgx_560 := gx_560.2; have igx_560 : x_560.toInt = v3.toInt + 1 := (by have hc1 : (1 : Int32).toInt = 1 := (by decide); have h9 := gi_addI ex_560 (by have h1 := g_548.1; have h2 := (gi_c 1 1 (by decide)).1; have h3 := g_548.2; have h4 := (gi_c 1 1 (by decide)).2; omega) (by have h1 := g_548.1; have h2 := (gi_c 1 1 (by decide)).1; have h3 := g_548.2; have h4 := (gi_c 1 1 (by decide)).2; omega); rw [hc1] at h9; exact h9); have qgv3 := g_548.1; have rgv3 := g_548.2; omega) hP hS (lv_sub hl [2, 3, 1, 0] rfl)
set_option maxHeartbeats 4000000 in
set_option maxRecDepth 100000 in
theorem sX0_standingOf (l : Launch) (dC : Nat → ClassId) (dI : Nat → Nat → Nat) (h0 : Nat) (re : Nat) (amonths : Int32) (afull : Int32) (alean : Int32) (alines : Int32) (ahasMoon : Int32) (amoonStart : Int32) (amoonStep : Int32) (aplaceCount : Int32) (areportCount : Int32) (adeedCount : Int32) (pl : Nat) (de : Nat) (kre : ClassId) (ra : Nat → Nat) (r_place : Nat → Int32) (r_kind : Nat → Int32) (r_month : Nat → Int32) (r_day : Nat → Int32) (r_known : Nat → Int32) (r_struck : Nat → Int32) (p1 : Int32) (gamonths : gi amonths 0 24) (gafull : gi afull 0 5) (galean : gi alean 0 5) (gahasMoon : gi ahasMoon 0 1) (gaplaceCount : gi aplaceCount 0 6) (gareportCount : gi areportCount 0 24) (gadeedCount : gi adeedCount 0 8) (gr_place : ga r_place 24 0 5) (gr_month : ga r_month 24 0 23) (gr_struck : ga r_struck 24 0 1) : Met l yX0_standingOf (.code yX0_standingOf cX0_standingOf 4 (some .int) :: wsGA) ({ frames := 0, cells := 0, slots := 0, locals := 0 }) (va_Pc [.ref h0, .int p1] (fun U => va_P (dC, dI) vwCl [(h0, .inr (0, [.int amonths, .int afull, .int alean, .int alines, .int ahasMoon, .int amoonStart, .int amoonStep, .int aplaceCount, .int areportCount, .int adeedCount, .ref pl, .ref re, .ref de])), (re, .inl (kre, 24, .inr (.inr (.inr (.inr (fun i => some (ra i)))))))] U.heap ∧ va_K (dC, dI) vwCl [(kre, .object RX7)] U ∧ nzA U ∧ va_P (dC, dI) vwCl (gz_fam 24 ra 7 (fun i => [.int (r_place i), .int (r_kind i), .int (r_month i), .int (r_day i), .int (r_known i), .int (r_struck i)])) U.heap)) (va_Qi (fun (r : Int32) (u : Unit) => gi r (-2147483648) 2147483647) (fun _ _ => True) (fun _ => False)) 0 0 (fun _ => False) := by
  refine Met.ofW (cc := cX0_standingOf) (maxL := 4) (ret := (some .int)) (by decide) rfl ?_
  intro p e s m args below meth c s₁ B hml hv
  obtain ⟨rfl, hP, hK, hz, hF0⟩ := hv
  have hx := B.exec
  have hb := B.bytes
  have hr := B.returns
  have hts := atoms_spec (ws := (.code yX0_standingOf cX0_standingOf 4 (some .int) :: wsGA)) B.pre
  have hown : s.vm.findClass RX0 = some m.cls := findClass_of_methodNamed B.named
  have hlocks := B.notSynchronized
  have hS : va_S (fun _ => False) s.heap s.heap [] := va_S.rf
  have hFA0 : gz_ap (fun _ => False) (gz_fam 24 ra 7 (fun i => [.int (r_place i), .int (r_kind i), .int (r_month i), .int (r_day i), .int (r_known i), .int (r_struck i)])) := gz_ap0
  have hl := lv_entry ([.ref h0, .int p1]) (n := 4) (Nat.le_of_ble_eq_true rfl)
  rw [lg_entry_eq]
  generalize (lg_sl ([.ref h0, .int p1]) ++ List.replicate (4 - (lg_sl ([.ref h0, .int p1])).length) Slot.unset).toArray = ls at hl ⊢
  have hl : lv_has ls 4 [(0, .ref h0), (1, .int p1)] := hl
  refine lv_iconst (v := 0) hx hb dX0_standingOf_0 (by decide) ?_
  refine lv_istore_n (lv' := [(2, .int 0), (0, .ref h0), (1, .int p1)]) hx hb dX0_standingOf_1 rfl hl (by decide) rfl (fun ls hl => ?_)
  refine lv_iconst (v := 0) hx hb dX0_standingOf_2 (by decide) ?_
  refine lv_istore_n (lv' := [(3, .int 0), (2, .int 0), (0, .ref h0), (1, .int p1)]) hx hb dX0_standingOf_3 rfl hl (by decide) rfl (fun ls hl => ?_)
  refine (lp_sX0_standingOf h0 re amonths afull alean alines ahasMoon amoonStart amoonStep aplaceCount areportCount adeedCount pl de kre ra r_place r_kind r_month r_day r_known r_struck p1 gamonths gafull galean gahasMoon gaplaceCount gareportCount gadeedCount gr_place gr_month gr_struck hx hb hml hown hts hK hz hF0 hFA0 (Nat.le_of_ble_eq_true rfl) (Nat.le_of_ble_eq_true rfl) (Nat.zero_le _) (Nat.zero_le _) (fun v H locs ls hP hS hl => ?_) 62) 0 0 _ _ _ (gi_w (gi_c 0 0 (by decide)) (by decide)) (by have k0 : (0 : Int32).toInt = 0 := (by decide); omega) hP hS (lv_sub hl [2, 3, 1, 0] rfl)
  · skip
    exact W.iret (v := v) hx hb hr (fun t ht hW => ⟨⟨v, (), rfl, (gi_any v), trivial⟩, hS.F ht⟩) hS.2.2 dX0_standingOf_47
theorem dX0_standing_0 : decode cX0_standing 0 = .ok (.iconst 0, 1) := by decide +kernel
theorem dX0_standing_1 : decode cX0_standing 1 = .ok (.istore_n 1, 1) := by decide +kernel
theorem dX0_standing_2 : decode cX0_standing 2 = .ok (.iconst 0, 1) := by decide +kernel
theorem dX0_standing_3 : decode cX0_standing 3 = .ok (.istore_n 2, 1) := by decide +kernel
theorem dX0_standing_4 : decode cX0_standing 4 = .ok (.iload_n 2, 1) := by decide +kernel
theorem dX0_standing_5 : decode cX0_standing 5 = .ok (.aload_n 0, 1) := by decide +kernel
theorem dX0_standing_6 : decode cX0_standing 6 = .ok (.getfield 55, 3) := by decide +kernel
theorem dX0_standing_9 : decode cX0_standing 9 = .ok (.if_icmp .ge 17, 3) := by decide +kernel
theorem dX0_standing_12 : decode cX0_standing 12 = .ok (.iload_n 1, 1) := by decide +kernel
theorem dX0_standing_13 : decode cX0_standing 13 = .ok (.aload_n 0, 1) := by decide +kernel
theorem dX0_standing_14 : decode cX0_standing 14 = .ok (.iload_n 2, 1) := by decide +kernel
theorem dX0_standing_15 : decode cX0_standing 15 = .ok (.invokevirtual 107, 3) := by decide +kernel
theorem dX0_standing_18 : decode cX0_standing 18 = .ok (.iadd, 1) := by decide +kernel
theorem dX0_standing_19 : decode cX0_standing 19 = .ok (.istore_n 1, 1) := by decide +kernel
theorem dX0_standing_20 : decode cX0_standing 20 = .ok (.iinc 2 1, 3) := by decide +kernel
theorem dX0_standing_23 : decode cX0_standing 23 = .ok (.goto (-19), 3) := by decide +kernel
theorem dX0_standing_26 : decode cX0_standing 26 = .ok (.iload_n 1, 1) := by decide +kernel
theorem dX0_standing_27 : decode cX0_standing 27 = .ok (.ireturn, 1) := by decide +kernel
set_option maxHeartbeats 4000000 in
set_option maxRecDepth 100000 in
theorem lp_sX0_standing {p : Program} {l : Launch} {e : Env} {R : Room} {s : State} {m : MethodId} {args : Array Value} {below : List Frame} {meth : Method} {c : Code} {Q : State → Prop} {A : Nat → Prop} {cells slots : Nat} {dC : Nat → ClassId} {dI : Nat → Nat → Nat} (h0 : Nat) (re : Nat) (amonths : Int32) (afull : Int32) (alean : Int32) (alines : Int32) (ahasMoon : Int32) (amoonStart : Int32) (amoonStep : Int32) (aplaceCount : Int32) (areportCount : Int32) (adeedCount : Int32) (pl : Nat) (de : Nat) (kre : ClassId) (ra : Nat → Nat) (r_place : Nat → Int32) (r_kind : Nat → Int32) (r_month : Nat → Int32) (r_day : Nat → Int32) (r_known : Nat → Int32) (r_struck : Nat → Int32) (gamonths : gi amonths 0 24) (gafull : gi afull 0 5) (galean : gi alean 0 5) (gahasMoon : gi ahasMoon 0 1) (gaplaceCount : gi aplaceCount 0 6) (gareportCount : gi areportCount 0 24) (gadeedCount : gi adeedCount 0 8) (gr_place : ga r_place 24 0 5) (gr_month : ga r_month 24 0 23) (gr_struck : ga r_struck 24 0 1) (hx : p.tables.exec = Jvm.exec) (hb : c.code = cX0_standing) (hml : c.maxLocals = 3) (hown : s.vm.findClass RX0 = some m.cls) (hts : ∀ w ∈ ((.code yX0_standing cX0_standing 3 (some .int) :: wsGA) : List Cond), w.before args s = true) (hK : va_K (dC, dI) vwCl [(kre, .object RX7)] s) (hz : nzA s) (hF0 : va_P (dC, dI) vwCl (gz_fam 24 ra 7 (fun i => [.int (r_place i), .int (r_kind i), .int (r_month i), .int (r_day i), .int (r_known i), .int (r_struck i)])) s.heap) (hFA0 : gz_ap A (gz_fam 24 ra 7 (fun i => [.int (r_place i), .int (r_kind i), .int (r_month i), .int (r_day i), .int (r_known i), .int (r_struck i)]))) (hRf : 1 ≤ R.frames) (hRl : 23 ≤ R.locals) (hRc : cells ≤ R.cells) (hRs : slots ≤ R.slots) (kr27 : ∀ (v : Int32) (H : Heap) (locs : List Loc) (ls : Array Slot), va_P (dC, dI) vwCl [(h0, .inr (0, [.int amonths, .int afull, .int alean, .int alines, .int ahasMoon, .int amoonStart, .int amoonStep, .int aplaceCount, .int areportCount, .int adeedCount, .ref pl, .ref re, .ref de])), (re, .inl (kre, 24, .inr (.inr (.inr (.inr (fun i => some (ra i)))))))] H → va_S A s.heap H locs → lv_has ls 3 [] → W p l e R s m args below meth c H locs cells slots Q (F0 m 27 ls [.int v])) : ∀ z : Nat, (∀ (v1 : Int32) (v2 : Int32) (H : Heap) (locs : List Loc) (ls : Array Slot), gi v2 0 6 → 13 + (-2) * v2.toInt < (z : Int) → va_P (dC, dI) vwCl [(h0, .inr (0, [.int amonths, .int afull, .int alean, .int alines, .int ahasMoon, .int amoonStart, .int amoonStep, .int aplaceCount, .int areportCount, .int adeedCount, .ref pl, .ref re, .ref de])), (re, .inl (kre, 24, .inr (.inr (.inr (.inr (fun i => some (ra i)))))))] H → va_S A s.heap H locs → lv_has ls 3 [(0, .ref h0), (1, .int v1), (2, .int v2)] → W p l e R s m args below meth c H locs cells slots Q (F0 m 4 ls [])) := by
  intro z
  induction z with
  | zero =>
    intro v1 v2 H locs ls gv2 hmu hP hS hl
    exact absurd hmu (by have hv21 := gv2.1; have hv22 := gv2.2; omega)
  | succ z ih =>
      intro v1 v2 H locs ls gv2 hmu hP hS hl
      refine lv_iload_n hx hb dX0_standing_4 rfl (lv_at hl 2 rfl) ?_
      refine lv_aload_n hx hb dX0_standing_5 rfl (lv_at hl 0 rfl) ?_
      refine va_get (D := (dC, dI)) (ci := 0) (v := .int aplaceCount) (C := RX0) (T := TX0) (N := 13) hx hb hts (fun w h => List.mem_cons_of_mem _ (jnGA_X0 w h)) hown hK hP 0 rfl rfl 7 (by decide) (hts _ (List.mem_cons_of_mem _ mGA_159)) (fun _ h9 => h9) rfl dX0_standing_6 ?_
      refine lv_icmp_ge (tgt := 26) hx hb dX0_standing_9 (by decide) (fun c_43 => ?_) (fun c_43 => ?_)
      · refine lv_iload_n hx hb dX0_standing_26 rfl (lv_at hl 1 rfl) ?_
        exact kr27 v1 _ _ _ hP hS (lv_sub hl [] rfl)
      · have g_44 : gi v2 0 5 := gi_lt_l (Int32.not_le.mp c_43) gv2 gaplaceCount (by decide)
        have g_45 : gi aplaceCount 1 6 := gi_lt_r (Int32.not_le.mp c_43) gv2 gaplaceCount (by decide)
        refine lv_iload_n hx hb dX0_standing_12 rfl (lv_at hl 1 rfl) ?_
        refine lv_aload_n hx hb dX0_standing_13 rfl (lv_at hl 0 rfl) ?_
        refine lv_iload_n hx hb dX0_standing_14 rfl (lv_at hl 2 rfl) ?_
        have hPc := hP.sub (ws' := [(h0, .inr (0, [.int amonths, .int afull, .int alean, .int alines, .int ahasMoon, .int amoonStart, .int amoonStep, .int aplaceCount, .int areportCount, .int adeedCount, .ref pl, .ref re, .ref de])), (re, .inl (kre, 24, .inr (.inr (.inr (.inr (fun i => some (ra i)))))))]) [0, 1] rfl
        have hKc := hK.sub (tys' := [(kre, .object RX7)]) [0] rfl
        refine va_calli (va_runV (As := [.int v2]) (rest := [.int v1]) ⟨hx, hb, hml, hown, hts⟩ (sX0_standingOf l dC dI h0 re amonths afull alean alines ahasMoon amoonStart amoonStep aplaceCount areportCount adeedCount pl de kre ra r_place r_kind r_month r_day r_known r_struck v2 gamonths gafull galean gahasMoon (gi_w g_45 (by decide)) gareportCount gadeedCount gr_place gr_month gr_struck) (cwV 1 hts (gz_gV mGA_906 mGA_375 mGA_376 mGA_13 mGA_377 goodGA) rfl rfl rfl (by decide +kernel) ⟨Nat.le_trans (Nat.le_of_ble_eq_true rfl) hRf, Nat.le_trans (Nat.le_of_ble_eq_true rfl) hRl⟩) ⟨fun a U g mk q => by obtain ⟨q0, qP, qK, qZ, qF0⟩ := q; exact ⟨q0, qP, va_K.moved (u := U) (U := U.calling g mk a) (Vm.Alike.refl U.vm) qK, nzA_same (u := U) (U := U.calling g mk a) rfl qZ, qF0⟩, va_recv hKc hPc (ci := 0) (q0 := 0) rfl rfl, fun U hU hW => ⟨rfl, by rw [hU]; exact hPc, va_K.moved hW.alike hKc, nzA_warm hW hz, by rw [hU]; exact gz_ro hF0 hFA0 hS⟩⟩ rfl rfl hl.1 rfl (lv_room (Nat.le_of_ble_eq_true rfl)) dX0_standing_15 ⟨hRc, hRs⟩) hS (fun q _ h => h.elim) (fun q h => h.elim) (fun r_46 u t H1 locs ht hvm hw hB hz1 hk1 hS => ?_)
        have hP := gz_keep hP hk1
        generalize H1 = H at hP hS ⊢
        refine lv_iadd hx hb dX0_standing_18 ?_
        refine lv_topi (fun x_47 ex_47 => ?_)
        refine lv_istore_n (lv' := [(1, .int x_47), (0, .ref h0), (2, .int v2)]) hx hb dX0_standing_19 rfl hl (by decide) rfl (fun ls hl => ?_)
        obtain ⟨x_48, ex_48⟩ : ∃ y : Int32, y = v2 + 1 := ⟨_, rfl⟩
        have gx_48 : gi x_48 1 6 := gi_add ex_48 g_44 (gi_c 1 1 (by decide)) (by decide)
        refine lv_iinc (v := x_48) (lv' := [(2, .int x_48), (1, .int x_47), (0, .ref h0)]) hx hb dX0_standing_20 hl (k := 2) rfl (by rw [ex_48]; rfl) (by decide) rfl (fun ls hl => ?_)
        refine lv_goto (tgt := 4) hx hb dX0_standing_23 (by decide) ?_
        exact ih x_47 x_48 _ _ _ (gi_w gx_48 (by decide)) (by have av2 := gv2.1; have bv2 := gv2.2; have qgx_48 := gx_48.1; have rgx_48 := gx_48.2; have igx_48 : x_48.toInt = v2.toInt + 1 := (by have hc1 : (1 : Int32).toInt = 1 := (by decide); have h9 := gi_addI ex_48 (by have h1 := g_44.1; have h2 := (gi_c 1 1 (by decide)).1; have h3 := g_44.2; have h4 := (gi_c 1 1 (by decide)).2; omega) (by have h1 := g_44.1; have h2 := (gi_c 1 1 (by decide)).1; have h3 := g_44.2; have h4 := (gi_c 1 1 (by decide)).2; omega); rw [hc1] at h9; exact h9); have qgv2 := g_44.1; have rgv2 := g_44.2; omega) hP hS (lv_sub hl [2, 1, 0] rfl)
set_option maxHeartbeats 4000000 in
set_option maxRecDepth 100000 in
theorem sX0_standing (l : Launch) (dC : Nat → ClassId) (dI : Nat → Nat → Nat) (h0 : Nat) (re : Nat) (amonths : Int32) (afull : Int32) (alean : Int32) (alines : Int32) (ahasMoon : Int32) (amoonStart : Int32) (amoonStep : Int32) (aplaceCount : Int32) (areportCount : Int32) (adeedCount : Int32) (pl : Nat) (de : Nat) (kre : ClassId) (ra : Nat → Nat) (r_place : Nat → Int32) (r_kind : Nat → Int32) (r_month : Nat → Int32) (r_day : Nat → Int32) (r_known : Nat → Int32) (r_struck : Nat → Int32) (gamonths : gi amonths 0 24) (gafull : gi afull 0 5) (galean : gi alean 0 5) (gahasMoon : gi ahasMoon 0 1) (gaplaceCount : gi aplaceCount 0 6) (gareportCount : gi areportCount 0 24) (gadeedCount : gi adeedCount 0 8) (gr_place : ga r_place 24 0 5) (gr_month : ga r_month 24 0 23) (gr_struck : ga r_struck 24 0 1) : Met l yX0_standing (.code yX0_standing cX0_standing 3 (some .int) :: wsGA) ({ frames := 1, cells := 0, slots := 0, locals := 23 }) (va_Pc [.ref h0] (fun U => va_P (dC, dI) vwCl [(h0, .inr (0, [.int amonths, .int afull, .int alean, .int alines, .int ahasMoon, .int amoonStart, .int amoonStep, .int aplaceCount, .int areportCount, .int adeedCount, .ref pl, .ref re, .ref de])), (re, .inl (kre, 24, .inr (.inr (.inr (.inr (fun i => some (ra i)))))))] U.heap ∧ va_K (dC, dI) vwCl [(kre, .object RX7)] U ∧ nzA U ∧ va_P (dC, dI) vwCl (gz_fam 24 ra 7 (fun i => [.int (r_place i), .int (r_kind i), .int (r_month i), .int (r_day i), .int (r_known i), .int (r_struck i)])) U.heap)) (va_Qi (fun (r : Int32) (u : Unit) => gi r (-2147483648) 2147483647) (fun _ _ => True) (fun _ => False)) 0 0 (fun _ => False) := by
  refine Met.ofW (cc := cX0_standing) (maxL := 3) (ret := (some .int)) (by decide) rfl ?_
  intro p e s m args below meth c s₁ B hml hv
  obtain ⟨rfl, hP, hK, hz, hF0⟩ := hv
  have hx := B.exec
  have hb := B.bytes
  have hr := B.returns
  have hts := atoms_spec (ws := (.code yX0_standing cX0_standing 3 (some .int) :: wsGA)) B.pre
  have hown : s.vm.findClass RX0 = some m.cls := findClass_of_methodNamed B.named
  have hlocks := B.notSynchronized
  have hS : va_S (fun _ => False) s.heap s.heap [] := va_S.rf
  have hFA0 : gz_ap (fun _ => False) (gz_fam 24 ra 7 (fun i => [.int (r_place i), .int (r_kind i), .int (r_month i), .int (r_day i), .int (r_known i), .int (r_struck i)])) := gz_ap0
  have hl := lv_entry ([.ref h0]) (n := 3) (Nat.le_of_ble_eq_true rfl)
  rw [lg_entry_eq]
  generalize (lg_sl ([.ref h0]) ++ List.replicate (3 - (lg_sl ([.ref h0])).length) Slot.unset).toArray = ls at hl ⊢
  have hl : lv_has ls 3 [(0, .ref h0)] := hl
  refine lv_iconst (v := 0) hx hb dX0_standing_0 (by decide) ?_
  refine lv_istore_n (lv' := [(1, .int 0), (0, .ref h0)]) hx hb dX0_standing_1 rfl hl (by decide) rfl (fun ls hl => ?_)
  refine lv_iconst (v := 0) hx hb dX0_standing_2 (by decide) ?_
  refine lv_istore_n (lv' := [(2, .int 0), (1, .int 0), (0, .ref h0)]) hx hb dX0_standing_3 rfl hl (by decide) rfl (fun ls hl => ?_)
  refine (lp_sX0_standing h0 re amonths afull alean alines ahasMoon amoonStart amoonStep aplaceCount areportCount adeedCount pl de kre ra r_place r_kind r_month r_day r_known r_struck gamonths gafull galean gahasMoon gaplaceCount gareportCount gadeedCount gr_place gr_month gr_struck hx hb hml hown hts hK hz hF0 hFA0 (Nat.le_of_ble_eq_true rfl) (Nat.le_of_ble_eq_true rfl) (Nat.zero_le _) (Nat.zero_le _) (fun v H locs ls hP hS hl => ?_) 26) 0 0 _ _ _ (gi_w (gi_c 0 0 (by decide)) (by decide)) (by have k0 : (0 : Int32).toInt = 0 := (by decide); omega) hP hS (lv_sub hl [2, 1, 0] rfl)
  · skip
    exact W.iret (v := v) hx hb hr (fun t ht hW => ⟨⟨v, (), rfl, (gi_any v), trivial⟩, hS.F ht⟩) hS.2.2 dX0_standing_27
theorem dX0_knownBits_0 : decode cX0_knownBits 0 = .ok (.iconst 0, 1) := by decide +kernel
theorem dX0_knownBits_1 : decode cX0_knownBits 1 = .ok (.istore_n 2, 1) := by decide +kernel
theorem dX0_knownBits_2 : decode cX0_knownBits 2 = .ok (.iconst 0, 1) := by decide +kernel
theorem dX0_knownBits_3 : decode cX0_knownBits 3 = .ok (.istore_n 3, 1) := by decide +kernel
theorem dX0_knownBits_4 : decode cX0_knownBits 4 = .ok (.iload_n 3, 1) := by decide +kernel
theorem dX0_knownBits_5 : decode cX0_knownBits 5 = .ok (.aload_n 0, 1) := by decide +kernel
theorem dX0_knownBits_6 : decode cX0_knownBits 6 = .ok (.getfield 58, 3) := by decide +kernel
theorem dX0_knownBits_9 : decode cX0_knownBits 9 = .ok (.if_icmp .ge 28, 3) := by decide +kernel
theorem dX0_knownBits_12 : decode cX0_knownBits 12 = .ok (.aload_n 0, 1) := by decide +kernel
theorem dX0_knownBits_13 : decode cX0_knownBits 13 = .ok (.getfield 19, 3) := by decide +kernel
theorem dX0_knownBits_16 : decode cX0_knownBits 16 = .ok (.iload_n 3, 1) := by decide +kernel
theorem dX0_knownBits_17 : decode cX0_knownBits 17 = .ok (.aaload, 1) := by decide +kernel
theorem dX0_knownBits_18 : decode cX0_knownBits 18 = .ok (.iload_n 1, 1) := by decide +kernel
theorem dX0_knownBits_19 : decode cX0_knownBits 19 = .ok (.invokevirtual 111, 3) := by decide +kernel
theorem dX0_knownBits_22 : decode cX0_knownBits 22 = .ok (.ifCond .eq 9, 3) := by decide +kernel
theorem dX0_knownBits_25 : decode cX0_knownBits 25 = .ok (.iload_n 2, 1) := by decide +kernel
theorem dX0_knownBits_26 : decode cX0_knownBits 26 = .ok (.iconst 1, 1) := by decide +kernel
theorem dX0_knownBits_27 : decode cX0_knownBits 27 = .ok (.iload_n 3, 1) := by decide +kernel
theorem dX0_knownBits_28 : decode cX0_knownBits 28 = .ok (.ishl, 1) := by decide +kernel
theorem dX0_knownBits_29 : decode cX0_knownBits 29 = .ok (.ior, 1) := by decide +kernel
theorem dX0_knownBits_30 : decode cX0_knownBits 30 = .ok (.istore_n 2, 1) := by decide +kernel
theorem dX0_knownBits_31 : decode cX0_knownBits 31 = .ok (.iinc 3 1, 3) := by decide +kernel
theorem dX0_knownBits_34 : decode cX0_knownBits 34 = .ok (.goto (-30), 3) := by decide +kernel
theorem dX0_knownBits_37 : decode cX0_knownBits 37 = .ok (.iload_n 2, 1) := by decide +kernel
theorem dX0_knownBits_38 : decode cX0_knownBits 38 = .ok (.ireturn, 1) := by decide +kernel
set_option maxHeartbeats 4000000 in
set_option maxRecDepth 100000 in
theorem lp_sX0_knownBits {p : Program} {l : Launch} {e : Env} {R : Room} {s : State} {m : MethodId} {args : Array Value} {below : List Frame} {meth : Method} {c : Code} {Q : State → Prop} {A : Nat → Prop} {cells slots : Nat} {dC : Nat → ClassId} {dI : Nat → Nat → Nat} (h0 : Nat) (re : Nat) (amonths : Int32) (afull : Int32) (alean : Int32) (alines : Int32) (ahasMoon : Int32) (amoonStart : Int32) (amoonStep : Int32) (aplaceCount : Int32) (areportCount : Int32) (adeedCount : Int32) (pl : Nat) (de : Nat) (kre : ClassId) (ra : Nat → Nat) (r_place : Nat → Int32) (r_kind : Nat → Int32) (r_month : Nat → Int32) (r_day : Nat → Int32) (r_known : Nat → Int32) (r_struck : Nat → Int32) (p1 : Int32) (gamonths : gi amonths 0 24) (gafull : gi afull 0 5) (galean : gi alean 0 5) (gahasMoon : gi ahasMoon 0 1) (gaplaceCount : gi aplaceCount 0 6) (gareportCount : gi areportCount 0 24) (gadeedCount : gi adeedCount 0 8) (gr_place : ga r_place 24 0 5) (gr_month : ga r_month 24 0 23) (gr_struck : ga r_struck 24 0 1) (hx : p.tables.exec = Jvm.exec) (hb : c.code = cX0_knownBits) (hml : c.maxLocals = 4) (hown : s.vm.findClass RX0 = some m.cls) (hts : ∀ w ∈ ((.code yX0_knownBits cX0_knownBits 4 (some .int) :: wsGA) : List Cond), w.before args s = true) (hK : va_K (dC, dI) vwCl [(kre, .object RX7)] s) (hz : nzA s) (hF0 : va_P (dC, dI) vwCl (gz_fam 24 ra 7 (fun i => [.int (r_place i), .int (r_kind i), .int (r_month i), .int (r_day i), .int (r_known i), .int (r_struck i)])) s.heap) (hFA0 : gz_ap A (gz_fam 24 ra 7 (fun i => [.int (r_place i), .int (r_kind i), .int (r_month i), .int (r_day i), .int (r_known i), .int (r_struck i)]))) (hRf : 1 ≤ R.frames) (hRl : 21 ≤ R.locals) (hRc : cells ≤ R.cells) (hRs : slots ≤ R.slots) (kr38 : ∀ (v : Int32) (H : Heap) (locs : List Loc) (ls : Array Slot), va_P (dC, dI) vwCl [(h0, .inr (0, [.int amonths, .int afull, .int alean, .int alines, .int ahasMoon, .int amoonStart, .int amoonStep, .int aplaceCount, .int areportCount, .int adeedCount, .ref pl, .ref re, .ref de])), (re, .inl (kre, 24, .inr (.inr (.inr (.inr (fun i => some (ra i)))))))] H → va_S A s.heap H locs → lv_has ls 4 [] → W p l e R s m args below meth c H locs cells slots Q (F0 m 38 ls [.int v])) : ∀ z : Nat, (∀ (v2 : Int32) (v3 : Int32) (H : Heap) (locs : List Loc) (ls : Array Slot), gi v3 0 24 → 49 + (-2) * v3.toInt < (z : Int) → va_P (dC, dI) vwCl [(h0, .inr (0, [.int amonths, .int afull, .int alean, .int alines, .int ahasMoon, .int amoonStart, .int amoonStep, .int aplaceCount, .int areportCount, .int adeedCount, .ref pl, .ref re, .ref de])), (re, .inl (kre, 24, .inr (.inr (.inr (.inr (fun i => some (ra i)))))))] H → va_S A s.heap H locs → lv_has ls 4 [(0, .ref h0), (1, .int p1), (2, .int v2), (3, .int v3)] → W p l e R s m args below meth c H locs cells slots Q (F0 m 4 ls [])) := by
  intro z
  induction z with
  | zero =>
    intro v2 v3 H locs ls gv3 hmu hP hS hl
    exact absurd hmu (by have hv31 := gv3.1; have hv32 := gv3.2; omega)
  | succ z ih =>
      intro v2 v3 H locs ls gv3 hmu hP hS hl
      refine lv_iload_n hx hb dX0_knownBits_4 rfl (lv_at hl 3 rfl) ?_
      refine lv_aload_n hx hb dX0_knownBits_5 rfl (lv_at hl 0 rfl) ?_
      refine va_get (D := (dC, dI)) (ci := 0) (v := .int areportCount) (C := RX0) (T := TX0) (N := 13) hx hb hts (fun w h => List.mem_cons_of_mem _ (jnGA_X0 w h)) hown hK hP 0 rfl rfl 8 (by decide) (hts _ (List.mem_cons_of_mem _ mGA_160)) (fun _ h9 => h9) rfl dX0_knownBits_6 ?_
      refine lv_icmp_ge (tgt := 37) hx hb dX0_knownBits_9 (by decide) (fun c_166 => ?_) (fun c_166 => ?_)
      · refine lv_iload_n hx hb dX0_knownBits_37 rfl (lv_at hl 2 rfl) ?_
        exact kr38 v2 _ _ _ hP hS (lv_sub hl [] rfl)
      · have g_167 : gi v3 0 23 := gi_lt_l (Int32.not_le.mp c_166) gv3 gareportCount (by decide)
        have g_168 : gi areportCount 1 24 := gi_lt_r (Int32.not_le.mp c_166) gv3 gareportCount (by decide)
        refine lv_aload_n hx hb dX0_knownBits_12 rfl (lv_at hl 0 rfl) ?_
        refine va_get (D := (dC, dI)) (ci := 0) (v := .ref re) (C := RX0) (T := TX0) (N := 13) hx hb hts (fun w h => List.mem_cons_of_mem _ (jnGA_X0 w h)) hown hK hP 0 rfl rfl 11 (by decide) (hts _ (List.mem_cons_of_mem _ mGA_72)) (fun _ h9 => h9) rfl dX0_knownBits_13 ?_
        refine lv_iload_n hx hb dX0_knownBits_16 rfl (lv_at hl 3 rfl) ?_
        refine va_aldq hx hb hK hP 1 0 rfl rfl (gi_in g_167 (by decide)) dX0_knownBits_17 ?_
        refine W.eq (g2 := F0 m 18 ls [.ref (ra v3.toNatClampNeg)]) rfl ?_
        refine lv_iload_n hx hb dX0_knownBits_18 rfl (lv_at hl 1 rfl) ?_
        have hPc : va_P (dC, dI) vwCl [((ra v3.toNatClampNeg), .inr (7, [.int (r_place v3.toNatClampNeg), .int (r_kind v3.toNatClampNeg), .int (r_month v3.toNatClampNeg), .int (r_day v3.toNatClampNeg), .int (r_known v3.toNatClampNeg), .int (r_struck v3.toNatClampNeg)]))] H := (gz_fam1 (gz_ro hF0 hFA0 hS) (gz_clt (gi_in (n := 24) g_167 (by decide))))
        have hKc := hK.sub (tys' := []) [] rfl
        refine va_calli (va_runV (As := [.int p1]) (rest := []) ⟨hx, hb, hml, hown, hts⟩ (sX7_isKnownBy l dC dI (ra v3.toNatClampNeg) (r_place v3.toNatClampNeg) (r_kind v3.toNatClampNeg) (r_month v3.toNatClampNeg) (r_day v3.toNatClampNeg) (r_known v3.toNatClampNeg) (r_struck v3.toNatClampNeg) p1 (ga_ix gr_place (gi_in (n := 24) g_167 (by decide))) (ga_ix gr_month (gi_in (n := 24) g_167 (by decide))) (ga_ix gr_struck (gi_in (n := 24) g_167 (by decide)))) (cwV 1 hts (gz_gV mGA_437 mGA_438 mGA_439 mGA_78 mGA_440 goodGA) rfl rfl rfl (by decide +kernel) ⟨Nat.le_trans (Nat.le_of_ble_eq_true rfl) hRf, Nat.le_trans (Nat.le_of_ble_eq_true rfl) hRl⟩) ⟨fun a U g mk q => by obtain ⟨q0, qP, qK, qZ⟩ := q; exact ⟨q0, qP, va_K.moved (u := U) (U := U.calling g mk a) (Vm.Alike.refl U.vm) qK, nzA_same (u := U) (U := U.calling g mk a) rfl qZ⟩, va_recv hKc hPc (ci := 7) (q0 := 0) rfl rfl, fun U hU hW => ⟨rfl, by rw [hU]; exact hPc, va_K.moved hW.alike hKc, nzA_warm hW hz⟩⟩ rfl rfl hl.1 rfl (lv_room (Nat.le_of_ble_eq_true rfl)) dX0_knownBits_19 ⟨hRc, hRs⟩) hS (fun q _ h => h.elim) (fun q h => h.elim) (fun r_169 u t H1 locs ht hvm hw hB hz1 hk1 hS => ?_)
        have hP := gz_keep hP hk1
        generalize H1 = H at hP hS ⊢
        have gr_169 : gi r_169 0 1 := hw
        refine lv_if_eq (tgt := 31) hx hb dX0_knownBits_22 (by decide) (fun c_170 => ?_) (fun c_170 => ?_)
        · have g_171 : gi r_169 0 0 := gi_eq c_170 (gi_c 0 0 (by decide))
          obtain ⟨x_172, ex_172⟩ : ∃ y : Int32, y = v3 + 1 := ⟨_, rfl⟩
          have gx_172 : gi x_172 1 24 := gi_add ex_172 g_167 (gi_c 1 1 (by decide)) (by decide)
          refine lv_iinc (v := x_172) (lv' := [(3, .int x_172), (0, .ref h0), (1, .int p1), (2, .int v2)]) hx hb dX0_knownBits_31 hl (k := 3) rfl (by rw [ex_172]; rfl) (by decide) rfl (fun ls hl => ?_)
          refine lv_goto (tgt := 4) hx hb dX0_knownBits_34 (by decide) ?_
          exact ih v2 x_172 _ _ _ (gi_w gx_172 (by decide)) (by have av3 := gv3.1; have bv3 := gv3.2; have qgx_172 := gx_172.1; have rgx_172 := gx_172.2; have igx_172 : x_172.toInt = v3.toInt + 1 := (by have hc1 : (1 : Int32).toInt = 1 := (by decide); have h9 := gi_addI ex_172 (by have h1 := g_167.1; have h2 := (gi_c 1 1 (by decide)).1; have h3 := g_167.2; have h4 := (gi_c 1 1 (by decide)).2; omega) (by have h1 := g_167.1; have h2 := (gi_c 1 1 (by decide)).1; have h3 := g_167.2; have h4 := (gi_c 1 1 (by decide)).2; omega); rw [hc1] at h9; exact h9); have qgv3 := g_167.1; have rgv3 := g_167.2; omega) hP hS (lv_sub hl [1, 2, 3, 0] rfl)
        · have g_173 : gi r_169 1 1 := gi_ne_lo c_170 gr_169 (gi_c 0 0 (by decide)) (by decide)
          refine lv_iload_n hx hb dX0_knownBits_25 rfl (lv_at hl 2 rfl) ?_
          refine lv_iconst (v := 1) hx hb dX0_knownBits_26 (by decide) ?_
          refine lv_iload_n hx hb dX0_knownBits_27 rfl (lv_at hl 3 rfl) ?_
          refine lv_ishl hx hb dX0_knownBits_28 ?_
          refine lv_topi (fun x_174 ex_174 => ?_)
          refine lv_ior hx hb dX0_knownBits_29 ?_
          refine lv_topi (fun x_175 ex_175 => ?_)
          refine lv_istore_n (lv' := [(2, .int x_175), (0, .ref h0), (1, .int p1), (3, .int v3)]) hx hb dX0_knownBits_30 rfl hl (by decide) rfl (fun ls hl => ?_)
          obtain ⟨x_176, ex_176⟩ : ∃ y : Int32, y = v3 + 1 := ⟨_, rfl⟩
          have gx_176 : gi x_176 1 24 := gi_add ex_176 g_167 (gi_c 1 1 (by decide)) (by decide)
          refine lv_iinc (v := x_176) (lv' := [(3, .int x_176), (2, .int x_175), (0, .ref h0), (1, .int p1)]) hx hb dX0_knownBits_31 hl (k := 3) rfl (by rw [ex_176]; rfl) (by decide) rfl (fun ls hl => ?_)
          refine lv_goto (tgt := 4) hx hb dX0_knownBits_34 (by decide) ?_
          exact ih x_175 x_176 _ _ _ (gi_w gx_176 (by decide)) (by have av3 := gv3.1; have bv3 := gv3.2; have qgx_176 := gx_176.1; have rgx_176 := gx_176.2; have igx_176 : x_176.toInt = v3.toInt + 1 := (by have hc1 : (1 : Int32).toInt = 1 := (by decide); have h9 := gi_addI ex_176 (by have h1 := g_167.1; have h2 := (gi_c 1 1 (by decide)).1; have h3 := g_167.2; have h4 := (gi_c 1 1 (by decide)).2; omega) (by have h1 := g_167.1; have h2 := (gi_c 1 1 (by decide)).1; have h3 := g_167.2; have h4 := (gi_c 1 1 (by decide)).2; omega); rw [hc1] at h9; exact h9); have qgv3 := g_167.1; have rgv3 := g_167.2; omega) hP hS (lv_sub hl [2, 3, 1, 0] rfl)
set_option maxHeartbeats 4000000 in
set_option maxRecDepth 100000 in
theorem sX0_knownBits (l : Launch) (dC : Nat → ClassId) (dI : Nat → Nat → Nat) (h0 : Nat) (re : Nat) (amonths : Int32) (afull : Int32) (alean : Int32) (alines : Int32) (ahasMoon : Int32) (amoonStart : Int32) (amoonStep : Int32) (aplaceCount : Int32) (areportCount : Int32) (adeedCount : Int32) (pl : Nat) (de : Nat) (kre : ClassId) (ra : Nat → Nat) (r_place : Nat → Int32) (r_kind : Nat → Int32) (r_month : Nat → Int32) (r_day : Nat → Int32) (r_known : Nat → Int32) (r_struck : Nat → Int32) (p1 : Int32) (gamonths : gi amonths 0 24) (gafull : gi afull 0 5) (galean : gi alean 0 5) (gahasMoon : gi ahasMoon 0 1) (gaplaceCount : gi aplaceCount 0 6) (gareportCount : gi areportCount 0 24) (gadeedCount : gi adeedCount 0 8) (gr_place : ga r_place 24 0 5) (gr_month : ga r_month 24 0 23) (gr_struck : ga r_struck 24 0 1) : Met l yX0_knownBits (.code yX0_knownBits cX0_knownBits 4 (some .int) :: wsGA) ({ frames := 1, cells := 0, slots := 0, locals := 21 }) (va_Pc [.ref h0, .int p1] (fun U => va_P (dC, dI) vwCl [(h0, .inr (0, [.int amonths, .int afull, .int alean, .int alines, .int ahasMoon, .int amoonStart, .int amoonStep, .int aplaceCount, .int areportCount, .int adeedCount, .ref pl, .ref re, .ref de])), (re, .inl (kre, 24, .inr (.inr (.inr (.inr (fun i => some (ra i)))))))] U.heap ∧ va_K (dC, dI) vwCl [(kre, .object RX7)] U ∧ nzA U ∧ va_P (dC, dI) vwCl (gz_fam 24 ra 7 (fun i => [.int (r_place i), .int (r_kind i), .int (r_month i), .int (r_day i), .int (r_known i), .int (r_struck i)])) U.heap)) (va_Qi (fun (r : Int32) (u : Unit) => gi r (-2147483648) 2147483647) (fun _ _ => True) (fun _ => False)) 0 0 (fun _ => False) := by
  refine Met.ofW (cc := cX0_knownBits) (maxL := 4) (ret := (some .int)) (by decide) rfl ?_
  intro p e s m args below meth c s₁ B hml hv
  obtain ⟨rfl, hP, hK, hz, hF0⟩ := hv
  have hx := B.exec
  have hb := B.bytes
  have hr := B.returns
  have hts := atoms_spec (ws := (.code yX0_knownBits cX0_knownBits 4 (some .int) :: wsGA)) B.pre
  have hown : s.vm.findClass RX0 = some m.cls := findClass_of_methodNamed B.named
  have hlocks := B.notSynchronized
  have hS : va_S (fun _ => False) s.heap s.heap [] := va_S.rf
  have hFA0 : gz_ap (fun _ => False) (gz_fam 24 ra 7 (fun i => [.int (r_place i), .int (r_kind i), .int (r_month i), .int (r_day i), .int (r_known i), .int (r_struck i)])) := gz_ap0
  have hl := lv_entry ([.ref h0, .int p1]) (n := 4) (Nat.le_of_ble_eq_true rfl)
  rw [lg_entry_eq]
  generalize (lg_sl ([.ref h0, .int p1]) ++ List.replicate (4 - (lg_sl ([.ref h0, .int p1])).length) Slot.unset).toArray = ls at hl ⊢
  have hl : lv_has ls 4 [(0, .ref h0), (1, .int p1)] := hl
  refine lv_iconst (v := 0) hx hb dX0_knownBits_0 (by decide) ?_
  refine lv_istore_n (lv' := [(2, .int 0), (0, .ref h0), (1, .int p1)]) hx hb dX0_knownBits_1 rfl hl (by decide) rfl (fun ls hl => ?_)
  refine lv_iconst (v := 0) hx hb dX0_knownBits_2 (by decide) ?_
  refine lv_istore_n (lv' := [(3, .int 0), (2, .int 0), (0, .ref h0), (1, .int p1)]) hx hb dX0_knownBits_3 rfl hl (by decide) rfl (fun ls hl => ?_)
  refine (lp_sX0_knownBits h0 re amonths afull alean alines ahasMoon amoonStart amoonStep aplaceCount areportCount adeedCount pl de kre ra r_place r_kind r_month r_day r_known r_struck p1 gamonths gafull galean gahasMoon gaplaceCount gareportCount gadeedCount gr_place gr_month gr_struck hx hb hml hown hts hK hz hF0 hFA0 (Nat.le_of_ble_eq_true rfl) (Nat.le_of_ble_eq_true rfl) (Nat.zero_le _) (Nat.zero_le _) (fun v H locs ls hP hS hl => ?_) 62) 0 0 _ _ _ (gi_w (gi_c 0 0 (by decide)) (by decide)) (by have k0 : (0 : Int32).toInt = 0 := (by decide); omega) hP hS (lv_sub hl [2, 3, 1, 0] rfl)
  · skip
    exact W.iret (v := v) hx hb hr (fun t ht hW => ⟨⟨v, (), rfl, (gi_any v), trivial⟩, hS.F ht⟩) hS.2.2 dX0_knownBits_38
theorem dX0_latestNews_0 : decode cX0_latestNews 0 = .ok (.iconst (-1), 1) := by decide +kernel
theorem dX0_latestNews_1 : decode cX0_latestNews 1 = .ok (.istore_n 2, 1) := by decide +kernel
theorem dX0_latestNews_2 : decode cX0_latestNews 2 = .ok (.iconst 0, 1) := by decide +kernel
theorem dX0_latestNews_3 : decode cX0_latestNews 3 = .ok (.istore_n 3, 1) := by decide +kernel
theorem dX0_latestNews_4 : decode cX0_latestNews 4 = .ok (.iload_n 3, 1) := by decide +kernel
theorem dX0_latestNews_5 : decode cX0_latestNews 5 = .ok (.aload_n 0, 1) := by decide +kernel
theorem dX0_latestNews_6 : decode cX0_latestNews 6 = .ok (.getfield 58, 3) := by decide +kernel
theorem dX0_latestNews_9 : decode cX0_latestNews 9 = .ok (.if_icmp .ge 36, 3) := by decide +kernel
theorem dX0_latestNews_12 : decode cX0_latestNews 12 = .ok (.aload_n 0, 1) := by decide +kernel
theorem dX0_latestNews_13 : decode cX0_latestNews 13 = .ok (.getfield 19, 3) := by decide +kernel
theorem dX0_latestNews_16 : decode cX0_latestNews 16 = .ok (.iload_n 3, 1) := by decide +kernel
theorem dX0_latestNews_17 : decode cX0_latestNews 17 = .ok (.aaload, 1) := by decide +kernel
theorem dX0_latestNews_18 : decode cX0_latestNews 18 = .ok (.iload_n 1, 1) := by decide +kernel
theorem dX0_latestNews_19 : decode cX0_latestNews 19 = .ok (.invokevirtual 111, 3) := by decide +kernel
theorem dX0_latestNews_22 : decode cX0_latestNews 22 = .ok (.ifCond .eq 17, 3) := by decide +kernel
theorem dX0_latestNews_25 : decode cX0_latestNews 25 = .ok (.iload_n 2, 1) := by decide +kernel
theorem dX0_latestNews_26 : decode cX0_latestNews 26 = .ok (.aload_n 0, 1) := by decide +kernel
theorem dX0_latestNews_27 : decode cX0_latestNews 27 = .ok (.getfield 19, 3) := by decide +kernel
theorem dX0_latestNews_30 : decode cX0_latestNews 30 = .ok (.iload_n 3, 1) := by decide +kernel
theorem dX0_latestNews_31 : decode cX0_latestNews 31 = .ok (.aaload, 1) := by decide +kernel
theorem dX0_latestNews_32 : decode cX0_latestNews 32 = .ok (.getfield 89, 3) := by decide +kernel
theorem dX0_latestNews_35 : decode cX0_latestNews 35 = .ok (.invokestatic 115, 3) := by decide +kernel
theorem dX0_latestNews_38 : decode cX0_latestNews 38 = .ok (.istore_n 2, 1) := by decide +kernel
theorem dX0_latestNews_39 : decode cX0_latestNews 39 = .ok (.iinc 3 1, 3) := by decide +kernel
theorem dX0_latestNews_42 : decode cX0_latestNews 42 = .ok (.goto (-38), 3) := by decide +kernel
theorem dX0_latestNews_45 : decode cX0_latestNews 45 = .ok (.iload_n 2, 1) := by decide +kernel
theorem dX0_latestNews_46 : decode cX0_latestNews 46 = .ok (.ireturn, 1) := by decide +kernel
set_option maxHeartbeats 4000000 in
set_option maxRecDepth 100000 in
theorem lp_sX0_latestNews {p : Program} {l : Launch} {e : Env} {R : Room} {s : State} {m : MethodId} {args : Array Value} {below : List Frame} {meth : Method} {c : Code} {Q : State → Prop} {A : Nat → Prop} {cells slots : Nat} {dC : Nat → ClassId} {dI : Nat → Nat → Nat} (h0 : Nat) (re : Nat) (amonths : Int32) (afull : Int32) (alean : Int32) (alines : Int32) (ahasMoon : Int32) (amoonStart : Int32) (amoonStep : Int32) (aplaceCount : Int32) (areportCount : Int32) (adeedCount : Int32) (pl : Nat) (de : Nat) (kre : ClassId) (ra : Nat → Nat) (r_place : Nat → Int32) (r_kind : Nat → Int32) (r_month : Nat → Int32) (r_day : Nat → Int32) (r_known : Nat → Int32) (r_struck : Nat → Int32) (p1 : Int32) (gamonths : gi amonths 0 24) (gafull : gi afull 0 5) (galean : gi alean 0 5) (gahasMoon : gi ahasMoon 0 1) (gaplaceCount : gi aplaceCount 0 6) (gareportCount : gi areportCount 0 24) (gadeedCount : gi adeedCount 0 8) (gr_place : ga r_place 24 0 5) (gr_month : ga r_month 24 0 23) (gr_struck : ga r_struck 24 0 1) (hx : p.tables.exec = Jvm.exec) (hb : c.code = cX0_latestNews) (hml : c.maxLocals = 4) (hown : s.vm.findClass RX0 = some m.cls) (hts : ∀ w ∈ ((.code yX0_latestNews cX0_latestNews 4 (some .int) :: wsGA) : List Cond), w.before args s = true) (hK : va_K (dC, dI) vwCl [(kre, .object RX7)] s) (hz : nzA s) (hF0 : va_P (dC, dI) vwCl (gz_fam 24 ra 7 (fun i => [.int (r_place i), .int (r_kind i), .int (r_month i), .int (r_day i), .int (r_known i), .int (r_struck i)])) s.heap) (hFA0 : gz_ap A (gz_fam 24 ra 7 (fun i => [.int (r_place i), .int (r_kind i), .int (r_month i), .int (r_day i), .int (r_known i), .int (r_struck i)]))) (hRf : 1 ≤ R.frames) (hRl : 21 ≤ R.locals) (hRc : cells ≤ R.cells) (hRs : slots ≤ R.slots) (kr46 : ∀ (v : Int32) (H : Heap) (locs : List Loc) (ls : Array Slot), gi v (-1) 2147483647 → va_P (dC, dI) vwCl [(h0, .inr (0, [.int amonths, .int afull, .int alean, .int alines, .int ahasMoon, .int amoonStart, .int amoonStep, .int aplaceCount, .int areportCount, .int adeedCount, .ref pl, .ref re, .ref de])), (re, .inl (kre, 24, .inr (.inr (.inr (.inr (fun i => some (ra i)))))))] H → va_S A s.heap H locs → lv_has ls 4 [] → W p l e R s m args below meth c H locs cells slots Q (F0 m 46 ls [.int v])) : ∀ z : Nat, (∀ (v2 : Int32) (v3 : Int32) (H : Heap) (locs : List Loc) (ls : Array Slot), gi v2 (-1) 2147483647 → gi v3 0 24 → 49 + (-2) * v3.toInt < (z : Int) → va_P (dC, dI) vwCl [(h0, .inr (0, [.int amonths, .int afull, .int alean, .int alines, .int ahasMoon, .int amoonStart, .int amoonStep, .int aplaceCount, .int areportCount, .int adeedCount, .ref pl, .ref re, .ref de])), (re, .inl (kre, 24, .inr (.inr (.inr (.inr (fun i => some (ra i)))))))] H → va_S A s.heap H locs → lv_has ls 4 [(0, .ref h0), (1, .int p1), (2, .int v2), (3, .int v3)] → W p l e R s m args below meth c H locs cells slots Q (F0 m 4 ls [])) := by
  intro z
  induction z with
  | zero =>
    intro v2 v3 H locs ls gv2 gv3 hmu hP hS hl
    exact absurd hmu (by have hv31 := gv3.1; have hv32 := gv3.2; omega)
  | succ z ih =>
      intro v2 v3 H locs ls gv2 gv3 hmu hP hS hl
      refine lv_iload_n hx hb dX0_latestNews_4 rfl (lv_at hl 3 rfl) ?_
      refine lv_aload_n hx hb dX0_latestNews_5 rfl (lv_at hl 0 rfl) ?_
      refine va_get (D := (dC, dI)) (ci := 0) (v := .int areportCount) (C := RX0) (T := TX0) (N := 13) hx hb hts (fun w h => List.mem_cons_of_mem _ (jnGA_X0 w h)) hown hK hP 0 rfl rfl 8 (by decide) (hts _ (List.mem_cons_of_mem _ mGA_160)) (fun _ h9 => h9) rfl dX0_latestNews_6 ?_
      refine lv_icmp_ge (tgt := 45) hx hb dX0_latestNews_9 (by decide) (fun c_166 => ?_) (fun c_166 => ?_)
      · refine lv_iload_n hx hb dX0_latestNews_45 rfl (lv_at hl 2 rfl) ?_
        exact kr46 v2 _ _ _ gv2 hP hS (lv_sub hl [] rfl)
      · have g_167 : gi v3 0 23 := gi_lt_l (Int32.not_le.mp c_166) gv3 gareportCount (by decide)
        have g_168 : gi areportCount 1 24 := gi_lt_r (Int32.not_le.mp c_166) gv3 gareportCount (by decide)
        refine lv_aload_n hx hb dX0_latestNews_12 rfl (lv_at hl 0 rfl) ?_
        refine va_get (D := (dC, dI)) (ci := 0) (v := .ref re) (C := RX0) (T := TX0) (N := 13) hx hb hts (fun w h => List.mem_cons_of_mem _ (jnGA_X0 w h)) hown hK hP 0 rfl rfl 11 (by decide) (hts _ (List.mem_cons_of_mem _ mGA_72)) (fun _ h9 => h9) rfl dX0_latestNews_13 ?_
        refine lv_iload_n hx hb dX0_latestNews_16 rfl (lv_at hl 3 rfl) ?_
        refine va_aldq hx hb hK hP 1 0 rfl rfl (gi_in g_167 (by decide)) dX0_latestNews_17 ?_
        refine W.eq (g2 := F0 m 18 ls [.ref (ra v3.toNatClampNeg)]) rfl ?_
        refine lv_iload_n hx hb dX0_latestNews_18 rfl (lv_at hl 1 rfl) ?_
        have hPc : va_P (dC, dI) vwCl [((ra v3.toNatClampNeg), .inr (7, [.int (r_place v3.toNatClampNeg), .int (r_kind v3.toNatClampNeg), .int (r_month v3.toNatClampNeg), .int (r_day v3.toNatClampNeg), .int (r_known v3.toNatClampNeg), .int (r_struck v3.toNatClampNeg)]))] H := (gz_fam1 (gz_ro hF0 hFA0 hS) (gz_clt (gi_in (n := 24) g_167 (by decide))))
        have hKc := hK.sub (tys' := []) [] rfl
        refine va_calli (va_runV (As := [.int p1]) (rest := []) ⟨hx, hb, hml, hown, hts⟩ (sX7_isKnownBy l dC dI (ra v3.toNatClampNeg) (r_place v3.toNatClampNeg) (r_kind v3.toNatClampNeg) (r_month v3.toNatClampNeg) (r_day v3.toNatClampNeg) (r_known v3.toNatClampNeg) (r_struck v3.toNatClampNeg) p1 (ga_ix gr_place (gi_in (n := 24) g_167 (by decide))) (ga_ix gr_month (gi_in (n := 24) g_167 (by decide))) (ga_ix gr_struck (gi_in (n := 24) g_167 (by decide)))) (cwV 1 hts (gz_gV mGA_437 mGA_438 mGA_439 mGA_78 mGA_440 goodGA) rfl rfl rfl (by decide +kernel) ⟨Nat.le_trans (Nat.le_of_ble_eq_true rfl) hRf, Nat.le_trans (Nat.le_of_ble_eq_true rfl) hRl⟩) ⟨fun a U g mk q => by obtain ⟨q0, qP, qK, qZ⟩ := q; exact ⟨q0, qP, va_K.moved (u := U) (U := U.calling g mk a) (Vm.Alike.refl U.vm) qK, nzA_same (u := U) (U := U.calling g mk a) rfl qZ⟩, va_recv hKc hPc (ci := 7) (q0 := 0) rfl rfl, fun U hU hW => ⟨rfl, by rw [hU]; exact hPc, va_K.moved hW.alike hKc, nzA_warm hW hz⟩⟩ rfl rfl hl.1 rfl (lv_room (Nat.le_of_ble_eq_true rfl)) dX0_latestNews_19 ⟨hRc, hRs⟩) hS (fun q _ h => h.elim) (fun q h => h.elim) (fun r_169 u t H1 locs ht hvm hw hB hz1 hk1 hS => ?_)
        have hP := gz_keep hP hk1
        generalize H1 = H at hP hS ⊢
        have gr_169 : gi r_169 0 1 := hw
        refine lv_if_eq (tgt := 39) hx hb dX0_latestNews_22 (by decide) (fun c_170 => ?_) (fun c_170 => ?_)
        · have g_171 : gi r_169 0 0 := gi_eq c_170 (gi_c 0 0 (by decide))
          obtain ⟨x_172, ex_172⟩ : ∃ y : Int32, y = v3 + 1 := ⟨_, rfl⟩
          have gx_172 : gi x_172 1 24 := gi_add ex_172 g_167 (gi_c 1 1 (by decide)) (by decide)
          refine lv_iinc (v := x_172) (lv' := [(3, .int x_172), (0, .ref h0), (1, .int p1), (2, .int v2)]) hx hb dX0_latestNews_39 hl (k := 3) rfl (by rw [ex_172]; rfl) (by decide) rfl (fun ls hl => ?_)
          refine lv_goto (tgt := 4) hx hb dX0_latestNews_42 (by decide) ?_
          exact ih v2 x_172 _ _ _ gv2 (gi_w gx_172 (by decide)) (by have av3 := gv3.1; have bv3 := gv3.2; have qgx_172 := gx_172.1; have rgx_172 := gx_172.2; have igx_172 : x_172.toInt = v3.toInt + 1 := (by have hc1 : (1 : Int32).toInt = 1 := (by decide); have h9 := gi_addI ex_172 (by have h1 := g_167.1; have h2 := (gi_c 1 1 (by decide)).1; have h3 := g_167.2; have h4 := (gi_c 1 1 (by decide)).2; omega) (by have h1 := g_167.1; have h2 := (gi_c 1 1 (by decide)).1; have h3 := g_167.2; have h4 := (gi_c 1 1 (by decide)).2; omega); rw [hc1] at h9; exact h9); have qgv3 := g_167.1; have rgv3 := g_167.2; omega) hP hS (lv_sub hl [1, 2, 3, 0] rfl)
        · have g_173 : gi r_169 1 1 := gi_ne_lo c_170 gr_169 (gi_c 0 0 (by decide)) (by decide)
          refine lv_iload_n hx hb dX0_latestNews_25 rfl (lv_at hl 2 rfl) ?_
          refine lv_aload_n hx hb dX0_latestNews_26 rfl (lv_at hl 0 rfl) ?_
          refine va_get (D := (dC, dI)) (ci := 0) (v := .ref re) (C := RX0) (T := TX0) (N := 13) hx hb hts (fun w h => List.mem_cons_of_mem _ (jnGA_X0 w h)) hown hK hP 0 rfl rfl 11 (by decide) (hts _ (List.mem_cons_of_mem _ mGA_72)) (fun _ h9 => h9) rfl dX0_latestNews_27 ?_
          refine lv_iload_n hx hb dX0_latestNews_30 rfl (lv_at hl 3 rfl) ?_
          refine va_aldq hx hb hK hP 1 0 rfl rfl (gi_in g_167 (by decide)) dX0_latestNews_31 ?_
          refine W.eq (g2 := F0 m 32 ls [.ref (ra v3.toNatClampNeg), .int v2]) rfl ?_
          refine va_get (D := (dC, dI)) (ci := 7) (v := .int (r_known v3.toNatClampNeg)) (C := RX7) (T := TX7) (N := 6) hx hb hts (fun w h => List.mem_cons_of_mem _ (jnGA_X7 w h)) hown hK (gz_ro hF0 hFA0 hS) (v3.toNatClampNeg) (gz_fam_at (gz_clt (gi_in (n := 24) g_167 (by decide)))) rfl 4 (by decide) (hts _ (List.mem_cons_of_mem _ mGA_321)) (fun _ h9 => h9) rfl dX0_latestNews_32 ?_
          refine lv_topi (fun x_174 ex_174 => ?_)
          refine va_mmax (own := RX0) hx hb (by rw [hml]; exact hl.1.symm) hown (hts _ (List.mem_cons_of_mem _ mGA_436)) (hts _ (List.mem_cons_of_mem _ mGA_344)) (hts _ (List.mem_cons_of_mem _ mGA_269)) (hts _ (List.mem_cons_of_mem _ mGA_345)) (Nat.le_trans (Nat.le_of_ble_eq_true rfl) hRf) (Nat.le_trans (Nat.le_of_ble_eq_true rfl) hRl) hRc hRs dX0_latestNews_35 ?_
          refine lv_topi (fun x_175 ex_175 => ?_)
          have gx_175 : gi x_175 (-1) 2147483647 := gi_max ex_175 gv2 (gi_any x_174) (by decide)
          refine lv_istore_n (lv' := [(2, .int x_175), (0, .ref h0), (1, .int p1), (3, .int v3)]) hx hb dX0_latestNews_38 rfl hl (by decide) rfl (fun ls hl => ?_)
          obtain ⟨x_176, ex_176⟩ : ∃ y : Int32, y = v3 + 1 := ⟨_, rfl⟩
          have gx_176 : gi x_176 1 24 := gi_add ex_176 g_167 (gi_c 1 1 (by decide)) (by decide)
          refine lv_iinc (v := x_176) (lv' := [(3, .int x_176), (2, .int x_175), (0, .ref h0), (1, .int p1)]) hx hb dX0_latestNews_39 hl (k := 3) rfl (by rw [ex_176]; rfl) (by decide) rfl (fun ls hl => ?_)
          refine lv_goto (tgt := 4) hx hb dX0_latestNews_42 (by decide) ?_
          exact ih x_175 x_176 _ _ _ gx_175 (gi_w gx_176 (by decide)) (by have av3 := gv3.1; have bv3 := gv3.2; have qgx_176 := gx_176.1; have rgx_176 := gx_176.2; have igx_176 : x_176.toInt = v3.toInt + 1 := (by have hc1 : (1 : Int32).toInt = 1 := (by decide); have h9 := gi_addI ex_176 (by have h1 := g_167.1; have h2 := (gi_c 1 1 (by decide)).1; have h3 := g_167.2; have h4 := (gi_c 1 1 (by decide)).2; omega) (by have h1 := g_167.1; have h2 := (gi_c 1 1 (by decide)).1; have h3 := g_167.2; have h4 := (gi_c 1 1 (by decide)).2; omega); rw [hc1] at h9; exact h9); have qgv3 := g_167.1; have rgv3 := g_167.2; omega) hP hS (lv_sub hl [2, 3, 1, 0] rfl)
set_option maxHeartbeats 4000000 in
set_option maxRecDepth 100000 in
theorem sX0_latestNews (l : Launch) (dC : Nat → ClassId) (dI : Nat → Nat → Nat) (h0 : Nat) (re : Nat) (amonths : Int32) (afull : Int32) (alean : Int32) (alines : Int32) (ahasMoon : Int32) (amoonStart : Int32) (amoonStep : Int32) (aplaceCount : Int32) (areportCount : Int32) (adeedCount : Int32) (pl : Nat) (de : Nat) (kre : ClassId) (ra : Nat → Nat) (r_place : Nat → Int32) (r_kind : Nat → Int32) (r_month : Nat → Int32) (r_day : Nat → Int32) (r_known : Nat → Int32) (r_struck : Nat → Int32) (p1 : Int32) (gamonths : gi amonths 0 24) (gafull : gi afull 0 5) (galean : gi alean 0 5) (gahasMoon : gi ahasMoon 0 1) (gaplaceCount : gi aplaceCount 0 6) (gareportCount : gi areportCount 0 24) (gadeedCount : gi adeedCount 0 8) (gr_place : ga r_place 24 0 5) (gr_month : ga r_month 24 0 23) (gr_struck : ga r_struck 24 0 1) : Met l yX0_latestNews (.code yX0_latestNews cX0_latestNews 4 (some .int) :: wsGA) ({ frames := 1, cells := 0, slots := 0, locals := 21 }) (va_Pc [.ref h0, .int p1] (fun U => va_P (dC, dI) vwCl [(h0, .inr (0, [.int amonths, .int afull, .int alean, .int alines, .int ahasMoon, .int amoonStart, .int amoonStep, .int aplaceCount, .int areportCount, .int adeedCount, .ref pl, .ref re, .ref de])), (re, .inl (kre, 24, .inr (.inr (.inr (.inr (fun i => some (ra i)))))))] U.heap ∧ va_K (dC, dI) vwCl [(kre, .object RX7)] U ∧ nzA U ∧ va_P (dC, dI) vwCl (gz_fam 24 ra 7 (fun i => [.int (r_place i), .int (r_kind i), .int (r_month i), .int (r_day i), .int (r_known i), .int (r_struck i)])) U.heap)) (va_Qi (fun (r : Int32) (u : Unit) => gi r (-1) 2147483647) (fun _ _ => True) (fun _ => False)) 0 0 (fun _ => False) := by
  refine Met.ofW (cc := cX0_latestNews) (maxL := 4) (ret := (some .int)) (by decide) rfl ?_
  intro p e s m args below meth c s₁ B hml hv
  obtain ⟨rfl, hP, hK, hz, hF0⟩ := hv
  have hx := B.exec
  have hb := B.bytes
  have hr := B.returns
  have hts := atoms_spec (ws := (.code yX0_latestNews cX0_latestNews 4 (some .int) :: wsGA)) B.pre
  have hown : s.vm.findClass RX0 = some m.cls := findClass_of_methodNamed B.named
  have hlocks := B.notSynchronized
  have hS : va_S (fun _ => False) s.heap s.heap [] := va_S.rf
  have hFA0 : gz_ap (fun _ => False) (gz_fam 24 ra 7 (fun i => [.int (r_place i), .int (r_kind i), .int (r_month i), .int (r_day i), .int (r_known i), .int (r_struck i)])) := gz_ap0
  have hl := lv_entry ([.ref h0, .int p1]) (n := 4) (Nat.le_of_ble_eq_true rfl)
  rw [lg_entry_eq]
  generalize (lg_sl ([.ref h0, .int p1]) ++ List.replicate (4 - (lg_sl ([.ref h0, .int p1])).length) Slot.unset).toArray = ls at hl ⊢
  have hl : lv_has ls 4 [(0, .ref h0), (1, .int p1)] := hl
  refine lv_iconst (v := (-1)) hx hb dX0_latestNews_0 (by decide) ?_
  refine lv_istore_n (lv' := [(2, .int (-1)), (0, .ref h0), (1, .int p1)]) hx hb dX0_latestNews_1 rfl hl (by decide) rfl (fun ls hl => ?_)
  refine lv_iconst (v := 0) hx hb dX0_latestNews_2 (by decide) ?_
  refine lv_istore_n (lv' := [(3, .int 0), (2, .int (-1)), (0, .ref h0), (1, .int p1)]) hx hb dX0_latestNews_3 rfl hl (by decide) rfl (fun ls hl => ?_)
  refine (lp_sX0_latestNews h0 re amonths afull alean alines ahasMoon amoonStart amoonStep aplaceCount areportCount adeedCount pl de kre ra r_place r_kind r_month r_day r_known r_struck p1 gamonths gafull galean gahasMoon gaplaceCount gareportCount gadeedCount gr_place gr_month gr_struck hx hb hml hown hts hK hz hF0 hFA0 (Nat.le_of_ble_eq_true rfl) (Nat.le_of_ble_eq_true rfl) (Nat.zero_le _) (Nat.zero_le _) (fun v H locs ls gv hP hS hl => ?_) 62) (-1) 0 _ _ _ (gi_w (gi_c (-1) (-1) (by decide)) (by decide)) (gi_w (gi_c 0 0 (by decide)) (by decide)) (by have k0 : (0 : Int32).toInt = 0 := (by decide); omega) hP hS (lv_sub hl [2, 3, 1, 0] rfl)
  · skip
    exact W.iret (v := v) hx hb hr (fun t ht hW => ⟨⟨v, (), rfl, gv, trivial⟩, hS.F ht⟩) hS.2.2 dX0_latestNews_46
theorem dX0_newsBehind_0 : decode cX0_newsBehind 0 = .ok (.sipush 1000, 3) := by decide +kernel
theorem dX0_newsBehind_3 : decode cX0_newsBehind 3 = .ok (.istore_n 2, 1) := by decide +kernel
theorem dX0_newsBehind_4 : decode cX0_newsBehind 4 = .ok (.iconst 0, 1) := by decide +kernel
theorem dX0_newsBehind_5 : decode cX0_newsBehind 5 = .ok (.istore_n 3, 1) := by decide +kernel
theorem dX0_newsBehind_6 : decode cX0_newsBehind 6 = .ok (.iload_n 3, 1) := by decide +kernel
theorem dX0_newsBehind_7 : decode cX0_newsBehind 7 = .ok (.aload_n 0, 1) := by decide +kernel
theorem dX0_newsBehind_8 : decode cX0_newsBehind 8 = .ok (.getfield 58, 3) := by decide +kernel
theorem dX0_newsBehind_11 : decode cX0_newsBehind 11 = .ok (.if_icmp .ge 48, 3) := by decide +kernel
theorem dX0_newsBehind_14 : decode cX0_newsBehind 14 = .ok (.aload_n 0, 1) := by decide +kernel
theorem dX0_newsBehind_15 : decode cX0_newsBehind 15 = .ok (.getfield 19, 3) := by decide +kernel
theorem dX0_newsBehind_18 : decode cX0_newsBehind 18 = .ok (.iload_n 3, 1) := by decide +kernel
theorem dX0_newsBehind_19 : decode cX0_newsBehind 19 = .ok (.aaload, 1) := by decide +kernel
theorem dX0_newsBehind_20 : decode cX0_newsBehind 20 = .ok (.getfield 96, 3) := by decide +kernel
theorem dX0_newsBehind_23 : decode cX0_newsBehind 23 = .ok (.ifCond .ne 30, 3) := by decide +kernel
theorem dX0_newsBehind_26 : decode cX0_newsBehind 26 = .ok (.aload_n 0, 1) := by decide +kernel
theorem dX0_newsBehind_27 : decode cX0_newsBehind 27 = .ok (.getfield 19, 3) := by decide +kernel
theorem dX0_newsBehind_30 : decode cX0_newsBehind 30 = .ok (.iload_n 3, 1) := by decide +kernel
theorem dX0_newsBehind_31 : decode cX0_newsBehind 31 = .ok (.aaload, 1) := by decide +kernel
theorem dX0_newsBehind_32 : decode cX0_newsBehind 32 = .ok (.getfield 89, 3) := by decide +kernel
theorem dX0_newsBehind_35 : decode cX0_newsBehind 35 = .ok (.iload_n 1, 1) := by decide +kernel
theorem dX0_newsBehind_36 : decode cX0_newsBehind 36 = .ok (.if_icmp .le 17, 3) := by decide +kernel
theorem dX0_newsBehind_39 : decode cX0_newsBehind 39 = .ok (.iload_n 2, 1) := by decide +kernel
theorem dX0_newsBehind_40 : decode cX0_newsBehind 40 = .ok (.aload_n 0, 1) := by decide +kernel
theorem dX0_newsBehind_41 : decode cX0_newsBehind 41 = .ok (.getfield 19, 3) := by decide +kernel
theorem dX0_newsBehind_44 : decode cX0_newsBehind 44 = .ok (.iload_n 3, 1) := by decide +kernel
theorem dX0_newsBehind_45 : decode cX0_newsBehind 45 = .ok (.aaload, 1) := by decide +kernel
theorem dX0_newsBehind_46 : decode cX0_newsBehind 46 = .ok (.getfield 89, 3) := by decide +kernel
theorem dX0_newsBehind_49 : decode cX0_newsBehind 49 = .ok (.invokestatic 121, 3) := by decide +kernel
theorem dX0_newsBehind_52 : decode cX0_newsBehind 52 = .ok (.istore_n 2, 1) := by decide +kernel
theorem dX0_newsBehind_53 : decode cX0_newsBehind 53 = .ok (.iinc 3 1, 3) := by decide +kernel
theorem dX0_newsBehind_56 : decode cX0_newsBehind 56 = .ok (.goto (-50), 3) := by decide +kernel
theorem dX0_newsBehind_59 : decode cX0_newsBehind 59 = .ok (.iload_n 2, 1) := by decide +kernel
theorem dX0_newsBehind_60 : decode cX0_newsBehind 60 = .ok (.ireturn, 1) := by decide +kernel
set_option maxHeartbeats 4000000 in
set_option maxRecDepth 100000 in
theorem lp_sX0_newsBehind {p : Program} {l : Launch} {e : Env} {R : Room} {s : State} {m : MethodId} {args : Array Value} {below : List Frame} {meth : Method} {c : Code} {Q : State → Prop} {A : Nat → Prop} {cells slots : Nat} {dC : Nat → ClassId} {dI : Nat → Nat → Nat} (h0 : Nat) (re : Nat) (amonths : Int32) (afull : Int32) (alean : Int32) (alines : Int32) (ahasMoon : Int32) (amoonStart : Int32) (amoonStep : Int32) (aplaceCount : Int32) (areportCount : Int32) (adeedCount : Int32) (pl : Nat) (de : Nat) (kre : ClassId) (ra : Nat → Nat) (r_place : Nat → Int32) (r_kind : Nat → Int32) (r_month : Nat → Int32) (r_day : Nat → Int32) (r_known : Nat → Int32) (r_struck : Nat → Int32) (p1 : Int32) (gamonths : gi amonths 0 24) (gafull : gi afull 0 5) (galean : gi alean 0 5) (gahasMoon : gi ahasMoon 0 1) (gaplaceCount : gi aplaceCount 0 6) (gareportCount : gi areportCount 0 24) (gadeedCount : gi adeedCount 0 8) (gr_place : ga r_place 24 0 5) (gr_month : ga r_month 24 0 23) (gr_struck : ga r_struck 24 0 1) (hx : p.tables.exec = Jvm.exec) (hb : c.code = cX0_newsBehind) (hml : c.maxLocals = 4) (hown : s.vm.findClass RX0 = some m.cls) (hts : ∀ w ∈ ((.code yX0_newsBehind cX0_newsBehind 4 (some .int) :: wsGA) : List Cond), w.before args s = true) (hK : va_K (dC, dI) vwCl [(kre, .object RX7)] s) (hz : nzA s) (hF0 : va_P (dC, dI) vwCl (gz_fam 24 ra 7 (fun i => [.int (r_place i), .int (r_kind i), .int (r_month i), .int (r_day i), .int (r_known i), .int (r_struck i)])) s.heap) (hFA0 : gz_ap A (gz_fam 24 ra 7 (fun i => [.int (r_place i), .int (r_kind i), .int (r_month i), .int (r_day i), .int (r_known i), .int (r_struck i)]))) (hRf : 1 ≤ R.frames) (hRl : 13 ≤ R.locals) (hRc : cells ≤ R.cells) (hRs : slots ≤ R.slots) (kr60 : ∀ (v : Int32) (H : Heap) (locs : List Loc) (ls : Array Slot), gi v (-2147483648) 1000 → va_P (dC, dI) vwCl [(h0, .inr (0, [.int amonths, .int afull, .int alean, .int alines, .int ahasMoon, .int amoonStart, .int amoonStep, .int aplaceCount, .int areportCount, .int adeedCount, .ref pl, .ref re, .ref de])), (re, .inl (kre, 24, .inr (.inr (.inr (.inr (fun i => some (ra i)))))))] H → va_S A s.heap H locs → lv_has ls 4 [] → W p l e R s m args below meth c H locs cells slots Q (F0 m 60 ls [.int v])) : ∀ z : Nat, (∀ (v2 : Int32) (v3 : Int32) (H : Heap) (locs : List Loc) (ls : Array Slot), gi v2 (-2147483648) 1000 → gi v3 0 24 → 49 + (-2) * v3.toInt < (z : Int) → va_P (dC, dI) vwCl [(h0, .inr (0, [.int amonths, .int afull, .int alean, .int alines, .int ahasMoon, .int amoonStart, .int amoonStep, .int aplaceCount, .int areportCount, .int adeedCount, .ref pl, .ref re, .ref de])), (re, .inl (kre, 24, .inr (.inr (.inr (.inr (fun i => some (ra i)))))))] H → va_S A s.heap H locs → lv_has ls 4 [(0, .ref h0), (1, .int p1), (2, .int v2), (3, .int v3)] → W p l e R s m args below meth c H locs cells slots Q (F0 m 6 ls [])) := by
  intro z
  induction z with
  | zero =>
    intro v2 v3 H locs ls gv2 gv3 hmu hP hS hl
    exact absurd hmu (by have hv31 := gv3.1; have hv32 := gv3.2; omega)
  | succ z ih =>
      intro v2 v3 H locs ls gv2 gv3 hmu hP hS hl
      refine lv_iload_n hx hb dX0_newsBehind_6 rfl (lv_at hl 3 rfl) ?_
      refine lv_aload_n hx hb dX0_newsBehind_7 rfl (lv_at hl 0 rfl) ?_
      refine va_get (D := (dC, dI)) (ci := 0) (v := .int areportCount) (C := RX0) (T := TX0) (N := 13) hx hb hts (fun w h => List.mem_cons_of_mem _ (jnGA_X0 w h)) hown hK hP 0 rfl rfl 8 (by decide) (hts _ (List.mem_cons_of_mem _ mGA_160)) (fun _ h9 => h9) rfl dX0_newsBehind_8 ?_
      refine lv_icmp_ge (tgt := 59) hx hb dX0_newsBehind_11 (by decide) (fun c_241 => ?_) (fun c_241 => ?_)
      · refine lv_iload_n hx hb dX0_newsBehind_59 rfl (lv_at hl 2 rfl) ?_
        exact kr60 v2 _ _ _ gv2 hP hS (lv_sub hl [] rfl)
      · have g_242 : gi v3 0 23 := gi_lt_l (Int32.not_le.mp c_241) gv3 gareportCount (by decide)
        have g_243 : gi areportCount 1 24 := gi_lt_r (Int32.not_le.mp c_241) gv3 gareportCount (by decide)
        refine lv_aload_n hx hb dX0_newsBehind_14 rfl (lv_at hl 0 rfl) ?_
        refine va_get (D := (dC, dI)) (ci := 0) (v := .ref re) (C := RX0) (T := TX0) (N := 13) hx hb hts (fun w h => List.mem_cons_of_mem _ (jnGA_X0 w h)) hown hK hP 0 rfl rfl 11 (by decide) (hts _ (List.mem_cons_of_mem _ mGA_72)) (fun _ h9 => h9) rfl dX0_newsBehind_15 ?_
        refine lv_iload_n hx hb dX0_newsBehind_18 rfl (lv_at hl 3 rfl) ?_
        refine va_aldq hx hb hK hP 1 0 rfl rfl (gi_in g_242 (by decide)) dX0_newsBehind_19 ?_
        refine W.eq (g2 := F0 m 20 ls [.ref (ra v3.toNatClampNeg)]) rfl ?_
        refine va_get (D := (dC, dI)) (ci := 7) (v := .int (r_struck v3.toNatClampNeg)) (C := RX7) (T := TX7) (N := 6) hx hb hts (fun w h => List.mem_cons_of_mem _ (jnGA_X7 w h)) hown hK (gz_ro hF0 hFA0 hS) (v3.toNatClampNeg) (gz_fam_at (gz_clt (gi_in (n := 24) g_242 (by decide)))) rfl 5 (by decide) (hts _ (List.mem_cons_of_mem _ mGA_322)) (fun _ h9 => h9) rfl dX0_newsBehind_20 ?_
        refine lv_topi (fun x_244 ex_244 => ?_)
        have gx_244 : gi x_244 0 1 := ga_at gr_struck (gi_in (n := 24) g_242 (by decide)) ex_244
        refine lv_if_ne (tgt := 53) hx hb dX0_newsBehind_23 (by decide) (fun c_245 => ?_) (fun c_245 => ?_)
        · have g_246 : gi x_244 1 1 := gi_ne_lo c_245 gx_244 (gi_c 0 0 (by decide)) (by decide)
          obtain ⟨x_247, ex_247⟩ : ∃ y : Int32, y = v3 + 1 := ⟨_, rfl⟩
          have gx_247 : gi x_247 1 24 := gi_add ex_247 g_242 (gi_c 1 1 (by decide)) (by decide)
          refine lv_iinc (v := x_247) (lv' := [(3, .int x_247), (0, .ref h0), (1, .int p1), (2, .int v2)]) hx hb dX0_newsBehind_53 hl (k := 3) rfl (by rw [ex_247]; rfl) (by decide) rfl (fun ls hl => ?_)
          refine lv_goto (tgt := 6) hx hb dX0_newsBehind_56 (by decide) ?_
          exact ih v2 x_247 _ _ _ gv2 (gi_w gx_247 (by decide)) (by have av3 := gv3.1; have bv3 := gv3.2; have qgx_247 := gx_247.1; have rgx_247 := gx_247.2; have igx_247 : x_247.toInt = v3.toInt + 1 := (by have hc1 : (1 : Int32).toInt = 1 := (by decide); have h9 := gi_addI ex_247 (by have h1 := g_242.1; have h2 := (gi_c 1 1 (by decide)).1; have h3 := g_242.2; have h4 := (gi_c 1 1 (by decide)).2; omega) (by have h1 := g_242.1; have h2 := (gi_c 1 1 (by decide)).1; have h3 := g_242.2; have h4 := (gi_c 1 1 (by decide)).2; omega); rw [hc1] at h9; exact h9); have qgv3 := g_242.1; have rgv3 := g_242.2; omega) hP hS (lv_sub hl [1, 2, 3, 0] rfl)
        · have g_248 : gi x_244 0 0 := gi_eq c_245 (gi_c 0 0 (by decide))
          refine lv_aload_n hx hb dX0_newsBehind_26 rfl (lv_at hl 0 rfl) ?_
          refine va_get (D := (dC, dI)) (ci := 0) (v := .ref re) (C := RX0) (T := TX0) (N := 13) hx hb hts (fun w h => List.mem_cons_of_mem _ (jnGA_X0 w h)) hown hK hP 0 rfl rfl 11 (by decide) (hts _ (List.mem_cons_of_mem _ mGA_72)) (fun _ h9 => h9) rfl dX0_newsBehind_27 ?_
          refine lv_iload_n hx hb dX0_newsBehind_30 rfl (lv_at hl 3 rfl) ?_
          refine va_aldq hx hb hK hP 1 0 rfl rfl (gi_in g_242 (by decide)) dX0_newsBehind_31 ?_
          refine W.eq (g2 := F0 m 32 ls [.ref (ra v3.toNatClampNeg)]) rfl ?_
          refine va_get (D := (dC, dI)) (ci := 7) (v := .int (r_known v3.toNatClampNeg)) (C := RX7) (T := TX7) (N := 6) hx hb hts (fun w h => List.mem_cons_of_mem _ (jnGA_X7 w h)) hown hK (gz_ro hF0 hFA0 hS) (v3.toNatClampNeg) (gz_fam_at (gz_clt (gi_in (n := 24) g_242 (by decide)))) rfl 4 (by decide) (hts _ (List.mem_cons_of_mem _ mGA_321)) (fun _ h9 => h9) rfl dX0_newsBehind_32 ?_
          refine lv_topi (fun x_249 ex_249 => ?_)
          refine lv_iload_n hx hb dX0_newsBehind_35 rfl (lv_at hl 1 rfl) ?_
          refine lv_icmp_le (tgt := 53) hx hb dX0_newsBehind_36 (by decide) (fun c_250 => ?_) (fun c_250 => ?_)
          · obtain ⟨x_251, ex_251⟩ : ∃ y : Int32, y = v3 + 1 := ⟨_, rfl⟩
            have gx_251 : gi x_251 1 24 := gi_add ex_251 g_242 (gi_c 1 1 (by decide)) (by decide)
            refine lv_iinc (v := x_251) (lv' := [(3, .int x_251), (0, .ref h0), (1, .int p1), (2, .int v2)]) hx hb dX0_newsBehind_53 hl (k := 3) rfl (by rw [ex_251]; rfl) (by decide) rfl (fun ls hl => ?_)
            refine lv_goto (tgt := 6) hx hb dX0_newsBehind_56 (by decide) ?_
            exact ih v2 x_251 _ _ _ gv2 (gi_w gx_251 (by decide)) (by have av3 := gv3.1; have bv3 := gv3.2; have qgx_251 := gx_251.1; have rgx_251 := gx_251.2; have igx_251 : x_251.toInt = v3.toInt + 1 := (by have hc1 : (1 : Int32).toInt = 1 := (by decide); have h9 := gi_addI ex_251 (by have h1 := g_242.1; have h2 := (gi_c 1 1 (by decide)).1; have h3 := g_242.2; have h4 := (gi_c 1 1 (by decide)).2; omega) (by have h1 := g_242.1; have h2 := (gi_c 1 1 (by decide)).1; have h3 := g_242.2; have h4 := (gi_c 1 1 (by decide)).2; omega); rw [hc1] at h9; exact h9); have qgv3 := g_242.1; have rgv3 := g_242.2; omega) hP hS (lv_sub hl [1, 2, 3, 0] rfl)
          · have g_252 : gi p1 (-2147483648) 2147483646 := gi_lt_l (Int32.not_le.mp c_250) (gi_any p1) (gi_any x_249) (by decide)
            have g_253 : gi x_249 (-2147483647) 2147483647 := gi_lt_r (Int32.not_le.mp c_250) (gi_any p1) (gi_any x_249) (by decide)
            refine lv_iload_n hx hb dX0_newsBehind_39 rfl (lv_at hl 2 rfl) ?_
            refine lv_aload_n hx hb dX0_newsBehind_40 rfl (lv_at hl 0 rfl) ?_
            refine va_get (D := (dC, dI)) (ci := 0) (v := .ref re) (C := RX0) (T := TX0) (N := 13) hx hb hts (fun w h => List.mem_cons_of_mem _ (jnGA_X0 w h)) hown hK hP 0 rfl rfl 11 (by decide) (hts _ (List.mem_cons_of_mem _ mGA_72)) (fun _ h9 => h9) rfl dX0_newsBehind_41 ?_
            refine lv_iload_n hx hb dX0_newsBehind_44 rfl (lv_at hl 3 rfl) ?_
            refine va_aldq hx hb hK hP 1 0 rfl rfl (gi_in g_242 (by decide)) dX0_newsBehind_45 ?_
            refine W.eq (g2 := F0 m 46 ls [.ref (ra v3.toNatClampNeg), .int v2]) rfl ?_
            refine va_get (D := (dC, dI)) (ci := 7) (v := .int (r_known v3.toNatClampNeg)) (C := RX7) (T := TX7) (N := 6) hx hb hts (fun w h => List.mem_cons_of_mem _ (jnGA_X7 w h)) hown hK (gz_ro hF0 hFA0 hS) (v3.toNatClampNeg) (gz_fam_at (gz_clt (gi_in (n := 24) g_242 (by decide)))) rfl 4 (by decide) (hts _ (List.mem_cons_of_mem _ mGA_321)) (fun _ h9 => h9) rfl dX0_newsBehind_46 ?_
            refine lv_topi (fun x_254 ex_254 => ?_)
            refine va_mmin (own := RX0) hx hb (by rw [hml]; exact hl.1.symm) hown (hts _ (List.mem_cons_of_mem _ mGA_718)) (hts _ (List.mem_cons_of_mem _ mGA_268)) (hts _ (List.mem_cons_of_mem _ mGA_269)) (hts _ (List.mem_cons_of_mem _ mGA_270)) (Nat.le_trans (Nat.le_of_ble_eq_true rfl) hRf) (Nat.le_trans (Nat.le_of_ble_eq_true rfl) hRl) hRc hRs dX0_newsBehind_49 ?_
            refine lv_topi (fun x_255 ex_255 => ?_)
            have gx_255 : gi x_255 (-2147483648) 1000 := gi_min ex_255 gv2 (gi_any x_254) (by decide)
            refine lv_istore_n (lv' := [(2, .int x_255), (0, .ref h0), (1, .int p1), (3, .int v3)]) hx hb dX0_newsBehind_52 rfl hl (by decide) rfl (fun ls hl => ?_)
            obtain ⟨x_256, ex_256⟩ : ∃ y : Int32, y = v3 + 1 := ⟨_, rfl⟩
            have gx_256 : gi x_256 1 24 := gi_add ex_256 g_242 (gi_c 1 1 (by decide)) (by decide)
            refine lv_iinc (v := x_256) (lv' := [(3, .int x_256), (2, .int x_255), (0, .ref h0), (1, .int p1)]) hx hb dX0_newsBehind_53 hl (k := 3) rfl (by rw [ex_256]; rfl) (by decide) rfl (fun ls hl => ?_)
            refine lv_goto (tgt := 6) hx hb dX0_newsBehind_56 (by decide) ?_
            exact ih x_255 x_256 _ _ _ gx_255 (gi_w gx_256 (by decide)) (by have av3 := gv3.1; have bv3 := gv3.2; have qgx_256 := gx_256.1; have rgx_256 := gx_256.2; have igx_256 : x_256.toInt = v3.toInt + 1 := (by have hc1 : (1 : Int32).toInt = 1 := (by decide); have h9 := gi_addI ex_256 (by have h1 := g_242.1; have h2 := (gi_c 1 1 (by decide)).1; have h3 := g_242.2; have h4 := (gi_c 1 1 (by decide)).2; omega) (by have h1 := g_242.1; have h2 := (gi_c 1 1 (by decide)).1; have h3 := g_242.2; have h4 := (gi_c 1 1 (by decide)).2; omega); rw [hc1] at h9; exact h9); have qgv3 := g_242.1; have rgv3 := g_242.2; omega) hP hS (lv_sub hl [2, 3, 1, 0] rfl)
set_option maxHeartbeats 4000000 in
set_option maxRecDepth 100000 in
theorem sX0_newsBehind (l : Launch) (dC : Nat → ClassId) (dI : Nat → Nat → Nat) (h0 : Nat) (re : Nat) (amonths : Int32) (afull : Int32) (alean : Int32) (alines : Int32) (ahasMoon : Int32) (amoonStart : Int32) (amoonStep : Int32) (aplaceCount : Int32) (areportCount : Int32) (adeedCount : Int32) (pl : Nat) (de : Nat) (kre : ClassId) (ra : Nat → Nat) (r_place : Nat → Int32) (r_kind : Nat → Int32) (r_month : Nat → Int32) (r_day : Nat → Int32) (r_known : Nat → Int32) (r_struck : Nat → Int32) (p1 : Int32) (gamonths : gi amonths 0 24) (gafull : gi afull 0 5) (galean : gi alean 0 5) (gahasMoon : gi ahasMoon 0 1) (gaplaceCount : gi aplaceCount 0 6) (gareportCount : gi areportCount 0 24) (gadeedCount : gi adeedCount 0 8) (gr_place : ga r_place 24 0 5) (gr_month : ga r_month 24 0 23) (gr_struck : ga r_struck 24 0 1) : Met l yX0_newsBehind (.code yX0_newsBehind cX0_newsBehind 4 (some .int) :: wsGA) ({ frames := 1, cells := 0, slots := 0, locals := 13 }) (va_Pc [.ref h0, .int p1] (fun U => va_P (dC, dI) vwCl [(h0, .inr (0, [.int amonths, .int afull, .int alean, .int alines, .int ahasMoon, .int amoonStart, .int amoonStep, .int aplaceCount, .int areportCount, .int adeedCount, .ref pl, .ref re, .ref de])), (re, .inl (kre, 24, .inr (.inr (.inr (.inr (fun i => some (ra i)))))))] U.heap ∧ va_K (dC, dI) vwCl [(kre, .object RX7)] U ∧ nzA U ∧ va_P (dC, dI) vwCl (gz_fam 24 ra 7 (fun i => [.int (r_place i), .int (r_kind i), .int (r_month i), .int (r_day i), .int (r_known i), .int (r_struck i)])) U.heap)) (va_Qi (fun (r : Int32) (u : Unit) => gi r (-2147483648) 1000) (fun _ _ => True) (fun _ => False)) 0 0 (fun _ => False) := by
  refine Met.ofW (cc := cX0_newsBehind) (maxL := 4) (ret := (some .int)) (by decide) rfl ?_
  intro p e s m args below meth c s₁ B hml hv
  obtain ⟨rfl, hP, hK, hz, hF0⟩ := hv
  have hx := B.exec
  have hb := B.bytes
  have hr := B.returns
  have hts := atoms_spec (ws := (.code yX0_newsBehind cX0_newsBehind 4 (some .int) :: wsGA)) B.pre
  have hown : s.vm.findClass RX0 = some m.cls := findClass_of_methodNamed B.named
  have hlocks := B.notSynchronized
  have hS : va_S (fun _ => False) s.heap s.heap [] := va_S.rf
  have hFA0 : gz_ap (fun _ => False) (gz_fam 24 ra 7 (fun i => [.int (r_place i), .int (r_kind i), .int (r_month i), .int (r_day i), .int (r_known i), .int (r_struck i)])) := gz_ap0
  have hl := lv_entry ([.ref h0, .int p1]) (n := 4) (Nat.le_of_ble_eq_true rfl)
  rw [lg_entry_eq]
  generalize (lg_sl ([.ref h0, .int p1]) ++ List.replicate (4 - (lg_sl ([.ref h0, .int p1])).length) Slot.unset).toArray = ls at hl ⊢
  have hl : lv_has ls 4 [(0, .ref h0), (1, .int p1)] := hl
  refine lv_sipush (v := 1000) hx hb dX0_newsBehind_0 (by decide) ?_
  refine lv_istore_n (lv' := [(2, .int 1000), (0, .ref h0), (1, .int p1)]) hx hb dX0_newsBehind_3 rfl hl (by decide) rfl (fun ls hl => ?_)
  refine lv_iconst (v := 0) hx hb dX0_newsBehind_4 (by decide) ?_
  refine lv_istore_n (lv' := [(3, .int 0), (2, .int 1000), (0, .ref h0), (1, .int p1)]) hx hb dX0_newsBehind_5 rfl hl (by decide) rfl (fun ls hl => ?_)
  refine (lp_sX0_newsBehind h0 re amonths afull alean alines ahasMoon amoonStart amoonStep aplaceCount areportCount adeedCount pl de kre ra r_place r_kind r_month r_day r_known r_struck p1 gamonths gafull galean gahasMoon gaplaceCount gareportCount gadeedCount gr_place gr_month gr_struck hx hb hml hown hts hK hz hF0 hFA0 (Nat.le_of_ble_eq_true rfl) (Nat.le_of_ble_eq_true rfl) (Nat.zero_le _) (Nat.zero_le _) (fun v H locs ls gv hP hS hl => ?_) 62) 1000 0 _ _ _ (gi_w (gi_c 1000 1000 (by decide)) (by decide)) (gi_w (gi_c 0 0 (by decide)) (by decide)) (by have k0 : (0 : Int32).toInt = 0 := (by decide); omega) hP hS (lv_sub hl [2, 3, 1, 0] rfl)
  · skip
    exact W.iret (v := v) hx hb hr (fun t ht hW => ⟨⟨v, (), rfl, gv, trivial⟩, hS.F ht⟩) hS.2.2 dX0_newsBehind_60
theorem dX1_turnOf_0 : decode cX1_turnOf 0 = .ok (.aload_n 0, 1) := by decide +kernel
theorem dX1_turnOf_1 : decode cX1_turnOf 1 = .ok (.getfield 47, 3) := by decide +kernel
theorem dX1_turnOf_4 : decode cX1_turnOf 4 = .ok (.iload_n 1, 1) := by decide +kernel
theorem dX1_turnOf_5 : decode cX1_turnOf 5 = .ok (.aaload, 1) := by decide +kernel
theorem dX1_turnOf_6 : decode cX1_turnOf 6 = .ok (.astore_n 2, 1) := by decide +kernel
theorem dX1_turnOf_7 : decode cX1_turnOf 7 = .ok (.aload_n 0, 1) := by decide +kernel
theorem dX1_turnOf_8 : decode cX1_turnOf 8 = .ok (.getfield 82, 3) := by decide +kernel
theorem dX1_turnOf_11 : decode cX1_turnOf 11 = .ok (.aload_n 2, 1) := by decide +kernel
theorem dX1_turnOf_12 : decode cX1_turnOf 12 = .ok (.getfield 86, 3) := by decide +kernel
theorem dX1_turnOf_15 : decode cX1_turnOf 15 = .ok (.aaload, 1) := by decide +kernel
theorem dX1_turnOf_16 : decode cX1_turnOf 16 = .ok (.astore_n 3, 1) := by decide +kernel
theorem dX1_turnOf_17 : decode cX1_turnOf 17 = .ok (.bipush 9, 2) := by decide +kernel
theorem dX1_turnOf_19 : decode cX1_turnOf 19 = .ok (.aload_n 3, 1) := by decide +kernel
theorem dX1_turnOf_20 : decode cX1_turnOf 20 = .ok (.getfield 89, 3) := by decide +kernel
theorem dX1_turnOf_23 : decode cX1_turnOf 23 = .ok (.isub, 1) := by decide +kernel
theorem dX1_turnOf_24 : decode cX1_turnOf 24 = .ok (.i2l, 1) := by decide +kernel
theorem dX1_turnOf_25 : decode cX1_turnOf 25 = .ok (.lstore 4, 2) := by decide +kernel
theorem dX1_turnOf_27 : decode cX1_turnOf 27 = .ok (.lload 4, 2) := by decide +kernel
theorem dX1_turnOf_29 : decode cX1_turnOf 29 = .ok (.ldc2_w 94, 3) := by decide +kernel
theorem dX1_turnOf_32 : decode cX1_turnOf 32 = .ok (.lmul, 1) := by decide +kernel
theorem dX1_turnOf_33 : decode cX1_turnOf 33 = .ok (.aload_n 3, 1) := by decide +kernel
theorem dX1_turnOf_34 : decode cX1_turnOf 34 = .ok (.getfield 96, 3) := by decide +kernel
theorem dX1_turnOf_37 : decode cX1_turnOf 37 = .ok (.i2l, 1) := by decide +kernel
theorem dX1_turnOf_38 : decode cX1_turnOf 38 = .ok (.ladd, 1) := by decide +kernel
theorem dX1_turnOf_39 : decode cX1_turnOf 39 = .ok (.lstore 4, 2) := by decide +kernel
theorem dX1_turnOf_41 : decode cX1_turnOf 41 = .ok (.lload 4, 2) := by decide +kernel
theorem dX1_turnOf_43 : decode cX1_turnOf 43 = .ok (.ldc2_w 99, 3) := by decide +kernel
theorem dX1_turnOf_46 : decode cX1_turnOf 46 = .ok (.lmul, 1) := by decide +kernel
theorem dX1_turnOf_47 : decode cX1_turnOf 47 = .ok (.aload_n 2, 1) := by decide +kernel
theorem dX1_turnOf_48 : decode cX1_turnOf 48 = .ok (.getfield 101, 3) := by decide +kernel
theorem dX1_turnOf_51 : decode cX1_turnOf 51 = .ok (.i2l, 1) := by decide +kernel
theorem dX1_turnOf_52 : decode cX1_turnOf 52 = .ok (.ladd, 1) := by decide +kernel
theorem dX1_turnOf_53 : decode cX1_turnOf 53 = .ok (.lstore 4, 2) := by decide +kernel
theorem dX1_turnOf_55 : decode cX1_turnOf 55 = .ok (.lload 4, 2) := by decide +kernel
theorem dX1_turnOf_57 : decode cX1_turnOf 57 = .ok (.ldc2_w 104, 3) := by decide +kernel
theorem dX1_turnOf_60 : decode cX1_turnOf 60 = .ok (.lmul, 1) := by decide +kernel
theorem dX1_turnOf_61 : decode cX1_turnOf 61 = .ok (.aload_n 2, 1) := by decide +kernel
theorem dX1_turnOf_62 : decode cX1_turnOf 62 = .ok (.getfield 106, 3) := by decide +kernel
theorem dX1_turnOf_65 : decode cX1_turnOf 65 = .ok (.i2l, 1) := by decide +kernel
theorem dX1_turnOf_66 : decode cX1_turnOf 66 = .ok (.ladd, 1) := by decide +kernel
theorem dX1_turnOf_67 : decode cX1_turnOf 67 = .ok (.lstore 4, 2) := by decide +kernel
theorem dX1_turnOf_69 : decode cX1_turnOf 69 = .ok (.lload 4, 2) := by decide +kernel
theorem dX1_turnOf_71 : decode cX1_turnOf 71 = .ok (.ldc2_w 109, 3) := by decide +kernel
theorem dX1_turnOf_74 : decode cX1_turnOf 74 = .ok (.lmul, 1) := by decide +kernel
theorem dX1_turnOf_75 : decode cX1_turnOf 75 = .ok (.aload_n 2, 1) := by decide +kernel
theorem dX1_turnOf_76 : decode cX1_turnOf 76 = .ok (.getfield 111, 3) := by decide +kernel
theorem dX1_turnOf_79 : decode cX1_turnOf 79 = .ok (.i2l, 1) := by decide +kernel
theorem dX1_turnOf_80 : decode cX1_turnOf 80 = .ok (.ladd, 1) := by decide +kernel
theorem dX1_turnOf_81 : decode cX1_turnOf 81 = .ok (.lstore 4, 2) := by decide +kernel
theorem dX1_turnOf_83 : decode cX1_turnOf 83 = .ok (.lload 4, 2) := by decide +kernel
theorem dX1_turnOf_85 : decode cX1_turnOf 85 = .ok (.ldc2_w 99, 3) := by decide +kernel
theorem dX1_turnOf_88 : decode cX1_turnOf 88 = .ok (.lmul, 1) := by decide +kernel
theorem dX1_turnOf_89 : decode cX1_turnOf 89 = .ok (.iload_n 1, 1) := by decide +kernel
theorem dX1_turnOf_90 : decode cX1_turnOf 90 = .ok (.i2l, 1) := by decide +kernel
theorem dX1_turnOf_91 : decode cX1_turnOf 91 = .ok (.ladd, 1) := by decide +kernel
theorem dX1_turnOf_92 : decode cX1_turnOf 92 = .ok (.lreturn, 1) := by decide +kernel
set_option maxHeartbeats 4000000 in
set_option maxRecDepth 100000 in
theorem sX1_turnOf (l : Launch) (dC : Nat → ClassId) (dI : Nat → Nat → Nat) (am : Nat) (pl : Nat) (re : Nat) (amonths : Int32) (afull : Int32) (alean : Int32) (alines : Int32) (ahasMoon : Int32) (amoonStart : Int32) (amoonStep : Int32) (aplaceCount : Int32) (areportCount : Int32) (adeedCount : Int32) (de : Nat) (kpl : ClassId) (kre : ClassId) (pa : Nat → Nat) (p_name : Nat → Int32) (p_trust : Nat → Int32) (ra : Nat → Nat) (r_place : Nat → Int32) (r_kind : Nat → Int32) (r_month : Nat → Int32) (r_day : Nat → Int32) (r_known : Nat → Int32) (r_struck : Nat → Int32) (p1 : Int32) (gamonths : gi amonths 0 24) (gafull : gi afull 0 5) (galean : gi alean 0 5) (gahasMoon : gi ahasMoon 0 1) (gaplaceCount : gi aplaceCount 0 6) (gareportCount : gi areportCount 0 24) (gadeedCount : gi adeedCount 0 8) (gr_place : ga r_place 24 0 5) (gr_month : ga r_month 24 0 23) (gr_struck : ga r_struck 24 0 1) (gp1 : gi p1 0 23) : Met l yX1_turnOf (.code yX1_turnOf cX1_turnOf 6 (some .long) :: wsGA) ({ frames := 0, cells := 0, slots := 0, locals := 0 }) (va_Pc [.ref am, .int p1] (fun U => va_P (dC, dI) vwCl [(am, .inr (0, [.int amonths, .int afull, .int alean, .int alines, .int ahasMoon, .int amoonStart, .int amoonStep, .int aplaceCount, .int areportCount, .int adeedCount, .ref pl, .ref re, .ref de])), (pl, .inl (kpl, 6, .inr (.inr (.inr (.inr (fun i => some (pa i))))))), (re, .inl (kre, 24, .inr (.inr (.inr (.inr (fun i => some (ra i)))))))] U.heap ∧ va_K (dC, dI) vwCl [(kpl, .object RX5), (kre, .object RX7)] U ∧ nzA U ∧ va_P (dC, dI) vwCl (gz_fam 6 pa 5 (fun i => [.int (p_name i), .int (p_trust i)])) U.heap ∧ va_P (dC, dI) vwCl (gz_fam 24 ra 7 (fun i => [.int (r_place i), .int (r_kind i), .int (r_month i), .int (r_day i), .int (r_known i), .int (r_struck i)])) U.heap)) (va_Ql (fun (r : Int64) (u : Unit) => True) (fun _ _ => True) (fun _ => False)) 0 0 (fun _ => False) := by
  refine Met.ofW (cc := cX1_turnOf) (maxL := 6) (ret := (some .long)) (by decide) rfl ?_
  intro p e s m args below meth c s₁ B hml hv
  obtain ⟨rfl, hP, hK, hz, hF0, hF1⟩ := hv
  have hx := B.exec
  have hb := B.bytes
  have hr := B.returns
  have hts := atoms_spec (ws := (.code yX1_turnOf cX1_turnOf 6 (some .long) :: wsGA)) B.pre
  have hown : s.vm.findClass RX1 = some m.cls := findClass_of_methodNamed B.named
  have hlocks := B.notSynchronized
  have hS : va_S (fun _ => False) s.heap s.heap [] := va_S.rf
  have hFA0 : gz_ap (fun _ => False) (gz_fam 6 pa 5 (fun i => [.int (p_name i), .int (p_trust i)])) := gz_ap0
  have hFA1 : gz_ap (fun _ => False) (gz_fam 24 ra 7 (fun i => [.int (r_place i), .int (r_kind i), .int (r_month i), .int (r_day i), .int (r_known i), .int (r_struck i)])) := gz_ap0
  have hl := lv_entry ([.ref am, .int p1]) (n := 6) (Nat.le_of_ble_eq_true rfl)
  rw [lg_entry_eq]
  generalize (lg_sl ([.ref am, .int p1]) ++ List.replicate (6 - (lg_sl ([.ref am, .int p1])).length) Slot.unset).toArray = ls at hl ⊢
  have hl : lv_has ls 6 [(0, .ref am), (1, .int p1)] := hl
  refine lv_aload_n hx hb dX1_turnOf_0 rfl (lv_at hl 0 rfl) ?_
  refine va_get (D := (dC, dI)) (ci := 0) (v := .ref re) (C := RX0) (T := TX0) (N := 13) hx hb hts (fun w h => List.mem_cons_of_mem _ (jnGA_X0 w h)) hown hK hP 0 rfl rfl 11 (by decide) (hts _ (List.mem_cons_of_mem _ mGA_447)) (fun _ h9 => h9) rfl dX1_turnOf_1 ?_
  refine lv_iload_n hx hb dX1_turnOf_4 rfl (lv_at hl 1 rfl) ?_
  refine va_aldq hx hb hK hP 2 1 rfl rfl (gi_in gp1 (by decide)) dX1_turnOf_5 ?_
  refine W.eq (g2 := F0 m 6 ls [.ref (ra p1.toNatClampNeg)]) rfl ?_
  refine lv_astore_n (lv' := [(2, .ref (ra p1.toNatClampNeg)), (0, .ref am), (1, .int p1)]) hx hb dX1_turnOf_6 rfl hl (by decide) rfl (fun ls hl => ?_)
  refine lv_aload_n hx hb dX1_turnOf_7 rfl (lv_at hl 1 rfl) ?_
  refine va_get (D := (dC, dI)) (ci := 0) (v := .ref pl) (C := RX0) (T := TX0) (N := 13) hx hb hts (fun w h => List.mem_cons_of_mem _ (jnGA_X0 w h)) hown hK hP 0 rfl rfl 10 (by decide) (hts _ (List.mem_cons_of_mem _ mGA_457)) (fun _ h9 => h9) rfl dX1_turnOf_8 ?_
  refine lv_aload_n hx hb dX1_turnOf_11 rfl (lv_at hl 0 rfl) ?_
  refine va_get (D := (dC, dI)) (ci := 7) (v := .int (r_place p1.toNatClampNeg)) (C := RX7) (T := TX7) (N := 6) hx hb hts (fun w h => List.mem_cons_of_mem _ (jnGA_X7 w h)) hown hK (gz_ro hF1 hFA1 hS) (p1.toNatClampNeg) (gz_fam_at (gz_clt (gi_in (n := 24) gp1 (by decide)))) rfl 0 (by decide) (hts _ (List.mem_cons_of_mem _ mGA_458)) (fun _ h9 => h9) rfl dX1_turnOf_12 ?_
  refine lv_topi (fun x_24 ex_24 => ?_)
  have gx_24 : gi x_24 0 5 := ga_at gr_place (gi_in (n := 24) gp1 (by decide)) ex_24
  refine va_aldq hx hb hK hP 1 0 rfl rfl (gi_in gx_24 (by decide)) dX1_turnOf_15 ?_
  refine W.eq (g2 := F0 m 16 ls [.ref (pa x_24.toNatClampNeg)]) rfl ?_
  refine lv_astore_n (lv' := [(3, .ref (pa x_24.toNatClampNeg)), (2, .ref (ra p1.toNatClampNeg)), (0, .ref am), (1, .int p1)]) hx hb dX1_turnOf_16 rfl hl (by decide) rfl (fun ls hl => ?_)
  refine lv_bipush (v := 9) hx hb dX1_turnOf_17 (by decide) ?_
  refine lv_aload_n hx hb dX1_turnOf_19 rfl (lv_at hl 0 rfl) ?_
  refine va_get (D := (dC, dI)) (ci := 5) (v := .int (p_trust x_24.toNatClampNeg)) (C := RX5) (T := TX5) (N := 2) hx hb hts (fun w h => List.mem_cons_of_mem _ (jnGA_X5 w h)) hown hK (gz_ro hF0 hFA0 hS) (x_24.toNatClampNeg) (gz_fam_at (gz_clt (gi_in (n := 6) gx_24 (by decide)))) rfl 1 (by decide) (hts _ (List.mem_cons_of_mem _ mGA_459)) (fun _ h9 => h9) rfl dX1_turnOf_20 ?_
  refine lv_topi (fun x_25 ex_25 => ?_)
  refine lv_isub hx hb dX1_turnOf_23 ?_
  refine lv_topi (fun x_26 ex_26 => ?_)
  refine lv_i2l (v := (x_26).toInt64) hx hb dX1_turnOf_24 rfl ?_
  refine lv_topl (fun l_27 el_27 => ?_)
  refine lv_lstore (lv' := [(4, .long l_27), (3, .ref (pa x_24.toNatClampNeg)), (2, .ref (ra p1.toNatClampNeg)), (0, .ref am), (1, .int p1)]) hx hb dX1_turnOf_25 hl (by decide) rfl (fun ls hl => ?_)
  refine lv_lload hx hb dX1_turnOf_27 (lv_at hl 0 rfl) ?_
  refine lv_ldc2 (own := RX1) (v := 387420489) hx hb hown (hts _ (List.mem_cons_of_mem _ mGA_460)) dX1_turnOf_29 ?_
  refine lv_lmul hx hb dX1_turnOf_32 ?_
  refine lv_topl (fun l_28 el_28 => ?_)
  refine lv_aload_n hx hb dX1_turnOf_33 rfl (lv_at hl 1 rfl) ?_
  refine va_get (D := (dC, dI)) (ci := 5) (v := .int (p_name x_24.toNatClampNeg)) (C := RX5) (T := TX5) (N := 2) hx hb hts (fun w h => List.mem_cons_of_mem _ (jnGA_X5 w h)) hown hK (gz_ro hF0 hFA0 hS) (x_24.toNatClampNeg) (gz_fam_at (gz_clt (gi_in (n := 6) gx_24 (by decide)))) rfl 0 (by decide) (hts _ (List.mem_cons_of_mem _ mGA_461)) (fun _ h9 => h9) rfl dX1_turnOf_34 ?_
  refine lv_topi (fun x_29 ex_29 => ?_)
  refine lv_i2l (v := (x_29).toInt64) hx hb dX1_turnOf_37 rfl ?_
  refine lv_topl (fun l_30 el_30 => ?_)
  refine lv_ladd hx hb dX1_turnOf_38 ?_
  refine lv_topl (fun l_31 el_31 => ?_)
  refine lv_lstore (lv' := [(4, .long l_31), (3, .ref (pa x_24.toNatClampNeg)), (2, .ref (ra p1.toNatClampNeg)), (0, .ref am), (1, .int p1)]) hx hb dX1_turnOf_39 hl (by decide) rfl (fun ls hl => ?_)
  refine lv_lload hx hb dX1_turnOf_41 (lv_at hl 0 rfl) ?_
  refine lv_ldc2 (own := RX1) (v := 24) hx hb hown (hts _ (List.mem_cons_of_mem _ mGA_462)) dX1_turnOf_43 ?_
  refine lv_lmul hx hb dX1_turnOf_46 ?_
  refine lv_topl (fun l_32 el_32 => ?_)
  refine lv_aload_n hx hb dX1_turnOf_47 rfl (lv_at hl 2 rfl) ?_
  refine va_get (D := (dC, dI)) (ci := 7) (v := .int (r_month p1.toNatClampNeg)) (C := RX7) (T := TX7) (N := 6) hx hb hts (fun w h => List.mem_cons_of_mem _ (jnGA_X7 w h)) hown hK (gz_ro hF1 hFA1 hS) (p1.toNatClampNeg) (gz_fam_at (gz_clt (gi_in (n := 24) gp1 (by decide)))) rfl 2 (by decide) (hts _ (List.mem_cons_of_mem _ mGA_463)) (fun _ h9 => h9) rfl dX1_turnOf_48 ?_
  refine lv_topi (fun x_33 ex_33 => ?_)
  have gx_33 : gi x_33 0 23 := ga_at gr_month (gi_in (n := 24) gp1 (by decide)) ex_33
  refine lv_i2l (v := (x_33).toInt64) hx hb dX1_turnOf_51 rfl ?_
  refine lv_topl (fun l_34 el_34 => ?_)
  refine lv_ladd hx hb dX1_turnOf_52 ?_
  refine lv_topl (fun l_35 el_35 => ?_)
  refine lv_lstore (lv' := [(4, .long l_35), (3, .ref (pa x_24.toNatClampNeg)), (2, .ref (ra p1.toNatClampNeg)), (0, .ref am), (1, .int p1)]) hx hb dX1_turnOf_53 hl (by decide) rfl (fun ls hl => ?_)
  refine lv_lload hx hb dX1_turnOf_55 (lv_at hl 0 rfl) ?_
  refine lv_ldc2 (own := RX1) (v := 1000) hx hb hown (hts _ (List.mem_cons_of_mem _ mGA_464)) dX1_turnOf_57 ?_
  refine lv_lmul hx hb dX1_turnOf_60 ?_
  refine lv_topl (fun l_36 el_36 => ?_)
  refine lv_aload_n hx hb dX1_turnOf_61 rfl (lv_at hl 2 rfl) ?_
  refine va_get (D := (dC, dI)) (ci := 7) (v := .int (r_day p1.toNatClampNeg)) (C := RX7) (T := TX7) (N := 6) hx hb hts (fun w h => List.mem_cons_of_mem _ (jnGA_X7 w h)) hown hK (gz_ro hF1 hFA1 hS) (p1.toNatClampNeg) (gz_fam_at (gz_clt (gi_in (n := 24) gp1 (by decide)))) rfl 3 (by decide) (hts _ (List.mem_cons_of_mem _ mGA_465)) (fun _ h9 => h9) rfl dX1_turnOf_62 ?_
  refine lv_topi (fun x_37 ex_37 => ?_)
  refine lv_i2l (v := (x_37).toInt64) hx hb dX1_turnOf_65 rfl ?_
  refine lv_topl (fun l_38 el_38 => ?_)
  refine lv_ladd hx hb dX1_turnOf_66 ?_
  refine lv_topl (fun l_39 el_39 => ?_)
  refine lv_lstore (lv' := [(4, .long l_39), (3, .ref (pa x_24.toNatClampNeg)), (2, .ref (ra p1.toNatClampNeg)), (0, .ref am), (1, .int p1)]) hx hb dX1_turnOf_67 hl (by decide) rfl (fun ls hl => ?_)
  refine lv_lload hx hb dX1_turnOf_69 (lv_at hl 0 rfl) ?_
  refine lv_ldc2 (own := RX1) (v := 3) hx hb hown (hts _ (List.mem_cons_of_mem _ mGA_466)) dX1_turnOf_71 ?_
  refine lv_lmul hx hb dX1_turnOf_74 ?_
  refine lv_topl (fun l_40 el_40 => ?_)
  refine lv_aload_n hx hb dX1_turnOf_75 rfl (lv_at hl 2 rfl) ?_
  refine va_get (D := (dC, dI)) (ci := 7) (v := .int (r_kind p1.toNatClampNeg)) (C := RX7) (T := TX7) (N := 6) hx hb hts (fun w h => List.mem_cons_of_mem _ (jnGA_X7 w h)) hown hK (gz_ro hF1 hFA1 hS) (p1.toNatClampNeg) (gz_fam_at (gz_clt (gi_in (n := 24) gp1 (by decide)))) rfl 1 (by decide) (hts _ (List.mem_cons_of_mem _ mGA_467)) (fun _ h9 => h9) rfl dX1_turnOf_76 ?_
  refine lv_topi (fun x_41 ex_41 => ?_)
  refine lv_i2l (v := (x_41).toInt64) hx hb dX1_turnOf_79 rfl ?_
  refine lv_topl (fun l_42 el_42 => ?_)
  refine lv_ladd hx hb dX1_turnOf_80 ?_
  refine lv_topl (fun l_43 el_43 => ?_)
  refine lv_lstore (lv' := [(4, .long l_43), (3, .ref (pa x_24.toNatClampNeg)), (2, .ref (ra p1.toNatClampNeg)), (0, .ref am), (1, .int p1)]) hx hb dX1_turnOf_81 hl (by decide) rfl (fun ls hl => ?_)
  refine lv_lload hx hb dX1_turnOf_83 (lv_at hl 0 rfl) ?_
  refine lv_ldc2 (own := RX1) (v := 24) hx hb hown (hts _ (List.mem_cons_of_mem _ mGA_462)) dX1_turnOf_85 ?_
  refine lv_lmul hx hb dX1_turnOf_88 ?_
  refine lv_topl (fun l_44 el_44 => ?_)
  refine lv_iload_n hx hb dX1_turnOf_89 rfl (lv_at hl 4 rfl) ?_
  refine lv_i2l (v := (p1).toInt64) hx hb dX1_turnOf_90 rfl ?_
  refine lv_topl (fun l_45 el_45 => ?_)
  refine lv_ladd hx hb dX1_turnOf_91 ?_
  refine lv_topl (fun l_46 el_46 => ?_)
  exact W.lret (v := l_46) hx hb hr (fun t ht hW => ⟨⟨l_46, (), rfl, trivial, trivial⟩, hS.F ht⟩) hS.2.2 dX1_turnOf_92
theorem dX1_insert_0 : decode cX1_insert 0 = .ok (.aload_n 0, 1) := by decide +kernel
theorem dX1_insert_1 : decode cX1_insert 1 = .ok (.getfield 32, 3) := by decide +kernel
theorem dX1_insert_4 : decode cX1_insert 4 = .ok (.istore 4, 2) := by decide +kernel
theorem dX1_insert_6 : decode cX1_insert 6 = .ok (.iload 4, 2) := by decide +kernel
theorem dX1_insert_8 : decode cX1_insert 8 = .ok (.ifCond .le 55, 3) := by decide +kernel
theorem dX1_insert_11 : decode cX1_insert 11 = .ok (.aload_n 0, 1) := by decide +kernel
theorem dX1_insert_12 : decode cX1_insert 12 = .ok (.getfield 25, 3) := by decide +kernel
theorem dX1_insert_15 : decode cX1_insert 15 = .ok (.iload 4, 2) := by decide +kernel
theorem dX1_insert_17 : decode cX1_insert 17 = .ok (.iconst 1, 1) := by decide +kernel
theorem dX1_insert_18 : decode cX1_insert 18 = .ok (.isub, 1) := by decide +kernel
theorem dX1_insert_19 : decode cX1_insert 19 = .ok (.laload, 1) := by decide +kernel
theorem dX1_insert_20 : decode cX1_insert 20 = .ok (.lload_n 2, 1) := by decide +kernel
theorem dX1_insert_21 : decode cX1_insert 21 = .ok (.lcmp, 1) := by decide +kernel
theorem dX1_insert_22 : decode cX1_insert 22 = .ok (.ifCond .le 41, 3) := by decide +kernel
theorem dX1_insert_25 : decode cX1_insert 25 = .ok (.aload_n 0, 1) := by decide +kernel
theorem dX1_insert_26 : decode cX1_insert 26 = .ok (.getfield 25, 3) := by decide +kernel
theorem dX1_insert_29 : decode cX1_insert 29 = .ok (.iload 4, 2) := by decide +kernel
theorem dX1_insert_31 : decode cX1_insert 31 = .ok (.aload_n 0, 1) := by decide +kernel
theorem dX1_insert_32 : decode cX1_insert 32 = .ok (.getfield 25, 3) := by decide +kernel
theorem dX1_insert_35 : decode cX1_insert 35 = .ok (.iload 4, 2) := by decide +kernel
theorem dX1_insert_37 : decode cX1_insert 37 = .ok (.iconst 1, 1) := by decide +kernel
theorem dX1_insert_38 : decode cX1_insert 38 = .ok (.isub, 1) := by decide +kernel
theorem dX1_insert_39 : decode cX1_insert 39 = .ok (.laload, 1) := by decide +kernel
theorem dX1_insert_40 : decode cX1_insert 40 = .ok (.lastore, 1) := by decide +kernel
theorem dX1_insert_41 : decode cX1_insert 41 = .ok (.aload_n 0, 1) := by decide +kernel
theorem dX1_insert_42 : decode cX1_insert 42 = .ok (.getfield 22, 3) := by decide +kernel
theorem dX1_insert_45 : decode cX1_insert 45 = .ok (.iload 4, 2) := by decide +kernel
theorem dX1_insert_47 : decode cX1_insert 47 = .ok (.aload_n 0, 1) := by decide +kernel
theorem dX1_insert_48 : decode cX1_insert 48 = .ok (.getfield 22, 3) := by decide +kernel
theorem dX1_insert_51 : decode cX1_insert 51 = .ok (.iload 4, 2) := by decide +kernel
theorem dX1_insert_53 : decode cX1_insert 53 = .ok (.iconst 1, 1) := by decide +kernel
theorem dX1_insert_54 : decode cX1_insert 54 = .ok (.isub, 1) := by decide +kernel
theorem dX1_insert_55 : decode cX1_insert 55 = .ok (.iaload, 1) := by decide +kernel
theorem dX1_insert_56 : decode cX1_insert 56 = .ok (.iastore, 1) := by decide +kernel
theorem dX1_insert_57 : decode cX1_insert 57 = .ok (.iinc 4 (-1), 3) := by decide +kernel
theorem dX1_insert_60 : decode cX1_insert 60 = .ok (.goto (-54), 3) := by decide +kernel
theorem dX1_insert_63 : decode cX1_insert 63 = .ok (.aload_n 0, 1) := by decide +kernel
theorem dX1_insert_64 : decode cX1_insert 64 = .ok (.getfield 25, 3) := by decide +kernel
theorem dX1_insert_67 : decode cX1_insert 67 = .ok (.iload 4, 2) := by decide +kernel
theorem dX1_insert_69 : decode cX1_insert 69 = .ok (.lload_n 2, 1) := by decide +kernel
theorem dX1_insert_70 : decode cX1_insert 70 = .ok (.lastore, 1) := by decide +kernel
theorem dX1_insert_71 : decode cX1_insert 71 = .ok (.aload_n 0, 1) := by decide +kernel
theorem dX1_insert_72 : decode cX1_insert 72 = .ok (.getfield 22, 3) := by decide +kernel
theorem dX1_insert_75 : decode cX1_insert 75 = .ok (.iload 4, 2) := by decide +kernel
theorem dX1_insert_77 : decode cX1_insert 77 = .ok (.iload_n 1, 1) := by decide +kernel
theorem dX1_insert_78 : decode cX1_insert 78 = .ok (.iastore, 1) := by decide +kernel
theorem dX1_insert_79 : decode cX1_insert 79 = .ok (.aload_n 0, 1) := by decide +kernel
theorem dX1_insert_80 : decode cX1_insert 80 = .ok (.dup, 1) := by decide +kernel
theorem dX1_insert_81 : decode cX1_insert 81 = .ok (.getfield 32, 3) := by decide +kernel
theorem dX1_insert_84 : decode cX1_insert 84 = .ok (.iconst 1, 1) := by decide +kernel
theorem dX1_insert_85 : decode cX1_insert 85 = .ok (.iadd, 1) := by decide +kernel
theorem dX1_insert_86 : decode cX1_insert 86 = .ok (.putfield 32, 3) := by decide +kernel
theorem dX1_insert_89 : decode cX1_insert 89 = .ok (.return_, 1) := by decide +kernel
set_option maxHeartbeats 4000000 in
set_option maxRecDepth 100000 in
theorem lp_sX1_insert {p : Program} {l : Launch} {e : Env} {R : Room} {s : State} {m : MethodId} {args : Array Value} {below : List Frame} {meth : Method} {c : Code} {Q : State → Prop} {A : Nat → Prop} {cells slots : Nat} {dC : Nat → ClassId} {dI : Nat → Nat → Nat} (h0 : Nat) (qu : Nat) (tu : Nat) (fr : Nat) (ve : Nat) (cb : Nat) (queueLength : Int32) (takenBits : Int32) (kqu : ClassId) (fqu : Nat → Int32) (ktu : ClassId) (ftu : Nat → Int64) (p1 : Int32) (p2 : Int64) (gqueueLength : gi queueLength 0 23) (gfqu : ga fqu 24 0 23) (gp1 : gi p1 0 23) (hx : p.tables.exec = Jvm.exec) (hb : c.code = cX1_insert) (hml : c.maxLocals = 5) (hown : s.vm.findClass RX1 = some m.cls) (hts : ∀ w ∈ ((.code yX1_insert cX1_insert 5 none :: wsGA) : List Cond), w.before args s = true) (hK : va_K (dC, dI) vwCl [(kqu, .int), (ktu, .long)] s) (hz : nzA s) (hA : ∀ q : Nat, s.heap.size ≤ q → A q) (hRf : 0 ≤ R.frames) (hRl : 0 ≤ R.locals) (hRc : cells ≤ R.cells) (hRs : slots ≤ R.slots) (kr89 : ∀ (w0_5 : Int32) (z1 : Nat → Int32) (z2 : Nat → Int64) (H : Heap) (locs : List Loc) (ls : Array Slot), gi w0_5 0 24 → ga z1 24 0 23 → w0_5.toInt = queueLength.toInt + 1 → va_P (dC, dI) vwCl [(h0, .inr (1, [.ref fr, .ref ve, .ref qu, .ref tu, .ref cb, .int w0_5, .int takenBits])), (qu, .inl (kqu, 24, .inl z1)), (tu, .inl (ktu, 24, .inr (.inl z2)))] H → va_D A [(h0, .inr (1, [.ref fr, .ref ve, .ref qu, .ref tu, .ref cb, .int w0_5, .int takenBits])), (qu, .inl (kqu, 24, .inl z1)), (tu, .inl (ktu, 24, .inr (.inl z2)))] → va_S A s.heap H locs → lv_has ls 5 [] → W p l e R s m args below meth c H locs cells slots Q (F0 m 89 ls [])) : ∀ z : Nat, (∀ (v4 : Int32) (z1 : Nat → Int32) (z2 : Nat → Int64) (H : Heap) (locs : List Loc) (ls : Array Slot), gi v4 0 23 → ga z1 24 0 23 → 1 + 2 * v4.toInt < (z : Int) → va_P (dC, dI) vwCl [(h0, .inr (1, [.ref fr, .ref ve, .ref qu, .ref tu, .ref cb, .int queueLength, .int takenBits])), (qu, .inl (kqu, 24, .inl z1)), (tu, .inl (ktu, 24, .inr (.inl z2)))] H → va_D A [(h0, .inr (1, [.ref fr, .ref ve, .ref qu, .ref tu, .ref cb, .int queueLength, .int takenBits])), (qu, .inl (kqu, 24, .inl z1)), (tu, .inl (ktu, 24, .inr (.inl z2)))] → va_S A s.heap H locs → lv_has ls 5 [(0, .ref h0), (1, .int p1), (2, .long p2), (4, .int v4)] → W p l e R s m args below meth c H locs cells slots Q (F0 m 6 ls [])) := by
  intro z
  induction z with
  | zero =>
    intro v4 z1 z2 H locs ls gv4 gz1 hmu hP hD hS hl
    exact absurd hmu (by have hv41 := gv4.1; have hv42 := gv4.2; omega)
  | succ z ih =>
      intro v4 z1 z2 H locs ls gv4 gz1 hmu hP hD hS hl
      refine lv_iload hx hb dX1_insert_6 (lv_at hl 3 rfl) ?_
      refine lv_if_le (tgt := 63) hx hb dX1_insert_8 (by decide) (fun c_45 => ?_) (fun c_45 => ?_)
      · have g_46 : gi v4 0 0 := gi_le_l c_45 gv4 (gi_c 0 0 (by decide))
        refine lv_aload_n hx hb dX1_insert_63 rfl (lv_at hl 0 rfl) ?_
        refine va_get (D := (dC, dI)) (ci := 1) (v := .ref tu) (C := RX1) (T := TX1) (N := 7) hx hb hts (fun w h => List.mem_cons_of_mem _ (jnGA_X1 w h)) hown hK hP 0 rfl rfl 3 (by decide) (hts _ (List.mem_cons_of_mem _ mGA_104)) (fun _ h9 => h9) rfl dX1_insert_64 ?_
        refine lv_iload hx hb dX1_insert_67 (lv_at hl 3 rfl) ?_
        refine lv_lload_n hx hb dX1_insert_69 rfl (lv_at hl 2 rfl) ?_
        refine va_last hx hb hK hP hD hS 2 1 rfl rfl (gi_in g_46 (by decide)) dX1_insert_70 (fun H locs hP hD hS => ?_)
        have hP : va_P (dC, dI) vwCl [(h0, .inr (1, [.ref fr, .ref ve, .ref qu, .ref tu, .ref cb, .int queueLength, .int takenBits])), (qu, .inl (kqu, 24, .inl z1)), (tu, .inl (ktu, 24, .inr (.inl (vp_updL z2 (v4 : Int32).toNatClampNeg p2))))] H := hP
        have hD : va_D A [(h0, .inr (1, [.ref fr, .ref ve, .ref qu, .ref tu, .ref cb, .int queueLength, .int takenBits])), (qu, .inl (kqu, 24, .inl z1)), (tu, .inl (ktu, 24, .inr (.inl (vp_updL z2 (v4 : Int32).toNatClampNeg p2))))] := hD
        generalize vp_updL z2 (v4 : Int32).toNatClampNeg p2 = f_47 at hP hD
        refine lv_aload_n hx hb dX1_insert_71 rfl (lv_at hl 0 rfl) ?_
        refine va_get (D := (dC, dI)) (ci := 1) (v := .ref qu) (C := RX1) (T := TX1) (N := 7) hx hb hts (fun w h => List.mem_cons_of_mem _ (jnGA_X1 w h)) hown hK hP 0 rfl rfl 2 (by decide) (hts _ (List.mem_cons_of_mem _ mGA_102)) (fun _ h9 => h9) rfl dX1_insert_72 ?_
        refine lv_iload hx hb dX1_insert_75 (lv_at hl 3 rfl) ?_
        refine lv_iload_n hx hb dX1_insert_77 rfl (lv_at hl 1 rfl) ?_
        refine va_iast hx hb hK hP hD hS 1 0 rfl rfl (gi_in g_46 (by decide)) dX1_insert_78 (fun H locs hP hD hS => ?_)
        have hP : va_P (dC, dI) vwCl [(h0, .inr (1, [.ref fr, .ref ve, .ref qu, .ref tu, .ref cb, .int queueLength, .int takenBits])), (qu, .inl (kqu, 24, .inl (upd z1 (v4 : Int32).toNatClampNeg p1))), (tu, .inl (ktu, 24, .inr (.inl f_47)))] H := hP
        have hD : va_D A [(h0, .inr (1, [.ref fr, .ref ve, .ref qu, .ref tu, .ref cb, .int queueLength, .int takenBits])), (qu, .inl (kqu, 24, .inl (upd z1 (v4 : Int32).toNatClampNeg p1))), (tu, .inl (ktu, 24, .inr (.inl f_47)))] := hD
        have gf_48 : ga (upd z1 (v4 : Int32).toNatClampNeg p1) 24 0 23 := ga_upd gz1 gp1
        generalize upd z1 (v4 : Int32).toNatClampNeg p1 = f_48 at hP hD gf_48
        refine lv_aload_n hx hb dX1_insert_79 rfl (lv_at hl 0 rfl) ?_
        refine lv_dup hx hb dX1_insert_80 rfl ?_
        refine va_get (D := (dC, dI)) (ci := 1) (v := .int queueLength) (C := RX1) (T := TX1) (N := 7) hx hb hts (fun w h => List.mem_cons_of_mem _ (jnGA_X1 w h)) hown hK hP 0 rfl rfl 5 (by decide) (hts _ (List.mem_cons_of_mem _ mGA_106)) (fun _ h9 => h9) rfl dX1_insert_81 ?_
        refine lv_iconst (v := 1) hx hb dX1_insert_84 (by decide) ?_
        refine lv_iadd hx hb dX1_insert_85 ?_
        refine lv_topi (fun x_49 ex_49 => ?_)
        have gx_49 : gi x_49 1 24 := gi_add ex_49 gqueueLength (gi_c 1 1 (by decide)) (by decide)
        refine va_put (D := (dC, dI)) (ci := 1) (v := .int x_49) (ty := .int) (C := RX1) (T := TX1) (N := 7) hx hb hts (fun w h => List.mem_cons_of_mem _ (jnGA_X1 w h)) tyX1 tyX1_ok nmX1 hown hK hP hD hS 0 rfl rfl 5 (by decide) (hts _ (List.mem_cons_of_mem _ mGA_106)) (fun _ h9 => h9) rfl (by decide +kernel) rfl rfl (Nat.le_of_ble_eq_true rfl) dX1_insert_86 (fun H locs hP hD hS => ?_)
        have hP : va_P (dC, dI) vwCl [(h0, .inr (1, [.ref fr, .ref ve, .ref qu, .ref tu, .ref cb, .int x_49, .int takenBits])), (qu, .inl (kqu, 24, .inl f_48)), (tu, .inl (ktu, 24, .inr (.inl f_47)))] H := hP
        have hD : va_D A [(h0, .inr (1, [.ref fr, .ref ve, .ref qu, .ref tu, .ref cb, .int x_49, .int takenBits])), (qu, .inl (kqu, 24, .inl f_48)), (tu, .inl (ktu, 24, .inr (.inl f_47)))] := hD
        exact kr89 x_49 f_48 f_47 _ _ _ (gi_w gx_49 (by decide)) gf_48 (by have qgx_49 := gx_49.1; have rgx_49 := gx_49.2; have igx_49 : x_49.toInt = queueLength.toInt + 1 := (by have hc1 : (1 : Int32).toInt = 1 := (by decide); have h9 := gi_addI ex_49 (by have h1 := gqueueLength.1; have h2 := (gi_c 1 1 (by decide)).1; have h3 := gqueueLength.2; have h4 := (gi_c 1 1 (by decide)).2; omega) (by have h1 := gqueueLength.1; have h2 := (gi_c 1 1 (by decide)).1; have h3 := gqueueLength.2; have h4 := (gi_c 1 1 (by decide)).2; omega); rw [hc1] at h9; exact h9); have qgqueueLength := gqueueLength.1; have rgqueueLength := gqueueLength.2; omega) hP hD hS (lv_sub hl [] rfl)
      · have g_50 : gi v4 1 23 := gi_lt_r (Int32.not_le.mp c_45) (gi_c 0 0 (by decide)) gv4 (by decide)
        refine lv_aload_n hx hb dX1_insert_11 rfl (lv_at hl 0 rfl) ?_
        refine va_get (D := (dC, dI)) (ci := 1) (v := .ref tu) (C := RX1) (T := TX1) (N := 7) hx hb hts (fun w h => List.mem_cons_of_mem _ (jnGA_X1 w h)) hown hK hP 0 rfl rfl 3 (by decide) (hts _ (List.mem_cons_of_mem _ mGA_104)) (fun _ h9 => h9) rfl dX1_insert_12 ?_
        refine lv_iload hx hb dX1_insert_15 (lv_at hl 3 rfl) ?_
        refine lv_iconst (v := 1) hx hb dX1_insert_17 (by decide) ?_
        refine lv_isub hx hb dX1_insert_18 ?_
        refine lv_topi (fun x_51 ex_51 => ?_)
        have gx_51 : gi x_51 0 22 := gi_sub ex_51 g_50 (gi_c 1 1 (by decide)) (by decide)
        refine va_lald hx hb hK hP 2 1 rfl rfl (gi_in gx_51 (by decide)) dX1_insert_19 ?_
        refine lv_topl (fun l_52 el_52 => ?_)
        refine lv_lload_n hx hb dX1_insert_20 rfl (lv_at hl 2 rfl) ?_
        refine W.lcmp hx hb dX1_insert_21 ?_
        refine lv_topi (fun x_53 ex_53 => ?_)
        refine lv_if_le (tgt := 63) hx hb dX1_insert_22 (by decide) (fun c_54 => ?_) (fun c_54 => ?_)
        · have g_55 : gi x_53 (-2147483648) 0 := gi_le_l c_54 (gi_any x_53) (gi_c 0 0 (by decide))
          refine lv_aload_n hx hb dX1_insert_63 rfl (lv_at hl 0 rfl) ?_
          refine va_get (D := (dC, dI)) (ci := 1) (v := .ref tu) (C := RX1) (T := TX1) (N := 7) hx hb hts (fun w h => List.mem_cons_of_mem _ (jnGA_X1 w h)) hown hK hP 0 rfl rfl 3 (by decide) (hts _ (List.mem_cons_of_mem _ mGA_104)) (fun _ h9 => h9) rfl dX1_insert_64 ?_
          refine lv_iload hx hb dX1_insert_67 (lv_at hl 3 rfl) ?_
          refine lv_lload_n hx hb dX1_insert_69 rfl (lv_at hl 2 rfl) ?_
          refine va_last hx hb hK hP hD hS 2 1 rfl rfl (gi_in g_50 (by decide)) dX1_insert_70 (fun H locs hP hD hS => ?_)
          have hP : va_P (dC, dI) vwCl [(h0, .inr (1, [.ref fr, .ref ve, .ref qu, .ref tu, .ref cb, .int queueLength, .int takenBits])), (qu, .inl (kqu, 24, .inl z1)), (tu, .inl (ktu, 24, .inr (.inl (vp_updL z2 (v4 : Int32).toNatClampNeg p2))))] H := hP
          have hD : va_D A [(h0, .inr (1, [.ref fr, .ref ve, .ref qu, .ref tu, .ref cb, .int queueLength, .int takenBits])), (qu, .inl (kqu, 24, .inl z1)), (tu, .inl (ktu, 24, .inr (.inl (vp_updL z2 (v4 : Int32).toNatClampNeg p2))))] := hD
          generalize vp_updL z2 (v4 : Int32).toNatClampNeg p2 = f_56 at hP hD
          refine lv_aload_n hx hb dX1_insert_71 rfl (lv_at hl 0 rfl) ?_
          refine va_get (D := (dC, dI)) (ci := 1) (v := .ref qu) (C := RX1) (T := TX1) (N := 7) hx hb hts (fun w h => List.mem_cons_of_mem _ (jnGA_X1 w h)) hown hK hP 0 rfl rfl 2 (by decide) (hts _ (List.mem_cons_of_mem _ mGA_102)) (fun _ h9 => h9) rfl dX1_insert_72 ?_
          refine lv_iload hx hb dX1_insert_75 (lv_at hl 3 rfl) ?_
          refine lv_iload_n hx hb dX1_insert_77 rfl (lv_at hl 1 rfl) ?_
          refine va_iast hx hb hK hP hD hS 1 0 rfl rfl (gi_in g_50 (by decide)) dX1_insert_78 (fun H locs hP hD hS => ?_)
          have hP : va_P (dC, dI) vwCl [(h0, .inr (1, [.ref fr, .ref ve, .ref qu, .ref tu, .ref cb, .int queueLength, .int takenBits])), (qu, .inl (kqu, 24, .inl (upd z1 (v4 : Int32).toNatClampNeg p1))), (tu, .inl (ktu, 24, .inr (.inl f_56)))] H := hP
          have hD : va_D A [(h0, .inr (1, [.ref fr, .ref ve, .ref qu, .ref tu, .ref cb, .int queueLength, .int takenBits])), (qu, .inl (kqu, 24, .inl (upd z1 (v4 : Int32).toNatClampNeg p1))), (tu, .inl (ktu, 24, .inr (.inl f_56)))] := hD
          have gf_57 : ga (upd z1 (v4 : Int32).toNatClampNeg p1) 24 0 23 := ga_upd gz1 gp1
          generalize upd z1 (v4 : Int32).toNatClampNeg p1 = f_57 at hP hD gf_57
          refine lv_aload_n hx hb dX1_insert_79 rfl (lv_at hl 0 rfl) ?_
          refine lv_dup hx hb dX1_insert_80 rfl ?_
          refine va_get (D := (dC, dI)) (ci := 1) (v := .int queueLength) (C := RX1) (T := TX1) (N := 7) hx hb hts (fun w h => List.mem_cons_of_mem _ (jnGA_X1 w h)) hown hK hP 0 rfl rfl 5 (by decide) (hts _ (List.mem_cons_of_mem _ mGA_106)) (fun _ h9 => h9) rfl dX1_insert_81 ?_
          refine lv_iconst (v := 1) hx hb dX1_insert_84 (by decide) ?_
          refine lv_iadd hx hb dX1_insert_85 ?_
          refine lv_topi (fun x_58 ex_58 => ?_)
          have gx_58 : gi x_58 1 24 := gi_add ex_58 gqueueLength (gi_c 1 1 (by decide)) (by decide)
          refine va_put (D := (dC, dI)) (ci := 1) (v := .int x_58) (ty := .int) (C := RX1) (T := TX1) (N := 7) hx hb hts (fun w h => List.mem_cons_of_mem _ (jnGA_X1 w h)) tyX1 tyX1_ok nmX1 hown hK hP hD hS 0 rfl rfl 5 (by decide) (hts _ (List.mem_cons_of_mem _ mGA_106)) (fun _ h9 => h9) rfl (by decide +kernel) rfl rfl (Nat.le_of_ble_eq_true rfl) dX1_insert_86 (fun H locs hP hD hS => ?_)
          have hP : va_P (dC, dI) vwCl [(h0, .inr (1, [.ref fr, .ref ve, .ref qu, .ref tu, .ref cb, .int x_58, .int takenBits])), (qu, .inl (kqu, 24, .inl f_57)), (tu, .inl (ktu, 24, .inr (.inl f_56)))] H := hP
          have hD : va_D A [(h0, .inr (1, [.ref fr, .ref ve, .ref qu, .ref tu, .ref cb, .int x_58, .int takenBits])), (qu, .inl (kqu, 24, .inl f_57)), (tu, .inl (ktu, 24, .inr (.inl f_56)))] := hD
          exact kr89 x_58 f_57 f_56 _ _ _ (gi_w gx_58 (by decide)) gf_57 (by have qgx_58 := gx_58.1; have rgx_58 := gx_58.2; have igx_58 : x_58.toInt = queueLength.toInt + 1 := (by have hc1 : (1 : Int32).toInt = 1 := (by decide); have h9 := gi_addI ex_58 (by have h1 := gqueueLength.1; have h2 := (gi_c 1 1 (by decide)).1; have h3 := gqueueLength.2; have h4 := (gi_c 1 1 (by decide)).2; omega) (by have h1 := gqueueLength.1; have h2 := (gi_c 1 1 (by decide)).1; have h3 := gqueueLength.2; have h4 := (gi_c 1 1 (by decide)).2; omega); rw [hc1] at h9; exact h9); have qgqueueLength := gqueueLength.1; have rgqueueLength := gqueueLength.2; omega) hP hD hS (lv_sub hl [] rfl)
        · have g_59 : gi x_53 1 2147483647 := gi_lt_r (Int32.not_le.mp c_54) (gi_c 0 0 (by decide)) (gi_any x_53) (by decide)
          refine lv_aload_n hx hb dX1_insert_25 rfl (lv_at hl 0 rfl) ?_
          refine va_get (D := (dC, dI)) (ci := 1) (v := .ref tu) (C := RX1) (T := TX1) (N := 7) hx hb hts (fun w h => List.mem_cons_of_mem _ (jnGA_X1 w h)) hown hK hP 0 rfl rfl 3 (by decide) (hts _ (List.mem_cons_of_mem _ mGA_104)) (fun _ h9 => h9) rfl dX1_insert_26 ?_
          refine lv_iload hx hb dX1_insert_29 (lv_at hl 3 rfl) ?_
          refine lv_aload_n hx hb dX1_insert_31 rfl (lv_at hl 0 rfl) ?_
          refine va_get (D := (dC, dI)) (ci := 1) (v := .ref tu) (C := RX1) (T := TX1) (N := 7) hx hb hts (fun w h => List.mem_cons_of_mem _ (jnGA_X1 w h)) hown hK hP 0 rfl rfl 3 (by decide) (hts _ (List.mem_cons_of_mem _ mGA_104)) (fun _ h9 => h9) rfl dX1_insert_32 ?_
          refine lv_iload hx hb dX1_insert_35 (lv_at hl 3 rfl) ?_
          refine lv_iconst (v := 1) hx hb dX1_insert_37 (by decide) ?_
          refine lv_isub hx hb dX1_insert_38 ?_
          refine lv_topi (fun x_60 ex_60 => ?_)
          have gx_60 : gi x_60 0 22 := gi_sub ex_60 g_50 (gi_c 1 1 (by decide)) (by decide)
          refine va_lald hx hb hK hP 2 1 rfl rfl (gi_in gx_60 (by decide)) dX1_insert_39 ?_
          refine lv_topl (fun l_61 el_61 => ?_)
          refine va_last hx hb hK hP hD hS 2 1 rfl rfl (gi_in g_50 (by decide)) dX1_insert_40 (fun H locs hP hD hS => ?_)
          have hP : va_P (dC, dI) vwCl [(h0, .inr (1, [.ref fr, .ref ve, .ref qu, .ref tu, .ref cb, .int queueLength, .int takenBits])), (qu, .inl (kqu, 24, .inl z1)), (tu, .inl (ktu, 24, .inr (.inl (vp_updL z2 (v4 : Int32).toNatClampNeg l_61))))] H := hP
          have hD : va_D A [(h0, .inr (1, [.ref fr, .ref ve, .ref qu, .ref tu, .ref cb, .int queueLength, .int takenBits])), (qu, .inl (kqu, 24, .inl z1)), (tu, .inl (ktu, 24, .inr (.inl (vp_updL z2 (v4 : Int32).toNatClampNeg l_61))))] := hD
          generalize vp_updL z2 (v4 : Int32).toNatClampNeg l_61 = f_62 at hP hD
          refine lv_aload_n hx hb dX1_insert_41 rfl (lv_at hl 0 rfl) ?_
          refine va_get (D := (dC, dI)) (ci := 1) (v := .ref qu) (C := RX1) (T := TX1) (N := 7) hx hb hts (fun w h => List.mem_cons_of_mem _ (jnGA_X1 w h)) hown hK hP 0 rfl rfl 2 (by decide) (hts _ (List.mem_cons_of_mem _ mGA_102)) (fun _ h9 => h9) rfl dX1_insert_42 ?_
          refine lv_iload hx hb dX1_insert_45 (lv_at hl 3 rfl) ?_
          refine lv_aload_n hx hb dX1_insert_47 rfl (lv_at hl 0 rfl) ?_
          refine va_get (D := (dC, dI)) (ci := 1) (v := .ref qu) (C := RX1) (T := TX1) (N := 7) hx hb hts (fun w h => List.mem_cons_of_mem _ (jnGA_X1 w h)) hown hK hP 0 rfl rfl 2 (by decide) (hts _ (List.mem_cons_of_mem _ mGA_102)) (fun _ h9 => h9) rfl dX1_insert_48 ?_
          refine lv_iload hx hb dX1_insert_51 (lv_at hl 3 rfl) ?_
          refine lv_iconst (v := 1) hx hb dX1_insert_53 (by decide) ?_
          refine lv_isub hx hb dX1_insert_54 ?_
          refine lv_topi (fun x_63 ex_63 => ?_)
          have gx_63 : gi x_63 0 22 := gi_sub ex_63 g_50 (gi_c 1 1 (by decide)) (by decide)
          refine va_iald hx hb hK hP 1 0 rfl rfl (gi_in gx_63 (by decide)) dX1_insert_55 ?_
          refine lv_topi (fun x_64 ex_64 => ?_)
          have gx_64 : gi x_64 0 23 := ga_at gz1 (gi_in gx_63 (by decide)) ex_64
          refine va_iast hx hb hK hP hD hS 1 0 rfl rfl (gi_in g_50 (by decide)) dX1_insert_56 (fun H locs hP hD hS => ?_)
          have hP : va_P (dC, dI) vwCl [(h0, .inr (1, [.ref fr, .ref ve, .ref qu, .ref tu, .ref cb, .int queueLength, .int takenBits])), (qu, .inl (kqu, 24, .inl (upd z1 (v4 : Int32).toNatClampNeg x_64))), (tu, .inl (ktu, 24, .inr (.inl f_62)))] H := hP
          have hD : va_D A [(h0, .inr (1, [.ref fr, .ref ve, .ref qu, .ref tu, .ref cb, .int queueLength, .int takenBits])), (qu, .inl (kqu, 24, .inl (upd z1 (v4 : Int32).toNatClampNeg x_64))), (tu, .inl (ktu, 24, .inr (.inl f_62)))] := hD
          have gf_65 : ga (upd z1 (v4 : Int32).toNatClampNeg x_64) 24 0 23 := ga_upd gz1 gx_64
          generalize upd z1 (v4 : Int32).toNatClampNeg x_64 = f_65 at hP hD gf_65
          obtain ⟨x_66, ex_66⟩ : ∃ y : Int32, y = v4 + (-1) := ⟨_, rfl⟩
          have gx_66 : gi x_66 0 22 := gi_add ex_66 g_50 (gi_c (-1) (-1) (by decide)) (by decide)
          refine lv_iinc (v := x_66) (lv' := [(4, .int x_66), (0, .ref h0), (1, .int p1), (2, .long p2)]) hx hb dX1_insert_57 hl (k := 3) rfl (by rw [ex_66]; rfl) (by decide) rfl (fun ls hl => ?_)
          refine lv_goto (tgt := 6) hx hb dX1_insert_60 (by decide) ?_
          exact ih x_66 f_65 f_62 _ _ _ (gi_w gx_66 (by decide)) gf_65 (by have av4 := gv4.1; have bv4 := gv4.2; have qgx_66 := gx_66.1; have rgx_66 := gx_66.2; have igx_66 : x_66.toInt = v4.toInt + (-1) := (by have hcm1 : ((-1) : Int32).toInt = (-1) := (by decide); have h9 := gi_addI ex_66 (by have h1 := g_50.1; have h2 := (gi_c (-1) (-1) (by decide)).1; have h3 := g_50.2; have h4 := (gi_c (-1) (-1) (by decide)).2; omega) (by have h1 := g_50.1; have h2 := (gi_c (-1) (-1) (by decide)).1; have h3 := g_50.2; have h4 := (gi_c (-1) (-1) (by decide)).2; omega); rw [hcm1] at h9; exact h9); have qgv4 := g_50.1; have rgv4 := g_50.2; omega) hP hD hS (lv_sub hl [1, 2, 3, 0] rfl)
set_option maxHeartbeats 4000000 in
set_option maxRecDepth 100000 in
theorem sX1_insert (l : Launch) (dC : Nat → ClassId) (dI : Nat → Nat → Nat) (sz : Nat) (h0 : Nat) (qu : Nat) (tu : Nat) (fr : Nat) (ve : Nat) (cb : Nat) (queueLength : Int32) (takenBits : Int32) (kqu : ClassId) (fqu : Nat → Int32) (ktu : ClassId) (ftu : Nat → Int64) (p1 : Int32) (p2 : Int64) (gqueueLength : gi queueLength 0 23) (gfqu : ga fqu 24 0 23) (gp1 : gi p1 0 23) : Met l yX1_insert (.code yX1_insert cX1_insert 5 none :: wsGA) ({ frames := 0, cells := 0, slots := 0, locals := 0 }) (va_Pc [.ref h0, .int p1, .long p2] (fun U => U.heap.size = sz ∧ va_P (dC, dI) vwCl [(h0, .inr (1, [.ref fr, .ref ve, .ref qu, .ref tu, .ref cb, .int queueLength, .int takenBits])), (qu, .inl (kqu, 24, .inl fqu)), (tu, .inl (ktu, 24, .inr (.inl ftu)))] U.heap ∧ va_K (dC, dI) vwCl [(kqu, .int), (ktu, .long)] U ∧ va_D (fun _ => True) [(h0, .inr (1, [.ref fr, .ref ve, .ref qu, .ref tu, .ref cb, .int queueLength, .int takenBits])), (qu, .inl (kqu, 24, .inl fqu)), (tu, .inl (ktu, 24, .inr (.inl ftu)))] ∧ nzA U)) (va_Qv (fun (u : Unit) => True) (fun _ t => ∃ (w0_5 : Int32) (z1 : Nat → Int32) (z2 : Nat → Int64), gi w0_5 0 24 ∧ ga z1 24 0 23 ∧ w0_5.toInt = queueLength.toInt + 1 ∧ va_P (dC, dI) vwCl [(h0, .inr (1, [.ref fr, .ref ve, .ref qu, .ref tu, .ref cb, .int w0_5, .int takenBits])), (qu, .inl (kqu, 24, .inl z1)), (tu, .inl (ktu, 24, .inr (.inl z2)))] t.heap ∧ va_D (va_A [(h0, .inr (1, [.ref fr, .ref ve, .ref qu, .ref tu, .ref cb, .int queueLength, .int takenBits])), (qu, .inl (kqu, 24, .inl fqu)), (tu, .inl (ktu, 24, .inr (.inl ftu)))] sz) [(h0, .inr (1, [.ref fr, .ref ve, .ref qu, .ref tu, .ref cb, .int w0_5, .int takenBits])), (qu, .inl (kqu, 24, .inl z1)), (tu, .inl (ktu, 24, .inr (.inl z2)))]) (va_A [(h0, .inr (1, [.ref fr, .ref ve, .ref qu, .ref tu, .ref cb, .int queueLength, .int takenBits])), (qu, .inl (kqu, 24, .inl fqu)), (tu, .inl (ktu, 24, .inr (.inl ftu)))] sz)) 0 0 (va_A [(h0, .inr (1, [.ref fr, .ref ve, .ref qu, .ref tu, .ref cb, .int queueLength, .int takenBits])), (qu, .inl (kqu, 24, .inl fqu)), (tu, .inl (ktu, 24, .inr (.inl ftu)))] sz) := by
  refine Met.ofW (cc := cX1_insert) (maxL := 5) (ret := none) (by decide) rfl ?_
  intro p e s m args below meth c s₁ B hml hv
  obtain ⟨rfl, hsz, hP, hK, hD0, hz⟩ := hv
  have hx := B.exec
  have hb := B.bytes
  have hr := B.returns
  have hts := atoms_spec (ws := (.code yX1_insert cX1_insert 5 none :: wsGA)) B.pre
  have hown : s.vm.findClass RX1 = some m.cls := findClass_of_methodNamed B.named
  have hlocks := B.notSynchronized
  subst hsz
  have hD := hD0.self (sz := s.heap.size)
  generalize hAe : va_A [(h0, .inr (1, [.ref fr, .ref ve, .ref qu, .ref tu, .ref cb, .int queueLength, .int takenBits])), (qu, .inl (kqu, 24, .inl fqu)), (tu, .inl (ktu, 24, .inr (.inl ftu)))] s.heap.size = A at hD ⊢
  have hA : ∀ q : Nat, s.heap.size ≤ q → A q := fun q h => by rw [← hAe]; exact Or.inr h
  have hS : va_S A s.heap s.heap [] := va_S.rf
  have hl := lv_entry ([.ref h0, .int p1, .long p2]) (n := 5) (Nat.le_of_ble_eq_true rfl)
  rw [lg_entry_eq]
  generalize (lg_sl ([.ref h0, .int p1, .long p2]) ++ List.replicate (5 - (lg_sl ([.ref h0, .int p1, .long p2])).length) Slot.unset).toArray = ls at hl ⊢
  have hl : lv_has ls 5 [(0, .ref h0), (1, .int p1), (2, .long p2)] := hl
  refine lv_aload_n hx hb dX1_insert_0 rfl (lv_at hl 0 rfl) ?_
  refine va_get (D := (dC, dI)) (ci := 1) (v := .int queueLength) (C := RX1) (T := TX1) (N := 7) hx hb hts (fun w h => List.mem_cons_of_mem _ (jnGA_X1 w h)) hown hK hP 0 rfl rfl 5 (by decide) (hts _ (List.mem_cons_of_mem _ mGA_106)) (fun _ h9 => h9) rfl dX1_insert_1 ?_
  refine lv_istore (lv' := [(4, .int queueLength), (0, .ref h0), (1, .int p1), (2, .long p2)]) hx hb dX1_insert_4 hl (by decide) rfl (fun ls hl => ?_)
  refine (lp_sX1_insert h0 qu tu fr ve cb queueLength takenBits kqu fqu ktu ftu p1 p2 gqueueLength gfqu gp1 hx hb hml hown hts hK hz hA (Nat.le_of_ble_eq_true rfl) (Nat.le_of_ble_eq_true rfl) (Nat.zero_le _) (Nat.zero_le _) (fun w0_5 z1 z2 H locs ls gw0_5 gz1 hpr0 hP hD hS hl => ?_) 60) queueLength fqu ftu _ _ _ gqueueLength gfqu (by have qgqueueLength := gqueueLength.1; have rgqueueLength := gqueueLength.2; omega) hP hD hS (lv_sub hl [1, 2, 3, 0] rfl)
  · skip
    exact W.vret hx hb hr (fun t ht hW => ⟨⟨(), rfl, trivial, w0_5, z1, z2, gw0_5, gz1, by have qgw0_5 := gw0_5.1; have rgw0_5 := gw0_5.2; omega, by rw [ht]; exact hP, hD⟩, hS.F ht⟩) hS.2.2 dX1_insert_89
theorem dX1_lineUp_0 : decode cX1_lineUp 0 = .ok (.aload_n 0, 1) := by decide +kernel
theorem dX1_lineUp_1 : decode cX1_lineUp 1 = .ok (.iconst 0, 1) := by decide +kernel
theorem dX1_lineUp_2 : decode cX1_lineUp 2 = .ok (.putfield 32, 3) := by decide +kernel
theorem dX1_lineUp_5 : decode cX1_lineUp 5 = .ok (.iconst 0, 1) := by decide +kernel
theorem dX1_lineUp_6 : decode cX1_lineUp 6 = .ok (.istore_n 3, 1) := by decide +kernel
theorem dX1_lineUp_7 : decode cX1_lineUp 7 = .ok (.iload_n 3, 1) := by decide +kernel
theorem dX1_lineUp_8 : decode cX1_lineUp 8 = .ok (.aload_n 1, 1) := by decide +kernel
theorem dX1_lineUp_9 : decode cX1_lineUp 9 = .ok (.getfield 65, 3) := by decide +kernel
theorem dX1_lineUp_12 : decode cX1_lineUp 12 = .ok (.if_icmp .ge 39, 3) := by decide +kernel
theorem dX1_lineUp_15 : decode cX1_lineUp 15 = .ok (.aload_n 0, 1) := by decide +kernel
theorem dX1_lineUp_16 : decode cX1_lineUp 16 = .ok (.getfield 18, 3) := by decide +kernel
theorem dX1_lineUp_19 : decode cX1_lineUp 19 = .ok (.iload_n 3, 1) := by decide +kernel
theorem dX1_lineUp_20 : decode cX1_lineUp 20 = .ok (.iconst 3, 1) := by decide +kernel
theorem dX1_lineUp_21 : decode cX1_lineUp 21 = .ok (.iastore, 1) := by decide +kernel
theorem dX1_lineUp_22 : decode cX1_lineUp 22 = .ok (.aload_n 1, 1) := by decide +kernel
theorem dX1_lineUp_23 : decode cX1_lineUp 23 = .ok (.getfield 47, 3) := by decide +kernel
theorem dX1_lineUp_26 : decode cX1_lineUp 26 = .ok (.iload_n 3, 1) := by decide +kernel
theorem dX1_lineUp_27 : decode cX1_lineUp 27 = .ok (.aaload, 1) := by decide +kernel
theorem dX1_lineUp_28 : decode cX1_lineUp 28 = .ok (.iload_n 2, 1) := by decide +kernel
theorem dX1_lineUp_29 : decode cX1_lineUp 29 = .ok (.invokevirtual 68, 3) := by decide +kernel
theorem dX1_lineUp_32 : decode cX1_lineUp 32 = .ok (.ifCond .eq 13, 3) := by decide +kernel
theorem dX1_lineUp_35 : decode cX1_lineUp 35 = .ok (.aload_n 0, 1) := by decide +kernel
theorem dX1_lineUp_36 : decode cX1_lineUp 36 = .ok (.iload_n 3, 1) := by decide +kernel
theorem dX1_lineUp_37 : decode cX1_lineUp 37 = .ok (.aload_n 1, 1) := by decide +kernel
theorem dX1_lineUp_38 : decode cX1_lineUp 38 = .ok (.iload_n 3, 1) := by decide +kernel
theorem dX1_lineUp_39 : decode cX1_lineUp 39 = .ok (.invokestatic 74, 3) := by decide +kernel
theorem dX1_lineUp_42 : decode cX1_lineUp 42 = .ok (.invokevirtual 78, 3) := by decide +kernel
theorem dX1_lineUp_45 : decode cX1_lineUp 45 = .ok (.iinc 3 1, 3) := by decide +kernel
theorem dX1_lineUp_48 : decode cX1_lineUp 48 = .ok (.goto (-41), 3) := by decide +kernel
theorem dX1_lineUp_51 : decode cX1_lineUp 51 = .ok (.return_, 1) := by decide +kernel
set_option maxHeartbeats 4000000 in
set_option maxRecDepth 100000 in
theorem lp_sX1_lineUp {p : Program} {l : Launch} {e : Env} {R : Room} {s : State} {m : MethodId} {args : Array Value} {below : List Frame} {meth : Method} {c : Code} {Q : State → Prop} {A : Nat → Prop} {cells slots : Nat} {dC : Nat → ClassId} {dI : Nat → Nat → Nat} (h0 : Nat) (ve : Nat) (qu : Nat) (tu : Nat) (am : Nat) (pl : Nat) (re : Nat) (fr : Nat) (cb : Nat) (queueLength : Int32) (takenBits : Int32) (kve : ClassId) (fve : Nat → Int32) (kqu : ClassId) (fqu : Nat → Int32) (ktu : ClassId) (ftu : Nat → Int64) (amonths : Int32) (afull : Int32) (alean : Int32) (alines : Int32) (ahasMoon : Int32) (amoonStart : Int32) (amoonStep : Int32) (aplaceCount : Int32) (areportCount : Int32) (adeedCount : Int32) (de : Nat) (kpl : ClassId) (kre : ClassId) (pa : Nat → Nat) (p_name : Nat → Int32) (p_trust : Nat → Int32) (ra : Nat → Nat) (r_place : Nat → Int32) (r_kind : Nat → Int32) (r_month : Nat → Int32) (r_day : Nat → Int32) (r_known : Nat → Int32) (r_struck : Nat → Int32) (p2 : Int32) (gqueueLength : gi queueLength 0 24) (gfqu : ga fqu 24 0 23) (gamonths : gi amonths 0 24) (gafull : gi afull 0 5) (galean : gi alean 0 5) (gahasMoon : gi ahasMoon 0 1) (gaplaceCount : gi aplaceCount 0 6) (gareportCount : gi areportCount 0 24) (gadeedCount : gi adeedCount 0 8) (gr_place : ga r_place 24 0 5) (gr_month : ga r_month 24 0 23) (gr_struck : ga r_struck 24 0 1) (hx : p.tables.exec = Jvm.exec) (hb : c.code = cX1_lineUp) (hml : c.maxLocals = 4) (hown : s.vm.findClass RX1 = some m.cls) (hts : ∀ w ∈ ((.code yX1_lineUp cX1_lineUp 4 none :: wsGA) : List Cond), w.before args s = true) (hK : va_K (dC, dI) vwCl [(kve, .int), (kqu, .int), (ktu, .long), (kpl, .object RX5), (kre, .object RX7)] s) (hz : nzA s) (hR : va_P (dC, dI) vwCl [(am, .inr (0, [.int amonths, .int afull, .int alean, .int alines, .int ahasMoon, .int amoonStart, .int amoonStep, .int aplaceCount, .int areportCount, .int adeedCount, .ref pl, .ref re, .ref de])), (pl, .inl (kpl, 6, .inr (.inr (.inr (.inr (fun i => some (pa i))))))), (re, .inl (kre, 24, .inr (.inr (.inr (.inr (fun i => some (ra i)))))))] s.heap) (hRA : gz_ap A [(am, .inr (0, [.int amonths, .int afull, .int alean, .int alines, .int ahasMoon, .int amoonStart, .int amoonStep, .int aplaceCount, .int areportCount, .int adeedCount, .ref pl, .ref re, .ref de])), (pl, .inl (kpl, 6, .inr (.inr (.inr (.inr (fun i => some (pa i))))))), (re, .inl (kre, 24, .inr (.inr (.inr (.inr (fun i => some (ra i)))))))]) (hF0 : va_P (dC, dI) vwCl (gz_fam 6 pa 5 (fun i => [.int (p_name i), .int (p_trust i)])) s.heap) (hFA0 : gz_ap A (gz_fam 6 pa 5 (fun i => [.int (p_name i), .int (p_trust i)]))) (hF1 : va_P (dC, dI) vwCl (gz_fam 24 ra 7 (fun i => [.int (r_place i), .int (r_kind i), .int (r_month i), .int (r_day i), .int (r_known i), .int (r_struck i)])) s.heap) (hFA1 : gz_ap A (gz_fam 24 ra 7 (fun i => [.int (r_place i), .int (r_kind i), .int (r_month i), .int (r_day i), .int (r_known i), .int (r_struck i)]))) (hA : ∀ q : Nat, s.heap.size ≤ q → A q) (hRf : 1 ≤ R.frames) (hRl : 25 ≤ R.locals) (hRc : cells ≤ R.cells) (hRs : slots ≤ R.slots) (kr51 : ∀ (w0_5 : Int32) (z1 : Nat → Int32) (z2 : Nat → Int32) (z3 : Nat → Int64) (H : Heap) (locs : List Loc) (ls : Array Slot), gi w0_5 0 24 → ga z2 24 0 23 → va_P (dC, dI) vwCl [(h0, .inr (1, [.ref fr, .ref ve, .ref qu, .ref tu, .ref cb, .int w0_5, .int takenBits])), (ve, .inl (kve, 24, .inl z1)), (qu, .inl (kqu, 24, .inl z2)), (tu, .inl (ktu, 24, .inr (.inl z3)))] H → va_D A [(h0, .inr (1, [.ref fr, .ref ve, .ref qu, .ref tu, .ref cb, .int w0_5, .int takenBits])), (ve, .inl (kve, 24, .inl z1)), (qu, .inl (kqu, 24, .inl z2)), (tu, .inl (ktu, 24, .inr (.inl z3)))] → va_S A s.heap H locs → lv_has ls 4 [] → W p l e R s m args below meth c H locs cells slots Q (F0 m 51 ls [])) : ∀ z : Nat, (∀ (v3 : Int32) (w0_5 : Int32) (z1 : Nat → Int32) (z2 : Nat → Int32) (z3 : Nat → Int64) (H : Heap) (locs : List Loc) (ls : Array Slot), gi v3 0 24 → gi w0_5 0 24 → ga z2 24 0 23 → w0_5.toInt ≤ v3.toInt → 49 + (-2) * v3.toInt < (z : Int) → va_P (dC, dI) vwCl [(h0, .inr (1, [.ref fr, .ref ve, .ref qu, .ref tu, .ref cb, .int w0_5, .int takenBits])), (ve, .inl (kve, 24, .inl z1)), (qu, .inl (kqu, 24, .inl z2)), (tu, .inl (ktu, 24, .inr (.inl z3)))] H → va_D A [(h0, .inr (1, [.ref fr, .ref ve, .ref qu, .ref tu, .ref cb, .int w0_5, .int takenBits])), (ve, .inl (kve, 24, .inl z1)), (qu, .inl (kqu, 24, .inl z2)), (tu, .inl (ktu, 24, .inr (.inl z3)))] → va_S A s.heap H locs → lv_has ls 4 [(0, .ref h0), (1, .ref am), (2, .int p2), (3, .int v3)] → W p l e R s m args below meth c H locs cells slots Q (F0 m 7 ls [])) := by
  intro z
  induction z with
  | zero =>
    intro v3 w0_5 z1 z2 z3 H locs ls gv3 gw0_5 gz2 hle_gw0_5_gv3 hmu hP hD hS hl
    exact absurd hmu (by have hv31 := gv3.1; have hv32 := gv3.2; omega)
  | succ z ih =>
      intro v3 w0_5 z1 z2 z3 H locs ls gv3 gw0_5 gz2 hle_gw0_5_gv3 hmu hP hD hS hl
      refine lv_iload_n hx hb dX1_lineUp_7 rfl (lv_at hl 3 rfl) ?_
      refine lv_aload_n hx hb dX1_lineUp_8 rfl (lv_at hl 1 rfl) ?_
      refine va_get (D := (dC, dI)) (ci := 0) (v := .int areportCount) (C := RX0) (T := TX0) (N := 13) hx hb hts (fun w h => List.mem_cons_of_mem _ (jnGA_X0 w h)) hown hK (gz_ro hR hRA hS) 0 rfl rfl 8 (by decide) (hts _ (List.mem_cons_of_mem _ mGA_452)) (fun _ h9 => h9) rfl dX1_lineUp_9 ?_
      refine lv_icmp_ge (tgt := 51) hx hb dX1_lineUp_12 (by decide) (fun c_241 => ?_) (fun c_241 => ?_)
      · exact kr51 w0_5 z1 z2 z3 _ _ _ gw0_5 gz2 hP hD hS (lv_sub hl [] rfl)
      · have g_242 : gi v3 0 23 := gi_lt_l (Int32.not_le.mp c_241) gv3 gareportCount (by decide)
        have g_243 : gi w0_5 0 23 := gi_rel hle_gw0_5_gv3 gw0_5 g_242
        have g_244 : gi areportCount 1 24 := gi_lt_r (Int32.not_le.mp c_241) gv3 gareportCount (by decide)
        refine lv_aload_n hx hb dX1_lineUp_15 rfl (lv_at hl 0 rfl) ?_
        refine va_get (D := (dC, dI)) (ci := 1) (v := .ref ve) (C := RX1) (T := TX1) (N := 7) hx hb hts (fun w h => List.mem_cons_of_mem _ (jnGA_X1 w h)) hown hK hP 0 rfl rfl 1 (by decide) (hts _ (List.mem_cons_of_mem _ mGA_101)) (fun _ h9 => h9) rfl dX1_lineUp_16 ?_
        refine lv_iload_n hx hb dX1_lineUp_19 rfl (lv_at hl 3 rfl) ?_
        refine lv_iconst (v := 3) hx hb dX1_lineUp_20 (by decide) ?_
        refine va_iast hx hb hK hP hD hS 1 0 rfl rfl (gi_in g_242 (by decide)) dX1_lineUp_21 (fun H locs hP hD hS => ?_)
        have hP : va_P (dC, dI) vwCl [(h0, .inr (1, [.ref fr, .ref ve, .ref qu, .ref tu, .ref cb, .int w0_5, .int takenBits])), (ve, .inl (kve, 24, .inl (upd z1 (v3 : Int32).toNatClampNeg 3))), (qu, .inl (kqu, 24, .inl z2)), (tu, .inl (ktu, 24, .inr (.inl z3)))] H := hP
        have hD : va_D A [(h0, .inr (1, [.ref fr, .ref ve, .ref qu, .ref tu, .ref cb, .int w0_5, .int takenBits])), (ve, .inl (kve, 24, .inl (upd z1 (v3 : Int32).toNatClampNeg 3))), (qu, .inl (kqu, 24, .inl z2)), (tu, .inl (ktu, 24, .inr (.inl z3)))] := hD
        generalize upd z1 (v3 : Int32).toNatClampNeg 3 = f_245 at hP hD
        refine lv_aload_n hx hb dX1_lineUp_22 rfl (lv_at hl 1 rfl) ?_
        refine va_get (D := (dC, dI)) (ci := 0) (v := .ref re) (C := RX0) (T := TX0) (N := 13) hx hb hts (fun w h => List.mem_cons_of_mem _ (jnGA_X0 w h)) hown hK (gz_ro hR hRA hS) 0 rfl rfl 11 (by decide) (hts _ (List.mem_cons_of_mem _ mGA_447)) (fun _ h9 => h9) rfl dX1_lineUp_23 ?_
        refine lv_iload_n hx hb dX1_lineUp_26 rfl (lv_at hl 3 rfl) ?_
        refine va_aldq hx hb hK (gz_ro hR hRA hS) 2 4 rfl rfl (gi_in g_242 (by decide)) dX1_lineUp_27 ?_
        refine W.eq (g2 := F0 m 28 ls [.ref (ra v3.toNatClampNeg)]) rfl ?_
        refine lv_iload_n hx hb dX1_lineUp_28 rfl (lv_at hl 2 rfl) ?_
        have hPc : va_P (dC, dI) vwCl [((ra v3.toNatClampNeg), .inr (7, [.int (r_place v3.toNatClampNeg), .int (r_kind v3.toNatClampNeg), .int (r_month v3.toNatClampNeg), .int (r_day v3.toNatClampNeg), .int (r_known v3.toNatClampNeg), .int (r_struck v3.toNatClampNeg)]))] H := (gz_fam1 (gz_ro hF1 hFA1 hS) (gz_clt (gi_in (n := 24) g_242 (by decide))))
        have hKc := hK.sub (tys' := []) [] rfl
        refine va_calli (va_runV (As := [.int p2]) (rest := []) ⟨hx, hb, hml, hown, hts⟩ (sX7_isKnownBy l dC dI (ra v3.toNatClampNeg) (r_place v3.toNatClampNeg) (r_kind v3.toNatClampNeg) (r_month v3.toNatClampNeg) (r_day v3.toNatClampNeg) (r_known v3.toNatClampNeg) (r_struck v3.toNatClampNeg) p2 (ga_ix gr_place (gi_in (n := 24) g_242 (by decide))) (ga_ix gr_month (gi_in (n := 24) g_242 (by decide))) (ga_ix gr_struck (gi_in (n := 24) g_242 (by decide)))) (cwV 1 hts (gz_gV mGA_453 mGA_438 mGA_439 mGA_78 mGA_440 goodGA) rfl rfl rfl (by decide +kernel) ⟨Nat.le_trans (Nat.le_of_ble_eq_true rfl) hRf, Nat.le_trans (Nat.le_of_ble_eq_true rfl) hRl⟩) ⟨fun a U g mk q => by obtain ⟨q0, qP, qK, qZ⟩ := q; exact ⟨q0, qP, va_K.moved (u := U) (U := U.calling g mk a) (Vm.Alike.refl U.vm) qK, nzA_same (u := U) (U := U.calling g mk a) rfl qZ⟩, va_recv hKc hPc (ci := 7) (q0 := 0) rfl rfl, fun U hU hW => ⟨rfl, by rw [hU]; exact hPc, va_K.moved hW.alike hKc, nzA_warm hW hz⟩⟩ rfl rfl hl.1 rfl (lv_room (Nat.le_of_ble_eq_true rfl)) dX1_lineUp_29 ⟨hRc, hRs⟩) hS (fun q _ h => h.elim) (fun q h => h.elim) (fun r_246 u t H1 locs ht hvm hw hB hz1 hk1 hS => ?_)
        have hP := gz_keep hP hk1
        generalize H1 = H at hP hS ⊢
        have gr_246 : gi r_246 0 1 := hw
        refine lv_if_eq (tgt := 45) hx hb dX1_lineUp_32 (by decide) (fun c_247 => ?_) (fun c_247 => ?_)
        · have g_248 : gi r_246 0 0 := gi_eq c_247 (gi_c 0 0 (by decide))
          obtain ⟨x_249, ex_249⟩ : ∃ y : Int32, y = v3 + 1 := ⟨_, rfl⟩
          have gx_249 : gi x_249 1 24 := gi_add ex_249 g_242 (gi_c 1 1 (by decide)) (by decide)
          refine lv_iinc (v := x_249) (lv' := [(3, .int x_249), (0, .ref h0), (1, .ref am), (2, .int p2)]) hx hb dX1_lineUp_45 hl (k := 3) rfl (by rw [ex_249]; rfl) (by decide) rfl (fun ls hl => ?_)
          refine lv_goto (tgt := 7) hx hb dX1_lineUp_48 (by decide) ?_
          exact ih x_249 w0_5 f_245 z2 z3 _ _ _ (gi_w gx_249 (by decide)) (gi_w g_243 (by decide)) gz2 (by have qgx_249 := gx_249.1; have rgx_249 := gx_249.2; have igx_249 : x_249.toInt = v3.toInt + 1 := (by have hc1 : (1 : Int32).toInt = 1 := (by decide); have h9 := gi_addI ex_249 (by have h1 := g_242.1; have h2 := (gi_c 1 1 (by decide)).1; have h3 := g_242.2; have h4 := (gi_c 1 1 (by decide)).2; omega) (by have h1 := g_242.1; have h2 := (gi_c 1 1 (by decide)).1; have h3 := g_242.2; have h4 := (gi_c 1 1 (by decide)).2; omega); rw [hc1] at h9; exact h9); have qgv3 := g_242.1; have rgv3 := g_242.2; have qgw0_5 := g_243.1; have rgw0_5 := g_243.2; have y1 := (Int32.lt_iff_toInt_lt.mp (Int32.not_le.mp c_241)); omega) (by have av3 := gv3.1; have bv3 := gv3.2; have qgx_249 := gx_249.1; have rgx_249 := gx_249.2; have igx_249 : x_249.toInt = v3.toInt + 1 := (by have hc1 : (1 : Int32).toInt = 1 := (by decide); have h9 := gi_addI ex_249 (by have h1 := g_242.1; have h2 := (gi_c 1 1 (by decide)).1; have h3 := g_242.2; have h4 := (gi_c 1 1 (by decide)).2; omega) (by have h1 := g_242.1; have h2 := (gi_c 1 1 (by decide)).1; have h3 := g_242.2; have h4 := (gi_c 1 1 (by decide)).2; omega); rw [hc1] at h9; exact h9); have qgv3 := g_242.1; have rgv3 := g_242.2; omega) hP hD hS (lv_sub hl [1, 2, 3, 0] rfl)
        · have g_250 : gi r_246 1 1 := gi_ne_lo c_247 gr_246 (gi_c 0 0 (by decide)) (by decide)
          refine lv_aload_n hx hb dX1_lineUp_35 rfl (lv_at hl 0 rfl) ?_
          refine lv_iload_n hx hb dX1_lineUp_36 rfl (lv_at hl 3 rfl) ?_
          refine lv_aload_n hx hb dX1_lineUp_37 rfl (lv_at hl 1 rfl) ?_
          refine lv_iload_n hx hb dX1_lineUp_38 rfl (lv_at hl 3 rfl) ?_
          have hPc : va_P (dC, dI) vwCl [(am, .inr (0, [.int amonths, .int afull, .int alean, .int alines, .int ahasMoon, .int amoonStart, .int amoonStep, .int aplaceCount, .int areportCount, .int adeedCount, .ref pl, .ref re, .ref de])), (pl, .inl (kpl, 6, .inr (.inr (.inr (.inr (fun i => some (pa i))))))), (re, .inl (kre, 24, .inr (.inr (.inr (.inr (fun i => some (ra i)))))))] H := (gz_cat ((gz_ro hR hRA hS).sub [0] rfl) (gz_cat ((gz_ro hR hRA hS).sub [1] rfl) ((gz_ro hR hRA hS).sub [2] rfl)))
          have hKc := hK.sub (tys' := [(kpl, .object RX5), (kre, .object RX7)]) [3, 4] rfl
          refine va_calll (va_runS (As := [.ref am, .int v3]) (rest := [.int v3, .ref h0]) ⟨hx, hb, hml, hown, hts⟩ (sX1_turnOf l dC dI am pl re amonths afull alean alines ahasMoon amoonStart amoonStep aplaceCount areportCount adeedCount de kpl kre pa p_name p_trust ra r_place r_kind r_month r_day r_known r_struck v3 gamonths gafull galean gahasMoon gaplaceCount (gi_w g_244 (by decide)) gadeedCount gr_place gr_month gr_struck g_242) (cwS 2 hts (gz_gS mGA_454 mGA_455 mGA_22 mGA_456 goodGA) rfl rfl rfl (by decide +kernel) ⟨Nat.le_trans (Nat.le_of_ble_eq_true rfl) hRf, Nat.le_trans (Nat.le_of_ble_eq_true rfl) hRl⟩) ⟨fun a U g mk q => by obtain ⟨q0, qP, qK, qZ, qF0, qF1⟩ := q; exact ⟨q0, qP, va_K.moved (u := U) (U := U.calling g mk a) (Vm.Alike.refl U.vm) qK, nzA_same (u := U) (U := U.calling g mk a) rfl qZ, qF0, qF1⟩, fun U hU hW => ⟨rfl, by rw [hU]; exact hPc, va_K.moved hW.alike hKc, nzA_warm hW hz, by rw [hU]; exact gz_ro hF0 hFA0 hS, by rw [hU]; exact gz_ro hF1 hFA1 hS⟩⟩ rfl rfl hl.1 rfl (lv_room (Nat.le_of_ble_eq_true rfl)) dX1_lineUp_39 ⟨hRc, hRs⟩) hS (fun q _ h => h.elim) (fun q h => h.elim) (fun r_251 u t H1 locs ht hvm hw hB hz1 hk1 hS => ?_)
          have hP := gz_keep hP hk1
          generalize H1 = H at hP hS ⊢
          have hPc := hP.sub (ws' := [(h0, .inr (1, [.ref fr, .ref ve, .ref qu, .ref tu, .ref cb, .int w0_5, .int takenBits])), (qu, .inl (kqu, 24, .inl z2)), (tu, .inl (ktu, 24, .inr (.inl z3)))]) [0, 2, 3] rfl
          have hKc := hK.sub (tys' := [(kqu, .int), (ktu, .long)]) [1, 2] rfl
          have hDc := hD.sub (ws' := [(h0, .inr (1, [.ref fr, .ref ve, .ref qu, .ref tu, .ref cb, .int w0_5, .int takenBits])), (qu, .inl (kqu, 24, .inl z2)), (tu, .inl (ktu, 24, .inr (.inl z3)))]) [0, 2, 3] (by decide) rfl
          have hFc := va_free (wc := [(h0, .inr (1, [.ref fr, .ref ve, .ref qu, .ref tu, .ref cb, .int w0_5, .int takenBits])), (qu, .inl (kqu, 24, .inl z2)), (tu, .inl (ktu, 24, .inr (.inl z3)))]) hD hS hA [0, 2, 3] rfl
          refine va_callv (va_runV (As := [.int v3, .long r_251]) (rest := []) ⟨hx, hb, hml, hown, hts⟩ (sX1_insert l dC dI H.size h0 qu tu fr ve cb w0_5 takenBits kqu z2 ktu z3 v3 r_251 g_243 gz2 g_242) (cwV 2 hts (gz_gV mGA_468 mGA_469 mGA_470 mGA_22 mGA_471 goodGA) rfl rfl rfl (by decide +kernel) ⟨Nat.le_trans (Nat.le_of_ble_eq_true rfl) hRf, Nat.le_trans (Nat.le_of_ble_eq_true rfl) hRl⟩) ⟨fun a U g mk q => by obtain ⟨q0, q1, qP, qK, qD, qZ⟩ := q; exact ⟨q0, q1, qP, va_K.moved (u := U) (U := U.calling g mk a) (Vm.Alike.refl U.vm) qK, qD, nzA_same (u := U) (U := U.calling g mk a) rfl qZ⟩, va_recv hKc hPc (ci := 1) (q0 := 0) rfl rfl, fun U hU hW => ⟨rfl, by rw [hU], by rw [hU]; exact hPc, va_K.moved hW.alike hKc, hDc.weaken (fun _ _ _ _ => trivial), nzA_warm hW hz⟩⟩ rfl rfl hl.1 rfl (lv_room (Nat.le_of_ble_eq_true rfl)) dX1_lineUp_42 ⟨hRc, hRs⟩) hS (fun q _ h => hFc q h) hFc (fun u t H1 locs ht hvm hw hB hz1 hk1 hS => ?_)
          obtain ⟨y_253, f_254, f_255, gy_253, gf_254, hpr0_r_252, hP1, hD1⟩ := hB
          rw [ht] at hP1
          obtain ⟨hP, hD⟩ := va_join (wr := [(ve, .inl (kve, 24, .inl f_245))]) (w1 := [(h0, .inr (1, [.ref fr, .ref ve, .ref qu, .ref tu, .ref cb, .int y_253, .int takenBits])), (qu, .inl (kqu, 24, .inl f_254)), (tu, .inl (ktu, 24, .inr (.inl f_255)))]) hP hD [0, 2, 3] [1] rfl rfl (by decide) (by decide) hk1 hFc hP1 hD1
          have hP := hP.sub (ws' := [(h0, .inr (1, [.ref fr, .ref ve, .ref qu, .ref tu, .ref cb, .int y_253, .int takenBits])), (ve, .inl (kve, 24, .inl f_245)), (qu, .inl (kqu, 24, .inl f_254)), (tu, .inl (ktu, 24, .inr (.inl f_255)))]) [1, 0, 2, 3] rfl
          have hD := hD.sub (ws' := [(h0, .inr (1, [.ref fr, .ref ve, .ref qu, .ref tu, .ref cb, .int y_253, .int takenBits])), (ve, .inl (kve, 24, .inl f_245)), (qu, .inl (kqu, 24, .inl f_254)), (tu, .inl (ktu, 24, .inr (.inl f_255)))]) [1, 0, 2, 3] (by decide) rfl
          generalize H1 = H at hP hS ⊢
          obtain ⟨x_256, ex_256⟩ : ∃ y : Int32, y = v3 + 1 := ⟨_, rfl⟩
          have gx_256 : gi x_256 1 24 := gi_add ex_256 g_242 (gi_c 1 1 (by decide)) (by decide)
          refine lv_iinc (v := x_256) (lv' := [(3, .int x_256), (0, .ref h0), (1, .ref am), (2, .int p2)]) hx hb dX1_lineUp_45 hl (k := 3) rfl (by rw [ex_256]; rfl) (by decide) rfl (fun ls hl => ?_)
          refine lv_goto (tgt := 7) hx hb dX1_lineUp_48 (by decide) ?_
          exact ih x_256 y_253 f_245 f_254 f_255 _ _ _ (gi_w gx_256 (by decide)) gy_253 gf_254 (by have qgx_256 := gx_256.1; have rgx_256 := gx_256.2; have igx_256 : x_256.toInt = v3.toInt + 1 := (by have hc1 : (1 : Int32).toInt = 1 := (by decide); have h9 := gi_addI ex_256 (by have h1 := g_242.1; have h2 := (gi_c 1 1 (by decide)).1; have h3 := g_242.2; have h4 := (gi_c 1 1 (by decide)).2; omega) (by have h1 := g_242.1; have h2 := (gi_c 1 1 (by decide)).1; have h3 := g_242.2; have h4 := (gi_c 1 1 (by decide)).2; omega); rw [hc1] at h9; exact h9); have qgv3 := g_242.1; have rgv3 := g_242.2; have qgy_253 := gy_253.1; have rgy_253 := gy_253.2; have y1 := (Int32.lt_iff_toInt_lt.mp (Int32.not_le.mp c_241)); omega) (by have av3 := gv3.1; have bv3 := gv3.2; have qgx_256 := gx_256.1; have rgx_256 := gx_256.2; have igx_256 : x_256.toInt = v3.toInt + 1 := (by have hc1 : (1 : Int32).toInt = 1 := (by decide); have h9 := gi_addI ex_256 (by have h1 := g_242.1; have h2 := (gi_c 1 1 (by decide)).1; have h3 := g_242.2; have h4 := (gi_c 1 1 (by decide)).2; omega) (by have h1 := g_242.1; have h2 := (gi_c 1 1 (by decide)).1; have h3 := g_242.2; have h4 := (gi_c 1 1 (by decide)).2; omega); rw [hc1] at h9; exact h9); have qgv3 := g_242.1; have rgv3 := g_242.2; omega) hP hD hS (lv_sub hl [1, 2, 3, 0] rfl)
set_option maxHeartbeats 4000000 in
set_option maxRecDepth 100000 in
theorem sX1_lineUp (l : Launch) (dC : Nat → ClassId) (dI : Nat → Nat → Nat) (sz : Nat) (h0 : Nat) (ve : Nat) (qu : Nat) (tu : Nat) (am : Nat) (pl : Nat) (re : Nat) (fr : Nat) (cb : Nat) (queueLength : Int32) (takenBits : Int32) (kve : ClassId) (fve : Nat → Int32) (kqu : ClassId) (fqu : Nat → Int32) (ktu : ClassId) (ftu : Nat → Int64) (amonths : Int32) (afull : Int32) (alean : Int32) (alines : Int32) (ahasMoon : Int32) (amoonStart : Int32) (amoonStep : Int32) (aplaceCount : Int32) (areportCount : Int32) (adeedCount : Int32) (de : Nat) (kpl : ClassId) (kre : ClassId) (pa : Nat → Nat) (p_name : Nat → Int32) (p_trust : Nat → Int32) (ra : Nat → Nat) (r_place : Nat → Int32) (r_kind : Nat → Int32) (r_month : Nat → Int32) (r_day : Nat → Int32) (r_known : Nat → Int32) (r_struck : Nat → Int32) (p2 : Int32) (gqueueLength : gi queueLength 0 24) (gfqu : ga fqu 24 0 23) (gamonths : gi amonths 0 24) (gafull : gi afull 0 5) (galean : gi alean 0 5) (gahasMoon : gi ahasMoon 0 1) (gaplaceCount : gi aplaceCount 0 6) (gareportCount : gi areportCount 0 24) (gadeedCount : gi adeedCount 0 8) (gr_place : ga r_place 24 0 5) (gr_month : ga r_month 24 0 23) (gr_struck : ga r_struck 24 0 1) : Met l yX1_lineUp (.code yX1_lineUp cX1_lineUp 4 none :: wsGA) ({ frames := 1, cells := 0, slots := 0, locals := 25 }) (va_Pc [.ref h0, .ref am, .int p2] (fun U => U.heap.size = sz ∧ va_P (dC, dI) vwCl [(h0, .inr (1, [.ref fr, .ref ve, .ref qu, .ref tu, .ref cb, .int queueLength, .int takenBits])), (ve, .inl (kve, 24, .inl fve)), (qu, .inl (kqu, 24, .inl fqu)), (tu, .inl (ktu, 24, .inr (.inl ftu)))] U.heap ∧ va_K (dC, dI) vwCl [(kve, .int), (kqu, .int), (ktu, .long), (kpl, .object RX5), (kre, .object RX7)] U ∧ va_D (fun _ => True) [(h0, .inr (1, [.ref fr, .ref ve, .ref qu, .ref tu, .ref cb, .int queueLength, .int takenBits])), (ve, .inl (kve, 24, .inl fve)), (qu, .inl (kqu, 24, .inl fqu)), (tu, .inl (ktu, 24, .inr (.inl ftu)))] ∧ nzA U ∧ va_P (dC, dI) vwCl [(am, .inr (0, [.int amonths, .int afull, .int alean, .int alines, .int ahasMoon, .int amoonStart, .int amoonStep, .int aplaceCount, .int areportCount, .int adeedCount, .ref pl, .ref re, .ref de])), (pl, .inl (kpl, 6, .inr (.inr (.inr (.inr (fun i => some (pa i))))))), (re, .inl (kre, 24, .inr (.inr (.inr (.inr (fun i => some (ra i)))))))] U.heap ∧ gz_ap (va_A [(h0, .inr (1, [.ref fr, .ref ve, .ref qu, .ref tu, .ref cb, .int queueLength, .int takenBits])), (ve, .inl (kve, 24, .inl fve)), (qu, .inl (kqu, 24, .inl fqu)), (tu, .inl (ktu, 24, .inr (.inl ftu)))] sz) [(am, .inr (0, [.int amonths, .int afull, .int alean, .int alines, .int ahasMoon, .int amoonStart, .int amoonStep, .int aplaceCount, .int areportCount, .int adeedCount, .ref pl, .ref re, .ref de])), (pl, .inl (kpl, 6, .inr (.inr (.inr (.inr (fun i => some (pa i))))))), (re, .inl (kre, 24, .inr (.inr (.inr (.inr (fun i => some (ra i)))))))] ∧ va_P (dC, dI) vwCl (gz_fam 6 pa 5 (fun i => [.int (p_name i), .int (p_trust i)])) U.heap ∧ gz_ap (va_A [(h0, .inr (1, [.ref fr, .ref ve, .ref qu, .ref tu, .ref cb, .int queueLength, .int takenBits])), (ve, .inl (kve, 24, .inl fve)), (qu, .inl (kqu, 24, .inl fqu)), (tu, .inl (ktu, 24, .inr (.inl ftu)))] sz) (gz_fam 6 pa 5 (fun i => [.int (p_name i), .int (p_trust i)])) ∧ va_P (dC, dI) vwCl (gz_fam 24 ra 7 (fun i => [.int (r_place i), .int (r_kind i), .int (r_month i), .int (r_day i), .int (r_known i), .int (r_struck i)])) U.heap ∧ gz_ap (va_A [(h0, .inr (1, [.ref fr, .ref ve, .ref qu, .ref tu, .ref cb, .int queueLength, .int takenBits])), (ve, .inl (kve, 24, .inl fve)), (qu, .inl (kqu, 24, .inl fqu)), (tu, .inl (ktu, 24, .inr (.inl ftu)))] sz) (gz_fam 24 ra 7 (fun i => [.int (r_place i), .int (r_kind i), .int (r_month i), .int (r_day i), .int (r_known i), .int (r_struck i)])))) (va_Qv (fun (u : Unit) => True) (fun _ t => ∃ (w0_5 : Int32) (z1 : Nat → Int32) (z2 : Nat → Int32) (z3 : Nat → Int64), gi w0_5 0 24 ∧ ga z2 24 0 23 ∧ va_P (dC, dI) vwCl [(h0, .inr (1, [.ref fr, .ref ve, .ref qu, .ref tu, .ref cb, .int w0_5, .int takenBits])), (ve, .inl (kve, 24, .inl z1)), (qu, .inl (kqu, 24, .inl z2)), (tu, .inl (ktu, 24, .inr (.inl z3)))] t.heap ∧ va_D (va_A [(h0, .inr (1, [.ref fr, .ref ve, .ref qu, .ref tu, .ref cb, .int queueLength, .int takenBits])), (ve, .inl (kve, 24, .inl fve)), (qu, .inl (kqu, 24, .inl fqu)), (tu, .inl (ktu, 24, .inr (.inl ftu)))] sz) [(h0, .inr (1, [.ref fr, .ref ve, .ref qu, .ref tu, .ref cb, .int w0_5, .int takenBits])), (ve, .inl (kve, 24, .inl z1)), (qu, .inl (kqu, 24, .inl z2)), (tu, .inl (ktu, 24, .inr (.inl z3)))]) (va_A [(h0, .inr (1, [.ref fr, .ref ve, .ref qu, .ref tu, .ref cb, .int queueLength, .int takenBits])), (ve, .inl (kve, 24, .inl fve)), (qu, .inl (kqu, 24, .inl fqu)), (tu, .inl (ktu, 24, .inr (.inl ftu)))] sz)) 0 0 (va_A [(h0, .inr (1, [.ref fr, .ref ve, .ref qu, .ref tu, .ref cb, .int queueLength, .int takenBits])), (ve, .inl (kve, 24, .inl fve)), (qu, .inl (kqu, 24, .inl fqu)), (tu, .inl (ktu, 24, .inr (.inl ftu)))] sz) := by
  refine Met.ofW (cc := cX1_lineUp) (maxL := 4) (ret := none) (by decide) rfl ?_
  intro p e s m args below meth c s₁ B hml hv
  obtain ⟨rfl, hsz, hP, hK, hD0, hz, hR, hRA, hF0, hFA0, hF1, hFA1⟩ := hv
  have hx := B.exec
  have hb := B.bytes
  have hr := B.returns
  have hts := atoms_spec (ws := (.code yX1_lineUp cX1_lineUp 4 none :: wsGA)) B.pre
  have hown : s.vm.findClass RX1 = some m.cls := findClass_of_methodNamed B.named
  have hlocks := B.notSynchronized
  subst hsz
  have hD := hD0.self (sz := s.heap.size)
  generalize hAe : va_A [(h0, .inr (1, [.ref fr, .ref ve, .ref qu, .ref tu, .ref cb, .int queueLength, .int takenBits])), (ve, .inl (kve, 24, .inl fve)), (qu, .inl (kqu, 24, .inl fqu)), (tu, .inl (ktu, 24, .inr (.inl ftu)))] s.heap.size = A at hD hRA hFA0 hFA1 ⊢
  have hA : ∀ q : Nat, s.heap.size ≤ q → A q := fun q h => by rw [← hAe]; exact Or.inr h
  have hS : va_S A s.heap s.heap [] := va_S.rf
  have hl := lv_entry ([.ref h0, .ref am, .int p2]) (n := 4) (Nat.le_of_ble_eq_true rfl)
  rw [lg_entry_eq]
  generalize (lg_sl ([.ref h0, .ref am, .int p2]) ++ List.replicate (4 - (lg_sl ([.ref h0, .ref am, .int p2])).length) Slot.unset).toArray = ls at hl ⊢
  have hl : lv_has ls 4 [(0, .ref h0), (1, .ref am), (2, .int p2)] := hl
  refine lv_aload_n hx hb dX1_lineUp_0 rfl (lv_at hl 0 rfl) ?_
  refine lv_iconst (v := 0) hx hb dX1_lineUp_1 (by decide) ?_
  refine va_put (D := (dC, dI)) (ci := 1) (v := .int 0) (ty := .int) (C := RX1) (T := TX1) (N := 7) hx hb hts (fun w h => List.mem_cons_of_mem _ (jnGA_X1 w h)) tyX1 tyX1_ok nmX1 hown hK hP hD hS 0 rfl rfl 5 (by decide) (hts _ (List.mem_cons_of_mem _ mGA_106)) (fun _ h9 => h9) rfl (by decide +kernel) rfl rfl (Nat.le_of_ble_eq_true rfl) dX1_lineUp_2 (fun H locs hP hD hS => ?_)
  have hP : va_P (dC, dI) vwCl [(h0, .inr (1, [.ref fr, .ref ve, .ref qu, .ref tu, .ref cb, .int 0, .int takenBits])), (ve, .inl (kve, 24, .inl fve)), (qu, .inl (kqu, 24, .inl fqu)), (tu, .inl (ktu, 24, .inr (.inl ftu)))] H := hP
  have hD : va_D A [(h0, .inr (1, [.ref fr, .ref ve, .ref qu, .ref tu, .ref cb, .int 0, .int takenBits])), (ve, .inl (kve, 24, .inl fve)), (qu, .inl (kqu, 24, .inl fqu)), (tu, .inl (ktu, 24, .inr (.inl ftu)))] := hD
  refine lv_iconst (v := 0) hx hb dX1_lineUp_5 (by decide) ?_
  refine lv_istore_n (lv' := [(3, .int 0), (0, .ref h0), (1, .ref am), (2, .int p2)]) hx hb dX1_lineUp_6 rfl hl (by decide) rfl (fun ls hl => ?_)
  refine (lp_sX1_lineUp h0 ve qu tu am pl re fr cb queueLength takenBits kve fve kqu fqu ktu ftu amonths afull alean alines ahasMoon amoonStart amoonStep aplaceCount areportCount adeedCount de kpl kre pa p_name p_trust ra r_place r_kind r_month r_day r_known r_struck p2 gqueueLength gfqu gamonths gafull galean gahasMoon gaplaceCount gareportCount gadeedCount gr_place gr_month gr_struck hx hb hml hown hts hK hz hR hRA hF0 hFA0 hF1 hFA1 hA (Nat.le_of_ble_eq_true rfl) (Nat.le_of_ble_eq_true rfl) (Nat.zero_le _) (Nat.zero_le _) (fun w0_5 z1 z2 z3 H locs ls gw0_5 gz2 hP hD hS hl => ?_) 62) 0 0 fve fqu ftu _ _ _ (gi_w (gi_c 0 0 (by decide)) (by decide)) (gi_w (gi_c 0 0 (by decide)) (by decide)) gfqu (by have k0 : (0 : Int32).toInt = 0 := (by decide); have k0 : (0 : Int32).toInt = 0 := (by decide); omega) (by have k0 : (0 : Int32).toInt = 0 := (by decide); omega) hP hD hS (lv_sub hl [1, 2, 3, 0] rfl)
  · skip
    exact W.vret hx hb hr (fun t ht hW => ⟨⟨(), rfl, trivial, w0_5, z1, z2, z3, gw0_5, gz2, by rw [ht]; exact hP, hD⟩, hS.F ht⟩) hS.2.2 dX1_lineUp_51
theorem dX1_verdictOn_0 : decode cX1_verdictOn 0 = .ok (.aload_n 2, 1) := by decide +kernel
theorem dX1_verdictOn_1 : decode cX1_verdictOn 1 = .ok (.getfield 111, 3) := by decide +kernel
theorem dX1_verdictOn_4 : decode cX1_verdictOn 4 = .ok (.ifCond .ne 14, 3) := by decide +kernel
theorem dX1_verdictOn_7 : decode cX1_verdictOn 7 = .ok (.aload_n 1, 1) := by decide +kernel
theorem dX1_verdictOn_8 : decode cX1_verdictOn 8 = .ok (.getfield 114, 3) := by decide +kernel
theorem dX1_verdictOn_11 : decode cX1_verdictOn 11 = .ok (.ifCond .eq 7, 3) := by decide +kernel
theorem dX1_verdictOn_14 : decode cX1_verdictOn 14 = .ok (.iconst 1, 1) := by decide +kernel
theorem dX1_verdictOn_15 : decode cX1_verdictOn 15 = .ok (.goto 4, 3) := by decide +kernel
theorem dX1_verdictOn_18 : decode cX1_verdictOn 18 = .ok (.iconst 0, 1) := by decide +kernel
theorem dX1_verdictOn_19 : decode cX1_verdictOn 19 = .ok (.istore_n 3, 1) := by decide +kernel
theorem dX1_verdictOn_20 : decode cX1_verdictOn 20 = .ok (.iload_n 3, 1) := by decide +kernel
theorem dX1_verdictOn_21 : decode cX1_verdictOn 21 = .ok (.ifCond .eq 20, 3) := by decide +kernel
theorem dX1_verdictOn_24 : decode cX1_verdictOn 24 = .ok (.aload_n 2, 1) := by decide +kernel
theorem dX1_verdictOn_25 : decode cX1_verdictOn 25 = .ok (.getfield 106, 3) := by decide +kernel
theorem dX1_verdictOn_28 : decode cX1_verdictOn 28 = .ok (.aload_n 1, 1) := by decide +kernel
theorem dX1_verdictOn_29 : decode cX1_verdictOn 29 = .ok (.aload_n 2, 1) := by decide +kernel
theorem dX1_verdictOn_30 : decode cX1_verdictOn 30 = .ok (.getfield 101, 3) := by decide +kernel
theorem dX1_verdictOn_33 : decode cX1_verdictOn 33 = .ok (.invokevirtual 118, 3) := by decide +kernel
theorem dX1_verdictOn_36 : decode cX1_verdictOn 36 = .ok (.if_icmp .ge 5, 3) := by decide +kernel
theorem dX1_verdictOn_39 : decode cX1_verdictOn 39 = .ok (.iconst 1, 1) := by decide +kernel
theorem dX1_verdictOn_40 : decode cX1_verdictOn 40 = .ok (.ireturn, 1) := by decide +kernel
theorem dX1_verdictOn_41 : decode cX1_verdictOn 41 = .ok (.aload_n 0, 1) := by decide +kernel
theorem dX1_verdictOn_42 : decode cX1_verdictOn 42 = .ok (.getfield 12, 3) := by decide +kernel
theorem dX1_verdictOn_45 : decode cX1_verdictOn 45 = .ok (.getfield 122, 3) := by decide +kernel
theorem dX1_verdictOn_48 : decode cX1_verdictOn 48 = .ok (.aload_n 2, 1) := by decide +kernel
theorem dX1_verdictOn_49 : decode cX1_verdictOn 49 = .ok (.getfield 101, 3) := by decide +kernel
theorem dX1_verdictOn_52 : decode cX1_verdictOn 52 = .ok (.iaload, 1) := by decide +kernel
theorem dX1_verdictOn_53 : decode cX1_verdictOn 53 = .ok (.istore 4, 2) := by decide +kernel
theorem dX1_verdictOn_55 : decode cX1_verdictOn 55 = .ok (.aload_n 0, 1) := by decide +kernel
theorem dX1_verdictOn_56 : decode cX1_verdictOn 56 = .ok (.getfield 12, 3) := by decide +kernel
theorem dX1_verdictOn_59 : decode cX1_verdictOn 59 = .ok (.aload_n 2, 1) := by decide +kernel
theorem dX1_verdictOn_60 : decode cX1_verdictOn 60 = .ok (.invokevirtual 125, 3) := by decide +kernel
theorem dX1_verdictOn_63 : decode cX1_verdictOn 63 = .ok (.aload_n 0, 1) := by decide +kernel
theorem dX1_verdictOn_64 : decode cX1_verdictOn 64 = .ok (.getfield 12, 3) := by decide +kernel
theorem dX1_verdictOn_67 : decode cX1_verdictOn 67 = .ok (.getfield 122, 3) := by decide +kernel
theorem dX1_verdictOn_70 : decode cX1_verdictOn 70 = .ok (.aload_n 2, 1) := by decide +kernel
theorem dX1_verdictOn_71 : decode cX1_verdictOn 71 = .ok (.getfield 101, 3) := by decide +kernel
theorem dX1_verdictOn_74 : decode cX1_verdictOn 74 = .ok (.iaload, 1) := by decide +kernel
theorem dX1_verdictOn_75 : decode cX1_verdictOn 75 = .ok (.iload 4, 2) := by decide +kernel
theorem dX1_verdictOn_77 : decode cX1_verdictOn 77 = .ok (.if_icmp .eq 13, 3) := by decide +kernel
theorem dX1_verdictOn_80 : decode cX1_verdictOn 80 = .ok (.aload_n 0, 1) := by decide +kernel
theorem dX1_verdictOn_81 : decode cX1_verdictOn 81 = .ok (.getfield 12, 3) := by decide +kernel
theorem dX1_verdictOn_84 : decode cX1_verdictOn 84 = .ok (.invokevirtual 57, 3) := by decide +kernel
theorem dX1_verdictOn_87 : decode cX1_verdictOn 87 = .ok (.ifCond .eq 5, 3) := by decide +kernel
theorem dX1_verdictOn_90 : decode cX1_verdictOn 90 = .ok (.iconst 0, 1) := by decide +kernel
theorem dX1_verdictOn_91 : decode cX1_verdictOn 91 = .ok (.ireturn, 1) := by decide +kernel
theorem dX1_verdictOn_92 : decode cX1_verdictOn 92 = .ok (.aload_n 0, 1) := by decide +kernel
theorem dX1_verdictOn_93 : decode cX1_verdictOn 93 = .ok (.getfield 12, 3) := by decide +kernel
theorem dX1_verdictOn_96 : decode cX1_verdictOn 96 = .ok (.getfield 122, 3) := by decide +kernel
theorem dX1_verdictOn_99 : decode cX1_verdictOn 99 = .ok (.aload_n 2, 1) := by decide +kernel
theorem dX1_verdictOn_100 : decode cX1_verdictOn 100 = .ok (.getfield 101, 3) := by decide +kernel
theorem dX1_verdictOn_103 : decode cX1_verdictOn 103 = .ok (.iload 4, 2) := by decide +kernel
theorem dX1_verdictOn_105 : decode cX1_verdictOn 105 = .ok (.iastore, 1) := by decide +kernel
theorem dX1_verdictOn_106 : decode cX1_verdictOn 106 = .ok (.iconst 2, 1) := by decide +kernel
theorem dX1_verdictOn_107 : decode cX1_verdictOn 107 = .ok (.ireturn, 1) := by decide +kernel
set_option maxHeartbeats 4000000 in
set_option maxRecDepth 100000 in
theorem sX1_verdictOn (l : Launch) (dC : Nat → ClassId) (dI : Nat → Nat → Nat) (sz : Nat) (h0 : Nat) (fr : Nat) (fal : Nat) (fon : Nat) (am : Nat) (rp : Nat) (ve : Nat) (qu : Nat) (tu : Nat) (cb : Nat) (queueLength : Int32) (takenBits : Int32) (fmonths : Int32) (ffull : Int32) (flean : Int32) (kfal : ClassId) (ffal : Nat → Int32) (kfon : ClassId) (ffon : Nat → Int32) (amonths : Int32) (afull : Int32) (alean : Int32) (alines : Int32) (ahasMoon : Int32) (amoonStart : Int32) (amoonStep : Int32) (aplaceCount : Int32) (areportCount : Int32) (adeedCount : Int32) (pl : Nat) (re : Nat) (de : Nat) (qplace : Int32) (qkind : Int32) (qmonth : Int32) (qday : Int32) (qknown : Int32) (qstruck : Int32) (gqueueLength : gi queueLength 0 24) (gfmonths : gi fmonths 0 24) (gffull : gi ffull 0 5) (gflean : gi flean 0 5) (gamonths : gi amonths 0 24) (gafull : gi afull 0 5) (galean : gi alean 0 5) (gahasMoon : gi ahasMoon 0 1) (gaplaceCount : gi aplaceCount 0 6) (gareportCount : gi areportCount 0 24) (gadeedCount : gi adeedCount 0 8) (gqplace : gi qplace 0 5) (gqmonth : gi qmonth 0 23) (gqstruck : gi qstruck 0 1) : Met l yX1_verdictOn (.code yX1_verdictOn cX1_verdictOn 5 (some .int) :: wsGA) ({ frames := 2, cells := 0, slots := 0, locals := 47 }) (va_Pc [.ref h0, .ref am, .ref rp] (fun U => U.heap.size = sz ∧ va_P (dC, dI) vwCl [(h0, .inr (1, [.ref fr, .ref ve, .ref qu, .ref tu, .ref cb, .int queueLength, .int takenBits])), (fr, .inr (3, [.int fmonths, .int ffull, .int flean, .ref fal, .ref fon])), (fal, .inl (kfal, 25, .inl ffal)), (fon, .inl (kfon, 275, .inl ffon))] U.heap ∧ va_K (dC, dI) vwCl [(kfal, .int), (kfon, .int)] U ∧ va_D (fun _ => True) [(h0, .inr (1, [.ref fr, .ref ve, .ref qu, .ref tu, .ref cb, .int queueLength, .int takenBits])), (fr, .inr (3, [.int fmonths, .int ffull, .int flean, .ref fal, .ref fon])), (fal, .inl (kfal, 25, .inl ffal)), (fon, .inl (kfon, 275, .inl ffon))] ∧ nzA U ∧ va_P (dC, dI) vwCl [(am, .inr (0, [.int amonths, .int afull, .int alean, .int alines, .int ahasMoon, .int amoonStart, .int amoonStep, .int aplaceCount, .int areportCount, .int adeedCount, .ref pl, .ref re, .ref de])), (rp, .inr (7, [.int qplace, .int qkind, .int qmonth, .int qday, .int qknown, .int qstruck]))] U.heap ∧ gz_ap (va_A [(h0, .inr (1, [.ref fr, .ref ve, .ref qu, .ref tu, .ref cb, .int queueLength, .int takenBits])), (fr, .inr (3, [.int fmonths, .int ffull, .int flean, .ref fal, .ref fon])), (fal, .inl (kfal, 25, .inl ffal)), (fon, .inl (kfon, 275, .inl ffon))] sz) [(am, .inr (0, [.int amonths, .int afull, .int alean, .int alines, .int ahasMoon, .int amoonStart, .int amoonStep, .int aplaceCount, .int areportCount, .int adeedCount, .ref pl, .ref re, .ref de])), (rp, .inr (7, [.int qplace, .int qkind, .int qmonth, .int qday, .int qknown, .int qstruck]))])) (va_Qi (fun (r : Int32) (u : Unit) => gi r 0 2) (fun _ t => ∃ (z2 : Nat → Int32) (z3 : Nat → Int32), va_P (dC, dI) vwCl [(h0, .inr (1, [.ref fr, .ref ve, .ref qu, .ref tu, .ref cb, .int queueLength, .int takenBits])), (fr, .inr (3, [.int fmonths, .int ffull, .int flean, .ref fal, .ref fon])), (fal, .inl (kfal, 25, .inl z2)), (fon, .inl (kfon, 275, .inl z3))] t.heap ∧ va_D (va_A [(h0, .inr (1, [.ref fr, .ref ve, .ref qu, .ref tu, .ref cb, .int queueLength, .int takenBits])), (fr, .inr (3, [.int fmonths, .int ffull, .int flean, .ref fal, .ref fon])), (fal, .inl (kfal, 25, .inl ffal)), (fon, .inl (kfon, 275, .inl ffon))] sz) [(h0, .inr (1, [.ref fr, .ref ve, .ref qu, .ref tu, .ref cb, .int queueLength, .int takenBits])), (fr, .inr (3, [.int fmonths, .int ffull, .int flean, .ref fal, .ref fon])), (fal, .inl (kfal, 25, .inl z2)), (fon, .inl (kfon, 275, .inl z3))]) (va_A [(h0, .inr (1, [.ref fr, .ref ve, .ref qu, .ref tu, .ref cb, .int queueLength, .int takenBits])), (fr, .inr (3, [.int fmonths, .int ffull, .int flean, .ref fal, .ref fon])), (fal, .inl (kfal, 25, .inl ffal)), (fon, .inl (kfon, 275, .inl ffon))] sz)) 0 0 (va_A [(h0, .inr (1, [.ref fr, .ref ve, .ref qu, .ref tu, .ref cb, .int queueLength, .int takenBits])), (fr, .inr (3, [.int fmonths, .int ffull, .int flean, .ref fal, .ref fon])), (fal, .inl (kfal, 25, .inl ffal)), (fon, .inl (kfon, 275, .inl ffon))] sz) := by
  refine Met.ofW (cc := cX1_verdictOn) (maxL := 5) (ret := (some .int)) (by decide) rfl ?_
  intro p e s m args below meth c s₁ B hml hv
  obtain ⟨rfl, hsz, hP, hK, hD0, hz, hR, hRA⟩ := hv
  have hx := B.exec
  have hb := B.bytes
  have hr := B.returns
  have hts := atoms_spec (ws := (.code yX1_verdictOn cX1_verdictOn 5 (some .int) :: wsGA)) B.pre
  have hown : s.vm.findClass RX1 = some m.cls := findClass_of_methodNamed B.named
  have hlocks := B.notSynchronized
  subst hsz
  have hD := hD0.self (sz := s.heap.size)
  generalize hAe : va_A [(h0, .inr (1, [.ref fr, .ref ve, .ref qu, .ref tu, .ref cb, .int queueLength, .int takenBits])), (fr, .inr (3, [.int fmonths, .int ffull, .int flean, .ref fal, .ref fon])), (fal, .inl (kfal, 25, .inl ffal)), (fon, .inl (kfon, 275, .inl ffon))] s.heap.size = A at hD hRA ⊢
  have hA : ∀ q : Nat, s.heap.size ≤ q → A q := fun q h => by rw [← hAe]; exact Or.inr h
  have hS : va_S A s.heap s.heap [] := va_S.rf
  have hl := lv_entry ([.ref h0, .ref am, .ref rp]) (n := 5) (Nat.le_of_ble_eq_true rfl)
  rw [lg_entry_eq]
  generalize (lg_sl ([.ref h0, .ref am, .ref rp]) ++ List.replicate (5 - (lg_sl ([.ref h0, .ref am, .ref rp])).length) Slot.unset).toArray = ls at hl ⊢
  have hl : lv_has ls 5 [(0, .ref h0), (1, .ref am), (2, .ref rp)] := hl
  refine lv_aload_n hx hb dX1_verdictOn_0 rfl (lv_at hl 2 rfl) ?_
  refine va_get (D := (dC, dI)) (ci := 7) (v := .int qkind) (C := RX7) (T := TX7) (N := 6) hx hb hts (fun w h => List.mem_cons_of_mem _ (jnGA_X7 w h)) hown hK (gz_ro hR hRA hS) 1 rfl rfl 1 (by decide) (hts _ (List.mem_cons_of_mem _ mGA_467)) (fun _ h9 => h9) rfl dX1_verdictOn_1 ?_
  refine lv_if_ne (tgt := 18) hx hb dX1_verdictOn_4 (by decide) (fun c_91 => ?_) (fun c_91 => ?_)
  · refine lv_iconst (v := 0) hx hb dX1_verdictOn_18 (by decide) ?_
    refine lv_istore_n (lv' := [(3, .int 0), (0, .ref h0), (1, .ref am), (2, .ref rp)]) hx hb dX1_verdictOn_19 rfl hl (by decide) rfl (fun ls hl => ?_)
    refine lv_iload_n hx hb dX1_verdictOn_20 rfl (lv_at hl 0 rfl) ?_
    refine lv_if_eq (tgt := 41) hx hb dX1_verdictOn_21 (by decide) (fun c_92 => ?_) (fun c_92 => absurd (gi_is_eq (gi_c 0 0 (by decide)) (gi_c 0 0 (by decide))) c_92)
    refine lv_aload_n hx hb dX1_verdictOn_41 rfl (lv_at hl 1 rfl) ?_
    refine va_get (D := (dC, dI)) (ci := 1) (v := .ref fr) (C := RX1) (T := TX1) (N := 7) hx hb hts (fun w h => List.mem_cons_of_mem _ (jnGA_X1 w h)) hown hK hP 0 rfl rfl 0 (by decide) (hts _ (List.mem_cons_of_mem _ mGA_100)) (fun _ h9 => h9) rfl dX1_verdictOn_42 ?_
    refine va_get (D := (dC, dI)) (ci := 3) (v := .ref fal) (C := RX3) (T := TX3) (N := 5) hx hb hts (fun w h => List.mem_cons_of_mem _ (jnGA_X3 w h)) hown hK hP 1 rfl rfl 3 (by decide) (hts _ (List.mem_cons_of_mem _ mGA_487)) (fun _ h9 => h9) rfl dX1_verdictOn_45 ?_
    refine lv_aload_n hx hb dX1_verdictOn_48 rfl (lv_at hl 3 rfl) ?_
    refine va_get (D := (dC, dI)) (ci := 7) (v := .int qmonth) (C := RX7) (T := TX7) (N := 6) hx hb hts (fun w h => List.mem_cons_of_mem _ (jnGA_X7 w h)) hown hK (gz_ro hR hRA hS) 1 rfl rfl 2 (by decide) (hts _ (List.mem_cons_of_mem _ mGA_463)) (fun _ h9 => h9) rfl dX1_verdictOn_49 ?_
    refine va_iald hx hb hK hP 2 0 rfl rfl (gi_in gqmonth (by decide)) dX1_verdictOn_52 ?_
    refine lv_topi (fun x_93 ex_93 => ?_)
    refine lv_istore (lv' := [(4, .int x_93), (3, .int 0), (0, .ref h0), (1, .ref am), (2, .ref rp)]) hx hb dX1_verdictOn_53 hl (by decide) rfl (fun ls hl => ?_)
    refine lv_aload_n hx hb dX1_verdictOn_55 rfl (lv_at hl 2 rfl) ?_
    refine va_get (D := (dC, dI)) (ci := 1) (v := .ref fr) (C := RX1) (T := TX1) (N := 7) hx hb hts (fun w h => List.mem_cons_of_mem _ (jnGA_X1 w h)) hown hK hP 0 rfl rfl 0 (by decide) (hts _ (List.mem_cons_of_mem _ mGA_100)) (fun _ h9 => h9) rfl dX1_verdictOn_56 ?_
    refine lv_aload_n hx hb dX1_verdictOn_59 rfl (lv_at hl 4 rfl) ?_
    have hPc := hP.sub (ws' := [(fr, .inr (3, [.int fmonths, .int ffull, .int flean, .ref fal, .ref fon])), (fal, .inl (kfal, 25, .inl ffal))]) [1, 2] rfl
    have hKc := hK.sub (tys' := [(kfal, .int)]) [0] rfl
    have hDc := hD.sub (ws' := [(fr, .inr (3, [.int fmonths, .int ffull, .int flean, .ref fal, .ref fon])), (fal, .inl (kfal, 25, .inl ffal))]) [1, 2] (by decide) rfl
    have hFc := va_free (wc := [(fr, .inr (3, [.int fmonths, .int ffull, .int flean, .ref fal, .ref fon])), (fal, .inl (kfal, 25, .inl ffal))]) hD hS hA [1, 2] rfl
    have hRc_ : va_P (dC, dI) vwCl [(rp, .inr (7, [.int qplace, .int qkind, .int qmonth, .int qday, .int qknown, .int qstruck]))] s.heap := ((gz_ro hR hRA hS).sub [1] rfl)
    have hRa_ : gz_ap (va_A [(fr, .inr (3, [.int fmonths, .int ffull, .int flean, .ref fal, .ref fon])), (fal, .inl (kfal, 25, .inl ffal))] s.heap.size) [(rp, .inr (7, [.int qplace, .int qkind, .int qmonth, .int qday, .int qknown, .int qstruck]))] := (gz_apR (gz_ap1 hRA 1 rfl) hFc)
    refine va_callv (va_runV (As := [.ref rp]) (rest := []) ⟨hx, hb, hml, hown, hts⟩ (sX3_narrow l dC dI s.heap.size fr fal rp fmonths ffull flean fon kfal ffal qplace qkind qmonth qday qknown qstruck gfmonths gffull gflean gqplace gqmonth gqstruck) (cwV 1 hts (gz_gV mGA_489 mGA_490 mGA_491 mGA_18 mGA_492 goodGA) rfl rfl rfl (by decide +kernel) ⟨Nat.le_of_ble_eq_true rfl, Nat.le_of_ble_eq_true rfl⟩) ⟨fun a U g mk q => by obtain ⟨q0, q1, qP, qK, qD, qZ, qR, qRA⟩ := q; exact ⟨q0, q1, qP, va_K.moved (u := U) (U := U.calling g mk a) (Vm.Alike.refl U.vm) qK, qD, nzA_same (u := U) (U := U.calling g mk a) rfl qZ, qR, qRA⟩, va_recv hKc hPc (ci := 3) (q0 := 0) rfl rfl, fun U hU hW => ⟨rfl, by rw [hU], by rw [hU]; exact hPc, va_K.moved hW.alike hKc, hDc.weaken (fun _ _ _ _ => trivial), nzA_warm hW hz, by rw [hU]; exact hRc_, hRa_⟩⟩ rfl rfl hl.1 rfl (lv_room (Nat.le_of_ble_eq_true rfl)) dX1_verdictOn_60 ⟨Nat.zero_le _, Nat.zero_le _⟩) hS (fun q _ h => hFc q h) hFc (fun u t H1 locs ht hvm hw hB hz1 hk1 hS => ?_)
    obtain ⟨f_95, hP1, hD1⟩ := hB
    rw [ht] at hP1
    obtain ⟨hP, hD⟩ := va_join (wr := [(h0, .inr (1, [.ref fr, .ref ve, .ref qu, .ref tu, .ref cb, .int queueLength, .int takenBits])), (fon, .inl (kfon, 275, .inl ffon))]) (w1 := [(fr, .inr (3, [.int fmonths, .int ffull, .int flean, .ref fal, .ref fon])), (fal, .inl (kfal, 25, .inl f_95))]) hP hD [1, 2] [0, 3] rfl rfl (by decide) (by decide) hk1 hFc hP1 hD1
    have hP := hP.sub (ws' := [(h0, .inr (1, [.ref fr, .ref ve, .ref qu, .ref tu, .ref cb, .int queueLength, .int takenBits])), (fr, .inr (3, [.int fmonths, .int ffull, .int flean, .ref fal, .ref fon])), (fal, .inl (kfal, 25, .inl f_95)), (fon, .inl (kfon, 275, .inl ffon))]) [0, 2, 3, 1] rfl
    have hD := hD.sub (ws' := [(h0, .inr (1, [.ref fr, .ref ve, .ref qu, .ref tu, .ref cb, .int queueLength, .int takenBits])), (fr, .inr (3, [.int fmonths, .int ffull, .int flean, .ref fal, .ref fon])), (fal, .inl (kfal, 25, .inl f_95)), (fon, .inl (kfon, 275, .inl ffon))]) [0, 2, 3, 1] (by decide) rfl
    generalize H1 = H at hP hS ⊢
    refine lv_aload_n hx hb dX1_verdictOn_63 rfl (lv_at hl 2 rfl) ?_
    refine va_get (D := (dC, dI)) (ci := 1) (v := .ref fr) (C := RX1) (T := TX1) (N := 7) hx hb hts (fun w h => List.mem_cons_of_mem _ (jnGA_X1 w h)) hown hK hP 0 rfl rfl 0 (by decide) (hts _ (List.mem_cons_of_mem _ mGA_100)) (fun _ h9 => h9) rfl dX1_verdictOn_64 ?_
    refine va_get (D := (dC, dI)) (ci := 3) (v := .ref fal) (C := RX3) (T := TX3) (N := 5) hx hb hts (fun w h => List.mem_cons_of_mem _ (jnGA_X3 w h)) hown hK hP 1 rfl rfl 3 (by decide) (hts _ (List.mem_cons_of_mem _ mGA_487)) (fun _ h9 => h9) rfl dX1_verdictOn_67 ?_
    refine lv_aload_n hx hb dX1_verdictOn_70 rfl (lv_at hl 4 rfl) ?_
    refine va_get (D := (dC, dI)) (ci := 7) (v := .int qmonth) (C := RX7) (T := TX7) (N := 6) hx hb hts (fun w h => List.mem_cons_of_mem _ (jnGA_X7 w h)) hown hK (gz_ro hR hRA hS) 1 rfl rfl 2 (by decide) (hts _ (List.mem_cons_of_mem _ mGA_463)) (fun _ h9 => h9) rfl dX1_verdictOn_71 ?_
    refine va_iald hx hb hK hP 2 0 rfl rfl (gi_in gqmonth (by decide)) dX1_verdictOn_74 ?_
    refine lv_topi (fun x_96 ex_96 => ?_)
    refine lv_iload hx hb dX1_verdictOn_75 (lv_at hl 0 rfl) ?_
    refine lv_icmp_eq (tgt := 90) hx hb dX1_verdictOn_77 (by decide) (fun c_97 => ?_) (fun c_97 => ?_)
    · refine lv_iconst (v := 0) hx hb dX1_verdictOn_90 (by decide) ?_
      exact W.iret (v := 0) hx hb hr (fun t ht hW => ⟨⟨0, (), rfl, (gi_w (gi_c 0 0 (by decide)) (by decide)), f_95, ffon, by rw [ht]; exact hP, hD⟩, hS.F ht⟩) hS.2.2 dX1_verdictOn_91
    · refine lv_aload_n hx hb dX1_verdictOn_80 rfl (lv_at hl 2 rfl) ?_
      refine va_get (D := (dC, dI)) (ci := 1) (v := .ref fr) (C := RX1) (T := TX1) (N := 7) hx hb hts (fun w h => List.mem_cons_of_mem _ (jnGA_X1 w h)) hown hK hP 0 rfl rfl 0 (by decide) (hts _ (List.mem_cons_of_mem _ mGA_100)) (fun _ h9 => h9) rfl dX1_verdictOn_81 ?_
      have hPc := hP.sub (ws' := [(fr, .inr (3, [.int fmonths, .int ffull, .int flean, .ref fal, .ref fon])), (fal, .inl (kfal, 25, .inl f_95)), (fon, .inl (kfon, 275, .inl ffon))]) [1, 2, 3] rfl
      have hKc := hK.sub (tys' := [(kfal, .int), (kfon, .int)]) [0, 1] rfl
      have hDc := hD.sub (ws' := [(fr, .inr (3, [.int fmonths, .int ffull, .int flean, .ref fal, .ref fon])), (fal, .inl (kfal, 25, .inl f_95)), (fon, .inl (kfon, 275, .inl ffon))]) [1, 2, 3] (by decide) rfl
      have hFc := va_free (wc := [(fr, .inr (3, [.int fmonths, .int ffull, .int flean, .ref fal, .ref fon])), (fal, .inl (kfal, 25, .inl f_95)), (fon, .inl (kfon, 275, .inl ffon))]) hD hS hA [1, 2, 3] rfl
      refine va_calli (va_runV (As := []) (rest := []) ⟨hx, hb, hml, hown, hts⟩ (sX3_fits l dC dI H.size fr fal fon fmonths ffull flean kfal f_95 kfon ffon gfmonths gffull gflean) (cwV 0 hts (gz_gV mGA_499 mGA_500 mGA_501 mGA_18 mGA_502 goodGA) rfl rfl rfl (by decide +kernel) ⟨Nat.le_of_ble_eq_true rfl, Nat.le_of_ble_eq_true rfl⟩) ⟨fun a U g mk q => by obtain ⟨q0, q1, qP, qK, qD, qZ⟩ := q; exact ⟨q0, q1, qP, va_K.moved (u := U) (U := U.calling g mk a) (Vm.Alike.refl U.vm) qK, qD, nzA_same (u := U) (U := U.calling g mk a) rfl qZ⟩, va_recv hKc hPc (ci := 3) (q0 := 0) rfl rfl, fun U hU hW => ⟨rfl, by rw [hU], by rw [hU]; exact hPc, va_K.moved hW.alike hKc, hDc.weaken (fun _ _ _ _ => trivial), nzA_warm hW hz⟩⟩ rfl rfl hl.1 rfl (lv_room (Nat.le_of_ble_eq_true rfl)) dX1_verdictOn_84 ⟨Nat.zero_le _, Nat.zero_le _⟩) hS (fun q _ h => hFc q h) hFc (fun r_98 u t H1 locs ht hvm hw hB hz1 hk1 hS => ?_)
      obtain ⟨f_99, hP1, hD1⟩ := hB
      rw [ht] at hP1
      obtain ⟨hP, hD⟩ := va_join (wr := [(h0, .inr (1, [.ref fr, .ref ve, .ref qu, .ref tu, .ref cb, .int queueLength, .int takenBits]))]) (w1 := [(fr, .inr (3, [.int fmonths, .int ffull, .int flean, .ref fal, .ref fon])), (fal, .inl (kfal, 25, .inl f_95)), (fon, .inl (kfon, 275, .inl f_99))]) hP hD [1, 2, 3] [0] rfl rfl (by decide) (by decide) hk1 hFc hP1 hD1
      have hP := hP.sub (ws' := [(h0, .inr (1, [.ref fr, .ref ve, .ref qu, .ref tu, .ref cb, .int queueLength, .int takenBits])), (fr, .inr (3, [.int fmonths, .int ffull, .int flean, .ref fal, .ref fon])), (fal, .inl (kfal, 25, .inl f_95)), (fon, .inl (kfon, 275, .inl f_99))]) [0, 1, 2, 3] rfl
      have hD := hD.sub (ws' := [(h0, .inr (1, [.ref fr, .ref ve, .ref qu, .ref tu, .ref cb, .int queueLength, .int takenBits])), (fr, .inr (3, [.int fmonths, .int ffull, .int flean, .ref fal, .ref fon])), (fal, .inl (kfal, 25, .inl f_95)), (fon, .inl (kfon, 275, .inl f_99))]) [0, 1, 2, 3] (by decide) rfl
      generalize H1 = H at hP hS ⊢
      have gr_98 : gi r_98 0 1 := hw
      refine lv_if_eq (tgt := 92) hx hb dX1_verdictOn_87 (by decide) (fun c_100 => ?_) (fun c_100 => ?_)
      · have g_101 : gi r_98 0 0 := gi_eq c_100 (gi_c 0 0 (by decide))
        refine lv_aload_n hx hb dX1_verdictOn_92 rfl (lv_at hl 2 rfl) ?_
        refine va_get (D := (dC, dI)) (ci := 1) (v := .ref fr) (C := RX1) (T := TX1) (N := 7) hx hb hts (fun w h => List.mem_cons_of_mem _ (jnGA_X1 w h)) hown hK hP 0 rfl rfl 0 (by decide) (hts _ (List.mem_cons_of_mem _ mGA_100)) (fun _ h9 => h9) rfl dX1_verdictOn_93 ?_
        refine va_get (D := (dC, dI)) (ci := 3) (v := .ref fal) (C := RX3) (T := TX3) (N := 5) hx hb hts (fun w h => List.mem_cons_of_mem _ (jnGA_X3 w h)) hown hK hP 1 rfl rfl 3 (by decide) (hts _ (List.mem_cons_of_mem _ mGA_487)) (fun _ h9 => h9) rfl dX1_verdictOn_96 ?_
        refine lv_aload_n hx hb dX1_verdictOn_99 rfl (lv_at hl 4 rfl) ?_
        refine va_get (D := (dC, dI)) (ci := 7) (v := .int qmonth) (C := RX7) (T := TX7) (N := 6) hx hb hts (fun w h => List.mem_cons_of_mem _ (jnGA_X7 w h)) hown hK (gz_ro hR hRA hS) 1 rfl rfl 2 (by decide) (hts _ (List.mem_cons_of_mem _ mGA_463)) (fun _ h9 => h9) rfl dX1_verdictOn_100 ?_
        refine lv_iload hx hb dX1_verdictOn_103 (lv_at hl 0 rfl) ?_
        refine va_iast hx hb hK hP hD hS 2 0 rfl rfl (gi_in gqmonth (by decide)) dX1_verdictOn_105 (fun H locs hP hD hS => ?_)
        have hP : va_P (dC, dI) vwCl [(h0, .inr (1, [.ref fr, .ref ve, .ref qu, .ref tu, .ref cb, .int queueLength, .int takenBits])), (fr, .inr (3, [.int fmonths, .int ffull, .int flean, .ref fal, .ref fon])), (fal, .inl (kfal, 25, .inl (upd f_95 (qmonth : Int32).toNatClampNeg x_93))), (fon, .inl (kfon, 275, .inl f_99))] H := hP
        have hD : va_D A [(h0, .inr (1, [.ref fr, .ref ve, .ref qu, .ref tu, .ref cb, .int queueLength, .int takenBits])), (fr, .inr (3, [.int fmonths, .int ffull, .int flean, .ref fal, .ref fon])), (fal, .inl (kfal, 25, .inl (upd f_95 (qmonth : Int32).toNatClampNeg x_93))), (fon, .inl (kfon, 275, .inl f_99))] := hD
        generalize upd f_95 (qmonth : Int32).toNatClampNeg x_93 = f_102 at hP hD
        refine lv_iconst (v := 2) hx hb dX1_verdictOn_106 (by decide) ?_
        exact W.iret (v := 2) hx hb hr (fun t ht hW => ⟨⟨2, (), rfl, (gi_w (gi_c 2 2 (by decide)) (by decide)), f_102, f_99, by rw [ht]; exact hP, hD⟩, hS.F ht⟩) hS.2.2 dX1_verdictOn_107
      · have g_103 : gi r_98 1 1 := gi_ne_lo c_100 gr_98 (gi_c 0 0 (by decide)) (by decide)
        refine lv_iconst (v := 0) hx hb dX1_verdictOn_90 (by decide) ?_
        exact W.iret (v := 0) hx hb hr (fun t ht hW => ⟨⟨0, (), rfl, (gi_w (gi_c 0 0 (by decide)) (by decide)), f_95, f_99, by rw [ht]; exact hP, hD⟩, hS.F ht⟩) hS.2.2 dX1_verdictOn_91
  · have g_104 : gi qkind 0 0 := gi_eq c_91 (gi_c 0 0 (by decide))
    refine lv_aload_n hx hb dX1_verdictOn_7 rfl (lv_at hl 1 rfl) ?_
    refine va_get (D := (dC, dI)) (ci := 0) (v := .int ahasMoon) (C := RX0) (T := TX0) (N := 13) hx hb hts (fun w h => List.mem_cons_of_mem _ (jnGA_X0 w h)) hown hK (gz_ro hR hRA hS) 0 rfl rfl 4 (by decide) (hts _ (List.mem_cons_of_mem _ mGA_486)) (fun _ h9 => h9) rfl dX1_verdictOn_8 ?_
    refine lv_if_eq (tgt := 18) hx hb dX1_verdictOn_11 (by decide) (fun c_105 => ?_) (fun c_105 => ?_)
    · have g_106 : gi ahasMoon 0 0 := gi_eq c_105 (gi_c 0 0 (by decide))
      refine lv_iconst (v := 0) hx hb dX1_verdictOn_18 (by decide) ?_
      refine lv_istore_n (lv' := [(3, .int 0), (0, .ref h0), (1, .ref am), (2, .ref rp)]) hx hb dX1_verdictOn_19 rfl hl (by decide) rfl (fun ls hl => ?_)
      refine lv_iload_n hx hb dX1_verdictOn_20 rfl (lv_at hl 0 rfl) ?_
      refine lv_if_eq (tgt := 41) hx hb dX1_verdictOn_21 (by decide) (fun c_107 => ?_) (fun c_107 => absurd (gi_is_eq (gi_c 0 0 (by decide)) (gi_c 0 0 (by decide))) c_107)
      refine lv_aload_n hx hb dX1_verdictOn_41 rfl (lv_at hl 1 rfl) ?_
      refine va_get (D := (dC, dI)) (ci := 1) (v := .ref fr) (C := RX1) (T := TX1) (N := 7) hx hb hts (fun w h => List.mem_cons_of_mem _ (jnGA_X1 w h)) hown hK hP 0 rfl rfl 0 (by decide) (hts _ (List.mem_cons_of_mem _ mGA_100)) (fun _ h9 => h9) rfl dX1_verdictOn_42 ?_
      refine va_get (D := (dC, dI)) (ci := 3) (v := .ref fal) (C := RX3) (T := TX3) (N := 5) hx hb hts (fun w h => List.mem_cons_of_mem _ (jnGA_X3 w h)) hown hK hP 1 rfl rfl 3 (by decide) (hts _ (List.mem_cons_of_mem _ mGA_487)) (fun _ h9 => h9) rfl dX1_verdictOn_45 ?_
      refine lv_aload_n hx hb dX1_verdictOn_48 rfl (lv_at hl 3 rfl) ?_
      refine va_get (D := (dC, dI)) (ci := 7) (v := .int qmonth) (C := RX7) (T := TX7) (N := 6) hx hb hts (fun w h => List.mem_cons_of_mem _ (jnGA_X7 w h)) hown hK (gz_ro hR hRA hS) 1 rfl rfl 2 (by decide) (hts _ (List.mem_cons_of_mem _ mGA_463)) (fun _ h9 => h9) rfl dX1_verdictOn_49 ?_
      refine va_iald hx hb hK hP 2 0 rfl rfl (gi_in gqmonth (by decide)) dX1_verdictOn_52 ?_
      refine lv_topi (fun x_108 ex_108 => ?_)
      refine lv_istore (lv' := [(4, .int x_108), (3, .int 0), (0, .ref h0), (1, .ref am), (2, .ref rp)]) hx hb dX1_verdictOn_53 hl (by decide) rfl (fun ls hl => ?_)
      refine lv_aload_n hx hb dX1_verdictOn_55 rfl (lv_at hl 2 rfl) ?_
      refine va_get (D := (dC, dI)) (ci := 1) (v := .ref fr) (C := RX1) (T := TX1) (N := 7) hx hb hts (fun w h => List.mem_cons_of_mem _ (jnGA_X1 w h)) hown hK hP 0 rfl rfl 0 (by decide) (hts _ (List.mem_cons_of_mem _ mGA_100)) (fun _ h9 => h9) rfl dX1_verdictOn_56 ?_
      refine lv_aload_n hx hb dX1_verdictOn_59 rfl (lv_at hl 4 rfl) ?_
      have hPc := hP.sub (ws' := [(fr, .inr (3, [.int fmonths, .int ffull, .int flean, .ref fal, .ref fon])), (fal, .inl (kfal, 25, .inl ffal))]) [1, 2] rfl
      have hKc := hK.sub (tys' := [(kfal, .int)]) [0] rfl
      have hDc := hD.sub (ws' := [(fr, .inr (3, [.int fmonths, .int ffull, .int flean, .ref fal, .ref fon])), (fal, .inl (kfal, 25, .inl ffal))]) [1, 2] (by decide) rfl
      have hFc := va_free (wc := [(fr, .inr (3, [.int fmonths, .int ffull, .int flean, .ref fal, .ref fon])), (fal, .inl (kfal, 25, .inl ffal))]) hD hS hA [1, 2] rfl
      have hRc_ : va_P (dC, dI) vwCl [(rp, .inr (7, [.int qplace, .int qkind, .int qmonth, .int qday, .int qknown, .int qstruck]))] s.heap := ((gz_ro hR hRA hS).sub [1] rfl)
      have hRa_ : gz_ap (va_A [(fr, .inr (3, [.int fmonths, .int ffull, .int flean, .ref fal, .ref fon])), (fal, .inl (kfal, 25, .inl ffal))] s.heap.size) [(rp, .inr (7, [.int qplace, .int qkind, .int qmonth, .int qday, .int qknown, .int qstruck]))] := (gz_apR (gz_ap1 hRA 1 rfl) hFc)
      refine va_callv (va_runV (As := [.ref rp]) (rest := []) ⟨hx, hb, hml, hown, hts⟩ (sX3_narrow l dC dI s.heap.size fr fal rp fmonths ffull flean fon kfal ffal qplace qkind qmonth qday qknown qstruck gfmonths gffull gflean gqplace gqmonth gqstruck) (cwV 1 hts (gz_gV mGA_489 mGA_490 mGA_491 mGA_18 mGA_492 goodGA) rfl rfl rfl (by decide +kernel) ⟨Nat.le_of_ble_eq_true rfl, Nat.le_of_ble_eq_true rfl⟩) ⟨fun a U g mk q => by obtain ⟨q0, q1, qP, qK, qD, qZ, qR, qRA⟩ := q; exact ⟨q0, q1, qP, va_K.moved (u := U) (U := U.calling g mk a) (Vm.Alike.refl U.vm) qK, qD, nzA_same (u := U) (U := U.calling g mk a) rfl qZ, qR, qRA⟩, va_recv hKc hPc (ci := 3) (q0 := 0) rfl rfl, fun U hU hW => ⟨rfl, by rw [hU], by rw [hU]; exact hPc, va_K.moved hW.alike hKc, hDc.weaken (fun _ _ _ _ => trivial), nzA_warm hW hz, by rw [hU]; exact hRc_, hRa_⟩⟩ rfl rfl hl.1 rfl (lv_room (Nat.le_of_ble_eq_true rfl)) dX1_verdictOn_60 ⟨Nat.zero_le _, Nat.zero_le _⟩) hS (fun q _ h => hFc q h) hFc (fun u t H1 locs ht hvm hw hB hz1 hk1 hS => ?_)
      obtain ⟨f_110, hP1, hD1⟩ := hB
      rw [ht] at hP1
      obtain ⟨hP, hD⟩ := va_join (wr := [(h0, .inr (1, [.ref fr, .ref ve, .ref qu, .ref tu, .ref cb, .int queueLength, .int takenBits])), (fon, .inl (kfon, 275, .inl ffon))]) (w1 := [(fr, .inr (3, [.int fmonths, .int ffull, .int flean, .ref fal, .ref fon])), (fal, .inl (kfal, 25, .inl f_110))]) hP hD [1, 2] [0, 3] rfl rfl (by decide) (by decide) hk1 hFc hP1 hD1
      have hP := hP.sub (ws' := [(h0, .inr (1, [.ref fr, .ref ve, .ref qu, .ref tu, .ref cb, .int queueLength, .int takenBits])), (fr, .inr (3, [.int fmonths, .int ffull, .int flean, .ref fal, .ref fon])), (fal, .inl (kfal, 25, .inl f_110)), (fon, .inl (kfon, 275, .inl ffon))]) [0, 2, 3, 1] rfl
      have hD := hD.sub (ws' := [(h0, .inr (1, [.ref fr, .ref ve, .ref qu, .ref tu, .ref cb, .int queueLength, .int takenBits])), (fr, .inr (3, [.int fmonths, .int ffull, .int flean, .ref fal, .ref fon])), (fal, .inl (kfal, 25, .inl f_110)), (fon, .inl (kfon, 275, .inl ffon))]) [0, 2, 3, 1] (by decide) rfl
      generalize H1 = H at hP hS ⊢
      refine lv_aload_n hx hb dX1_verdictOn_63 rfl (lv_at hl 2 rfl) ?_
      refine va_get (D := (dC, dI)) (ci := 1) (v := .ref fr) (C := RX1) (T := TX1) (N := 7) hx hb hts (fun w h => List.mem_cons_of_mem _ (jnGA_X1 w h)) hown hK hP 0 rfl rfl 0 (by decide) (hts _ (List.mem_cons_of_mem _ mGA_100)) (fun _ h9 => h9) rfl dX1_verdictOn_64 ?_
      refine va_get (D := (dC, dI)) (ci := 3) (v := .ref fal) (C := RX3) (T := TX3) (N := 5) hx hb hts (fun w h => List.mem_cons_of_mem _ (jnGA_X3 w h)) hown hK hP 1 rfl rfl 3 (by decide) (hts _ (List.mem_cons_of_mem _ mGA_487)) (fun _ h9 => h9) rfl dX1_verdictOn_67 ?_
      refine lv_aload_n hx hb dX1_verdictOn_70 rfl (lv_at hl 4 rfl) ?_
      refine va_get (D := (dC, dI)) (ci := 7) (v := .int qmonth) (C := RX7) (T := TX7) (N := 6) hx hb hts (fun w h => List.mem_cons_of_mem _ (jnGA_X7 w h)) hown hK (gz_ro hR hRA hS) 1 rfl rfl 2 (by decide) (hts _ (List.mem_cons_of_mem _ mGA_463)) (fun _ h9 => h9) rfl dX1_verdictOn_71 ?_
      refine va_iald hx hb hK hP 2 0 rfl rfl (gi_in gqmonth (by decide)) dX1_verdictOn_74 ?_
      refine lv_topi (fun x_111 ex_111 => ?_)
      refine lv_iload hx hb dX1_verdictOn_75 (lv_at hl 0 rfl) ?_
      refine lv_icmp_eq (tgt := 90) hx hb dX1_verdictOn_77 (by decide) (fun c_112 => ?_) (fun c_112 => ?_)
      · refine lv_iconst (v := 0) hx hb dX1_verdictOn_90 (by decide) ?_
        exact W.iret (v := 0) hx hb hr (fun t ht hW => ⟨⟨0, (), rfl, (gi_w (gi_c 0 0 (by decide)) (by decide)), f_110, ffon, by rw [ht]; exact hP, hD⟩, hS.F ht⟩) hS.2.2 dX1_verdictOn_91
      · refine lv_aload_n hx hb dX1_verdictOn_80 rfl (lv_at hl 2 rfl) ?_
        refine va_get (D := (dC, dI)) (ci := 1) (v := .ref fr) (C := RX1) (T := TX1) (N := 7) hx hb hts (fun w h => List.mem_cons_of_mem _ (jnGA_X1 w h)) hown hK hP 0 rfl rfl 0 (by decide) (hts _ (List.mem_cons_of_mem _ mGA_100)) (fun _ h9 => h9) rfl dX1_verdictOn_81 ?_
        have hPc := hP.sub (ws' := [(fr, .inr (3, [.int fmonths, .int ffull, .int flean, .ref fal, .ref fon])), (fal, .inl (kfal, 25, .inl f_110)), (fon, .inl (kfon, 275, .inl ffon))]) [1, 2, 3] rfl
        have hKc := hK.sub (tys' := [(kfal, .int), (kfon, .int)]) [0, 1] rfl
        have hDc := hD.sub (ws' := [(fr, .inr (3, [.int fmonths, .int ffull, .int flean, .ref fal, .ref fon])), (fal, .inl (kfal, 25, .inl f_110)), (fon, .inl (kfon, 275, .inl ffon))]) [1, 2, 3] (by decide) rfl
        have hFc := va_free (wc := [(fr, .inr (3, [.int fmonths, .int ffull, .int flean, .ref fal, .ref fon])), (fal, .inl (kfal, 25, .inl f_110)), (fon, .inl (kfon, 275, .inl ffon))]) hD hS hA [1, 2, 3] rfl
        refine va_calli (va_runV (As := []) (rest := []) ⟨hx, hb, hml, hown, hts⟩ (sX3_fits l dC dI H.size fr fal fon fmonths ffull flean kfal f_110 kfon ffon gfmonths gffull gflean) (cwV 0 hts (gz_gV mGA_499 mGA_500 mGA_501 mGA_18 mGA_502 goodGA) rfl rfl rfl (by decide +kernel) ⟨Nat.le_of_ble_eq_true rfl, Nat.le_of_ble_eq_true rfl⟩) ⟨fun a U g mk q => by obtain ⟨q0, q1, qP, qK, qD, qZ⟩ := q; exact ⟨q0, q1, qP, va_K.moved (u := U) (U := U.calling g mk a) (Vm.Alike.refl U.vm) qK, qD, nzA_same (u := U) (U := U.calling g mk a) rfl qZ⟩, va_recv hKc hPc (ci := 3) (q0 := 0) rfl rfl, fun U hU hW => ⟨rfl, by rw [hU], by rw [hU]; exact hPc, va_K.moved hW.alike hKc, hDc.weaken (fun _ _ _ _ => trivial), nzA_warm hW hz⟩⟩ rfl rfl hl.1 rfl (lv_room (Nat.le_of_ble_eq_true rfl)) dX1_verdictOn_84 ⟨Nat.zero_le _, Nat.zero_le _⟩) hS (fun q _ h => hFc q h) hFc (fun r_113 u t H1 locs ht hvm hw hB hz1 hk1 hS => ?_)
        obtain ⟨f_114, hP1, hD1⟩ := hB
        rw [ht] at hP1
        obtain ⟨hP, hD⟩ := va_join (wr := [(h0, .inr (1, [.ref fr, .ref ve, .ref qu, .ref tu, .ref cb, .int queueLength, .int takenBits]))]) (w1 := [(fr, .inr (3, [.int fmonths, .int ffull, .int flean, .ref fal, .ref fon])), (fal, .inl (kfal, 25, .inl f_110)), (fon, .inl (kfon, 275, .inl f_114))]) hP hD [1, 2, 3] [0] rfl rfl (by decide) (by decide) hk1 hFc hP1 hD1
        have hP := hP.sub (ws' := [(h0, .inr (1, [.ref fr, .ref ve, .ref qu, .ref tu, .ref cb, .int queueLength, .int takenBits])), (fr, .inr (3, [.int fmonths, .int ffull, .int flean, .ref fal, .ref fon])), (fal, .inl (kfal, 25, .inl f_110)), (fon, .inl (kfon, 275, .inl f_114))]) [0, 1, 2, 3] rfl
        have hD := hD.sub (ws' := [(h0, .inr (1, [.ref fr, .ref ve, .ref qu, .ref tu, .ref cb, .int queueLength, .int takenBits])), (fr, .inr (3, [.int fmonths, .int ffull, .int flean, .ref fal, .ref fon])), (fal, .inl (kfal, 25, .inl f_110)), (fon, .inl (kfon, 275, .inl f_114))]) [0, 1, 2, 3] (by decide) rfl
        generalize H1 = H at hP hS ⊢
        have gr_113 : gi r_113 0 1 := hw
        refine lv_if_eq (tgt := 92) hx hb dX1_verdictOn_87 (by decide) (fun c_115 => ?_) (fun c_115 => ?_)
        · have g_116 : gi r_113 0 0 := gi_eq c_115 (gi_c 0 0 (by decide))
          refine lv_aload_n hx hb dX1_verdictOn_92 rfl (lv_at hl 2 rfl) ?_
          refine va_get (D := (dC, dI)) (ci := 1) (v := .ref fr) (C := RX1) (T := TX1) (N := 7) hx hb hts (fun w h => List.mem_cons_of_mem _ (jnGA_X1 w h)) hown hK hP 0 rfl rfl 0 (by decide) (hts _ (List.mem_cons_of_mem _ mGA_100)) (fun _ h9 => h9) rfl dX1_verdictOn_93 ?_
          refine va_get (D := (dC, dI)) (ci := 3) (v := .ref fal) (C := RX3) (T := TX3) (N := 5) hx hb hts (fun w h => List.mem_cons_of_mem _ (jnGA_X3 w h)) hown hK hP 1 rfl rfl 3 (by decide) (hts _ (List.mem_cons_of_mem _ mGA_487)) (fun _ h9 => h9) rfl dX1_verdictOn_96 ?_
          refine lv_aload_n hx hb dX1_verdictOn_99 rfl (lv_at hl 4 rfl) ?_
          refine va_get (D := (dC, dI)) (ci := 7) (v := .int qmonth) (C := RX7) (T := TX7) (N := 6) hx hb hts (fun w h => List.mem_cons_of_mem _ (jnGA_X7 w h)) hown hK (gz_ro hR hRA hS) 1 rfl rfl 2 (by decide) (hts _ (List.mem_cons_of_mem _ mGA_463)) (fun _ h9 => h9) rfl dX1_verdictOn_100 ?_
          refine lv_iload hx hb dX1_verdictOn_103 (lv_at hl 0 rfl) ?_
          refine va_iast hx hb hK hP hD hS 2 0 rfl rfl (gi_in gqmonth (by decide)) dX1_verdictOn_105 (fun H locs hP hD hS => ?_)
          have hP : va_P (dC, dI) vwCl [(h0, .inr (1, [.ref fr, .ref ve, .ref qu, .ref tu, .ref cb, .int queueLength, .int takenBits])), (fr, .inr (3, [.int fmonths, .int ffull, .int flean, .ref fal, .ref fon])), (fal, .inl (kfal, 25, .inl (upd f_110 (qmonth : Int32).toNatClampNeg x_108))), (fon, .inl (kfon, 275, .inl f_114))] H := hP
          have hD : va_D A [(h0, .inr (1, [.ref fr, .ref ve, .ref qu, .ref tu, .ref cb, .int queueLength, .int takenBits])), (fr, .inr (3, [.int fmonths, .int ffull, .int flean, .ref fal, .ref fon])), (fal, .inl (kfal, 25, .inl (upd f_110 (qmonth : Int32).toNatClampNeg x_108))), (fon, .inl (kfon, 275, .inl f_114))] := hD
          generalize upd f_110 (qmonth : Int32).toNatClampNeg x_108 = f_117 at hP hD
          refine lv_iconst (v := 2) hx hb dX1_verdictOn_106 (by decide) ?_
          exact W.iret (v := 2) hx hb hr (fun t ht hW => ⟨⟨2, (), rfl, (gi_w (gi_c 2 2 (by decide)) (by decide)), f_117, f_114, by rw [ht]; exact hP, hD⟩, hS.F ht⟩) hS.2.2 dX1_verdictOn_107
        · have g_118 : gi r_113 1 1 := gi_ne_lo c_115 gr_113 (gi_c 0 0 (by decide)) (by decide)
          refine lv_iconst (v := 0) hx hb dX1_verdictOn_90 (by decide) ?_
          exact W.iret (v := 0) hx hb hr (fun t ht hW => ⟨⟨0, (), rfl, (gi_w (gi_c 0 0 (by decide)) (by decide)), f_110, f_114, by rw [ht]; exact hP, hD⟩, hS.F ht⟩) hS.2.2 dX1_verdictOn_91
    · have g_119 : gi ahasMoon 1 1 := gi_ne_lo c_105 gahasMoon (gi_c 0 0 (by decide)) (by decide)
      refine lv_iconst (v := 1) hx hb dX1_verdictOn_14 (by decide) ?_
      refine lv_goto (tgt := 19) hx hb dX1_verdictOn_15 (by decide) ?_
      refine lv_istore_n (lv' := [(3, .int 1), (0, .ref h0), (1, .ref am), (2, .ref rp)]) hx hb dX1_verdictOn_19 rfl hl (by decide) rfl (fun ls hl => ?_)
      refine lv_iload_n hx hb dX1_verdictOn_20 rfl (lv_at hl 0 rfl) ?_
      refine lv_if_eq (tgt := 41) hx hb dX1_verdictOn_21 (by decide) (fun c_120 => absurd c_120 (gi_no_eq (gi_c 1 1 (by decide)) (gi_c 0 0 (by decide)) (by decide))) (fun c_120 => ?_)
      refine lv_aload_n hx hb dX1_verdictOn_24 rfl (lv_at hl 3 rfl) ?_
      refine va_get (D := (dC, dI)) (ci := 7) (v := .int qday) (C := RX7) (T := TX7) (N := 6) hx hb hts (fun w h => List.mem_cons_of_mem _ (jnGA_X7 w h)) hown hK (gz_ro hR hRA hS) 1 rfl rfl 3 (by decide) (hts _ (List.mem_cons_of_mem _ mGA_465)) (fun _ h9 => h9) rfl dX1_verdictOn_25 ?_
      refine lv_aload_n hx hb dX1_verdictOn_28 rfl (lv_at hl 2 rfl) ?_
      refine lv_aload_n hx hb dX1_verdictOn_29 rfl (lv_at hl 3 rfl) ?_
      refine va_get (D := (dC, dI)) (ci := 7) (v := .int qmonth) (C := RX7) (T := TX7) (N := 6) hx hb hts (fun w h => List.mem_cons_of_mem _ (jnGA_X7 w h)) hown hK (gz_ro hR hRA hS) 1 rfl rfl 2 (by decide) (hts _ (List.mem_cons_of_mem _ mGA_463)) (fun _ h9 => h9) rfl dX1_verdictOn_30 ?_
      have hPc : va_P (dC, dI) vwCl [(am, .inr (0, [.int amonths, .int afull, .int alean, .int alines, .int ahasMoon, .int amoonStart, .int amoonStep, .int aplaceCount, .int areportCount, .int adeedCount, .ref pl, .ref re, .ref de]))] s.heap := ((gz_ro hR hRA hS).sub [0] rfl)
      have hKc := hK.sub (tys' := []) [] rfl
      refine va_calli (va_runV (As := [.int qmonth]) (rest := [.int qday]) ⟨hx, hb, hml, hown, hts⟩ (sX0_earlyOf l dC dI am amonths afull alean alines ahasMoon amoonStart amoonStep aplaceCount areportCount adeedCount pl re de qmonth gamonths gafull galean (gi_w g_119 (by decide)) gaplaceCount gareportCount gadeedCount) (cwV 1 hts (gz_gV mGA_488 mGA_417 mGA_418 mGA_13 mGA_419 goodGA) rfl rfl rfl (by decide +kernel) ⟨Nat.le_of_ble_eq_true rfl, Nat.le_of_ble_eq_true rfl⟩) ⟨fun a U g mk q => by obtain ⟨q0, qP, qK, qZ⟩ := q; exact ⟨q0, qP, va_K.moved (u := U) (U := U.calling g mk a) (Vm.Alike.refl U.vm) qK, nzA_same (u := U) (U := U.calling g mk a) rfl qZ⟩, va_recv hKc hPc (ci := 0) (q0 := 0) rfl rfl, fun U hU hW => ⟨rfl, by rw [hU]; exact hPc, va_K.moved hW.alike hKc, nzA_warm hW hz⟩⟩ rfl rfl hl.1 rfl (lv_room (Nat.le_of_ble_eq_true rfl)) dX1_verdictOn_33 ⟨Nat.zero_le _, Nat.zero_le _⟩) hS (fun q _ h => h.elim) (fun q h => h.elim) (fun r_121 u t H1 locs ht hvm hw hB hz1 hk1 hS => ?_)
      have hP := gz_keep hP hk1
      generalize H1 = H at hP hS ⊢
      refine lv_icmp_ge (tgt := 41) hx hb dX1_verdictOn_36 (by decide) (fun c_122 => ?_) (fun c_122 => ?_)
      · refine lv_aload_n hx hb dX1_verdictOn_41 rfl (lv_at hl 1 rfl) ?_
        refine va_get (D := (dC, dI)) (ci := 1) (v := .ref fr) (C := RX1) (T := TX1) (N := 7) hx hb hts (fun w h => List.mem_cons_of_mem _ (jnGA_X1 w h)) hown hK hP 0 rfl rfl 0 (by decide) (hts _ (List.mem_cons_of_mem _ mGA_100)) (fun _ h9 => h9) rfl dX1_verdictOn_42 ?_
        refine va_get (D := (dC, dI)) (ci := 3) (v := .ref fal) (C := RX3) (T := TX3) (N := 5) hx hb hts (fun w h => List.mem_cons_of_mem _ (jnGA_X3 w h)) hown hK hP 1 rfl rfl 3 (by decide) (hts _ (List.mem_cons_of_mem _ mGA_487)) (fun _ h9 => h9) rfl dX1_verdictOn_45 ?_
        refine lv_aload_n hx hb dX1_verdictOn_48 rfl (lv_at hl 3 rfl) ?_
        refine va_get (D := (dC, dI)) (ci := 7) (v := .int qmonth) (C := RX7) (T := TX7) (N := 6) hx hb hts (fun w h => List.mem_cons_of_mem _ (jnGA_X7 w h)) hown hK (gz_ro hR hRA hS) 1 rfl rfl 2 (by decide) (hts _ (List.mem_cons_of_mem _ mGA_463)) (fun _ h9 => h9) rfl dX1_verdictOn_49 ?_
        refine va_iald hx hb hK hP 2 0 rfl rfl (gi_in gqmonth (by decide)) dX1_verdictOn_52 ?_
        refine lv_topi (fun x_123 ex_123 => ?_)
        refine lv_istore (lv' := [(4, .int x_123), (3, .int 1), (0, .ref h0), (1, .ref am), (2, .ref rp)]) hx hb dX1_verdictOn_53 hl (by decide) rfl (fun ls hl => ?_)
        refine lv_aload_n hx hb dX1_verdictOn_55 rfl (lv_at hl 2 rfl) ?_
        refine va_get (D := (dC, dI)) (ci := 1) (v := .ref fr) (C := RX1) (T := TX1) (N := 7) hx hb hts (fun w h => List.mem_cons_of_mem _ (jnGA_X1 w h)) hown hK hP 0 rfl rfl 0 (by decide) (hts _ (List.mem_cons_of_mem _ mGA_100)) (fun _ h9 => h9) rfl dX1_verdictOn_56 ?_
        refine lv_aload_n hx hb dX1_verdictOn_59 rfl (lv_at hl 4 rfl) ?_
        have hPc := hP.sub (ws' := [(fr, .inr (3, [.int fmonths, .int ffull, .int flean, .ref fal, .ref fon])), (fal, .inl (kfal, 25, .inl ffal))]) [1, 2] rfl
        have hKc := hK.sub (tys' := [(kfal, .int)]) [0] rfl
        have hDc := hD.sub (ws' := [(fr, .inr (3, [.int fmonths, .int ffull, .int flean, .ref fal, .ref fon])), (fal, .inl (kfal, 25, .inl ffal))]) [1, 2] (by decide) rfl
        have hFc := va_free (wc := [(fr, .inr (3, [.int fmonths, .int ffull, .int flean, .ref fal, .ref fon])), (fal, .inl (kfal, 25, .inl ffal))]) hD hS hA [1, 2] rfl
        have hRc_ : va_P (dC, dI) vwCl [(rp, .inr (7, [.int qplace, .int qkind, .int qmonth, .int qday, .int qknown, .int qstruck]))] H := ((gz_ro hR hRA hS).sub [1] rfl)
        have hRa_ : gz_ap (va_A [(fr, .inr (3, [.int fmonths, .int ffull, .int flean, .ref fal, .ref fon])), (fal, .inl (kfal, 25, .inl ffal))] H.size) [(rp, .inr (7, [.int qplace, .int qkind, .int qmonth, .int qday, .int qknown, .int qstruck]))] := (gz_apR (gz_ap1 hRA 1 rfl) hFc)
        refine va_callv (va_runV (As := [.ref rp]) (rest := []) ⟨hx, hb, hml, hown, hts⟩ (sX3_narrow l dC dI H.size fr fal rp fmonths ffull flean fon kfal ffal qplace qkind qmonth qday qknown qstruck gfmonths gffull gflean gqplace gqmonth gqstruck) (cwV 1 hts (gz_gV mGA_489 mGA_490 mGA_491 mGA_18 mGA_492 goodGA) rfl rfl rfl (by decide +kernel) ⟨Nat.le_of_ble_eq_true rfl, Nat.le_of_ble_eq_true rfl⟩) ⟨fun a U g mk q => by obtain ⟨q0, q1, qP, qK, qD, qZ, qR, qRA⟩ := q; exact ⟨q0, q1, qP, va_K.moved (u := U) (U := U.calling g mk a) (Vm.Alike.refl U.vm) qK, qD, nzA_same (u := U) (U := U.calling g mk a) rfl qZ, qR, qRA⟩, va_recv hKc hPc (ci := 3) (q0 := 0) rfl rfl, fun U hU hW => ⟨rfl, by rw [hU], by rw [hU]; exact hPc, va_K.moved hW.alike hKc, hDc.weaken (fun _ _ _ _ => trivial), nzA_warm hW hz, by rw [hU]; exact hRc_, hRa_⟩⟩ rfl rfl hl.1 rfl (lv_room (Nat.le_of_ble_eq_true rfl)) dX1_verdictOn_60 ⟨Nat.zero_le _, Nat.zero_le _⟩) hS (fun q _ h => hFc q h) hFc (fun u t H1 locs ht hvm hw hB hz1 hk1 hS => ?_)
        obtain ⟨f_125, hP1, hD1⟩ := hB
        rw [ht] at hP1
        obtain ⟨hP, hD⟩ := va_join (wr := [(h0, .inr (1, [.ref fr, .ref ve, .ref qu, .ref tu, .ref cb, .int queueLength, .int takenBits])), (fon, .inl (kfon, 275, .inl ffon))]) (w1 := [(fr, .inr (3, [.int fmonths, .int ffull, .int flean, .ref fal, .ref fon])), (fal, .inl (kfal, 25, .inl f_125))]) hP hD [1, 2] [0, 3] rfl rfl (by decide) (by decide) hk1 hFc hP1 hD1
        have hP := hP.sub (ws' := [(h0, .inr (1, [.ref fr, .ref ve, .ref qu, .ref tu, .ref cb, .int queueLength, .int takenBits])), (fr, .inr (3, [.int fmonths, .int ffull, .int flean, .ref fal, .ref fon])), (fal, .inl (kfal, 25, .inl f_125)), (fon, .inl (kfon, 275, .inl ffon))]) [0, 2, 3, 1] rfl
        have hD := hD.sub (ws' := [(h0, .inr (1, [.ref fr, .ref ve, .ref qu, .ref tu, .ref cb, .int queueLength, .int takenBits])), (fr, .inr (3, [.int fmonths, .int ffull, .int flean, .ref fal, .ref fon])), (fal, .inl (kfal, 25, .inl f_125)), (fon, .inl (kfon, 275, .inl ffon))]) [0, 2, 3, 1] (by decide) rfl
        generalize H1 = H at hP hS ⊢
        refine lv_aload_n hx hb dX1_verdictOn_63 rfl (lv_at hl 2 rfl) ?_
        refine va_get (D := (dC, dI)) (ci := 1) (v := .ref fr) (C := RX1) (T := TX1) (N := 7) hx hb hts (fun w h => List.mem_cons_of_mem _ (jnGA_X1 w h)) hown hK hP 0 rfl rfl 0 (by decide) (hts _ (List.mem_cons_of_mem _ mGA_100)) (fun _ h9 => h9) rfl dX1_verdictOn_64 ?_
        refine va_get (D := (dC, dI)) (ci := 3) (v := .ref fal) (C := RX3) (T := TX3) (N := 5) hx hb hts (fun w h => List.mem_cons_of_mem _ (jnGA_X3 w h)) hown hK hP 1 rfl rfl 3 (by decide) (hts _ (List.mem_cons_of_mem _ mGA_487)) (fun _ h9 => h9) rfl dX1_verdictOn_67 ?_
        refine lv_aload_n hx hb dX1_verdictOn_70 rfl (lv_at hl 4 rfl) ?_
        refine va_get (D := (dC, dI)) (ci := 7) (v := .int qmonth) (C := RX7) (T := TX7) (N := 6) hx hb hts (fun w h => List.mem_cons_of_mem _ (jnGA_X7 w h)) hown hK (gz_ro hR hRA hS) 1 rfl rfl 2 (by decide) (hts _ (List.mem_cons_of_mem _ mGA_463)) (fun _ h9 => h9) rfl dX1_verdictOn_71 ?_
        refine va_iald hx hb hK hP 2 0 rfl rfl (gi_in gqmonth (by decide)) dX1_verdictOn_74 ?_
        refine lv_topi (fun x_126 ex_126 => ?_)
        refine lv_iload hx hb dX1_verdictOn_75 (lv_at hl 0 rfl) ?_
        refine lv_icmp_eq (tgt := 90) hx hb dX1_verdictOn_77 (by decide) (fun c_127 => ?_) (fun c_127 => ?_)
        · refine lv_iconst (v := 0) hx hb dX1_verdictOn_90 (by decide) ?_
          exact W.iret (v := 0) hx hb hr (fun t ht hW => ⟨⟨0, (), rfl, (gi_w (gi_c 0 0 (by decide)) (by decide)), f_125, ffon, by rw [ht]; exact hP, hD⟩, hS.F ht⟩) hS.2.2 dX1_verdictOn_91
        · refine lv_aload_n hx hb dX1_verdictOn_80 rfl (lv_at hl 2 rfl) ?_
          refine va_get (D := (dC, dI)) (ci := 1) (v := .ref fr) (C := RX1) (T := TX1) (N := 7) hx hb hts (fun w h => List.mem_cons_of_mem _ (jnGA_X1 w h)) hown hK hP 0 rfl rfl 0 (by decide) (hts _ (List.mem_cons_of_mem _ mGA_100)) (fun _ h9 => h9) rfl dX1_verdictOn_81 ?_
          have hPc := hP.sub (ws' := [(fr, .inr (3, [.int fmonths, .int ffull, .int flean, .ref fal, .ref fon])), (fal, .inl (kfal, 25, .inl f_125)), (fon, .inl (kfon, 275, .inl ffon))]) [1, 2, 3] rfl
          have hKc := hK.sub (tys' := [(kfal, .int), (kfon, .int)]) [0, 1] rfl
          have hDc := hD.sub (ws' := [(fr, .inr (3, [.int fmonths, .int ffull, .int flean, .ref fal, .ref fon])), (fal, .inl (kfal, 25, .inl f_125)), (fon, .inl (kfon, 275, .inl ffon))]) [1, 2, 3] (by decide) rfl
          have hFc := va_free (wc := [(fr, .inr (3, [.int fmonths, .int ffull, .int flean, .ref fal, .ref fon])), (fal, .inl (kfal, 25, .inl f_125)), (fon, .inl (kfon, 275, .inl ffon))]) hD hS hA [1, 2, 3] rfl
          refine va_calli (va_runV (As := []) (rest := []) ⟨hx, hb, hml, hown, hts⟩ (sX3_fits l dC dI H.size fr fal fon fmonths ffull flean kfal f_125 kfon ffon gfmonths gffull gflean) (cwV 0 hts (gz_gV mGA_499 mGA_500 mGA_501 mGA_18 mGA_502 goodGA) rfl rfl rfl (by decide +kernel) ⟨Nat.le_of_ble_eq_true rfl, Nat.le_of_ble_eq_true rfl⟩) ⟨fun a U g mk q => by obtain ⟨q0, q1, qP, qK, qD, qZ⟩ := q; exact ⟨q0, q1, qP, va_K.moved (u := U) (U := U.calling g mk a) (Vm.Alike.refl U.vm) qK, qD, nzA_same (u := U) (U := U.calling g mk a) rfl qZ⟩, va_recv hKc hPc (ci := 3) (q0 := 0) rfl rfl, fun U hU hW => ⟨rfl, by rw [hU], by rw [hU]; exact hPc, va_K.moved hW.alike hKc, hDc.weaken (fun _ _ _ _ => trivial), nzA_warm hW hz⟩⟩ rfl rfl hl.1 rfl (lv_room (Nat.le_of_ble_eq_true rfl)) dX1_verdictOn_84 ⟨Nat.zero_le _, Nat.zero_le _⟩) hS (fun q _ h => hFc q h) hFc (fun r_128 u t H1 locs ht hvm hw hB hz1 hk1 hS => ?_)
          obtain ⟨f_129, hP1, hD1⟩ := hB
          rw [ht] at hP1
          obtain ⟨hP, hD⟩ := va_join (wr := [(h0, .inr (1, [.ref fr, .ref ve, .ref qu, .ref tu, .ref cb, .int queueLength, .int takenBits]))]) (w1 := [(fr, .inr (3, [.int fmonths, .int ffull, .int flean, .ref fal, .ref fon])), (fal, .inl (kfal, 25, .inl f_125)), (fon, .inl (kfon, 275, .inl f_129))]) hP hD [1, 2, 3] [0] rfl rfl (by decide) (by decide) hk1 hFc hP1 hD1
          have hP := hP.sub (ws' := [(h0, .inr (1, [.ref fr, .ref ve, .ref qu, .ref tu, .ref cb, .int queueLength, .int takenBits])), (fr, .inr (3, [.int fmonths, .int ffull, .int flean, .ref fal, .ref fon])), (fal, .inl (kfal, 25, .inl f_125)), (fon, .inl (kfon, 275, .inl f_129))]) [0, 1, 2, 3] rfl
          have hD := hD.sub (ws' := [(h0, .inr (1, [.ref fr, .ref ve, .ref qu, .ref tu, .ref cb, .int queueLength, .int takenBits])), (fr, .inr (3, [.int fmonths, .int ffull, .int flean, .ref fal, .ref fon])), (fal, .inl (kfal, 25, .inl f_125)), (fon, .inl (kfon, 275, .inl f_129))]) [0, 1, 2, 3] (by decide) rfl
          generalize H1 = H at hP hS ⊢
          have gr_128 : gi r_128 0 1 := hw
          refine lv_if_eq (tgt := 92) hx hb dX1_verdictOn_87 (by decide) (fun c_130 => ?_) (fun c_130 => ?_)
          · have g_131 : gi r_128 0 0 := gi_eq c_130 (gi_c 0 0 (by decide))
            refine lv_aload_n hx hb dX1_verdictOn_92 rfl (lv_at hl 2 rfl) ?_
            refine va_get (D := (dC, dI)) (ci := 1) (v := .ref fr) (C := RX1) (T := TX1) (N := 7) hx hb hts (fun w h => List.mem_cons_of_mem _ (jnGA_X1 w h)) hown hK hP 0 rfl rfl 0 (by decide) (hts _ (List.mem_cons_of_mem _ mGA_100)) (fun _ h9 => h9) rfl dX1_verdictOn_93 ?_
            refine va_get (D := (dC, dI)) (ci := 3) (v := .ref fal) (C := RX3) (T := TX3) (N := 5) hx hb hts (fun w h => List.mem_cons_of_mem _ (jnGA_X3 w h)) hown hK hP 1 rfl rfl 3 (by decide) (hts _ (List.mem_cons_of_mem _ mGA_487)) (fun _ h9 => h9) rfl dX1_verdictOn_96 ?_
            refine lv_aload_n hx hb dX1_verdictOn_99 rfl (lv_at hl 4 rfl) ?_
            refine va_get (D := (dC, dI)) (ci := 7) (v := .int qmonth) (C := RX7) (T := TX7) (N := 6) hx hb hts (fun w h => List.mem_cons_of_mem _ (jnGA_X7 w h)) hown hK (gz_ro hR hRA hS) 1 rfl rfl 2 (by decide) (hts _ (List.mem_cons_of_mem _ mGA_463)) (fun _ h9 => h9) rfl dX1_verdictOn_100 ?_
            refine lv_iload hx hb dX1_verdictOn_103 (lv_at hl 0 rfl) ?_
            refine va_iast hx hb hK hP hD hS 2 0 rfl rfl (gi_in gqmonth (by decide)) dX1_verdictOn_105 (fun H locs hP hD hS => ?_)
            have hP : va_P (dC, dI) vwCl [(h0, .inr (1, [.ref fr, .ref ve, .ref qu, .ref tu, .ref cb, .int queueLength, .int takenBits])), (fr, .inr (3, [.int fmonths, .int ffull, .int flean, .ref fal, .ref fon])), (fal, .inl (kfal, 25, .inl (upd f_125 (qmonth : Int32).toNatClampNeg x_123))), (fon, .inl (kfon, 275, .inl f_129))] H := hP
            have hD : va_D A [(h0, .inr (1, [.ref fr, .ref ve, .ref qu, .ref tu, .ref cb, .int queueLength, .int takenBits])), (fr, .inr (3, [.int fmonths, .int ffull, .int flean, .ref fal, .ref fon])), (fal, .inl (kfal, 25, .inl (upd f_125 (qmonth : Int32).toNatClampNeg x_123))), (fon, .inl (kfon, 275, .inl f_129))] := hD
            generalize upd f_125 (qmonth : Int32).toNatClampNeg x_123 = f_132 at hP hD
            refine lv_iconst (v := 2) hx hb dX1_verdictOn_106 (by decide) ?_
            exact W.iret (v := 2) hx hb hr (fun t ht hW => ⟨⟨2, (), rfl, (gi_w (gi_c 2 2 (by decide)) (by decide)), f_132, f_129, by rw [ht]; exact hP, hD⟩, hS.F ht⟩) hS.2.2 dX1_verdictOn_107
          · have g_133 : gi r_128 1 1 := gi_ne_lo c_130 gr_128 (gi_c 0 0 (by decide)) (by decide)
            refine lv_iconst (v := 0) hx hb dX1_verdictOn_90 (by decide) ?_
            exact W.iret (v := 0) hx hb hr (fun t ht hW => ⟨⟨0, (), rfl, (gi_w (gi_c 0 0 (by decide)) (by decide)), f_125, f_129, by rw [ht]; exact hP, hD⟩, hS.F ht⟩) hS.2.2 dX1_verdictOn_91
      · have g_134 : gi qday (-2147483648) 2147483646 := gi_lt_l (Int32.not_le.mp c_122) (gi_any qday) (gi_any r_121) (by decide)
        have g_135 : gi r_121 (-2147483647) 2147483647 := gi_lt_r (Int32.not_le.mp c_122) (gi_any qday) (gi_any r_121) (by decide)
        refine lv_iconst (v := 1) hx hb dX1_verdictOn_39 (by decide) ?_
        exact W.iret (v := 1) hx hb hr (fun t ht hW => ⟨⟨1, (), rfl, (gi_w (gi_c 1 1 (by decide)) (by decide)), ffal, ffon, by rw [ht]; exact hP, hD⟩, hS.F ht⟩) hS.2.2 dX1_verdictOn_40
theorem dX1_judge_0 : decode cX1_judge 0 = .ok (.aload_n 0, 1) := by decide +kernel
theorem dX1_judge_1 : decode cX1_judge 1 = .ok (.aload_n 1, 1) := by decide +kernel
theorem dX1_judge_2 : decode cX1_judge 2 = .ok (.iload_n 2, 1) := by decide +kernel
theorem dX1_judge_3 : decode cX1_judge 3 = .ok (.invokevirtual 39, 3) := by decide +kernel
theorem dX1_judge_6 : decode cX1_judge 6 = .ok (.aload_n 0, 1) := by decide +kernel
theorem dX1_judge_7 : decode cX1_judge 7 = .ok (.getfield 12, 3) := by decide +kernel
theorem dX1_judge_10 : decode cX1_judge 10 = .ok (.aload_n 1, 1) := by decide +kernel
theorem dX1_judge_11 : decode cX1_judge 11 = .ok (.invokevirtual 43, 3) := by decide +kernel
theorem dX1_judge_14 : decode cX1_judge 14 = .ok (.aload_n 0, 1) := by decide +kernel
theorem dX1_judge_15 : decode cX1_judge 15 = .ok (.iconst 0, 1) := by decide +kernel
theorem dX1_judge_16 : decode cX1_judge 16 = .ok (.putfield 36, 3) := by decide +kernel
theorem dX1_judge_19 : decode cX1_judge 19 = .ok (.iconst 0, 1) := by decide +kernel
theorem dX1_judge_20 : decode cX1_judge 20 = .ok (.istore_n 3, 1) := by decide +kernel
theorem dX1_judge_21 : decode cX1_judge 21 = .ok (.iload_n 3, 1) := by decide +kernel
theorem dX1_judge_22 : decode cX1_judge 22 = .ok (.aload_n 0, 1) := by decide +kernel
theorem dX1_judge_23 : decode cX1_judge 23 = .ok (.getfield 32, 3) := by decide +kernel
theorem dX1_judge_26 : decode cX1_judge 26 = .ok (.if_icmp .ge 59, 3) := by decide +kernel
theorem dX1_judge_29 : decode cX1_judge 29 = .ok (.aload_n 0, 1) := by decide +kernel
theorem dX1_judge_30 : decode cX1_judge 30 = .ok (.getfield 22, 3) := by decide +kernel
theorem dX1_judge_33 : decode cX1_judge 33 = .ok (.iload_n 3, 1) := by decide +kernel
theorem dX1_judge_34 : decode cX1_judge 34 = .ok (.iaload, 1) := by decide +kernel
theorem dX1_judge_35 : decode cX1_judge 35 = .ok (.istore 4, 2) := by decide +kernel
theorem dX1_judge_37 : decode cX1_judge 37 = .ok (.aload_n 0, 1) := by decide +kernel
theorem dX1_judge_38 : decode cX1_judge 38 = .ok (.getfield 18, 3) := by decide +kernel
theorem dX1_judge_41 : decode cX1_judge 41 = .ok (.iload 4, 2) := by decide +kernel
theorem dX1_judge_43 : decode cX1_judge 43 = .ok (.aload_n 0, 1) := by decide +kernel
theorem dX1_judge_44 : decode cX1_judge 44 = .ok (.aload_n 1, 1) := by decide +kernel
theorem dX1_judge_45 : decode cX1_judge 45 = .ok (.aload_n 1, 1) := by decide +kernel
theorem dX1_judge_46 : decode cX1_judge 46 = .ok (.getfield 47, 3) := by decide +kernel
theorem dX1_judge_49 : decode cX1_judge 49 = .ok (.iload 4, 2) := by decide +kernel
theorem dX1_judge_51 : decode cX1_judge 51 = .ok (.aaload, 1) := by decide +kernel
theorem dX1_judge_52 : decode cX1_judge 52 = .ok (.invokevirtual 53, 3) := by decide +kernel
theorem dX1_judge_55 : decode cX1_judge 55 = .ok (.iastore, 1) := by decide +kernel
theorem dX1_judge_56 : decode cX1_judge 56 = .ok (.aload_n 0, 1) := by decide +kernel
theorem dX1_judge_57 : decode cX1_judge 57 = .ok (.getfield 18, 3) := by decide +kernel
theorem dX1_judge_60 : decode cX1_judge 60 = .ok (.iload 4, 2) := by decide +kernel
theorem dX1_judge_62 : decode cX1_judge 62 = .ok (.iaload, 1) := by decide +kernel
theorem dX1_judge_63 : decode cX1_judge 63 = .ok (.ifCond .ne 16, 3) := by decide +kernel
theorem dX1_judge_66 : decode cX1_judge 66 = .ok (.aload_n 0, 1) := by decide +kernel
theorem dX1_judge_67 : decode cX1_judge 67 = .ok (.dup, 1) := by decide +kernel
theorem dX1_judge_68 : decode cX1_judge 68 = .ok (.getfield 36, 3) := by decide +kernel
theorem dX1_judge_71 : decode cX1_judge 71 = .ok (.iconst 1, 1) := by decide +kernel
theorem dX1_judge_72 : decode cX1_judge 72 = .ok (.iload 4, 2) := by decide +kernel
theorem dX1_judge_74 : decode cX1_judge 74 = .ok (.ishl, 1) := by decide +kernel
theorem dX1_judge_75 : decode cX1_judge 75 = .ok (.ior, 1) := by decide +kernel
theorem dX1_judge_76 : decode cX1_judge 76 = .ok (.putfield 36, 3) := by decide +kernel
theorem dX1_judge_79 : decode cX1_judge 79 = .ok (.iinc 3 1, 3) := by decide +kernel
theorem dX1_judge_82 : decode cX1_judge 82 = .ok (.goto (-61), 3) := by decide +kernel
theorem dX1_judge_85 : decode cX1_judge 85 = .ok (.aload_n 0, 1) := by decide +kernel
theorem dX1_judge_86 : decode cX1_judge 86 = .ok (.getfield 12, 3) := by decide +kernel
theorem dX1_judge_89 : decode cX1_judge 89 = .ok (.invokevirtual 57, 3) := by decide +kernel
theorem dX1_judge_92 : decode cX1_judge 92 = .ok (.pop, 1) := by decide +kernel
theorem dX1_judge_93 : decode cX1_judge 93 = .ok (.aload_n 0, 1) := by decide +kernel
theorem dX1_judge_94 : decode cX1_judge 94 = .ok (.getfield 12, 3) := by decide +kernel
theorem dX1_judge_97 : decode cX1_judge 97 = .ok (.aload_n 0, 1) := by decide +kernel
theorem dX1_judge_98 : decode cX1_judge 98 = .ok (.getfield 29, 3) := by decide +kernel
theorem dX1_judge_101 : decode cX1_judge 101 = .ok (.invokevirtual 61, 3) := by decide +kernel
theorem dX1_judge_104 : decode cX1_judge 104 = .ok (.return_, 1) := by decide +kernel
set_option maxHeartbeats 4000000 in
set_option maxRecDepth 100000 in
theorem lp_sX1_judge {p : Program} {l : Launch} {e : Env} {R : Room} {s : State} {m : MethodId} {args : Array Value} {below : List Frame} {meth : Method} {c : Code} {Q : State → Prop} {A : Nat → Prop} {cells slots : Nat} {dC : Nat → ClassId} {dI : Nat → Nat → Nat} (h0 : Nat) (ve : Nat) (qu : Nat) (tu : Nat) (cb : Nat) (fr : Nat) (fal : Nat) (fon : Nat) (am : Nat) (pl : Nat) (re : Nat) (queueLength : Int32) (takenBits : Int32) (kve : ClassId) (fve : Nat → Int32) (kqu : ClassId) (fqu : Nat → Int32) (ktu : ClassId) (ftu : Nat → Int64) (kcb : ClassId) (fcb : Nat → Int32) (fmonths : Int32) (ffull : Int32) (flean : Int32) (kfal : ClassId) (ffal : Nat → Int32) (kfon : ClassId) (ffon : Nat → Int32) (amonths : Int32) (afull : Int32) (alean : Int32) (alines : Int32) (ahasMoon : Int32) (amoonStart : Int32) (amoonStep : Int32) (aplaceCount : Int32) (areportCount : Int32) (adeedCount : Int32) (de : Nat) (kpl : ClassId) (kre : ClassId) (pa : Nat → Nat) (p_name : Nat → Int32) (p_trust : Nat → Int32) (ra : Nat → Nat) (r_place : Nat → Int32) (r_kind : Nat → Int32) (r_month : Nat → Int32) (r_day : Nat → Int32) (r_known : Nat → Int32) (r_struck : Nat → Int32) (p2 : Int32) (gqueueLength : gi queueLength 0 24) (gfqu : ga fqu 24 0 23) (gfmonths : gi fmonths 0 24) (gffull : gi ffull 0 5) (gflean : gi flean 0 5) (gamonths : gi amonths 0 24) (gafull : gi afull 0 5) (galean : gi alean 0 5) (gahasMoon : gi ahasMoon 0 1) (gaplaceCount : gi aplaceCount 0 6) (gareportCount : gi areportCount 0 24) (gadeedCount : gi adeedCount 0 8) (gr_place : ga r_place 24 0 5) (gr_month : ga r_month 24 0 23) (gr_struck : ga r_struck 24 0 1) (hx : p.tables.exec = Jvm.exec) (hb : c.code = cX1_judge) (hml : c.maxLocals = 5) (hown : s.vm.findClass RX1 = some m.cls) (hts : ∀ w ∈ ((.code yX1_judge cX1_judge 5 none :: wsGA) : List Cond), w.before args s = true) (hK : va_K (dC, dI) vwCl [(kve, .int), (kqu, .int), (ktu, .long), (kcb, .int), (kfal, .int), (kfon, .int), (kpl, .object RX5), (kre, .object RX7)] s) (hz : nzA s) (hR : va_P (dC, dI) vwCl [(am, .inr (0, [.int amonths, .int afull, .int alean, .int alines, .int ahasMoon, .int amoonStart, .int amoonStep, .int aplaceCount, .int areportCount, .int adeedCount, .ref pl, .ref re, .ref de])), (pl, .inl (kpl, 6, .inr (.inr (.inr (.inr (fun i => some (pa i))))))), (re, .inl (kre, 24, .inr (.inr (.inr (.inr (fun i => some (ra i)))))))] s.heap) (hRA : gz_ap A [(am, .inr (0, [.int amonths, .int afull, .int alean, .int alines, .int ahasMoon, .int amoonStart, .int amoonStep, .int aplaceCount, .int areportCount, .int adeedCount, .ref pl, .ref re, .ref de])), (pl, .inl (kpl, 6, .inr (.inr (.inr (.inr (fun i => some (pa i))))))), (re, .inl (kre, 24, .inr (.inr (.inr (.inr (fun i => some (ra i)))))))]) (hF0 : va_P (dC, dI) vwCl (gz_fam 6 pa 5 (fun i => [.int (p_name i), .int (p_trust i)])) s.heap) (hFA0 : gz_ap A (gz_fam 6 pa 5 (fun i => [.int (p_name i), .int (p_trust i)]))) (hF1 : va_P (dC, dI) vwCl (gz_fam 24 ra 7 (fun i => [.int (r_place i), .int (r_kind i), .int (r_month i), .int (r_day i), .int (r_known i), .int (r_struck i)])) s.heap) (hFA1 : gz_ap A (gz_fam 24 ra 7 (fun i => [.int (r_place i), .int (r_kind i), .int (r_month i), .int (r_day i), .int (r_known i), .int (r_struck i)]))) (hA : ∀ q : Nat, s.heap.size ≤ q → A q) (hRf : 3 ≤ R.frames) (hRl : 71 ≤ R.locals) (hRc : cells ≤ R.cells) (hRs : slots ≤ R.slots) (kr104 : ∀ (w0_5 : Int32) (w0_6 : Int32) (w5_0 : Int32) (w5_1 : Int32) (w5_2 : Int32) (z1 : Nat → Int32) (z2 : Nat → Int32) (z3 : Nat → Int64) (z4 : Nat → Int32) (z6 : Nat → Int32) (z7 : Nat → Int32) (H : Heap) (locs : List Loc) (ls : Array Slot), gi w0_5 0 24 → gi w5_0 0 24 → gi w5_1 0 5 → gi w5_2 0 5 → ga z2 24 0 23 → va_P (dC, dI) vwCl [(h0, .inr (1, [.ref fr, .ref ve, .ref qu, .ref tu, .ref cb, .int w0_5, .int w0_6])), (ve, .inl (kve, 24, .inl z1)), (qu, .inl (kqu, 24, .inl z2)), (tu, .inl (ktu, 24, .inr (.inl z3))), (cb, .inl (kcb, 25, .inl z4)), (fr, .inr (3, [.int w5_0, .int w5_1, .int w5_2, .ref fal, .ref fon])), (fal, .inl (kfal, 25, .inl z6)), (fon, .inl (kfon, 275, .inl z7))] H → va_D A [(h0, .inr (1, [.ref fr, .ref ve, .ref qu, .ref tu, .ref cb, .int w0_5, .int w0_6])), (ve, .inl (kve, 24, .inl z1)), (qu, .inl (kqu, 24, .inl z2)), (tu, .inl (ktu, 24, .inr (.inl z3))), (cb, .inl (kcb, 25, .inl z4)), (fr, .inr (3, [.int w5_0, .int w5_1, .int w5_2, .ref fal, .ref fon])), (fal, .inl (kfal, 25, .inl z6)), (fon, .inl (kfon, 275, .inl z7))] → va_S A s.heap H locs → lv_has ls 5 [] → W p l e R s m args below meth c H locs cells slots Q (F0 m 104 ls [])) : ∀ z : Nat, (∀ (v3 : Int32) (w0_5 : Int32) (w0_6 : Int32) (w5_0 : Int32) (w5_1 : Int32) (w5_2 : Int32) (z1 : Nat → Int32) (z2 : Nat → Int32) (z3 : Nat → Int64) (z6 : Nat → Int32) (z7 : Nat → Int32) (H : Heap) (locs : List Loc) (ls : Array Slot), gi v3 0 24 → gi w0_5 0 24 → gi w5_0 0 24 → gi w5_1 0 5 → gi w5_2 0 5 → ga z2 24 0 23 → 49 + (-2) * v3.toInt < (z : Int) → va_P (dC, dI) vwCl [(h0, .inr (1, [.ref fr, .ref ve, .ref qu, .ref tu, .ref cb, .int w0_5, .int w0_6])), (ve, .inl (kve, 24, .inl z1)), (qu, .inl (kqu, 24, .inl z2)), (tu, .inl (ktu, 24, .inr (.inl z3))), (cb, .inl (kcb, 25, .inl fcb)), (fr, .inr (3, [.int w5_0, .int w5_1, .int w5_2, .ref fal, .ref fon])), (fal, .inl (kfal, 25, .inl z6)), (fon, .inl (kfon, 275, .inl z7))] H → va_D A [(h0, .inr (1, [.ref fr, .ref ve, .ref qu, .ref tu, .ref cb, .int w0_5, .int w0_6])), (ve, .inl (kve, 24, .inl z1)), (qu, .inl (kqu, 24, .inl z2)), (tu, .inl (ktu, 24, .inr (.inl z3))), (cb, .inl (kcb, 25, .inl fcb)), (fr, .inr (3, [.int w5_0, .int w5_1, .int w5_2, .ref fal, .ref fon])), (fal, .inl (kfal, 25, .inl z6)), (fon, .inl (kfon, 275, .inl z7))] → va_S A s.heap H locs → lv_has ls 5 [(0, .ref h0), (1, .ref am), (2, .int p2), (3, .int v3)] → W p l e R s m args below meth c H locs cells slots Q (F0 m 21 ls [])) := by
  intro z
  induction z with
  | zero =>
    intro v3 w0_5 w0_6 w5_0 w5_1 w5_2 z1 z2 z3 z6 z7 H locs ls gv3 gw0_5 gw5_0 gw5_1 gw5_2 gz2 hmu hP hD hS hl
    exact absurd hmu (by have hv31 := gv3.1; have hv32 := gv3.2; omega)
  | succ z ih =>
      intro v3 w0_5 w0_6 w5_0 w5_1 w5_2 z1 z2 z3 z6 z7 H locs ls gv3 gw0_5 gw5_0 gw5_1 gw5_2 gz2 hmu hP hD hS hl
      refine lv_iload_n hx hb dX1_judge_21 rfl (lv_at hl 3 rfl) ?_
      refine lv_aload_n hx hb dX1_judge_22 rfl (lv_at hl 0 rfl) ?_
      refine va_get (D := (dC, dI)) (ci := 1) (v := .int w0_5) (C := RX1) (T := TX1) (N := 7) hx hb hts (fun w h => List.mem_cons_of_mem _ (jnGA_X1 w h)) hown hK hP 0 rfl rfl 5 (by decide) (hts _ (List.mem_cons_of_mem _ mGA_106)) (fun _ h9 => h9) rfl dX1_judge_23 ?_
      refine lv_icmp_ge (tgt := 85) hx hb dX1_judge_26 (by decide) (fun c_436 => ?_) (fun c_436 => ?_)
      · refine lv_aload_n hx hb dX1_judge_85 rfl (lv_at hl 0 rfl) ?_
        refine va_get (D := (dC, dI)) (ci := 1) (v := .ref fr) (C := RX1) (T := TX1) (N := 7) hx hb hts (fun w h => List.mem_cons_of_mem _ (jnGA_X1 w h)) hown hK hP 0 rfl rfl 0 (by decide) (hts _ (List.mem_cons_of_mem _ mGA_100)) (fun _ h9 => h9) rfl dX1_judge_86 ?_
        have hPc := hP.sub (ws' := [(fr, .inr (3, [.int w5_0, .int w5_1, .int w5_2, .ref fal, .ref fon])), (fal, .inl (kfal, 25, .inl z6)), (fon, .inl (kfon, 275, .inl z7))]) [5, 6, 7] rfl
        have hKc := hK.sub (tys' := [(kfal, .int), (kfon, .int)]) [4, 5] rfl
        have hDc := hD.sub (ws' := [(fr, .inr (3, [.int w5_0, .int w5_1, .int w5_2, .ref fal, .ref fon])), (fal, .inl (kfal, 25, .inl z6)), (fon, .inl (kfon, 275, .inl z7))]) [5, 6, 7] (by decide) rfl
        have hFc := va_free (wc := [(fr, .inr (3, [.int w5_0, .int w5_1, .int w5_2, .ref fal, .ref fon])), (fal, .inl (kfal, 25, .inl z6)), (fon, .inl (kfon, 275, .inl z7))]) hD hS hA [5, 6, 7] rfl
        refine va_calli (va_runV (As := []) (rest := []) ⟨hx, hb, hml, hown, hts⟩ (sX3_fits l dC dI H.size fr fal fon w5_0 w5_1 w5_2 kfal z6 kfon z7 gw5_0 gw5_1 gw5_2) (cwV 0 hts (gz_gV mGA_499 mGA_500 mGA_501 mGA_18 mGA_502 goodGA) rfl rfl rfl (by decide +kernel) ⟨Nat.le_trans (Nat.le_of_ble_eq_true rfl) hRf, Nat.le_trans (Nat.le_of_ble_eq_true rfl) hRl⟩) ⟨fun a U g mk q => by obtain ⟨q0, q1, qP, qK, qD, qZ⟩ := q; exact ⟨q0, q1, qP, va_K.moved (u := U) (U := U.calling g mk a) (Vm.Alike.refl U.vm) qK, qD, nzA_same (u := U) (U := U.calling g mk a) rfl qZ⟩, va_recv hKc hPc (ci := 3) (q0 := 0) rfl rfl, fun U hU hW => ⟨rfl, by rw [hU], by rw [hU]; exact hPc, va_K.moved hW.alike hKc, hDc.weaken (fun _ _ _ _ => trivial), nzA_warm hW hz⟩⟩ rfl rfl hl.1 rfl (lv_room (Nat.le_of_ble_eq_true rfl)) dX1_judge_89 ⟨hRc, hRs⟩) hS (fun q _ h => hFc q h) hFc (fun r_437 u t H1 locs ht hvm hw hB hz1 hk1 hS => ?_)
        obtain ⟨f_438, hP1, hD1⟩ := hB
        rw [ht] at hP1
        obtain ⟨hP, hD⟩ := va_join (wr := [(h0, .inr (1, [.ref fr, .ref ve, .ref qu, .ref tu, .ref cb, .int w0_5, .int w0_6])), (ve, .inl (kve, 24, .inl z1)), (qu, .inl (kqu, 24, .inl z2)), (tu, .inl (ktu, 24, .inr (.inl z3))), (cb, .inl (kcb, 25, .inl fcb))]) (w1 := [(fr, .inr (3, [.int w5_0, .int w5_1, .int w5_2, .ref fal, .ref fon])), (fal, .inl (kfal, 25, .inl z6)), (fon, .inl (kfon, 275, .inl f_438))]) hP hD [5, 6, 7] [0, 1, 2, 3, 4] rfl rfl (by decide) (by decide) hk1 hFc hP1 hD1
        have hP := hP.sub (ws' := [(h0, .inr (1, [.ref fr, .ref ve, .ref qu, .ref tu, .ref cb, .int w0_5, .int w0_6])), (ve, .inl (kve, 24, .inl z1)), (qu, .inl (kqu, 24, .inl z2)), (tu, .inl (ktu, 24, .inr (.inl z3))), (cb, .inl (kcb, 25, .inl fcb)), (fr, .inr (3, [.int w5_0, .int w5_1, .int w5_2, .ref fal, .ref fon])), (fal, .inl (kfal, 25, .inl z6)), (fon, .inl (kfon, 275, .inl f_438))]) [0, 1, 2, 3, 4, 5, 6, 7] rfl
        have hD := hD.sub (ws' := [(h0, .inr (1, [.ref fr, .ref ve, .ref qu, .ref tu, .ref cb, .int w0_5, .int w0_6])), (ve, .inl (kve, 24, .inl z1)), (qu, .inl (kqu, 24, .inl z2)), (tu, .inl (ktu, 24, .inr (.inl z3))), (cb, .inl (kcb, 25, .inl fcb)), (fr, .inr (3, [.int w5_0, .int w5_1, .int w5_2, .ref fal, .ref fon])), (fal, .inl (kfal, 25, .inl z6)), (fon, .inl (kfon, 275, .inl f_438))]) [0, 1, 2, 3, 4, 5, 6, 7] (by decide) rfl
        generalize H1 = H at hP hS ⊢
        have gr_437 : gi r_437 0 1 := hw
        refine lv_pop hx hb dX1_judge_92 rfl ?_
        refine lv_aload_n hx hb dX1_judge_93 rfl (lv_at hl 0 rfl) ?_
        refine va_get (D := (dC, dI)) (ci := 1) (v := .ref fr) (C := RX1) (T := TX1) (N := 7) hx hb hts (fun w h => List.mem_cons_of_mem _ (jnGA_X1 w h)) hown hK hP 0 rfl rfl 0 (by decide) (hts _ (List.mem_cons_of_mem _ mGA_100)) (fun _ h9 => h9) rfl dX1_judge_94 ?_
        refine lv_aload_n hx hb dX1_judge_97 rfl (lv_at hl 0 rfl) ?_
        refine va_get (D := (dC, dI)) (ci := 1) (v := .ref cb) (C := RX1) (T := TX1) (N := 7) hx hb hts (fun w h => List.mem_cons_of_mem _ (jnGA_X1 w h)) hown hK hP 0 rfl rfl 4 (by decide) (hts _ (List.mem_cons_of_mem _ mGA_105)) (fun _ h9 => h9) rfl dX1_judge_98 ?_
        have hPc := hP.sub (ws' := [(fr, .inr (3, [.int w5_0, .int w5_1, .int w5_2, .ref fal, .ref fon])), (fal, .inl (kfal, 25, .inl z6)), (fon, .inl (kfon, 275, .inl f_438)), (cb, .inl (kcb, 25, .inl fcb))]) [5, 6, 7, 4] rfl
        have hKc := hK.sub (tys' := [(kfal, .int), (kfon, .int), (kcb, .int)]) [4, 5, 3] rfl
        have hDc := hD.sub (ws' := [(fr, .inr (3, [.int w5_0, .int w5_1, .int w5_2, .ref fal, .ref fon])), (fal, .inl (kfal, 25, .inl z6)), (fon, .inl (kfon, 275, .inl f_438)), (cb, .inl (kcb, 25, .inl fcb))]) [5, 6, 7, 4] (by decide) rfl
        have hFc := va_free (wc := [(fr, .inr (3, [.int w5_0, .int w5_1, .int w5_2, .ref fal, .ref fon])), (fal, .inl (kfal, 25, .inl z6)), (fon, .inl (kfon, 275, .inl f_438)), (cb, .inl (kcb, 25, .inl fcb))]) hD hS hA [5, 6, 7, 4] rfl
        refine va_callv (va_runV (As := [.ref cb]) (rest := []) ⟨hx, hb, hml, hown, hts⟩ (sX3_beginsInto l dC dI H.size fr fal fon cb w5_0 w5_1 w5_2 kfal z6 kfon f_438 kcb fcb gw5_0 gw5_1 gw5_2) (cwV 1 hts (gz_gV mGA_511 mGA_512 mGA_513 mGA_18 mGA_514 goodGA) rfl rfl rfl (by decide +kernel) ⟨Nat.le_trans (Nat.le_of_ble_eq_true rfl) hRf, Nat.le_trans (Nat.le_of_ble_eq_true rfl) hRl⟩) ⟨fun a U g mk q => by obtain ⟨q0, q1, qP, qK, qD, qZ⟩ := q; exact ⟨q0, q1, qP, va_K.moved (u := U) (U := U.calling g mk a) (Vm.Alike.refl U.vm) qK, qD, nzA_same (u := U) (U := U.calling g mk a) rfl qZ⟩, va_recv hKc hPc (ci := 3) (q0 := 0) rfl rfl, fun U hU hW => ⟨rfl, by rw [hU], by rw [hU]; exact hPc, va_K.moved hW.alike hKc, hDc.weaken (fun _ _ _ _ => trivial), nzA_warm hW hz⟩⟩ rfl rfl hl.1 rfl (lv_room (Nat.le_of_ble_eq_true rfl)) dX1_judge_101 ⟨hRc, hRs⟩) hS (fun q _ h => hFc q h) hFc (fun u t H1 locs ht hvm hw hB hz1 hk1 hS => ?_)
        obtain ⟨f_440, hP1, hD1⟩ := hB
        rw [ht] at hP1
        obtain ⟨hP, hD⟩ := va_join (wr := [(h0, .inr (1, [.ref fr, .ref ve, .ref qu, .ref tu, .ref cb, .int w0_5, .int w0_6])), (ve, .inl (kve, 24, .inl z1)), (qu, .inl (kqu, 24, .inl z2)), (tu, .inl (ktu, 24, .inr (.inl z3)))]) (w1 := [(fr, .inr (3, [.int w5_0, .int w5_1, .int w5_2, .ref fal, .ref fon])), (fal, .inl (kfal, 25, .inl z6)), (fon, .inl (kfon, 275, .inl f_438)), (cb, .inl (kcb, 25, .inl f_440))]) hP hD [5, 6, 7, 4] [0, 1, 2, 3] rfl rfl (by decide) (by decide) hk1 hFc hP1 hD1
        have hP := hP.sub (ws' := [(h0, .inr (1, [.ref fr, .ref ve, .ref qu, .ref tu, .ref cb, .int w0_5, .int w0_6])), (ve, .inl (kve, 24, .inl z1)), (qu, .inl (kqu, 24, .inl z2)), (tu, .inl (ktu, 24, .inr (.inl z3))), (cb, .inl (kcb, 25, .inl f_440)), (fr, .inr (3, [.int w5_0, .int w5_1, .int w5_2, .ref fal, .ref fon])), (fal, .inl (kfal, 25, .inl z6)), (fon, .inl (kfon, 275, .inl f_438))]) [0, 1, 2, 3, 7, 4, 5, 6] rfl
        have hD := hD.sub (ws' := [(h0, .inr (1, [.ref fr, .ref ve, .ref qu, .ref tu, .ref cb, .int w0_5, .int w0_6])), (ve, .inl (kve, 24, .inl z1)), (qu, .inl (kqu, 24, .inl z2)), (tu, .inl (ktu, 24, .inr (.inl z3))), (cb, .inl (kcb, 25, .inl f_440)), (fr, .inr (3, [.int w5_0, .int w5_1, .int w5_2, .ref fal, .ref fon])), (fal, .inl (kfal, 25, .inl z6)), (fon, .inl (kfon, 275, .inl f_438))]) [0, 1, 2, 3, 7, 4, 5, 6] (by decide) rfl
        generalize H1 = H at hP hS ⊢
        exact kr104 w0_5 w0_6 w5_0 w5_1 w5_2 z1 z2 z3 f_440 z6 f_438 _ _ _ gw0_5 gw5_0 gw5_1 gw5_2 gz2 hP hD hS (lv_sub hl [] rfl)
      · have g_441 : gi v3 0 23 := gi_lt_l (Int32.not_le.mp c_436) gv3 gw0_5 (by decide)
        have g_442 : gi w0_5 1 24 := gi_lt_r (Int32.not_le.mp c_436) gv3 gw0_5 (by decide)
        refine lv_aload_n hx hb dX1_judge_29 rfl (lv_at hl 0 rfl) ?_
        refine va_get (D := (dC, dI)) (ci := 1) (v := .ref qu) (C := RX1) (T := TX1) (N := 7) hx hb hts (fun w h => List.mem_cons_of_mem _ (jnGA_X1 w h)) hown hK hP 0 rfl rfl 2 (by decide) (hts _ (List.mem_cons_of_mem _ mGA_102)) (fun _ h9 => h9) rfl dX1_judge_30 ?_
        refine lv_iload_n hx hb dX1_judge_33 rfl (lv_at hl 3 rfl) ?_
        refine va_iald hx hb hK hP 2 1 rfl rfl (gi_in g_441 (by decide)) dX1_judge_34 ?_
        refine lv_topi (fun x_443 ex_443 => ?_)
        have gx_443 : gi x_443 0 23 := ga_at gz2 (gi_in g_441 (by decide)) ex_443
        refine lv_istore (lv' := [(4, .int x_443), (0, .ref h0), (1, .ref am), (2, .int p2), (3, .int v3)]) hx hb dX1_judge_35 hl (by decide) rfl (fun ls hl => ?_)
        refine lv_aload_n hx hb dX1_judge_37 rfl (lv_at hl 1 rfl) ?_
        refine va_get (D := (dC, dI)) (ci := 1) (v := .ref ve) (C := RX1) (T := TX1) (N := 7) hx hb hts (fun w h => List.mem_cons_of_mem _ (jnGA_X1 w h)) hown hK hP 0 rfl rfl 1 (by decide) (hts _ (List.mem_cons_of_mem _ mGA_101)) (fun _ h9 => h9) rfl dX1_judge_38 ?_
        refine lv_iload hx hb dX1_judge_41 (lv_at hl 0 rfl) ?_
        refine lv_aload_n hx hb dX1_judge_43 rfl (lv_at hl 1 rfl) ?_
        refine lv_aload_n hx hb dX1_judge_44 rfl (lv_at hl 2 rfl) ?_
        refine lv_aload_n hx hb dX1_judge_45 rfl (lv_at hl 2 rfl) ?_
        refine va_get (D := (dC, dI)) (ci := 0) (v := .ref re) (C := RX0) (T := TX0) (N := 13) hx hb hts (fun w h => List.mem_cons_of_mem _ (jnGA_X0 w h)) hown hK (gz_ro hR hRA hS) 0 rfl rfl 11 (by decide) (hts _ (List.mem_cons_of_mem _ mGA_447)) (fun _ h9 => h9) rfl dX1_judge_46 ?_
        refine lv_iload hx hb dX1_judge_49 (lv_at hl 0 rfl) ?_
        refine va_aldq hx hb hK (gz_ro hR hRA hS) 2 7 rfl rfl (gi_in gx_443 (by decide)) dX1_judge_51 ?_
        refine W.eq (g2 := F0 m 52 ls [.ref (ra x_443.toNatClampNeg), .ref am, .ref h0, .int x_443, .ref ve]) rfl ?_
        have hPc := hP.sub (ws' := [(h0, .inr (1, [.ref fr, .ref ve, .ref qu, .ref tu, .ref cb, .int w0_5, .int w0_6])), (fr, .inr (3, [.int w5_0, .int w5_1, .int w5_2, .ref fal, .ref fon])), (fal, .inl (kfal, 25, .inl z6)), (fon, .inl (kfon, 275, .inl z7))]) [0, 5, 6, 7] rfl
        have hKc := hK.sub (tys' := [(kfal, .int), (kfon, .int)]) [4, 5] rfl
        have hDc := hD.sub (ws' := [(h0, .inr (1, [.ref fr, .ref ve, .ref qu, .ref tu, .ref cb, .int w0_5, .int w0_6])), (fr, .inr (3, [.int w5_0, .int w5_1, .int w5_2, .ref fal, .ref fon])), (fal, .inl (kfal, 25, .inl z6)), (fon, .inl (kfon, 275, .inl z7))]) [0, 5, 6, 7] (by decide) rfl
        have hFc := va_free (wc := [(h0, .inr (1, [.ref fr, .ref ve, .ref qu, .ref tu, .ref cb, .int w0_5, .int w0_6])), (fr, .inr (3, [.int w5_0, .int w5_1, .int w5_2, .ref fal, .ref fon])), (fal, .inl (kfal, 25, .inl z6)), (fon, .inl (kfon, 275, .inl z7))]) hD hS hA [0, 5, 6, 7] rfl
        have hRc_ : va_P (dC, dI) vwCl [(am, .inr (0, [.int amonths, .int afull, .int alean, .int alines, .int ahasMoon, .int amoonStart, .int amoonStep, .int aplaceCount, .int areportCount, .int adeedCount, .ref pl, .ref re, .ref de])), ((ra x_443.toNatClampNeg), .inr (7, [.int (r_place x_443.toNatClampNeg), .int (r_kind x_443.toNatClampNeg), .int (r_month x_443.toNatClampNeg), .int (r_day x_443.toNatClampNeg), .int (r_known x_443.toNatClampNeg), .int (r_struck x_443.toNatClampNeg)]))] H := (gz_cat ((gz_ro hR hRA hS).sub [0] rfl) (gz_fam1 (gz_ro hF1 hFA1 hS) (gz_clt (gi_in (n := 24) gx_443 (by decide)))))
        have hRa_ : gz_ap (va_A [(h0, .inr (1, [.ref fr, .ref ve, .ref qu, .ref tu, .ref cb, .int w0_5, .int w0_6])), (fr, .inr (3, [.int w5_0, .int w5_1, .int w5_2, .ref fal, .ref fon])), (fal, .inl (kfal, 25, .inl z6)), (fon, .inl (kfon, 275, .inl z7))] H.size) [(am, .inr (0, [.int amonths, .int afull, .int alean, .int alines, .int ahasMoon, .int amoonStart, .int amoonStep, .int aplaceCount, .int areportCount, .int adeedCount, .ref pl, .ref re, .ref de])), ((ra x_443.toNatClampNeg), .inr (7, [.int (r_place x_443.toNatClampNeg), .int (r_kind x_443.toNatClampNeg), .int (r_month x_443.toNatClampNeg), .int (r_day x_443.toNatClampNeg), .int (r_known x_443.toNatClampNeg), .int (r_struck x_443.toNatClampNeg)]))] := (gz_apc (gz_apR (gz_ap1 hRA 0 rfl) hFc) (gz_apR (gz_ap1 hFA1 _ (gz_fam_at (gz_clt (gi_in (n := 24) gx_443 (by decide))))) hFc))
        refine va_calli (va_runV (As := [.ref am, .ref (ra x_443.toNatClampNeg)]) (rest := [.int x_443, .ref ve]) ⟨hx, hb, hml, hown, hts⟩ (sX1_verdictOn l dC dI H.size h0 fr fal fon am (ra x_443.toNatClampNeg) ve qu tu cb w0_5 w0_6 w5_0 w5_1 w5_2 kfal z6 kfon z7 amonths afull alean alines ahasMoon amoonStart amoonStep aplaceCount areportCount adeedCount pl re de (r_place x_443.toNatClampNeg) (r_kind x_443.toNatClampNeg) (r_month x_443.toNatClampNeg) (r_day x_443.toNatClampNeg) (r_known x_443.toNatClampNeg) (r_struck x_443.toNatClampNeg) (gi_w g_442 (by decide)) gw5_0 gw5_1 gw5_2 gamonths gafull galean gahasMoon gaplaceCount gareportCount gadeedCount (ga_ix gr_place (gi_in (n := 24) gx_443 (by decide))) (ga_ix gr_month (gi_in (n := 24) gx_443 (by decide))) (ga_ix gr_struck (gi_in (n := 24) gx_443 (by decide)))) (cwV 2 hts (gz_gV mGA_482 mGA_483 mGA_484 mGA_22 mGA_485 goodGA) rfl rfl rfl (by decide +kernel) ⟨Nat.le_trans (Nat.le_of_ble_eq_true rfl) hRf, Nat.le_trans (Nat.le_of_ble_eq_true rfl) hRl⟩) ⟨fun a U g mk q => by obtain ⟨q0, q1, qP, qK, qD, qZ, qR, qRA⟩ := q; exact ⟨q0, q1, qP, va_K.moved (u := U) (U := U.calling g mk a) (Vm.Alike.refl U.vm) qK, qD, nzA_same (u := U) (U := U.calling g mk a) rfl qZ, qR, qRA⟩, va_recv hKc hPc (ci := 1) (q0 := 0) rfl rfl, fun U hU hW => ⟨rfl, by rw [hU], by rw [hU]; exact hPc, va_K.moved hW.alike hKc, hDc.weaken (fun _ _ _ _ => trivial), nzA_warm hW hz, by rw [hU]; exact hRc_, hRa_⟩⟩ rfl rfl hl.1 rfl (lv_room (Nat.le_of_ble_eq_true rfl)) dX1_judge_52 ⟨hRc, hRs⟩) hS (fun q _ h => hFc q h) hFc (fun r_444 u t H1 locs ht hvm hw hB hz1 hk1 hS => ?_)
        obtain ⟨f_445, f_446, hP1, hD1⟩ := hB
        rw [ht] at hP1
        obtain ⟨hP, hD⟩ := va_join (wr := [(ve, .inl (kve, 24, .inl z1)), (qu, .inl (kqu, 24, .inl z2)), (tu, .inl (ktu, 24, .inr (.inl z3))), (cb, .inl (kcb, 25, .inl fcb))]) (w1 := [(h0, .inr (1, [.ref fr, .ref ve, .ref qu, .ref tu, .ref cb, .int w0_5, .int w0_6])), (fr, .inr (3, [.int w5_0, .int w5_1, .int w5_2, .ref fal, .ref fon])), (fal, .inl (kfal, 25, .inl f_445)), (fon, .inl (kfon, 275, .inl f_446))]) hP hD [0, 5, 6, 7] [1, 2, 3, 4] rfl rfl (by decide) (by decide) hk1 hFc hP1 hD1
        have hP := hP.sub (ws' := [(h0, .inr (1, [.ref fr, .ref ve, .ref qu, .ref tu, .ref cb, .int w0_5, .int w0_6])), (ve, .inl (kve, 24, .inl z1)), (qu, .inl (kqu, 24, .inl z2)), (tu, .inl (ktu, 24, .inr (.inl z3))), (cb, .inl (kcb, 25, .inl fcb)), (fr, .inr (3, [.int w5_0, .int w5_1, .int w5_2, .ref fal, .ref fon])), (fal, .inl (kfal, 25, .inl f_445)), (fon, .inl (kfon, 275, .inl f_446))]) [4, 0, 1, 2, 3, 5, 6, 7] rfl
        have hD := hD.sub (ws' := [(h0, .inr (1, [.ref fr, .ref ve, .ref qu, .ref tu, .ref cb, .int w0_5, .int w0_6])), (ve, .inl (kve, 24, .inl z1)), (qu, .inl (kqu, 24, .inl z2)), (tu, .inl (ktu, 24, .inr (.inl z3))), (cb, .inl (kcb, 25, .inl fcb)), (fr, .inr (3, [.int w5_0, .int w5_1, .int w5_2, .ref fal, .ref fon])), (fal, .inl (kfal, 25, .inl f_445)), (fon, .inl (kfon, 275, .inl f_446))]) [4, 0, 1, 2, 3, 5, 6, 7] (by decide) rfl
        generalize H1 = H at hP hS ⊢
        have gr_444 : gi r_444 0 2 := hw
        refine va_iast hx hb hK hP hD hS 1 0 rfl rfl (gi_in gx_443 (by decide)) dX1_judge_55 (fun H locs hP hD hS => ?_)
        have hP : va_P (dC, dI) vwCl [(h0, .inr (1, [.ref fr, .ref ve, .ref qu, .ref tu, .ref cb, .int w0_5, .int w0_6])), (ve, .inl (kve, 24, .inl (upd z1 (x_443 : Int32).toNatClampNeg r_444))), (qu, .inl (kqu, 24, .inl z2)), (tu, .inl (ktu, 24, .inr (.inl z3))), (cb, .inl (kcb, 25, .inl fcb)), (fr, .inr (3, [.int w5_0, .int w5_1, .int w5_2, .ref fal, .ref fon])), (fal, .inl (kfal, 25, .inl f_445)), (fon, .inl (kfon, 275, .inl f_446))] H := hP
        have hD : va_D A [(h0, .inr (1, [.ref fr, .ref ve, .ref qu, .ref tu, .ref cb, .int w0_5, .int w0_6])), (ve, .inl (kve, 24, .inl (upd z1 (x_443 : Int32).toNatClampNeg r_444))), (qu, .inl (kqu, 24, .inl z2)), (tu, .inl (ktu, 24, .inr (.inl z3))), (cb, .inl (kcb, 25, .inl fcb)), (fr, .inr (3, [.int w5_0, .int w5_1, .int w5_2, .ref fal, .ref fon])), (fal, .inl (kfal, 25, .inl f_445)), (fon, .inl (kfon, 275, .inl f_446))] := hD
        generalize upd z1 (x_443 : Int32).toNatClampNeg r_444 = f_447 at hP hD
        refine lv_aload_n hx hb dX1_judge_56 rfl (lv_at hl 1 rfl) ?_
        refine va_get (D := (dC, dI)) (ci := 1) (v := .ref ve) (C := RX1) (T := TX1) (N := 7) hx hb hts (fun w h => List.mem_cons_of_mem _ (jnGA_X1 w h)) hown hK hP 0 rfl rfl 1 (by decide) (hts _ (List.mem_cons_of_mem _ mGA_101)) (fun _ h9 => h9) rfl dX1_judge_57 ?_
        refine lv_iload hx hb dX1_judge_60 (lv_at hl 0 rfl) ?_
        refine va_iald hx hb hK hP 1 0 rfl rfl (gi_in gx_443 (by decide)) dX1_judge_62 ?_
        refine lv_topi (fun x_448 ex_448 => ?_)
        refine lv_if_ne (tgt := 79) hx hb dX1_judge_63 (by decide) (fun c_449 => ?_) (fun c_449 => ?_)
        · obtain ⟨x_450, ex_450⟩ : ∃ y : Int32, y = v3 + 1 := ⟨_, rfl⟩
          have gx_450 : gi x_450 1 24 := gi_add ex_450 g_441 (gi_c 1 1 (by decide)) (by decide)
          refine lv_iinc (v := x_450) (lv' := [(3, .int x_450), (4, .int x_443), (0, .ref h0), (1, .ref am), (2, .int p2)]) hx hb dX1_judge_79 hl (k := 4) rfl (by rw [ex_450]; rfl) (by decide) rfl (fun ls hl => ?_)
          refine lv_goto (tgt := 21) hx hb dX1_judge_82 (by decide) ?_
          exact ih x_450 w0_5 w0_6 w5_0 w5_1 w5_2 f_447 z2 z3 f_445 f_446 _ _ _ (gi_w gx_450 (by decide)) (gi_w g_442 (by decide)) gw5_0 gw5_1 gw5_2 gz2 (by have av3 := gv3.1; have bv3 := gv3.2; have qgx_450 := gx_450.1; have rgx_450 := gx_450.2; have igx_450 : x_450.toInt = v3.toInt + 1 := (by have hc1 : (1 : Int32).toInt = 1 := (by decide); have h9 := gi_addI ex_450 (by have h1 := g_441.1; have h2 := (gi_c 1 1 (by decide)).1; have h3 := g_441.2; have h4 := (gi_c 1 1 (by decide)).2; omega) (by have h1 := g_441.1; have h2 := (gi_c 1 1 (by decide)).1; have h3 := g_441.2; have h4 := (gi_c 1 1 (by decide)).2; omega); rw [hc1] at h9; exact h9); have qgv3 := g_441.1; have rgv3 := g_441.2; omega) hP hD hS (lv_sub hl [2, 3, 4, 0] rfl)
        · have g_451 : gi x_448 0 0 := gi_eq c_449 (gi_c 0 0 (by decide))
          refine lv_aload_n hx hb dX1_judge_66 rfl (lv_at hl 1 rfl) ?_
          refine lv_dup hx hb dX1_judge_67 rfl ?_
          refine va_get (D := (dC, dI)) (ci := 1) (v := .int w0_6) (C := RX1) (T := TX1) (N := 7) hx hb hts (fun w h => List.mem_cons_of_mem _ (jnGA_X1 w h)) hown hK hP 0 rfl rfl 6 (by decide) (hts _ (List.mem_cons_of_mem _ mGA_107)) (fun _ h9 => h9) rfl dX1_judge_68 ?_
          refine lv_iconst (v := 1) hx hb dX1_judge_71 (by decide) ?_
          refine lv_iload hx hb dX1_judge_72 (lv_at hl 0 rfl) ?_
          refine lv_ishl hx hb dX1_judge_74 ?_
          refine lv_topi (fun x_452 ex_452 => ?_)
          refine lv_ior hx hb dX1_judge_75 ?_
          refine lv_topi (fun x_453 ex_453 => ?_)
          refine va_put (D := (dC, dI)) (ci := 1) (v := .int x_453) (ty := .int) (C := RX1) (T := TX1) (N := 7) hx hb hts (fun w h => List.mem_cons_of_mem _ (jnGA_X1 w h)) tyX1 tyX1_ok nmX1 hown hK hP hD hS 0 rfl rfl 6 (by decide) (hts _ (List.mem_cons_of_mem _ mGA_107)) (fun _ h9 => h9) rfl (by decide +kernel) rfl rfl (Nat.le_of_ble_eq_true rfl) dX1_judge_76 (fun H locs hP hD hS => ?_)
          have hP : va_P (dC, dI) vwCl [(h0, .inr (1, [.ref fr, .ref ve, .ref qu, .ref tu, .ref cb, .int w0_5, .int x_453])), (ve, .inl (kve, 24, .inl f_447)), (qu, .inl (kqu, 24, .inl z2)), (tu, .inl (ktu, 24, .inr (.inl z3))), (cb, .inl (kcb, 25, .inl fcb)), (fr, .inr (3, [.int w5_0, .int w5_1, .int w5_2, .ref fal, .ref fon])), (fal, .inl (kfal, 25, .inl f_445)), (fon, .inl (kfon, 275, .inl f_446))] H := hP
          have hD : va_D A [(h0, .inr (1, [.ref fr, .ref ve, .ref qu, .ref tu, .ref cb, .int w0_5, .int x_453])), (ve, .inl (kve, 24, .inl f_447)), (qu, .inl (kqu, 24, .inl z2)), (tu, .inl (ktu, 24, .inr (.inl z3))), (cb, .inl (kcb, 25, .inl fcb)), (fr, .inr (3, [.int w5_0, .int w5_1, .int w5_2, .ref fal, .ref fon])), (fal, .inl (kfal, 25, .inl f_445)), (fon, .inl (kfon, 275, .inl f_446))] := hD
          obtain ⟨x_454, ex_454⟩ : ∃ y : Int32, y = v3 + 1 := ⟨_, rfl⟩
          have gx_454 : gi x_454 1 24 := gi_add ex_454 g_441 (gi_c 1 1 (by decide)) (by decide)
          refine lv_iinc (v := x_454) (lv' := [(3, .int x_454), (4, .int x_443), (0, .ref h0), (1, .ref am), (2, .int p2)]) hx hb dX1_judge_79 hl (k := 4) rfl (by rw [ex_454]; rfl) (by decide) rfl (fun ls hl => ?_)
          refine lv_goto (tgt := 21) hx hb dX1_judge_82 (by decide) ?_
          exact ih x_454 w0_5 x_453 w5_0 w5_1 w5_2 f_447 z2 z3 f_445 f_446 _ _ _ (gi_w gx_454 (by decide)) (gi_w g_442 (by decide)) gw5_0 gw5_1 gw5_2 gz2 (by have av3 := gv3.1; have bv3 := gv3.2; have qgx_454 := gx_454.1; have rgx_454 := gx_454.2; have igx_454 : x_454.toInt = v3.toInt + 1 := (by have hc1 : (1 : Int32).toInt = 1 := (by decide); have h9 := gi_addI ex_454 (by have h1 := g_441.1; have h2 := (gi_c 1 1 (by decide)).1; have h3 := g_441.2; have h4 := (gi_c 1 1 (by decide)).2; omega) (by have h1 := g_441.1; have h2 := (gi_c 1 1 (by decide)).1; have h3 := g_441.2; have h4 := (gi_c 1 1 (by decide)).2; omega); rw [hc1] at h9; exact h9); have qgv3 := g_441.1; have rgv3 := g_441.2; omega) hP hD hS (lv_sub hl [2, 3, 4, 0] rfl)
set_option maxHeartbeats 4000000 in
set_option maxRecDepth 100000 in
theorem sX1_judge (l : Launch) (dC : Nat → ClassId) (dI : Nat → Nat → Nat) (sz : Nat) (h0 : Nat) (ve : Nat) (qu : Nat) (tu : Nat) (cb : Nat) (fr : Nat) (fal : Nat) (fon : Nat) (am : Nat) (pl : Nat) (re : Nat) (queueLength : Int32) (takenBits : Int32) (kve : ClassId) (fve : Nat → Int32) (kqu : ClassId) (fqu : Nat → Int32) (ktu : ClassId) (ftu : Nat → Int64) (kcb : ClassId) (fcb : Nat → Int32) (fmonths : Int32) (ffull : Int32) (flean : Int32) (kfal : ClassId) (ffal : Nat → Int32) (kfon : ClassId) (ffon : Nat → Int32) (amonths : Int32) (afull : Int32) (alean : Int32) (alines : Int32) (ahasMoon : Int32) (amoonStart : Int32) (amoonStep : Int32) (aplaceCount : Int32) (areportCount : Int32) (adeedCount : Int32) (de : Nat) (kpl : ClassId) (kre : ClassId) (pa : Nat → Nat) (p_name : Nat → Int32) (p_trust : Nat → Int32) (ra : Nat → Nat) (r_place : Nat → Int32) (r_kind : Nat → Int32) (r_month : Nat → Int32) (r_day : Nat → Int32) (r_known : Nat → Int32) (r_struck : Nat → Int32) (p2 : Int32) (gqueueLength : gi queueLength 0 24) (gfqu : ga fqu 24 0 23) (gfmonths : gi fmonths 0 24) (gffull : gi ffull 0 5) (gflean : gi flean 0 5) (gamonths : gi amonths 0 24) (gafull : gi afull 0 5) (galean : gi alean 0 5) (gahasMoon : gi ahasMoon 0 1) (gaplaceCount : gi aplaceCount 0 6) (gareportCount : gi areportCount 0 24) (gadeedCount : gi adeedCount 0 8) (gr_place : ga r_place 24 0 5) (gr_month : ga r_month 24 0 23) (gr_struck : ga r_struck 24 0 1) : Met l yX1_judge (.code yX1_judge cX1_judge 5 none :: wsGA) ({ frames := 3, cells := 0, slots := 0, locals := 71 }) (va_Pc [.ref h0, .ref am, .int p2] (fun U => U.heap.size = sz ∧ va_P (dC, dI) vwCl [(h0, .inr (1, [.ref fr, .ref ve, .ref qu, .ref tu, .ref cb, .int queueLength, .int takenBits])), (ve, .inl (kve, 24, .inl fve)), (qu, .inl (kqu, 24, .inl fqu)), (tu, .inl (ktu, 24, .inr (.inl ftu))), (cb, .inl (kcb, 25, .inl fcb)), (fr, .inr (3, [.int fmonths, .int ffull, .int flean, .ref fal, .ref fon])), (fal, .inl (kfal, 25, .inl ffal)), (fon, .inl (kfon, 275, .inl ffon))] U.heap ∧ va_K (dC, dI) vwCl [(kve, .int), (kqu, .int), (ktu, .long), (kcb, .int), (kfal, .int), (kfon, .int), (kpl, .object RX5), (kre, .object RX7)] U ∧ va_D (fun _ => True) [(h0, .inr (1, [.ref fr, .ref ve, .ref qu, .ref tu, .ref cb, .int queueLength, .int takenBits])), (ve, .inl (kve, 24, .inl fve)), (qu, .inl (kqu, 24, .inl fqu)), (tu, .inl (ktu, 24, .inr (.inl ftu))), (cb, .inl (kcb, 25, .inl fcb)), (fr, .inr (3, [.int fmonths, .int ffull, .int flean, .ref fal, .ref fon])), (fal, .inl (kfal, 25, .inl ffal)), (fon, .inl (kfon, 275, .inl ffon))] ∧ nzA U ∧ va_P (dC, dI) vwCl [(am, .inr (0, [.int amonths, .int afull, .int alean, .int alines, .int ahasMoon, .int amoonStart, .int amoonStep, .int aplaceCount, .int areportCount, .int adeedCount, .ref pl, .ref re, .ref de])), (pl, .inl (kpl, 6, .inr (.inr (.inr (.inr (fun i => some (pa i))))))), (re, .inl (kre, 24, .inr (.inr (.inr (.inr (fun i => some (ra i)))))))] U.heap ∧ gz_ap (va_A [(h0, .inr (1, [.ref fr, .ref ve, .ref qu, .ref tu, .ref cb, .int queueLength, .int takenBits])), (ve, .inl (kve, 24, .inl fve)), (qu, .inl (kqu, 24, .inl fqu)), (tu, .inl (ktu, 24, .inr (.inl ftu))), (cb, .inl (kcb, 25, .inl fcb)), (fr, .inr (3, [.int fmonths, .int ffull, .int flean, .ref fal, .ref fon])), (fal, .inl (kfal, 25, .inl ffal)), (fon, .inl (kfon, 275, .inl ffon))] sz) [(am, .inr (0, [.int amonths, .int afull, .int alean, .int alines, .int ahasMoon, .int amoonStart, .int amoonStep, .int aplaceCount, .int areportCount, .int adeedCount, .ref pl, .ref re, .ref de])), (pl, .inl (kpl, 6, .inr (.inr (.inr (.inr (fun i => some (pa i))))))), (re, .inl (kre, 24, .inr (.inr (.inr (.inr (fun i => some (ra i)))))))] ∧ va_P (dC, dI) vwCl (gz_fam 6 pa 5 (fun i => [.int (p_name i), .int (p_trust i)])) U.heap ∧ gz_ap (va_A [(h0, .inr (1, [.ref fr, .ref ve, .ref qu, .ref tu, .ref cb, .int queueLength, .int takenBits])), (ve, .inl (kve, 24, .inl fve)), (qu, .inl (kqu, 24, .inl fqu)), (tu, .inl (ktu, 24, .inr (.inl ftu))), (cb, .inl (kcb, 25, .inl fcb)), (fr, .inr (3, [.int fmonths, .int ffull, .int flean, .ref fal, .ref fon])), (fal, .inl (kfal, 25, .inl ffal)), (fon, .inl (kfon, 275, .inl ffon))] sz) (gz_fam 6 pa 5 (fun i => [.int (p_name i), .int (p_trust i)])) ∧ va_P (dC, dI) vwCl (gz_fam 24 ra 7 (fun i => [.int (r_place i), .int (r_kind i), .int (r_month i), .int (r_day i), .int (r_known i), .int (r_struck i)])) U.heap ∧ gz_ap (va_A [(h0, .inr (1, [.ref fr, .ref ve, .ref qu, .ref tu, .ref cb, .int queueLength, .int takenBits])), (ve, .inl (kve, 24, .inl fve)), (qu, .inl (kqu, 24, .inl fqu)), (tu, .inl (ktu, 24, .inr (.inl ftu))), (cb, .inl (kcb, 25, .inl fcb)), (fr, .inr (3, [.int fmonths, .int ffull, .int flean, .ref fal, .ref fon])), (fal, .inl (kfal, 25, .inl ffal)), (fon, .inl (kfon, 275, .inl ffon))] sz) (gz_fam 24 ra 7 (fun i => [.int (r_place i), .int (r_kind i), .int (r_month i), .int (r_day i), .int (r_known i), .int (r_struck i)])))) (va_Qv (fun (u : Unit) => True) (fun _ t => ∃ (w0_5 : Int32) (w0_6 : Int32) (w5_0 : Int32) (w5_1 : Int32) (w5_2 : Int32) (z1 : Nat → Int32) (z2 : Nat → Int32) (z3 : Nat → Int64) (z4 : Nat → Int32) (z6 : Nat → Int32) (z7 : Nat → Int32), gi w0_5 0 24 ∧ gi w5_0 0 24 ∧ gi w5_1 0 5 ∧ gi w5_2 0 5 ∧ ga z2 24 0 23 ∧ va_P (dC, dI) vwCl [(h0, .inr (1, [.ref fr, .ref ve, .ref qu, .ref tu, .ref cb, .int w0_5, .int w0_6])), (ve, .inl (kve, 24, .inl z1)), (qu, .inl (kqu, 24, .inl z2)), (tu, .inl (ktu, 24, .inr (.inl z3))), (cb, .inl (kcb, 25, .inl z4)), (fr, .inr (3, [.int w5_0, .int w5_1, .int w5_2, .ref fal, .ref fon])), (fal, .inl (kfal, 25, .inl z6)), (fon, .inl (kfon, 275, .inl z7))] t.heap ∧ va_D (va_A [(h0, .inr (1, [.ref fr, .ref ve, .ref qu, .ref tu, .ref cb, .int queueLength, .int takenBits])), (ve, .inl (kve, 24, .inl fve)), (qu, .inl (kqu, 24, .inl fqu)), (tu, .inl (ktu, 24, .inr (.inl ftu))), (cb, .inl (kcb, 25, .inl fcb)), (fr, .inr (3, [.int fmonths, .int ffull, .int flean, .ref fal, .ref fon])), (fal, .inl (kfal, 25, .inl ffal)), (fon, .inl (kfon, 275, .inl ffon))] sz) [(h0, .inr (1, [.ref fr, .ref ve, .ref qu, .ref tu, .ref cb, .int w0_5, .int w0_6])), (ve, .inl (kve, 24, .inl z1)), (qu, .inl (kqu, 24, .inl z2)), (tu, .inl (ktu, 24, .inr (.inl z3))), (cb, .inl (kcb, 25, .inl z4)), (fr, .inr (3, [.int w5_0, .int w5_1, .int w5_2, .ref fal, .ref fon])), (fal, .inl (kfal, 25, .inl z6)), (fon, .inl (kfon, 275, .inl z7))]) (va_A [(h0, .inr (1, [.ref fr, .ref ve, .ref qu, .ref tu, .ref cb, .int queueLength, .int takenBits])), (ve, .inl (kve, 24, .inl fve)), (qu, .inl (kqu, 24, .inl fqu)), (tu, .inl (ktu, 24, .inr (.inl ftu))), (cb, .inl (kcb, 25, .inl fcb)), (fr, .inr (3, [.int fmonths, .int ffull, .int flean, .ref fal, .ref fon])), (fal, .inl (kfal, 25, .inl ffal)), (fon, .inl (kfon, 275, .inl ffon))] sz)) 0 0 (va_A [(h0, .inr (1, [.ref fr, .ref ve, .ref qu, .ref tu, .ref cb, .int queueLength, .int takenBits])), (ve, .inl (kve, 24, .inl fve)), (qu, .inl (kqu, 24, .inl fqu)), (tu, .inl (ktu, 24, .inr (.inl ftu))), (cb, .inl (kcb, 25, .inl fcb)), (fr, .inr (3, [.int fmonths, .int ffull, .int flean, .ref fal, .ref fon])), (fal, .inl (kfal, 25, .inl ffal)), (fon, .inl (kfon, 275, .inl ffon))] sz) := by
  refine Met.ofW (cc := cX1_judge) (maxL := 5) (ret := none) (by decide) rfl ?_
  intro p e s m args below meth c s₁ B hml hv
  obtain ⟨rfl, hsz, hP, hK, hD0, hz, hR, hRA, hF0, hFA0, hF1, hFA1⟩ := hv
  have hx := B.exec
  have hb := B.bytes
  have hr := B.returns
  have hts := atoms_spec (ws := (.code yX1_judge cX1_judge 5 none :: wsGA)) B.pre
  have hown : s.vm.findClass RX1 = some m.cls := findClass_of_methodNamed B.named
  have hlocks := B.notSynchronized
  subst hsz
  have hD := hD0.self (sz := s.heap.size)
  generalize hAe : va_A [(h0, .inr (1, [.ref fr, .ref ve, .ref qu, .ref tu, .ref cb, .int queueLength, .int takenBits])), (ve, .inl (kve, 24, .inl fve)), (qu, .inl (kqu, 24, .inl fqu)), (tu, .inl (ktu, 24, .inr (.inl ftu))), (cb, .inl (kcb, 25, .inl fcb)), (fr, .inr (3, [.int fmonths, .int ffull, .int flean, .ref fal, .ref fon])), (fal, .inl (kfal, 25, .inl ffal)), (fon, .inl (kfon, 275, .inl ffon))] s.heap.size = A at hD hRA hFA0 hFA1 ⊢
  have hA : ∀ q : Nat, s.heap.size ≤ q → A q := fun q h => by rw [← hAe]; exact Or.inr h
  have hS : va_S A s.heap s.heap [] := va_S.rf
  have hl := lv_entry ([.ref h0, .ref am, .int p2]) (n := 5) (Nat.le_of_ble_eq_true rfl)
  rw [lg_entry_eq]
  generalize (lg_sl ([.ref h0, .ref am, .int p2]) ++ List.replicate (5 - (lg_sl ([.ref h0, .ref am, .int p2])).length) Slot.unset).toArray = ls at hl ⊢
  have hl : lv_has ls 5 [(0, .ref h0), (1, .ref am), (2, .int p2)] := hl
  refine lv_aload_n hx hb dX1_judge_0 rfl (lv_at hl 0 rfl) ?_
  refine lv_aload_n hx hb dX1_judge_1 rfl (lv_at hl 1 rfl) ?_
  refine lv_iload_n hx hb dX1_judge_2 rfl (lv_at hl 2 rfl) ?_
  have hPc := hP.sub (ws' := [(h0, .inr (1, [.ref fr, .ref ve, .ref qu, .ref tu, .ref cb, .int queueLength, .int takenBits])), (ve, .inl (kve, 24, .inl fve)), (qu, .inl (kqu, 24, .inl fqu)), (tu, .inl (ktu, 24, .inr (.inl ftu)))]) [0, 1, 2, 3] rfl
  have hKc := hK.sub (tys' := [(kve, .int), (kqu, .int), (ktu, .long), (kpl, .object RX5), (kre, .object RX7)]) [0, 1, 2, 6, 7] rfl
  have hDc := hD.sub (ws' := [(h0, .inr (1, [.ref fr, .ref ve, .ref qu, .ref tu, .ref cb, .int queueLength, .int takenBits])), (ve, .inl (kve, 24, .inl fve)), (qu, .inl (kqu, 24, .inl fqu)), (tu, .inl (ktu, 24, .inr (.inl ftu)))]) [0, 1, 2, 3] (by decide) rfl
  have hFc := va_free (wc := [(h0, .inr (1, [.ref fr, .ref ve, .ref qu, .ref tu, .ref cb, .int queueLength, .int takenBits])), (ve, .inl (kve, 24, .inl fve)), (qu, .inl (kqu, 24, .inl fqu)), (tu, .inl (ktu, 24, .inr (.inl ftu)))]) hD hS hA [0, 1, 2, 3] rfl
  have hRc_ : va_P (dC, dI) vwCl [(am, .inr (0, [.int amonths, .int afull, .int alean, .int alines, .int ahasMoon, .int amoonStart, .int amoonStep, .int aplaceCount, .int areportCount, .int adeedCount, .ref pl, .ref re, .ref de])), (pl, .inl (kpl, 6, .inr (.inr (.inr (.inr (fun i => some (pa i))))))), (re, .inl (kre, 24, .inr (.inr (.inr (.inr (fun i => some (ra i)))))))] s.heap := (gz_cat ((gz_ro hR hRA hS).sub [0] rfl) (gz_cat ((gz_ro hR hRA hS).sub [1] rfl) ((gz_ro hR hRA hS).sub [2] rfl)))
  have hRa_ : gz_ap (va_A [(h0, .inr (1, [.ref fr, .ref ve, .ref qu, .ref tu, .ref cb, .int queueLength, .int takenBits])), (ve, .inl (kve, 24, .inl fve)), (qu, .inl (kqu, 24, .inl fqu)), (tu, .inl (ktu, 24, .inr (.inl ftu)))] s.heap.size) [(am, .inr (0, [.int amonths, .int afull, .int alean, .int alines, .int ahasMoon, .int amoonStart, .int amoonStep, .int aplaceCount, .int areportCount, .int adeedCount, .ref pl, .ref re, .ref de])), (pl, .inl (kpl, 6, .inr (.inr (.inr (.inr (fun i => some (pa i))))))), (re, .inl (kre, 24, .inr (.inr (.inr (.inr (fun i => some (ra i)))))))] := (gz_apc (gz_apR (gz_ap1 hRA 0 rfl) hFc) (gz_apc (gz_apR (gz_ap1 hRA 1 rfl) hFc) (gz_apR (gz_ap1 hRA 2 rfl) hFc)))
  refine va_callv (va_runV (As := [.ref am, .int p2]) (rest := []) ⟨hx, hb, hml, hown, hts⟩ (sX1_lineUp l dC dI s.heap.size h0 ve qu tu am pl re fr cb queueLength takenBits kve fve kqu fqu ktu ftu amonths afull alean alines ahasMoon amoonStart amoonStep aplaceCount areportCount adeedCount de kpl kre pa p_name p_trust ra r_place r_kind r_month r_day r_known r_struck p2 gqueueLength gfqu gamonths gafull galean gahasMoon gaplaceCount gareportCount gadeedCount gr_place gr_month gr_struck) (cwV 2 hts (gz_gV mGA_448 mGA_449 mGA_450 mGA_22 mGA_451 goodGA) rfl rfl rfl (by decide +kernel) ⟨Nat.le_of_ble_eq_true rfl, Nat.le_of_ble_eq_true rfl⟩) ⟨fun a U g mk q => by obtain ⟨q0, q1, qP, qK, qD, qZ, qR, qRA, qF0, qFA0, qF1, qFA1⟩ := q; exact ⟨q0, q1, qP, va_K.moved (u := U) (U := U.calling g mk a) (Vm.Alike.refl U.vm) qK, qD, nzA_same (u := U) (U := U.calling g mk a) rfl qZ, qR, qRA, qF0, qFA0, qF1, qFA1⟩, va_recv hKc hPc (ci := 1) (q0 := 0) rfl rfl, fun U hU hW => ⟨rfl, by rw [hU], by rw [hU]; exact hPc, va_K.moved hW.alike hKc, hDc.weaken (fun _ _ _ _ => trivial), nzA_warm hW hz, by rw [hU]; exact hRc_, hRa_, by rw [hU]; exact gz_ro hF0 hFA0 hS, gz_apR hFA0 hFc, by rw [hU]; exact gz_ro hF1 hFA1 hS, gz_apR hFA1 hFc⟩⟩ rfl rfl hl.1 rfl (lv_room (Nat.le_of_ble_eq_true rfl)) dX1_judge_3 ⟨Nat.zero_le _, Nat.zero_le _⟩) hS (fun q _ h => hFc q h) hFc (fun u t H1 locs ht hvm hw hB hz1 hk1 hS => ?_)
  obtain ⟨y_456, f_457, f_458, f_459, gy_456, gf_458, hP1, hD1⟩ := hB
  rw [ht] at hP1
  obtain ⟨hP, hD⟩ := va_join (wr := [(cb, .inl (kcb, 25, .inl fcb)), (fr, .inr (3, [.int fmonths, .int ffull, .int flean, .ref fal, .ref fon])), (fal, .inl (kfal, 25, .inl ffal)), (fon, .inl (kfon, 275, .inl ffon))]) (w1 := [(h0, .inr (1, [.ref fr, .ref ve, .ref qu, .ref tu, .ref cb, .int y_456, .int takenBits])), (ve, .inl (kve, 24, .inl f_457)), (qu, .inl (kqu, 24, .inl f_458)), (tu, .inl (ktu, 24, .inr (.inl f_459)))]) hP hD [0, 1, 2, 3] [4, 5, 6, 7] rfl rfl (by decide) (by decide) hk1 hFc hP1 hD1
  have hP := hP.sub (ws' := [(h0, .inr (1, [.ref fr, .ref ve, .ref qu, .ref tu, .ref cb, .int y_456, .int takenBits])), (ve, .inl (kve, 24, .inl f_457)), (qu, .inl (kqu, 24, .inl f_458)), (tu, .inl (ktu, 24, .inr (.inl f_459))), (cb, .inl (kcb, 25, .inl fcb)), (fr, .inr (3, [.int fmonths, .int ffull, .int flean, .ref fal, .ref fon])), (fal, .inl (kfal, 25, .inl ffal)), (fon, .inl (kfon, 275, .inl ffon))]) [4, 5, 6, 7, 0, 1, 2, 3] rfl
  have hD := hD.sub (ws' := [(h0, .inr (1, [.ref fr, .ref ve, .ref qu, .ref tu, .ref cb, .int y_456, .int takenBits])), (ve, .inl (kve, 24, .inl f_457)), (qu, .inl (kqu, 24, .inl f_458)), (tu, .inl (ktu, 24, .inr (.inl f_459))), (cb, .inl (kcb, 25, .inl fcb)), (fr, .inr (3, [.int fmonths, .int ffull, .int flean, .ref fal, .ref fon])), (fal, .inl (kfal, 25, .inl ffal)), (fon, .inl (kfon, 275, .inl ffon))]) [4, 5, 6, 7, 0, 1, 2, 3] (by decide) rfl
  generalize H1 = H at hP hS ⊢
  refine lv_aload_n hx hb dX1_judge_6 rfl (lv_at hl 0 rfl) ?_
  refine va_get (D := (dC, dI)) (ci := 1) (v := .ref fr) (C := RX1) (T := TX1) (N := 7) hx hb hts (fun w h => List.mem_cons_of_mem _ (jnGA_X1 w h)) hown hK hP 0 rfl rfl 0 (by decide) (hts _ (List.mem_cons_of_mem _ mGA_100)) (fun _ h9 => h9) rfl dX1_judge_7 ?_
  refine lv_aload_n hx hb dX1_judge_10 rfl (lv_at hl 1 rfl) ?_
  have hPc := hP.sub (ws' := [(fr, .inr (3, [.int fmonths, .int ffull, .int flean, .ref fal, .ref fon])), (fal, .inl (kfal, 25, .inl ffal))]) [5, 6] rfl
  have hKc := hK.sub (tys' := [(kfal, .int)]) [4] rfl
  have hDc := hD.sub (ws' := [(fr, .inr (3, [.int fmonths, .int ffull, .int flean, .ref fal, .ref fon])), (fal, .inl (kfal, 25, .inl ffal))]) [5, 6] (by decide) rfl
  have hFc := va_free (wc := [(fr, .inr (3, [.int fmonths, .int ffull, .int flean, .ref fal, .ref fon])), (fal, .inl (kfal, 25, .inl ffal))]) hD hS hA [5, 6] rfl
  have hRc_ : va_P (dC, dI) vwCl [(am, .inr (0, [.int amonths, .int afull, .int alean, .int alines, .int ahasMoon, .int amoonStart, .int amoonStep, .int aplaceCount, .int areportCount, .int adeedCount, .ref pl, .ref re, .ref de]))] H := ((gz_ro hR hRA hS).sub [0] rfl)
  have hRa_ : gz_ap (va_A [(fr, .inr (3, [.int fmonths, .int ffull, .int flean, .ref fal, .ref fon])), (fal, .inl (kfal, 25, .inl ffal))] H.size) [(am, .inr (0, [.int amonths, .int afull, .int alean, .int alines, .int ahasMoon, .int amoonStart, .int amoonStep, .int aplaceCount, .int areportCount, .int adeedCount, .ref pl, .ref re, .ref de]))] := (gz_apR (gz_ap1 hRA 0 rfl) hFc)
  refine va_callv (va_runV (As := [.ref am]) (rest := []) ⟨hx, hb, hml, hown, hts⟩ (sX3_open l dC dI H.size fr fal am fmonths ffull flean fon kfal ffal amonths afull alean alines ahasMoon amoonStart amoonStep aplaceCount areportCount adeedCount pl re de gfmonths gffull gflean gamonths gafull galean gahasMoon gaplaceCount gareportCount gadeedCount) (cwV 1 hts (gz_gV mGA_472 mGA_473 mGA_474 mGA_18 mGA_475 goodGA) rfl rfl rfl (by decide +kernel) ⟨Nat.le_of_ble_eq_true rfl, Nat.le_of_ble_eq_true rfl⟩) ⟨fun a U g mk q => by obtain ⟨q0, q1, qP, qK, qD, qZ, qR, qRA⟩ := q; exact ⟨q0, q1, qP, va_K.moved (u := U) (U := U.calling g mk a) (Vm.Alike.refl U.vm) qK, qD, nzA_same (u := U) (U := U.calling g mk a) rfl qZ, qR, qRA⟩, va_recv hKc hPc (ci := 3) (q0 := 0) rfl rfl, fun U hU hW => ⟨rfl, by rw [hU], by rw [hU]; exact hPc, va_K.moved hW.alike hKc, hDc.weaken (fun _ _ _ _ => trivial), nzA_warm hW hz, by rw [hU]; exact hRc_, hRa_⟩⟩ rfl rfl hl.1 rfl (lv_room (Nat.le_of_ble_eq_true rfl)) dX1_judge_11 ⟨Nat.zero_le _, Nat.zero_le _⟩) hS (fun q _ h => hFc q h) hFc (fun u t H1 locs ht hvm hw hB hz1 hk1 hS => ?_)
  obtain ⟨y_461, y_462, y_463, f_464, gy_461, gy_462, gy_463, hP1, hD1⟩ := hB
  rw [ht] at hP1
  obtain ⟨hP, hD⟩ := va_join (wr := [(h0, .inr (1, [.ref fr, .ref ve, .ref qu, .ref tu, .ref cb, .int y_456, .int takenBits])), (ve, .inl (kve, 24, .inl f_457)), (qu, .inl (kqu, 24, .inl f_458)), (tu, .inl (ktu, 24, .inr (.inl f_459))), (cb, .inl (kcb, 25, .inl fcb)), (fon, .inl (kfon, 275, .inl ffon))]) (w1 := [(fr, .inr (3, [.int y_461, .int y_462, .int y_463, .ref fal, .ref fon])), (fal, .inl (kfal, 25, .inl f_464))]) hP hD [5, 6] [0, 1, 2, 3, 4, 7] rfl rfl (by decide) (by decide) hk1 hFc hP1 hD1
  have hP := hP.sub (ws' := [(h0, .inr (1, [.ref fr, .ref ve, .ref qu, .ref tu, .ref cb, .int y_456, .int takenBits])), (ve, .inl (kve, 24, .inl f_457)), (qu, .inl (kqu, 24, .inl f_458)), (tu, .inl (ktu, 24, .inr (.inl f_459))), (cb, .inl (kcb, 25, .inl fcb)), (fr, .inr (3, [.int y_461, .int y_462, .int y_463, .ref fal, .ref fon])), (fal, .inl (kfal, 25, .inl f_464)), (fon, .inl (kfon, 275, .inl ffon))]) [0, 1, 2, 3, 4, 6, 7, 5] rfl
  have hD := hD.sub (ws' := [(h0, .inr (1, [.ref fr, .ref ve, .ref qu, .ref tu, .ref cb, .int y_456, .int takenBits])), (ve, .inl (kve, 24, .inl f_457)), (qu, .inl (kqu, 24, .inl f_458)), (tu, .inl (ktu, 24, .inr (.inl f_459))), (cb, .inl (kcb, 25, .inl fcb)), (fr, .inr (3, [.int y_461, .int y_462, .int y_463, .ref fal, .ref fon])), (fal, .inl (kfal, 25, .inl f_464)), (fon, .inl (kfon, 275, .inl ffon))]) [0, 1, 2, 3, 4, 6, 7, 5] (by decide) rfl
  generalize H1 = H at hP hS ⊢
  refine lv_aload_n hx hb dX1_judge_14 rfl (lv_at hl 0 rfl) ?_
  refine lv_iconst (v := 0) hx hb dX1_judge_15 (by decide) ?_
  refine va_put (D := (dC, dI)) (ci := 1) (v := .int 0) (ty := .int) (C := RX1) (T := TX1) (N := 7) hx hb hts (fun w h => List.mem_cons_of_mem _ (jnGA_X1 w h)) tyX1 tyX1_ok nmX1 hown hK hP hD hS 0 rfl rfl 6 (by decide) (hts _ (List.mem_cons_of_mem _ mGA_107)) (fun _ h9 => h9) rfl (by decide +kernel) rfl rfl (Nat.le_of_ble_eq_true rfl) dX1_judge_16 (fun H locs hP hD hS => ?_)
  have hP : va_P (dC, dI) vwCl [(h0, .inr (1, [.ref fr, .ref ve, .ref qu, .ref tu, .ref cb, .int y_456, .int 0])), (ve, .inl (kve, 24, .inl f_457)), (qu, .inl (kqu, 24, .inl f_458)), (tu, .inl (ktu, 24, .inr (.inl f_459))), (cb, .inl (kcb, 25, .inl fcb)), (fr, .inr (3, [.int y_461, .int y_462, .int y_463, .ref fal, .ref fon])), (fal, .inl (kfal, 25, .inl f_464)), (fon, .inl (kfon, 275, .inl ffon))] H := hP
  have hD : va_D A [(h0, .inr (1, [.ref fr, .ref ve, .ref qu, .ref tu, .ref cb, .int y_456, .int 0])), (ve, .inl (kve, 24, .inl f_457)), (qu, .inl (kqu, 24, .inl f_458)), (tu, .inl (ktu, 24, .inr (.inl f_459))), (cb, .inl (kcb, 25, .inl fcb)), (fr, .inr (3, [.int y_461, .int y_462, .int y_463, .ref fal, .ref fon])), (fal, .inl (kfal, 25, .inl f_464)), (fon, .inl (kfon, 275, .inl ffon))] := hD
  refine lv_iconst (v := 0) hx hb dX1_judge_19 (by decide) ?_
  refine lv_istore_n (lv' := [(3, .int 0), (0, .ref h0), (1, .ref am), (2, .int p2)]) hx hb dX1_judge_20 rfl hl (by decide) rfl (fun ls hl => ?_)
  refine (lp_sX1_judge h0 ve qu tu cb fr fal fon am pl re queueLength takenBits kve fve kqu fqu ktu ftu kcb fcb fmonths ffull flean kfal ffal kfon ffon amonths afull alean alines ahasMoon amoonStart amoonStep aplaceCount areportCount adeedCount de kpl kre pa p_name p_trust ra r_place r_kind r_month r_day r_known r_struck p2 gqueueLength gfqu gfmonths gffull gflean gamonths gafull galean gahasMoon gaplaceCount gareportCount gadeedCount gr_place gr_month gr_struck hx hb hml hown hts hK hz hR hRA hF0 hFA0 hF1 hFA1 hA (Nat.le_of_ble_eq_true rfl) (Nat.le_of_ble_eq_true rfl) (Nat.zero_le _) (Nat.zero_le _) (fun w0_5 w0_6 w5_0 w5_1 w5_2 z1 z2 z3 z4 z6 z7 H locs ls gw0_5 gw5_0 gw5_1 gw5_2 gz2 hP hD hS hl => ?_) 62) 0 y_456 0 y_461 y_462 y_463 f_457 f_458 f_459 f_464 ffon _ _ _ (gi_w (gi_c 0 0 (by decide)) (by decide)) gy_456 gy_461 gy_462 gy_463 gf_458 (by have k0 : (0 : Int32).toInt = 0 := (by decide); omega) hP hD hS (lv_sub hl [1, 2, 3, 0] rfl)
  · skip
    exact W.vret hx hb hr (fun t ht hW => ⟨⟨(), rfl, trivial, w0_5, w0_6, w5_0, w5_1, w5_2, z1, z2, z3, z4, z6, z7, gw0_5, gw5_0, gw5_1, gw5_2, gz2, by rw [ht]; exact hP, hD⟩, hS.F ht⟩) hS.2.2 dX1_judge_104
abbrev fsMM (mi : Nat → Int32) (mr : Nat → Nat) : List Value := [.int (mi 0), .int (mi 1), .int (mi 2), .int (mi 3), .int (mi 4), .int (mi 5), .int (mi 6), .int (mi 7), .ref (mr 0), .ref (mr 1), .int (mi 10), .ref (mr 2), .ref (mr 3), .ref (mr 4), .ref (mr 5), .ref (mr 6), .ref (mr 7), .int (mi 17), .ref (mr 8), .ref (mr 9), .ref (mr 10), .ref (mr 11), .ref (mr 12), .int (mi 23), .int (mi 24), .ref (mr 13), .int (mi 26), .int (mi 27), .int (mi 28), .int (mi 29), .int (mi 30), .int (mi 31), .int (mi 32), .int (mi 33), .ref (mr 14), .ref (mr 15), .ref (mr 16), .int (mi 37), .ref (mr 17), .ref (mr 18), .ref (mr 19), .int (mi 41), .int (mi 42), .int (mi 43), .int (mi 44), .int (mi 45), .ref (mr 20), .int (mi 47), .int (mi 48), .int (mi 49), .int (mi 50), .int (mi 51), .ref (mr 21), .ref (mr 22), .int (mi 54), .ref (mr 23), .int (mi 56)]
theorem dX12_in_0 : decode cX12_in 0 = .ok (.lload_n 0, 1) := by decide +kernel
theorem dX12_in_1 : decode cX12_in 1 = .ok (.lload_n 2, 1) := by decide +kernel
theorem dX12_in_2 : decode cX12_in 2 = .ok (.lcmp, 1) := by decide +kernel
theorem dX12_in_3 : decode cX12_in 3 = .ok (.ifCond .lt 14, 3) := by decide +kernel
theorem dX12_in_6 : decode cX12_in 6 = .ok (.lload_n 0, 1) := by decide +kernel
theorem dX12_in_7 : decode cX12_in 7 = .ok (.lload 4, 2) := by decide +kernel
theorem dX12_in_9 : decode cX12_in 9 = .ok (.lcmp, 1) := by decide +kernel
theorem dX12_in_10 : decode cX12_in 10 = .ok (.ifCond .gt 7, 3) := by decide +kernel
theorem dX12_in_13 : decode cX12_in 13 = .ok (.iconst 1, 1) := by decide +kernel
theorem dX12_in_14 : decode cX12_in 14 = .ok (.goto 4, 3) := by decide +kernel
theorem dX12_in_17 : decode cX12_in 17 = .ok (.iconst 0, 1) := by decide +kernel
theorem dX12_in_18 : decode cX12_in 18 = .ok (.ireturn, 1) := by decide +kernel
set_option maxHeartbeats 4000000 in
set_option maxRecDepth 100000 in
theorem sX12_in (l : Launch) (dC : Nat → ClassId) (dI : Nat → Nat → Nat) (p0 : Int64) (p1 : Int64) (p2 : Int64)  : Met l yX12_in (.code yX12_in cX12_in 6 (some .boolean) :: wsGB) ({ frames := 0, cells := 0, slots := 0, locals := 0 }) (va_Pc [.long p0, .long p1, .long p2] (fun U => va_P (dC, dI) vwCl [] U.heap ∧ va_K (dC, dI) vwCl [] U)) (va_Qi (fun (r : Int32) (u : Unit) => gi r 0 1 ∧ (r.toInt = 1 → p1.toInt ≤ p0.toInt ∧ p0.toInt ≤ p2.toInt) ∧ (r.toInt = 0 → p0.toInt < p1.toInt ∨ p2.toInt < p0.toInt)) (fun _ _ => True) (fun _ => False)) 0 0 (fun _ => False) := by
  refine Met.ofW (cc := cX12_in) (maxL := 6) (ret := (some .boolean)) (by decide) rfl ?_
  intro p e s m args below meth c s₁ B hml hv
  obtain ⟨rfl, hP, hK⟩ := hv
  have hx := B.exec
  have hb := B.bytes
  have hr := B.returns
  have hts := atoms_spec (ws := (.code yX12_in cX12_in 6 (some .boolean) :: wsGB)) B.pre
  have hown : s.vm.findClass RX12 = some m.cls := findClass_of_methodNamed B.named
  have hlocks := B.notSynchronized
  have hS : va_S (fun _ => False) s.heap s.heap [] := va_S.rf
  have hl := lv_entry ([.long p0, .long p1, .long p2]) (n := 6) (Nat.le_of_ble_eq_true rfl)
  rw [lg_entry_eq]
  generalize (lg_sl ([.long p0, .long p1, .long p2]) ++ List.replicate (6 - (lg_sl ([.long p0, .long p1, .long p2])).length) Slot.unset).toArray = ls at hl ⊢
  have hl : lv_has ls 6 [(0, .long p0), (2, .long p1), (4, .long p2)] := hl
  refine lv_lload_n hx hb dX12_in_0 rfl (lv_at hl 0 rfl) ?_
  refine lv_lload_n hx hb dX12_in_1 rfl (lv_at hl 1 rfl) ?_
  refine W.lcmp hx hb dX12_in_2 ?_
  refine lv_topi (fun x_9 ex_9 => ?_)
  refine lv_if_lt (tgt := 17) hx hb dX12_in_3 (by decide) (fun c_10 => ?_) (fun c_10 => ?_)
  · have g_11 : gi x_9 (-2147483648) (-1) := gi_lt_l c_10 (gi_any x_9) (gi_c 0 0 (by decide)) (by decide)
    refine lv_iconst (v := 0) hx hb dX12_in_17 (by decide) ?_
    exact W.zret (v := 0) hx hb hr (by decide) (fun t ht hW => ⟨⟨0, (), rfl, ⟨(gi_w (gi_c 0 0 (by decide)) (by decide)), ⟨fun h => absurd h (by decide), fun _ => Or.inl (gz_llt (ex_9 ▸ c_10))⟩⟩, trivial⟩, hS.F ht⟩) hS.2.2 dX12_in_18
  · have g_12 : gi x_9 0 2147483647 := gi_le_r (Int32.not_lt.mp c_10) (gi_c 0 0 (by decide)) (gi_any x_9)
    refine lv_lload_n hx hb dX12_in_6 rfl (lv_at hl 0 rfl) ?_
    refine lv_lload hx hb dX12_in_7 (lv_at hl 2 rfl) ?_
    refine W.lcmp hx hb dX12_in_9 ?_
    refine lv_topi (fun x_13 ex_13 => ?_)
    refine lv_if_gt (tgt := 17) hx hb dX12_in_10 (by decide) (fun c_14 => ?_) (fun c_14 => ?_)
    · have g_15 : gi x_13 1 2147483647 := gi_lt_r c_14 (gi_c 0 0 (by decide)) (gi_any x_13) (by decide)
      refine lv_iconst (v := 0) hx hb dX12_in_17 (by decide) ?_
      exact W.zret (v := 0) hx hb hr (by decide) (fun t ht hW => ⟨⟨0, (), rfl, ⟨(gi_w (gi_c 0 0 (by decide)) (by decide)), ⟨fun h => absurd h (by decide), fun _ => Or.inr (gz_lgt (ex_13 ▸ c_14))⟩⟩, trivial⟩, hS.F ht⟩) hS.2.2 dX12_in_18
    · have g_16 : gi x_13 (-2147483648) 0 := gi_le_l (Int32.not_lt.mp c_14) (gi_any x_13) (gi_c 0 0 (by decide))
      refine lv_iconst (v := 1) hx hb dX12_in_13 (by decide) ?_
      refine lv_goto (tgt := 18) hx hb dX12_in_14 (by decide) ?_
      exact W.zret (v := 1) hx hb hr (by decide) (fun t ht hW => ⟨⟨1, (), rfl, ⟨(gi_w (gi_c 1 1 (by decide)) (by decide)), ⟨fun _ => ⟨(gz_lge (ex_9 ▸ c_10)), (gz_lle (ex_13 ▸ c_14))⟩, fun h => absurd h (by decide)⟩⟩, trivial⟩, hS.F ht⟩) hS.2.2 dX12_in_18
theorem dX12_isPlace_0 : decode cX12_isPlace 0 = .ok (.iload_n 1, 1) := by decide +kernel
theorem dX12_isPlace_1 : decode cX12_isPlace 1 = .ok (.i2l, 1) := by decide +kernel
theorem dX12_isPlace_2 : decode cX12_isPlace 2 = .ok (.lconst 0, 1) := by decide +kernel
theorem dX12_isPlace_3 : decode cX12_isPlace 3 = .ok (.aload_n 0, 1) := by decide +kernel
theorem dX12_isPlace_4 : decode cX12_isPlace 4 = .ok (.getfield 138, 3) := by decide +kernel
theorem dX12_isPlace_7 : decode cX12_isPlace 7 = .ok (.iconst 1, 1) := by decide +kernel
theorem dX12_isPlace_8 : decode cX12_isPlace 8 = .ok (.isub, 1) := by decide +kernel
theorem dX12_isPlace_9 : decode cX12_isPlace 9 = .ok (.i2l, 1) := by decide +kernel
theorem dX12_isPlace_10 : decode cX12_isPlace 10 = .ok (.invokestatic 102, 3) := by decide +kernel
theorem dX12_isPlace_13 : decode cX12_isPlace 13 = .ok (.ireturn, 1) := by decide +kernel
set_option maxHeartbeats 4000000 in
set_option maxRecDepth 100000 in
theorem sX12_isPlace (l : Launch) (dC : Nat → ClassId) (dI : Nat → Nat → Nat) (h0 : Nat) (mi : Nat → Int32) (mr : Nat → Nat) (p1 : Int32) (gmi_0 : gi (mi 0) 0 24) (gmi_1 : gi (mi 1) 0 5) (gmi_2 : gi (mi 2) 0 5) (gmi_4 : gi (mi 4) 0 1) (gmi_7 : gi (mi 7) 0 6) (gmi_10 : gi (mi 10) 0 24) (gmi_17 : gi (mi 17) 0 8) (gmi_23 : gi (mi 23) 0 300) (gmi_24 : gi (mi 24) 0 1) (gmi_26 : gi (mi 26) 0 1600) (gmi_29 : gi (mi 29) 0 1600) (gmi_30 : gi (mi 30) 0 1600) (gmi_33 : gi (mi 33) 0 1) (gmi_37 : gi (mi 37) 0 1) (gmi_41 : gi (mi 41) 0 24) (gmi_50 : gi (mi 50) 0 1) (gmi_51 : gi (mi 51) 0 1) (gmi_56 : gi (mi 56) 0 80) : Met l yX12_isPlace (.code yX12_isPlace cX12_isPlace 2 (some .boolean) :: wsGB) ({ frames := 1, cells := 0, slots := 0, locals := 25 }) (va_Pc [.ref h0, .int p1] (fun U => va_P (dC, dI) vwCl [(h0, .inr (12, fsMM mi mr))] U.heap ∧ va_K (dC, dI) vwCl [] U)) (va_Qi (fun (r : Int32) (u : Unit) => gi r 0 1 ∧ (r.toInt = 1 → gi p1 0 5)) (fun _ _ => True) (fun _ => False)) 0 0 (fun _ => False) := by
  refine Met.ofW (cc := cX12_isPlace) (maxL := 2) (ret := (some .boolean)) (by decide) rfl ?_
  intro p e s m args below meth c s₁ B hml hv
  obtain ⟨rfl, hP, hK⟩ := hv
  have hx := B.exec
  have hb := B.bytes
  have hr := B.returns
  have hts := atoms_spec (ws := (.code yX12_isPlace cX12_isPlace 2 (some .boolean) :: wsGB)) B.pre
  have hown : s.vm.findClass RX12 = some m.cls := findClass_of_methodNamed B.named
  have hlocks := B.notSynchronized
  have hS : va_S (fun _ => False) s.heap s.heap [] := va_S.rf
  have hl := lv_entry ([.ref h0, .int p1]) (n := 2) (Nat.le_of_ble_eq_true rfl)
  rw [lg_entry_eq]
  generalize (lg_sl ([.ref h0, .int p1]) ++ List.replicate (2 - (lg_sl ([.ref h0, .int p1])).length) Slot.unset).toArray = ls at hl ⊢
  have hl : lv_has ls 2 [(0, .ref h0), (1, .int p1)] := hl
  refine lv_iload_n hx hb dX12_isPlace_0 rfl (lv_at hl 1 rfl) ?_
  refine lv_i2l (v := (p1).toInt64) hx hb dX12_isPlace_1 rfl ?_
  refine lv_topl (fun l_5 el_5 => ?_)
  refine lv_lconst (v := 0) hx hb dX12_isPlace_2 (by decide) ?_
  refine lv_aload_n hx hb dX12_isPlace_3 rfl (lv_at hl 0 rfl) ?_
  refine va_get (D := (dC, dI)) (ci := 12) (v := .int (mi 7)) (C := RX12) (T := TX12) (N := 57) hx hb hts (fun w h => List.mem_cons_of_mem _ (jnGB_X12 w h)) hown hK hP 0 rfl rfl 7 (by decide) (hts _ (List.mem_cons_of_mem _ mGB_110)) (fun _ h9 => h9) rfl dX12_isPlace_4 ?_
  refine lv_iconst (v := 1) hx hb dX12_isPlace_7 (by decide) ?_
  refine lv_isub hx hb dX12_isPlace_8 ?_
  refine lv_topi (fun x_6 ex_6 => ?_)
  have gx_6 : gi x_6 (-1) 5 := gi_sub ex_6 gmi_7 (gi_c 1 1 (by decide)) (by decide)
  refine lv_i2l (v := (x_6).toInt64) hx hb dX12_isPlace_9 rfl ?_
  refine lv_topl (fun l_7 el_7 => ?_)
  have hPc := hP.sub (ws' := []) [] rfl
  have hKc := hK.sub (tys' := []) [] rfl
  refine va_calli (va_runS (As := [.long l_5, .long 0, .long l_7]) (rest := []) ⟨hx, hb, hml, hown, hts⟩ (sX12_in l dC dI l_5 0 l_7) (cwS 3 hts (gz_gS mGB_47 mGB_48 mGB_1 mGB_49 goodGB) rfl rfl rfl (by decide +kernel) ⟨Nat.le_of_ble_eq_true rfl, Nat.le_of_ble_eq_true rfl⟩) ⟨fun a U g mk q => by obtain ⟨q0, qP, qK⟩ := q; exact ⟨q0, qP, va_K.moved (u := U) (U := U.calling g mk a) (Vm.Alike.refl U.vm) qK⟩, fun U hU hW => ⟨rfl, by rw [hU]; exact hPc, va_K.moved hW.alike hKc⟩⟩ rfl rfl hl.1 rfl (lv_room (Nat.le_of_ble_eq_true rfl)) dX12_isPlace_10 ⟨Nat.zero_le _, Nat.zero_le _⟩) hS (fun q _ h => h.elim) (fun q h => h.elim) (fun r_8 u t H1 locs ht hvm hw hB hz1 hk1 hS => ?_)
  have hP := gz_keep hP hk1
  generalize H1 = H at hP hS ⊢
  have gr_8 : gi r_8 0 1 := hw.1
  have hqr_8 := hw.2
  exact W.zret (v := r_8) hx hb hr (gz_nb gr_8) (fun t ht hW => ⟨⟨r_8, (), rfl, ⟨gr_8, (fun h1 => (gi_w (gz_inr (hqr_8.1 h1) el_5 (A := 0) (B := 5) (by decide) (gz_l2u el_7 gx_6)) (by decide)))⟩, trivial⟩, hS.F ht⟩) hS.2.2 dX12_isPlace_13
theorem dX12_isReport_0 : decode cX12_isReport 0 = .ok (.iload_n 1, 1) := by decide +kernel
theorem dX12_isReport_1 : decode cX12_isReport 1 = .ok (.i2l, 1) := by decide +kernel
theorem dX12_isReport_2 : decode cX12_isReport 2 = .ok (.lconst 0, 1) := by decide +kernel
theorem dX12_isReport_3 : decode cX12_isReport 3 = .ok (.aload_n 0, 1) := by decide +kernel
theorem dX12_isReport_4 : decode cX12_isReport 4 = .ok (.getfield 141, 3) := by decide +kernel
theorem dX12_isReport_7 : decode cX12_isReport 7 = .ok (.iconst 1, 1) := by decide +kernel
theorem dX12_isReport_8 : decode cX12_isReport 8 = .ok (.isub, 1) := by decide +kernel
theorem dX12_isReport_9 : decode cX12_isReport 9 = .ok (.i2l, 1) := by decide +kernel
theorem dX12_isReport_10 : decode cX12_isReport 10 = .ok (.invokestatic 102, 3) := by decide +kernel
theorem dX12_isReport_13 : decode cX12_isReport 13 = .ok (.ireturn, 1) := by decide +kernel
set_option maxHeartbeats 4000000 in
set_option maxRecDepth 100000 in
theorem sX12_isReport (l : Launch) (dC : Nat → ClassId) (dI : Nat → Nat → Nat) (h0 : Nat) (mi : Nat → Int32) (mr : Nat → Nat) (p1 : Int32) (gmi_0 : gi (mi 0) 0 24) (gmi_1 : gi (mi 1) 0 5) (gmi_2 : gi (mi 2) 0 5) (gmi_4 : gi (mi 4) 0 1) (gmi_7 : gi (mi 7) 0 6) (gmi_10 : gi (mi 10) 0 24) (gmi_17 : gi (mi 17) 0 8) (gmi_23 : gi (mi 23) 0 300) (gmi_24 : gi (mi 24) 0 1) (gmi_26 : gi (mi 26) 0 1600) (gmi_29 : gi (mi 29) 0 1600) (gmi_30 : gi (mi 30) 0 1600) (gmi_33 : gi (mi 33) 0 1) (gmi_37 : gi (mi 37) 0 1) (gmi_41 : gi (mi 41) 0 24) (gmi_50 : gi (mi 50) 0 1) (gmi_51 : gi (mi 51) 0 1) (gmi_56 : gi (mi 56) 0 80) : Met l yX12_isReport (.code yX12_isReport cX12_isReport 2 (some .boolean) :: wsGB) ({ frames := 1, cells := 0, slots := 0, locals := 25 }) (va_Pc [.ref h0, .int p1] (fun U => va_P (dC, dI) vwCl [(h0, .inr (12, fsMM mi mr))] U.heap ∧ va_K (dC, dI) vwCl [] U)) (va_Qi (fun (r : Int32) (u : Unit) => gi r 0 1 ∧ (r.toInt = 1 → gi p1 0 23)) (fun _ _ => True) (fun _ => False)) 0 0 (fun _ => False) := by
  refine Met.ofW (cc := cX12_isReport) (maxL := 2) (ret := (some .boolean)) (by decide) rfl ?_
  intro p e s m args below meth c s₁ B hml hv
  obtain ⟨rfl, hP, hK⟩ := hv
  have hx := B.exec
  have hb := B.bytes
  have hr := B.returns
  have hts := atoms_spec (ws := (.code yX12_isReport cX12_isReport 2 (some .boolean) :: wsGB)) B.pre
  have hown : s.vm.findClass RX12 = some m.cls := findClass_of_methodNamed B.named
  have hlocks := B.notSynchronized
  have hS : va_S (fun _ => False) s.heap s.heap [] := va_S.rf
  have hl := lv_entry ([.ref h0, .int p1]) (n := 2) (Nat.le_of_ble_eq_true rfl)
  rw [lg_entry_eq]
  generalize (lg_sl ([.ref h0, .int p1]) ++ List.replicate (2 - (lg_sl ([.ref h0, .int p1])).length) Slot.unset).toArray = ls at hl ⊢
  have hl : lv_has ls 2 [(0, .ref h0), (1, .int p1)] := hl
  refine lv_iload_n hx hb dX12_isReport_0 rfl (lv_at hl 1 rfl) ?_
  refine lv_i2l (v := (p1).toInt64) hx hb dX12_isReport_1 rfl ?_
  refine lv_topl (fun l_5 el_5 => ?_)
  refine lv_lconst (v := 0) hx hb dX12_isReport_2 (by decide) ?_
  refine lv_aload_n hx hb dX12_isReport_3 rfl (lv_at hl 0 rfl) ?_
  refine va_get (D := (dC, dI)) (ci := 12) (v := .int (mi 10)) (C := RX12) (T := TX12) (N := 57) hx hb hts (fun w h => List.mem_cons_of_mem _ (jnGB_X12 w h)) hown hK hP 0 rfl rfl 10 (by decide) (hts _ (List.mem_cons_of_mem _ mGB_111)) (fun _ h9 => h9) rfl dX12_isReport_4 ?_
  refine lv_iconst (v := 1) hx hb dX12_isReport_7 (by decide) ?_
  refine lv_isub hx hb dX12_isReport_8 ?_
  refine lv_topi (fun x_6 ex_6 => ?_)
  have gx_6 : gi x_6 (-1) 23 := gi_sub ex_6 gmi_10 (gi_c 1 1 (by decide)) (by decide)
  refine lv_i2l (v := (x_6).toInt64) hx hb dX12_isReport_9 rfl ?_
  refine lv_topl (fun l_7 el_7 => ?_)
  have hPc := hP.sub (ws' := []) [] rfl
  have hKc := hK.sub (tys' := []) [] rfl
  refine va_calli (va_runS (As := [.long l_5, .long 0, .long l_7]) (rest := []) ⟨hx, hb, hml, hown, hts⟩ (sX12_in l dC dI l_5 0 l_7) (cwS 3 hts (gz_gS mGB_47 mGB_48 mGB_1 mGB_49 goodGB) rfl rfl rfl (by decide +kernel) ⟨Nat.le_of_ble_eq_true rfl, Nat.le_of_ble_eq_true rfl⟩) ⟨fun a U g mk q => by obtain ⟨q0, qP, qK⟩ := q; exact ⟨q0, qP, va_K.moved (u := U) (U := U.calling g mk a) (Vm.Alike.refl U.vm) qK⟩, fun U hU hW => ⟨rfl, by rw [hU]; exact hPc, va_K.moved hW.alike hKc⟩⟩ rfl rfl hl.1 rfl (lv_room (Nat.le_of_ble_eq_true rfl)) dX12_isReport_10 ⟨Nat.zero_le _, Nat.zero_le _⟩) hS (fun q _ h => h.elim) (fun q h => h.elim) (fun r_8 u t H1 locs ht hvm hw hB hz1 hk1 hS => ?_)
  have hP := gz_keep hP hk1
  generalize H1 = H at hP hS ⊢
  have gr_8 : gi r_8 0 1 := hw.1
  have hqr_8 := hw.2
  exact W.zret (v := r_8) hx hb hr (gz_nb gr_8) (fun t ht hW => ⟨⟨r_8, (), rfl, ⟨gr_8, (fun h1 => (gi_w (gz_inr (hqr_8.1 h1) el_5 (A := 0) (B := 23) (by decide) (gz_l2u el_7 gx_6)) (by decide)))⟩, trivial⟩, hS.F ht⟩) hS.2.2 dX12_isReport_13
theorem dX12_isDeed_0 : decode cX12_isDeed 0 = .ok (.iload_n 1, 1) := by decide +kernel
theorem dX12_isDeed_1 : decode cX12_isDeed 1 = .ok (.i2l, 1) := by decide +kernel
theorem dX12_isDeed_2 : decode cX12_isDeed 2 = .ok (.lconst 0, 1) := by decide +kernel
theorem dX12_isDeed_3 : decode cX12_isDeed 3 = .ok (.aload_n 0, 1) := by decide +kernel
theorem dX12_isDeed_4 : decode cX12_isDeed 4 = .ok (.getfield 144, 3) := by decide +kernel
theorem dX12_isDeed_7 : decode cX12_isDeed 7 = .ok (.iconst 1, 1) := by decide +kernel
theorem dX12_isDeed_8 : decode cX12_isDeed 8 = .ok (.isub, 1) := by decide +kernel
theorem dX12_isDeed_9 : decode cX12_isDeed 9 = .ok (.i2l, 1) := by decide +kernel
theorem dX12_isDeed_10 : decode cX12_isDeed 10 = .ok (.invokestatic 102, 3) := by decide +kernel
theorem dX12_isDeed_13 : decode cX12_isDeed 13 = .ok (.ireturn, 1) := by decide +kernel
set_option maxHeartbeats 4000000 in
set_option maxRecDepth 100000 in
theorem sX12_isDeed (l : Launch) (dC : Nat → ClassId) (dI : Nat → Nat → Nat) (h0 : Nat) (mi : Nat → Int32) (mr : Nat → Nat) (p1 : Int32) (gmi_0 : gi (mi 0) 0 24) (gmi_1 : gi (mi 1) 0 5) (gmi_2 : gi (mi 2) 0 5) (gmi_4 : gi (mi 4) 0 1) (gmi_7 : gi (mi 7) 0 6) (gmi_10 : gi (mi 10) 0 24) (gmi_17 : gi (mi 17) 0 8) (gmi_23 : gi (mi 23) 0 300) (gmi_24 : gi (mi 24) 0 1) (gmi_26 : gi (mi 26) 0 1600) (gmi_29 : gi (mi 29) 0 1600) (gmi_30 : gi (mi 30) 0 1600) (gmi_33 : gi (mi 33) 0 1) (gmi_37 : gi (mi 37) 0 1) (gmi_41 : gi (mi 41) 0 24) (gmi_50 : gi (mi 50) 0 1) (gmi_51 : gi (mi 51) 0 1) (gmi_56 : gi (mi 56) 0 80) : Met l yX12_isDeed (.code yX12_isDeed cX12_isDeed 2 (some .boolean) :: wsGB) ({ frames := 1, cells := 0, slots := 0, locals := 25 }) (va_Pc [.ref h0, .int p1] (fun U => va_P (dC, dI) vwCl [(h0, .inr (12, fsMM mi mr))] U.heap ∧ va_K (dC, dI) vwCl [] U)) (va_Qi (fun (r : Int32) (u : Unit) => gi r 0 1 ∧ (r.toInt = 1 → gi p1 0 7)) (fun _ _ => True) (fun _ => False)) 0 0 (fun _ => False) := by
  refine Met.ofW (cc := cX12_isDeed) (maxL := 2) (ret := (some .boolean)) (by decide) rfl ?_
  intro p e s m args below meth c s₁ B hml hv
  obtain ⟨rfl, hP, hK⟩ := hv
  have hx := B.exec
  have hb := B.bytes
  have hr := B.returns
  have hts := atoms_spec (ws := (.code yX12_isDeed cX12_isDeed 2 (some .boolean) :: wsGB)) B.pre
  have hown : s.vm.findClass RX12 = some m.cls := findClass_of_methodNamed B.named
  have hlocks := B.notSynchronized
  have hS : va_S (fun _ => False) s.heap s.heap [] := va_S.rf
  have hl := lv_entry ([.ref h0, .int p1]) (n := 2) (Nat.le_of_ble_eq_true rfl)
  rw [lg_entry_eq]
  generalize (lg_sl ([.ref h0, .int p1]) ++ List.replicate (2 - (lg_sl ([.ref h0, .int p1])).length) Slot.unset).toArray = ls at hl ⊢
  have hl : lv_has ls 2 [(0, .ref h0), (1, .int p1)] := hl
  refine lv_iload_n hx hb dX12_isDeed_0 rfl (lv_at hl 1 rfl) ?_
  refine lv_i2l (v := (p1).toInt64) hx hb dX12_isDeed_1 rfl ?_
  refine lv_topl (fun l_5 el_5 => ?_)
  refine lv_lconst (v := 0) hx hb dX12_isDeed_2 (by decide) ?_
  refine lv_aload_n hx hb dX12_isDeed_3 rfl (lv_at hl 0 rfl) ?_
  refine va_get (D := (dC, dI)) (ci := 12) (v := .int (mi 17)) (C := RX12) (T := TX12) (N := 57) hx hb hts (fun w h => List.mem_cons_of_mem _ (jnGB_X12 w h)) hown hK hP 0 rfl rfl 17 (by decide) (hts _ (List.mem_cons_of_mem _ mGB_112)) (fun _ h9 => h9) rfl dX12_isDeed_4 ?_
  refine lv_iconst (v := 1) hx hb dX12_isDeed_7 (by decide) ?_
  refine lv_isub hx hb dX12_isDeed_8 ?_
  refine lv_topi (fun x_6 ex_6 => ?_)
  have gx_6 : gi x_6 (-1) 7 := gi_sub ex_6 gmi_17 (gi_c 1 1 (by decide)) (by decide)
  refine lv_i2l (v := (x_6).toInt64) hx hb dX12_isDeed_9 rfl ?_
  refine lv_topl (fun l_7 el_7 => ?_)
  have hPc := hP.sub (ws' := []) [] rfl
  have hKc := hK.sub (tys' := []) [] rfl
  refine va_calli (va_runS (As := [.long l_5, .long 0, .long l_7]) (rest := []) ⟨hx, hb, hml, hown, hts⟩ (sX12_in l dC dI l_5 0 l_7) (cwS 3 hts (gz_gS mGB_47 mGB_48 mGB_1 mGB_49 goodGB) rfl rfl rfl (by decide +kernel) ⟨Nat.le_of_ble_eq_true rfl, Nat.le_of_ble_eq_true rfl⟩) ⟨fun a U g mk q => by obtain ⟨q0, qP, qK⟩ := q; exact ⟨q0, qP, va_K.moved (u := U) (U := U.calling g mk a) (Vm.Alike.refl U.vm) qK⟩, fun U hU hW => ⟨rfl, by rw [hU]; exact hPc, va_K.moved hW.alike hKc⟩⟩ rfl rfl hl.1 rfl (lv_room (Nat.le_of_ble_eq_true rfl)) dX12_isDeed_10 ⟨Nat.zero_le _, Nat.zero_le _⟩) hS (fun q _ h => h.elim) (fun q h => h.elim) (fun r_8 u t H1 locs ht hvm hw hB hz1 hk1 hS => ?_)
  have hP := gz_keep hP hk1
  generalize H1 = H at hP hS ⊢
  have gr_8 : gi r_8 0 1 := hw.1
  have hqr_8 := hw.2
  exact W.zret (v := r_8) hx hb hr (gz_nb gr_8) (fun t ht hW => ⟨⟨r_8, (), rfl, ⟨gr_8, (fun h1 => (gi_w (gz_inr (hqr_8.1 h1) el_5 (A := 0) (B := 7) (by decide) (gz_l2u el_7 gx_6)) (by decide)))⟩, trivial⟩, hS.F ht⟩) hS.2.2 dX12_isDeed_13
theorem dX12_isTime_0 : decode cX12_isTime 0 = .ok (.aload_n 0, 1) := by decide +kernel
theorem dX12_isTime_1 : decode cX12_isTime 1 = .ok (.getfield 126, 3) := by decide +kernel
theorem dX12_isTime_4 : decode cX12_isTime 4 = .ok (.ifCond .le 19, 3) := by decide +kernel
theorem dX12_isTime_7 : decode cX12_isTime 7 = .ok (.iload_n 1, 1) := by decide +kernel
theorem dX12_isTime_8 : decode cX12_isTime 8 = .ok (.i2l, 1) := by decide +kernel
theorem dX12_isTime_9 : decode cX12_isTime 9 = .ok (.lconst 0, 1) := by decide +kernel
theorem dX12_isTime_10 : decode cX12_isTime 10 = .ok (.ldc2_w 292, 3) := by decide +kernel
theorem dX12_isTime_13 : decode cX12_isTime 13 = .ok (.invokestatic 102, 3) := by decide +kernel
theorem dX12_isTime_16 : decode cX12_isTime 16 = .ok (.ifCond .eq 7, 3) := by decide +kernel
theorem dX12_isTime_19 : decode cX12_isTime 19 = .ok (.iconst 1, 1) := by decide +kernel
theorem dX12_isTime_20 : decode cX12_isTime 20 = .ok (.goto 4, 3) := by decide +kernel
theorem dX12_isTime_23 : decode cX12_isTime 23 = .ok (.iconst 0, 1) := by decide +kernel
theorem dX12_isTime_24 : decode cX12_isTime 24 = .ok (.ireturn, 1) := by decide +kernel
set_option maxHeartbeats 4000000 in
set_option maxRecDepth 100000 in
theorem sX12_isTime (l : Launch) (dC : Nat → ClassId) (dI : Nat → Nat → Nat) (h0 : Nat) (mi : Nat → Int32) (mr : Nat → Nat) (p1 : Int32) (gmi_0 : gi (mi 0) 0 24) (gmi_1 : gi (mi 1) 0 5) (gmi_2 : gi (mi 2) 0 5) (gmi_4 : gi (mi 4) 0 1) (gmi_7 : gi (mi 7) 0 6) (gmi_10 : gi (mi 10) 0 24) (gmi_17 : gi (mi 17) 0 8) (gmi_23 : gi (mi 23) 0 300) (gmi_24 : gi (mi 24) 0 1) (gmi_26 : gi (mi 26) 0 1600) (gmi_29 : gi (mi 29) 0 1600) (gmi_30 : gi (mi 30) 0 1600) (gmi_33 : gi (mi 33) 0 1) (gmi_37 : gi (mi 37) 0 1) (gmi_41 : gi (mi 41) 0 24) (gmi_50 : gi (mi 50) 0 1) (gmi_51 : gi (mi 51) 0 1) (gmi_56 : gi (mi 56) 0 80) : Met l yX12_isTime (.code yX12_isTime cX12_isTime 2 (some .boolean) :: wsGB) ({ frames := 1, cells := 0, slots := 0, locals := 25 }) (va_Pc [.ref h0, .int p1] (fun U => va_P (dC, dI) vwCl [(h0, .inr (12, fsMM mi mr))] U.heap ∧ va_K (dC, dI) vwCl [] U)) (va_Qi (fun (r : Int32) (u : Unit) => gi r 0 1 ∧ (r.toInt = 1 → gi p1 0 999)) (fun _ _ => True) (fun _ => False)) 0 0 (fun _ => False) := by
  refine Met.ofW (cc := cX12_isTime) (maxL := 2) (ret := (some .boolean)) (by decide) rfl ?_
  intro p e s m args below meth c s₁ B hml hv
  obtain ⟨rfl, hP, hK⟩ := hv
  have hx := B.exec
  have hb := B.bytes
  have hr := B.returns
  have hts := atoms_spec (ws := (.code yX12_isTime cX12_isTime 2 (some .boolean) :: wsGB)) B.pre
  have hown : s.vm.findClass RX12 = some m.cls := findClass_of_methodNamed B.named
  have hlocks := B.notSynchronized
  have hS : va_S (fun _ => False) s.heap s.heap [] := va_S.rf
  have hl := lv_entry ([.ref h0, .int p1]) (n := 2) (Nat.le_of_ble_eq_true rfl)
  rw [lg_entry_eq]
  generalize (lg_sl ([.ref h0, .int p1]) ++ List.replicate (2 - (lg_sl ([.ref h0, .int p1])).length) Slot.unset).toArray = ls at hl ⊢
  have hl : lv_has ls 2 [(0, .ref h0), (1, .int p1)] := hl
  refine lv_aload_n hx hb dX12_isTime_0 rfl (lv_at hl 0 rfl) ?_
  refine va_get (D := (dC, dI)) (ci := 12) (v := .int (mi 3)) (C := RX12) (T := TX12) (N := 57) hx hb hts (fun w h => List.mem_cons_of_mem _ (jnGB_X12 w h)) hown hK hP 0 rfl rfl 3 (by decide) (hts _ (List.mem_cons_of_mem _ mGB_106)) (fun _ h9 => h9) rfl dX12_isTime_1 ?_
  refine lv_if_le (tgt := 23) hx hb dX12_isTime_4 (by decide) (fun c_10 => ?_) (fun c_10 => ?_)
  · have g_11 : gi (mi 3) (-2147483648) 0 := gi_le_l c_10 (gi_any (mi 3)) (gi_c 0 0 (by decide))
    refine lv_iconst (v := 0) hx hb dX12_isTime_23 (by decide) ?_
    exact W.zret (v := 0) hx hb hr (by decide) (fun t ht hW => ⟨⟨0, (), rfl, ⟨(gi_w (gi_c 0 0 (by decide)) (by decide)), (fun h => absurd h (by decide))⟩, trivial⟩, hS.F ht⟩) hS.2.2 dX12_isTime_24
  · have g_12 : gi (mi 3) 1 2147483647 := gi_lt_r (Int32.not_le.mp c_10) (gi_c 0 0 (by decide)) (gi_any (mi 3)) (by decide)
    refine lv_iload_n hx hb dX12_isTime_7 rfl (lv_at hl 1 rfl) ?_
    refine lv_i2l (v := (p1).toInt64) hx hb dX12_isTime_8 rfl ?_
    refine lv_topl (fun l_13 el_13 => ?_)
    refine lv_lconst (v := 0) hx hb dX12_isTime_9 (by decide) ?_
    refine lv_ldc2 (own := RX12) (v := 999) hx hb hown (hts _ (List.mem_cons_of_mem _ mGB_260)) dX12_isTime_10 ?_
    have hPc := hP.sub (ws' := []) [] rfl
    have hKc := hK.sub (tys' := []) [] rfl
    refine va_calli (va_runS (As := [.long l_13, .long 0, .long 999]) (rest := []) ⟨hx, hb, hml, hown, hts⟩ (sX12_in l dC dI l_13 0 999) (cwS 3 hts (gz_gS mGB_47 mGB_48 mGB_1 mGB_49 goodGB) rfl rfl rfl (by decide +kernel) ⟨Nat.le_of_ble_eq_true rfl, Nat.le_of_ble_eq_true rfl⟩) ⟨fun a U g mk q => by obtain ⟨q0, qP, qK⟩ := q; exact ⟨q0, qP, va_K.moved (u := U) (U := U.calling g mk a) (Vm.Alike.refl U.vm) qK⟩, fun U hU hW => ⟨rfl, by rw [hU]; exact hPc, va_K.moved hW.alike hKc⟩⟩ rfl rfl hl.1 rfl (lv_room (Nat.le_of_ble_eq_true rfl)) dX12_isTime_13 ⟨Nat.zero_le _, Nat.zero_le _⟩) hS (fun q _ h => h.elim) (fun q h => h.elim) (fun r_14 u t H1 locs ht hvm hw hB hz1 hk1 hS => ?_)
    have hP := gz_keep hP hk1
    generalize H1 = H at hP hS ⊢
    have gr_14 : gi r_14 0 1 := hw.1
    have hqr_14 := hw.2
    refine lv_if_eq (tgt := 23) hx hb dX12_isTime_16 (by decide) (fun c_15 => ?_) (fun c_15 => ?_)
    · have g_16 : gi r_14 0 0 := gi_eq c_15 (gi_c 0 0 (by decide))
      refine lv_iconst (v := 0) hx hb dX12_isTime_23 (by decide) ?_
      exact W.zret (v := 0) hx hb hr (by decide) (fun t ht hW => ⟨⟨0, (), rfl, ⟨(gi_w (gi_c 0 0 (by decide)) (by decide)), (fun h => absurd h (by decide))⟩, trivial⟩, hS.F ht⟩) hS.2.2 dX12_isTime_24
    · have g_17 : gi r_14 1 1 := gi_ne_lo c_15 gr_14 (gi_c 0 0 (by decide)) (by decide)
      have g_18 : gi p1 0 999 := gi_cap (gi_any p1) (gz_inr (hqr_14.1 (gz_one g_17)) el_13 (A := 0) (B := 999) (by decide) (by decide)) (by decide)
      refine lv_iconst (v := 1) hx hb dX12_isTime_19 (by decide) ?_
      refine lv_goto (tgt := 24) hx hb dX12_isTime_20 (by decide) ?_
      exact W.zret (v := 1) hx hb hr (by decide) (fun t ht hW => ⟨⟨1, (), rfl, ⟨(gi_w (gi_c 1 1 (by decide)) (by decide)), (fun _ => g_18)⟩, trivial⟩, hS.F ht⟩) hS.2.2 dX12_isTime_24
theorem dX12_earlyOf_0 : decode cX12_earlyOf 0 = .ok (.aload_n 0, 1) := by decide +kernel
theorem dX12_earlyOf_1 : decode cX12_earlyOf 1 = .ok (.getfield 132, 3) := by decide +kernel
theorem dX12_earlyOf_4 : decode cX12_earlyOf 4 = .ok (.iload_n 1, 1) := by decide +kernel
theorem dX12_earlyOf_5 : decode cX12_earlyOf 5 = .ok (.aload_n 0, 1) := by decide +kernel
theorem dX12_earlyOf_6 : decode cX12_earlyOf 6 = .ok (.getfield 135, 3) := by decide +kernel
theorem dX12_earlyOf_9 : decode cX12_earlyOf 9 = .ok (.imul, 1) := by decide +kernel
theorem dX12_earlyOf_10 : decode cX12_earlyOf 10 = .ok (.iadd, 1) := by decide +kernel
theorem dX12_earlyOf_11 : decode cX12_earlyOf 11 = .ok (.sipush 1000, 3) := by decide +kernel
theorem dX12_earlyOf_14 : decode cX12_earlyOf 14 = .ok (.idiv, 1) := by decide +kernel
theorem dX12_earlyOf_15 : decode cX12_earlyOf 15 = .ok (.ireturn, 1) := by decide +kernel
set_option maxHeartbeats 4000000 in
set_option maxRecDepth 100000 in
theorem sX12_earlyOf (l : Launch) (dC : Nat → ClassId) (dI : Nat → Nat → Nat) (h0 : Nat) (mi : Nat → Int32) (mr : Nat → Nat) (p1 : Int32) (gmi_0 : gi (mi 0) 0 24) (gmi_1 : gi (mi 1) 0 5) (gmi_2 : gi (mi 2) 0 5) (gmi_4 : gi (mi 4) 0 1) (gmi_7 : gi (mi 7) 0 6) (gmi_10 : gi (mi 10) 0 24) (gmi_17 : gi (mi 17) 0 8) (gmi_23 : gi (mi 23) 0 300) (gmi_24 : gi (mi 24) 0 1) (gmi_26 : gi (mi 26) 0 1600) (gmi_29 : gi (mi 29) 0 1600) (gmi_30 : gi (mi 30) 0 1600) (gmi_33 : gi (mi 33) 0 1) (gmi_37 : gi (mi 37) 0 1) (gmi_41 : gi (mi 41) 0 24) (gmi_50 : gi (mi 50) 0 1) (gmi_51 : gi (mi 51) 0 1) (gmi_56 : gi (mi 56) 0 80) : Met l yX12_earlyOf (.code yX12_earlyOf cX12_earlyOf 2 (some .int) :: wsGB) ({ frames := 0, cells := 0, slots := 0, locals := 0 }) (va_Pc [.ref h0, .int p1] (fun U => va_P (dC, dI) vwCl [(h0, .inr (12, fsMM mi mr))] U.heap ∧ va_K (dC, dI) vwCl [] U)) (va_Qi (fun (r : Int32) (u : Unit) => gi r (-2147483648) 2147483647) (fun _ _ => True) (fun _ => False)) 0 0 (fun _ => False) := by
  refine Met.ofW (cc := cX12_earlyOf) (maxL := 2) (ret := (some .int)) (by decide) rfl ?_
  intro p e s m args below meth c s₁ B hml hv
  obtain ⟨rfl, hP, hK⟩ := hv
  have hx := B.exec
  have hb := B.bytes
  have hr := B.returns
  have hts := atoms_spec (ws := (.code yX12_earlyOf cX12_earlyOf 2 (some .int) :: wsGB)) B.pre
  have hown : s.vm.findClass RX12 = some m.cls := findClass_of_methodNamed B.named
  have hlocks := B.notSynchronized
  have hS : va_S (fun _ => False) s.heap s.heap [] := va_S.rf
  have hl := lv_entry ([.ref h0, .int p1]) (n := 2) (Nat.le_of_ble_eq_true rfl)
  rw [lg_entry_eq]
  generalize (lg_sl ([.ref h0, .int p1]) ++ List.replicate (2 - (lg_sl ([.ref h0, .int p1])).length) Slot.unset).toArray = ls at hl ⊢
  have hl : lv_has ls 2 [(0, .ref h0), (1, .int p1)] := hl
  refine lv_aload_n hx hb dX12_earlyOf_0 rfl (lv_at hl 0 rfl) ?_
  refine va_get (D := (dC, dI)) (ci := 12) (v := .int (mi 5)) (C := RX12) (T := TX12) (N := 57) hx hb hts (fun w h => List.mem_cons_of_mem _ (jnGB_X12 w h)) hown hK hP 0 rfl rfl 5 (by decide) (hts _ (List.mem_cons_of_mem _ mGB_108)) (fun _ h9 => h9) rfl dX12_earlyOf_1 ?_
  refine lv_iload_n hx hb dX12_earlyOf_4 rfl (lv_at hl 1 rfl) ?_
  refine lv_aload_n hx hb dX12_earlyOf_5 rfl (lv_at hl 0 rfl) ?_
  refine va_get (D := (dC, dI)) (ci := 12) (v := .int (mi 6)) (C := RX12) (T := TX12) (N := 57) hx hb hts (fun w h => List.mem_cons_of_mem _ (jnGB_X12 w h)) hown hK hP 0 rfl rfl 6 (by decide) (hts _ (List.mem_cons_of_mem _ mGB_109)) (fun _ h9 => h9) rfl dX12_earlyOf_6 ?_
  refine lv_imul hx hb dX12_earlyOf_9 ?_
  refine lv_topi (fun x_4 ex_4 => ?_)
  refine lv_iadd hx hb dX12_earlyOf_10 ?_
  refine lv_topi (fun x_5 ex_5 => ?_)
  refine lv_sipush (v := 1000) hx hb dX12_earlyOf_11 (by decide) ?_
  refine lv_idiv hx hb dX12_earlyOf_14 (by decide) ?_
  refine lv_topi (fun x_6 ex_6 => ?_)
  exact W.iret (v := x_6) hx hb hr (fun t ht hW => ⟨⟨x_6, (), rfl, (gi_any x_6), trivial⟩, hS.F ht⟩) hS.2.2 dX12_earlyOf_15
theorem dX12_unpins_0 : decode cX12_unpins 0 = .ok (.iconst 0, 1) := by decide +kernel
theorem dX12_unpins_1 : decode cX12_unpins 1 = .ok (.istore_n 1, 1) := by decide +kernel
theorem dX12_unpins_2 : decode cX12_unpins 2 = .ok (.iload_n 1, 1) := by decide +kernel
theorem dX12_unpins_3 : decode cX12_unpins 3 = .ok (.bipush 24, 2) := by decide +kernel
theorem dX12_unpins_5 : decode cX12_unpins 5 = .ok (.if_icmp .gt 16, 3) := by decide +kernel
theorem dX12_unpins_8 : decode cX12_unpins 8 = .ok (.aload_n 0, 1) := by decide +kernel
theorem dX12_unpins_9 : decode cX12_unpins 9 = .ok (.getfield 63, 3) := by decide +kernel
theorem dX12_unpins_12 : decode cX12_unpins 12 = .ok (.iload_n 1, 1) := by decide +kernel
theorem dX12_unpins_13 : decode cX12_unpins 13 = .ok (.iconst (-1), 1) := by decide +kernel
theorem dX12_unpins_14 : decode cX12_unpins 14 = .ok (.iastore, 1) := by decide +kernel
theorem dX12_unpins_15 : decode cX12_unpins 15 = .ok (.iinc 1 1, 3) := by decide +kernel
theorem dX12_unpins_18 : decode cX12_unpins 18 = .ok (.goto (-16), 3) := by decide +kernel
theorem dX12_unpins_21 : decode cX12_unpins 21 = .ok (.return_, 1) := by decide +kernel
set_option maxHeartbeats 4000000 in
set_option maxRecDepth 100000 in
theorem lp_sX12_unpins {p : Program} {l : Launch} {e : Env} {R : Room} {s : State} {m : MethodId} {args : Array Value} {below : List Frame} {meth : Method} {c : Code} {Q : State → Prop} {A : Nat → Prop} {cells slots : Nat} {dC : Nat → ClassId} {dI : Nat → Nat → Nat} (h0 : Nat) (mi : Nat → Int32) (mr : Nat → Nat) (km_pin : ClassId) (fm_pin : Nat → Int32) (gmi_0 : gi (mi 0) 0 24) (gmi_1 : gi (mi 1) 0 5) (gmi_2 : gi (mi 2) 0 5) (gmi_4 : gi (mi 4) 0 1) (gmi_7 : gi (mi 7) 0 6) (gmi_10 : gi (mi 10) 0 24) (gmi_17 : gi (mi 17) 0 8) (gmi_23 : gi (mi 23) 0 300) (gmi_24 : gi (mi 24) 0 1) (gmi_26 : gi (mi 26) 0 1600) (gmi_29 : gi (mi 29) 0 1600) (gmi_30 : gi (mi 30) 0 1600) (gmi_33 : gi (mi 33) 0 1) (gmi_37 : gi (mi 37) 0 1) (gmi_41 : gi (mi 41) 0 24) (gmi_50 : gi (mi 50) 0 1) (gmi_51 : gi (mi 51) 0 1) (gmi_56 : gi (mi 56) 0 80) (hx : p.tables.exec = Jvm.exec) (hb : c.code = cX12_unpins) (hml : c.maxLocals = 2) (hown : s.vm.findClass RX12 = some m.cls) (hts : ∀ w ∈ ((.code yX12_unpins cX12_unpins 2 none :: wsGB) : List Cond), w.before args s = true) (hK : va_K (dC, dI) vwCl [(km_pin, .int)] s) (hA : ∀ q : Nat, s.heap.size ≤ q → A q) (hRf : 0 ≤ R.frames) (hRl : 0 ≤ R.locals) (hRc : cells ≤ R.cells) (hRs : slots ≤ R.slots) (kr21 : ∀ (z1 : Nat → Int32) (H : Heap) (locs : List Loc) (ls : Array Slot), va_P (dC, dI) vwCl [(h0, .inr (12, fsMM mi mr)), ((mr 16), .inl (km_pin, 25, .inl z1))] H → va_D A [(h0, .inr (12, fsMM mi mr)), ((mr 16), .inl (km_pin, 25, .inl z1))] → va_S A s.heap H locs → lv_has ls 2 [] → W p l e R s m args below meth c H locs cells slots Q (F0 m 21 ls [])) : ∀ z : Nat, (∀ (v1 : Int32) (z1 : Nat → Int32) (H : Heap) (locs : List Loc) (ls : Array Slot), gi v1 0 25 → 51 + (-2) * v1.toInt < (z : Int) → va_P (dC, dI) vwCl [(h0, .inr (12, fsMM mi mr)), ((mr 16), .inl (km_pin, 25, .inl z1))] H → va_D A [(h0, .inr (12, fsMM mi mr)), ((mr 16), .inl (km_pin, 25, .inl z1))] → va_S A s.heap H locs → lv_has ls 2 [(0, .ref h0), (1, .int v1)] → W p l e R s m args below meth c H locs cells slots Q (F0 m 2 ls [])) := by
  intro z
  induction z with
  | zero =>
    intro v1 z1 H locs ls gv1 hmu hP hD hS hl
    exact absurd hmu (by have hv11 := gv1.1; have hv12 := gv1.2; omega)
  | succ z ih =>
      intro v1 z1 H locs ls gv1 hmu hP hD hS hl
      refine lv_iload_n hx hb dX12_unpins_2 rfl (lv_at hl 1 rfl) ?_
      refine lv_bipush (v := 24) hx hb dX12_unpins_3 (by decide) ?_
      refine lv_icmp_gt (tgt := 21) hx hb dX12_unpins_5 (by decide) (fun c_51 => ?_) (fun c_51 => ?_)
      · have g_52 : gi v1 25 25 := gi_lt_r c_51 (gi_c 24 24 (by decide)) gv1 (by decide)
        exact kr21 z1 _ _ _ hP hD hS (lv_sub hl [] rfl)
      · have g_53 : gi v1 0 24 := gi_le_l (Int32.not_lt.mp c_51) gv1 (gi_c 24 24 (by decide))
        refine lv_aload_n hx hb dX12_unpins_8 rfl (lv_at hl 0 rfl) ?_
        refine va_get (D := (dC, dI)) (ci := 12) (v := .ref (mr 16)) (C := RX12) (T := TX12) (N := 57) hx hb hts (fun w h => List.mem_cons_of_mem _ (jnGB_X12 w h)) hown hK hP 0 rfl rfl 36 (by decide) (hts _ (List.mem_cons_of_mem _ mGB_28)) (fun _ h9 => h9) rfl dX12_unpins_9 ?_
        refine lv_iload_n hx hb dX12_unpins_12 rfl (lv_at hl 1 rfl) ?_
        refine lv_iconst (v := (-1)) hx hb dX12_unpins_13 (by decide) ?_
        refine va_iast hx hb hK hP hD hS 1 0 rfl rfl (gi_in g_53 (by decide)) dX12_unpins_14 (fun H locs hP hD hS => ?_)
        have hP : va_P (dC, dI) vwCl [(h0, .inr (12, fsMM mi mr)), ((mr 16), .inl (km_pin, 25, .inl (upd z1 (v1 : Int32).toNatClampNeg (-1))))] H := hP
        have hD : va_D A [(h0, .inr (12, fsMM mi mr)), ((mr 16), .inl (km_pin, 25, .inl (upd z1 (v1 : Int32).toNatClampNeg (-1))))] := hD
        generalize upd z1 (v1 : Int32).toNatClampNeg (-1) = f_54 at hP hD
        obtain ⟨x_55, ex_55⟩ : ∃ y : Int32, y = v1 + 1 := ⟨_, rfl⟩
        have gx_55 : gi x_55 1 25 := gi_add ex_55 g_53 (gi_c 1 1 (by decide)) (by decide)
        refine lv_iinc (v := x_55) (lv' := [(1, .int x_55), (0, .ref h0)]) hx hb dX12_unpins_15 hl (k := 1) rfl (by rw [ex_55]; rfl) (by decide) rfl (fun ls hl => ?_)
        refine lv_goto (tgt := 2) hx hb dX12_unpins_18 (by decide) ?_
        exact ih x_55 f_54 _ _ _ (gi_w gx_55 (by decide)) (by have av1 := gv1.1; have bv1 := gv1.2; have qgx_55 := gx_55.1; have rgx_55 := gx_55.2; have igx_55 : x_55.toInt = v1.toInt + 1 := (by have hc1 : (1 : Int32).toInt = 1 := (by decide); have h9 := gi_addI ex_55 (by have h1 := g_53.1; have h2 := (gi_c 1 1 (by decide)).1; have h3 := g_53.2; have h4 := (gi_c 1 1 (by decide)).2; omega) (by have h1 := g_53.1; have h2 := (gi_c 1 1 (by decide)).1; have h3 := g_53.2; have h4 := (gi_c 1 1 (by decide)).2; omega); rw [hc1] at h9; exact h9); have qgv1 := g_53.1; have rgv1 := g_53.2; omega) hP hD hS (lv_sub hl [1, 0] rfl)
set_option maxHeartbeats 4000000 in
set_option maxRecDepth 100000 in
theorem sX12_unpins (l : Launch) (dC : Nat → ClassId) (dI : Nat → Nat → Nat) (sz : Nat) (h0 : Nat) (mi : Nat → Int32) (mr : Nat → Nat) (km_pin : ClassId) (fm_pin : Nat → Int32) (gmi_0 : gi (mi 0) 0 24) (gmi_1 : gi (mi 1) 0 5) (gmi_2 : gi (mi 2) 0 5) (gmi_4 : gi (mi 4) 0 1) (gmi_7 : gi (mi 7) 0 6) (gmi_10 : gi (mi 10) 0 24) (gmi_17 : gi (mi 17) 0 8) (gmi_23 : gi (mi 23) 0 300) (gmi_24 : gi (mi 24) 0 1) (gmi_26 : gi (mi 26) 0 1600) (gmi_29 : gi (mi 29) 0 1600) (gmi_30 : gi (mi 30) 0 1600) (gmi_33 : gi (mi 33) 0 1) (gmi_37 : gi (mi 37) 0 1) (gmi_41 : gi (mi 41) 0 24) (gmi_50 : gi (mi 50) 0 1) (gmi_51 : gi (mi 51) 0 1) (gmi_56 : gi (mi 56) 0 80) : Met l yX12_unpins (.code yX12_unpins cX12_unpins 2 none :: wsGB) ({ frames := 0, cells := 0, slots := 0, locals := 0 }) (va_Pc [.ref h0] (fun U => U.heap.size = sz ∧ va_P (dC, dI) vwCl [(h0, .inr (12, fsMM mi mr)), ((mr 16), .inl (km_pin, 25, .inl fm_pin))] U.heap ∧ va_K (dC, dI) vwCl [(km_pin, .int)] U ∧ va_D (fun _ => True) [(h0, .inr (12, fsMM mi mr)), ((mr 16), .inl (km_pin, 25, .inl fm_pin))])) (va_Qv (fun (u : Unit) => True) (fun _ t => ∃ (z1 : Nat → Int32), va_P (dC, dI) vwCl [(h0, .inr (12, fsMM mi mr)), ((mr 16), .inl (km_pin, 25, .inl z1))] t.heap ∧ va_D (va_A [(h0, .inr (12, fsMM mi mr)), ((mr 16), .inl (km_pin, 25, .inl fm_pin))] sz) [(h0, .inr (12, fsMM mi mr)), ((mr 16), .inl (km_pin, 25, .inl z1))]) (va_A [(h0, .inr (12, fsMM mi mr)), ((mr 16), .inl (km_pin, 25, .inl fm_pin))] sz)) 0 0 (va_A [(h0, .inr (12, fsMM mi mr)), ((mr 16), .inl (km_pin, 25, .inl fm_pin))] sz) := by
  refine Met.ofW (cc := cX12_unpins) (maxL := 2) (ret := none) (by decide) rfl ?_
  intro p e s m args below meth c s₁ B hml hv
  obtain ⟨rfl, hsz, hP, hK, hD0⟩ := hv
  have hx := B.exec
  have hb := B.bytes
  have hr := B.returns
  have hts := atoms_spec (ws := (.code yX12_unpins cX12_unpins 2 none :: wsGB)) B.pre
  have hown : s.vm.findClass RX12 = some m.cls := findClass_of_methodNamed B.named
  have hlocks := B.notSynchronized
  subst hsz
  have hD := hD0.self (sz := s.heap.size)
  generalize hAe : va_A [(h0, .inr (12, fsMM mi mr)), ((mr 16), .inl (km_pin, 25, .inl fm_pin))] s.heap.size = A at hD ⊢
  have hA : ∀ q : Nat, s.heap.size ≤ q → A q := fun q h => by rw [← hAe]; exact Or.inr h
  have hS : va_S A s.heap s.heap [] := va_S.rf
  have hl := lv_entry ([.ref h0]) (n := 2) (Nat.le_of_ble_eq_true rfl)
  rw [lg_entry_eq]
  generalize (lg_sl ([.ref h0]) ++ List.replicate (2 - (lg_sl ([.ref h0])).length) Slot.unset).toArray = ls at hl ⊢
  have hl : lv_has ls 2 [(0, .ref h0)] := hl
  refine lv_iconst (v := 0) hx hb dX12_unpins_0 (by decide) ?_
  refine lv_istore_n (lv' := [(1, .int 0), (0, .ref h0)]) hx hb dX12_unpins_1 rfl hl (by decide) rfl (fun ls hl => ?_)
  refine (lp_sX12_unpins h0 mi mr km_pin fm_pin gmi_0 gmi_1 gmi_2 gmi_4 gmi_7 gmi_10 gmi_17 gmi_23 gmi_24 gmi_26 gmi_29 gmi_30 gmi_33 gmi_37 gmi_41 gmi_50 gmi_51 gmi_56 hx hb hml hown hts hK hA (Nat.le_of_ble_eq_true rfl) (Nat.le_of_ble_eq_true rfl) (Nat.zero_le _) (Nat.zero_le _) (fun z1 H locs ls hP hD hS hl => ?_) 64) 0 fm_pin _ _ _ (gi_w (gi_c 0 0 (by decide)) (by decide)) (by have k0 : (0 : Int32).toInt = 0 := (by decide); omega) hP hD hS (lv_sub hl [1, 0] rfl)
  · skip
    exact W.vret hx hb hr (fun t ht hW => ⟨⟨(), rfl, trivial, z1, by rw [ht]; exact hP, hD⟩, hS.F ht⟩) hS.2.2 dX12_unpins_21
theorem dX12_frees_0 : decode cX12_frees 0 = .ok (.aload_n 0, 1) := by decide +kernel
theorem dX12_frees_1 : decode cX12_frees 1 = .ok (.iconst 0, 1) := by decide +kernel
theorem dX12_frees_2 : decode cX12_frees 2 = .ok (.putfield 312, 3) := by decide +kernel
theorem dX12_frees_5 : decode cX12_frees 5 = .ok (.iconst 0, 1) := by decide +kernel
theorem dX12_frees_6 : decode cX12_frees 6 = .ok (.istore_n 1, 1) := by decide +kernel
theorem dX12_frees_7 : decode cX12_frees 7 = .ok (.iload_n 1, 1) := by decide +kernel
theorem dX12_frees_8 : decode cX12_frees 8 = .ok (.bipush 24, 2) := by decide +kernel
theorem dX12_frees_10 : decode cX12_frees 10 = .ok (.if_icmp .gt 23, 3) := by decide +kernel
theorem dX12_frees_13 : decode cX12_frees 13 = .ok (.aload_n 0, 1) := by decide +kernel
theorem dX12_frees_14 : decode cX12_frees 14 = .ok (.getfield 57, 3) := by decide +kernel
theorem dX12_frees_17 : decode cX12_frees 17 = .ok (.iload_n 1, 1) := by decide +kernel
theorem dX12_frees_18 : decode cX12_frees 18 = .ok (.iconst (-1), 1) := by decide +kernel
theorem dX12_frees_19 : decode cX12_frees 19 = .ok (.iastore, 1) := by decide +kernel
theorem dX12_frees_20 : decode cX12_frees 20 = .ok (.aload_n 0, 1) := by decide +kernel
theorem dX12_frees_21 : decode cX12_frees 21 = .ok (.getfield 60, 3) := by decide +kernel
theorem dX12_frees_24 : decode cX12_frees 24 = .ok (.iload_n 1, 1) := by decide +kernel
theorem dX12_frees_25 : decode cX12_frees 25 = .ok (.iconst 0, 1) := by decide +kernel
theorem dX12_frees_26 : decode cX12_frees 26 = .ok (.iastore, 1) := by decide +kernel
theorem dX12_frees_27 : decode cX12_frees 27 = .ok (.iinc 1 1, 3) := by decide +kernel
theorem dX12_frees_30 : decode cX12_frees 30 = .ok (.goto (-23), 3) := by decide +kernel
theorem dX12_frees_33 : decode cX12_frees 33 = .ok (.aload_n 0, 1) := by decide +kernel
theorem dX12_frees_34 : decode cX12_frees 34 = .ok (.invokevirtual 315, 3) := by decide +kernel
theorem dX12_frees_37 : decode cX12_frees 37 = .ok (.return_, 1) := by decide +kernel
set_option maxHeartbeats 4000000 in
set_option maxRecDepth 100000 in
theorem lp_sX12_frees {p : Program} {l : Launch} {e : Env} {R : Room} {s : State} {m : MethodId} {args : Array Value} {below : List Frame} {meth : Method} {c : Code} {Q : State → Prop} {A : Nat → Prop} {cells slots : Nat} {dC : Nat → ClassId} {dI : Nat → Nat → Nat} (h0 : Nat) (mi : Nat → Int32) (mr : Nat → Nat) (km_must : ClassId) (fm_must : Nat → Int32) (km_least : ClassId) (fm_least : Nat → Int32) (km_pin : ClassId) (fm_pin : Nat → Int32) (gmi_0 : gi (mi 0) 0 24) (gmi_1 : gi (mi 1) 0 5) (gmi_2 : gi (mi 2) 0 5) (gmi_4 : gi (mi 4) 0 1) (gmi_7 : gi (mi 7) 0 6) (gmi_10 : gi (mi 10) 0 24) (gmi_17 : gi (mi 17) 0 8) (gmi_23 : gi (mi 23) 0 300) (gmi_24 : gi (mi 24) 0 1) (gmi_26 : gi (mi 26) 0 1600) (gmi_29 : gi (mi 29) 0 1600) (gmi_30 : gi (mi 30) 0 1600) (gmi_33 : gi (mi 33) 0 1) (gmi_37 : gi (mi 37) 0 1) (gmi_41 : gi (mi 41) 0 24) (gmi_50 : gi (mi 50) 0 1) (gmi_51 : gi (mi 51) 0 1) (gmi_56 : gi (mi 56) 0 80) (hx : p.tables.exec = Jvm.exec) (hb : c.code = cX12_frees) (hml : c.maxLocals = 2) (hown : s.vm.findClass RX12 = some m.cls) (hts : ∀ w ∈ ((.code yX12_frees cX12_frees 2 none :: wsGB) : List Cond), w.before args s = true) (hK : va_K (dC, dI) vwCl [(km_must, .int), (km_least, .int), (km_pin, .int)] s) (hA : ∀ q : Nat, s.heap.size ≤ q → A q) (hRf : 1 ≤ R.frames) (hRl : 21 ≤ R.locals) (hRc : cells ≤ R.cells) (hRs : slots ≤ R.slots) (kr37 : ∀ (w0_37 : Int32) (z1 : Nat → Int32) (z2 : Nat → Int32) (z3 : Nat → Int32) (H : Heap) (locs : List Loc) (ls : Array Slot), gi w0_37 0 1 → va_P (dC, dI) vwCl [(h0, .inr (12, fsMM (upd mi 37 w0_37) mr)), ((mr 14), .inl (km_must, 25, .inl z1)), ((mr 15), .inl (km_least, 25, .inl z2)), ((mr 16), .inl (km_pin, 25, .inl z3))] H → va_D A [(h0, .inr (12, fsMM (upd mi 37 w0_37) mr)), ((mr 14), .inl (km_must, 25, .inl z1)), ((mr 15), .inl (km_least, 25, .inl z2)), ((mr 16), .inl (km_pin, 25, .inl z3))] → va_S A s.heap H locs → lv_has ls 2 [] → W p l e R s m args below meth c H locs cells slots Q (F0 m 37 ls [])) : ∀ z : Nat, (∀ (v1 : Int32) (w0_37 : Int32) (z1 : Nat → Int32) (z2 : Nat → Int32) (H : Heap) (locs : List Loc) (ls : Array Slot), gi v1 0 25 → gi w0_37 0 1 → 51 + (-2) * v1.toInt < (z : Int) → va_P (dC, dI) vwCl [(h0, .inr (12, fsMM (upd mi 37 w0_37) mr)), ((mr 14), .inl (km_must, 25, .inl z1)), ((mr 15), .inl (km_least, 25, .inl z2)), ((mr 16), .inl (km_pin, 25, .inl fm_pin))] H → va_D A [(h0, .inr (12, fsMM (upd mi 37 w0_37) mr)), ((mr 14), .inl (km_must, 25, .inl z1)), ((mr 15), .inl (km_least, 25, .inl z2)), ((mr 16), .inl (km_pin, 25, .inl fm_pin))] → va_S A s.heap H locs → lv_has ls 2 [(0, .ref h0), (1, .int v1)] → W p l e R s m args below meth c H locs cells slots Q (F0 m 7 ls [])) := by
  intro z
  induction z with
  | zero =>
    intro v1 w0_37 z1 z2 H locs ls gv1 gw0_37 hmu hP hD hS hl
    exact absurd hmu (by have hv11 := gv1.1; have hv12 := gv1.2; omega)
  | succ z ih =>
      intro v1 w0_37 z1 z2 H locs ls gv1 gw0_37 hmu hP hD hS hl
      refine lv_iload_n hx hb dX12_frees_7 rfl (lv_at hl 1 rfl) ?_
      refine lv_bipush (v := 24) hx hb dX12_frees_8 (by decide) ?_
      refine lv_icmp_gt (tgt := 33) hx hb dX12_frees_10 (by decide) (fun c_77 => ?_) (fun c_77 => ?_)
      · have g_78 : gi v1 25 25 := gi_lt_r c_77 (gi_c 24 24 (by decide)) gv1 (by decide)
        refine lv_aload_n hx hb dX12_frees_33 rfl (lv_at hl 0 rfl) ?_
        have hPc := hP.sub (ws' := [(h0, .inr (12, fsMM (upd mi 37 w0_37) mr)), ((mr 16), .inl (km_pin, 25, .inl fm_pin))]) [0, 3] rfl
        have hKc := hK.sub (tys' := [(km_pin, .int)]) [2] rfl
        have hDc := hD.sub (ws' := [(h0, .inr (12, fsMM (upd mi 37 w0_37) mr)), ((mr 16), .inl (km_pin, 25, .inl fm_pin))]) [0, 3] (by decide) rfl
        have hFc := va_free (wc := [(h0, .inr (12, fsMM (upd mi 37 w0_37) mr)), ((mr 16), .inl (km_pin, 25, .inl fm_pin))]) hD hS hA [0, 3] rfl
        refine va_callv (va_runV (As := []) (rest := []) ⟨hx, hb, hml, hown, hts⟩ (sX12_unpins l dC dI H.size h0 (upd mi 37 w0_37) mr km_pin fm_pin gmi_0 gmi_1 gmi_2 gmi_4 gmi_7 gmi_10 gmi_17 gmi_23 gmi_24 gmi_26 gmi_29 gmi_30 gmi_33 gw0_37 gmi_41 gmi_50 gmi_51 gmi_56) (cwV 0 hts (gz_gV mGB_271 mGB_272 mGB_273 mGB_1 mGB_274 goodGB) rfl rfl rfl (by decide +kernel) ⟨Nat.le_trans (Nat.le_of_ble_eq_true rfl) hRf, Nat.le_trans (Nat.le_of_ble_eq_true rfl) hRl⟩) ⟨fun a U g mk q => by obtain ⟨q0, q1, qP, qK, qD⟩ := q; exact ⟨q0, q1, qP, va_K.moved (u := U) (U := U.calling g mk a) (Vm.Alike.refl U.vm) qK, qD⟩, va_recv hKc hPc (ci := 12) (q0 := 0) rfl rfl, fun U hU hW => ⟨rfl, by rw [hU], by rw [hU]; exact hPc, va_K.moved hW.alike hKc, hDc.weaken (fun _ _ _ _ => trivial)⟩⟩ rfl rfl hl.1 rfl (lv_room (Nat.le_of_ble_eq_true rfl)) dX12_frees_34 ⟨hRc, hRs⟩) hS (fun q _ h => hFc q h) hFc (fun u t H1 locs ht hvm hw hB hz1 hk1 hS => ?_)
        obtain ⟨f_80, hP1, hD1⟩ := hB
        rw [ht] at hP1
        obtain ⟨hP, hD⟩ := va_join (wr := [((mr 14), .inl (km_must, 25, .inl z1)), ((mr 15), .inl (km_least, 25, .inl z2))]) (w1 := [(h0, .inr (12, fsMM (upd mi 37 w0_37) mr)), ((mr 16), .inl (km_pin, 25, .inl f_80))]) hP hD [0, 3] [1, 2] rfl rfl (by decide) (by decide) hk1 hFc hP1 hD1
        have hP := hP.sub (ws' := [(h0, .inr (12, fsMM (upd mi 37 w0_37) mr)), ((mr 14), .inl (km_must, 25, .inl z1)), ((mr 15), .inl (km_least, 25, .inl z2)), ((mr 16), .inl (km_pin, 25, .inl f_80))]) [2, 0, 1, 3] rfl
        have hD := hD.sub (ws' := [(h0, .inr (12, fsMM (upd mi 37 w0_37) mr)), ((mr 14), .inl (km_must, 25, .inl z1)), ((mr 15), .inl (km_least, 25, .inl z2)), ((mr 16), .inl (km_pin, 25, .inl f_80))]) [2, 0, 1, 3] (by decide) rfl
        generalize H1 = H at hP hS ⊢
        exact kr37 w0_37 z1 z2 f_80 _ _ _ gw0_37 hP hD hS (lv_sub hl [] rfl)
      · have g_81 : gi v1 0 24 := gi_le_l (Int32.not_lt.mp c_77) gv1 (gi_c 24 24 (by decide))
        refine lv_aload_n hx hb dX12_frees_13 rfl (lv_at hl 0 rfl) ?_
        refine va_get (D := (dC, dI)) (ci := 12) (v := .ref (mr 14)) (C := RX12) (T := TX12) (N := 57) hx hb hts (fun w h => List.mem_cons_of_mem _ (jnGB_X12 w h)) hown hK hP 0 rfl rfl 34 (by decide) (hts _ (List.mem_cons_of_mem _ mGB_26)) (fun _ h9 => h9) rfl dX12_frees_14 ?_
        refine lv_iload_n hx hb dX12_frees_17 rfl (lv_at hl 1 rfl) ?_
        refine lv_iconst (v := (-1)) hx hb dX12_frees_18 (by decide) ?_
        refine va_iast hx hb hK hP hD hS 1 0 rfl rfl (gi_in g_81 (by decide)) dX12_frees_19 (fun H locs hP hD hS => ?_)
        have hP : va_P (dC, dI) vwCl [(h0, .inr (12, fsMM (upd mi 37 w0_37) mr)), ((mr 14), .inl (km_must, 25, .inl (upd z1 (v1 : Int32).toNatClampNeg (-1)))), ((mr 15), .inl (km_least, 25, .inl z2)), ((mr 16), .inl (km_pin, 25, .inl fm_pin))] H := hP
        have hD : va_D A [(h0, .inr (12, fsMM (upd mi 37 w0_37) mr)), ((mr 14), .inl (km_must, 25, .inl (upd z1 (v1 : Int32).toNatClampNeg (-1)))), ((mr 15), .inl (km_least, 25, .inl z2)), ((mr 16), .inl (km_pin, 25, .inl fm_pin))] := hD
        generalize upd z1 (v1 : Int32).toNatClampNeg (-1) = f_82 at hP hD
        refine lv_aload_n hx hb dX12_frees_20 rfl (lv_at hl 0 rfl) ?_
        refine va_get (D := (dC, dI)) (ci := 12) (v := .ref (mr 15)) (C := RX12) (T := TX12) (N := 57) hx hb hts (fun w h => List.mem_cons_of_mem _ (jnGB_X12 w h)) hown hK hP 0 rfl rfl 35 (by decide) (hts _ (List.mem_cons_of_mem _ mGB_27)) (fun _ h9 => h9) rfl dX12_frees_21 ?_
        refine lv_iload_n hx hb dX12_frees_24 rfl (lv_at hl 1 rfl) ?_
        refine lv_iconst (v := 0) hx hb dX12_frees_25 (by decide) ?_
        refine va_iast hx hb hK hP hD hS 2 1 rfl rfl (gi_in g_81 (by decide)) dX12_frees_26 (fun H locs hP hD hS => ?_)
        have hP : va_P (dC, dI) vwCl [(h0, .inr (12, fsMM (upd mi 37 w0_37) mr)), ((mr 14), .inl (km_must, 25, .inl f_82)), ((mr 15), .inl (km_least, 25, .inl (upd z2 (v1 : Int32).toNatClampNeg 0))), ((mr 16), .inl (km_pin, 25, .inl fm_pin))] H := hP
        have hD : va_D A [(h0, .inr (12, fsMM (upd mi 37 w0_37) mr)), ((mr 14), .inl (km_must, 25, .inl f_82)), ((mr 15), .inl (km_least, 25, .inl (upd z2 (v1 : Int32).toNatClampNeg 0))), ((mr 16), .inl (km_pin, 25, .inl fm_pin))] := hD
        generalize upd z2 (v1 : Int32).toNatClampNeg 0 = f_83 at hP hD
        obtain ⟨x_84, ex_84⟩ : ∃ y : Int32, y = v1 + 1 := ⟨_, rfl⟩
        have gx_84 : gi x_84 1 25 := gi_add ex_84 g_81 (gi_c 1 1 (by decide)) (by decide)
        refine lv_iinc (v := x_84) (lv' := [(1, .int x_84), (0, .ref h0)]) hx hb dX12_frees_27 hl (k := 1) rfl (by rw [ex_84]; rfl) (by decide) rfl (fun ls hl => ?_)
        refine lv_goto (tgt := 7) hx hb dX12_frees_30 (by decide) ?_
        exact ih x_84 w0_37 f_82 f_83 _ _ _ (gi_w gx_84 (by decide)) gw0_37 (by have av1 := gv1.1; have bv1 := gv1.2; have qgx_84 := gx_84.1; have rgx_84 := gx_84.2; have igx_84 : x_84.toInt = v1.toInt + 1 := (by have hc1 : (1 : Int32).toInt = 1 := (by decide); have h9 := gi_addI ex_84 (by have h1 := g_81.1; have h2 := (gi_c 1 1 (by decide)).1; have h3 := g_81.2; have h4 := (gi_c 1 1 (by decide)).2; omega) (by have h1 := g_81.1; have h2 := (gi_c 1 1 (by decide)).1; have h3 := g_81.2; have h4 := (gi_c 1 1 (by decide)).2; omega); rw [hc1] at h9; exact h9); have qgv1 := g_81.1; have rgv1 := g_81.2; omega) hP hD hS (lv_sub hl [1, 0] rfl)
set_option maxHeartbeats 4000000 in
set_option maxRecDepth 100000 in
theorem sX12_frees (l : Launch) (dC : Nat → ClassId) (dI : Nat → Nat → Nat) (sz : Nat) (h0 : Nat) (mi : Nat → Int32) (mr : Nat → Nat) (km_must : ClassId) (fm_must : Nat → Int32) (km_least : ClassId) (fm_least : Nat → Int32) (km_pin : ClassId) (fm_pin : Nat → Int32) (gmi_0 : gi (mi 0) 0 24) (gmi_1 : gi (mi 1) 0 5) (gmi_2 : gi (mi 2) 0 5) (gmi_4 : gi (mi 4) 0 1) (gmi_7 : gi (mi 7) 0 6) (gmi_10 : gi (mi 10) 0 24) (gmi_17 : gi (mi 17) 0 8) (gmi_23 : gi (mi 23) 0 300) (gmi_24 : gi (mi 24) 0 1) (gmi_26 : gi (mi 26) 0 1600) (gmi_29 : gi (mi 29) 0 1600) (gmi_30 : gi (mi 30) 0 1600) (gmi_33 : gi (mi 33) 0 1) (gmi_37 : gi (mi 37) 0 1) (gmi_41 : gi (mi 41) 0 24) (gmi_50 : gi (mi 50) 0 1) (gmi_51 : gi (mi 51) 0 1) (gmi_56 : gi (mi 56) 0 80) : Met l yX12_frees (.code yX12_frees cX12_frees 2 none :: wsGB) ({ frames := 1, cells := 0, slots := 0, locals := 21 }) (va_Pc [.ref h0] (fun U => U.heap.size = sz ∧ va_P (dC, dI) vwCl [(h0, .inr (12, fsMM mi mr)), ((mr 14), .inl (km_must, 25, .inl fm_must)), ((mr 15), .inl (km_least, 25, .inl fm_least)), ((mr 16), .inl (km_pin, 25, .inl fm_pin))] U.heap ∧ va_K (dC, dI) vwCl [(km_must, .int), (km_least, .int), (km_pin, .int)] U ∧ va_D (fun _ => True) [(h0, .inr (12, fsMM mi mr)), ((mr 14), .inl (km_must, 25, .inl fm_must)), ((mr 15), .inl (km_least, 25, .inl fm_least)), ((mr 16), .inl (km_pin, 25, .inl fm_pin))])) (va_Qv (fun (u : Unit) => True) (fun _ t => ∃ (w0_37 : Int32) (z1 : Nat → Int32) (z2 : Nat → Int32) (z3 : Nat → Int32), gi w0_37 0 1 ∧ va_P (dC, dI) vwCl [(h0, .inr (12, fsMM (upd mi 37 w0_37) mr)), ((mr 14), .inl (km_must, 25, .inl z1)), ((mr 15), .inl (km_least, 25, .inl z2)), ((mr 16), .inl (km_pin, 25, .inl z3))] t.heap ∧ va_D (va_A [(h0, .inr (12, fsMM mi mr)), ((mr 14), .inl (km_must, 25, .inl fm_must)), ((mr 15), .inl (km_least, 25, .inl fm_least)), ((mr 16), .inl (km_pin, 25, .inl fm_pin))] sz) [(h0, .inr (12, fsMM (upd mi 37 w0_37) mr)), ((mr 14), .inl (km_must, 25, .inl z1)), ((mr 15), .inl (km_least, 25, .inl z2)), ((mr 16), .inl (km_pin, 25, .inl z3))]) (va_A [(h0, .inr (12, fsMM mi mr)), ((mr 14), .inl (km_must, 25, .inl fm_must)), ((mr 15), .inl (km_least, 25, .inl fm_least)), ((mr 16), .inl (km_pin, 25, .inl fm_pin))] sz)) 0 0 (va_A [(h0, .inr (12, fsMM mi mr)), ((mr 14), .inl (km_must, 25, .inl fm_must)), ((mr 15), .inl (km_least, 25, .inl fm_least)), ((mr 16), .inl (km_pin, 25, .inl fm_pin))] sz) := by
  refine Met.ofW (cc := cX12_frees) (maxL := 2) (ret := none) (by decide) rfl ?_
  intro p e s m args below meth c s₁ B hml hv
  obtain ⟨rfl, hsz, hP, hK, hD0⟩ := hv
  have hx := B.exec
  have hb := B.bytes
  have hr := B.returns
  have hts := atoms_spec (ws := (.code yX12_frees cX12_frees 2 none :: wsGB)) B.pre
  have hown : s.vm.findClass RX12 = some m.cls := findClass_of_methodNamed B.named
  have hlocks := B.notSynchronized
  subst hsz
  have hD := hD0.self (sz := s.heap.size)
  generalize hAe : va_A [(h0, .inr (12, fsMM mi mr)), ((mr 14), .inl (km_must, 25, .inl fm_must)), ((mr 15), .inl (km_least, 25, .inl fm_least)), ((mr 16), .inl (km_pin, 25, .inl fm_pin))] s.heap.size = A at hD ⊢
  have hA : ∀ q : Nat, s.heap.size ≤ q → A q := fun q h => by rw [← hAe]; exact Or.inr h
  have hS : va_S A s.heap s.heap [] := va_S.rf
  have hl := lv_entry ([.ref h0]) (n := 2) (Nat.le_of_ble_eq_true rfl)
  rw [lg_entry_eq]
  generalize (lg_sl ([.ref h0]) ++ List.replicate (2 - (lg_sl ([.ref h0])).length) Slot.unset).toArray = ls at hl ⊢
  have hl : lv_has ls 2 [(0, .ref h0)] := hl
  refine lv_aload_n hx hb dX12_frees_0 rfl (lv_at hl 0 rfl) ?_
  refine lv_iconst (v := 0) hx hb dX12_frees_1 (by decide) ?_
  refine va_put (D := (dC, dI)) (ci := 12) (v := .int 0) (ty := .boolean) (C := RX12) (T := TX12) (N := 57) hx hb hts (fun w h => List.mem_cons_of_mem _ (jnGB_X12 w h)) tyX12 tyX12_ok nmX12 hown hK hP hD hS 0 rfl rfl 37 (by decide) (hts _ (List.mem_cons_of_mem _ mGB_270)) (fun _ h9 => h9) rfl (by decide +kernel) rfl rfl (Nat.le_of_ble_eq_true rfl) dX12_frees_2 (fun H locs hP hD hS => ?_)
  have hP : va_P (dC, dI) vwCl [(h0, .inr (12, fsMM (upd mi 37 0) mr)), ((mr 14), .inl (km_must, 25, .inl fm_must)), ((mr 15), .inl (km_least, 25, .inl fm_least)), ((mr 16), .inl (km_pin, 25, .inl fm_pin))] H := hP
  have hD : va_D A [(h0, .inr (12, fsMM (upd mi 37 0) mr)), ((mr 14), .inl (km_must, 25, .inl fm_must)), ((mr 15), .inl (km_least, 25, .inl fm_least)), ((mr 16), .inl (km_pin, 25, .inl fm_pin))] := hD
  refine lv_iconst (v := 0) hx hb dX12_frees_5 (by decide) ?_
  refine lv_istore_n (lv' := [(1, .int 0), (0, .ref h0)]) hx hb dX12_frees_6 rfl hl (by decide) rfl (fun ls hl => ?_)
  refine (lp_sX12_frees h0 mi mr km_must fm_must km_least fm_least km_pin fm_pin gmi_0 gmi_1 gmi_2 gmi_4 gmi_7 gmi_10 gmi_17 gmi_23 gmi_24 gmi_26 gmi_29 gmi_30 gmi_33 gmi_37 gmi_41 gmi_50 gmi_51 gmi_56 hx hb hml hown hts hK hA (Nat.le_of_ble_eq_true rfl) (Nat.le_of_ble_eq_true rfl) (Nat.zero_le _) (Nat.zero_le _) (fun w0_37 z1 z2 z3 H locs ls gw0_37 hP hD hS hl => ?_) 64) 0 0 fm_must fm_least _ _ _ (gi_w (gi_c 0 0 (by decide)) (by decide)) (gi_w (gi_c 0 0 (by decide)) (by decide)) (by have k0 : (0 : Int32).toInt = 0 := (by decide); omega) hP hD hS (lv_sub hl [1, 0] rfl)
  · skip
    exact W.vret hx hb hr (fun t ht hW => ⟨⟨(), rfl, trivial, w0_37, z1, z2, z3, gw0_37, by rw [ht]; exact hP, hD⟩, hS.F ht⟩) hS.2.2 dX12_frees_37
theorem dX12_isOpen_0 : decode cX12_isOpen 0 = .ok (.aload_n 0, 1) := by decide +kernel
theorem dX12_isOpen_1 : decode cX12_isOpen 1 = .ok (.getfield 57, 3) := by decide +kernel
theorem dX12_isOpen_4 : decode cX12_isOpen 4 = .ok (.iload_n 1, 1) := by decide +kernel
theorem dX12_isOpen_5 : decode cX12_isOpen 5 = .ok (.iaload, 1) := by decide +kernel
theorem dX12_isOpen_6 : decode cX12_isOpen 6 = .ok (.iconst (-1), 1) := by decide +kernel
theorem dX12_isOpen_7 : decode cX12_isOpen 7 = .ok (.if_icmp .eq 13, 3) := by decide +kernel
theorem dX12_isOpen_10 : decode cX12_isOpen 10 = .ok (.aload_n 0, 1) := by decide +kernel
theorem dX12_isOpen_11 : decode cX12_isOpen 11 = .ok (.getfield 57, 3) := by decide +kernel
theorem dX12_isOpen_14 : decode cX12_isOpen 14 = .ok (.iload_n 1, 1) := by decide +kernel
theorem dX12_isOpen_15 : decode cX12_isOpen 15 = .ok (.iaload, 1) := by decide +kernel
theorem dX12_isOpen_16 : decode cX12_isOpen 16 = .ok (.iload_n 2, 1) := by decide +kernel
theorem dX12_isOpen_17 : decode cX12_isOpen 17 = .ok (.if_icmp .ne 37, 3) := by decide +kernel
theorem dX12_isOpen_20 : decode cX12_isOpen 20 = .ok (.iload_n 2, 1) := by decide +kernel
theorem dX12_isOpen_21 : decode cX12_isOpen 21 = .ok (.aload_n 0, 1) := by decide +kernel
theorem dX12_isOpen_22 : decode cX12_isOpen 22 = .ok (.getfield 60, 3) := by decide +kernel
theorem dX12_isOpen_25 : decode cX12_isOpen 25 = .ok (.iload_n 1, 1) := by decide +kernel
theorem dX12_isOpen_26 : decode cX12_isOpen 26 = .ok (.iaload, 1) := by decide +kernel
theorem dX12_isOpen_27 : decode cX12_isOpen 27 = .ok (.if_icmp .lt 27, 3) := by decide +kernel
theorem dX12_isOpen_30 : decode cX12_isOpen 30 = .ok (.aload_n 0, 1) := by decide +kernel
theorem dX12_isOpen_31 : decode cX12_isOpen 31 = .ok (.getfield 63, 3) := by decide +kernel
theorem dX12_isOpen_34 : decode cX12_isOpen 34 = .ok (.iload_n 1, 1) := by decide +kernel
theorem dX12_isOpen_35 : decode cX12_isOpen 35 = .ok (.iaload, 1) := by decide +kernel
theorem dX12_isOpen_36 : decode cX12_isOpen 36 = .ok (.iconst (-1), 1) := by decide +kernel
theorem dX12_isOpen_37 : decode cX12_isOpen 37 = .ok (.if_icmp .eq 13, 3) := by decide +kernel
theorem dX12_isOpen_40 : decode cX12_isOpen 40 = .ok (.aload_n 0, 1) := by decide +kernel
theorem dX12_isOpen_41 : decode cX12_isOpen 41 = .ok (.getfield 63, 3) := by decide +kernel
theorem dX12_isOpen_44 : decode cX12_isOpen 44 = .ok (.iload_n 1, 1) := by decide +kernel
theorem dX12_isOpen_45 : decode cX12_isOpen 45 = .ok (.iaload, 1) := by decide +kernel
theorem dX12_isOpen_46 : decode cX12_isOpen 46 = .ok (.iload_n 2, 1) := by decide +kernel
theorem dX12_isOpen_47 : decode cX12_isOpen 47 = .ok (.if_icmp .ne 7, 3) := by decide +kernel
theorem dX12_isOpen_50 : decode cX12_isOpen 50 = .ok (.iconst 1, 1) := by decide +kernel
theorem dX12_isOpen_51 : decode cX12_isOpen 51 = .ok (.goto 4, 3) := by decide +kernel
theorem dX12_isOpen_54 : decode cX12_isOpen 54 = .ok (.iconst 0, 1) := by decide +kernel
theorem dX12_isOpen_55 : decode cX12_isOpen 55 = .ok (.ireturn, 1) := by decide +kernel
set_option maxHeartbeats 4000000 in
set_option maxRecDepth 100000 in
theorem sX12_isOpen (l : Launch) (dC : Nat → ClassId) (dI : Nat → Nat → Nat) (h0 : Nat) (mi : Nat → Int32) (mr : Nat → Nat) (km_must : ClassId) (fm_must : Nat → Int32) (km_least : ClassId) (fm_least : Nat → Int32) (km_pin : ClassId) (fm_pin : Nat → Int32) (p1 : Int32) (p2 : Int32) (gmi_0 : gi (mi 0) 0 24) (gmi_1 : gi (mi 1) 0 5) (gmi_2 : gi (mi 2) 0 5) (gmi_4 : gi (mi 4) 0 1) (gmi_7 : gi (mi 7) 0 6) (gmi_10 : gi (mi 10) 0 24) (gmi_17 : gi (mi 17) 0 8) (gmi_23 : gi (mi 23) 0 300) (gmi_24 : gi (mi 24) 0 1) (gmi_26 : gi (mi 26) 0 1600) (gmi_29 : gi (mi 29) 0 1600) (gmi_30 : gi (mi 30) 0 1600) (gmi_33 : gi (mi 33) 0 1) (gmi_37 : gi (mi 37) 0 1) (gmi_41 : gi (mi 41) 0 24) (gmi_50 : gi (mi 50) 0 1) (gmi_51 : gi (mi 51) 0 1) (gmi_56 : gi (mi 56) 0 80) (gp1 : gi p1 0 24) : Met l yX12_isOpen (.code yX12_isOpen cX12_isOpen 3 (some .boolean) :: wsGB) ({ frames := 0, cells := 0, slots := 0, locals := 0 }) (va_Pc [.ref h0, .int p1, .int p2] (fun U => va_P (dC, dI) vwCl [(h0, .inr (12, fsMM mi mr)), ((mr 14), .inl (km_must, 25, .inl fm_must)), ((mr 15), .inl (km_least, 25, .inl fm_least)), ((mr 16), .inl (km_pin, 25, .inl fm_pin))] U.heap ∧ va_K (dC, dI) vwCl [(km_must, .int), (km_least, .int), (km_pin, .int)] U)) (va_Qi (fun (r : Int32) (u : Unit) => gi r 0 1) (fun _ _ => True) (fun _ => False)) 0 0 (fun _ => False) := by
  refine Met.ofW (cc := cX12_isOpen) (maxL := 3) (ret := (some .boolean)) (by decide) rfl ?_
  intro p e s m args below meth c s₁ B hml hv
  obtain ⟨rfl, hP, hK⟩ := hv
  have hx := B.exec
  have hb := B.bytes
  have hr := B.returns
  have hts := atoms_spec (ws := (.code yX12_isOpen cX12_isOpen 3 (some .boolean) :: wsGB)) B.pre
  have hown : s.vm.findClass RX12 = some m.cls := findClass_of_methodNamed B.named
  have hlocks := B.notSynchronized
  have hS : va_S (fun _ => False) s.heap s.heap [] := va_S.rf
  have hl := lv_entry ([.ref h0, .int p1, .int p2]) (n := 3) (Nat.le_of_ble_eq_true rfl)
  rw [lg_entry_eq]
  generalize (lg_sl ([.ref h0, .int p1, .int p2]) ++ List.replicate (3 - (lg_sl ([.ref h0, .int p1, .int p2])).length) Slot.unset).toArray = ls at hl ⊢
  have hl : lv_has ls 3 [(0, .ref h0), (1, .int p1), (2, .int p2)] := hl
  refine lv_aload_n hx hb dX12_isOpen_0 rfl (lv_at hl 0 rfl) ?_
  refine va_get (D := (dC, dI)) (ci := 12) (v := .ref (mr 14)) (C := RX12) (T := TX12) (N := 57) hx hb hts (fun w h => List.mem_cons_of_mem _ (jnGB_X12 w h)) hown hK hP 0 rfl rfl 34 (by decide) (hts _ (List.mem_cons_of_mem _ mGB_26)) (fun _ h9 => h9) rfl dX12_isOpen_1 ?_
  refine lv_iload_n hx hb dX12_isOpen_4 rfl (lv_at hl 1 rfl) ?_
  refine va_iald hx hb hK hP 1 0 rfl rfl (gi_in gp1 (by decide)) dX12_isOpen_5 ?_
  refine lv_topi (fun x_24 ex_24 => ?_)
  refine lv_iconst (v := (-1)) hx hb dX12_isOpen_6 (by decide) ?_
  refine lv_icmp_eq (tgt := 20) hx hb dX12_isOpen_7 (by decide) (fun c_25 => ?_) (fun c_25 => ?_)
  · have g_26 : gi x_24 (-1) (-1) := gi_eq c_25 (gi_c (-1) (-1) (by decide))
    refine lv_iload_n hx hb dX12_isOpen_20 rfl (lv_at hl 2 rfl) ?_
    refine lv_aload_n hx hb dX12_isOpen_21 rfl (lv_at hl 0 rfl) ?_
    refine va_get (D := (dC, dI)) (ci := 12) (v := .ref (mr 15)) (C := RX12) (T := TX12) (N := 57) hx hb hts (fun w h => List.mem_cons_of_mem _ (jnGB_X12 w h)) hown hK hP 0 rfl rfl 35 (by decide) (hts _ (List.mem_cons_of_mem _ mGB_27)) (fun _ h9 => h9) rfl dX12_isOpen_22 ?_
    refine lv_iload_n hx hb dX12_isOpen_25 rfl (lv_at hl 1 rfl) ?_
    refine va_iald hx hb hK hP 2 1 rfl rfl (gi_in gp1 (by decide)) dX12_isOpen_26 ?_
    refine lv_topi (fun x_27 ex_27 => ?_)
    refine lv_icmp_lt (tgt := 54) hx hb dX12_isOpen_27 (by decide) (fun c_28 => ?_) (fun c_28 => ?_)
    · have g_29 : gi p2 (-2147483648) 2147483646 := gi_lt_l c_28 (gi_any p2) (gi_any x_27) (by decide)
      have g_30 : gi x_27 (-2147483647) 2147483647 := gi_lt_r c_28 (gi_any p2) (gi_any x_27) (by decide)
      refine lv_iconst (v := 0) hx hb dX12_isOpen_54 (by decide) ?_
      exact W.zret (v := 0) hx hb hr (by decide) (fun t ht hW => ⟨⟨0, (), rfl, (gi_w (gi_c 0 0 (by decide)) (by decide)), trivial⟩, hS.F ht⟩) hS.2.2 dX12_isOpen_55
    · refine lv_aload_n hx hb dX12_isOpen_30 rfl (lv_at hl 0 rfl) ?_
      refine va_get (D := (dC, dI)) (ci := 12) (v := .ref (mr 16)) (C := RX12) (T := TX12) (N := 57) hx hb hts (fun w h => List.mem_cons_of_mem _ (jnGB_X12 w h)) hown hK hP 0 rfl rfl 36 (by decide) (hts _ (List.mem_cons_of_mem _ mGB_28)) (fun _ h9 => h9) rfl dX12_isOpen_31 ?_
      refine lv_iload_n hx hb dX12_isOpen_34 rfl (lv_at hl 1 rfl) ?_
      refine va_iald hx hb hK hP 3 2 rfl rfl (gi_in gp1 (by decide)) dX12_isOpen_35 ?_
      refine lv_topi (fun x_31 ex_31 => ?_)
      refine lv_iconst (v := (-1)) hx hb dX12_isOpen_36 (by decide) ?_
      refine lv_icmp_eq (tgt := 50) hx hb dX12_isOpen_37 (by decide) (fun c_32 => ?_) (fun c_32 => ?_)
      · have g_33 : gi x_31 (-1) (-1) := gi_eq c_32 (gi_c (-1) (-1) (by decide))
        refine lv_iconst (v := 1) hx hb dX12_isOpen_50 (by decide) ?_
        refine lv_goto (tgt := 55) hx hb dX12_isOpen_51 (by decide) ?_
        exact W.zret (v := 1) hx hb hr (by decide) (fun t ht hW => ⟨⟨1, (), rfl, (gi_w (gi_c 1 1 (by decide)) (by decide)), trivial⟩, hS.F ht⟩) hS.2.2 dX12_isOpen_55
      · refine lv_aload_n hx hb dX12_isOpen_40 rfl (lv_at hl 0 rfl) ?_
        refine va_get (D := (dC, dI)) (ci := 12) (v := .ref (mr 16)) (C := RX12) (T := TX12) (N := 57) hx hb hts (fun w h => List.mem_cons_of_mem _ (jnGB_X12 w h)) hown hK hP 0 rfl rfl 36 (by decide) (hts _ (List.mem_cons_of_mem _ mGB_28)) (fun _ h9 => h9) rfl dX12_isOpen_41 ?_
        refine lv_iload_n hx hb dX12_isOpen_44 rfl (lv_at hl 1 rfl) ?_
        refine va_iald hx hb hK hP 3 2 rfl rfl (gi_in gp1 (by decide)) dX12_isOpen_45 ?_
        refine lv_topi (fun x_34 ex_34 => ?_)
        refine lv_iload_n hx hb dX12_isOpen_46 rfl (lv_at hl 2 rfl) ?_
        refine lv_icmp_ne (tgt := 54) hx hb dX12_isOpen_47 (by decide) (fun c_35 => ?_) (fun c_35 => ?_)
        · refine lv_iconst (v := 0) hx hb dX12_isOpen_54 (by decide) ?_
          exact W.zret (v := 0) hx hb hr (by decide) (fun t ht hW => ⟨⟨0, (), rfl, (gi_w (gi_c 0 0 (by decide)) (by decide)), trivial⟩, hS.F ht⟩) hS.2.2 dX12_isOpen_55
        · refine lv_iconst (v := 1) hx hb dX12_isOpen_50 (by decide) ?_
          refine lv_goto (tgt := 55) hx hb dX12_isOpen_51 (by decide) ?_
          exact W.zret (v := 1) hx hb hr (by decide) (fun t ht hW => ⟨⟨1, (), rfl, (gi_w (gi_c 1 1 (by decide)) (by decide)), trivial⟩, hS.F ht⟩) hS.2.2 dX12_isOpen_55
  · refine lv_aload_n hx hb dX12_isOpen_10 rfl (lv_at hl 0 rfl) ?_
    refine va_get (D := (dC, dI)) (ci := 12) (v := .ref (mr 14)) (C := RX12) (T := TX12) (N := 57) hx hb hts (fun w h => List.mem_cons_of_mem _ (jnGB_X12 w h)) hown hK hP 0 rfl rfl 34 (by decide) (hts _ (List.mem_cons_of_mem _ mGB_26)) (fun _ h9 => h9) rfl dX12_isOpen_11 ?_
    refine lv_iload_n hx hb dX12_isOpen_14 rfl (lv_at hl 1 rfl) ?_
    refine va_iald hx hb hK hP 1 0 rfl rfl (gi_in gp1 (by decide)) dX12_isOpen_15 ?_
    refine lv_topi (fun x_36 ex_36 => ?_)
    refine lv_iload_n hx hb dX12_isOpen_16 rfl (lv_at hl 2 rfl) ?_
    refine lv_icmp_ne (tgt := 54) hx hb dX12_isOpen_17 (by decide) (fun c_37 => ?_) (fun c_37 => ?_)
    · refine lv_iconst (v := 0) hx hb dX12_isOpen_54 (by decide) ?_
      exact W.zret (v := 0) hx hb hr (by decide) (fun t ht hW => ⟨⟨0, (), rfl, (gi_w (gi_c 0 0 (by decide)) (by decide)), trivial⟩, hS.F ht⟩) hS.2.2 dX12_isOpen_55
    · refine lv_iload_n hx hb dX12_isOpen_20 rfl (lv_at hl 2 rfl) ?_
      refine lv_aload_n hx hb dX12_isOpen_21 rfl (lv_at hl 0 rfl) ?_
      refine va_get (D := (dC, dI)) (ci := 12) (v := .ref (mr 15)) (C := RX12) (T := TX12) (N := 57) hx hb hts (fun w h => List.mem_cons_of_mem _ (jnGB_X12 w h)) hown hK hP 0 rfl rfl 35 (by decide) (hts _ (List.mem_cons_of_mem _ mGB_27)) (fun _ h9 => h9) rfl dX12_isOpen_22 ?_
      refine lv_iload_n hx hb dX12_isOpen_25 rfl (lv_at hl 1 rfl) ?_
      refine va_iald hx hb hK hP 2 1 rfl rfl (gi_in gp1 (by decide)) dX12_isOpen_26 ?_
      refine lv_topi (fun x_38 ex_38 => ?_)
      refine lv_icmp_lt (tgt := 54) hx hb dX12_isOpen_27 (by decide) (fun c_39 => ?_) (fun c_39 => ?_)
      · have g_40 : gi p2 (-2147483648) 2147483646 := gi_lt_l c_39 (gi_any p2) (gi_any x_38) (by decide)
        have g_41 : gi x_38 (-2147483647) 2147483647 := gi_lt_r c_39 (gi_any p2) (gi_any x_38) (by decide)
        refine lv_iconst (v := 0) hx hb dX12_isOpen_54 (by decide) ?_
        exact W.zret (v := 0) hx hb hr (by decide) (fun t ht hW => ⟨⟨0, (), rfl, (gi_w (gi_c 0 0 (by decide)) (by decide)), trivial⟩, hS.F ht⟩) hS.2.2 dX12_isOpen_55
      · refine lv_aload_n hx hb dX12_isOpen_30 rfl (lv_at hl 0 rfl) ?_
        refine va_get (D := (dC, dI)) (ci := 12) (v := .ref (mr 16)) (C := RX12) (T := TX12) (N := 57) hx hb hts (fun w h => List.mem_cons_of_mem _ (jnGB_X12 w h)) hown hK hP 0 rfl rfl 36 (by decide) (hts _ (List.mem_cons_of_mem _ mGB_28)) (fun _ h9 => h9) rfl dX12_isOpen_31 ?_
        refine lv_iload_n hx hb dX12_isOpen_34 rfl (lv_at hl 1 rfl) ?_
        refine va_iald hx hb hK hP 3 2 rfl rfl (gi_in gp1 (by decide)) dX12_isOpen_35 ?_
        refine lv_topi (fun x_42 ex_42 => ?_)
        refine lv_iconst (v := (-1)) hx hb dX12_isOpen_36 (by decide) ?_
        refine lv_icmp_eq (tgt := 50) hx hb dX12_isOpen_37 (by decide) (fun c_43 => ?_) (fun c_43 => ?_)
        · have g_44 : gi x_42 (-1) (-1) := gi_eq c_43 (gi_c (-1) (-1) (by decide))
          refine lv_iconst (v := 1) hx hb dX12_isOpen_50 (by decide) ?_
          refine lv_goto (tgt := 55) hx hb dX12_isOpen_51 (by decide) ?_
          exact W.zret (v := 1) hx hb hr (by decide) (fun t ht hW => ⟨⟨1, (), rfl, (gi_w (gi_c 1 1 (by decide)) (by decide)), trivial⟩, hS.F ht⟩) hS.2.2 dX12_isOpen_55
        · refine lv_aload_n hx hb dX12_isOpen_40 rfl (lv_at hl 0 rfl) ?_
          refine va_get (D := (dC, dI)) (ci := 12) (v := .ref (mr 16)) (C := RX12) (T := TX12) (N := 57) hx hb hts (fun w h => List.mem_cons_of_mem _ (jnGB_X12 w h)) hown hK hP 0 rfl rfl 36 (by decide) (hts _ (List.mem_cons_of_mem _ mGB_28)) (fun _ h9 => h9) rfl dX12_isOpen_41 ?_
          refine lv_iload_n hx hb dX12_isOpen_44 rfl (lv_at hl 1 rfl) ?_
          refine va_iald hx hb hK hP 3 2 rfl rfl (gi_in gp1 (by decide)) dX12_isOpen_45 ?_
          refine lv_topi (fun x_45 ex_45 => ?_)
          refine lv_iload_n hx hb dX12_isOpen_46 rfl (lv_at hl 2 rfl) ?_
          refine lv_icmp_ne (tgt := 54) hx hb dX12_isOpen_47 (by decide) (fun c_46 => ?_) (fun c_46 => ?_)
          · refine lv_iconst (v := 0) hx hb dX12_isOpen_54 (by decide) ?_
            exact W.zret (v := 0) hx hb hr (by decide) (fun t ht hW => ⟨⟨0, (), rfl, (gi_w (gi_c 0 0 (by decide)) (by decide)), trivial⟩, hS.F ht⟩) hS.2.2 dX12_isOpen_55
          · refine lv_iconst (v := 1) hx hb dX12_isOpen_50 (by decide) ?_
            refine lv_goto (tgt := 55) hx hb dX12_isOpen_51 (by decide) ?_
            exact W.zret (v := 1) hx hb hr (by decide) (fun t ht hW => ⟨⟨1, (), rfl, (gi_w (gi_c 1 1 (by decide)) (by decide)), trivial⟩, hS.F ht⟩) hS.2.2 dX12_isOpen_55
theorem dX12_runBehind_0 : decode cX12_runBehind 0 = .ok (.iload_n 2, 1) := by decide +kernel
theorem dX12_runBehind_1 : decode cX12_runBehind 1 = .ok (.iconst 1, 1) := by decide +kernel
theorem dX12_runBehind_2 : decode cX12_runBehind 2 = .ok (.if_icmp .ne 18, 3) := by decide +kernel
theorem dX12_runBehind_5 : decode cX12_runBehind 5 = .ok (.iload_n 1, 1) := by decide +kernel
theorem dX12_runBehind_6 : decode cX12_runBehind 6 = .ok (.iconst 5, 1) := by decide +kernel
theorem dX12_runBehind_7 : decode cX12_runBehind 7 = .ok (.if_icmp .gt 9, 3) := by decide +kernel
theorem dX12_runBehind_10 : decode cX12_runBehind 10 = .ok (.iload_n 1, 1) := by decide +kernel
theorem dX12_runBehind_11 : decode cX12_runBehind 11 = .ok (.iconst 1, 1) := by decide +kernel
theorem dX12_runBehind_12 : decode cX12_runBehind 12 = .ok (.iadd, 1) := by decide +kernel
theorem dX12_runBehind_13 : decode cX12_runBehind 13 = .ok (.goto 21, 3) := by decide +kernel
theorem dX12_runBehind_16 : decode cX12_runBehind 16 = .ok (.iconst 1, 1) := by decide +kernel
theorem dX12_runBehind_17 : decode cX12_runBehind 17 = .ok (.goto 17, 3) := by decide +kernel
theorem dX12_runBehind_20 : decode cX12_runBehind 20 = .ok (.iload_n 1, 1) := by decide +kernel
theorem dX12_runBehind_21 : decode cX12_runBehind 21 = .ok (.iconst 5, 1) := by decide +kernel
theorem dX12_runBehind_22 : decode cX12_runBehind 22 = .ok (.if_icmp .le 11, 3) := by decide +kernel
theorem dX12_runBehind_25 : decode cX12_runBehind 25 = .ok (.iload_n 1, 1) := by decide +kernel
theorem dX12_runBehind_26 : decode cX12_runBehind 26 = .ok (.iconst 5, 1) := by decide +kernel
theorem dX12_runBehind_27 : decode cX12_runBehind 27 = .ok (.isub, 1) := by decide +kernel
theorem dX12_runBehind_28 : decode cX12_runBehind 28 = .ok (.iconst 1, 1) := by decide +kernel
theorem dX12_runBehind_29 : decode cX12_runBehind 29 = .ok (.iadd, 1) := by decide +kernel
theorem dX12_runBehind_30 : decode cX12_runBehind 30 = .ok (.goto 4, 3) := by decide +kernel
theorem dX12_runBehind_33 : decode cX12_runBehind 33 = .ok (.iconst 1, 1) := by decide +kernel
theorem dX12_runBehind_34 : decode cX12_runBehind 34 = .ok (.istore_n 3, 1) := by decide +kernel
theorem dX12_runBehind_35 : decode cX12_runBehind 35 = .ok (.iload_n 3, 1) := by decide +kernel
theorem dX12_runBehind_36 : decode cX12_runBehind 36 = .ok (.iload_n 2, 1) := by decide +kernel
theorem dX12_runBehind_37 : decode cX12_runBehind 37 = .ok (.iconst 1, 1) := by decide +kernel
theorem dX12_runBehind_38 : decode cX12_runBehind 38 = .ok (.if_icmp .ne 10, 3) := by decide +kernel
theorem dX12_runBehind_41 : decode cX12_runBehind 41 = .ok (.aload_n 0, 1) := by decide +kernel
theorem dX12_runBehind_42 : decode cX12_runBehind 42 = .ok (.getfield 120, 3) := by decide +kernel
theorem dX12_runBehind_45 : decode cX12_runBehind 45 = .ok (.goto 7, 3) := by decide +kernel
theorem dX12_runBehind_48 : decode cX12_runBehind 48 = .ok (.aload_n 0, 1) := by decide +kernel
theorem dX12_runBehind_49 : decode cX12_runBehind 49 = .ok (.getfield 123, 3) := by decide +kernel
theorem dX12_runBehind_52 : decode cX12_runBehind 52 = .ok (.if_icmp .le 5, 3) := by decide +kernel
theorem dX12_runBehind_55 : decode cX12_runBehind 55 = .ok (.iconst (-1), 1) := by decide +kernel
theorem dX12_runBehind_56 : decode cX12_runBehind 56 = .ok (.ireturn, 1) := by decide +kernel
theorem dX12_runBehind_57 : decode cX12_runBehind 57 = .ok (.iload_n 2, 1) := by decide +kernel
theorem dX12_runBehind_58 : decode cX12_runBehind 58 = .ok (.iconst 1, 1) := by decide +kernel
theorem dX12_runBehind_59 : decode cX12_runBehind 59 = .ok (.if_icmp .ne 7, 3) := by decide +kernel
theorem dX12_runBehind_62 : decode cX12_runBehind 62 = .ok (.iload_n 3, 1) := by decide +kernel
theorem dX12_runBehind_63 : decode cX12_runBehind 63 = .ok (.goto 6, 3) := by decide +kernel
theorem dX12_runBehind_66 : decode cX12_runBehind 66 = .ok (.iload_n 3, 1) := by decide +kernel
theorem dX12_runBehind_67 : decode cX12_runBehind 67 = .ok (.iconst 5, 1) := by decide +kernel
theorem dX12_runBehind_68 : decode cX12_runBehind 68 = .ok (.iadd, 1) := by decide +kernel
theorem dX12_runBehind_69 : decode cX12_runBehind 69 = .ok (.ireturn, 1) := by decide +kernel
set_option maxHeartbeats 4000000 in
set_option maxRecDepth 100000 in
theorem sX12_runBehind (l : Launch) (dC : Nat → ClassId) (dI : Nat → Nat → Nat) (h0 : Nat) (mi : Nat → Int32) (mr : Nat → Nat) (p1 : Int32) (p2 : Int32) (gmi_0 : gi (mi 0) 0 24) (gmi_1 : gi (mi 1) 0 5) (gmi_2 : gi (mi 2) 0 5) (gmi_4 : gi (mi 4) 0 1) (gmi_7 : gi (mi 7) 0 6) (gmi_10 : gi (mi 10) 0 24) (gmi_17 : gi (mi 17) 0 8) (gmi_23 : gi (mi 23) 0 300) (gmi_24 : gi (mi 24) 0 1) (gmi_26 : gi (mi 26) 0 1600) (gmi_29 : gi (mi 29) 0 1600) (gmi_30 : gi (mi 30) 0 1600) (gmi_33 : gi (mi 33) 0 1) (gmi_37 : gi (mi 37) 0 1) (gmi_41 : gi (mi 41) 0 24) (gmi_50 : gi (mi 50) 0 1) (gmi_51 : gi (mi 51) 0 1) (gmi_56 : gi (mi 56) 0 80) (gp1 : gi p1 (-1) 10) (gp2 : gi p2 0 1) : Met l yX12_runBehind (.code yX12_runBehind cX12_runBehind 4 (some .int) :: wsGB) ({ frames := 0, cells := 0, slots := 0, locals := 0 }) (va_Pc [.ref h0, .int p1, .int p2] (fun U => va_P (dC, dI) vwCl [(h0, .inr (12, fsMM mi mr))] U.heap ∧ va_K (dC, dI) vwCl [] U)) (va_Qi (fun (r : Int32) (u : Unit) => gi r (-1) 10) (fun _ _ => True) (fun _ => False)) 0 0 (fun _ => False) := by
  refine Met.ofW (cc := cX12_runBehind) (maxL := 4) (ret := (some .int)) (by decide) rfl ?_
  intro p e s m args below meth c s₁ B hml hv
  obtain ⟨rfl, hP, hK⟩ := hv
  have hx := B.exec
  have hb := B.bytes
  have hr := B.returns
  have hts := atoms_spec (ws := (.code yX12_runBehind cX12_runBehind 4 (some .int) :: wsGB)) B.pre
  have hown : s.vm.findClass RX12 = some m.cls := findClass_of_methodNamed B.named
  have hlocks := B.notSynchronized
  have hS : va_S (fun _ => False) s.heap s.heap [] := va_S.rf
  have hl := lv_entry ([.ref h0, .int p1, .int p2]) (n := 4) (Nat.le_of_ble_eq_true rfl)
  rw [lg_entry_eq]
  generalize (lg_sl ([.ref h0, .int p1, .int p2]) ++ List.replicate (4 - (lg_sl ([.ref h0, .int p1, .int p2])).length) Slot.unset).toArray = ls at hl ⊢
  have hl : lv_has ls 4 [(0, .ref h0), (1, .int p1), (2, .int p2)] := hl
  refine lv_iload_n hx hb dX12_runBehind_0 rfl (lv_at hl 2 rfl) ?_
  refine lv_iconst (v := 1) hx hb dX12_runBehind_1 (by decide) ?_
  refine lv_icmp_ne (tgt := 20) hx hb dX12_runBehind_2 (by decide) (fun c_34 => ?_) (fun c_34 => ?_)
  · have g_35 : gi p2 0 0 := gi_ne_hi c_34 gp2 (gi_c 1 1 (by decide)) (by decide)
    refine lv_iload_n hx hb dX12_runBehind_20 rfl (lv_at hl 1 rfl) ?_
    refine lv_iconst (v := 5) hx hb dX12_runBehind_21 (by decide) ?_
    refine lv_icmp_le (tgt := 33) hx hb dX12_runBehind_22 (by decide) (fun c_36 => ?_) (fun c_36 => ?_)
    · have g_37 : gi p1 (-1) 5 := gi_le_l c_36 gp1 (gi_c 5 5 (by decide))
      refine lv_iconst (v := 1) hx hb dX12_runBehind_33 (by decide) ?_
      refine lv_istore_n (lv' := [(3, .int 1), (0, .ref h0), (1, .int p1), (2, .int p2)]) hx hb dX12_runBehind_34 rfl hl (by decide) rfl (fun ls hl => ?_)
      refine lv_iload_n hx hb dX12_runBehind_35 rfl (lv_at hl 0 rfl) ?_
      refine lv_iload_n hx hb dX12_runBehind_36 rfl (lv_at hl 3 rfl) ?_
      refine lv_iconst (v := 1) hx hb dX12_runBehind_37 (by decide) ?_
      refine lv_icmp_ne (tgt := 48) hx hb dX12_runBehind_38 (by decide) (fun c_38 => ?_) (fun c_38 => absurd c_38 (gi_no_eq g_35 (gi_c 1 1 (by decide)) (by decide)))
      refine lv_aload_n hx hb dX12_runBehind_48 rfl (lv_at hl 1 rfl) ?_
      refine va_get (D := (dC, dI)) (ci := 12) (v := .int (mi 2)) (C := RX12) (T := TX12) (N := 57) hx hb hts (fun w h => List.mem_cons_of_mem _ (jnGB_X12 w h)) hown hK hP 0 rfl rfl 2 (by decide) (hts _ (List.mem_cons_of_mem _ mGB_105)) (fun _ h9 => h9) rfl dX12_runBehind_49 ?_
      refine lv_icmp_le (tgt := 57) hx hb dX12_runBehind_52 (by decide) (fun c_39 => ?_) (fun c_39 => ?_)
      · have g_40 : gi (mi 2) 1 5 := gi_le_r c_39 (gi_c 1 1 (by decide)) gmi_2
        refine lv_iload_n hx hb dX12_runBehind_57 rfl (lv_at hl 3 rfl) ?_
        refine lv_iconst (v := 1) hx hb dX12_runBehind_58 (by decide) ?_
        refine lv_icmp_ne (tgt := 66) hx hb dX12_runBehind_59 (by decide) (fun c_41 => ?_) (fun c_41 => absurd c_41 (gi_no_eq g_35 (gi_c 1 1 (by decide)) (by decide)))
        refine lv_iload_n hx hb dX12_runBehind_66 rfl (lv_at hl 0 rfl) ?_
        refine lv_iconst (v := 5) hx hb dX12_runBehind_67 (by decide) ?_
        refine lv_iadd hx hb dX12_runBehind_68 ?_
        refine gz_topi (y := 6) (by decide) ?_
        exact W.iret (v := 6) hx hb hr (fun t ht hW => ⟨⟨6, (), rfl, (gi_w (gi_c 6 6 (by decide)) (by decide)), trivial⟩, hS.F ht⟩) hS.2.2 dX12_runBehind_69
      · have g_42 : gi (mi 2) 0 0 := gi_lt_l (Int32.not_le.mp c_39) gmi_2 (gi_c 1 1 (by decide)) (by decide)
        refine lv_iconst (v := (-1)) hx hb dX12_runBehind_55 (by decide) ?_
        exact W.iret (v := (-1)) hx hb hr (fun t ht hW => ⟨⟨(-1), (), rfl, (gi_w (gi_c (-1) (-1) (by decide)) (by decide)), trivial⟩, hS.F ht⟩) hS.2.2 dX12_runBehind_56
    · have g_43 : gi p1 6 10 := gi_lt_r (Int32.not_le.mp c_36) (gi_c 5 5 (by decide)) gp1 (by decide)
      refine lv_iload_n hx hb dX12_runBehind_25 rfl (lv_at hl 1 rfl) ?_
      refine lv_iconst (v := 5) hx hb dX12_runBehind_26 (by decide) ?_
      refine lv_isub hx hb dX12_runBehind_27 ?_
      refine lv_topi (fun x_44 ex_44 => ?_)
      have gx_44 : gi x_44 1 5 := gi_sub ex_44 g_43 (gi_c 5 5 (by decide)) (by decide)
      refine lv_iconst (v := 1) hx hb dX12_runBehind_28 (by decide) ?_
      refine lv_iadd hx hb dX12_runBehind_29 ?_
      refine lv_topi (fun x_45 ex_45 => ?_)
      have gx_45 : gi x_45 2 6 := gi_add ex_45 gx_44 (gi_c 1 1 (by decide)) (by decide)
      refine lv_goto (tgt := 34) hx hb dX12_runBehind_30 (by decide) ?_
      refine lv_istore_n (lv' := [(3, .int x_45), (0, .ref h0), (1, .int p1), (2, .int p2)]) hx hb dX12_runBehind_34 rfl hl (by decide) rfl (fun ls hl => ?_)
      refine lv_iload_n hx hb dX12_runBehind_35 rfl (lv_at hl 0 rfl) ?_
      refine lv_iload_n hx hb dX12_runBehind_36 rfl (lv_at hl 3 rfl) ?_
      refine lv_iconst (v := 1) hx hb dX12_runBehind_37 (by decide) ?_
      refine lv_icmp_ne (tgt := 48) hx hb dX12_runBehind_38 (by decide) (fun c_46 => ?_) (fun c_46 => absurd c_46 (gi_no_eq g_35 (gi_c 1 1 (by decide)) (by decide)))
      refine lv_aload_n hx hb dX12_runBehind_48 rfl (lv_at hl 1 rfl) ?_
      refine va_get (D := (dC, dI)) (ci := 12) (v := .int (mi 2)) (C := RX12) (T := TX12) (N := 57) hx hb hts (fun w h => List.mem_cons_of_mem _ (jnGB_X12 w h)) hown hK hP 0 rfl rfl 2 (by decide) (hts _ (List.mem_cons_of_mem _ mGB_105)) (fun _ h9 => h9) rfl dX12_runBehind_49 ?_
      refine lv_icmp_le (tgt := 57) hx hb dX12_runBehind_52 (by decide) (fun c_47 => ?_) (fun c_47 => ?_)
      · have g_48 : gi x_45 2 5 := gi_le_l c_47 gx_45 gmi_2
        have g_49 : gi (mi 2) 2 5 := gi_le_r c_47 gx_45 gmi_2
        refine lv_iload_n hx hb dX12_runBehind_57 rfl (lv_at hl 3 rfl) ?_
        refine lv_iconst (v := 1) hx hb dX12_runBehind_58 (by decide) ?_
        refine lv_icmp_ne (tgt := 66) hx hb dX12_runBehind_59 (by decide) (fun c_50 => ?_) (fun c_50 => absurd c_50 (gi_no_eq g_35 (gi_c 1 1 (by decide)) (by decide)))
        refine lv_iload_n hx hb dX12_runBehind_66 rfl (lv_at hl 0 rfl) ?_
        refine lv_iconst (v := 5) hx hb dX12_runBehind_67 (by decide) ?_
        refine lv_iadd hx hb dX12_runBehind_68 ?_
        refine lv_topi (fun x_51 ex_51 => ?_)
        have gx_51 : gi x_51 7 10 := gi_add ex_51 g_48 (gi_c 5 5 (by decide)) (by decide)
        exact W.iret (v := x_51) hx hb hr (fun t ht hW => ⟨⟨x_51, (), rfl, (gi_w gx_51 (by decide)), trivial⟩, hS.F ht⟩) hS.2.2 dX12_runBehind_69
      · refine lv_iconst (v := (-1)) hx hb dX12_runBehind_55 (by decide) ?_
        exact W.iret (v := (-1)) hx hb hr (fun t ht hW => ⟨⟨(-1), (), rfl, (gi_w (gi_c (-1) (-1) (by decide)) (by decide)), trivial⟩, hS.F ht⟩) hS.2.2 dX12_runBehind_56
  · have g_52 : gi p2 1 1 := gi_eq c_34 (gi_c 1 1 (by decide))
    refine lv_iload_n hx hb dX12_runBehind_5 rfl (lv_at hl 1 rfl) ?_
    refine lv_iconst (v := 5) hx hb dX12_runBehind_6 (by decide) ?_
    refine lv_icmp_gt (tgt := 16) hx hb dX12_runBehind_7 (by decide) (fun c_53 => ?_) (fun c_53 => ?_)
    · have g_54 : gi p1 6 10 := gi_lt_r c_53 (gi_c 5 5 (by decide)) gp1 (by decide)
      refine lv_iconst (v := 1) hx hb dX12_runBehind_16 (by decide) ?_
      refine lv_goto (tgt := 34) hx hb dX12_runBehind_17 (by decide) ?_
      refine lv_istore_n (lv' := [(3, .int 1), (0, .ref h0), (1, .int p1), (2, .int p2)]) hx hb dX12_runBehind_34 rfl hl (by decide) rfl (fun ls hl => ?_)
      refine lv_iload_n hx hb dX12_runBehind_35 rfl (lv_at hl 0 rfl) ?_
      refine lv_iload_n hx hb dX12_runBehind_36 rfl (lv_at hl 3 rfl) ?_
      refine lv_iconst (v := 1) hx hb dX12_runBehind_37 (by decide) ?_
      refine lv_icmp_ne (tgt := 48) hx hb dX12_runBehind_38 (by decide) (fun c_55 => absurd (gi_is_eq g_52 (gi_c 1 1 (by decide))) c_55) (fun c_55 => ?_)
      refine lv_aload_n hx hb dX12_runBehind_41 rfl (lv_at hl 1 rfl) ?_
      refine va_get (D := (dC, dI)) (ci := 12) (v := .int (mi 1)) (C := RX12) (T := TX12) (N := 57) hx hb hts (fun w h => List.mem_cons_of_mem _ (jnGB_X12 w h)) hown hK hP 0 rfl rfl 1 (by decide) (hts _ (List.mem_cons_of_mem _ mGB_104)) (fun _ h9 => h9) rfl dX12_runBehind_42 ?_
      refine lv_goto (tgt := 52) hx hb dX12_runBehind_45 (by decide) ?_
      refine lv_icmp_le (tgt := 57) hx hb dX12_runBehind_52 (by decide) (fun c_56 => ?_) (fun c_56 => ?_)
      · have g_57 : gi (mi 1) 1 5 := gi_le_r c_56 (gi_c 1 1 (by decide)) gmi_1
        refine lv_iload_n hx hb dX12_runBehind_57 rfl (lv_at hl 3 rfl) ?_
        refine lv_iconst (v := 1) hx hb dX12_runBehind_58 (by decide) ?_
        refine lv_icmp_ne (tgt := 66) hx hb dX12_runBehind_59 (by decide) (fun c_58 => absurd (gi_is_eq g_52 (gi_c 1 1 (by decide))) c_58) (fun c_58 => ?_)
        refine lv_iload_n hx hb dX12_runBehind_62 rfl (lv_at hl 0 rfl) ?_
        refine lv_goto (tgt := 69) hx hb dX12_runBehind_63 (by decide) ?_
        exact W.iret (v := 1) hx hb hr (fun t ht hW => ⟨⟨1, (), rfl, (gi_w (gi_c 1 1 (by decide)) (by decide)), trivial⟩, hS.F ht⟩) hS.2.2 dX12_runBehind_69
      · have g_59 : gi (mi 1) 0 0 := gi_lt_l (Int32.not_le.mp c_56) gmi_1 (gi_c 1 1 (by decide)) (by decide)
        refine lv_iconst (v := (-1)) hx hb dX12_runBehind_55 (by decide) ?_
        exact W.iret (v := (-1)) hx hb hr (fun t ht hW => ⟨⟨(-1), (), rfl, (gi_w (gi_c (-1) (-1) (by decide)) (by decide)), trivial⟩, hS.F ht⟩) hS.2.2 dX12_runBehind_56
    · have g_60 : gi p1 (-1) 5 := gi_le_l (Int32.not_lt.mp c_53) gp1 (gi_c 5 5 (by decide))
      refine lv_iload_n hx hb dX12_runBehind_10 rfl (lv_at hl 1 rfl) ?_
      refine lv_iconst (v := 1) hx hb dX12_runBehind_11 (by decide) ?_
      refine lv_iadd hx hb dX12_runBehind_12 ?_
      refine lv_topi (fun x_61 ex_61 => ?_)
      have gx_61 : gi x_61 0 6 := gi_add ex_61 g_60 (gi_c 1 1 (by decide)) (by decide)
      refine lv_goto (tgt := 34) hx hb dX12_runBehind_13 (by decide) ?_
      refine lv_istore_n (lv' := [(3, .int x_61), (0, .ref h0), (1, .int p1), (2, .int p2)]) hx hb dX12_runBehind_34 rfl hl (by decide) rfl (fun ls hl => ?_)
      refine lv_iload_n hx hb dX12_runBehind_35 rfl (lv_at hl 0 rfl) ?_
      refine lv_iload_n hx hb dX12_runBehind_36 rfl (lv_at hl 3 rfl) ?_
      refine lv_iconst (v := 1) hx hb dX12_runBehind_37 (by decide) ?_
      refine lv_icmp_ne (tgt := 48) hx hb dX12_runBehind_38 (by decide) (fun c_62 => absurd (gi_is_eq g_52 (gi_c 1 1 (by decide))) c_62) (fun c_62 => ?_)
      refine lv_aload_n hx hb dX12_runBehind_41 rfl (lv_at hl 1 rfl) ?_
      refine va_get (D := (dC, dI)) (ci := 12) (v := .int (mi 1)) (C := RX12) (T := TX12) (N := 57) hx hb hts (fun w h => List.mem_cons_of_mem _ (jnGB_X12 w h)) hown hK hP 0 rfl rfl 1 (by decide) (hts _ (List.mem_cons_of_mem _ mGB_104)) (fun _ h9 => h9) rfl dX12_runBehind_42 ?_
      refine lv_goto (tgt := 52) hx hb dX12_runBehind_45 (by decide) ?_
      refine lv_icmp_le (tgt := 57) hx hb dX12_runBehind_52 (by decide) (fun c_63 => ?_) (fun c_63 => ?_)
      · have g_64 : gi x_61 0 5 := gi_le_l c_63 gx_61 gmi_1
        refine lv_iload_n hx hb dX12_runBehind_57 rfl (lv_at hl 3 rfl) ?_
        refine lv_iconst (v := 1) hx hb dX12_runBehind_58 (by decide) ?_
        refine lv_icmp_ne (tgt := 66) hx hb dX12_runBehind_59 (by decide) (fun c_65 => absurd (gi_is_eq g_52 (gi_c 1 1 (by decide))) c_65) (fun c_65 => ?_)
        refine lv_iload_n hx hb dX12_runBehind_62 rfl (lv_at hl 0 rfl) ?_
        refine lv_goto (tgt := 69) hx hb dX12_runBehind_63 (by decide) ?_
        exact W.iret (v := x_61) hx hb hr (fun t ht hW => ⟨⟨x_61, (), rfl, (gi_w g_64 (by decide)), trivial⟩, hS.F ht⟩) hS.2.2 dX12_runBehind_69
      · have g_66 : gi x_61 1 6 := gi_lt_r (Int32.not_le.mp c_63) gmi_1 gx_61 (by decide)
        refine lv_iconst (v := (-1)) hx hb dX12_runBehind_55 (by decide) ?_
        exact W.iret (v := (-1)) hx hb hr (fun t ht hW => ⟨⟨(-1), (), rfl, (gi_w (gi_c (-1) (-1) (by decide)) (by decide)), trivial⟩, hS.F ht⟩) hS.2.2 dX12_runBehind_56
theorem dX12_placeOf_0 : decode cX12_placeOf 0 = .ok (.sipush 275, 3) := by decide +kernel
theorem dX12_placeOf_3 : decode cX12_placeOf 3 = .ok (.iload_n 0, 1) := by decide +kernel
theorem dX12_placeOf_4 : decode cX12_placeOf 4 = .ok (.imul, 1) := by decide +kernel
theorem dX12_placeOf_5 : decode cX12_placeOf 5 = .ok (.bipush 11, 2) := by decide +kernel
theorem dX12_placeOf_7 : decode cX12_placeOf 7 = .ok (.iload_n 1, 1) := by decide +kernel
theorem dX12_placeOf_8 : decode cX12_placeOf 8 = .ok (.imul, 1) := by decide +kernel
theorem dX12_placeOf_9 : decode cX12_placeOf 9 = .ok (.iadd, 1) := by decide +kernel
theorem dX12_placeOf_10 : decode cX12_placeOf 10 = .ok (.iload_n 2, 1) := by decide +kernel
theorem dX12_placeOf_11 : decode cX12_placeOf 11 = .ok (.iadd, 1) := by decide +kernel
theorem dX12_placeOf_12 : decode cX12_placeOf 12 = .ok (.ireturn, 1) := by decide +kernel
set_option maxHeartbeats 4000000 in
set_option maxRecDepth 100000 in
theorem sX12_placeOf (l : Launch) (dC : Nat → ClassId) (dI : Nat → Nat → Nat) (p0 : Int32) (p1 : Int32) (p2 : Int32) (gp0 : gi p0 0 24) (gp1 : gi p1 0 24) (gp2 : gi p2 0 10) : Met l yX12_placeOf (.code yX12_placeOf cX12_placeOf 3 (some .int) :: wsGB) ({ frames := 0, cells := 0, slots := 0, locals := 0 }) (va_Pc [.int p0, .int p1, .int p2] (fun U => va_P (dC, dI) vwCl [] U.heap ∧ va_K (dC, dI) vwCl [] U)) (va_Qi (fun (r : Int32) (u : Unit) => gi r 0 6874) (fun _ _ => True) (fun _ => False)) 0 0 (fun _ => False) := by
  refine Met.ofW (cc := cX12_placeOf) (maxL := 3) (ret := (some .int)) (by decide) rfl ?_
  intro p e s m args below meth c s₁ B hml hv
  obtain ⟨rfl, hP, hK⟩ := hv
  have hx := B.exec
  have hb := B.bytes
  have hr := B.returns
  have hts := atoms_spec (ws := (.code yX12_placeOf cX12_placeOf 3 (some .int) :: wsGB)) B.pre
  have hown : s.vm.findClass RX12 = some m.cls := findClass_of_methodNamed B.named
  have hlocks := B.notSynchronized
  have hS : va_S (fun _ => False) s.heap s.heap [] := va_S.rf
  have hl := lv_entry ([.int p0, .int p1, .int p2]) (n := 3) (Nat.le_of_ble_eq_true rfl)
  rw [lg_entry_eq]
  generalize (lg_sl ([.int p0, .int p1, .int p2]) ++ List.replicate (3 - (lg_sl ([.int p0, .int p1, .int p2])).length) Slot.unset).toArray = ls at hl ⊢
  have hl : lv_has ls 3 [(0, .int p0), (1, .int p1), (2, .int p2)] := hl
  refine lv_sipush (v := 275) hx hb dX12_placeOf_0 (by decide) ?_
  refine lv_iload_n hx hb dX12_placeOf_3 rfl (lv_at hl 0 rfl) ?_
  refine lv_imul hx hb dX12_placeOf_4 ?_
  refine lv_topi (fun x_5 ex_5 => ?_)
  have gx_5 : gi x_5 0 6600 := gi_mul ex_5 (gi_c 275 275 (by decide)) gp0 (by decide)
  refine lv_bipush (v := 11) hx hb dX12_placeOf_5 (by decide) ?_
  refine lv_iload_n hx hb dX12_placeOf_7 rfl (lv_at hl 1 rfl) ?_
  refine lv_imul hx hb dX12_placeOf_8 ?_
  refine lv_topi (fun x_6 ex_6 => ?_)
  have gx_6 : gi x_6 0 264 := gi_mul ex_6 (gi_c 11 11 (by decide)) gp1 (by decide)
  refine lv_iadd hx hb dX12_placeOf_9 ?_
  refine lv_topi (fun x_7 ex_7 => ?_)
  have gx_7 : gi x_7 0 6864 := gi_add ex_7 gx_5 gx_6 (by decide)
  refine lv_iload_n hx hb dX12_placeOf_10 rfl (lv_at hl 2 rfl) ?_
  refine lv_iadd hx hb dX12_placeOf_11 ?_
  refine lv_topi (fun x_8 ex_8 => ?_)
  have gx_8 : gi x_8 0 6874 := gi_add ex_8 gx_7 gp2 (by decide)
  exact W.iret (v := x_8) hx hb hr (fun t ht hW => ⟨⟨x_8, (), rfl, gx_8, trivial⟩, hS.F ht⟩) hS.2.2 dX12_placeOf_12
theorem dX12_waysBy_0 : decode cX12_waysBy 0 = .ok (.aload_n 0, 1) := by decide +kernel
theorem dX12_waysBy_1 : decode cX12_waysBy 1 = .ok (.iload_n 3, 1) := by decide +kernel
theorem dX12_waysBy_2 : decode cX12_waysBy 2 = .ok (.iload 4, 2) := by decide +kernel
theorem dX12_waysBy_4 : decode cX12_waysBy 4 = .ok (.invokevirtual 318, 3) := by decide +kernel
theorem dX12_waysBy_7 : decode cX12_waysBy 7 = .ok (.istore 5, 2) := by decide +kernel
theorem dX12_waysBy_9 : decode cX12_waysBy 9 = .ok (.iload 5, 2) := by decide +kernel
theorem dX12_waysBy_11 : decode cX12_waysBy 11 = .ok (.iconst (-1), 1) := by decide +kernel
theorem dX12_waysBy_12 : decode cX12_waysBy 12 = .ok (.if_icmp .ne 7, 3) := by decide +kernel
theorem dX12_waysBy_15 : decode cX12_waysBy 15 = .ok (.iconst 0, 1) := by decide +kernel
theorem dX12_waysBy_16 : decode cX12_waysBy 16 = .ok (.goto 20, 3) := by decide +kernel
theorem dX12_waysBy_19 : decode cX12_waysBy 19 = .ok (.aload_n 0, 1) := by decide +kernel
theorem dX12_waysBy_20 : decode cX12_waysBy 20 = .ok (.getfield 66, 3) := by decide +kernel
theorem dX12_waysBy_23 : decode cX12_waysBy 23 = .ok (.iload_n 1, 1) := by decide +kernel
theorem dX12_waysBy_24 : decode cX12_waysBy 24 = .ok (.iconst 1, 1) := by decide +kernel
theorem dX12_waysBy_25 : decode cX12_waysBy 25 = .ok (.iadd, 1) := by decide +kernel
theorem dX12_waysBy_26 : decode cX12_waysBy 26 = .ok (.iload_n 2, 1) := by decide +kernel
theorem dX12_waysBy_27 : decode cX12_waysBy 27 = .ok (.iload 4, 2) := by decide +kernel
theorem dX12_waysBy_29 : decode cX12_waysBy 29 = .ok (.iadd, 1) := by decide +kernel
theorem dX12_waysBy_30 : decode cX12_waysBy 30 = .ok (.iload 5, 2) := by decide +kernel
theorem dX12_waysBy_32 : decode cX12_waysBy 32 = .ok (.invokestatic 321, 3) := by decide +kernel
theorem dX12_waysBy_35 : decode cX12_waysBy 35 = .ok (.iaload, 1) := by decide +kernel
theorem dX12_waysBy_36 : decode cX12_waysBy 36 = .ok (.ireturn, 1) := by decide +kernel
set_option maxHeartbeats 4000000 in
set_option maxRecDepth 100000 in
theorem sX12_waysBy (l : Launch) (dC : Nat → ClassId) (dI : Nat → Nat → Nat) (h0 : Nat) (mi : Nat → Int32) (mr : Nat → Nat) (km_ways : ClassId) (fm_ways : Nat → Int32) (p1 : Int32) (p2 : Int32) (p3 : Int32) (p4 : Int32) (gmi_0 : gi (mi 0) 0 24) (gmi_1 : gi (mi 1) 0 5) (gmi_2 : gi (mi 2) 0 5) (gmi_4 : gi (mi 4) 0 1) (gmi_7 : gi (mi 7) 0 6) (gmi_10 : gi (mi 10) 0 24) (gmi_17 : gi (mi 17) 0 8) (gmi_23 : gi (mi 23) 0 300) (gmi_24 : gi (mi 24) 0 1) (gmi_26 : gi (mi 26) 0 1600) (gmi_29 : gi (mi 29) 0 1600) (gmi_30 : gi (mi 30) 0 1600) (gmi_33 : gi (mi 33) 0 1) (gmi_37 : gi (mi 37) 0 1) (gmi_41 : gi (mi 41) 0 24) (gmi_50 : gi (mi 50) 0 1) (gmi_51 : gi (mi 51) 0 1) (gmi_56 : gi (mi 56) 0 80) (gp1 : gi p1 0 23) (gp2 : gi p2 0 23) (gp3 : gi p3 (-1) 10) (gp4 : gi p4 0 1) : Met l yX12_waysBy (.code yX12_waysBy cX12_waysBy 6 (some .int) :: wsGB) ({ frames := 1, cells := 0, slots := 0, locals := 23 }) (va_Pc [.ref h0, .int p1, .int p2, .int p3, .int p4] (fun U => va_P (dC, dI) vwCl [(h0, .inr (12, fsMM mi mr)), ((mr 17), .inl (km_ways, 6875, .inl fm_ways))] U.heap ∧ va_K (dC, dI) vwCl [(km_ways, .int)] U)) (va_Qi (fun (r : Int32) (u : Unit) => gi r (-2147483648) 2147483647) (fun _ _ => True) (fun _ => False)) 0 0 (fun _ => False) := by
  refine Met.ofW (cc := cX12_waysBy) (maxL := 6) (ret := (some .int)) (by decide) rfl ?_
  intro p e s m args below meth c s₁ B hml hv
  obtain ⟨rfl, hP, hK⟩ := hv
  have hx := B.exec
  have hb := B.bytes
  have hr := B.returns
  have hts := atoms_spec (ws := (.code yX12_waysBy cX12_waysBy 6 (some .int) :: wsGB)) B.pre
  have hown : s.vm.findClass RX12 = some m.cls := findClass_of_methodNamed B.named
  have hlocks := B.notSynchronized
  have hS : va_S (fun _ => False) s.heap s.heap [] := va_S.rf
  have hl := lv_entry ([.ref h0, .int p1, .int p2, .int p3, .int p4]) (n := 6) (Nat.le_of_ble_eq_true rfl)
  rw [lg_entry_eq]
  generalize (lg_sl ([.ref h0, .int p1, .int p2, .int p3, .int p4]) ++ List.replicate (6 - (lg_sl ([.ref h0, .int p1, .int p2, .int p3, .int p4])).length) Slot.unset).toArray = ls at hl ⊢
  have hl : lv_has ls 6 [(0, .ref h0), (1, .int p1), (2, .int p2), (3, .int p3), (4, .int p4)] := hl
  refine lv_aload_n hx hb dX12_waysBy_0 rfl (lv_at hl 0 rfl) ?_
  refine lv_iload_n hx hb dX12_waysBy_1 rfl (lv_at hl 3 rfl) ?_
  refine lv_iload hx hb dX12_waysBy_2 (lv_at hl 4 rfl) ?_
  have hPc := hP.sub (ws' := [(h0, .inr (12, fsMM mi mr))]) [0] rfl
  have hKc := hK.sub (tys' := []) [] rfl
  refine va_calli (va_runV (As := [.int p3, .int p4]) (rest := []) ⟨hx, hb, hml, hown, hts⟩ (sX12_runBehind l dC dI h0 mi mr p3 p4 gmi_0 gmi_1 gmi_2 gmi_4 gmi_7 gmi_10 gmi_17 gmi_23 gmi_24 gmi_26 gmi_29 gmi_30 gmi_33 gmi_37 gmi_41 gmi_50 gmi_51 gmi_56 gp3 gp4) (cwV 2 hts (gz_gV mGB_311 mGB_312 mGB_313 mGB_1 mGB_314 goodGB) rfl rfl rfl (by decide +kernel) ⟨Nat.le_of_ble_eq_true rfl, Nat.le_of_ble_eq_true rfl⟩) ⟨fun a U g mk q => by obtain ⟨q0, qP, qK⟩ := q; exact ⟨q0, qP, va_K.moved (u := U) (U := U.calling g mk a) (Vm.Alike.refl U.vm) qK⟩, va_recv hKc hPc (ci := 12) (q0 := 0) rfl rfl, fun U hU hW => ⟨rfl, by rw [hU]; exact hPc, va_K.moved hW.alike hKc⟩⟩ rfl rfl hl.1 rfl (lv_room (Nat.le_of_ble_eq_true rfl)) dX12_waysBy_4 ⟨Nat.zero_le _, Nat.zero_le _⟩) hS (fun q _ h => h.elim) (fun q h => h.elim) (fun r_9 u t H1 locs ht hvm hw hB hz1 hk1 hS => ?_)
  have hP := gz_keep hP hk1
  generalize H1 = H at hP hS ⊢
  have gr_9 : gi r_9 (-1) 10 := hw
  refine lv_istore (lv' := [(5, .int r_9), (0, .ref h0), (1, .int p1), (2, .int p2), (3, .int p3), (4, .int p4)]) hx hb dX12_waysBy_7 hl (by decide) rfl (fun ls hl => ?_)
  refine lv_iload hx hb dX12_waysBy_9 (lv_at hl 0 rfl) ?_
  refine lv_iconst (v := (-1)) hx hb dX12_waysBy_11 (by decide) ?_
  refine lv_icmp_ne (tgt := 19) hx hb dX12_waysBy_12 (by decide) (fun c_10 => ?_) (fun c_10 => ?_)
  · have g_11 : gi r_9 0 10 := gi_ne_lo c_10 gr_9 (gi_c (-1) (-1) (by decide)) (by decide)
    refine lv_aload_n hx hb dX12_waysBy_19 rfl (lv_at hl 1 rfl) ?_
    refine va_get (D := (dC, dI)) (ci := 12) (v := .ref (mr 17)) (C := RX12) (T := TX12) (N := 57) hx hb hts (fun w h => List.mem_cons_of_mem _ (jnGB_X12 w h)) hown hK hP 0 rfl rfl 38 (by decide) (hts _ (List.mem_cons_of_mem _ mGB_29)) (fun _ h9 => h9) rfl dX12_waysBy_20 ?_
    refine lv_iload_n hx hb dX12_waysBy_23 rfl (lv_at hl 2 rfl) ?_
    refine lv_iconst (v := 1) hx hb dX12_waysBy_24 (by decide) ?_
    refine lv_iadd hx hb dX12_waysBy_25 ?_
    refine lv_topi (fun x_12 ex_12 => ?_)
    have gx_12 : gi x_12 1 24 := gi_add ex_12 gp1 (gi_c 1 1 (by decide)) (by decide)
    refine lv_iload_n hx hb dX12_waysBy_26 rfl (lv_at hl 3 rfl) ?_
    refine lv_iload hx hb dX12_waysBy_27 (lv_at hl 5 rfl) ?_
    refine lv_iadd hx hb dX12_waysBy_29 ?_
    refine lv_topi (fun x_13 ex_13 => ?_)
    have gx_13 : gi x_13 0 24 := gi_add ex_13 gp2 gp4 (by decide)
    refine lv_iload hx hb dX12_waysBy_30 (lv_at hl 0 rfl) ?_
    have hPc := hP.sub (ws' := []) [] rfl
    have hKc := hK.sub (tys' := []) [] rfl
    refine va_calli (va_runS (As := [.int x_12, .int x_13, .int r_9]) (rest := [.ref (mr 17)]) ⟨hx, hb, hml, hown, hts⟩ (sX12_placeOf l dC dI x_12 x_13 r_9 (gi_w gx_12 (by decide)) gx_13 g_11) (cwS 3 hts (gz_gS mGB_315 mGB_316 mGB_1 mGB_317 goodGB) rfl rfl rfl (by decide +kernel) ⟨Nat.le_of_ble_eq_true rfl, Nat.le_of_ble_eq_true rfl⟩) ⟨fun a U g mk q => by obtain ⟨q0, qP, qK⟩ := q; exact ⟨q0, qP, va_K.moved (u := U) (U := U.calling g mk a) (Vm.Alike.refl U.vm) qK⟩, fun U hU hW => ⟨rfl, by rw [hU]; exact hPc, va_K.moved hW.alike hKc⟩⟩ rfl rfl hl.1 rfl (lv_room (Nat.le_of_ble_eq_true rfl)) dX12_waysBy_32 ⟨Nat.zero_le _, Nat.zero_le _⟩) hS (fun q _ h => h.elim) (fun q h => h.elim) (fun r_14 u t H1 locs ht hvm hw hB hz1 hk1 hS => ?_)
    have hP := gz_keep hP hk1
    generalize H1 = H at hP hS ⊢
    have gr_14 : gi r_14 0 6874 := hw
    refine va_iald hx hb hK hP 1 0 rfl rfl (gi_in gr_14 (by decide)) dX12_waysBy_35 ?_
    refine lv_topi (fun x_15 ex_15 => ?_)
    exact W.iret (v := x_15) hx hb hr (fun t ht hW => ⟨⟨x_15, (), rfl, (gi_any x_15), trivial⟩, hS.F ht⟩) hS.2.2 dX12_waysBy_36
  · have g_16 : gi r_9 (-1) (-1) := gi_eq c_10 (gi_c (-1) (-1) (by decide))
    refine lv_iconst (v := 0) hx hb dX12_waysBy_15 (by decide) ?_
    refine lv_goto (tgt := 36) hx hb dX12_waysBy_16 (by decide) ?_
    exact W.iret (v := 0) hx hb hr (fun t ht hW => ⟨⟨0, (), rfl, (gi_any 0), trivial⟩, hS.F ht⟩) hS.2.2 dX12_waysBy_36
theorem dX12_counts_0 : decode cX12_counts 0 = .ok (.aload_n 0, 1) := by decide +kernel
theorem dX12_counts_1 : decode cX12_counts 1 = .ok (.getfield 117, 3) := by decide +kernel
theorem dX12_counts_4 : decode cX12_counts 4 = .ok (.istore_n 1, 1) := by decide +kernel
theorem dX12_counts_5 : decode cX12_counts 5 = .ok (.iload_n 1, 1) := by decide +kernel
theorem dX12_counts_6 : decode cX12_counts 6 = .ok (.ifCond .lt 120, 3) := by decide +kernel
theorem dX12_counts_9 : decode cX12_counts 9 = .ok (.iconst 0, 1) := by decide +kernel
theorem dX12_counts_10 : decode cX12_counts 10 = .ok (.istore_n 2, 1) := by decide +kernel
theorem dX12_counts_11 : decode cX12_counts 11 = .ok (.iload_n 2, 1) := by decide +kernel
theorem dX12_counts_12 : decode cX12_counts 12 = .ok (.iload_n 1, 1) := by decide +kernel
theorem dX12_counts_13 : decode cX12_counts 13 = .ok (.if_icmp .gt 107, 3) := by decide +kernel
theorem dX12_counts_16 : decode cX12_counts 16 = .ok (.aload_n 0, 1) := by decide +kernel
theorem dX12_counts_17 : decode cX12_counts 17 = .ok (.getfield 312, 3) := by decide +kernel
theorem dX12_counts_20 : decode cX12_counts 20 = .ok (.ifCond .ne 21, 3) := by decide +kernel
theorem dX12_counts_23 : decode cX12_counts 23 = .ok (.aload_n 0, 1) := by decide +kernel
theorem dX12_counts_24 : decode cX12_counts 24 = .ok (.iload_n 1, 1) := by decide +kernel
theorem dX12_counts_25 : decode cX12_counts 25 = .ok (.bipush 29, 2) := by decide +kernel
theorem dX12_counts_27 : decode cX12_counts 27 = .ok (.iload_n 1, 1) := by decide +kernel
theorem dX12_counts_28 : decode cX12_counts 28 = .ok (.imul, 1) := by decide +kernel
theorem dX12_counts_29 : decode cX12_counts 29 = .ok (.iload_n 2, 1) := by decide +kernel
theorem dX12_counts_30 : decode cX12_counts 30 = .ok (.iadd, 1) := by decide +kernel
theorem dX12_counts_31 : decode cX12_counts 31 = .ok (.invokevirtual 325, 3) := by decide +kernel
theorem dX12_counts_34 : decode cX12_counts 34 = .ok (.ifCond .eq 7, 3) := by decide +kernel
theorem dX12_counts_37 : decode cX12_counts 37 = .ok (.iconst 1, 1) := by decide +kernel
theorem dX12_counts_38 : decode cX12_counts 38 = .ok (.goto 4, 3) := by decide +kernel
theorem dX12_counts_41 : decode cX12_counts 41 = .ok (.iconst 0, 1) := by decide +kernel
theorem dX12_counts_42 : decode cX12_counts 42 = .ok (.istore_n 3, 1) := by decide +kernel
theorem dX12_counts_43 : decode cX12_counts 43 = .ok (.iconst 0, 1) := by decide +kernel
theorem dX12_counts_44 : decode cX12_counts 44 = .ok (.istore 4, 2) := by decide +kernel
theorem dX12_counts_46 : decode cX12_counts 46 = .ok (.iload 4, 2) := by decide +kernel
theorem dX12_counts_48 : decode cX12_counts 48 = .ok (.bipush 10, 2) := by decide +kernel
theorem dX12_counts_50 : decode cX12_counts 50 = .ok (.if_icmp .gt 64, 3) := by decide +kernel
theorem dX12_counts_53 : decode cX12_counts 53 = .ok (.iload_n 3, 1) := by decide +kernel
theorem dX12_counts_54 : decode cX12_counts 54 = .ok (.ifCond .ne 7, 3) := by decide +kernel
theorem dX12_counts_57 : decode cX12_counts 57 = .ok (.iconst 0, 1) := by decide +kernel
theorem dX12_counts_58 : decode cX12_counts 58 = .ok (.goto 34, 3) := by decide +kernel
theorem dX12_counts_61 : decode cX12_counts 61 = .ok (.iload_n 1, 1) := by decide +kernel
theorem dX12_counts_62 : decode cX12_counts 62 = .ok (.aload_n 0, 1) := by decide +kernel
theorem dX12_counts_63 : decode cX12_counts 63 = .ok (.getfield 117, 3) := by decide +kernel
theorem dX12_counts_66 : decode cX12_counts 66 = .ok (.if_icmp .ne 7, 3) := by decide +kernel
theorem dX12_counts_69 : decode cX12_counts 69 = .ok (.iconst 1, 1) := by decide +kernel
theorem dX12_counts_70 : decode cX12_counts 70 = .ok (.goto 22, 3) := by decide +kernel
theorem dX12_counts_73 : decode cX12_counts 73 = .ok (.aload_n 0, 1) := by decide +kernel
theorem dX12_counts_74 : decode cX12_counts 74 = .ok (.iload_n 1, 1) := by decide +kernel
theorem dX12_counts_75 : decode cX12_counts 75 = .ok (.iload_n 2, 1) := by decide +kernel
theorem dX12_counts_76 : decode cX12_counts 76 = .ok (.iload 4, 2) := by decide +kernel
theorem dX12_counts_78 : decode cX12_counts 78 = .ok (.iconst 0, 1) := by decide +kernel
theorem dX12_counts_79 : decode cX12_counts 79 = .ok (.invokevirtual 328, 3) := by decide +kernel
theorem dX12_counts_82 : decode cX12_counts 82 = .ok (.aload_n 0, 1) := by decide +kernel
theorem dX12_counts_83 : decode cX12_counts 83 = .ok (.iload_n 1, 1) := by decide +kernel
theorem dX12_counts_84 : decode cX12_counts 84 = .ok (.iload_n 2, 1) := by decide +kernel
theorem dX12_counts_85 : decode cX12_counts 85 = .ok (.iload 4, 2) := by decide +kernel
theorem dX12_counts_87 : decode cX12_counts 87 = .ok (.iconst 1, 1) := by decide +kernel
theorem dX12_counts_88 : decode cX12_counts 88 = .ok (.invokevirtual 328, 3) := by decide +kernel
theorem dX12_counts_91 : decode cX12_counts 91 = .ok (.iadd, 1) := by decide +kernel
theorem dX12_counts_92 : decode cX12_counts 92 = .ok (.istore 5, 2) := by decide +kernel
theorem dX12_counts_94 : decode cX12_counts 94 = .ok (.aload_n 0, 1) := by decide +kernel
theorem dX12_counts_95 : decode cX12_counts 95 = .ok (.getfield 66, 3) := by decide +kernel
theorem dX12_counts_98 : decode cX12_counts 98 = .ok (.iload_n 1, 1) := by decide +kernel
theorem dX12_counts_99 : decode cX12_counts 99 = .ok (.iload_n 2, 1) := by decide +kernel
theorem dX12_counts_100 : decode cX12_counts 100 = .ok (.iload 4, 2) := by decide +kernel
theorem dX12_counts_102 : decode cX12_counts 102 = .ok (.invokestatic 321, 3) := by decide +kernel
theorem dX12_counts_105 : decode cX12_counts 105 = .ok (.iload 5, 2) := by decide +kernel
theorem dX12_counts_107 : decode cX12_counts 107 = .ok (.iastore, 1) := by decide +kernel
theorem dX12_counts_108 : decode cX12_counts 108 = .ok (.iinc 4 1, 3) := by decide +kernel
theorem dX12_counts_111 : decode cX12_counts 111 = .ok (.goto (-65), 3) := by decide +kernel
theorem dX12_counts_114 : decode cX12_counts 114 = .ok (.iinc 2 1, 3) := by decide +kernel
theorem dX12_counts_117 : decode cX12_counts 117 = .ok (.goto (-106), 3) := by decide +kernel
theorem dX12_counts_120 : decode cX12_counts 120 = .ok (.iinc 1 (-1), 3) := by decide +kernel
theorem dX12_counts_123 : decode cX12_counts 123 = .ok (.goto (-118), 3) := by decide +kernel
theorem dX12_counts_126 : decode cX12_counts 126 = .ok (.aload_n 0, 1) := by decide +kernel
theorem dX12_counts_127 : decode cX12_counts 127 = .ok (.getfield 66, 3) := by decide +kernel
theorem dX12_counts_130 : decode cX12_counts 130 = .ok (.iconst 0, 1) := by decide +kernel
theorem dX12_counts_131 : decode cX12_counts 131 = .ok (.iaload, 1) := by decide +kernel
theorem dX12_counts_132 : decode cX12_counts 132 = .ok (.ireturn, 1) := by decide +kernel
set_option maxHeartbeats 4000000 in
set_option maxRecDepth 100000 in
theorem lp_sX12_counts {p : Program} {l : Launch} {e : Env} {R : Room} {s : State} {m : MethodId} {args : Array Value} {below : List Frame} {meth : Method} {c : Code} {Q : State → Prop} {A : Nat → Prop} {cells slots : Nat} {dC : Nat → ClassId} {dI : Nat → Nat → Nat} (h0 : Nat) (mi : Nat → Int32) (mr : Nat → Nat) (km_must : ClassId) (fm_must : Nat → Int32) (km_least : ClassId) (fm_least : Nat → Int32) (km_pin : ClassId) (fm_pin : Nat → Int32) (km_ways : ClassId) (fm_ways : Nat → Int32) (gmi_0 : gi (mi 0) 0 24) (gmi_1 : gi (mi 1) 0 5) (gmi_2 : gi (mi 2) 0 5) (gmi_4 : gi (mi 4) 0 1) (gmi_7 : gi (mi 7) 0 6) (gmi_10 : gi (mi 10) 0 24) (gmi_17 : gi (mi 17) 0 8) (gmi_23 : gi (mi 23) 0 300) (gmi_24 : gi (mi 24) 0 1) (gmi_26 : gi (mi 26) 0 1600) (gmi_29 : gi (mi 29) 0 1600) (gmi_30 : gi (mi 30) 0 1600) (gmi_33 : gi (mi 33) 0 1) (gmi_37 : gi (mi 37) 0 1) (gmi_41 : gi (mi 41) 0 24) (gmi_50 : gi (mi 50) 0 1) (gmi_51 : gi (mi 51) 0 1) (gmi_56 : gi (mi 56) 0 80) (hx : p.tables.exec = Jvm.exec) (hb : c.code = cX12_counts) (hml : c.maxLocals = 6) (hown : s.vm.findClass RX12 = some m.cls) (hts : ∀ w ∈ ((.code yX12_counts cX12_counts 6 (some .int) :: wsGB) : List Cond), w.before args s = true) (hK : va_K (dC, dI) vwCl [(km_must, .int), (km_least, .int), (km_pin, .int), (km_ways, .int)] s) (hA : ∀ q : Nat, s.heap.size ≤ q → A q) (hRf : 2 ≤ R.frames) (hRl : 48 ≤ R.locals) (hRc : cells ≤ R.cells) (hRs : slots ≤ R.slots) (kr132 : ∀ (v : Int32) (z4 : Nat → Int32) (H : Heap) (locs : List Loc) (ls : Array Slot), va_P (dC, dI) vwCl [(h0, .inr (12, fsMM mi mr)), ((mr 14), .inl (km_must, 25, .inl fm_must)), ((mr 15), .inl (km_least, 25, .inl fm_least)), ((mr 16), .inl (km_pin, 25, .inl fm_pin)), ((mr 17), .inl (km_ways, 6875, .inl z4))] H → va_D A [(h0, .inr (12, fsMM mi mr)), ((mr 14), .inl (km_must, 25, .inl fm_must)), ((mr 15), .inl (km_least, 25, .inl fm_least)), ((mr 16), .inl (km_pin, 25, .inl fm_pin)), ((mr 17), .inl (km_ways, 6875, .inl z4))] → va_S A s.heap H locs → lv_has ls 6 [] → W p l e R s m args below meth c H locs cells slots Q (F0 m 132 ls [.int v])) : ∀ z : Nat, (∀ (v1 : Int32) (z4 : Nat → Int32) (H : Heap) (locs : List Loc) (ls : Array Slot), gi v1 (-1) 24 → v1.toInt ≤ (mi 0).toInt → 759 + 758 * v1.toInt < (z : Int) → va_P (dC, dI) vwCl [(h0, .inr (12, fsMM mi mr)), ((mr 14), .inl (km_must, 25, .inl fm_must)), ((mr 15), .inl (km_least, 25, .inl fm_least)), ((mr 16), .inl (km_pin, 25, .inl fm_pin)), ((mr 17), .inl (km_ways, 6875, .inl z4))] H → va_D A [(h0, .inr (12, fsMM mi mr)), ((mr 14), .inl (km_must, 25, .inl fm_must)), ((mr 15), .inl (km_least, 25, .inl fm_least)), ((mr 16), .inl (km_pin, 25, .inl fm_pin)), ((mr 17), .inl (km_ways, 6875, .inl z4))] → va_S A s.heap H locs → lv_has ls 6 [(0, .ref h0), (1, .int v1)] → W p l e R s m args below meth c H locs cells slots Q (F0 m 5 ls [])) ∧ (∀ (v1 : Int32) (v2 : Int32) (z4 : Nat → Int32) (H : Heap) (locs : List Loc) (ls : Array Slot), gi v1 0 24 → gi v2 0 25 → v1.toInt ≤ (mi 0).toInt → 702 + 758 * v1.toInt + (-28) * v2.toInt < (z : Int) → va_P (dC, dI) vwCl [(h0, .inr (12, fsMM mi mr)), ((mr 14), .inl (km_must, 25, .inl fm_must)), ((mr 15), .inl (km_least, 25, .inl fm_least)), ((mr 16), .inl (km_pin, 25, .inl fm_pin)), ((mr 17), .inl (km_ways, 6875, .inl z4))] H → va_D A [(h0, .inr (12, fsMM mi mr)), ((mr 14), .inl (km_must, 25, .inl fm_must)), ((mr 15), .inl (km_least, 25, .inl fm_least)), ((mr 16), .inl (km_pin, 25, .inl fm_pin)), ((mr 17), .inl (km_ways, 6875, .inl z4))] → va_S A s.heap H locs → lv_has ls 6 [(0, .ref h0), (1, .int v1), (2, .int v2)] → W p l e R s m args below meth c H locs cells slots Q (F0 m 11 ls [])) ∧ (∀ (v1 : Int32) (v2 : Int32) (v3 : Int32) (v4 : Int32) (z4 : Nat → Int32) (H : Heap) (locs : List Loc) (ls : Array Slot), gi v1 0 24 → gi v2 0 24 → gi v3 0 1 → gi v4 0 11 → v1.toInt ≤ (mi 0).toInt → v2.toInt ≤ v1.toInt → 697 + 758 * v1.toInt + (-28) * v2.toInt + (-2) * v4.toInt < (z : Int) → va_P (dC, dI) vwCl [(h0, .inr (12, fsMM mi mr)), ((mr 14), .inl (km_must, 25, .inl fm_must)), ((mr 15), .inl (km_least, 25, .inl fm_least)), ((mr 16), .inl (km_pin, 25, .inl fm_pin)), ((mr 17), .inl (km_ways, 6875, .inl z4))] H → va_D A [(h0, .inr (12, fsMM mi mr)), ((mr 14), .inl (km_must, 25, .inl fm_must)), ((mr 15), .inl (km_least, 25, .inl fm_least)), ((mr 16), .inl (km_pin, 25, .inl fm_pin)), ((mr 17), .inl (km_ways, 6875, .inl z4))] → va_S A s.heap H locs → lv_has ls 6 [(0, .ref h0), (1, .int v1), (2, .int v2), (3, .int v3), (4, .int v4)] → W p l e R s m args below meth c H locs cells slots Q (F0 m 46 ls [])) := by
  intro z
  induction z with
  | zero =>
    refine ⟨?_, ?_, ?_⟩
    · intro v1 z4 H locs ls gv1 hle_gv1_gmi_0 hmu hP hD hS hl
      exact absurd hmu (by have hv11 := gv1.1; have hv12 := gv1.2; omega)
    · intro v1 v2 z4 H locs ls gv1 gv2 hle_gv1_gmi_0 hmu hP hD hS hl
      exact absurd hmu (by have hv11 := gv1.1; have hv12 := gv1.2; have hv21 := gv2.1; have hv22 := gv2.2; omega)
    · intro v1 v2 v3 v4 z4 H locs ls gv1 gv2 gv3 gv4 hle_gv1_gmi_0 hle_gv2_gv1 hmu hP hD hS hl
      exact absurd hmu (by have hv11 := gv1.1; have hv12 := gv1.2; have hv21 := gv2.1; have hv22 := gv2.2; have hv41 := gv4.1; have hv42 := gv4.2; omega)
  | succ z ih =>
    refine ⟨?_, ?_, ?_⟩
    · intro v1 z4 H locs ls gv1 hle_gv1_gmi_0 hmu hP hD hS hl
      refine lv_iload_n hx hb dX12_counts_5 rfl (lv_at hl 1 rfl) ?_
      refine lv_if_lt (tgt := 126) hx hb dX12_counts_6 (by decide) (fun c_892 => ?_) (fun c_892 => ?_)
      · have g_893 : gi v1 (-1) (-1) := gi_lt_l c_892 gv1 (gi_c 0 0 (by decide)) (by decide)
        refine lv_aload_n hx hb dX12_counts_126 rfl (lv_at hl 0 rfl) ?_
        refine va_get (D := (dC, dI)) (ci := 12) (v := .ref (mr 17)) (C := RX12) (T := TX12) (N := 57) hx hb hts (fun w h => List.mem_cons_of_mem _ (jnGB_X12 w h)) hown hK hP 0 rfl rfl 38 (by decide) (hts _ (List.mem_cons_of_mem _ mGB_29)) (fun _ h9 => h9) rfl dX12_counts_127 ?_
        refine lv_iconst (v := 0) hx hb dX12_counts_130 (by decide) ?_
        refine va_iald hx hb hK hP 4 3 rfl rfl (gi_in (gi_c 0 0 (by decide)) (by decide)) dX12_counts_131 ?_
        refine lv_topi (fun x_894 ex_894 => ?_)
        exact kr132 x_894 z4 _ _ _ hP hD hS (lv_sub hl [] rfl)
      · have g_895 : gi v1 0 24 := gi_le_r (Int32.not_lt.mp c_892) (gi_c 0 0 (by decide)) gv1
        refine lv_iconst (v := 0) hx hb dX12_counts_9 (by decide) ?_
        refine lv_istore_n (lv' := [(2, .int 0), (0, .ref h0), (1, .int v1)]) hx hb dX12_counts_10 rfl hl (by decide) rfl (fun ls hl => ?_)
        exact ih.2.1 v1 0 z4 _ _ _ g_895 (gi_w (gi_c 0 0 (by decide)) (by decide)) (by have qgmi_0 := gmi_0.1; have rgmi_0 := gmi_0.2; have qgv1 := g_895.1; have rgv1 := g_895.2; omega) (by have k0 : (0 : Int32).toInt = 0 := (by decide); have av1 := gv1.1; have bv1 := gv1.2; have qgv1 := g_895.1; have rgv1 := g_895.2; omega) hP hD hS (lv_sub hl [1, 2, 0] rfl)
    · intro v1 v2 z4 H locs ls gv1 gv2 hle_gv1_gmi_0 hmu hP hD hS hl
      refine lv_iload_n hx hb dX12_counts_11 rfl (lv_at hl 2 rfl) ?_
      refine lv_iload_n hx hb dX12_counts_12 rfl (lv_at hl 1 rfl) ?_
      refine lv_icmp_gt (tgt := 120) hx hb dX12_counts_13 (by decide) (fun c_896 => ?_) (fun c_896 => ?_)
      · have g_897 : gi v2 1 25 := gi_lt_r c_896 gv1 gv2 (by decide)
        obtain ⟨x_898, ex_898⟩ : ∃ y : Int32, y = v1 + (-1) := ⟨_, rfl⟩
        have gx_898 : gi x_898 (-1) 23 := gi_add ex_898 gv1 (gi_c (-1) (-1) (by decide)) (by decide)
        refine lv_iinc (v := x_898) (lv' := [(1, .int x_898), (0, .ref h0), (2, .int v2)]) hx hb dX12_counts_120 hl (k := 1) rfl (by rw [ex_898]; rfl) (by decide) rfl (fun ls hl => ?_)
        refine lv_goto (tgt := 5) hx hb dX12_counts_123 (by decide) ?_
        exact ih.1 x_898 z4 _ _ _ (gi_w gx_898 (by decide)) (by have qgmi_0 := gmi_0.1; have rgmi_0 := gmi_0.2; have qgx_898 := gx_898.1; have rgx_898 := gx_898.2; have igx_898 : x_898.toInt = v1.toInt + (-1) := (by have hcm1 : ((-1) : Int32).toInt = (-1) := (by decide); have h9 := gi_addI ex_898 (by have h1 := gv1.1; have h2 := (gi_c (-1) (-1) (by decide)).1; have h3 := gv1.2; have h4 := (gi_c (-1) (-1) (by decide)).2; omega) (by have h1 := gv1.1; have h2 := (gi_c (-1) (-1) (by decide)).1; have h3 := gv1.2; have h4 := (gi_c (-1) (-1) (by decide)).2; omega); rw [hcm1] at h9; exact h9); have qgv1 := gv1.1; have rgv1 := gv1.2; have y1 := (Int32.lt_iff_toInt_lt.mp c_896); omega) (by have av1 := gv1.1; have bv1 := gv1.2; have av2 := gv2.1; have bv2 := gv2.2; have qgx_898 := gx_898.1; have rgx_898 := gx_898.2; have igx_898 : x_898.toInt = v1.toInt + (-1) := (by have hcm1 : ((-1) : Int32).toInt = (-1) := (by decide); have h9 := gi_addI ex_898 (by have h1 := gv1.1; have h2 := (gi_c (-1) (-1) (by decide)).1; have h3 := gv1.2; have h4 := (gi_c (-1) (-1) (by decide)).2; omega) (by have h1 := gv1.1; have h2 := (gi_c (-1) (-1) (by decide)).1; have h3 := gv1.2; have h4 := (gi_c (-1) (-1) (by decide)).2; omega); rw [hcm1] at h9; exact h9); have qgv1 := gv1.1; have rgv1 := gv1.2; omega) hP hD hS (lv_sub hl [1, 0] rfl)
      · have g_899 : gi v2 0 24 := gi_le_l (Int32.not_lt.mp c_896) gv2 gv1
        refine lv_aload_n hx hb dX12_counts_16 rfl (lv_at hl 0 rfl) ?_
        refine va_get (D := (dC, dI)) (ci := 12) (v := .int (mi 37)) (C := RX12) (T := TX12) (N := 57) hx hb hts (fun w h => List.mem_cons_of_mem _ (jnGB_X12 w h)) hown hK hP 0 rfl rfl 37 (by decide) (hts _ (List.mem_cons_of_mem _ mGB_270)) (fun _ h9 => h9) rfl dX12_counts_17 ?_
        refine lv_if_ne (tgt := 41) hx hb dX12_counts_20 (by decide) (fun c_900 => ?_) (fun c_900 => ?_)
        · have g_901 : gi (mi 37) 1 1 := gi_ne_lo c_900 gmi_37 (gi_c 0 0 (by decide)) (by decide)
          refine lv_iconst (v := 0) hx hb dX12_counts_41 (by decide) ?_
          refine lv_istore_n (lv' := [(3, .int 0), (0, .ref h0), (1, .int v1), (2, .int v2)]) hx hb dX12_counts_42 rfl hl (by decide) rfl (fun ls hl => ?_)
          refine lv_iconst (v := 0) hx hb dX12_counts_43 (by decide) ?_
          refine lv_istore (lv' := [(4, .int 0), (3, .int 0), (0, .ref h0), (1, .int v1), (2, .int v2)]) hx hb dX12_counts_44 hl (by decide) rfl (fun ls hl => ?_)
          exact ih.2.2 v1 v2 0 0 z4 _ _ _ gv1 g_899 (gi_w (gi_c 0 0 (by decide)) (by decide)) (gi_w (gi_c 0 0 (by decide)) (by decide)) (by have qgmi_0 := gmi_0.1; have rgmi_0 := gmi_0.2; have qgv1 := gv1.1; have rgv1 := gv1.2; have y1 := (Int32.le_iff_toInt_le.mp (Int32.not_lt.mp c_896)); omega) (by have qgv1 := gv1.1; have rgv1 := gv1.2; have qgv2 := g_899.1; have rgv2 := g_899.2; have y1 := (Int32.le_iff_toInt_le.mp (Int32.not_lt.mp c_896)); omega) (by have k0 : (0 : Int32).toInt = 0 := (by decide); have av1 := gv1.1; have bv1 := gv1.2; have av2 := gv2.1; have bv2 := gv2.2; have qgv2 := g_899.1; have rgv2 := g_899.2; have qgv1 := gv1.1; have rgv1 := gv1.2; omega) hP hD hS (lv_sub hl [2, 3, 4, 1, 0] rfl)
        · have g_902 : gi (mi 37) 0 0 := gi_eq c_900 (gi_c 0 0 (by decide))
          refine lv_aload_n hx hb dX12_counts_23 rfl (lv_at hl 0 rfl) ?_
          refine lv_iload_n hx hb dX12_counts_24 rfl (lv_at hl 1 rfl) ?_
          refine lv_bipush (v := 29) hx hb dX12_counts_25 (by decide) ?_
          refine lv_iload_n hx hb dX12_counts_27 rfl (lv_at hl 1 rfl) ?_
          refine lv_imul hx hb dX12_counts_28 ?_
          refine lv_topi (fun x_903 ex_903 => ?_)
          have gx_903 : gi x_903 0 696 := gi_mul ex_903 (gi_c 29 29 (by decide)) gv1 (by decide)
          refine lv_iload_n hx hb dX12_counts_29 rfl (lv_at hl 2 rfl) ?_
          refine lv_iadd hx hb dX12_counts_30 ?_
          refine lv_topi (fun x_904 ex_904 => ?_)
          have gx_904 : gi x_904 0 720 := gi_add ex_904 gx_903 g_899 (by decide)
          have hPc := hP.sub (ws' := [(h0, .inr (12, fsMM mi mr)), ((mr 14), .inl (km_must, 25, .inl fm_must)), ((mr 15), .inl (km_least, 25, .inl fm_least)), ((mr 16), .inl (km_pin, 25, .inl fm_pin))]) [0, 1, 2, 3] rfl
          have hKc := hK.sub (tys' := [(km_must, .int), (km_least, .int), (km_pin, .int)]) [0, 1, 2] rfl
          refine va_calli (va_runV (As := [.int v1, .int x_904]) (rest := []) ⟨hx, hb, hml, hown, hts⟩ (sX12_isOpen l dC dI h0 mi mr km_must fm_must km_least fm_least km_pin fm_pin v1 x_904 gmi_0 gmi_1 gmi_2 gmi_4 gmi_7 gmi_10 gmi_17 gmi_23 gmi_24 gmi_26 gmi_29 gmi_30 gmi_33 (gi_w g_902 (by decide)) gmi_41 gmi_50 gmi_51 gmi_56 gv1) (cwV 2 hts (gz_gV mGB_303 mGB_304 mGB_305 mGB_1 mGB_306 goodGB) rfl rfl rfl (by decide +kernel) ⟨Nat.le_trans (Nat.le_of_ble_eq_true rfl) hRf, Nat.le_trans (Nat.le_of_ble_eq_true rfl) hRl⟩) ⟨fun a U g mk q => by obtain ⟨q0, qP, qK⟩ := q; exact ⟨q0, qP, va_K.moved (u := U) (U := U.calling g mk a) (Vm.Alike.refl U.vm) qK⟩, va_recv hKc hPc (ci := 12) (q0 := 0) rfl rfl, fun U hU hW => ⟨rfl, by rw [hU]; exact hPc, va_K.moved hW.alike hKc⟩⟩ rfl rfl hl.1 rfl (lv_room (Nat.le_of_ble_eq_true rfl)) dX12_counts_31 ⟨hRc, hRs⟩) hS (fun q _ h => h.elim) (fun q h => h.elim) (fun r_905 u t H1 locs ht hvm hw hB hz1 hk1 hS => ?_)
          have hP := gz_keep hP hk1
          generalize H1 = H at hP hS ⊢
          have gr_905 : gi r_905 0 1 := hw
          refine lv_if_eq (tgt := 41) hx hb dX12_counts_34 (by decide) (fun c_906 => ?_) (fun c_906 => ?_)
          · have g_907 : gi r_905 0 0 := gi_eq c_906 (gi_c 0 0 (by decide))
            refine lv_iconst (v := 0) hx hb dX12_counts_41 (by decide) ?_
            refine lv_istore_n (lv' := [(3, .int 0), (0, .ref h0), (1, .int v1), (2, .int v2)]) hx hb dX12_counts_42 rfl hl (by decide) rfl (fun ls hl => ?_)
            refine lv_iconst (v := 0) hx hb dX12_counts_43 (by decide) ?_
            refine lv_istore (lv' := [(4, .int 0), (3, .int 0), (0, .ref h0), (1, .int v1), (2, .int v2)]) hx hb dX12_counts_44 hl (by decide) rfl (fun ls hl => ?_)
            exact ih.2.2 v1 v2 0 0 z4 _ _ _ gv1 g_899 (gi_w (gi_c 0 0 (by decide)) (by decide)) (gi_w (gi_c 0 0 (by decide)) (by decide)) (by have qgmi_0 := gmi_0.1; have rgmi_0 := gmi_0.2; have qgv1 := gv1.1; have rgv1 := gv1.2; have y1 := (Int32.le_iff_toInt_le.mp (Int32.not_lt.mp c_896)); omega) (by have qgv1 := gv1.1; have rgv1 := gv1.2; have qgv2 := g_899.1; have rgv2 := g_899.2; have y1 := (Int32.le_iff_toInt_le.mp (Int32.not_lt.mp c_896)); omega) (by have k0 : (0 : Int32).toInt = 0 := (by decide); have av1 := gv1.1; have bv1 := gv1.2; have av2 := gv2.1; have bv2 := gv2.2; have qgv2 := g_899.1; have rgv2 := g_899.2; have qgv1 := gv1.1; have rgv1 := gv1.2; omega) hP hD hS (lv_sub hl [2, 3, 4, 1, 0] rfl)
          · have g_908 : gi r_905 1 1 := gi_ne_lo c_906 gr_905 (gi_c 0 0 (by decide)) (by decide)
            refine lv_iconst (v := 1) hx hb dX12_counts_37 (by decide) ?_
            refine lv_goto (tgt := 42) hx hb dX12_counts_38 (by decide) ?_
            refine lv_istore_n (lv' := [(3, .int 1), (0, .ref h0), (1, .int v1), (2, .int v2)]) hx hb dX12_counts_42 rfl hl (by decide) rfl (fun ls hl => ?_)
            refine lv_iconst (v := 0) hx hb dX12_counts_43 (by decide) ?_
            refine lv_istore (lv' := [(4, .int 0), (3, .int 1), (0, .ref h0), (1, .int v1), (2, .int v2)]) hx hb dX12_counts_44 hl (by decide) rfl (fun ls hl => ?_)
            exact ih.2.2 v1 v2 1 0 z4 _ _ _ gv1 g_899 (gi_w (gi_c 1 1 (by decide)) (by decide)) (gi_w (gi_c 0 0 (by decide)) (by decide)) (by have qgmi_0 := gmi_0.1; have rgmi_0 := gmi_0.2; have qgv1 := gv1.1; have rgv1 := gv1.2; have y1 := (Int32.le_iff_toInt_le.mp (Int32.not_lt.mp c_896)); omega) (by have qgv1 := gv1.1; have rgv1 := gv1.2; have qgv2 := g_899.1; have rgv2 := g_899.2; have y1 := (Int32.le_iff_toInt_le.mp (Int32.not_lt.mp c_896)); omega) (by have k0 : (0 : Int32).toInt = 0 := (by decide); have av1 := gv1.1; have bv1 := gv1.2; have av2 := gv2.1; have bv2 := gv2.2; have qgv2 := g_899.1; have rgv2 := g_899.2; have qgv1 := gv1.1; have rgv1 := gv1.2; omega) hP hD hS (lv_sub hl [2, 3, 4, 1, 0] rfl)
    · intro v1 v2 v3 v4 z4 H locs ls gv1 gv2 gv3 gv4 hle_gv1_gmi_0 hle_gv2_gv1 hmu hP hD hS hl
      refine lv_iload hx hb dX12_counts_46 (lv_at hl 4 rfl) ?_
      refine lv_bipush (v := 10) hx hb dX12_counts_48 (by decide) ?_
      refine lv_icmp_gt (tgt := 114) hx hb dX12_counts_50 (by decide) (fun c_909 => ?_) (fun c_909 => ?_)
      · have g_910 : gi v4 11 11 := gi_lt_r c_909 (gi_c 10 10 (by decide)) gv4 (by decide)
        obtain ⟨x_911, ex_911⟩ : ∃ y : Int32, y = v2 + 1 := ⟨_, rfl⟩
        have gx_911 : gi x_911 1 25 := gi_add ex_911 gv2 (gi_c 1 1 (by decide)) (by decide)
        refine lv_iinc (v := x_911) (lv' := [(2, .int x_911), (0, .ref h0), (1, .int v1), (3, .int v3), (4, .int v4)]) hx hb dX12_counts_114 hl (k := 2) rfl (by rw [ex_911]; rfl) (by decide) rfl (fun ls hl => ?_)
        refine lv_goto (tgt := 11) hx hb dX12_counts_117 (by decide) ?_
        exact ih.2.1 v1 x_911 z4 _ _ _ gv1 (gi_w gx_911 (by decide)) (by have qgmi_0 := gmi_0.1; have rgmi_0 := gmi_0.2; have qgv1 := gv1.1; have rgv1 := gv1.2; omega) (by have av1 := gv1.1; have bv1 := gv1.2; have av2 := gv2.1; have bv2 := gv2.2; have av4 := gv4.1; have bv4 := gv4.2; have qgx_911 := gx_911.1; have rgx_911 := gx_911.2; have igx_911 : x_911.toInt = v2.toInt + 1 := (by have hc1 : (1 : Int32).toInt = 1 := (by decide); have h9 := gi_addI ex_911 (by have h1 := gv2.1; have h2 := (gi_c 1 1 (by decide)).1; have h3 := gv2.2; have h4 := (gi_c 1 1 (by decide)).2; omega) (by have h1 := gv2.1; have h2 := (gi_c 1 1 (by decide)).1; have h3 := gv2.2; have h4 := (gi_c 1 1 (by decide)).2; omega); rw [hc1] at h9; exact h9); have qgv2 := gv2.1; have rgv2 := gv2.2; have qgv1 := gv1.1; have rgv1 := gv1.2; omega) hP hD hS (lv_sub hl [1, 2, 0] rfl)
      · have g_912 : gi v4 0 10 := gi_le_l (Int32.not_lt.mp c_909) gv4 (gi_c 10 10 (by decide))
        refine lv_iload_n hx hb dX12_counts_53 rfl (lv_at hl 3 rfl) ?_
        refine lv_if_ne (tgt := 61) hx hb dX12_counts_54 (by decide) (fun c_913 => ?_) (fun c_913 => ?_)
        · have g_914 : gi v3 1 1 := gi_ne_lo c_913 gv3 (gi_c 0 0 (by decide)) (by decide)
          refine lv_iload_n hx hb dX12_counts_61 rfl (lv_at hl 1 rfl) ?_
          refine lv_aload_n hx hb dX12_counts_62 rfl (lv_at hl 0 rfl) ?_
          refine va_get (D := (dC, dI)) (ci := 12) (v := .int (mi 0)) (C := RX12) (T := TX12) (N := 57) hx hb hts (fun w h => List.mem_cons_of_mem _ (jnGB_X12 w h)) hown hK hP 0 rfl rfl 0 (by decide) (hts _ (List.mem_cons_of_mem _ mGB_103)) (fun _ h9 => h9) rfl dX12_counts_63 ?_
          refine lv_icmp_ne (tgt := 73) hx hb dX12_counts_66 (by decide) (fun c_915 => ?_) (fun c_915 => ?_)
          · have g_916 : gi v1 0 23 := gi_nele hle_gv1_gmi_0 c_915 gv1 gmi_0 (by decide)
            have g_917 : gi v2 0 23 := gi_rel hle_gv2_gv1 gv2 g_916
            refine lv_aload_n hx hb dX12_counts_73 rfl (lv_at hl 0 rfl) ?_
            refine lv_iload_n hx hb dX12_counts_74 rfl (lv_at hl 1 rfl) ?_
            refine lv_iload_n hx hb dX12_counts_75 rfl (lv_at hl 2 rfl) ?_
            refine lv_iload hx hb dX12_counts_76 (lv_at hl 4 rfl) ?_
            refine lv_iconst (v := 0) hx hb dX12_counts_78 (by decide) ?_
            have hPc := hP.sub (ws' := [(h0, .inr (12, fsMM mi mr)), ((mr 17), .inl (km_ways, 6875, .inl z4))]) [0, 4] rfl
            have hKc := hK.sub (tys' := [(km_ways, .int)]) [3] rfl
            refine va_calli (va_runV (As := [.int v1, .int v2, .int v4, .int 0]) (rest := []) ⟨hx, hb, hml, hown, hts⟩ (sX12_waysBy l dC dI h0 mi mr km_ways z4 v1 v2 v4 0 gmi_0 gmi_1 gmi_2 gmi_4 gmi_7 gmi_10 gmi_17 gmi_23 gmi_24 gmi_26 gmi_29 gmi_30 gmi_33 gmi_37 gmi_41 gmi_50 gmi_51 gmi_56 g_916 g_917 (gi_w g_912 (by decide)) (gi_w (gi_c 0 0 (by decide)) (by decide))) (cwV 4 hts (gz_gV mGB_307 mGB_308 mGB_309 mGB_1 mGB_310 goodGB) rfl rfl rfl (by decide +kernel) ⟨Nat.le_trans (Nat.le_of_ble_eq_true rfl) hRf, Nat.le_trans (Nat.le_of_ble_eq_true rfl) hRl⟩) ⟨fun a U g mk q => by obtain ⟨q0, qP, qK⟩ := q; exact ⟨q0, qP, va_K.moved (u := U) (U := U.calling g mk a) (Vm.Alike.refl U.vm) qK⟩, va_recv hKc hPc (ci := 12) (q0 := 0) rfl rfl, fun U hU hW => ⟨rfl, by rw [hU]; exact hPc, va_K.moved hW.alike hKc⟩⟩ rfl rfl hl.1 rfl (lv_room (Nat.le_of_ble_eq_true rfl)) dX12_counts_79 ⟨hRc, hRs⟩) hS (fun q _ h => h.elim) (fun q h => h.elim) (fun r_918 u t H1 locs ht hvm hw hB hz1 hk1 hS => ?_)
            have hP := gz_keep hP hk1
            generalize H1 = H at hP hS ⊢
            refine lv_aload_n hx hb dX12_counts_82 rfl (lv_at hl 0 rfl) ?_
            refine lv_iload_n hx hb dX12_counts_83 rfl (lv_at hl 1 rfl) ?_
            refine lv_iload_n hx hb dX12_counts_84 rfl (lv_at hl 2 rfl) ?_
            refine lv_iload hx hb dX12_counts_85 (lv_at hl 4 rfl) ?_
            refine lv_iconst (v := 1) hx hb dX12_counts_87 (by decide) ?_
            have hPc := hP.sub (ws' := [(h0, .inr (12, fsMM mi mr)), ((mr 17), .inl (km_ways, 6875, .inl z4))]) [0, 4] rfl
            have hKc := hK.sub (tys' := [(km_ways, .int)]) [3] rfl
            refine va_calli (va_runV (As := [.int v1, .int v2, .int v4, .int 1]) (rest := [.int r_918]) ⟨hx, hb, hml, hown, hts⟩ (sX12_waysBy l dC dI h0 mi mr km_ways z4 v1 v2 v4 1 gmi_0 gmi_1 gmi_2 gmi_4 gmi_7 gmi_10 gmi_17 gmi_23 gmi_24 gmi_26 gmi_29 gmi_30 gmi_33 gmi_37 gmi_41 gmi_50 gmi_51 gmi_56 g_916 g_917 (gi_w g_912 (by decide)) (gi_w (gi_c 1 1 (by decide)) (by decide))) (cwV 4 hts (gz_gV mGB_307 mGB_308 mGB_309 mGB_1 mGB_310 goodGB) rfl rfl rfl (by decide +kernel) ⟨Nat.le_trans (Nat.le_of_ble_eq_true rfl) hRf, Nat.le_trans (Nat.le_of_ble_eq_true rfl) hRl⟩) ⟨fun a U g mk q => by obtain ⟨q0, qP, qK⟩ := q; exact ⟨q0, qP, va_K.moved (u := U) (U := U.calling g mk a) (Vm.Alike.refl U.vm) qK⟩, va_recv hKc hPc (ci := 12) (q0 := 0) rfl rfl, fun U hU hW => ⟨rfl, by rw [hU]; exact hPc, va_K.moved hW.alike hKc⟩⟩ rfl rfl hl.1 rfl (lv_room (Nat.le_of_ble_eq_true rfl)) dX12_counts_88 ⟨hRc, hRs⟩) hS (fun q _ h => h.elim) (fun q h => h.elim) (fun r_919 u t H1 locs ht hvm hw hB hz1 hk1 hS => ?_)
            have hP := gz_keep hP hk1
            generalize H1 = H at hP hS ⊢
            refine lv_iadd hx hb dX12_counts_91 ?_
            refine lv_topi (fun x_920 ex_920 => ?_)
            refine lv_istore (lv' := [(5, .int x_920), (0, .ref h0), (1, .int v1), (2, .int v2), (3, .int v3), (4, .int v4)]) hx hb dX12_counts_92 hl (by decide) rfl (fun ls hl => ?_)
            refine lv_aload_n hx hb dX12_counts_94 rfl (lv_at hl 1 rfl) ?_
            refine va_get (D := (dC, dI)) (ci := 12) (v := .ref (mr 17)) (C := RX12) (T := TX12) (N := 57) hx hb hts (fun w h => List.mem_cons_of_mem _ (jnGB_X12 w h)) hown hK hP 0 rfl rfl 38 (by decide) (hts _ (List.mem_cons_of_mem _ mGB_29)) (fun _ h9 => h9) rfl dX12_counts_95 ?_
            refine lv_iload_n hx hb dX12_counts_98 rfl (lv_at hl 2 rfl) ?_
            refine lv_iload_n hx hb dX12_counts_99 rfl (lv_at hl 3 rfl) ?_
            refine lv_iload hx hb dX12_counts_100 (lv_at hl 5 rfl) ?_
            have hPc := hP.sub (ws' := []) [] rfl
            have hKc := hK.sub (tys' := []) [] rfl
            refine va_calli (va_runS (As := [.int v1, .int v2, .int v4]) (rest := [.ref (mr 17)]) ⟨hx, hb, hml, hown, hts⟩ (sX12_placeOf l dC dI v1 v2 v4 (gi_w g_916 (by decide)) (gi_w g_917 (by decide)) g_912) (cwS 3 hts (gz_gS mGB_315 mGB_316 mGB_1 mGB_317 goodGB) rfl rfl rfl (by decide +kernel) ⟨Nat.le_trans (Nat.le_of_ble_eq_true rfl) hRf, Nat.le_trans (Nat.le_of_ble_eq_true rfl) hRl⟩) ⟨fun a U g mk q => by obtain ⟨q0, qP, qK⟩ := q; exact ⟨q0, qP, va_K.moved (u := U) (U := U.calling g mk a) (Vm.Alike.refl U.vm) qK⟩, fun U hU hW => ⟨rfl, by rw [hU]; exact hPc, va_K.moved hW.alike hKc⟩⟩ rfl rfl hl.1 rfl (lv_room (Nat.le_of_ble_eq_true rfl)) dX12_counts_102 ⟨hRc, hRs⟩) hS (fun q _ h => h.elim) (fun q h => h.elim) (fun r_921 u t H1 locs ht hvm hw hB hz1 hk1 hS => ?_)
            have hP := gz_keep hP hk1
            generalize H1 = H at hP hS ⊢
            have gr_921 : gi r_921 0 6874 := hw
            refine lv_iload hx hb dX12_counts_105 (lv_at hl 0 rfl) ?_
            refine va_iast hx hb hK hP hD hS 4 3 rfl rfl (gi_in gr_921 (by decide)) dX12_counts_107 (fun H locs hP hD hS => ?_)
            have hP : va_P (dC, dI) vwCl [(h0, .inr (12, fsMM mi mr)), ((mr 14), .inl (km_must, 25, .inl fm_must)), ((mr 15), .inl (km_least, 25, .inl fm_least)), ((mr 16), .inl (km_pin, 25, .inl fm_pin)), ((mr 17), .inl (km_ways, 6875, .inl (upd z4 (r_921 : Int32).toNatClampNeg x_920)))] H := hP
            have hD : va_D A [(h0, .inr (12, fsMM mi mr)), ((mr 14), .inl (km_must, 25, .inl fm_must)), ((mr 15), .inl (km_least, 25, .inl fm_least)), ((mr 16), .inl (km_pin, 25, .inl fm_pin)), ((mr 17), .inl (km_ways, 6875, .inl (upd z4 (r_921 : Int32).toNatClampNeg x_920)))] := hD
            generalize upd z4 (r_921 : Int32).toNatClampNeg x_920 = f_922 at hP hD
            obtain ⟨x_923, ex_923⟩ : ∃ y : Int32, y = v4 + 1 := ⟨_, rfl⟩
            have gx_923 : gi x_923 1 11 := gi_add ex_923 g_912 (gi_c 1 1 (by decide)) (by decide)
            refine lv_iinc (v := x_923) (lv' := [(4, .int x_923), (5, .int x_920), (0, .ref h0), (1, .int v1), (2, .int v2), (3, .int v3)]) hx hb dX12_counts_108 hl (k := 5) rfl (by rw [ex_923]; rfl) (by decide) rfl (fun ls hl => ?_)
            refine lv_goto (tgt := 46) hx hb dX12_counts_111 (by decide) ?_
            exact ih.2.2 v1 v2 v3 x_923 f_922 _ _ _ (gi_w g_916 (by decide)) (gi_w g_917 (by decide)) (gi_w g_914 (by decide)) (gi_w gx_923 (by decide)) (by have qgmi_0 := gmi_0.1; have rgmi_0 := gmi_0.2; have qgv1 := g_916.1; have rgv1 := g_916.2; omega) (by have qgv1 := g_916.1; have rgv1 := g_916.2; have qgv2 := g_917.1; have rgv2 := g_917.2; omega) (by have av1 := gv1.1; have bv1 := gv1.2; have av2 := gv2.1; have bv2 := gv2.2; have av4 := gv4.1; have bv4 := gv4.2; have qgx_923 := gx_923.1; have rgx_923 := gx_923.2; have igx_923 : x_923.toInt = v4.toInt + 1 := (by have hc1 : (1 : Int32).toInt = 1 := (by decide); have h9 := gi_addI ex_923 (by have h1 := g_912.1; have h2 := (gi_c 1 1 (by decide)).1; have h3 := g_912.2; have h4 := (gi_c 1 1 (by decide)).2; omega) (by have h1 := g_912.1; have h2 := (gi_c 1 1 (by decide)).1; have h3 := g_912.2; have h4 := (gi_c 1 1 (by decide)).2; omega); rw [hc1] at h9; exact h9); have qgv4 := g_912.1; have rgv4 := g_912.2; have qgv2 := g_917.1; have rgv2 := g_917.2; have qgv1 := g_916.1; have rgv1 := g_916.2; omega) hP hD hS (lv_sub hl [2, 3, 4, 5, 0] rfl)
          · refine lv_iconst (v := 1) hx hb dX12_counts_69 (by decide) ?_
            refine lv_goto (tgt := 92) hx hb dX12_counts_70 (by decide) ?_
            refine lv_istore (lv' := [(5, .int 1), (0, .ref h0), (1, .int v1), (2, .int v2), (3, .int v3), (4, .int v4)]) hx hb dX12_counts_92 hl (by decide) rfl (fun ls hl => ?_)
            refine lv_aload_n hx hb dX12_counts_94 rfl (lv_at hl 1 rfl) ?_
            refine va_get (D := (dC, dI)) (ci := 12) (v := .ref (mr 17)) (C := RX12) (T := TX12) (N := 57) hx hb hts (fun w h => List.mem_cons_of_mem _ (jnGB_X12 w h)) hown hK hP 0 rfl rfl 38 (by decide) (hts _ (List.mem_cons_of_mem _ mGB_29)) (fun _ h9 => h9) rfl dX12_counts_95 ?_
            refine lv_iload_n hx hb dX12_counts_98 rfl (lv_at hl 2 rfl) ?_
            refine lv_iload_n hx hb dX12_counts_99 rfl (lv_at hl 3 rfl) ?_
            refine lv_iload hx hb dX12_counts_100 (lv_at hl 5 rfl) ?_
            have hPc := hP.sub (ws' := []) [] rfl
            have hKc := hK.sub (tys' := []) [] rfl
            refine va_calli (va_runS (As := [.int v1, .int v2, .int v4]) (rest := [.ref (mr 17)]) ⟨hx, hb, hml, hown, hts⟩ (sX12_placeOf l dC dI v1 v2 v4 gv1 gv2 g_912) (cwS 3 hts (gz_gS mGB_315 mGB_316 mGB_1 mGB_317 goodGB) rfl rfl rfl (by decide +kernel) ⟨Nat.le_trans (Nat.le_of_ble_eq_true rfl) hRf, Nat.le_trans (Nat.le_of_ble_eq_true rfl) hRl⟩) ⟨fun a U g mk q => by obtain ⟨q0, qP, qK⟩ := q; exact ⟨q0, qP, va_K.moved (u := U) (U := U.calling g mk a) (Vm.Alike.refl U.vm) qK⟩, fun U hU hW => ⟨rfl, by rw [hU]; exact hPc, va_K.moved hW.alike hKc⟩⟩ rfl rfl hl.1 rfl (lv_room (Nat.le_of_ble_eq_true rfl)) dX12_counts_102 ⟨hRc, hRs⟩) hS (fun q _ h => h.elim) (fun q h => h.elim) (fun r_924 u t H1 locs ht hvm hw hB hz1 hk1 hS => ?_)
            have hP := gz_keep hP hk1
            generalize H1 = H at hP hS ⊢
            have gr_924 : gi r_924 0 6874 := hw
            refine lv_iload hx hb dX12_counts_105 (lv_at hl 0 rfl) ?_
            refine va_iast hx hb hK hP hD hS 4 3 rfl rfl (gi_in gr_924 (by decide)) dX12_counts_107 (fun H locs hP hD hS => ?_)
            have hP : va_P (dC, dI) vwCl [(h0, .inr (12, fsMM mi mr)), ((mr 14), .inl (km_must, 25, .inl fm_must)), ((mr 15), .inl (km_least, 25, .inl fm_least)), ((mr 16), .inl (km_pin, 25, .inl fm_pin)), ((mr 17), .inl (km_ways, 6875, .inl (upd z4 (r_924 : Int32).toNatClampNeg 1)))] H := hP
            have hD : va_D A [(h0, .inr (12, fsMM mi mr)), ((mr 14), .inl (km_must, 25, .inl fm_must)), ((mr 15), .inl (km_least, 25, .inl fm_least)), ((mr 16), .inl (km_pin, 25, .inl fm_pin)), ((mr 17), .inl (km_ways, 6875, .inl (upd z4 (r_924 : Int32).toNatClampNeg 1)))] := hD
            generalize upd z4 (r_924 : Int32).toNatClampNeg 1 = f_925 at hP hD
            obtain ⟨x_926, ex_926⟩ : ∃ y : Int32, y = v4 + 1 := ⟨_, rfl⟩
            have gx_926 : gi x_926 1 11 := gi_add ex_926 g_912 (gi_c 1 1 (by decide)) (by decide)
            refine lv_iinc (v := x_926) (lv' := [(4, .int x_926), (5, .int 1), (0, .ref h0), (1, .int v1), (2, .int v2), (3, .int v3)]) hx hb dX12_counts_108 hl (k := 5) rfl (by rw [ex_926]; rfl) (by decide) rfl (fun ls hl => ?_)
            refine lv_goto (tgt := 46) hx hb dX12_counts_111 (by decide) ?_
            exact ih.2.2 v1 v2 v3 x_926 f_925 _ _ _ gv1 gv2 (gi_w g_914 (by decide)) (gi_w gx_926 (by decide)) (by have qgmi_0 := gmi_0.1; have rgmi_0 := gmi_0.2; have qgv1 := gv1.1; have rgv1 := gv1.2; omega) (by have qgv1 := gv1.1; have rgv1 := gv1.2; have qgv2 := gv2.1; have rgv2 := gv2.2; omega) (by have av1 := gv1.1; have bv1 := gv1.2; have av2 := gv2.1; have bv2 := gv2.2; have av4 := gv4.1; have bv4 := gv4.2; have qgx_926 := gx_926.1; have rgx_926 := gx_926.2; have igx_926 : x_926.toInt = v4.toInt + 1 := (by have hc1 : (1 : Int32).toInt = 1 := (by decide); have h9 := gi_addI ex_926 (by have h1 := g_912.1; have h2 := (gi_c 1 1 (by decide)).1; have h3 := g_912.2; have h4 := (gi_c 1 1 (by decide)).2; omega) (by have h1 := g_912.1; have h2 := (gi_c 1 1 (by decide)).1; have h3 := g_912.2; have h4 := (gi_c 1 1 (by decide)).2; omega); rw [hc1] at h9; exact h9); have qgv4 := g_912.1; have rgv4 := g_912.2; have qgv2 := gv2.1; have rgv2 := gv2.2; have qgv1 := gv1.1; have rgv1 := gv1.2; omega) hP hD hS (lv_sub hl [2, 3, 4, 5, 0] rfl)
        · have g_927 : gi v3 0 0 := gi_eq c_913 (gi_c 0 0 (by decide))
          refine lv_iconst (v := 0) hx hb dX12_counts_57 (by decide) ?_
          refine lv_goto (tgt := 92) hx hb dX12_counts_58 (by decide) ?_
          refine lv_istore (lv' := [(5, .int 0), (0, .ref h0), (1, .int v1), (2, .int v2), (3, .int v3), (4, .int v4)]) hx hb dX12_counts_92 hl (by decide) rfl (fun ls hl => ?_)
          refine lv_aload_n hx hb dX12_counts_94 rfl (lv_at hl 1 rfl) ?_
          refine va_get (D := (dC, dI)) (ci := 12) (v := .ref (mr 17)) (C := RX12) (T := TX12) (N := 57) hx hb hts (fun w h => List.mem_cons_of_mem _ (jnGB_X12 w h)) hown hK hP 0 rfl rfl 38 (by decide) (hts _ (List.mem_cons_of_mem _ mGB_29)) (fun _ h9 => h9) rfl dX12_counts_95 ?_
          refine lv_iload_n hx hb dX12_counts_98 rfl (lv_at hl 2 rfl) ?_
          refine lv_iload_n hx hb dX12_counts_99 rfl (lv_at hl 3 rfl) ?_
          refine lv_iload hx hb dX12_counts_100 (lv_at hl 5 rfl) ?_
          have hPc := hP.sub (ws' := []) [] rfl
          have hKc := hK.sub (tys' := []) [] rfl
          refine va_calli (va_runS (As := [.int v1, .int v2, .int v4]) (rest := [.ref (mr 17)]) ⟨hx, hb, hml, hown, hts⟩ (sX12_placeOf l dC dI v1 v2 v4 gv1 gv2 g_912) (cwS 3 hts (gz_gS mGB_315 mGB_316 mGB_1 mGB_317 goodGB) rfl rfl rfl (by decide +kernel) ⟨Nat.le_trans (Nat.le_of_ble_eq_true rfl) hRf, Nat.le_trans (Nat.le_of_ble_eq_true rfl) hRl⟩) ⟨fun a U g mk q => by obtain ⟨q0, qP, qK⟩ := q; exact ⟨q0, qP, va_K.moved (u := U) (U := U.calling g mk a) (Vm.Alike.refl U.vm) qK⟩, fun U hU hW => ⟨rfl, by rw [hU]; exact hPc, va_K.moved hW.alike hKc⟩⟩ rfl rfl hl.1 rfl (lv_room (Nat.le_of_ble_eq_true rfl)) dX12_counts_102 ⟨hRc, hRs⟩) hS (fun q _ h => h.elim) (fun q h => h.elim) (fun r_928 u t H1 locs ht hvm hw hB hz1 hk1 hS => ?_)
          have hP := gz_keep hP hk1
          generalize H1 = H at hP hS ⊢
          have gr_928 : gi r_928 0 6874 := hw
          refine lv_iload hx hb dX12_counts_105 (lv_at hl 0 rfl) ?_
          refine va_iast hx hb hK hP hD hS 4 3 rfl rfl (gi_in gr_928 (by decide)) dX12_counts_107 (fun H locs hP hD hS => ?_)
          have hP : va_P (dC, dI) vwCl [(h0, .inr (12, fsMM mi mr)), ((mr 14), .inl (km_must, 25, .inl fm_must)), ((mr 15), .inl (km_least, 25, .inl fm_least)), ((mr 16), .inl (km_pin, 25, .inl fm_pin)), ((mr 17), .inl (km_ways, 6875, .inl (upd z4 (r_928 : Int32).toNatClampNeg 0)))] H := hP
          have hD : va_D A [(h0, .inr (12, fsMM mi mr)), ((mr 14), .inl (km_must, 25, .inl fm_must)), ((mr 15), .inl (km_least, 25, .inl fm_least)), ((mr 16), .inl (km_pin, 25, .inl fm_pin)), ((mr 17), .inl (km_ways, 6875, .inl (upd z4 (r_928 : Int32).toNatClampNeg 0)))] := hD
          generalize upd z4 (r_928 : Int32).toNatClampNeg 0 = f_929 at hP hD
          obtain ⟨x_930, ex_930⟩ : ∃ y : Int32, y = v4 + 1 := ⟨_, rfl⟩
          have gx_930 : gi x_930 1 11 := gi_add ex_930 g_912 (gi_c 1 1 (by decide)) (by decide)
          refine lv_iinc (v := x_930) (lv' := [(4, .int x_930), (5, .int 0), (0, .ref h0), (1, .int v1), (2, .int v2), (3, .int v3)]) hx hb dX12_counts_108 hl (k := 5) rfl (by rw [ex_930]; rfl) (by decide) rfl (fun ls hl => ?_)
          refine lv_goto (tgt := 46) hx hb dX12_counts_111 (by decide) ?_
          exact ih.2.2 v1 v2 v3 x_930 f_929 _ _ _ gv1 gv2 (gi_w g_927 (by decide)) (gi_w gx_930 (by decide)) (by have qgmi_0 := gmi_0.1; have rgmi_0 := gmi_0.2; have qgv1 := gv1.1; have rgv1 := gv1.2; omega) (by have qgv1 := gv1.1; have rgv1 := gv1.2; have qgv2 := gv2.1; have rgv2 := gv2.2; omega) (by have av1 := gv1.1; have bv1 := gv1.2; have av2 := gv2.1; have bv2 := gv2.2; have av4 := gv4.1; have bv4 := gv4.2; have qgx_930 := gx_930.1; have rgx_930 := gx_930.2; have igx_930 : x_930.toInt = v4.toInt + 1 := (by have hc1 : (1 : Int32).toInt = 1 := (by decide); have h9 := gi_addI ex_930 (by have h1 := g_912.1; have h2 := (gi_c 1 1 (by decide)).1; have h3 := g_912.2; have h4 := (gi_c 1 1 (by decide)).2; omega) (by have h1 := g_912.1; have h2 := (gi_c 1 1 (by decide)).1; have h3 := g_912.2; have h4 := (gi_c 1 1 (by decide)).2; omega); rw [hc1] at h9; exact h9); have qgv4 := g_912.1; have rgv4 := g_912.2; have qgv2 := gv2.1; have rgv2 := gv2.2; have qgv1 := gv1.1; have rgv1 := gv1.2; omega) hP hD hS (lv_sub hl [2, 3, 4, 5, 0] rfl)
set_option maxHeartbeats 4000000 in
set_option maxRecDepth 100000 in
theorem sX12_counts (l : Launch) (dC : Nat → ClassId) (dI : Nat → Nat → Nat) (sz : Nat) (h0 : Nat) (mi : Nat → Int32) (mr : Nat → Nat) (km_must : ClassId) (fm_must : Nat → Int32) (km_least : ClassId) (fm_least : Nat → Int32) (km_pin : ClassId) (fm_pin : Nat → Int32) (km_ways : ClassId) (fm_ways : Nat → Int32) (gmi_0 : gi (mi 0) 0 24) (gmi_1 : gi (mi 1) 0 5) (gmi_2 : gi (mi 2) 0 5) (gmi_4 : gi (mi 4) 0 1) (gmi_7 : gi (mi 7) 0 6) (gmi_10 : gi (mi 10) 0 24) (gmi_17 : gi (mi 17) 0 8) (gmi_23 : gi (mi 23) 0 300) (gmi_24 : gi (mi 24) 0 1) (gmi_26 : gi (mi 26) 0 1600) (gmi_29 : gi (mi 29) 0 1600) (gmi_30 : gi (mi 30) 0 1600) (gmi_33 : gi (mi 33) 0 1) (gmi_37 : gi (mi 37) 0 1) (gmi_41 : gi (mi 41) 0 24) (gmi_50 : gi (mi 50) 0 1) (gmi_51 : gi (mi 51) 0 1) (gmi_56 : gi (mi 56) 0 80) : Met l yX12_counts (.code yX12_counts cX12_counts 6 (some .int) :: wsGB) ({ frames := 2, cells := 0, slots := 0, locals := 48 }) (va_Pc [.ref h0] (fun U => U.heap.size = sz ∧ va_P (dC, dI) vwCl [(h0, .inr (12, fsMM mi mr)), ((mr 14), .inl (km_must, 25, .inl fm_must)), ((mr 15), .inl (km_least, 25, .inl fm_least)), ((mr 16), .inl (km_pin, 25, .inl fm_pin)), ((mr 17), .inl (km_ways, 6875, .inl fm_ways))] U.heap ∧ va_K (dC, dI) vwCl [(km_must, .int), (km_least, .int), (km_pin, .int), (km_ways, .int)] U ∧ va_D (fun _ => True) [(h0, .inr (12, fsMM mi mr)), ((mr 14), .inl (km_must, 25, .inl fm_must)), ((mr 15), .inl (km_least, 25, .inl fm_least)), ((mr 16), .inl (km_pin, 25, .inl fm_pin)), ((mr 17), .inl (km_ways, 6875, .inl fm_ways))])) (va_Qi (fun (r : Int32) (u : Unit) => gi r (-2147483648) 2147483647) (fun _ t => ∃ (z4 : Nat → Int32), va_P (dC, dI) vwCl [(h0, .inr (12, fsMM mi mr)), ((mr 14), .inl (km_must, 25, .inl fm_must)), ((mr 15), .inl (km_least, 25, .inl fm_least)), ((mr 16), .inl (km_pin, 25, .inl fm_pin)), ((mr 17), .inl (km_ways, 6875, .inl z4))] t.heap ∧ va_D (va_A [(h0, .inr (12, fsMM mi mr)), ((mr 14), .inl (km_must, 25, .inl fm_must)), ((mr 15), .inl (km_least, 25, .inl fm_least)), ((mr 16), .inl (km_pin, 25, .inl fm_pin)), ((mr 17), .inl (km_ways, 6875, .inl fm_ways))] sz) [(h0, .inr (12, fsMM mi mr)), ((mr 14), .inl (km_must, 25, .inl fm_must)), ((mr 15), .inl (km_least, 25, .inl fm_least)), ((mr 16), .inl (km_pin, 25, .inl fm_pin)), ((mr 17), .inl (km_ways, 6875, .inl z4))]) (va_A [(h0, .inr (12, fsMM mi mr)), ((mr 14), .inl (km_must, 25, .inl fm_must)), ((mr 15), .inl (km_least, 25, .inl fm_least)), ((mr 16), .inl (km_pin, 25, .inl fm_pin)), ((mr 17), .inl (km_ways, 6875, .inl fm_ways))] sz)) 0 0 (va_A [(h0, .inr (12, fsMM mi mr)), ((mr 14), .inl (km_must, 25, .inl fm_must)), ((mr 15), .inl (km_least, 25, .inl fm_least)), ((mr 16), .inl (km_pin, 25, .inl fm_pin)), ((mr 17), .inl (km_ways, 6875, .inl fm_ways))] sz) := by
  refine Met.ofW (cc := cX12_counts) (maxL := 6) (ret := (some .int)) (by decide) rfl ?_
  intro p e s m args below meth c s₁ B hml hv
  obtain ⟨rfl, hsz, hP, hK, hD0⟩ := hv
  have hx := B.exec
  have hb := B.bytes
  have hr := B.returns
  have hts := atoms_spec (ws := (.code yX12_counts cX12_counts 6 (some .int) :: wsGB)) B.pre
  have hown : s.vm.findClass RX12 = some m.cls := findClass_of_methodNamed B.named
  have hlocks := B.notSynchronized
  subst hsz
  have hD := hD0.self (sz := s.heap.size)
  generalize hAe : va_A [(h0, .inr (12, fsMM mi mr)), ((mr 14), .inl (km_must, 25, .inl fm_must)), ((mr 15), .inl (km_least, 25, .inl fm_least)), ((mr 16), .inl (km_pin, 25, .inl fm_pin)), ((mr 17), .inl (km_ways, 6875, .inl fm_ways))] s.heap.size = A at hD ⊢
  have hA : ∀ q : Nat, s.heap.size ≤ q → A q := fun q h => by rw [← hAe]; exact Or.inr h
  have hS : va_S A s.heap s.heap [] := va_S.rf
  have hl := lv_entry ([.ref h0]) (n := 6) (Nat.le_of_ble_eq_true rfl)
  rw [lg_entry_eq]
  generalize (lg_sl ([.ref h0]) ++ List.replicate (6 - (lg_sl ([.ref h0])).length) Slot.unset).toArray = ls at hl ⊢
  have hl : lv_has ls 6 [(0, .ref h0)] := hl
  refine lv_aload_n hx hb dX12_counts_0 rfl (lv_at hl 0 rfl) ?_
  refine va_get (D := (dC, dI)) (ci := 12) (v := .int (mi 0)) (C := RX12) (T := TX12) (N := 57) hx hb hts (fun w h => List.mem_cons_of_mem _ (jnGB_X12 w h)) hown hK hP 0 rfl rfl 0 (by decide) (hts _ (List.mem_cons_of_mem _ mGB_103)) (fun _ h9 => h9) rfl dX12_counts_1 ?_
  refine lv_istore_n (lv' := [(1, .int (mi 0)), (0, .ref h0)]) hx hb dX12_counts_4 rfl hl (by decide) rfl (fun ls hl => ?_)
  refine (lp_sX12_counts h0 mi mr km_must fm_must km_least fm_least km_pin fm_pin km_ways fm_ways gmi_0 gmi_1 gmi_2 gmi_4 gmi_7 gmi_10 gmi_17 gmi_23 gmi_24 gmi_26 gmi_29 gmi_30 gmi_33 gmi_37 gmi_41 gmi_50 gmi_51 gmi_56 hx hb hml hown hts hK hA (Nat.le_of_ble_eq_true rfl) (Nat.le_of_ble_eq_true rfl) (Nat.zero_le _) (Nat.zero_le _) (fun v z4 H locs ls hP hD hS hl => ?_) 20476).1 (mi 0) fm_ways _ _ _ (gi_w gmi_0 (by decide)) (by have qgmi_0 := gmi_0.1; have rgmi_0 := gmi_0.2; omega) (by have qgmi_0 := gmi_0.1; have rgmi_0 := gmi_0.2; omega) hP hD hS (lv_sub hl [1, 0] rfl)
  · skip
    exact W.iret (v := v) hx hb hr (fun t ht hW => ⟨⟨v, (), rfl, (gi_any v), z4, by rw [ht]; exact hP, hD⟩, hS.F ht⟩) hS.2.2 dX12_counts_132
