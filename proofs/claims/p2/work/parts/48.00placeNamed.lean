set_option maxHeartbeats 4000000 in
set_option maxRecDepth 100000 in
theorem lp_sX0_placeNamedF {p : Program} {l : Launch} {e : Env} {R : Room} {s : State} {m : MethodId} {args : Array Value} {below : List Frame} {meth : Method} {c : Code} {Q : State → Prop} {A : Nat → Prop} {cells slots : Nat} {dC : Nat → ClassId} {dI : Nat → Nat → Nat} (h0 : Nat) (pl : Nat) (amonths : Int32) (afull : Int32) (alean : Int32) (alines : Int32) (ahasMoon : Int32) (amoonStart : Int32) (amoonStep : Int32) (aplaceCount : Int32) (areportCount : Int32) (adeedCount : Int32) (re : Nat) (de : Nat) (kpl : ClassId) (pa : Nat → Nat) (p_name : Nat → Int32) (p_trust : Nat → Int32) (p1 : Int32) (gamonths : gi amonths 0 24) (gafull : gi afull 0 5) (galean : gi alean 0 5) (gahasMoon : gi ahasMoon 0 1) (gaplaceCount : gi aplaceCount 0 6) (gareportCount : gi areportCount 0 24) (gadeedCount : gi adeedCount 0 8) (hx : p.tables.exec = Jvm.exec) (hb : c.code = cX0_placeNamed) (hml : c.maxLocals = 3) (hown : s.vm.findClass RX0 = some m.cls) (hts : ∀ w ∈ ((.code yX0_placeNamed cX0_placeNamed 3 (some .int) :: wsGA) : List Cond), w.before args s = true) (hK : va_K (dC, dI) vwCl [(kpl, .object RX5)] s) (hz : nzA s) (hF0 : va_P (dC, dI) vwCl (gz_fam 6 pa 5 (fun i => [.int (p_name i), .int (p_trust i)])) s.heap) (hFA0 : gz_ap A (gz_fam 6 pa 5 (fun i => [.int (p_name i), .int (p_trust i)]))) (hRf : 0 ≤ R.frames) (hRl : 0 ≤ R.locals) (hRc : cells ≤ R.cells) (hRs : slots ≤ R.slots) (kr32 : ∀ (v : Int32) (H : Heap) (locs : List Loc) (ls : Array Slot), gi v (-1) (-1) → v.toInt = pnF p_name aplaceCount p1 → va_P (dC, dI) vwCl [(h0, .inr (0, [.int amonths, .int afull, .int alean, .int alines, .int ahasMoon, .int amoonStart, .int amoonStep, .int aplaceCount, .int areportCount, .int adeedCount, .ref pl, .ref re, .ref de])), (pl, .inl (kpl, 6, .inr (.inr (.inr (.inr (fun i => some (pa i)))))))] H → va_S A s.heap H locs → lv_has ls 3 [] → W p l e R s m args below meth c H locs cells slots Q (F0 m 32 ls [.int v])) (kr24 : ∀ (v : Int32) (H : Heap) (locs : List Loc) (ls : Array Slot), gi v 0 5 → v.toInt = pnF p_name aplaceCount p1 → va_P (dC, dI) vwCl [(h0, .inr (0, [.int amonths, .int afull, .int alean, .int alines, .int ahasMoon, .int amoonStart, .int amoonStep, .int aplaceCount, .int areportCount, .int adeedCount, .ref pl, .ref re, .ref de])), (pl, .inl (kpl, 6, .inr (.inr (.inr (.inr (fun i => some (pa i)))))))] H → va_S A s.heap H locs → lv_has ls 3 [] → W p l e R s m args below meth c H locs cells slots Q (F0 m 24 ls [.int v])) : ∀ z : Nat, (∀ (v2 : Int32) (H : Heap) (locs : List Loc) (ls : Array Slot), gi v2 0 6 → pnF p_name aplaceCount p1 = pnG p_name p1 (aplaceCount.toInt - v2.toInt).toNat (v2.toInt : Int).toNat → 13 + (-2) * v2.toInt < (z : Int) → va_P (dC, dI) vwCl [(h0, .inr (0, [.int amonths, .int afull, .int alean, .int alines, .int ahasMoon, .int amoonStart, .int amoonStep, .int aplaceCount, .int areportCount, .int adeedCount, .ref pl, .ref re, .ref de])), (pl, .inl (kpl, 6, .inr (.inr (.inr (.inr (fun i => some (pa i)))))))] H → va_S A s.heap H locs → lv_has ls 3 [(0, .ref h0), (1, .int p1), (2, .int v2)] → W p l e R s m args below meth c H locs cells slots Q (F0 m 2 ls [])) := by
  intro z
  induction z with
  | zero =>
    intro v2 H locs ls gv2 hinv0 hmu hP hS hl
    exact absurd hmu (by have hv21 := gv2.1; have hv22 := gv2.2; omega)
  | succ z ih =>
      intro v2 H locs ls gv2 hinv0 hmu hP hS hl
      refine lv_iload_n hx hb dX0_placeNamed_2 rfl (lv_at hl 2 rfl) ?_
      refine lv_aload_n hx hb dX0_placeNamed_3 rfl (lv_at hl 0 rfl) ?_
      refine va_get (D := (dC, dI)) (ci := 0) (v := .int aplaceCount) (C := RX0) (T := TX0) (N := 13) hx hb hts (fun w h => List.mem_cons_of_mem _ (jnGA_X0 w h)) hown hK hP 0 rfl rfl 7 (by decide) (hts _ (List.mem_cons_of_mem _ mGA_159)) (fun _ h9 => h9) rfl dX0_placeNamed_4 ?_
      refine lv_icmp_ge (tgt := 31) hx hb dX0_placeNamed_7 (by decide) (fun c_71 => ?_) (fun c_71 => ?_)
      · have hc_72 : aplaceCount.toInt ≤ v2.toInt := by have h9 := Int32.le_iff_toInt_le.mp c_71; exact h9
        refine lv_iconst (v := (-1)) hx hb dX0_placeNamed_31 (by decide) ?_
        exact kr32 (-1) _ _ _ (gi_c (-1) (-1) (by decide)) (show ((-1) : Int) = pnF p_name aplaceCount p1 from by rw [pn_end hinv0 (by have qgv2 := gv2.1; have rgv2 := gv2.2; have qgaplaceCount := gaplaceCount.1; have rgaplaceCount := gaplaceCount.2; omega)]) hP hS (lv_sub hl [] rfl)
      · have hc_73 : v2.toInt < aplaceCount.toInt := by have h9 := Int32.lt_iff_toInt_lt.mp (Int32.not_le.mp c_71); exact h9
        have g_74 : gi v2 0 5 := gi_lt_l (Int32.not_le.mp c_71) gv2 gaplaceCount (by decide)
        have g_75 : gi aplaceCount 1 6 := gi_lt_r (Int32.not_le.mp c_71) gv2 gaplaceCount (by decide)
        refine lv_aload_n hx hb dX0_placeNamed_10 rfl (lv_at hl 0 rfl) ?_
        refine va_get (D := (dC, dI)) (ci := 0) (v := .ref pl) (C := RX0) (T := TX0) (N := 13) hx hb hts (fun w h => List.mem_cons_of_mem _ (jnGA_X0 w h)) hown hK hP 0 rfl rfl 10 (by decide) (hts _ (List.mem_cons_of_mem _ mGA_70)) (fun _ h9 => h9) rfl dX0_placeNamed_11 ?_
        refine lv_iload_n hx hb dX0_placeNamed_14 rfl (lv_at hl 2 rfl) ?_
        refine va_aldq hx hb hK hP 1 0 rfl rfl (gi_in g_74 (by decide)) dX0_placeNamed_15 ?_
        refine W.eq (g2 := F0 m 16 ls [.ref (pa v2.toNatClampNeg)]) rfl ?_
        refine va_get (D := (dC, dI)) (ci := 5) (v := .int (p_name v2.toNatClampNeg)) (C := RX5) (T := TX5) (N := 2) hx hb hts (fun w h => List.mem_cons_of_mem _ (jnGA_X5 w h)) hown hK (gz_ro hF0 hFA0 hS) (v2.toNatClampNeg) (gz_fam_at (gz_clt (gi_in (n := 6) g_74 (by decide)))) rfl 0 (by decide) (hts _ (List.mem_cons_of_mem _ mGA_302)) (fun _ h9 => h9) rfl dX0_placeNamed_16 ?_
        refine lv_topi (fun x_76 ex_76 => ?_)
        refine lv_iload_n hx hb dX0_placeNamed_19 rfl (lv_at hl 1 rfl) ?_
        refine lv_icmp_ne (tgt := 25) hx hb dX0_placeNamed_20 (by decide) (fun c_77 => ?_) (fun c_77 => ?_)
        · have hc_78 : x_76.toInt ≠ p1.toInt := fun h9 => c_77 (Int32.toInt_inj.mp (by exact h9))
          obtain ⟨x_79, ex_79⟩ : ∃ y : Int32, y = v2 + 1 := ⟨_, rfl⟩
          have gx_79 : gi x_79 1 6 := gi_add ex_79 g_74 (gi_c 1 1 (by decide)) (by decide)
          refine lv_iinc (v := x_79) (lv' := [(2, .int x_79), (0, .ref h0), (1, .int p1)]) hx hb dX0_placeNamed_25 hl (k := 2) rfl (by rw [ex_79]; rfl) (by decide) rfl (fun ls hl => ?_)
          refine lv_goto (tgt := 2) hx hb dX0_placeNamed_28 (by decide) ?_
          exact ih x_79 _ _ _ (gi_w gx_79 (by decide)) (show pnF p_name aplaceCount p1 = pnG p_name p1 (aplaceCount.toInt - x_79.toInt).toNat (x_79.toInt : Int).toNat from by exact pn_step hinv0 (by have qgv2 := g_74.1; have rgv2 := g_74.2; have qgaplaceCount := g_75.1; have rgaplaceCount := g_75.2; omega) (by have qgv2 := g_74.1; have rgv2 := g_74.2; have qgaplaceCount := g_75.1; have rgaplaceCount := g_75.2; omega) (fun h9 => c_77 (ex_76.trans h9)) (by have qgx_79 := gx_79.1; have rgx_79 := gx_79.2; have igx_79 : x_79.toInt = v2.toInt + 1 := (by have hc1 : (1 : Int32).toInt = 1 := (by decide); have h9 := gi_addI ex_79 (by have h1 := g_74.1; have h2 := (gi_c 1 1 (by decide)).1; have h3 := g_74.2; have h4 := (gi_c 1 1 (by decide)).2; omega) (by have h1 := g_74.1; have h2 := (gi_c 1 1 (by decide)).1; have h3 := g_74.2; have h4 := (gi_c 1 1 (by decide)).2; omega); rw [hc1] at h9; exact h9); have qgv2 := g_74.1; have rgv2 := g_74.2; have qgaplaceCount := g_75.1; have rgaplaceCount := g_75.2; omega)) (by have av2 := gv2.1; have bv2 := gv2.2; have qgx_79 := gx_79.1; have rgx_79 := gx_79.2; have igx_79 : x_79.toInt = v2.toInt + 1 := (by have hc1 : (1 : Int32).toInt = 1 := (by decide); have h9 := gi_addI ex_79 (by have h1 := g_74.1; have h2 := (gi_c 1 1 (by decide)).1; have h3 := g_74.2; have h4 := (gi_c 1 1 (by decide)).2; omega) (by have h1 := g_74.1; have h2 := (gi_c 1 1 (by decide)).1; have h3 := g_74.2; have h4 := (gi_c 1 1 (by decide)).2; omega); rw [hc1] at h9; exact h9); have qgv2 := g_74.1; have rgv2 := g_74.2; omega) hP hS (lv_sub hl [1, 2, 0] rfl)
        · have hc_80 : x_76.toInt = p1.toInt := by have h9 := congrArg Int32.toInt c_77; exact h9
          refine lv_iload_n hx hb dX0_placeNamed_23 rfl (lv_at hl 2 rfl) ?_
          exact kr24 v2 _ _ _ g_74 (show v2.toInt = pnF p_name aplaceCount p1 from by exact pn_hit hinv0 (by have qgv2 := g_74.1; have rgv2 := g_74.2; have qgaplaceCount := g_75.1; have rgaplaceCount := g_75.2; omega) (by have qgv2 := g_74.1; have rgv2 := g_74.2; have qgaplaceCount := g_75.1; have rgaplaceCount := g_75.2; omega) (ex_76.symm.trans c_77)) hP hS (lv_sub hl [] rfl)
set_option maxHeartbeats 4000000 in
set_option maxRecDepth 100000 in
theorem sX0_placeNamedF (l : Launch) (dC : Nat → ClassId) (dI : Nat → Nat → Nat) (h0 : Nat) (pl : Nat) (amonths : Int32) (afull : Int32) (alean : Int32) (alines : Int32) (ahasMoon : Int32) (amoonStart : Int32) (amoonStep : Int32) (aplaceCount : Int32) (areportCount : Int32) (adeedCount : Int32) (re : Nat) (de : Nat) (kpl : ClassId) (pa : Nat → Nat) (p_name : Nat → Int32) (p_trust : Nat → Int32) (p1 : Int32) (gamonths : gi amonths 0 24) (gafull : gi afull 0 5) (galean : gi alean 0 5) (gahasMoon : gi ahasMoon 0 1) (gaplaceCount : gi aplaceCount 0 6) (gareportCount : gi areportCount 0 24) (gadeedCount : gi adeedCount 0 8) : Met l yX0_placeNamed (.code yX0_placeNamed cX0_placeNamed 3 (some .int) :: wsGA) ({ frames := 0, cells := 0, slots := 0, locals := 0 }) (va_Pc [.ref h0, .int p1] (fun U => va_P (dC, dI) vwCl [(h0, .inr (0, [.int amonths, .int afull, .int alean, .int alines, .int ahasMoon, .int amoonStart, .int amoonStep, .int aplaceCount, .int areportCount, .int adeedCount, .ref pl, .ref re, .ref de])), (pl, .inl (kpl, 6, .inr (.inr (.inr (.inr (fun i => some (pa i)))))))] U.heap ∧ va_K (dC, dI) vwCl [(kpl, .object RX5)] U ∧ nzA U ∧ va_P (dC, dI) vwCl (gz_fam 6 pa 5 (fun i => [.int (p_name i), .int (p_trust i)])) U.heap)) (va_Qi (fun (r : Int32) (u : Unit) => gi r (-1) 5 ∧ r.toInt = pnF p_name aplaceCount p1) (fun _ _ => True) (fun _ => False)) 0 0 (fun _ => False) := by
  refine Met.ofW (cc := cX0_placeNamed) (maxL := 3) (ret := (some .int)) (by decide) rfl ?_
  intro p e s m args below meth c s₁ B hml hv
  obtain ⟨rfl, hP, hK, hz, hF0⟩ := hv
  have hx := B.exec
  have hb := B.bytes
  have hr := B.returns
  have hts := atoms_spec (ws := (.code yX0_placeNamed cX0_placeNamed 3 (some .int) :: wsGA)) B.pre
  have hown : s.vm.findClass RX0 = some m.cls := findClass_of_methodNamed B.named
  have hlocks := B.notSynchronized
  have hS : va_S (fun _ => False) s.heap s.heap [] := va_S.rf
  have hFA0 : gz_ap (fun _ => False) (gz_fam 6 pa 5 (fun i => [.int (p_name i), .int (p_trust i)])) := gz_ap0
  have hl := lv_entry ([.ref h0, .int p1]) (n := 3) (Nat.le_of_ble_eq_true rfl)
  rw [lg_entry_eq]
  generalize (lg_sl ([.ref h0, .int p1]) ++ List.replicate (3 - (lg_sl ([.ref h0, .int p1])).length) Slot.unset).toArray = ls at hl ⊢
  have hl : lv_has ls 3 [(0, .ref h0), (1, .int p1)] := hl
  refine lv_iconst (v := 0) hx hb dX0_placeNamed_0 (by decide) ?_
  refine lv_istore_n (lv' := [(2, .int 0), (0, .ref h0), (1, .int p1)]) hx hb dX0_placeNamed_1 rfl hl (by decide) rfl (fun ls hl => ?_)
  refine (lp_sX0_placeNamedF h0 pl amonths afull alean alines ahasMoon amoonStart amoonStep aplaceCount areportCount adeedCount re de kpl pa p_name p_trust p1 gamonths gafull galean gahasMoon gaplaceCount gareportCount gadeedCount hx hb hml hown hts hK hz hF0 hFA0 (Nat.le_of_ble_eq_true rfl) (Nat.le_of_ble_eq_true rfl) (Nat.zero_le _) (Nat.zero_le _) (fun v H locs ls gv hpx hP hS hl => ?_) (fun v H locs ls gv hpx hP hS hl => ?_) 26) 0 _ _ _ (gi_w (gi_c 0 0 (by decide)) (by decide)) (show pnF p_name aplaceCount p1 = pnG p_name p1 (aplaceCount.toInt - (0 : Int)).toNat ((0 : Int) : Int).toNat from by exact pn_start _ _ _) (by have k0 : (0 : Int32).toInt = 0 := (by decide); omega) hP hS (lv_sub hl [1, 2, 0] rfl)
  · skip
    exact W.iret (v := v) hx hb hr (fun t ht hW => ⟨⟨v, (), rfl, ⟨(gi_w gv (by decide)), hpx⟩, trivial⟩, hS.F ht⟩) hS.2.2 dX0_placeNamed_32
  · skip
    exact W.iret (v := v) hx hb hr (fun t ht hW => ⟨⟨v, (), rfl, ⟨(gi_w gv (by decide)), hpx⟩, trivial⟩, hS.F ht⟩) hS.2.2 dX0_placeNamed_24
