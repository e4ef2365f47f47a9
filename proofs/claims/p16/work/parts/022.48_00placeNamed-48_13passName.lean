set_option maxHeartbeats 4000000 in
set_option maxRecDepth 100000 in
theorem lp_sX0_placeNamedF {p : Program} {l : Launch} {e : Env} {R : Room} {s : State} {m : MethodId} {args : Array Value} {below : List Frame} {meth : Method} {c : Code} {Q : State → Prop} {A : Nat → Prop} {cells slots : Nat} {dC : Nat → ClassId} {dI : Nat → Nat → Nat} {RES : Int32} (h0 : Nat) (pl : Nat) (amonths : Int32) (afull : Int32) (alean : Int32) (alines : Int32) (ahasMoon : Int32) (amoonStart : Int32) (amoonStep : Int32) (aplaceCount : Int32) (areportCount : Int32) (adeedCount : Int32) (re : Nat) (de : Nat) (kpl : ClassId) (pa : Nat → Nat) (p_name : Nat → Int32) (p_trust : Nat → Int32) (p1 : Int32) (gamonths : gi amonths 0 24) (gafull : gi afull 0 5) (galean : gi alean 0 5) (gahasMoon : gi ahasMoon 0 1) (gaplaceCount : gi aplaceCount 0 6) (gareportCount : gi areportCount 0 24) (gadeedCount : gi adeedCount 0 8) (hx : p.tables.exec = Jvm.exec) (hb : c.code = cX0_placeNamed) (hml : c.maxLocals = 3) (hown : s.vm.findClass RX0 = some m.cls) (hts : ∀ w ∈ ((.code yX0_placeNamed cX0_placeNamed 3 (some .int) :: wsGA) : List Cond), w.before args s = true) (hK : va_K (dC, dI) vwCl [(kpl, .object RX5)] s) (hz : nzA s) (hF0 : va_P (dC, dI) vwCl (gz_fam 6 pa 5 (fun i => [.int (p_name i), .int (p_trust i)])) s.heap) (hFA0 : gz_ap A (gz_fam 6 pa 5 (fun i => [.int (p_name i), .int (p_trust i)]))) (hRf : 0 ≤ R.frames) (hRl : 0 ≤ R.locals) (hRc : cells ≤ R.cells) (hRs : slots ≤ R.slots) (kr32 : ∀ (v : Int32) (H : Heap) (locs : List Loc) (ls : Array Slot), gi v (-1) (-1) → v.toInt = pnF p_name aplaceCount p1 → v = RES → va_P (dC, dI) vwCl [(h0, .inr (0, [.int amonths, .int afull, .int alean, .int alines, .int ahasMoon, .int amoonStart, .int amoonStep, .int aplaceCount, .int areportCount, .int adeedCount, .ref pl, .ref re, .ref de])), (pl, .inl (kpl, 6, .inr (.inr (.inr (.inr (fun i => some (pa i)))))))] H → va_S A s.heap H locs → lv_has ls 3 [] → W p l e R s m args below meth c H locs cells slots Q (F0 m 32 ls [.int v])) (kr24 : ∀ (v : Int32) (H : Heap) (locs : List Loc) (ls : Array Slot), gi v 0 5 → v.toInt = pnF p_name aplaceCount p1 → v = RES → va_P (dC, dI) vwCl [(h0, .inr (0, [.int amonths, .int afull, .int alean, .int alines, .int ahasMoon, .int amoonStart, .int amoonStep, .int aplaceCount, .int areportCount, .int adeedCount, .ref pl, .ref re, .ref de])), (pl, .inl (kpl, 6, .inr (.inr (.inr (.inr (fun i => some (pa i)))))))] H → va_S A s.heap H locs → lv_has ls 3 [] → W p l e R s m args below meth c H locs cells slots Q (F0 m 24 ls [.int v])) : ∀ z : Nat, (∀ (v2 : Int32) (H : Heap) (locs : List Loc) (ls : Array Slot), gi v2 0 6 → pnF p_name aplaceCount p1 = pnG p_name p1 (aplaceCount.toInt - v2.toInt).toNat (v2.toInt : Int).toNat → (lfX0_placeNamed aplaceCount p_name p1 z) v2 = RES → 13 + (-2) * v2.toInt < (z : Int) → va_P (dC, dI) vwCl [(h0, .inr (0, [.int amonths, .int afull, .int alean, .int alines, .int ahasMoon, .int amoonStart, .int amoonStep, .int aplaceCount, .int areportCount, .int adeedCount, .ref pl, .ref re, .ref de])), (pl, .inl (kpl, 6, .inr (.inr (.inr (.inr (fun i => some (pa i)))))))] H → va_S A s.heap H locs → lv_has ls 3 [(0, .ref h0), (1, .int p1), (2, .int v2)] → W p l e R s m args below meth c H locs cells slots Q (F0 m 2 ls [])) := by
  intro z
  induction z with
  | zero =>
    intro v2 H locs ls gv2 hinv0 hF hmu hP hS hl
    exact absurd hmu (by have hv21 := gv2.1; have hv22 := gv2.2; omega)
  | succ z ih =>
      intro v2 H locs ls gv2 hinv0 hF hmu hP hS hl
      have hF : dfX0_placeNamed_2 aplaceCount p_name p1 (lfX0_placeNamed aplaceCount p_name p1 z) v2 = RES := hF
      refine lv_iload_n hx hb (dk_at dkX0_placeNamed 2 rfl) rfl (lv_at hl 2 rfl) ?_
      refine lv_aload_n hx hb (dk_at dkX0_placeNamed 3 rfl) rfl (lv_at hl 0 rfl) ?_
      refine va_get (D := (dC, dI)) (ci := 0) (v := .int aplaceCount) (C := RX0) (T := TX0) (N := 13) hx hb hts (fun w h => List.mem_cons_of_mem _ (jnGA_X0 w h)) hown hK hP 0 rfl rfl 7 (by decide) (hts _ (List.mem_cons_of_mem _ mGA_159)) (fun _ h9 => h9) rfl (dk_at dkX0_placeNamed 4 rfl) ?_
      refine lv_icmp_ge (tgt := 31) hx hb (dk_at dkX0_placeNamed 5 rfl) (by decide) (fun c_71 => ?_) (fun c_71 => ?_)
      · have hF := gf_pos c_71 hF
        have hc_72 : aplaceCount.toInt ≤ v2.toInt := by have h9 := Int32.le_iff_toInt_le.mp c_71; exact h9
        refine lv_iconst (v := (-1)) hx hb (dk_at dkX0_placeNamed 17 rfl) (by decide) ?_
        exact kr32 (-1) _ _ _ (gi_c (-1) (-1) (by decide)) (show ((-1) : Int) = pnF p_name aplaceCount p1 from by rw [pn_end hinv0 (by have qgv2 := gv2.1; have rgv2 := gv2.2; have qgaplaceCount := gaplaceCount.1; have rgaplaceCount := gaplaceCount.2; omega)]) hF hP hS (lv_sub hl [] rfl)
      · have hF := gf_neg c_71 hF
        have hc_73 : v2.toInt < aplaceCount.toInt := by have h9 := Int32.lt_iff_toInt_lt.mp (Int32.not_le.mp c_71); exact h9
        have g_74 : gi v2 0 5 := gi_lt_l (Int32.not_le.mp c_71) gv2 gaplaceCount (by decide)
        have g_75 : gi aplaceCount 1 6 := gi_lt_r (Int32.not_le.mp c_71) gv2 gaplaceCount (by decide)
        refine lv_aload_n hx hb (dk_at dkX0_placeNamed 6 rfl) rfl (lv_at hl 0 rfl) ?_
        refine va_get (D := (dC, dI)) (ci := 0) (v := .ref pl) (C := RX0) (T := TX0) (N := 13) hx hb hts (fun w h => List.mem_cons_of_mem _ (jnGA_X0 w h)) hown hK hP 0 rfl rfl 10 (by decide) (hts _ (List.mem_cons_of_mem _ mGA_70)) (fun _ h9 => h9) rfl (dk_at dkX0_placeNamed 7 rfl) ?_
        refine lv_iload_n hx hb (dk_at dkX0_placeNamed 8 rfl) rfl (lv_at hl 2 rfl) ?_
        refine va_aldq hx hb hK hP 1 0 rfl rfl (gi_in g_74 (by decide)) (dk_at dkX0_placeNamed 9 rfl) ?_
        refine W.eq (g2 := F0 m 16 ls [.ref (pa v2.toNatClampNeg)]) rfl ?_
        refine va_get (D := (dC, dI)) (ci := 5) (v := .int (p_name v2.toNatClampNeg)) (C := RX5) (T := TX5) (N := 2) hx hb hts (fun w h => List.mem_cons_of_mem _ (jnGA_X5 w h)) hown hK (gz_ro hF0 hFA0 hS) (v2.toNatClampNeg) (gz_fam_at (gz_clt (gi_in (n := 6) g_74 (by decide)))) rfl 0 (by decide) (hts _ (List.mem_cons_of_mem _ mGA_302)) (fun _ h9 => h9) rfl (dk_at dkX0_placeNamed 10 rfl) ?_
        refine lv_topi (fun x_76 ex_76 => ?_)
        refine lv_iload_n hx hb (dk_at dkX0_placeNamed 11 rfl) rfl (lv_at hl 1 rfl) ?_
        refine lv_icmp_ne (tgt := 25) hx hb (dk_at dkX0_placeNamed 12 rfl) (by decide) (fun c_77 => ?_) (fun c_77 => ?_)
        · have hF := gf_neg (by rw [ex_76] at c_77; exact c_77) hF
          have hc_78 : x_76.toInt ≠ p1.toInt := fun h9 => c_77 (Int32.toInt_inj.mp (by exact h9))
          obtain ⟨x_79, ex_79⟩ : ∃ y : Int32, y = v2 + 1 := ⟨_, rfl⟩
          have gx_79 : gi x_79 1 6 := gi_add ex_79 g_74 (gi_c 1 1 (by decide)) (by decide)
          refine lv_iinc (v := x_79) (lv' := [(2, .int x_79), (0, .ref h0), (1, .int p1)]) hx hb (dk_at dkX0_placeNamed 15 rfl) hl (k := 2) rfl (by rw [ex_79]; rfl) (by decide) rfl (fun ls hl => ?_)
          refine lv_goto (tgt := 2) hx hb (dk_at dkX0_placeNamed 16 rfl) (by decide) ?_
          exact ih x_79 _ _ _ (gi_w gx_79 (by decide)) (show pnF p_name aplaceCount p1 = pnG p_name p1 (aplaceCount.toInt - x_79.toInt).toNat (x_79.toInt : Int).toNat from by exact pn_step hinv0 (by have qgv2 := g_74.1; have rgv2 := g_74.2; have qgaplaceCount := g_75.1; have rgaplaceCount := g_75.2; omega) (by have qgv2 := g_74.1; have rgv2 := g_74.2; have qgaplaceCount := g_75.1; have rgaplaceCount := g_75.2; omega) (fun h9 => c_77 (ex_76.trans h9)) (by have qgx_79 := gx_79.1; have rgx_79 := gx_79.2; have igx_79 : x_79.toInt = v2.toInt + 1 := (by have hc1 : (1 : Int32).toInt = 1 := (by decide); have h9 := gi_addE ex_79 g_74 (gi_c 1 1 (by decide)) (by decide); rw [hc1] at h9; exact h9); have qgv2 := g_74.1; have rgv2 := g_74.2; have qgaplaceCount := g_75.1; have rgaplaceCount := g_75.2; omega)) (by first | (rw [ex_79]; exact hF) | ((try rw [ex_79]); exact hF)) (by have av2 := gv2.1; have bv2 := gv2.2; have qgx_79 := gx_79.1; have rgx_79 := gx_79.2; have igx_79 : x_79.toInt = v2.toInt + 1 := (by have hc1 : (1 : Int32).toInt = 1 := (by decide); have h9 := gi_addE ex_79 g_74 (gi_c 1 1 (by decide)) (by decide); rw [hc1] at h9; exact h9); have qgv2 := g_74.1; have rgv2 := g_74.2; omega) hP hS (lv_sub hl [1, 2, 0] rfl)
        · have hF := gf_pos (by rw [ex_76] at c_77; exact c_77) hF
          have hc_80 : x_76.toInt = p1.toInt := by have h9 := congrArg Int32.toInt c_77; exact h9
          refine lv_iload_n hx hb (dk_at dkX0_placeNamed 13 rfl) rfl (lv_at hl 2 rfl) ?_
          exact kr24 v2 _ _ _ g_74 (show v2.toInt = pnF p_name aplaceCount p1 from by exact pn_hit hinv0 (by have qgv2 := g_74.1; have rgv2 := g_74.2; have qgaplaceCount := g_75.1; have rgaplaceCount := g_75.2; omega) (by have qgv2 := g_74.1; have rgv2 := g_74.2; have qgaplaceCount := g_75.1; have rgaplaceCount := g_75.2; omega) (ex_76.symm.trans c_77)) hF hP hS (lv_sub hl [] rfl)
set_option maxHeartbeats 4000000 in
set_option maxRecDepth 100000 in
theorem sX0_placeNamedF (l : Launch) (dC : Nat → ClassId) (dI : Nat → Nat → Nat) (h0 : Nat) (pl : Nat) (amonths : Int32) (afull : Int32) (alean : Int32) (alines : Int32) (ahasMoon : Int32) (amoonStart : Int32) (amoonStep : Int32) (aplaceCount : Int32) (areportCount : Int32) (adeedCount : Int32) (re : Nat) (de : Nat) (kpl : ClassId) (pa : Nat → Nat) (p_name : Nat → Int32) (p_trust : Nat → Int32) (p1 : Int32) (gamonths : gi amonths 0 24) (gafull : gi afull 0 5) (galean : gi alean 0 5) (gahasMoon : gi ahasMoon 0 1) (gaplaceCount : gi aplaceCount 0 6) (gareportCount : gi areportCount 0 24) (gadeedCount : gi adeedCount 0 8) : Met l yX0_placeNamed (.code yX0_placeNamed cX0_placeNamed 3 (some .int) :: wsGA) ({ frames := 0, cells := 0, slots := 0, locals := 0 }) (va_Pc [.ref h0, .int p1] (fun U => va_P (dC, dI) vwCl [(h0, .inr (0, [.int amonths, .int afull, .int alean, .int alines, .int ahasMoon, .int amoonStart, .int amoonStep, .int aplaceCount, .int areportCount, .int adeedCount, .ref pl, .ref re, .ref de])), (pl, .inl (kpl, 6, .inr (.inr (.inr (.inr (fun i => some (pa i)))))))] U.heap ∧ va_K (dC, dI) vwCl [(kpl, .object RX5)] U ∧ nzA U ∧ va_P (dC, dI) vwCl (gz_fam 6 pa 5 (fun i => [.int (p_name i), .int (p_trust i)])) U.heap)) (va_Qi (fun (r : Int32) (u : Unit) => (gi r (-1) 5 ∧ r.toInt = pnF p_name aplaceCount p1) ∧ r = fX0_placeNamed aplaceCount p_name p1) (fun _ _ => True) (fun _ => False)) 0 0 (fun _ => False) := by
  refine Met.ofW (cc := cX0_placeNamed) (maxL := 3) (ret := (some .int)) (by decide) rfl ?_
  intro p e s m args below meth c s₁ B hml hv
  obtain ⟨rfl, hP, hK, hz, hF0⟩ := hv
  have hx := B.exec
  have hb := B.bytes
  have hr := B.returns
  have hts := atoms_spec (ws := (.code yX0_placeNamed cX0_placeNamed 3 (some .int) :: wsGA)) B.pre
  have hown : s.vm.findClass RX0 = some m.cls := findClass_of_methodNamed B.named
  have hlocks := B.notSynchronized
  have hS : va_S (fun _ => False) s.heap s.heap [] := va_S.rf
  have hFA0 : gz_ap (fun _ => False) (gz_fam 6 pa 5 (fun i => [.int (p_name i), .int (p_trust i)])) := gz_ap0
  have hl := lv_entry ([.ref h0, .int p1]) (n := 3) (Nat.le_of_ble_eq_true rfl)
  rw [lg_entry_eq]
  generalize (lg_sl ([.ref h0, .int p1]) ++ List.replicate (3 - (lg_sl ([.ref h0, .int p1])).length) Slot.unset).toArray = ls at hl ⊢
  have hl : lv_has ls 3 [(0, .ref h0), (1, .int p1)] := hl
  obtain ⟨RES, hF⟩ : ∃ R9, fX0_placeNamed aplaceCount p_name p1 = R9 := ⟨_, rfl⟩
  have hR9 := hF
  refine lv_iconst (v := 0) hx hb (dk_at dkX0_placeNamed 0 rfl) (by decide) ?_
  refine lv_istore_n (lv' := [(2, .int 0), (0, .ref h0), (1, .int p1)]) hx hb (dk_at dkX0_placeNamed 1 rfl) rfl hl (by decide) rfl (fun ls hl => ?_)
  refine (lp_sX0_placeNamedF h0 pl amonths afull alean alines ahasMoon amoonStart amoonStep aplaceCount areportCount adeedCount re de kpl pa p_name p_trust p1 gamonths gafull galean gahasMoon gaplaceCount gareportCount gadeedCount hx hb hml hown hts hK hz hF0 hFA0 (Nat.le_of_ble_eq_true rfl) (Nat.le_of_ble_eq_true rfl) (Nat.zero_le _) (Nat.zero_le _) (fun v H locs ls gv hpx hF hP hS hl => ?_) (fun v H locs ls gv hpx hF hP hS hl => ?_) 1000000000) 0 _ _ _ (gi_w (gi_c 0 0 (by decide)) (by decide)) (show pnF p_name aplaceCount p1 = pnG p_name p1 (aplaceCount.toInt - (0 : Int)).toNat ((0 : Int) : Int).toNat from by exact pn_start _ _ _) hF (by have k0 : (0 : Int32).toInt = 0 := (by decide); omega) hP hS (lv_sub hl [1, 2, 0] rfl)
  · skip
    exact W.iret (v := v) hx hb hr (fun t ht hW => ⟨⟨v, (), rfl, ⟨⟨(gi_w gv (by decide)), hpx⟩, hF.trans hR9.symm⟩, trivial⟩, hS.F ht⟩) hS.2.2 (dk_at dkX0_placeNamed 18 rfl)
  · skip
    exact W.iret (v := v) hx hb hr (fun t ht hW => ⟨⟨v, (), rfl, ⟨⟨(gi_w gv (by decide)), hpx⟩, hF.trans hR9.symm⟩, trivial⟩, hS.F ht⟩) hS.2.2 (dk_at dkX0_placeNamed 14 rfl)
abbrev pb_sX0_addDeedR (dC : Nat → ClassId) (dI : Nat → Nat → Nat) (A9 : Nat → Prop) (h0 : Nat) (de : Nat) (da : Nat → Nat) (amonths : Int32) (afull : Int32) (alean : Int32) (alines : Int32) (ahasMoon : Int32) (amoonStart : Int32) (amoonStep : Int32) (aplaceCount : Int32) (areportCount : Int32) (adeedCount : Int32) (pl : Nat) (re : Nat) (kde : ClassId) (d_month : Nat → Int32) (d_day : Nat → Int32) (d_length : Nat → Int32) (d_inDays : Nat → Int32) (p1 : Int32) (p2 : Int32) (p3 : Int32) (p4 : Int32) (w0_9 : Int32) (z2_0 : Nat → Int32) (z2_1 : Nat → Int32) (z2_2 : Nat → Int32) (z2_3 : Nat → Int32) (t : State) : Prop := gi w0_9 0 8 ∧ ga z2_0 8 0 23 ∧ ga z2_2 8 0 600 ∧ ga z2_3 8 0 1 ∧ (∀ j : Nat, j < 8 → ((z2_3 j).toInt ≠ 0 ∨ (z2_0 j).toInt + (z2_2 j).toInt ≤ 23)) ∧ (w0_9, z2_0, z2_1, z2_2, z2_3) = fX0_addDeed adeedCount d_month d_day d_length d_inDays p1 p2 p3 p4 ∧ va_P (dC, dI) vwCl (([(h0, .inr (0, [.int amonths, .int afull, .int alean, .int alines, .int ahasMoon, .int amoonStart, .int amoonStep, .int aplaceCount, .int areportCount, .int w0_9, .ref pl, .ref re, .ref de])), (de, .inl (kde, 8, .inr (.inr (.inr (.inr (fun i => some (da i)))))))] : va_W) ++ (gz_fam 8 da 2 (fun i => [.int (z2_0 i), .int (z2_1 i), .int (z2_2 i), .int (z2_3 i)]))) t.heap ∧ va_D A9 (([(h0, .inr (0, [.int amonths, .int afull, .int alean, .int alines, .int ahasMoon, .int amoonStart, .int amoonStep, .int aplaceCount, .int areportCount, .int w0_9, .ref pl, .ref re, .ref de])), (de, .inl (kde, 8, .inr (.inr (.inr (.inr (fun i => some (da i)))))))] : va_W) ++ (gz_fam 8 da 2 (fun i => [.int (z2_0 i), .int (z2_1 i), .int (z2_2 i), .int (z2_3 i)])))
set_option maxHeartbeats 4000000 in
set_option maxRecDepth 100000 in
theorem sX0_addDeedR (l : Launch) (dC : Nat → ClassId) (dI : Nat → Nat → Nat) (sz : Nat) (h0 : Nat) (de : Nat) (da : Nat → Nat) (amonths : Int32) (afull : Int32) (alean : Int32) (alines : Int32) (ahasMoon : Int32) (amoonStart : Int32) (amoonStep : Int32) (aplaceCount : Int32) (areportCount : Int32) (adeedCount : Int32) (pl : Nat) (re : Nat) (kde : ClassId) (d_month : Nat → Int32) (d_day : Nat → Int32) (d_length : Nat → Int32) (d_inDays : Nat → Int32) (p1 : Int32) (p2 : Int32) (p3 : Int32) (p4 : Int32) (gamonths : gi amonths 0 24) (gafull : gi afull 0 5) (galean : gi alean 0 5) (gahasMoon : gi ahasMoon 0 1) (gaplaceCount : gi aplaceCount 0 6) (gareportCount : gi areportCount 0 24) (gadeedCount : gi adeedCount 0 8) (gd_month : ga d_month 8 0 23) (gd_length : ga d_length 8 0 600) (gd_inDays : ga d_inDays 8 0 1) (gp1 : gi p1 0 23) (gp3 : gi p3 0 600) (gp4 : gi p4 0 1) (hdc : ∀ j : Nat, j < 8 → ((d_inDays j).toInt ≠ 0 ∨ (d_month j).toInt + (d_length j).toInt ≤ 23)) (hpq0 : (p4.toInt ≠ 0 ∨ p1.toInt + p3.toInt ≤ 23)) : Met l yX0_addDeed (.code yX0_addDeed cX0_addDeed 6 none :: wsGA) ({ frames := 0, cells := 0, slots := 0, locals := 0 }) (va_Pc [.ref h0, .int p1, .int p2, .int p3, .int p4] (fun U => U.heap.size = sz ∧ va_P (dC, dI) vwCl (([(h0, .inr (0, [.int amonths, .int afull, .int alean, .int alines, .int ahasMoon, .int amoonStart, .int amoonStep, .int aplaceCount, .int areportCount, .int adeedCount, .ref pl, .ref re, .ref de])), (de, .inl (kde, 8, .inr (.inr (.inr (.inr (fun i => some (da i)))))))] : va_W) ++ (gz_fam 8 da 2 (fun i => [.int (d_month i), .int (d_day i), .int (d_length i), .int (d_inDays i)]))) U.heap ∧ va_K (dC, dI) vwCl [(kde, .object RX2)] U ∧ va_D (fun _ => True) (([(h0, .inr (0, [.int amonths, .int afull, .int alean, .int alines, .int ahasMoon, .int amoonStart, .int amoonStep, .int aplaceCount, .int areportCount, .int adeedCount, .ref pl, .ref re, .ref de])), (de, .inl (kde, 8, .inr (.inr (.inr (.inr (fun i => some (da i)))))))] : va_W) ++ (gz_fam 8 da 2 (fun i => [.int (d_month i), .int (d_day i), .int (d_length i), .int (d_inDays i)]))) ∧ nzA U)) (va_Qv (fun (u : Unit) => True) (fun _ t => ∃ (w0_9 : Int32) (z2_0 : Nat → Int32) (z2_1 : Nat → Int32) (z2_2 : Nat → Int32) (z2_3 : Nat → Int32), pb_sX0_addDeedR dC dI (va_A (([(h0, .inr (0, [.int amonths, .int afull, .int alean, .int alines, .int ahasMoon, .int amoonStart, .int amoonStep, .int aplaceCount, .int areportCount, .int adeedCount, .ref pl, .ref re, .ref de])), (de, .inl (kde, 8, .inr (.inr (.inr (.inr (fun i => some (da i)))))))] : va_W) ++ (gz_fam 8 da 2 (fun i => [.int (d_month i), .int (d_day i), .int (d_length i), .int (d_inDays i)]))) sz) h0 de da amonths afull alean alines ahasMoon amoonStart amoonStep aplaceCount areportCount adeedCount pl re kde d_month d_day d_length d_inDays p1 p2 p3 p4 w0_9 z2_0 z2_1 z2_2 z2_3 t) (va_A (([(h0, .inr (0, [.int amonths, .int afull, .int alean, .int alines, .int ahasMoon, .int amoonStart, .int amoonStep, .int aplaceCount, .int areportCount, .int adeedCount, .ref pl, .ref re, .ref de])), (de, .inl (kde, 8, .inr (.inr (.inr (.inr (fun i => some (da i)))))))] : va_W) ++ (gz_fam 8 da 2 (fun i => [.int (d_month i), .int (d_day i), .int (d_length i), .int (d_inDays i)]))) sz)) 0 0 (va_A (([(h0, .inr (0, [.int amonths, .int afull, .int alean, .int alines, .int ahasMoon, .int amoonStart, .int amoonStep, .int aplaceCount, .int areportCount, .int adeedCount, .ref pl, .ref re, .ref de])), (de, .inl (kde, 8, .inr (.inr (.inr (.inr (fun i => some (da i)))))))] : va_W) ++ (gz_fam 8 da 2 (fun i => [.int (d_month i), .int (d_day i), .int (d_length i), .int (d_inDays i)]))) sz) := by
  refine Met.ofW (cc := cX0_addDeed) (maxL := 6) (ret := none) (by decide) rfl ?_
  intro p e s m args below meth c s₁ B hml hv
  obtain ⟨rfl, hsz, hP, hK, hD0, hz⟩ := hv
  have hx := B.exec
  have hb := B.bytes
  have hr := B.returns
  have hts := atoms_spec (ws := (.code yX0_addDeed cX0_addDeed 6 none :: wsGA)) B.pre
  have hown : s.vm.findClass RX0 = some m.cls := findClass_of_methodNamed B.named
  have hlocks := B.notSynchronized
  subst hsz
  have hD := hD0.self (sz := s.heap.size)
  generalize hAe : va_A (([(h0, .inr (0, [.int amonths, .int afull, .int alean, .int alines, .int ahasMoon, .int amoonStart, .int amoonStep, .int aplaceCount, .int areportCount, .int adeedCount, .ref pl, .ref re, .ref de])), (de, .inl (kde, 8, .inr (.inr (.inr (.inr (fun i => some (da i)))))))] : va_W) ++ (gz_fam 8 da 2 (fun i => [.int (d_month i), .int (d_day i), .int (d_length i), .int (d_inDays i)]))) s.heap.size = A at hD ⊢
  have hA : ∀ q : Nat, s.heap.size ≤ q → A q := fun q h => by rw [← hAe]; exact Or.inr h
  have hS : va_S A s.heap s.heap [] := va_S.rf
  have hl := lv_entry ([.ref h0, .int p1, .int p2, .int p3, .int p4]) (n := 6) (Nat.le_of_ble_eq_true rfl)
  rw [lg_entry_eq]
  generalize (lg_sl ([.ref h0, .int p1, .int p2, .int p3, .int p4]) ++ List.replicate (6 - (lg_sl ([.ref h0, .int p1, .int p2, .int p3, .int p4])).length) Slot.unset).toArray = ls at hl ⊢
  have hl : lv_has ls 6 [(0, .ref h0), (1, .int p1), (2, .int p2), (3, .int p3), (4, .int p4)] := hl
  obtain ⟨RES, hF⟩ : ∃ R9, fX0_addDeed adeedCount d_month d_day d_length d_inDays p1 p2 p3 p4 = R9 := ⟨_, rfl⟩
  have hR9 := hF
  refine lv_aload_n hx hb (dk_at dkX0_addDeed 0 rfl) rfl (lv_at hl 0 rfl) ?_
  refine va_get (D := (dC, dI)) (ci := 0) (v := .int adeedCount) (C := RX0) (T := TX0) (N := 13) hx hb hts (fun w h => List.mem_cons_of_mem _ (jnGA_X0 w h)) hown hK hP 0 rfl rfl 9 (by decide) (hts _ (List.mem_cons_of_mem _ mGA_161)) (fun _ h9 => h9) rfl (dk_at dkX0_addDeed 1 rfl) ?_
  refine lv_bipush (v := 8) hx hb (dk_at dkX0_addDeed 2 rfl) (by decide) ?_
  refine lv_icmp_ge (tgt := 55) hx hb (dk_at dkX0_addDeed 3 rfl) (by decide) (fun c_21 => ?_) (fun c_21 => ?_)
  · have hF := gf_pos c_21 hF
    have hc_22 : 8 ≤ adeedCount.toInt := by have h9 := Int32.le_iff_toInt_le.mp c_21; rw [show (8 : Int32).toInt = 8 from by decide] at h9; exact h9
    have g_23 : gi adeedCount 8 8 := gi_le_r c_21 (gi_c 8 8 (by decide)) gadeedCount
    exact W.vret hx hb hr (fun t ht hW => ⟨⟨(), rfl, trivial, adeedCount, d_month, d_day, d_length, d_inDays, (gi_w g_23 (by decide)), gd_month, gd_length, gd_inDays, (show ∀ j : Nat, j < 8 → ((d_inDays j).toInt ≠ 0 ∨ (d_month j).toInt + (d_length j).toInt ≤ 23) from by exact hdc), hF.trans hR9.symm, by rw [ht]; exact hP, hD⟩, hS.F ht⟩) hS.2.2 (dk_at dkX0_addDeed 28 rfl)
  · have hF := gf_neg c_21 hF
    have hc_24 : adeedCount.toInt < 8 := by have h9 := Int32.lt_iff_toInt_lt.mp (Int32.not_le.mp c_21); rw [show (8 : Int32).toInt = 8 from by decide] at h9; exact h9
    have g_25 : gi adeedCount 0 7 := gi_lt_l (Int32.not_le.mp c_21) gadeedCount (gi_c 8 8 (by decide)) (by decide)
    refine lv_aload_n hx hb (dk_at dkX0_addDeed 4 rfl) rfl (lv_at hl 0 rfl) ?_
    refine va_get (D := (dC, dI)) (ci := 0) (v := .ref de) (C := RX0) (T := TX0) (N := 13) hx hb hts (fun w h => List.mem_cons_of_mem _ (jnGA_X0 w h)) hown hK hP 0 rfl rfl 12 (by decide) (hts _ (List.mem_cons_of_mem _ mGA_74)) (fun _ h9 => h9) rfl (dk_at dkX0_addDeed 5 rfl) ?_
    refine lv_aload_n hx hb (dk_at dkX0_addDeed 6 rfl) rfl (lv_at hl 0 rfl) ?_
    refine va_get (D := (dC, dI)) (ci := 0) (v := .int adeedCount) (C := RX0) (T := TX0) (N := 13) hx hb hts (fun w h => List.mem_cons_of_mem _ (jnGA_X0 w h)) hown hK hP 0 rfl rfl 9 (by decide) (hts _ (List.mem_cons_of_mem _ mGA_161)) (fun _ h9 => h9) rfl (dk_at dkX0_addDeed 7 rfl) ?_
    refine va_aldq hx hb hK hP 1 0 rfl rfl (gi_in g_25 (by decide)) (dk_at dkX0_addDeed 8 rfl) ?_
    refine W.eq (g2 := F0 m 18 ls [.ref (da adeedCount.toNatClampNeg)]) rfl ?_
    refine lv_astore (lv' := [(5, .ref (da adeedCount.toNatClampNeg)), (0, .ref h0), (1, .int p1), (2, .int p2), (3, .int p3), (4, .int p4)]) hx hb (dk_at dkX0_addDeed 9 rfl) hl (by decide) rfl (fun ls hl => ?_)
    refine lv_aload hx hb (dk_at dkX0_addDeed 10 rfl) (lv_at hl 0 rfl) ?_
    refine lv_iload_n hx hb (dk_at dkX0_addDeed 11 rfl) rfl (lv_at hl 2 rfl) ?_
    refine va_put (D := (dC, dI)) (ci := 2) (v := .int p1) (ty := .int) (C := RX2) (T := TX2) (N := 4) hx hb hts (fun w h => List.mem_cons_of_mem _ (jnGA_X2 w h)) tyX2 tyX2_ok nmX2 hown hK hP hD hS (List.length [(h0, .inr (0, [.int amonths, .int afull, .int alean, .int alines, .int ahasMoon, .int amoonStart, .int amoonStep, .int aplaceCount, .int areportCount, .int adeedCount, .ref pl, .ref re, .ref de])), (de, .inl (kde, 8, .inr (.inr (.inr (.inr (fun i => some (da i)))))))] + adeedCount.toNatClampNeg) (gz_famW3 (X := [(h0, .inr (0, [.int amonths, .int afull, .int alean, .int alines, .int ahasMoon, .int amoonStart, .int amoonStep, .int aplaceCount, .int areportCount, .int adeedCount, .ref pl, .ref re, .ref de])), (de, .inl (kde, 8, .inr (.inr (.inr (.inr (fun i => some (da i)))))))]) ((List.append_nil _).symm) (gz_clt (gi_in (n := 8) g_25 (by decide)))) rfl 0 (by decide) (hts _ (List.mem_cons_of_mem _ mGA_332)) (fun _ h9 => h9) rfl fdX2_0 rfl rfl (Nat.le_of_ble_eq_true rfl) (dk_at dkX0_addDeed 12 rfl) (fun H locs hP hD hS => ?_)
    have hP : va_P (dC, dI) vwCl (([(h0, .inr (0, [.int amonths, .int afull, .int alean, .int alines, .int ahasMoon, .int amoonStart, .int amoonStep, .int aplaceCount, .int areportCount, .int adeedCount, .ref pl, .ref re, .ref de])), (de, .inl (kde, 8, .inr (.inr (.inr (.inr (fun i => some (da i)))))))] : va_W) ++ (gz_fam 8 da 2 (fun i => [.int ((upd d_month (adeedCount.toNatClampNeg) p1) i), .int (d_day i), .int (d_length i), .int (d_inDays i)]))) H := gz_famP (X := [(h0, .inr (0, [.int amonths, .int afull, .int alean, .int alines, .int ahasMoon, .int amoonStart, .int amoonStep, .int aplaceCount, .int areportCount, .int adeedCount, .ref pl, .ref re, .ref de])), (de, .inl (kde, 8, .inr (.inr (.inr (.inr (fun i => some (da i)))))))]) ((List.append_nil _).symm) ((List.append_nil _).symm) (gz_clt (gi_in (n := 8) g_25 (by decide))) (by simp [upd]) (fun i hi => by simp [upd, hi]) hP
    have hD : va_D A (([(h0, .inr (0, [.int amonths, .int afull, .int alean, .int alines, .int ahasMoon, .int amoonStart, .int amoonStep, .int aplaceCount, .int areportCount, .int adeedCount, .ref pl, .ref re, .ref de])), (de, .inl (kde, 8, .inr (.inr (.inr (.inr (fun i => some (da i)))))))] : va_W) ++ (gz_fam 8 da 2 (fun i => [.int ((upd d_month (adeedCount.toNatClampNeg) p1) i), .int (d_day i), .int (d_length i), .int (d_inDays i)]))) := gz_famD (X := [(h0, .inr (0, [.int amonths, .int afull, .int alean, .int alines, .int ahasMoon, .int amoonStart, .int amoonStep, .int aplaceCount, .int areportCount, .int adeedCount, .ref pl, .ref re, .ref de])), (de, .inl (kde, 8, .inr (.inr (.inr (.inr (fun i => some (da i)))))))]) ((List.append_nil _).symm) ((List.append_nil _).symm) (gz_clt (gi_in (n := 8) g_25 (by decide))) (by simp [upd]) (fun i hi => by simp [upd, hi]) hD
    have gf_26 : ga (upd d_month (adeedCount.toNatClampNeg) p1) 8 0 23 := ga_upd gd_month gp1
    generalize ef_26 : upd d_month (adeedCount.toNatClampNeg) p1 = f_26 at hP hD gf_26
    obtain ⟨hP, hD⟩ := gz_both (w := (([(h0, .inr (0, [.int amonths, .int afull, .int alean, .int alines, .int ahasMoon, .int amoonStart, .int amoonStep, .int aplaceCount, .int areportCount, .int adeedCount, .ref pl, .ref re, .ref de])), (de, .inl (kde, 8, .inr (.inr (.inr (.inr (fun i => some (da i)))))))] : va_W) ++ (gz_fam 8 da 2 (fun i => [.int (f_26 i), .int (d_day i), .int (d_length i), .int (d_inDays i)])))) hP hD
    refine lv_aload hx hb (dk_at dkX0_addDeed 13 rfl) (lv_at hl 0 rfl) ?_
    refine lv_iload_n hx hb (dk_at dkX0_addDeed 14 rfl) rfl (lv_at hl 3 rfl) ?_
    refine va_put (D := (dC, dI)) (ci := 2) (v := .int p2) (ty := .int) (C := RX2) (T := TX2) (N := 4) hx hb hts (fun w h => List.mem_cons_of_mem _ (jnGA_X2 w h)) tyX2 tyX2_ok nmX2 hown hK hP hD hS (List.length [(h0, .inr (0, [.int amonths, .int afull, .int alean, .int alines, .int ahasMoon, .int amoonStart, .int amoonStep, .int aplaceCount, .int areportCount, .int adeedCount, .ref pl, .ref re, .ref de])), (de, .inl (kde, 8, .inr (.inr (.inr (.inr (fun i => some (da i)))))))] + adeedCount.toNatClampNeg) (gz_famW3 (X := [(h0, .inr (0, [.int amonths, .int afull, .int alean, .int alines, .int ahasMoon, .int amoonStart, .int amoonStep, .int aplaceCount, .int areportCount, .int adeedCount, .ref pl, .ref re, .ref de])), (de, .inl (kde, 8, .inr (.inr (.inr (.inr (fun i => some (da i)))))))]) ((List.append_nil _).symm) (gz_clt (gi_in (n := 8) g_25 (by decide)))) rfl 1 (by decide) (hts _ (List.mem_cons_of_mem _ mGA_333)) (fun _ h9 => h9) rfl fdX2_1 rfl rfl (Nat.le_of_ble_eq_true rfl) (dk_at dkX0_addDeed 15 rfl) (fun H locs hP hD hS => ?_)
    have hP : va_P (dC, dI) vwCl (([(h0, .inr (0, [.int amonths, .int afull, .int alean, .int alines, .int ahasMoon, .int amoonStart, .int amoonStep, .int aplaceCount, .int areportCount, .int adeedCount, .ref pl, .ref re, .ref de])), (de, .inl (kde, 8, .inr (.inr (.inr (.inr (fun i => some (da i)))))))] : va_W) ++ (gz_fam 8 da 2 (fun i => [.int (f_26 i), .int ((upd d_day (adeedCount.toNatClampNeg) p2) i), .int (d_length i), .int (d_inDays i)]))) H := gz_famP (X := [(h0, .inr (0, [.int amonths, .int afull, .int alean, .int alines, .int ahasMoon, .int amoonStart, .int amoonStep, .int aplaceCount, .int areportCount, .int adeedCount, .ref pl, .ref re, .ref de])), (de, .inl (kde, 8, .inr (.inr (.inr (.inr (fun i => some (da i)))))))]) ((List.append_nil _).symm) ((List.append_nil _).symm) (gz_clt (gi_in (n := 8) g_25 (by decide))) (by simp [upd]) (fun i hi => by simp [upd, hi]) hP
    have hD : va_D A (([(h0, .inr (0, [.int amonths, .int afull, .int alean, .int alines, .int ahasMoon, .int amoonStart, .int amoonStep, .int aplaceCount, .int areportCount, .int adeedCount, .ref pl, .ref re, .ref de])), (de, .inl (kde, 8, .inr (.inr (.inr (.inr (fun i => some (da i)))))))] : va_W) ++ (gz_fam 8 da 2 (fun i => [.int (f_26 i), .int ((upd d_day (adeedCount.toNatClampNeg) p2) i), .int (d_length i), .int (d_inDays i)]))) := gz_famD (X := [(h0, .inr (0, [.int amonths, .int afull, .int alean, .int alines, .int ahasMoon, .int amoonStart, .int amoonStep, .int aplaceCount, .int areportCount, .int adeedCount, .ref pl, .ref re, .ref de])), (de, .inl (kde, 8, .inr (.inr (.inr (.inr (fun i => some (da i)))))))]) ((List.append_nil _).symm) ((List.append_nil _).symm) (gz_clt (gi_in (n := 8) g_25 (by decide))) (by simp [upd]) (fun i hi => by simp [upd, hi]) hD
    generalize ef_27 : upd d_day (adeedCount.toNatClampNeg) p2 = f_27 at hP hD
    obtain ⟨hP, hD⟩ := gz_both (w := (([(h0, .inr (0, [.int amonths, .int afull, .int alean, .int alines, .int ahasMoon, .int amoonStart, .int amoonStep, .int aplaceCount, .int areportCount, .int adeedCount, .ref pl, .ref re, .ref de])), (de, .inl (kde, 8, .inr (.inr (.inr (.inr (fun i => some (da i)))))))] : va_W) ++ (gz_fam 8 da 2 (fun i => [.int (f_26 i), .int (f_27 i), .int (d_length i), .int (d_inDays i)])))) hP hD
    refine lv_aload hx hb (dk_at dkX0_addDeed 16 rfl) (lv_at hl 0 rfl) ?_
    refine lv_iload_n hx hb (dk_at dkX0_addDeed 17 rfl) rfl (lv_at hl 4 rfl) ?_
    refine va_put (D := (dC, dI)) (ci := 2) (v := .int p3) (ty := .int) (C := RX2) (T := TX2) (N := 4) hx hb hts (fun w h => List.mem_cons_of_mem _ (jnGA_X2 w h)) tyX2 tyX2_ok nmX2 hown hK hP hD hS (List.length [(h0, .inr (0, [.int amonths, .int afull, .int alean, .int alines, .int ahasMoon, .int amoonStart, .int amoonStep, .int aplaceCount, .int areportCount, .int adeedCount, .ref pl, .ref re, .ref de])), (de, .inl (kde, 8, .inr (.inr (.inr (.inr (fun i => some (da i)))))))] + adeedCount.toNatClampNeg) (gz_famW3 (X := [(h0, .inr (0, [.int amonths, .int afull, .int alean, .int alines, .int ahasMoon, .int amoonStart, .int amoonStep, .int aplaceCount, .int areportCount, .int adeedCount, .ref pl, .ref re, .ref de])), (de, .inl (kde, 8, .inr (.inr (.inr (.inr (fun i => some (da i)))))))]) ((List.append_nil _).symm) (gz_clt (gi_in (n := 8) g_25 (by decide)))) rfl 2 (by decide) (hts _ (List.mem_cons_of_mem _ mGA_334)) (fun _ h9 => h9) rfl fdX2_2 rfl rfl (Nat.le_of_ble_eq_true rfl) (dk_at dkX0_addDeed 18 rfl) (fun H locs hP hD hS => ?_)
    have hP : va_P (dC, dI) vwCl (([(h0, .inr (0, [.int amonths, .int afull, .int alean, .int alines, .int ahasMoon, .int amoonStart, .int amoonStep, .int aplaceCount, .int areportCount, .int adeedCount, .ref pl, .ref re, .ref de])), (de, .inl (kde, 8, .inr (.inr (.inr (.inr (fun i => some (da i)))))))] : va_W) ++ (gz_fam 8 da 2 (fun i => [.int (f_26 i), .int (f_27 i), .int ((upd d_length (adeedCount.toNatClampNeg) p3) i), .int (d_inDays i)]))) H := gz_famP (X := [(h0, .inr (0, [.int amonths, .int afull, .int alean, .int alines, .int ahasMoon, .int amoonStart, .int amoonStep, .int aplaceCount, .int areportCount, .int adeedCount, .ref pl, .ref re, .ref de])), (de, .inl (kde, 8, .inr (.inr (.inr (.inr (fun i => some (da i)))))))]) ((List.append_nil _).symm) ((List.append_nil _).symm) (gz_clt (gi_in (n := 8) g_25 (by decide))) (by simp [upd]) (fun i hi => by simp [upd, hi]) hP
    have hD : va_D A (([(h0, .inr (0, [.int amonths, .int afull, .int alean, .int alines, .int ahasMoon, .int amoonStart, .int amoonStep, .int aplaceCount, .int areportCount, .int adeedCount, .ref pl, .ref re, .ref de])), (de, .inl (kde, 8, .inr (.inr (.inr (.inr (fun i => some (da i)))))))] : va_W) ++ (gz_fam 8 da 2 (fun i => [.int (f_26 i), .int (f_27 i), .int ((upd d_length (adeedCount.toNatClampNeg) p3) i), .int (d_inDays i)]))) := gz_famD (X := [(h0, .inr (0, [.int amonths, .int afull, .int alean, .int alines, .int ahasMoon, .int amoonStart, .int amoonStep, .int aplaceCount, .int areportCount, .int adeedCount, .ref pl, .ref re, .ref de])), (de, .inl (kde, 8, .inr (.inr (.inr (.inr (fun i => some (da i)))))))]) ((List.append_nil _).symm) ((List.append_nil _).symm) (gz_clt (gi_in (n := 8) g_25 (by decide))) (by simp [upd]) (fun i hi => by simp [upd, hi]) hD
    have gf_28 : ga (upd d_length (adeedCount.toNatClampNeg) p3) 8 0 600 := ga_upd gd_length gp3
    generalize ef_28 : upd d_length (adeedCount.toNatClampNeg) p3 = f_28 at hP hD gf_28
    obtain ⟨hP, hD⟩ := gz_both (w := (([(h0, .inr (0, [.int amonths, .int afull, .int alean, .int alines, .int ahasMoon, .int amoonStart, .int amoonStep, .int aplaceCount, .int areportCount, .int adeedCount, .ref pl, .ref re, .ref de])), (de, .inl (kde, 8, .inr (.inr (.inr (.inr (fun i => some (da i)))))))] : va_W) ++ (gz_fam 8 da 2 (fun i => [.int (f_26 i), .int (f_27 i), .int (f_28 i), .int (d_inDays i)])))) hP hD
    refine lv_aload hx hb (dk_at dkX0_addDeed 19 rfl) (lv_at hl 0 rfl) ?_
    refine lv_iload hx hb (dk_at dkX0_addDeed 20 rfl) (lv_at hl 5 rfl) ?_
    refine va_put (D := (dC, dI)) (ci := 2) (v := .int p4) (ty := .boolean) (C := RX2) (T := TX2) (N := 4) hx hb hts (fun w h => List.mem_cons_of_mem _ (jnGA_X2 w h)) tyX2 tyX2_ok nmX2 hown hK hP hD hS (List.length [(h0, .inr (0, [.int amonths, .int afull, .int alean, .int alines, .int ahasMoon, .int amoonStart, .int amoonStep, .int aplaceCount, .int areportCount, .int adeedCount, .ref pl, .ref re, .ref de])), (de, .inl (kde, 8, .inr (.inr (.inr (.inr (fun i => some (da i)))))))] + adeedCount.toNatClampNeg) (gz_famW3 (X := [(h0, .inr (0, [.int amonths, .int afull, .int alean, .int alines, .int ahasMoon, .int amoonStart, .int amoonStep, .int aplaceCount, .int areportCount, .int adeedCount, .ref pl, .ref re, .ref de])), (de, .inl (kde, 8, .inr (.inr (.inr (.inr (fun i => some (da i)))))))]) ((List.append_nil _).symm) (gz_clt (gi_in (n := 8) g_25 (by decide)))) rfl 3 (by decide) (hts _ (List.mem_cons_of_mem _ mGA_335)) (fun _ h9 => h9) rfl fdX2_3 (gz_nb gp4) (gz_fb gp4) (Nat.le_of_ble_eq_true rfl) (dk_at dkX0_addDeed 21 rfl) (fun H locs hP hD hS => ?_)
    have hP : va_P (dC, dI) vwCl (([(h0, .inr (0, [.int amonths, .int afull, .int alean, .int alines, .int ahasMoon, .int amoonStart, .int amoonStep, .int aplaceCount, .int areportCount, .int adeedCount, .ref pl, .ref re, .ref de])), (de, .inl (kde, 8, .inr (.inr (.inr (.inr (fun i => some (da i)))))))] : va_W) ++ (gz_fam 8 da 2 (fun i => [.int (f_26 i), .int (f_27 i), .int (f_28 i), .int ((upd d_inDays (adeedCount.toNatClampNeg) p4) i)]))) H := gz_famP (X := [(h0, .inr (0, [.int amonths, .int afull, .int alean, .int alines, .int ahasMoon, .int amoonStart, .int amoonStep, .int aplaceCount, .int areportCount, .int adeedCount, .ref pl, .ref re, .ref de])), (de, .inl (kde, 8, .inr (.inr (.inr (.inr (fun i => some (da i)))))))]) ((List.append_nil _).symm) ((List.append_nil _).symm) (gz_clt (gi_in (n := 8) g_25 (by decide))) (by simp [upd]) (fun i hi => by simp [upd, hi]) hP
    have hD : va_D A (([(h0, .inr (0, [.int amonths, .int afull, .int alean, .int alines, .int ahasMoon, .int amoonStart, .int amoonStep, .int aplaceCount, .int areportCount, .int adeedCount, .ref pl, .ref re, .ref de])), (de, .inl (kde, 8, .inr (.inr (.inr (.inr (fun i => some (da i)))))))] : va_W) ++ (gz_fam 8 da 2 (fun i => [.int (f_26 i), .int (f_27 i), .int (f_28 i), .int ((upd d_inDays (adeedCount.toNatClampNeg) p4) i)]))) := gz_famD (X := [(h0, .inr (0, [.int amonths, .int afull, .int alean, .int alines, .int ahasMoon, .int amoonStart, .int amoonStep, .int aplaceCount, .int areportCount, .int adeedCount, .ref pl, .ref re, .ref de])), (de, .inl (kde, 8, .inr (.inr (.inr (.inr (fun i => some (da i)))))))]) ((List.append_nil _).symm) ((List.append_nil _).symm) (gz_clt (gi_in (n := 8) g_25 (by decide))) (by simp [upd]) (fun i hi => by simp [upd, hi]) hD
    have gf_29 : ga (upd d_inDays (adeedCount.toNatClampNeg) p4) 8 0 1 := ga_upd gd_inDays gp4
    generalize ef_29 : upd d_inDays (adeedCount.toNatClampNeg) p4 = f_29 at hP hD gf_29
    obtain ⟨hP, hD⟩ := gz_both (w := (([(h0, .inr (0, [.int amonths, .int afull, .int alean, .int alines, .int ahasMoon, .int amoonStart, .int amoonStep, .int aplaceCount, .int areportCount, .int adeedCount, .ref pl, .ref re, .ref de])), (de, .inl (kde, 8, .inr (.inr (.inr (.inr (fun i => some (da i)))))))] : va_W) ++ (gz_fam 8 da 2 (fun i => [.int (f_26 i), .int (f_27 i), .int (f_28 i), .int (f_29 i)])))) hP hD
    refine lv_aload_n hx hb (dk_at dkX0_addDeed 22 rfl) rfl (lv_at hl 1 rfl) ?_
    refine lv_dup hx hb (dk_at dkX0_addDeed 23 rfl) rfl ?_
    refine va_get (D := (dC, dI)) (ci := 0) (v := .int adeedCount) (C := RX0) (T := TX0) (N := 13) hx hb hts (fun w h => List.mem_cons_of_mem _ (jnGA_X0 w h)) hown hK hP 0 rfl rfl 9 (by decide) (hts _ (List.mem_cons_of_mem _ mGA_161)) (fun _ h9 => h9) rfl (dk_at dkX0_addDeed 24 rfl) ?_
    refine lv_iconst (v := 1) hx hb (dk_at dkX0_addDeed 25 rfl) (by decide) ?_
    refine lv_iadd hx hb (dk_at dkX0_addDeed 26 rfl) ?_
    refine lv_topi (fun x_30 ex_30 => ?_)
    have gx_30 : gi x_30 1 8 := gi_add ex_30 g_25 (gi_c 1 1 (by decide)) (by decide)
    refine va_put (D := (dC, dI)) (ci := 0) (v := .int x_30) (ty := .int) (C := RX0) (T := TX0) (N := 13) hx hb hts (fun w h => List.mem_cons_of_mem _ (jnGA_X0 w h)) tyX0 tyX0_ok nmX0 hown hK hP hD hS 0 rfl rfl 9 (by decide) (hts _ (List.mem_cons_of_mem _ mGA_161)) (fun _ h9 => h9) rfl fdX0_9 rfl rfl (Nat.le_of_ble_eq_true rfl) (dk_at dkX0_addDeed 27 rfl) (fun H locs hP hD hS => ?_)
    obtain ⟨hP, hD⟩ := gz_both (w := (([(h0, .inr (0, [.int amonths, .int afull, .int alean, .int alines, .int ahasMoon, .int amoonStart, .int amoonStep, .int aplaceCount, .int areportCount, .int x_30, .ref pl, .ref re, .ref de])), (de, .inl (kde, 8, .inr (.inr (.inr (.inr (fun i => some (da i)))))))] : va_W) ++ (gz_fam 8 da 2 (fun i => [.int (f_26 i), .int (f_27 i), .int (f_28 i), .int (f_29 i)])))) hP hD
    exact W.vret hx hb hr (fun t ht hW => ⟨⟨(), rfl, trivial, x_30, f_26, f_27, f_28, f_29, (gi_w gx_30 (by decide)), gf_26, gf_28, gf_29, (show ∀ j : Nat, j < 8 → ((f_29 j).toInt ≠ 0 ∨ (f_26 j).toInt + (f_28 j).toInt ≤ 23) from by rw [← ef_29, ← ef_26, ← ef_28]; exact gz_hddU hdc (by have qgp4 := gp4.1; have rgp4 := gp4.2; have qgp3 := gp3.1; have rgp3 := gp3.2; have qgp1 := gp1.1; have rgp1 := gp1.2; have qgadeedCount := g_25.1; have rgadeedCount := g_25.2; omega)), by first | (rw [ex_30, ← ef_29, ← ef_28, ← ef_27, ← ef_26]; exact hF.trans hR9.symm) | ((try rw [ex_30]); (try rw [← ef_29]); (try rw [← ef_28]); (try rw [← ef_27]); (try rw [← ef_26]); exact hF.trans hR9.symm), by rw [ht]; exact hP, hD⟩, hS.F ht⟩) hS.2.2 (dk_at dkX0_addDeed 28 rfl)
noncomputable def lsX6_byteAt : List (Nat × Instr × Nat) := [(0, .iload_n 1, 1), (1, .ifCond .lt 26, 3), (4, .iload_n 1, 1), (5, .aload_n 0, 1), (6, .getfield 12, 3), (9, .getfield 205, 3), (12, .if_icmp .ge 15, 3), (15, .aload_n 0, 1), (16, .getfield 12, 3), (19, .getfield 210, 3), (22, .iload_n 1, 1), (23, .baload, 1), (24, .goto 4, 3), (27, .iconst (-1), 1), (28, .ireturn, 1)]
theorem dkX6_byteAt : dkAll cX6_byteAt lsX6_byteAt = true := dk_fast (by decide +kernel)
noncomputable def bfX6_byteAt_28 (b_length : Int32) (fbt : Nat → Int32) (p1 : Int32) (s0 : Int32) : Int32 := s0
noncomputable def bfX6_byteAt_27 (b_length : Int32) (fbt : Nat → Int32) (p1 : Int32) : Int32 := bfX6_byteAt_28 b_length fbt p1 (-1 : Int32)
noncomputable def fX6_byteAt (b_length : Int32) (fbt : Nat → Int32) (p1 : Int32) : Int32 := if p1 < (0 : Int32) then (bfX6_byteAt_27 b_length fbt p1) else (if b_length ≤ p1 then (bfX6_byteAt_27 b_length fbt p1) else (bfX6_byteAt_28 b_length fbt p1 (fbt p1.toNatClampNeg)))
set_option maxHeartbeats 4000000 in
set_option maxRecDepth 100000 in
theorem sX6_byteAt (l : Launch) (dC : Nat → ClassId) (dI : Nat → Nat → Nat) (h0 : Nat) (tp : Nat) (bt : Nat) (dr : Nat) (q_faultKind : Int32) (q_faultPlace : Int32) (q_token : Int32) (q_start : Int32) (q_stop : Int32) (b_length : Int32) (kbt : ClassId) (fbt : Nat → Int32) (p1 : Int32) (gq_faultKind : gi q_faultKind 0 3) (gq_start : gi q_start 0 1600) (gq_stop : gi q_stop 0 1600) (gb_length : gi b_length 0 1600) : Met l yX6_byteAt (.code yX6_byteAt cX6_byteAt 2 (some .int) :: wsGA) ({ frames := 0, cells := 0, slots := 0, locals := 0 }) (va_Pc [.ref h0, .int p1] (fun U => va_P (dC, dI) vwCl [(h0, .inr (6, [.ref tp, .ref dr, .int q_faultKind, .int q_faultPlace, .int q_token, .int q_start, .int q_stop])), (tp, .inr (10, [.ref bt, .int b_length])), (bt, .inl (kbt, 1600, .inl fbt))] U.heap ∧ va_K (dC, dI) vwCl [(kbt, .byte)] U ∧ nzA U)) (va_Qi (fun (r : Int32) (u : Unit) => (gi r (-2147483648) 2147483647) ∧ r = fX6_byteAt b_length fbt p1) (fun _ _ => True) (fun _ => False)) 0 0 (fun _ => False) := by
  refine Met.ofW (cc := cX6_byteAt) (maxL := 2) (ret := (some .int)) (by decide) rfl ?_
  intro p e s m args below meth c s₁ B hml hv
  obtain ⟨rfl, hP, hK, hz⟩ := hv
  have hx := B.exec
  have hb := B.bytes
  have hr := B.returns
  have hts := atoms_spec (ws := (.code yX6_byteAt cX6_byteAt 2 (some .int) :: wsGA)) B.pre
  have hown : s.vm.findClass RX6 = some m.cls := findClass_of_methodNamed B.named
  have hlocks := B.notSynchronized
  have hS : va_S (fun _ => False) s.heap s.heap [] := va_S.rf
  have hl := lv_entry ([.ref h0, .int p1]) (n := 2) (Nat.le_of_ble_eq_true rfl)
  rw [lg_entry_eq]
  generalize (lg_sl ([.ref h0, .int p1]) ++ List.replicate (2 - (lg_sl ([.ref h0, .int p1])).length) Slot.unset).toArray = ls at hl ⊢
  have hl : lv_has ls 2 [(0, .ref h0), (1, .int p1)] := hl
  obtain ⟨RES, hF⟩ : ∃ R9, fX6_byteAt b_length fbt p1 = R9 := ⟨_, rfl⟩
  have hR9 := hF
  refine lv_iload_n hx hb (dk_at dkX6_byteAt 0 rfl) rfl (lv_at hl 1 rfl) ?_
  refine lv_if_lt (tgt := 27) hx hb (dk_at dkX6_byteAt 1 rfl) (by decide) (fun c_8 => ?_) (fun c_8 => ?_)
  · have hF := gf_pos c_8 hF
    have g_9 : gi p1 (-2147483648) (-1) := gi_lt_l c_8 (gi_any p1) (gi_c 0 0 (by decide)) (by decide)
    refine lv_iconst (v := (-1)) hx hb (dk_at dkX6_byteAt 13 rfl) (by decide) ?_
    exact W.iret (v := (-1)) hx hb hr (fun t ht hW => ⟨⟨(-1), (), rfl, ⟨(gi_any (-1)), hF.trans hR9.symm⟩, trivial⟩, hS.F ht⟩) hS.2.2 (dk_at dkX6_byteAt 14 rfl)
  · have hF := gf_neg c_8 hF
    have g_10 : gi p1 0 2147483647 := gi_le_r (Int32.not_lt.mp c_8) (gi_c 0 0 (by decide)) (gi_any p1)
    refine lv_iload_n hx hb (dk_at dkX6_byteAt 2 rfl) rfl (lv_at hl 1 rfl) ?_
    refine lv_aload_n hx hb (dk_at dkX6_byteAt 3 rfl) rfl (lv_at hl 0 rfl) ?_
    refine va_get (D := (dC, dI)) (ci := 6) (v := .ref tp) (C := RX6) (T := TX6) (N := 7) hx hb hts (fun w h => List.mem_cons_of_mem _ (jnGA_X6 w h)) hown hK hP 0 rfl rfl 0 (by decide) (hts _ (List.mem_cons_of_mem _ mGA_52)) (fun _ h9 => h9) rfl (dk_at dkX6_byteAt 4 rfl) ?_
    refine va_get (D := (dC, dI)) (ci := 10) (v := .int b_length) (C := RX10) (T := TX10) (N := 2) hx hb hts (fun w h => List.mem_cons_of_mem _ (jnGA_X10 w h)) hown hK hP 1 rfl rfl 1 (by decide) (hts _ (List.mem_cons_of_mem _ mGA_166)) (fun _ h9 => h9) rfl (dk_at dkX6_byteAt 5 rfl) ?_
    refine lv_icmp_ge (tgt := 27) hx hb (dk_at dkX6_byteAt 6 rfl) (by decide) (fun c_11 => ?_) (fun c_11 => ?_)
    · have hF := gf_pos c_11 hF
      refine lv_iconst (v := (-1)) hx hb (dk_at dkX6_byteAt 13 rfl) (by decide) ?_
      exact W.iret (v := (-1)) hx hb hr (fun t ht hW => ⟨⟨(-1), (), rfl, ⟨(gi_any (-1)), hF.trans hR9.symm⟩, trivial⟩, hS.F ht⟩) hS.2.2 (dk_at dkX6_byteAt 14 rfl)
    · have hF := gf_neg c_11 hF
      have g_12 : gi p1 0 1599 := gi_lt_l (Int32.not_le.mp c_11) g_10 gb_length (by decide)
      have g_13 : gi b_length 1 1600 := gi_lt_r (Int32.not_le.mp c_11) g_10 gb_length (by decide)
      refine lv_aload_n hx hb (dk_at dkX6_byteAt 7 rfl) rfl (lv_at hl 0 rfl) ?_
      refine va_get (D := (dC, dI)) (ci := 6) (v := .ref tp) (C := RX6) (T := TX6) (N := 7) hx hb hts (fun w h => List.mem_cons_of_mem _ (jnGA_X6 w h)) hown hK hP 0 rfl rfl 0 (by decide) (hts _ (List.mem_cons_of_mem _ mGA_52)) (fun _ h9 => h9) rfl (dk_at dkX6_byteAt 8 rfl) ?_
      refine va_get (D := (dC, dI)) (ci := 10) (v := .ref bt) (C := RX10) (T := TX10) (N := 2) hx hb hts (fun w h => List.mem_cons_of_mem _ (jnGA_X10 w h)) hown hK hP 1 rfl rfl 0 (by decide) (hts _ (List.mem_cons_of_mem _ mGA_171)) (fun _ h9 => h9) rfl (dk_at dkX6_byteAt 9 rfl) ?_
      refine lv_iload_n hx hb (dk_at dkX6_byteAt 10 rfl) rfl (lv_at hl 1 rfl) ?_
      refine va_bald hx hb hK hP 2 0 rfl rfl (gi_in g_12 (by decide)) (dk_at dkX6_byteAt 11 rfl) ?_
      refine lv_topi (fun x_14 ex_14 => ?_)
      refine lv_goto (tgt := 28) hx hb (dk_at dkX6_byteAt 12 rfl) (by decide) ?_
      exact W.iret (v := x_14) hx hb hr (fun t ht hW => ⟨⟨x_14, (), rfl, ⟨(gi_any x_14), by first | (rw [ex_14]; exact hF.trans hR9.symm) | ((try rw [ex_14]); exact hF.trans hR9.symm)⟩, trivial⟩, hS.F ht⟩) hS.2.2 (dk_at dkX6_byteAt 14 rfl)
noncomputable def lsX6_step : List (Nat × Instr × Nat) := [(0, .aload_n 0, 1), (1, .getfield 25, 3), (4, .ifCond .eq 4, 3), (7, .return_, 1), (8, .aload_n 0, 1), (9, .aload_n 0, 1), (10, .getfield 38, 3), (13, .putfield 35, 3), (16, .aload_n 0, 1), (17, .getfield 35, 3), (20, .aload_n 0, 1), (21, .getfield 12, 3), (24, .getfield 205, 3), (27, .if_icmp .ge 30, 3), (30, .aload_n 0, 1), (31, .aload_n 0, 1), (32, .getfield 35, 3), (35, .invokevirtual 181, 3), (38, .invokestatic 207, 3), (41, .ifCond .eq 16, 3), (44, .aload_n 0, 1), (45, .dup, 1), (46, .getfield 35, 3), (49, .iconst 1, 1), (50, .iadd, 1), (51, .putfield 35, 3), (54, .goto (-38), 3), (57, .aload_n 0, 1), (58, .aload_n 0, 1), (59, .getfield 35, 3), (62, .putfield 38, 3), (65, .aload_n 0, 1), (66, .aload_n 0, 1), (67, .getfield 35, 3), (70, .invokevirtual 181, 3), (73, .istore_n 1, 1), (74, .aload_n 0, 1), (75, .getfield 35, 3), (78, .aload_n 0, 1), (79, .getfield 12, 3), (82, .getfield 205, 3), (85, .if_icmp .lt 11, 3), (88, .aload_n 0, 1), (89, .iconst 0, 1), (90, .putfield 32, 3), (93, .goto 134, 3), (96, .iload_n 1, 1), (97, .invokestatic 184, 3), (100, .ifCond .eq 49, 3), (103, .aload_n 0, 1), (104, .iconst 2, 1), (105, .putfield 32, 3), (108, .aload_n 0, 1), (109, .getfield 38, 3), (112, .aload_n 0, 1), (113, .getfield 12, 3), (116, .getfield 205, 3), (119, .if_icmp .ge 108, 3), (122, .aload_n 0, 1), (123, .aload_n 0, 1), (124, .getfield 38, 3), (127, .invokevirtual 181, 3), (130, .invokestatic 184, 3), (133, .ifCond .eq 94, 3), (136, .aload_n 0, 1), (137, .dup, 1), (138, .getfield 38, 3), (141, .iconst 1, 1), (142, .iadd, 1), (143, .putfield 38, 3), (146, .goto (-38), 3), (149, .iload_n 1, 1), (150, .invokestatic 188, 3), (153, .ifCond .eq 49, 3), (156, .aload_n 0, 1), (157, .iconst 3, 1), (158, .putfield 32, 3), (161, .aload_n 0, 1), (162, .getfield 38, 3), (165, .aload_n 0, 1), (166, .getfield 12, 3), (169, .getfield 205, 3), (172, .if_icmp .ge 55, 3), (175, .aload_n 0, 1), (176, .aload_n 0, 1), (177, .getfield 38, 3), (180, .invokevirtual 181, 3), (183, .invokestatic 188, 3), (186, .ifCond .eq 41, 3), (189, .aload_n 0, 1), (190, .dup, 1), (191, .getfield 38, 3), (194, .iconst 1, 1), (195, .iadd, 1), (196, .putfield 38, 3), (199, .goto (-38), 3), (202, .aload_n 0, 1), (203, .iload_n 1, 1), (204, .bipush 59, 2), (206, .if_icmp .ne 7, 3), (209, .iconst 4, 1), (210, .goto 4, 3), (213, .iconst 1, 1), (214, .putfield 32, 3), (217, .aload_n 0, 1), (218, .dup, 1), (219, .getfield 38, 3), (222, .iconst 1, 1), (223, .iadd, 1), (224, .putfield 38, 3), (227, .return_, 1)]
theorem dkX6_step : dkAll cX6_step lsX6_step = true := dk_fast (by decide +kernel)
noncomputable def bfX6_step_227 (q_faultKind : Int32) (q_token : Int32) (q_start : Int32) (q_stop : Int32) (b_length : Int32) (fbt : Nat → Int32) (K : (Int32 → (Int32 × Int32 × Int32)) × (Int32 → Int32 → Int32 → (Int32 × Int32 × Int32)) × (Int32 → Int32 → Int32 → (Int32 × Int32 × Int32))) (w0_4 : Int32) (w0_5 : Int32) (w0_6 : Int32) : Int32 × Int32 × Int32 := (w0_4, w0_5, w0_6)
noncomputable def bfX6_step_214 (q_faultKind : Int32) (q_token : Int32) (q_start : Int32) (q_stop : Int32) (b_length : Int32) (fbt : Nat → Int32) (K : (Int32 → (Int32 × Int32 × Int32)) × (Int32 → Int32 → Int32 → (Int32 × Int32 × Int32)) × (Int32 → Int32 → Int32 → (Int32 × Int32 × Int32))) (s0 : Int32) (w0_4 : Int32) (w0_5 : Int32) (w0_6 : Int32) : Int32 × Int32 × Int32 := bfX6_step_227 q_faultKind q_token q_start q_stop b_length fbt K s0 w0_5 (w0_6 + (1 : Int32))
noncomputable def bfX6_step_57 (q_faultKind : Int32) (q_token : Int32) (q_start : Int32) (q_stop : Int32) (b_length : Int32) (fbt : Nat → Int32) (K : (Int32 → (Int32 × Int32 × Int32)) × (Int32 → Int32 → Int32 → (Int32 × Int32 × Int32)) × (Int32 → Int32 → Int32 → (Int32 × Int32 × Int32))) (w0_4 : Int32) (w0_5 : Int32) (w0_6 : Int32) : Int32 × Int32 × Int32 := cal (fun o7 => if w0_5 < b_length then (cal (fun o8 => if o8 = (0 : Int32) then (cal (fun o9 => if o9 = (0 : Int32) then (if o7 = (59 : Int32) then (bfX6_step_214 q_faultKind q_token q_start q_stop b_length fbt K (4 : Int32) w0_4 w0_5 w0_5) else (bfX6_step_214 q_faultKind q_token q_start q_stop b_length fbt K (1 : Int32) w0_4 w0_5 w0_5)) else (K.2.2 (3 : Int32) w0_5 w0_5)) (fX6_isDigit o7)) else (K.2.1 (2 : Int32) w0_5 w0_5)) (fX6_isLetter o7)) else (bfX6_step_227 q_faultKind q_token q_start q_stop b_length fbt K (0 : Int32) w0_5 w0_5)) (fX6_byteAt b_length fbt w0_5)
noncomputable def dfX6_step_16 (q_faultKind : Int32) (q_token : Int32) (q_start : Int32) (q_stop : Int32) (b_length : Int32) (fbt : Nat → Int32) (K : (Int32 → (Int32 × Int32 × Int32)) × (Int32 → Int32 → Int32 → (Int32 × Int32 × Int32)) × (Int32 → Int32 → Int32 → (Int32 × Int32 × Int32))) (w0_5 : Int32) : Int32 × Int32 × Int32 := if b_length ≤ w0_5 then (bfX6_step_57 q_faultKind q_token q_start q_stop b_length fbt K q_token w0_5 q_stop) else (cal (fun o1 => cal (fun o2 => if o2 = (0 : Int32) then (bfX6_step_57 q_faultKind q_token q_start q_stop b_length fbt K q_token w0_5 q_stop) else (K.1 (w0_5 + (1 : Int32)))) (fX6_isBlank o1)) (fX6_byteAt b_length fbt w0_5))
noncomputable def dfX6_step_108 (q_faultKind : Int32) (q_token : Int32) (q_start : Int32) (q_stop : Int32) (b_length : Int32) (fbt : Nat → Int32) (K : (Int32 → (Int32 × Int32 × Int32)) × (Int32 → Int32 → Int32 → (Int32 × Int32 × Int32)) × (Int32 → Int32 → Int32 → (Int32 × Int32 × Int32))) (w0_4 : Int32) (w0_5 : Int32) (w0_6 : Int32) : Int32 × Int32 × Int32 := if b_length ≤ w0_6 then (bfX6_step_227 q_faultKind q_token q_start q_stop b_length fbt K w0_4 w0_5 w0_6) else (cal (fun o3 => cal (fun o4 => if o4 = (0 : Int32) then (bfX6_step_227 q_faultKind q_token q_start q_stop b_length fbt K w0_4 w0_5 w0_6) else (K.2.1 w0_4 w0_5 (w0_6 + (1 : Int32)))) (fX6_isLetter o3)) (fX6_byteAt b_length fbt w0_6))
noncomputable def dfX6_step_161 (q_faultKind : Int32) (q_token : Int32) (q_start : Int32) (q_stop : Int32) (b_length : Int32) (fbt : Nat → Int32) (K : (Int32 → (Int32 × Int32 × Int32)) × (Int32 → Int32 → Int32 → (Int32 × Int32 × Int32)) × (Int32 → Int32 → Int32 → (Int32 × Int32 × Int32))) (w0_4 : Int32) (w0_5 : Int32) (w0_6 : Int32) : Int32 × Int32 × Int32 := if b_length ≤ w0_6 then (bfX6_step_227 q_faultKind q_token q_start q_stop b_length fbt K w0_4 w0_5 w0_6) else (cal (fun o5 => cal (fun o6 => if o6 = (0 : Int32) then (bfX6_step_227 q_faultKind q_token q_start q_stop b_length fbt K w0_4 w0_5 w0_6) else (K.2.2 w0_4 w0_5 (w0_6 + (1 : Int32)))) (fX6_isDigit o5)) (fX6_byteAt b_length fbt w0_6))
noncomputable def lfX6_step (q_faultKind : Int32) (q_token : Int32) (q_start : Int32) (q_stop : Int32) (b_length : Int32) (fbt : Nat → Int32) (z : Nat) : (Int32 → (Int32 × Int32 × Int32)) × (Int32 → Int32 → Int32 → (Int32 × Int32 × Int32)) × (Int32 → Int32 → Int32 → (Int32 × Int32 × Int32)) := Nat.rec (motive := fun _ => (Int32 → (Int32 × Int32 × Int32)) × (Int32 → Int32 → Int32 → (Int32 × Int32 × Int32)) × (Int32 → Int32 → Int32 → (Int32 × Int32 × Int32))) ((fun w0_5 => (0, w0_5, 0), fun w0_4 w0_5 w0_6 => (w0_4, w0_5, w0_6), fun w0_4 w0_5 w0_6 => (w0_4, w0_5, w0_6))) (fun _ K => (dfX6_step_16 q_faultKind q_token q_start q_stop b_length fbt K, dfX6_step_108 q_faultKind q_token q_start q_stop b_length fbt K, dfX6_step_161 q_faultKind q_token q_start q_stop b_length fbt K)) z
noncomputable def fX6_step (q_faultKind : Int32) (q_token : Int32) (q_start : Int32) (q_stop : Int32) (b_length : Int32) (fbt : Nat → Int32) : Int32 × Int32 × Int32 := if q_faultKind = (0 : Int32) then ((lfX6_step q_faultKind q_token q_start q_stop b_length fbt 1000000000).1 q_stop) else (q_token, q_start, q_stop)
set_option maxHeartbeats 4000000 in
set_option maxRecDepth 100000 in
theorem lp_sX6_step {p : Program} {l : Launch} {e : Env} {R : Room} {s : State} {m : MethodId} {args : Array Value} {below : List Frame} {meth : Method} {c : Code} {Q : State → Prop} {A : Nat → Prop} {cells slots : Nat} {dC : Nat → ClassId} {dI : Nat → Nat → Nat} {RES : Int32 × Int32 × Int32} (h0 : Nat) (tp : Nat) (bt : Nat) (dr : Nat) (q_faultKind : Int32) (q_faultPlace : Int32) (q_token : Int32) (q_start : Int32) (q_stop : Int32) (b_length : Int32) (kbt : ClassId) (fbt : Nat → Int32) (gq_faultKind : gi q_faultKind 0 3) (gq_start : gi q_start 0 1600) (gq_stop : gi q_stop 0 1600) (gb_length : gi b_length 0 1600) (hx : p.tables.exec = Jvm.exec) (hb : c.code = cX6_step) (hml : c.maxLocals = 2) (hown : s.vm.findClass RX6 = some m.cls) (hts : ∀ w ∈ ((.code yX6_step cX6_step 2 none :: wsGA) : List Cond), w.before args s = true) (hK : va_K (dC, dI) vwCl [(kbt, .byte)] s) (hz : nzA s) (hA : ∀ q : Nat, s.heap.size ≤ q → A q) (hRf : 1 ≤ R.frames) (hRl : 21 ≤ R.locals) (hRc : cells ≤ R.cells) (hRs : slots ≤ R.slots) (kr7 : ∀ (w0_4 : Int32) (w0_5 : Int32) (w0_6 : Int32) (H : Heap) (locs : List Loc) (ls : Array Slot), gi w0_5 0 1600 → gi w0_6 0 1600 → (w0_4, w0_5, w0_6) = RES → va_P (dC, dI) vwCl [(h0, .inr (6, [.ref tp, .ref dr, .int q_faultKind, .int q_faultPlace, .int w0_4, .int w0_5, .int w0_6])), (tp, .inr (10, [.ref bt, .int b_length])), (bt, .inl (kbt, 1600, .inl fbt))] H → va_D A [(h0, .inr (6, [.ref tp, .ref dr, .int q_faultKind, .int q_faultPlace, .int w0_4, .int w0_5, .int w0_6])), (tp, .inr (10, [.ref bt, .int b_length])), (bt, .inl (kbt, 1600, .inl fbt))] → va_S A s.heap H locs → lv_has ls 2 [] → W p l e R s m args below meth c H locs cells slots Q (F0 m 7 ls [])) (kr227 : ∀ (w0_4 : Int32) (w0_5 : Int32) (w0_6 : Int32) (H : Heap) (locs : List Loc) (ls : Array Slot), gi w0_5 0 1600 → gi w0_6 0 1600 → (w0_4, w0_5, w0_6) = RES → va_P (dC, dI) vwCl [(h0, .inr (6, [.ref tp, .ref dr, .int q_faultKind, .int q_faultPlace, .int w0_4, .int w0_5, .int w0_6])), (tp, .inr (10, [.ref bt, .int b_length])), (bt, .inl (kbt, 1600, .inl fbt))] H → va_D A [(h0, .inr (6, [.ref tp, .ref dr, .int q_faultKind, .int q_faultPlace, .int w0_4, .int w0_5, .int w0_6])), (tp, .inr (10, [.ref bt, .int b_length])), (bt, .inl (kbt, 1600, .inl fbt))] → va_S A s.heap H locs → lv_has ls 2 [] → W p l e R s m args below meth c H locs cells slots Q (F0 m 227 ls [])) : ∀ z : Nat, (∀ (w0_5 : Int32) (H : Heap) (locs : List Loc) (ls : Array Slot), gi w0_5 0 1600 → (lfX6_step q_faultKind q_token q_start q_stop b_length fbt z).1 w0_5 = RES → 9609 + (-2) * w0_5.toInt < (z : Int) → va_P (dC, dI) vwCl [(h0, .inr (6, [.ref tp, .ref dr, .int q_faultKind, .int q_faultPlace, .int q_token, .int w0_5, .int q_stop])), (tp, .inr (10, [.ref bt, .int b_length])), (bt, .inl (kbt, 1600, .inl fbt))] H → va_D A [(h0, .inr (6, [.ref tp, .ref dr, .int q_faultKind, .int q_faultPlace, .int q_token, .int w0_5, .int q_stop])), (tp, .inr (10, [.ref bt, .int b_length])), (bt, .inl (kbt, 1600, .inl fbt))] → va_S A s.heap H locs → lv_has ls 2 [(0, .ref h0)] → W p l e R s m args below meth c H locs cells slots Q (F0 m 16 ls [])) ∧ (∀ (v1 : Int32) (w0_4 : Int32) (w0_5 : Int32) (w0_6 : Int32) (H : Heap) (locs : List Loc) (ls : Array Slot), gi w0_5 0 1600 → gi w0_6 0 1600 → (lfX6_step q_faultKind q_token q_start q_stop b_length fbt z).2.1 w0_4 w0_5 w0_6 = RES → 6405 + (-2) * w0_6.toInt < (z : Int) → va_P (dC, dI) vwCl [(h0, .inr (6, [.ref tp, .ref dr, .int q_faultKind, .int q_faultPlace, .int w0_4, .int w0_5, .int w0_6])), (tp, .inr (10, [.ref bt, .int b_length])), (bt, .inl (kbt, 1600, .inl fbt))] H → va_D A [(h0, .inr (6, [.ref tp, .ref dr, .int q_faultKind, .int q_faultPlace, .int w0_4, .int w0_5, .int w0_6])), (tp, .inr (10, [.ref bt, .int b_length])), (bt, .inl (kbt, 1600, .inl fbt))] → va_S A s.heap H locs → lv_has ls 2 [(0, .ref h0), (1, .int v1)] → W p l e R s m args below meth c H locs cells slots Q (F0 m 108 ls [])) ∧ (∀ (v1 : Int32) (w0_4 : Int32) (w0_5 : Int32) (w0_6 : Int32) (H : Heap) (locs : List Loc) (ls : Array Slot), gi w0_5 0 1600 → gi w0_6 0 1600 → (lfX6_step q_faultKind q_token q_start q_stop b_length fbt z).2.2 w0_4 w0_5 w0_6 = RES → 3201 + (-2) * w0_6.toInt < (z : Int) → va_P (dC, dI) vwCl [(h0, .inr (6, [.ref tp, .ref dr, .int q_faultKind, .int q_faultPlace, .int w0_4, .int w0_5, .int w0_6])), (tp, .inr (10, [.ref bt, .int b_length])), (bt, .inl (kbt, 1600, .inl fbt))] H → va_D A [(h0, .inr (6, [.ref tp, .ref dr, .int q_faultKind, .int q_faultPlace, .int w0_4, .int w0_5, .int w0_6])), (tp, .inr (10, [.ref bt, .int b_length])), (bt, .inl (kbt, 1600, .inl fbt))] → va_S A s.heap H locs → lv_has ls 2 [(0, .ref h0), (1, .int v1)] → W p l e R s m args below meth c H locs cells slots Q (F0 m 161 ls [])) := by
  intro z
  induction z with
  | zero =>
    refine ⟨?_, ?_, ?_⟩
    · intro w0_5 H locs ls gw0_5 hF hmu hP hD hS hl
      exact absurd hmu (by have hw0_51 := gw0_5.1; have hw0_52 := gw0_5.2; omega)
    · intro v1 w0_4 w0_5 w0_6 H locs ls gw0_5 gw0_6 hF hmu hP hD hS hl
      exact absurd hmu (by have hw0_61 := gw0_6.1; have hw0_62 := gw0_6.2; omega)
    · intro v1 w0_4 w0_5 w0_6 H locs ls gw0_5 gw0_6 hF hmu hP hD hS hl
      exact absurd hmu (by have hw0_61 := gw0_6.1; have hw0_62 := gw0_6.2; omega)
  | succ z ih =>
    refine ⟨?_, ?_, ?_⟩
    · intro w0_5 H locs ls gw0_5 hF hmu hP hD hS hl
      have hF : dfX6_step_16 q_faultKind q_token q_start q_stop b_length fbt (lfX6_step q_faultKind q_token q_start q_stop b_length fbt z) w0_5 = RES := hF
      refine lv_aload_n hx hb (dk_at dkX6_step 8 rfl) rfl (lv_at hl 0 rfl) ?_
      refine va_get (D := (dC, dI)) (ci := 6) (v := .int w0_5) (C := RX6) (T := TX6) (N := 7) hx hb hts (fun w h => List.mem_cons_of_mem _ (jnGA_X6 w h)) hown hK hP 0 rfl rfl 5 (by decide) (hts _ (List.mem_cons_of_mem _ mGA_58)) (fun _ h9 => h9) rfl (dk_at dkX6_step 9 rfl) ?_
      refine lv_aload_n hx hb (dk_at dkX6_step 10 rfl) rfl (lv_at hl 0 rfl) ?_
      refine va_get (D := (dC, dI)) (ci := 6) (v := .ref tp) (C := RX6) (T := TX6) (N := 7) hx hb hts (fun w h => List.mem_cons_of_mem _ (jnGA_X6 w h)) hown hK hP 0 rfl rfl 0 (by decide) (hts _ (List.mem_cons_of_mem _ mGA_52)) (fun _ h9 => h9) rfl (dk_at dkX6_step 11 rfl) ?_
      refine va_get (D := (dC, dI)) (ci := 10) (v := .int b_length) (C := RX10) (T := TX10) (N := 2) hx hb hts (fun w h => List.mem_cons_of_mem _ (jnGA_X10 w h)) hown hK hP 1 rfl rfl 1 (by decide) (hts _ (List.mem_cons_of_mem _ mGA_166)) (fun _ h9 => h9) rfl (dk_at dkX6_step 12 rfl) ?_
      refine lv_icmp_ge (tgt := 57) hx hb (dk_at dkX6_step 13 rfl) (by decide) (fun c_127 => ?_) (fun c_127 => ?_)
      · have hF := gf_pos c_127 hF
        refine lv_aload_n hx hb (dk_at dkX6_step 27 rfl) rfl (lv_at hl 0 rfl) ?_
        refine lv_aload_n hx hb (dk_at dkX6_step 28 rfl) rfl (lv_at hl 0 rfl) ?_
        refine va_get (D := (dC, dI)) (ci := 6) (v := .int w0_5) (C := RX6) (T := TX6) (N := 7) hx hb hts (fun w h => List.mem_cons_of_mem _ (jnGA_X6 w h)) hown hK hP 0 rfl rfl 5 (by decide) (hts _ (List.mem_cons_of_mem _ mGA_58)) (fun _ h9 => h9) rfl (dk_at dkX6_step 29 rfl) ?_
        refine va_put (D := (dC, dI)) (ci := 6) (v := .int w0_5) (ty := .int) (C := RX6) (T := TX6) (N := 7) hx hb hts (fun w h => List.mem_cons_of_mem _ (jnGA_X6 w h)) tyX6 tyX6_ok nmX6 hown hK hP hD hS 0 rfl rfl 6 (by decide) (hts _ (List.mem_cons_of_mem _ mGA_59)) (fun _ h9 => h9) rfl fdX6_6 rfl rfl (Nat.le_of_ble_eq_true rfl) (dk_at dkX6_step 30 rfl) (fun H locs hP hD hS => ?_)
        obtain ⟨hP, hD⟩ := gz_both (w := [(h0, .inr (6, [.ref tp, .ref dr, .int q_faultKind, .int q_faultPlace, .int q_token, .int w0_5, .int w0_5])), (tp, .inr (10, [.ref bt, .int b_length])), (bt, .inl (kbt, 1600, .inl fbt))]) hP hD
        refine lv_aload_n hx hb (dk_at dkX6_step 31 rfl) rfl (lv_at hl 0 rfl) ?_
        refine lv_aload_n hx hb (dk_at dkX6_step 32 rfl) rfl (lv_at hl 0 rfl) ?_
        refine va_get (D := (dC, dI)) (ci := 6) (v := .int w0_5) (C := RX6) (T := TX6) (N := 7) hx hb hts (fun w h => List.mem_cons_of_mem _ (jnGA_X6 w h)) hown hK hP 0 rfl rfl 5 (by decide) (hts _ (List.mem_cons_of_mem _ mGA_58)) (fun _ h9 => h9) rfl (dk_at dkX6_step 33 rfl) ?_
        refine va_calli (va_runV (As := [.int w0_5]) (rest := []) ⟨hx, hb, hml, hown, hts⟩ (sX6_byteAt l dC dI h0 tp bt dr q_faultKind q_faultPlace q_token w0_5 w0_5 b_length kbt fbt w0_5 gq_faultKind gw0_5 gw0_5 gb_length) (cwV 1 hts (gz_gV mGA_167 mGA_168 mGA_169 mGA_9 mGA_170 goodGA) rfl rfl rfl hdV_X6_byteAt_X6_1 ⟨Nat.le_trans (Nat.le_of_ble_eq_true rfl) hRf, Nat.le_trans (Nat.le_of_ble_eq_true rfl) hRl⟩) ⟨bl_I (bl_a bl_P (bl_a bl_K bl_nz)), va_recv hK hP (ci := 6) (q0 := 0) rfl rfl, fun U hU hW => ⟨rfl, by rw [hU]; exact hP, va_K.moved hW.alike hK, nzA_warm hW hz⟩⟩ rfl rfl hl.1 rfl (lv_room (Nat.le_of_ble_eq_true rfl)) (dk_at dkX6_step 34 rfl) ⟨hRc, hRs⟩) hS (fun q _ h => h.elim) (fun q h => h.elim) (fun r_128 u t H1 locs ht hvm hw hB hz1 hk1 hS => ?_)
        obtain ⟨hw, hE⟩ := hw
        have hP := gz_keep hP hk1
        have hF := gf_call (a := r_128) hE hF
        generalize H1 = H at hP hS ⊢
        refine lv_istore_n (lv' := [(1, .int r_128), (0, .ref h0)]) hx hb (dk_at dkX6_step 35 rfl) rfl hl (by decide) rfl (fun ls hl => ?_)
        refine lv_aload_n hx hb (dk_at dkX6_step 36 rfl) rfl (lv_at hl 1 rfl) ?_
        refine va_get (D := (dC, dI)) (ci := 6) (v := .int w0_5) (C := RX6) (T := TX6) (N := 7) hx hb hts (fun w h => List.mem_cons_of_mem _ (jnGA_X6 w h)) hown hK hP 0 rfl rfl 5 (by decide) (hts _ (List.mem_cons_of_mem _ mGA_58)) (fun _ h9 => h9) rfl (dk_at dkX6_step 37 rfl) ?_
        refine lv_aload_n hx hb (dk_at dkX6_step 38 rfl) rfl (lv_at hl 1 rfl) ?_
        refine va_get (D := (dC, dI)) (ci := 6) (v := .ref tp) (C := RX6) (T := TX6) (N := 7) hx hb hts (fun w h => List.mem_cons_of_mem _ (jnGA_X6 w h)) hown hK hP 0 rfl rfl 0 (by decide) (hts _ (List.mem_cons_of_mem _ mGA_52)) (fun _ h9 => h9) rfl (dk_at dkX6_step 39 rfl) ?_
        refine va_get (D := (dC, dI)) (ci := 10) (v := .int b_length) (C := RX10) (T := TX10) (N := 2) hx hb hts (fun w h => List.mem_cons_of_mem _ (jnGA_X10 w h)) hown hK hP 1 rfl rfl 1 (by decide) (hts _ (List.mem_cons_of_mem _ mGA_166)) (fun _ h9 => h9) rfl (dk_at dkX6_step 40 rfl) ?_
        refine lv_icmp_lt (tgt := 96) hx hb (dk_at dkX6_step 41 rfl) (by decide) (fun c_129 => ?_) (fun c_129 => ?_)
        · have hF := gf_pos c_129 hF
          have g_130 : gi w0_5 0 1599 := gi_lt_l c_129 gw0_5 gb_length (by decide)
          have g_131 : gi b_length 0 1599 := gi_rel (Int32.le_iff_toInt_le.mp c_127) gb_length g_130
          have g_132 : gi b_length 1 1600 := gi_lt_r c_129 gw0_5 gb_length (by decide)
          refine lv_iload_n hx hb (dk_at dkX6_step 46 rfl) rfl (lv_at hl 0 rfl) ?_
          have hPc := hP.sub (ws' := []) [] rfl
          have hKc := hK.sub (tys' := []) [] rfl
          refine va_calli (va_runS (As := [.int r_128]) (rest := []) ⟨hx, hb, hml, hown, hts⟩ (sX6_isLetter l dC dI r_128) (cwS 1 hts (gz_gS mGA_175 mGA_176 mGA_9 mGA_177 goodGA) rfl rfl rfl hdS_X6_isLetter_X6_1 ⟨Nat.le_trans (Nat.le_of_ble_eq_true rfl) hRf, Nat.le_trans (Nat.le_of_ble_eq_true rfl) hRl⟩) ⟨bl_I (bl_a bl_P (bl_a bl_K bl_nz)), fun U hU hW => ⟨rfl, by rw [hU]; exact hPc, va_K.moved hW.alike hKc, nzA_warm hW hz⟩⟩ rfl rfl hl.1 rfl (lv_room (Nat.le_of_ble_eq_true rfl)) (dk_at dkX6_step 47 rfl) ⟨hRc, hRs⟩) hS (fun q _ h => h.elim) (fun q h => h.elim) (fun r_133 u t H1 locs ht hvm hw hB hz1 hk1 hS => ?_)
          obtain ⟨hw, hE⟩ := hw
          have hP := gz_keep hP hk1
          have hF := gf_call (a := r_133) hE hF
          generalize H1 = H at hP hS ⊢
          have gr_133 : gi r_133 0 1 := hw
          refine lv_if_eq (tgt := 149) hx hb (dk_at dkX6_step 48 rfl) (by decide) (fun c_134 => ?_) (fun c_134 => ?_)
          · have hF := gf_pos c_134 hF
            have g_135 : gi r_133 0 0 := gi_eq c_134 (gi_c 0 0 (by decide))
            refine lv_iload_n hx hb (dk_at dkX6_step 71 rfl) rfl (lv_at hl 0 rfl) ?_
            have hPc := hP.sub (ws' := []) [] rfl
            have hKc := hK.sub (tys' := []) [] rfl
            refine va_calli (va_runS (As := [.int r_128]) (rest := []) ⟨hx, hb, hml, hown, hts⟩ (sX6_isDigit l dC dI r_128) (cwS 1 hts (gz_gS mGA_178 mGA_179 mGA_9 mGA_180 goodGA) rfl rfl rfl hdS_X6_isDigit_X6_1 ⟨Nat.le_trans (Nat.le_of_ble_eq_true rfl) hRf, Nat.le_trans (Nat.le_of_ble_eq_true rfl) hRl⟩) ⟨bl_I (bl_a bl_P (bl_a bl_K bl_nz)), fun U hU hW => ⟨rfl, by rw [hU]; exact hPc, va_K.moved hW.alike hKc, nzA_warm hW hz⟩⟩ rfl rfl hl.1 rfl (lv_room (Nat.le_of_ble_eq_true rfl)) (dk_at dkX6_step 72 rfl) ⟨hRc, hRs⟩) hS (fun q _ h => h.elim) (fun q h => h.elim) (fun r_136 u t H1 locs ht hvm hw hB hz1 hk1 hS => ?_)
            obtain ⟨hw, hE⟩ := hw
            have hP := gz_keep hP hk1
            have hF := gf_call (a := r_136) hE hF
            generalize H1 = H at hP hS ⊢
            have gr_136 : gi r_136 0 1 := hw
            refine lv_if_eq (tgt := 202) hx hb (dk_at dkX6_step 73 rfl) (by decide) (fun c_137 => ?_) (fun c_137 => ?_)
            · have hF := gf_pos c_137 hF
              have g_138 : gi r_136 0 0 := gi_eq c_137 (gi_c 0 0 (by decide))
              refine lv_aload_n hx hb (dk_at dkX6_step 96 rfl) rfl (lv_at hl 1 rfl) ?_
              refine lv_iload_n hx hb (dk_at dkX6_step 97 rfl) rfl (lv_at hl 0 rfl) ?_
              refine lv_bipush (v := 59) hx hb (dk_at dkX6_step 98 rfl) (by decide) ?_
              refine lv_icmp_ne (tgt := 213) hx hb (dk_at dkX6_step 99 rfl) (by decide) (fun c_139 => ?_) (fun c_139 => ?_)
              · have hF := gf_neg c_139 hF
                refine lv_iconst (v := 1) hx hb (dk_at dkX6_step 102 rfl) (by decide) ?_
                refine va_put (D := (dC, dI)) (ci := 6) (v := .int 1) (ty := .int) (C := RX6) (T := TX6) (N := 7) hx hb hts (fun w h => List.mem_cons_of_mem _ (jnGA_X6 w h)) tyX6 tyX6_ok nmX6 hown hK hP hD hS 0 rfl rfl 4 (by decide) (hts _ (List.mem_cons_of_mem _ mGA_57)) (fun _ h9 => h9) rfl fdX6_4 rfl rfl (Nat.le_of_ble_eq_true rfl) (dk_at dkX6_step 103 rfl) (fun H locs hP hD hS => ?_)
                obtain ⟨hP, hD⟩ := gz_both (w := [(h0, .inr (6, [.ref tp, .ref dr, .int q_faultKind, .int q_faultPlace, .int 1, .int w0_5, .int w0_5])), (tp, .inr (10, [.ref bt, .int b_length])), (bt, .inl (kbt, 1600, .inl fbt))]) hP hD
                refine lv_aload_n hx hb (dk_at dkX6_step 104 rfl) rfl (lv_at hl 1 rfl) ?_
                refine lv_dup hx hb (dk_at dkX6_step 105 rfl) rfl ?_
                refine va_get (D := (dC, dI)) (ci := 6) (v := .int w0_5) (C := RX6) (T := TX6) (N := 7) hx hb hts (fun w h => List.mem_cons_of_mem _ (jnGA_X6 w h)) hown hK hP 0 rfl rfl 6 (by decide) (hts _ (List.mem_cons_of_mem _ mGA_59)) (fun _ h9 => h9) rfl (dk_at dkX6_step 106 rfl) ?_
                refine lv_iconst (v := 1) hx hb (dk_at dkX6_step 107 rfl) (by decide) ?_
                refine lv_iadd hx hb (dk_at dkX6_step 108 rfl) ?_
                refine lv_topi (fun x_140 ex_140 => ?_)
                have gx_140 : gi x_140 1 1600 := gi_add ex_140 g_130 (gi_c 1 1 (by decide)) (by decide)
                refine va_put (D := (dC, dI)) (ci := 6) (v := .int x_140) (ty := .int) (C := RX6) (T := TX6) (N := 7) hx hb hts (fun w h => List.mem_cons_of_mem _ (jnGA_X6 w h)) tyX6 tyX6_ok nmX6 hown hK hP hD hS 0 rfl rfl 6 (by decide) (hts _ (List.mem_cons_of_mem _ mGA_59)) (fun _ h9 => h9) rfl fdX6_6 rfl rfl (Nat.le_of_ble_eq_true rfl) (dk_at dkX6_step 109 rfl) (fun H locs hP hD hS => ?_)
                obtain ⟨hP, hD⟩ := gz_both (w := [(h0, .inr (6, [.ref tp, .ref dr, .int q_faultKind, .int q_faultPlace, .int 1, .int w0_5, .int x_140])), (tp, .inr (10, [.ref bt, .int b_length])), (bt, .inl (kbt, 1600, .inl fbt))]) hP hD
                exact kr227 1 w0_5 x_140 _ _ _ (gi_w g_130 (by decide)) (gi_w gx_140 (by decide)) (by first | (rw [ex_140]; exact hF) | ((try rw [ex_140]); exact hF)) hP hD hS (lv_sub hl [] rfl)
              · have hF := gf_pos c_139 hF
                have g_141 : gi r_128 59 59 := gi_eq c_139 (gi_c 59 59 (by decide))
                refine lv_iconst (v := 4) hx hb (dk_at dkX6_step 100 rfl) (by decide) ?_
                refine lv_goto (tgt := 214) hx hb (dk_at dkX6_step 101 rfl) (by decide) ?_
                refine va_put (D := (dC, dI)) (ci := 6) (v := .int 4) (ty := .int) (C := RX6) (T := TX6) (N := 7) hx hb hts (fun w h => List.mem_cons_of_mem _ (jnGA_X6 w h)) tyX6 tyX6_ok nmX6 hown hK hP hD hS 0 rfl rfl 4 (by decide) (hts _ (List.mem_cons_of_mem _ mGA_57)) (fun _ h9 => h9) rfl fdX6_4 rfl rfl (Nat.le_of_ble_eq_true rfl) (dk_at dkX6_step 103 rfl) (fun H locs hP hD hS => ?_)
                obtain ⟨hP, hD⟩ := gz_both (w := [(h0, .inr (6, [.ref tp, .ref dr, .int q_faultKind, .int q_faultPlace, .int 4, .int w0_5, .int w0_5])), (tp, .inr (10, [.ref bt, .int b_length])), (bt, .inl (kbt, 1600, .inl fbt))]) hP hD
                refine lv_aload_n hx hb (dk_at dkX6_step 104 rfl) rfl (lv_at hl 1 rfl) ?_
                refine lv_dup hx hb (dk_at dkX6_step 105 rfl) rfl ?_
                refine va_get (D := (dC, dI)) (ci := 6) (v := .int w0_5) (C := RX6) (T := TX6) (N := 7) hx hb hts (fun w h => List.mem_cons_of_mem _ (jnGA_X6 w h)) hown hK hP 0 rfl rfl 6 (by decide) (hts _ (List.mem_cons_of_mem _ mGA_59)) (fun _ h9 => h9) rfl (dk_at dkX6_step 106 rfl) ?_
                refine lv_iconst (v := 1) hx hb (dk_at dkX6_step 107 rfl) (by decide) ?_
                refine lv_iadd hx hb (dk_at dkX6_step 108 rfl) ?_
                refine lv_topi (fun x_142 ex_142 => ?_)
                have gx_142 : gi x_142 1 1600 := gi_add ex_142 g_130 (gi_c 1 1 (by decide)) (by decide)
                refine va_put (D := (dC, dI)) (ci := 6) (v := .int x_142) (ty := .int) (C := RX6) (T := TX6) (N := 7) hx hb hts (fun w h => List.mem_cons_of_mem _ (jnGA_X6 w h)) tyX6 tyX6_ok nmX6 hown hK hP hD hS 0 rfl rfl 6 (by decide) (hts _ (List.mem_cons_of_mem _ mGA_59)) (fun _ h9 => h9) rfl fdX6_6 rfl rfl (Nat.le_of_ble_eq_true rfl) (dk_at dkX6_step 109 rfl) (fun H locs hP hD hS => ?_)
                obtain ⟨hP, hD⟩ := gz_both (w := [(h0, .inr (6, [.ref tp, .ref dr, .int q_faultKind, .int q_faultPlace, .int 4, .int w0_5, .int x_142])), (tp, .inr (10, [.ref bt, .int b_length])), (bt, .inl (kbt, 1600, .inl fbt))]) hP hD
                exact kr227 4 w0_5 x_142 _ _ _ (gi_w g_130 (by decide)) (gi_w gx_142 (by decide)) (by first | (rw [ex_142]; exact hF) | ((try rw [ex_142]); exact hF)) hP hD hS (lv_sub hl [] rfl)
            · have hF := gf_neg c_137 hF
              have g_143 : gi r_136 1 1 := gi_ne_lo c_137 gr_136 (gi_c 0 0 (by decide)) (by decide)
              refine lv_aload_n hx hb (dk_at dkX6_step 74 rfl) rfl (lv_at hl 1 rfl) ?_
              refine lv_iconst (v := 3) hx hb (dk_at dkX6_step 75 rfl) (by decide) ?_
              refine va_put (D := (dC, dI)) (ci := 6) (v := .int 3) (ty := .int) (C := RX6) (T := TX6) (N := 7) hx hb hts (fun w h => List.mem_cons_of_mem _ (jnGA_X6 w h)) tyX6 tyX6_ok nmX6 hown hK hP hD hS 0 rfl rfl 4 (by decide) (hts _ (List.mem_cons_of_mem _ mGA_57)) (fun _ h9 => h9) rfl fdX6_4 rfl rfl (Nat.le_of_ble_eq_true rfl) (dk_at dkX6_step 76 rfl) (fun H locs hP hD hS => ?_)
              obtain ⟨hP, hD⟩ := gz_both (w := [(h0, .inr (6, [.ref tp, .ref dr, .int q_faultKind, .int q_faultPlace, .int 3, .int w0_5, .int w0_5])), (tp, .inr (10, [.ref bt, .int b_length])), (bt, .inl (kbt, 1600, .inl fbt))]) hP hD
              exact ih.2.2 r_128 3 w0_5 w0_5 _ _ _ (gi_w g_130 (by decide)) (gi_w g_130 (by decide)) hF (by have aw0_5 := gw0_5.1; have bw0_5 := gw0_5.2; have qgw0_5 := g_130.1; have rgw0_5 := g_130.2; omega) hP hD hS (lv_sub hl [1, 0] rfl)
          · have hF := gf_neg c_134 hF
            have g_144 : gi r_133 1 1 := gi_ne_lo c_134 gr_133 (gi_c 0 0 (by decide)) (by decide)
            refine lv_aload_n hx hb (dk_at dkX6_step 49 rfl) rfl (lv_at hl 1 rfl) ?_
            refine lv_iconst (v := 2) hx hb (dk_at dkX6_step 50 rfl) (by decide) ?_
            refine va_put (D := (dC, dI)) (ci := 6) (v := .int 2) (ty := .int) (C := RX6) (T := TX6) (N := 7) hx hb hts (fun w h => List.mem_cons_of_mem _ (jnGA_X6 w h)) tyX6 tyX6_ok nmX6 hown hK hP hD hS 0 rfl rfl 4 (by decide) (hts _ (List.mem_cons_of_mem _ mGA_57)) (fun _ h9 => h9) rfl fdX6_4 rfl rfl (Nat.le_of_ble_eq_true rfl) (dk_at dkX6_step 51 rfl) (fun H locs hP hD hS => ?_)
            obtain ⟨hP, hD⟩ := gz_both (w := [(h0, .inr (6, [.ref tp, .ref dr, .int q_faultKind, .int q_faultPlace, .int 2, .int w0_5, .int w0_5])), (tp, .inr (10, [.ref bt, .int b_length])), (bt, .inl (kbt, 1600, .inl fbt))]) hP hD
            exact ih.2.1 r_128 2 w0_5 w0_5 _ _ _ (gi_w g_130 (by decide)) (gi_w g_130 (by decide)) hF (by have aw0_5 := gw0_5.1; have bw0_5 := gw0_5.2; have qgw0_5 := g_130.1; have rgw0_5 := g_130.2; omega) hP hD hS (lv_sub hl [1, 0] rfl)
        · have hF := gf_neg c_129 hF
          refine lv_aload_n hx hb (dk_at dkX6_step 42 rfl) rfl (lv_at hl 1 rfl) ?_
          refine lv_iconst (v := 0) hx hb (dk_at dkX6_step 43 rfl) (by decide) ?_
          refine va_put (D := (dC, dI)) (ci := 6) (v := .int 0) (ty := .int) (C := RX6) (T := TX6) (N := 7) hx hb hts (fun w h => List.mem_cons_of_mem _ (jnGA_X6 w h)) tyX6 tyX6_ok nmX6 hown hK hP hD hS 0 rfl rfl 4 (by decide) (hts _ (List.mem_cons_of_mem _ mGA_57)) (fun _ h9 => h9) rfl fdX6_4 rfl rfl (Nat.le_of_ble_eq_true rfl) (dk_at dkX6_step 44 rfl) (fun H locs hP hD hS => ?_)
          obtain ⟨hP, hD⟩ := gz_both (w := [(h0, .inr (6, [.ref tp, .ref dr, .int q_faultKind, .int q_faultPlace, .int 0, .int w0_5, .int w0_5])), (tp, .inr (10, [.ref bt, .int b_length])), (bt, .inl (kbt, 1600, .inl fbt))]) hP hD
          refine lv_goto (tgt := 227) hx hb (dk_at dkX6_step 45 rfl) (by decide) ?_
          exact kr227 0 w0_5 w0_5 _ _ _ gw0_5 gw0_5 hF hP hD hS (lv_sub hl [] rfl)
      · have hF := gf_neg c_127 hF
        have g_145 : gi w0_5 0 1599 := gi_lt_l (Int32.not_le.mp c_127) gw0_5 gb_length (by decide)
        have g_146 : gi b_length 1 1600 := gi_lt_r (Int32.not_le.mp c_127) gw0_5 gb_length (by decide)
        refine lv_aload_n hx hb (dk_at dkX6_step 14 rfl) rfl (lv_at hl 0 rfl) ?_
        refine lv_aload_n hx hb (dk_at dkX6_step 15 rfl) rfl (lv_at hl 0 rfl) ?_
        refine va_get (D := (dC, dI)) (ci := 6) (v := .int w0_5) (C := RX6) (T := TX6) (N := 7) hx hb hts (fun w h => List.mem_cons_of_mem _ (jnGA_X6 w h)) hown hK hP 0 rfl rfl 5 (by decide) (hts _ (List.mem_cons_of_mem _ mGA_58)) (fun _ h9 => h9) rfl (dk_at dkX6_step 16 rfl) ?_
        refine va_calli (va_runV (As := [.int w0_5]) (rest := []) ⟨hx, hb, hml, hown, hts⟩ (sX6_byteAt l dC dI h0 tp bt dr q_faultKind q_faultPlace q_token w0_5 q_stop b_length kbt fbt w0_5 gq_faultKind (gi_w g_145 (by decide)) gq_stop (gi_w g_146 (by decide))) (cwV 1 hts (gz_gV mGA_167 mGA_168 mGA_169 mGA_9 mGA_170 goodGA) rfl rfl rfl hdV_X6_byteAt_X6_1 ⟨Nat.le_trans (Nat.le_of_ble_eq_true rfl) hRf, Nat.le_trans (Nat.le_of_ble_eq_true rfl) hRl⟩) ⟨bl_I (bl_a bl_P (bl_a bl_K bl_nz)), va_recv hK hP (ci := 6) (q0 := 0) rfl rfl, fun U hU hW => ⟨rfl, by rw [hU]; exact hP, va_K.moved hW.alike hK, nzA_warm hW hz⟩⟩ rfl rfl hl.1 rfl (lv_room (Nat.le_of_ble_eq_true rfl)) (dk_at dkX6_step 17 rfl) ⟨hRc, hRs⟩) hS (fun q _ h => h.elim) (fun q h => h.elim) (fun r_147 u t H1 locs ht hvm hw hB hz1 hk1 hS => ?_)
        obtain ⟨hw, hE⟩ := hw
        have hP := gz_keep hP hk1
        have hF := gf_call (a := r_147) hE hF
        generalize H1 = H at hP hS ⊢
        have hPc := hP.sub (ws' := []) [] rfl
        have hKc := hK.sub (tys' := []) [] rfl
        refine va_calli (va_runS (As := [.int r_147]) (rest := []) ⟨hx, hb, hml, hown, hts⟩ (sX6_isBlank l dC dI r_147) (cwS 1 hts (gz_gS mGA_172 mGA_173 mGA_9 mGA_174 goodGA) rfl rfl rfl hdS_X6_isBlank_X6_1 ⟨Nat.le_trans (Nat.le_of_ble_eq_true rfl) hRf, Nat.le_trans (Nat.le_of_ble_eq_true rfl) hRl⟩) ⟨bl_I (bl_a bl_P (bl_a bl_K bl_nz)), fun U hU hW => ⟨rfl, by rw [hU]; exact hPc, va_K.moved hW.alike hKc, nzA_warm hW hz⟩⟩ rfl rfl hl.1 rfl (lv_room (Nat.le_of_ble_eq_true rfl)) (dk_at dkX6_step 18 rfl) ⟨hRc, hRs⟩) hS (fun q _ h => h.elim) (fun q h => h.elim) (fun r_148 u t H1 locs ht hvm hw hB hz1 hk1 hS => ?_)
        obtain ⟨hw, hE⟩ := hw
        have hP := gz_keep hP hk1
        have hF := gf_call (a := r_148) hE hF
        generalize H1 = H at hP hS ⊢
        have gr_148 : gi r_148 0 1 := hw
        refine lv_if_eq (tgt := 57) hx hb (dk_at dkX6_step 19 rfl) (by decide) (fun c_149 => ?_) (fun c_149 => ?_)
        · have hF := gf_pos c_149 hF
          have g_150 : gi r_148 0 0 := gi_eq c_149 (gi_c 0 0 (by decide))
          refine lv_aload_n hx hb (dk_at dkX6_step 27 rfl) rfl (lv_at hl 0 rfl) ?_
          refine lv_aload_n hx hb (dk_at dkX6_step 28 rfl) rfl (lv_at hl 0 rfl) ?_
          refine va_get (D := (dC, dI)) (ci := 6) (v := .int w0_5) (C := RX6) (T := TX6) (N := 7) hx hb hts (fun w h => List.mem_cons_of_mem _ (jnGA_X6 w h)) hown hK hP 0 rfl rfl 5 (by decide) (hts _ (List.mem_cons_of_mem _ mGA_58)) (fun _ h9 => h9) rfl (dk_at dkX6_step 29 rfl) ?_
          refine va_put (D := (dC, dI)) (ci := 6) (v := .int w0_5) (ty := .int) (C := RX6) (T := TX6) (N := 7) hx hb hts (fun w h => List.mem_cons_of_mem _ (jnGA_X6 w h)) tyX6 tyX6_ok nmX6 hown hK hP hD hS 0 rfl rfl 6 (by decide) (hts _ (List.mem_cons_of_mem _ mGA_59)) (fun _ h9 => h9) rfl fdX6_6 rfl rfl (Nat.le_of_ble_eq_true rfl) (dk_at dkX6_step 30 rfl) (fun H locs hP hD hS => ?_)
          obtain ⟨hP, hD⟩ := gz_both (w := [(h0, .inr (6, [.ref tp, .ref dr, .int q_faultKind, .int q_faultPlace, .int q_token, .int w0_5, .int w0_5])), (tp, .inr (10, [.ref bt, .int b_length])), (bt, .inl (kbt, 1600, .inl fbt))]) hP hD
          refine lv_aload_n hx hb (dk_at dkX6_step 31 rfl) rfl (lv_at hl 0 rfl) ?_
          refine lv_aload_n hx hb (dk_at dkX6_step 32 rfl) rfl (lv_at hl 0 rfl) ?_
          refine va_get (D := (dC, dI)) (ci := 6) (v := .int w0_5) (C := RX6) (T := TX6) (N := 7) hx hb hts (fun w h => List.mem_cons_of_mem _ (jnGA_X6 w h)) hown hK hP 0 rfl rfl 5 (by decide) (hts _ (List.mem_cons_of_mem _ mGA_58)) (fun _ h9 => h9) rfl (dk_at dkX6_step 33 rfl) ?_
          refine va_calli (va_runV (As := [.int w0_5]) (rest := []) ⟨hx, hb, hml, hown, hts⟩ (sX6_byteAt l dC dI h0 tp bt dr q_faultKind q_faultPlace q_token w0_5 w0_5 b_length kbt fbt w0_5 gq_faultKind (gi_w g_145 (by decide)) (gi_w g_145 (by decide)) (gi_w g_146 (by decide))) (cwV 1 hts (gz_gV mGA_167 mGA_168 mGA_169 mGA_9 mGA_170 goodGA) rfl rfl rfl hdV_X6_byteAt_X6_1 ⟨Nat.le_trans (Nat.le_of_ble_eq_true rfl) hRf, Nat.le_trans (Nat.le_of_ble_eq_true rfl) hRl⟩) ⟨bl_I (bl_a bl_P (bl_a bl_K bl_nz)), va_recv hK hP (ci := 6) (q0 := 0) rfl rfl, fun U hU hW => ⟨rfl, by rw [hU]; exact hP, va_K.moved hW.alike hK, nzA_warm hW hz⟩⟩ rfl rfl hl.1 rfl (lv_room (Nat.le_of_ble_eq_true rfl)) (dk_at dkX6_step 34 rfl) ⟨hRc, hRs⟩) hS (fun q _ h => h.elim) (fun q h => h.elim) (fun r_151 u t H1 locs ht hvm hw hB hz1 hk1 hS => ?_)
          obtain ⟨hw, hE⟩ := hw
          have hP := gz_keep hP hk1
          have hF := gf_call (a := r_151) hE hF
          generalize H1 = H at hP hS ⊢
          refine lv_istore_n (lv' := [(1, .int r_151), (0, .ref h0)]) hx hb (dk_at dkX6_step 35 rfl) rfl hl (by decide) rfl (fun ls hl => ?_)
          refine lv_aload_n hx hb (dk_at dkX6_step 36 rfl) rfl (lv_at hl 1 rfl) ?_
          refine va_get (D := (dC, dI)) (ci := 6) (v := .int w0_5) (C := RX6) (T := TX6) (N := 7) hx hb hts (fun w h => List.mem_cons_of_mem _ (jnGA_X6 w h)) hown hK hP 0 rfl rfl 5 (by decide) (hts _ (List.mem_cons_of_mem _ mGA_58)) (fun _ h9 => h9) rfl (dk_at dkX6_step 37 rfl) ?_
          refine lv_aload_n hx hb (dk_at dkX6_step 38 rfl) rfl (lv_at hl 1 rfl) ?_
          refine va_get (D := (dC, dI)) (ci := 6) (v := .ref tp) (C := RX6) (T := TX6) (N := 7) hx hb hts (fun w h => List.mem_cons_of_mem _ (jnGA_X6 w h)) hown hK hP 0 rfl rfl 0 (by decide) (hts _ (List.mem_cons_of_mem _ mGA_52)) (fun _ h9 => h9) rfl (dk_at dkX6_step 39 rfl) ?_
          refine va_get (D := (dC, dI)) (ci := 10) (v := .int b_length) (C := RX10) (T := TX10) (N := 2) hx hb hts (fun w h => List.mem_cons_of_mem _ (jnGA_X10 w h)) hown hK hP 1 rfl rfl 1 (by decide) (hts _ (List.mem_cons_of_mem _ mGA_166)) (fun _ h9 => h9) rfl (dk_at dkX6_step 40 rfl) ?_
          refine lv_icmp_lt (tgt := 96) hx hb (dk_at dkX6_step 41 rfl) (by decide) (fun c_152 => ?_) (fun c_152 => ?_)
          · have hF := gf_pos c_152 hF
            refine lv_iload_n hx hb (dk_at dkX6_step 46 rfl) rfl (lv_at hl 0 rfl) ?_
            have hPc := hP.sub (ws' := []) [] rfl
            have hKc := hK.sub (tys' := []) [] rfl
            refine va_calli (va_runS (As := [.int r_151]) (rest := []) ⟨hx, hb, hml, hown, hts⟩ (sX6_isLetter l dC dI r_151) (cwS 1 hts (gz_gS mGA_175 mGA_176 mGA_9 mGA_177 goodGA) rfl rfl rfl hdS_X6_isLetter_X6_1 ⟨Nat.le_trans (Nat.le_of_ble_eq_true rfl) hRf, Nat.le_trans (Nat.le_of_ble_eq_true rfl) hRl⟩) ⟨bl_I (bl_a bl_P (bl_a bl_K bl_nz)), fun U hU hW => ⟨rfl, by rw [hU]; exact hPc, va_K.moved hW.alike hKc, nzA_warm hW hz⟩⟩ rfl rfl hl.1 rfl (lv_room (Nat.le_of_ble_eq_true rfl)) (dk_at dkX6_step 47 rfl) ⟨hRc, hRs⟩) hS (fun q _ h => h.elim) (fun q h => h.elim) (fun r_153 u t H1 locs ht hvm hw hB hz1 hk1 hS => ?_)
            obtain ⟨hw, hE⟩ := hw
            have hP := gz_keep hP hk1
            have hF := gf_call (a := r_153) hE hF
            generalize H1 = H at hP hS ⊢
            have gr_153 : gi r_153 0 1 := hw
            refine lv_if_eq (tgt := 149) hx hb (dk_at dkX6_step 48 rfl) (by decide) (fun c_154 => ?_) (fun c_154 => ?_)
            · have hF := gf_pos c_154 hF
              have g_155 : gi r_153 0 0 := gi_eq c_154 (gi_c 0 0 (by decide))
              refine lv_iload_n hx hb (dk_at dkX6_step 71 rfl) rfl (lv_at hl 0 rfl) ?_
              have hPc := hP.sub (ws' := []) [] rfl
              have hKc := hK.sub (tys' := []) [] rfl
              refine va_calli (va_runS (As := [.int r_151]) (rest := []) ⟨hx, hb, hml, hown, hts⟩ (sX6_isDigit l dC dI r_151) (cwS 1 hts (gz_gS mGA_178 mGA_179 mGA_9 mGA_180 goodGA) rfl rfl rfl hdS_X6_isDigit_X6_1 ⟨Nat.le_trans (Nat.le_of_ble_eq_true rfl) hRf, Nat.le_trans (Nat.le_of_ble_eq_true rfl) hRl⟩) ⟨bl_I (bl_a bl_P (bl_a bl_K bl_nz)), fun U hU hW => ⟨rfl, by rw [hU]; exact hPc, va_K.moved hW.alike hKc, nzA_warm hW hz⟩⟩ rfl rfl hl.1 rfl (lv_room (Nat.le_of_ble_eq_true rfl)) (dk_at dkX6_step 72 rfl) ⟨hRc, hRs⟩) hS (fun q _ h => h.elim) (fun q h => h.elim) (fun r_156 u t H1 locs ht hvm hw hB hz1 hk1 hS => ?_)
              obtain ⟨hw, hE⟩ := hw
              have hP := gz_keep hP hk1
              have hF := gf_call (a := r_156) hE hF
              generalize H1 = H at hP hS ⊢
              have gr_156 : gi r_156 0 1 := hw
              refine lv_if_eq (tgt := 202) hx hb (dk_at dkX6_step 73 rfl) (by decide) (fun c_157 => ?_) (fun c_157 => ?_)
              · have hF := gf_pos c_157 hF
                have g_158 : gi r_156 0 0 := gi_eq c_157 (gi_c 0 0 (by decide))
                refine lv_aload_n hx hb (dk_at dkX6_step 96 rfl) rfl (lv_at hl 1 rfl) ?_
                refine lv_iload_n hx hb (dk_at dkX6_step 97 rfl) rfl (lv_at hl 0 rfl) ?_
                refine lv_bipush (v := 59) hx hb (dk_at dkX6_step 98 rfl) (by decide) ?_
                refine lv_icmp_ne (tgt := 213) hx hb (dk_at dkX6_step 99 rfl) (by decide) (fun c_159 => ?_) (fun c_159 => ?_)
                · have hF := gf_neg c_159 hF
                  refine lv_iconst (v := 1) hx hb (dk_at dkX6_step 102 rfl) (by decide) ?_
                  refine va_put (D := (dC, dI)) (ci := 6) (v := .int 1) (ty := .int) (C := RX6) (T := TX6) (N := 7) hx hb hts (fun w h => List.mem_cons_of_mem _ (jnGA_X6 w h)) tyX6 tyX6_ok nmX6 hown hK hP hD hS 0 rfl rfl 4 (by decide) (hts _ (List.mem_cons_of_mem _ mGA_57)) (fun _ h9 => h9) rfl fdX6_4 rfl rfl (Nat.le_of_ble_eq_true rfl) (dk_at dkX6_step 103 rfl) (fun H locs hP hD hS => ?_)
                  obtain ⟨hP, hD⟩ := gz_both (w := [(h0, .inr (6, [.ref tp, .ref dr, .int q_faultKind, .int q_faultPlace, .int 1, .int w0_5, .int w0_5])), (tp, .inr (10, [.ref bt, .int b_length])), (bt, .inl (kbt, 1600, .inl fbt))]) hP hD
                  refine lv_aload_n hx hb (dk_at dkX6_step 104 rfl) rfl (lv_at hl 1 rfl) ?_
                  refine lv_dup hx hb (dk_at dkX6_step 105 rfl) rfl ?_
                  refine va_get (D := (dC, dI)) (ci := 6) (v := .int w0_5) (C := RX6) (T := TX6) (N := 7) hx hb hts (fun w h => List.mem_cons_of_mem _ (jnGA_X6 w h)) hown hK hP 0 rfl rfl 6 (by decide) (hts _ (List.mem_cons_of_mem _ mGA_59)) (fun _ h9 => h9) rfl (dk_at dkX6_step 106 rfl) ?_
                  refine lv_iconst (v := 1) hx hb (dk_at dkX6_step 107 rfl) (by decide) ?_
                  refine lv_iadd hx hb (dk_at dkX6_step 108 rfl) ?_
                  refine lv_topi (fun x_160 ex_160 => ?_)
                  have gx_160 : gi x_160 1 1600 := gi_add ex_160 g_145 (gi_c 1 1 (by decide)) (by decide)
                  refine va_put (D := (dC, dI)) (ci := 6) (v := .int x_160) (ty := .int) (C := RX6) (T := TX6) (N := 7) hx hb hts (fun w h => List.mem_cons_of_mem _ (jnGA_X6 w h)) tyX6 tyX6_ok nmX6 hown hK hP hD hS 0 rfl rfl 6 (by decide) (hts _ (List.mem_cons_of_mem _ mGA_59)) (fun _ h9 => h9) rfl fdX6_6 rfl rfl (Nat.le_of_ble_eq_true rfl) (dk_at dkX6_step 109 rfl) (fun H locs hP hD hS => ?_)
                  obtain ⟨hP, hD⟩ := gz_both (w := [(h0, .inr (6, [.ref tp, .ref dr, .int q_faultKind, .int q_faultPlace, .int 1, .int w0_5, .int x_160])), (tp, .inr (10, [.ref bt, .int b_length])), (bt, .inl (kbt, 1600, .inl fbt))]) hP hD
                  exact kr227 1 w0_5 x_160 _ _ _ (gi_w g_145 (by decide)) (gi_w gx_160 (by decide)) (by first | (rw [ex_160]; exact hF) | ((try rw [ex_160]); exact hF)) hP hD hS (lv_sub hl [] rfl)
                · have hF := gf_pos c_159 hF
                  have g_161 : gi r_151 59 59 := gi_eq c_159 (gi_c 59 59 (by decide))
                  refine lv_iconst (v := 4) hx hb (dk_at dkX6_step 100 rfl) (by decide) ?_
                  refine lv_goto (tgt := 214) hx hb (dk_at dkX6_step 101 rfl) (by decide) ?_
                  refine va_put (D := (dC, dI)) (ci := 6) (v := .int 4) (ty := .int) (C := RX6) (T := TX6) (N := 7) hx hb hts (fun w h => List.mem_cons_of_mem _ (jnGA_X6 w h)) tyX6 tyX6_ok nmX6 hown hK hP hD hS 0 rfl rfl 4 (by decide) (hts _ (List.mem_cons_of_mem _ mGA_57)) (fun _ h9 => h9) rfl fdX6_4 rfl rfl (Nat.le_of_ble_eq_true rfl) (dk_at dkX6_step 103 rfl) (fun H locs hP hD hS => ?_)
                  obtain ⟨hP, hD⟩ := gz_both (w := [(h0, .inr (6, [.ref tp, .ref dr, .int q_faultKind, .int q_faultPlace, .int 4, .int w0_5, .int w0_5])), (tp, .inr (10, [.ref bt, .int b_length])), (bt, .inl (kbt, 1600, .inl fbt))]) hP hD
                  refine lv_aload_n hx hb (dk_at dkX6_step 104 rfl) rfl (lv_at hl 1 rfl) ?_
                  refine lv_dup hx hb (dk_at dkX6_step 105 rfl) rfl ?_
                  refine va_get (D := (dC, dI)) (ci := 6) (v := .int w0_5) (C := RX6) (T := TX6) (N := 7) hx hb hts (fun w h => List.mem_cons_of_mem _ (jnGA_X6 w h)) hown hK hP 0 rfl rfl 6 (by decide) (hts _ (List.mem_cons_of_mem _ mGA_59)) (fun _ h9 => h9) rfl (dk_at dkX6_step 106 rfl) ?_
                  refine lv_iconst (v := 1) hx hb (dk_at dkX6_step 107 rfl) (by decide) ?_
                  refine lv_iadd hx hb (dk_at dkX6_step 108 rfl) ?_
                  refine lv_topi (fun x_162 ex_162 => ?_)
                  have gx_162 : gi x_162 1 1600 := gi_add ex_162 g_145 (gi_c 1 1 (by decide)) (by decide)
                  refine va_put (D := (dC, dI)) (ci := 6) (v := .int x_162) (ty := .int) (C := RX6) (T := TX6) (N := 7) hx hb hts (fun w h => List.mem_cons_of_mem _ (jnGA_X6 w h)) tyX6 tyX6_ok nmX6 hown hK hP hD hS 0 rfl rfl 6 (by decide) (hts _ (List.mem_cons_of_mem _ mGA_59)) (fun _ h9 => h9) rfl fdX6_6 rfl rfl (Nat.le_of_ble_eq_true rfl) (dk_at dkX6_step 109 rfl) (fun H locs hP hD hS => ?_)
                  obtain ⟨hP, hD⟩ := gz_both (w := [(h0, .inr (6, [.ref tp, .ref dr, .int q_faultKind, .int q_faultPlace, .int 4, .int w0_5, .int x_162])), (tp, .inr (10, [.ref bt, .int b_length])), (bt, .inl (kbt, 1600, .inl fbt))]) hP hD
                  exact kr227 4 w0_5 x_162 _ _ _ (gi_w g_145 (by decide)) (gi_w gx_162 (by decide)) (by first | (rw [ex_162]; exact hF) | ((try rw [ex_162]); exact hF)) hP hD hS (lv_sub hl [] rfl)
              · have hF := gf_neg c_157 hF
                have g_163 : gi r_156 1 1 := gi_ne_lo c_157 gr_156 (gi_c 0 0 (by decide)) (by decide)
                refine lv_aload_n hx hb (dk_at dkX6_step 74 rfl) rfl (lv_at hl 1 rfl) ?_
                refine lv_iconst (v := 3) hx hb (dk_at dkX6_step 75 rfl) (by decide) ?_
                refine va_put (D := (dC, dI)) (ci := 6) (v := .int 3) (ty := .int) (C := RX6) (T := TX6) (N := 7) hx hb hts (fun w h => List.mem_cons_of_mem _ (jnGA_X6 w h)) tyX6 tyX6_ok nmX6 hown hK hP hD hS 0 rfl rfl 4 (by decide) (hts _ (List.mem_cons_of_mem _ mGA_57)) (fun _ h9 => h9) rfl fdX6_4 rfl rfl (Nat.le_of_ble_eq_true rfl) (dk_at dkX6_step 76 rfl) (fun H locs hP hD hS => ?_)
                obtain ⟨hP, hD⟩ := gz_both (w := [(h0, .inr (6, [.ref tp, .ref dr, .int q_faultKind, .int q_faultPlace, .int 3, .int w0_5, .int w0_5])), (tp, .inr (10, [.ref bt, .int b_length])), (bt, .inl (kbt, 1600, .inl fbt))]) hP hD
                exact ih.2.2 r_151 3 w0_5 w0_5 _ _ _ (gi_w g_145 (by decide)) (gi_w g_145 (by decide)) hF (by have aw0_5 := gw0_5.1; have bw0_5 := gw0_5.2; have qgw0_5 := g_145.1; have rgw0_5 := g_145.2; omega) hP hD hS (lv_sub hl [1, 0] rfl)
            · have hF := gf_neg c_154 hF
              have g_164 : gi r_153 1 1 := gi_ne_lo c_154 gr_153 (gi_c 0 0 (by decide)) (by decide)
              refine lv_aload_n hx hb (dk_at dkX6_step 49 rfl) rfl (lv_at hl 1 rfl) ?_
              refine lv_iconst (v := 2) hx hb (dk_at dkX6_step 50 rfl) (by decide) ?_
              refine va_put (D := (dC, dI)) (ci := 6) (v := .int 2) (ty := .int) (C := RX6) (T := TX6) (N := 7) hx hb hts (fun w h => List.mem_cons_of_mem _ (jnGA_X6 w h)) tyX6 tyX6_ok nmX6 hown hK hP hD hS 0 rfl rfl 4 (by decide) (hts _ (List.mem_cons_of_mem _ mGA_57)) (fun _ h9 => h9) rfl fdX6_4 rfl rfl (Nat.le_of_ble_eq_true rfl) (dk_at dkX6_step 51 rfl) (fun H locs hP hD hS => ?_)
              obtain ⟨hP, hD⟩ := gz_both (w := [(h0, .inr (6, [.ref tp, .ref dr, .int q_faultKind, .int q_faultPlace, .int 2, .int w0_5, .int w0_5])), (tp, .inr (10, [.ref bt, .int b_length])), (bt, .inl (kbt, 1600, .inl fbt))]) hP hD
              exact ih.2.1 r_151 2 w0_5 w0_5 _ _ _ (gi_w g_145 (by decide)) (gi_w g_145 (by decide)) hF (by have aw0_5 := gw0_5.1; have bw0_5 := gw0_5.2; have qgw0_5 := g_145.1; have rgw0_5 := g_145.2; omega) hP hD hS (lv_sub hl [1, 0] rfl)
          · have hF := gf_neg c_152 hF
            have g_165 : gi b_length 1 1599 := gi_le_l (Int32.not_lt.mp c_152) g_146 g_145
            have g_166 : gi w0_5 1 1599 := gi_le_r (Int32.not_lt.mp c_152) g_146 g_145
            refine lv_aload_n hx hb (dk_at dkX6_step 42 rfl) rfl (lv_at hl 1 rfl) ?_
            refine lv_iconst (v := 0) hx hb (dk_at dkX6_step 43 rfl) (by decide) ?_
            refine va_put (D := (dC, dI)) (ci := 6) (v := .int 0) (ty := .int) (C := RX6) (T := TX6) (N := 7) hx hb hts (fun w h => List.mem_cons_of_mem _ (jnGA_X6 w h)) tyX6 tyX6_ok nmX6 hown hK hP hD hS 0 rfl rfl 4 (by decide) (hts _ (List.mem_cons_of_mem _ mGA_57)) (fun _ h9 => h9) rfl fdX6_4 rfl rfl (Nat.le_of_ble_eq_true rfl) (dk_at dkX6_step 44 rfl) (fun H locs hP hD hS => ?_)
            obtain ⟨hP, hD⟩ := gz_both (w := [(h0, .inr (6, [.ref tp, .ref dr, .int q_faultKind, .int q_faultPlace, .int 0, .int w0_5, .int w0_5])), (tp, .inr (10, [.ref bt, .int b_length])), (bt, .inl (kbt, 1600, .inl fbt))]) hP hD
            refine lv_goto (tgt := 227) hx hb (dk_at dkX6_step 45 rfl) (by decide) ?_
            exact kr227 0 w0_5 w0_5 _ _ _ (gi_w g_166 (by decide)) (gi_w g_166 (by decide)) hF hP hD hS (lv_sub hl [] rfl)
        · have hF := gf_neg c_149 hF
          have g_167 : gi r_148 1 1 := gi_ne_lo c_149 gr_148 (gi_c 0 0 (by decide)) (by decide)
          refine lv_aload_n hx hb (dk_at dkX6_step 20 rfl) rfl (lv_at hl 0 rfl) ?_
          refine lv_dup hx hb (dk_at dkX6_step 21 rfl) rfl ?_
          refine va_get (D := (dC, dI)) (ci := 6) (v := .int w0_5) (C := RX6) (T := TX6) (N := 7) hx hb hts (fun w h => List.mem_cons_of_mem _ (jnGA_X6 w h)) hown hK hP 0 rfl rfl 5 (by decide) (hts _ (List.mem_cons_of_mem _ mGA_58)) (fun _ h9 => h9) rfl (dk_at dkX6_step 22 rfl) ?_
          refine lv_iconst (v := 1) hx hb (dk_at dkX6_step 23 rfl) (by decide) ?_
          refine lv_iadd hx hb (dk_at dkX6_step 24 rfl) ?_
          refine lv_topi (fun x_168 ex_168 => ?_)
          have gx_168 : gi x_168 1 1600 := gi_add ex_168 g_145 (gi_c 1 1 (by decide)) (by decide)
          refine va_put (D := (dC, dI)) (ci := 6) (v := .int x_168) (ty := .int) (C := RX6) (T := TX6) (N := 7) hx hb hts (fun w h => List.mem_cons_of_mem _ (jnGA_X6 w h)) tyX6 tyX6_ok nmX6 hown hK hP hD hS 0 rfl rfl 5 (by decide) (hts _ (List.mem_cons_of_mem _ mGA_58)) (fun _ h9 => h9) rfl fdX6_5 rfl rfl (Nat.le_of_ble_eq_true rfl) (dk_at dkX6_step 25 rfl) (fun H locs hP hD hS => ?_)
          obtain ⟨hP, hD⟩ := gz_both (w := [(h0, .inr (6, [.ref tp, .ref dr, .int q_faultKind, .int q_faultPlace, .int q_token, .int x_168, .int q_stop])), (tp, .inr (10, [.ref bt, .int b_length])), (bt, .inl (kbt, 1600, .inl fbt))]) hP hD
          refine lv_goto (tgt := 16) hx hb (dk_at dkX6_step 26 rfl) (by decide) ?_
          exact ih.1 x_168 _ _ _ (gi_w gx_168 (by decide)) (by first | (rw [ex_168]; exact hF) | ((try rw [ex_168]); exact hF)) (by have aw0_5 := gw0_5.1; have bw0_5 := gw0_5.2; have qgx_168 := gx_168.1; have rgx_168 := gx_168.2; have igx_168 : x_168.toInt = w0_5.toInt + 1 := (by have hc1 : (1 : Int32).toInt = 1 := (by decide); have h9 := gi_addE ex_168 g_145 (gi_c 1 1 (by decide)) (by decide); rw [hc1] at h9; exact h9); have qgw0_5 := g_145.1; have rgw0_5 := g_145.2; omega) hP hD hS (lv_sub hl [0] rfl)
    · intro v1 w0_4 w0_5 w0_6 H locs ls gw0_5 gw0_6 hF hmu hP hD hS hl
      have hF : dfX6_step_108 q_faultKind q_token q_start q_stop b_length fbt (lfX6_step q_faultKind q_token q_start q_stop b_length fbt z) w0_4 w0_5 w0_6 = RES := hF
      refine lv_aload_n hx hb (dk_at dkX6_step 52 rfl) rfl (lv_at hl 0 rfl) ?_
      refine va_get (D := (dC, dI)) (ci := 6) (v := .int w0_6) (C := RX6) (T := TX6) (N := 7) hx hb hts (fun w h => List.mem_cons_of_mem _ (jnGA_X6 w h)) hown hK hP 0 rfl rfl 6 (by decide) (hts _ (List.mem_cons_of_mem _ mGA_59)) (fun _ h9 => h9) rfl (dk_at dkX6_step 53 rfl) ?_
      refine lv_aload_n hx hb (dk_at dkX6_step 54 rfl) rfl (lv_at hl 0 rfl) ?_
      refine va_get (D := (dC, dI)) (ci := 6) (v := .ref tp) (C := RX6) (T := TX6) (N := 7) hx hb hts (fun w h => List.mem_cons_of_mem _ (jnGA_X6 w h)) hown hK hP 0 rfl rfl 0 (by decide) (hts _ (List.mem_cons_of_mem _ mGA_52)) (fun _ h9 => h9) rfl (dk_at dkX6_step 55 rfl) ?_
      refine va_get (D := (dC, dI)) (ci := 10) (v := .int b_length) (C := RX10) (T := TX10) (N := 2) hx hb hts (fun w h => List.mem_cons_of_mem _ (jnGA_X10 w h)) hown hK hP 1 rfl rfl 1 (by decide) (hts _ (List.mem_cons_of_mem _ mGA_166)) (fun _ h9 => h9) rfl (dk_at dkX6_step 56 rfl) ?_
      refine lv_icmp_ge (tgt := 227) hx hb (dk_at dkX6_step 57 rfl) (by decide) (fun c_169 => ?_) (fun c_169 => ?_)
      · have hF := gf_pos c_169 hF
        exact kr227 w0_4 w0_5 w0_6 _ _ _ gw0_5 gw0_6 hF hP hD hS (lv_sub hl [] rfl)
      · have hF := gf_neg c_169 hF
        have g_170 : gi w0_6 0 1599 := gi_lt_l (Int32.not_le.mp c_169) gw0_6 gb_length (by decide)
        have g_171 : gi b_length 1 1600 := gi_lt_r (Int32.not_le.mp c_169) gw0_6 gb_length (by decide)
        refine lv_aload_n hx hb (dk_at dkX6_step 58 rfl) rfl (lv_at hl 0 rfl) ?_
        refine lv_aload_n hx hb (dk_at dkX6_step 59 rfl) rfl (lv_at hl 0 rfl) ?_
        refine va_get (D := (dC, dI)) (ci := 6) (v := .int w0_6) (C := RX6) (T := TX6) (N := 7) hx hb hts (fun w h => List.mem_cons_of_mem _ (jnGA_X6 w h)) hown hK hP 0 rfl rfl 6 (by decide) (hts _ (List.mem_cons_of_mem _ mGA_59)) (fun _ h9 => h9) rfl (dk_at dkX6_step 60 rfl) ?_
        refine va_calli (va_runV (As := [.int w0_6]) (rest := []) ⟨hx, hb, hml, hown, hts⟩ (sX6_byteAt l dC dI h0 tp bt dr q_faultKind q_faultPlace w0_4 w0_5 w0_6 b_length kbt fbt w0_6 gq_faultKind gw0_5 (gi_w g_170 (by decide)) (gi_w g_171 (by decide))) (cwV 1 hts (gz_gV mGA_167 mGA_168 mGA_169 mGA_9 mGA_170 goodGA) rfl rfl rfl hdV_X6_byteAt_X6_1 ⟨Nat.le_trans (Nat.le_of_ble_eq_true rfl) hRf, Nat.le_trans (Nat.le_of_ble_eq_true rfl) hRl⟩) ⟨bl_I (bl_a bl_P (bl_a bl_K bl_nz)), va_recv hK hP (ci := 6) (q0 := 0) rfl rfl, fun U hU hW => ⟨rfl, by rw [hU]; exact hP, va_K.moved hW.alike hK, nzA_warm hW hz⟩⟩ rfl rfl hl.1 rfl (lv_room (Nat.le_of_ble_eq_true rfl)) (dk_at dkX6_step 61 rfl) ⟨hRc, hRs⟩) hS (fun q _ h => h.elim) (fun q h => h.elim) (fun r_172 u t H1 locs ht hvm hw hB hz1 hk1 hS => ?_)
        obtain ⟨hw, hE⟩ := hw
        have hP := gz_keep hP hk1
        have hF := gf_call (a := r_172) hE hF
        generalize H1 = H at hP hS ⊢
        have hPc := hP.sub (ws' := []) [] rfl
        have hKc := hK.sub (tys' := []) [] rfl
        refine va_calli (va_runS (As := [.int r_172]) (rest := []) ⟨hx, hb, hml, hown, hts⟩ (sX6_isLetter l dC dI r_172) (cwS 1 hts (gz_gS mGA_175 mGA_176 mGA_9 mGA_177 goodGA) rfl rfl rfl hdS_X6_isLetter_X6_1 ⟨Nat.le_trans (Nat.le_of_ble_eq_true rfl) hRf, Nat.le_trans (Nat.le_of_ble_eq_true rfl) hRl⟩) ⟨bl_I (bl_a bl_P (bl_a bl_K bl_nz)), fun U hU hW => ⟨rfl, by rw [hU]; exact hPc, va_K.moved hW.alike hKc, nzA_warm hW hz⟩⟩ rfl rfl hl.1 rfl (lv_room (Nat.le_of_ble_eq_true rfl)) (dk_at dkX6_step 62 rfl) ⟨hRc, hRs⟩) hS (fun q _ h => h.elim) (fun q h => h.elim) (fun r_173 u t H1 locs ht hvm hw hB hz1 hk1 hS => ?_)
        obtain ⟨hw, hE⟩ := hw
        have hP := gz_keep hP hk1
        have hF := gf_call (a := r_173) hE hF
        generalize H1 = H at hP hS ⊢
        have gr_173 : gi r_173 0 1 := hw
        refine lv_if_eq (tgt := 227) hx hb (dk_at dkX6_step 63 rfl) (by decide) (fun c_174 => ?_) (fun c_174 => ?_)
        · have hF := gf_pos c_174 hF
          have g_175 : gi r_173 0 0 := gi_eq c_174 (gi_c 0 0 (by decide))
          exact kr227 w0_4 w0_5 w0_6 _ _ _ gw0_5 (gi_w g_170 (by decide)) hF hP hD hS (lv_sub hl [] rfl)
        · have hF := gf_neg c_174 hF
          have g_176 : gi r_173 1 1 := gi_ne_lo c_174 gr_173 (gi_c 0 0 (by decide)) (by decide)
          refine lv_aload_n hx hb (dk_at dkX6_step 64 rfl) rfl (lv_at hl 0 rfl) ?_
          refine lv_dup hx hb (dk_at dkX6_step 65 rfl) rfl ?_
          refine va_get (D := (dC, dI)) (ci := 6) (v := .int w0_6) (C := RX6) (T := TX6) (N := 7) hx hb hts (fun w h => List.mem_cons_of_mem _ (jnGA_X6 w h)) hown hK hP 0 rfl rfl 6 (by decide) (hts _ (List.mem_cons_of_mem _ mGA_59)) (fun _ h9 => h9) rfl (dk_at dkX6_step 66 rfl) ?_
          refine lv_iconst (v := 1) hx hb (dk_at dkX6_step 67 rfl) (by decide) ?_
          refine lv_iadd hx hb (dk_at dkX6_step 68 rfl) ?_
          refine lv_topi (fun x_177 ex_177 => ?_)
          have gx_177 : gi x_177 1 1600 := gi_add ex_177 g_170 (gi_c 1 1 (by decide)) (by decide)
          refine va_put (D := (dC, dI)) (ci := 6) (v := .int x_177) (ty := .int) (C := RX6) (T := TX6) (N := 7) hx hb hts (fun w h => List.mem_cons_of_mem _ (jnGA_X6 w h)) tyX6 tyX6_ok nmX6 hown hK hP hD hS 0 rfl rfl 6 (by decide) (hts _ (List.mem_cons_of_mem _ mGA_59)) (fun _ h9 => h9) rfl fdX6_6 rfl rfl (Nat.le_of_ble_eq_true rfl) (dk_at dkX6_step 69 rfl) (fun H locs hP hD hS => ?_)
          obtain ⟨hP, hD⟩ := gz_both (w := [(h0, .inr (6, [.ref tp, .ref dr, .int q_faultKind, .int q_faultPlace, .int w0_4, .int w0_5, .int x_177])), (tp, .inr (10, [.ref bt, .int b_length])), (bt, .inl (kbt, 1600, .inl fbt))]) hP hD
          refine lv_goto (tgt := 108) hx hb (dk_at dkX6_step 70 rfl) (by decide) ?_
          exact ih.2.1 v1 w0_4 w0_5 x_177 _ _ _ gw0_5 (gi_w gx_177 (by decide)) (by first | (rw [ex_177]; exact hF) | ((try rw [ex_177]); exact hF)) (by have aw0_6 := gw0_6.1; have bw0_6 := gw0_6.2; have qgx_177 := gx_177.1; have rgx_177 := gx_177.2; have igx_177 : x_177.toInt = w0_6.toInt + 1 := (by have hc1 : (1 : Int32).toInt = 1 := (by decide); have h9 := gi_addE ex_177 g_170 (gi_c 1 1 (by decide)) (by decide); rw [hc1] at h9; exact h9); have qgw0_6 := g_170.1; have rgw0_6 := g_170.2; omega) hP hD hS (lv_sub hl [0, 1] rfl)
    · intro v1 w0_4 w0_5 w0_6 H locs ls gw0_5 gw0_6 hF hmu hP hD hS hl
      have hF : dfX6_step_161 q_faultKind q_token q_start q_stop b_length fbt (lfX6_step q_faultKind q_token q_start q_stop b_length fbt z) w0_4 w0_5 w0_6 = RES := hF
      refine lv_aload_n hx hb (dk_at dkX6_step 77 rfl) rfl (lv_at hl 0 rfl) ?_
      refine va_get (D := (dC, dI)) (ci := 6) (v := .int w0_6) (C := RX6) (T := TX6) (N := 7) hx hb hts (fun w h => List.mem_cons_of_mem _ (jnGA_X6 w h)) hown hK hP 0 rfl rfl 6 (by decide) (hts _ (List.mem_cons_of_mem _ mGA_59)) (fun _ h9 => h9) rfl (dk_at dkX6_step 78 rfl) ?_
      refine lv_aload_n hx hb (dk_at dkX6_step 79 rfl) rfl (lv_at hl 0 rfl) ?_
      refine va_get (D := (dC, dI)) (ci := 6) (v := .ref tp) (C := RX6) (T := TX6) (N := 7) hx hb hts (fun w h => List.mem_cons_of_mem _ (jnGA_X6 w h)) hown hK hP 0 rfl rfl 0 (by decide) (hts _ (List.mem_cons_of_mem _ mGA_52)) (fun _ h9 => h9) rfl (dk_at dkX6_step 80 rfl) ?_
      refine va_get (D := (dC, dI)) (ci := 10) (v := .int b_length) (C := RX10) (T := TX10) (N := 2) hx hb hts (fun w h => List.mem_cons_of_mem _ (jnGA_X10 w h)) hown hK hP 1 rfl rfl 1 (by decide) (hts _ (List.mem_cons_of_mem _ mGA_166)) (fun _ h9 => h9) rfl (dk_at dkX6_step 81 rfl) ?_
      refine lv_icmp_ge (tgt := 227) hx hb (dk_at dkX6_step 82 rfl) (by decide) (fun c_178 => ?_) (fun c_178 => ?_)
      · have hF := gf_pos c_178 hF
        exact kr227 w0_4 w0_5 w0_6 _ _ _ gw0_5 gw0_6 hF hP hD hS (lv_sub hl [] rfl)
      · have hF := gf_neg c_178 hF
        have g_179 : gi w0_6 0 1599 := gi_lt_l (Int32.not_le.mp c_178) gw0_6 gb_length (by decide)
        have g_180 : gi b_length 1 1600 := gi_lt_r (Int32.not_le.mp c_178) gw0_6 gb_length (by decide)
        refine lv_aload_n hx hb (dk_at dkX6_step 83 rfl) rfl (lv_at hl 0 rfl) ?_
        refine lv_aload_n hx hb (dk_at dkX6_step 84 rfl) rfl (lv_at hl 0 rfl) ?_
        refine va_get (D := (dC, dI)) (ci := 6) (v := .int w0_6) (C := RX6) (T := TX6) (N := 7) hx hb hts (fun w h => List.mem_cons_of_mem _ (jnGA_X6 w h)) hown hK hP 0 rfl rfl 6 (by decide) (hts _ (List.mem_cons_of_mem _ mGA_59)) (fun _ h9 => h9) rfl (dk_at dkX6_step 85 rfl) ?_
        refine va_calli (va_runV (As := [.int w0_6]) (rest := []) ⟨hx, hb, hml, hown, hts⟩ (sX6_byteAt l dC dI h0 tp bt dr q_faultKind q_faultPlace w0_4 w0_5 w0_6 b_length kbt fbt w0_6 gq_faultKind gw0_5 (gi_w g_179 (by decide)) (gi_w g_180 (by decide))) (cwV 1 hts (gz_gV mGA_167 mGA_168 mGA_169 mGA_9 mGA_170 goodGA) rfl rfl rfl hdV_X6_byteAt_X6_1 ⟨Nat.le_trans (Nat.le_of_ble_eq_true rfl) hRf, Nat.le_trans (Nat.le_of_ble_eq_true rfl) hRl⟩) ⟨bl_I (bl_a bl_P (bl_a bl_K bl_nz)), va_recv hK hP (ci := 6) (q0 := 0) rfl rfl, fun U hU hW => ⟨rfl, by rw [hU]; exact hP, va_K.moved hW.alike hK, nzA_warm hW hz⟩⟩ rfl rfl hl.1 rfl (lv_room (Nat.le_of_ble_eq_true rfl)) (dk_at dkX6_step 86 rfl) ⟨hRc, hRs⟩) hS (fun q _ h => h.elim) (fun q h => h.elim) (fun r_181 u t H1 locs ht hvm hw hB hz1 hk1 hS => ?_)
        obtain ⟨hw, hE⟩ := hw
        have hP := gz_keep hP hk1
        have hF := gf_call (a := r_181) hE hF
        generalize H1 = H at hP hS ⊢
        have hPc := hP.sub (ws' := []) [] rfl
        have hKc := hK.sub (tys' := []) [] rfl
        refine va_calli (va_runS (As := [.int r_181]) (rest := []) ⟨hx, hb, hml, hown, hts⟩ (sX6_isDigit l dC dI r_181) (cwS 1 hts (gz_gS mGA_178 mGA_179 mGA_9 mGA_180 goodGA) rfl rfl rfl hdS_X6_isDigit_X6_1 ⟨Nat.le_trans (Nat.le_of_ble_eq_true rfl) hRf, Nat.le_trans (Nat.le_of_ble_eq_true rfl) hRl⟩) ⟨bl_I (bl_a bl_P (bl_a bl_K bl_nz)), fun U hU hW => ⟨rfl, by rw [hU]; exact hPc, va_K.moved hW.alike hKc, nzA_warm hW hz⟩⟩ rfl rfl hl.1 rfl (lv_room (Nat.le_of_ble_eq_true rfl)) (dk_at dkX6_step 87 rfl) ⟨hRc, hRs⟩) hS (fun q _ h => h.elim) (fun q h => h.elim) (fun r_182 u t H1 locs ht hvm hw hB hz1 hk1 hS => ?_)
        obtain ⟨hw, hE⟩ := hw
        have hP := gz_keep hP hk1
        have hF := gf_call (a := r_182) hE hF
        generalize H1 = H at hP hS ⊢
        have gr_182 : gi r_182 0 1 := hw
        refine lv_if_eq (tgt := 227) hx hb (dk_at dkX6_step 88 rfl) (by decide) (fun c_183 => ?_) (fun c_183 => ?_)
        · have hF := gf_pos c_183 hF
          have g_184 : gi r_182 0 0 := gi_eq c_183 (gi_c 0 0 (by decide))
          exact kr227 w0_4 w0_5 w0_6 _ _ _ gw0_5 (gi_w g_179 (by decide)) hF hP hD hS (lv_sub hl [] rfl)
        · have hF := gf_neg c_183 hF
          have g_185 : gi r_182 1 1 := gi_ne_lo c_183 gr_182 (gi_c 0 0 (by decide)) (by decide)
          refine lv_aload_n hx hb (dk_at dkX6_step 89 rfl) rfl (lv_at hl 0 rfl) ?_
          refine lv_dup hx hb (dk_at dkX6_step 90 rfl) rfl ?_
          refine va_get (D := (dC, dI)) (ci := 6) (v := .int w0_6) (C := RX6) (T := TX6) (N := 7) hx hb hts (fun w h => List.mem_cons_of_mem _ (jnGA_X6 w h)) hown hK hP 0 rfl rfl 6 (by decide) (hts _ (List.mem_cons_of_mem _ mGA_59)) (fun _ h9 => h9) rfl (dk_at dkX6_step 91 rfl) ?_
          refine lv_iconst (v := 1) hx hb (dk_at dkX6_step 92 rfl) (by decide) ?_
          refine lv_iadd hx hb (dk_at dkX6_step 93 rfl) ?_
          refine lv_topi (fun x_186 ex_186 => ?_)
          have gx_186 : gi x_186 1 1600 := gi_add ex_186 g_179 (gi_c 1 1 (by decide)) (by decide)
          refine va_put (D := (dC, dI)) (ci := 6) (v := .int x_186) (ty := .int) (C := RX6) (T := TX6) (N := 7) hx hb hts (fun w h => List.mem_cons_of_mem _ (jnGA_X6 w h)) tyX6 tyX6_ok nmX6 hown hK hP hD hS 0 rfl rfl 6 (by decide) (hts _ (List.mem_cons_of_mem _ mGA_59)) (fun _ h9 => h9) rfl fdX6_6 rfl rfl (Nat.le_of_ble_eq_true rfl) (dk_at dkX6_step 94 rfl) (fun H locs hP hD hS => ?_)
          obtain ⟨hP, hD⟩ := gz_both (w := [(h0, .inr (6, [.ref tp, .ref dr, .int q_faultKind, .int q_faultPlace, .int w0_4, .int w0_5, .int x_186])), (tp, .inr (10, [.ref bt, .int b_length])), (bt, .inl (kbt, 1600, .inl fbt))]) hP hD
          refine lv_goto (tgt := 161) hx hb (dk_at dkX6_step 95 rfl) (by decide) ?_
          exact ih.2.2 v1 w0_4 w0_5 x_186 _ _ _ gw0_5 (gi_w gx_186 (by decide)) (by first | (rw [ex_186]; exact hF) | ((try rw [ex_186]); exact hF)) (by have aw0_6 := gw0_6.1; have bw0_6 := gw0_6.2; have qgx_186 := gx_186.1; have rgx_186 := gx_186.2; have igx_186 : x_186.toInt = w0_6.toInt + 1 := (by have hc1 : (1 : Int32).toInt = 1 := (by decide); have h9 := gi_addE ex_186 g_179 (gi_c 1 1 (by decide)) (by decide); rw [hc1] at h9; exact h9); have qgw0_6 := g_179.1; have rgw0_6 := g_179.2; omega) hP hD hS (lv_sub hl [0, 1] rfl)
abbrev pb_sX6_step (dC : Nat → ClassId) (dI : Nat → Nat → Nat) (A9 : Nat → Prop) (h0 : Nat) (tp : Nat) (bt : Nat) (dr : Nat) (q_faultKind : Int32) (q_faultPlace : Int32) (q_token : Int32) (q_start : Int32) (q_stop : Int32) (b_length : Int32) (kbt : ClassId) (fbt : Nat → Int32) (w0_4 : Int32) (w0_5 : Int32) (w0_6 : Int32) (t : State) : Prop := gi w0_5 0 1600 ∧ gi w0_6 0 1600 ∧ (w0_4, w0_5, w0_6) = fX6_step q_faultKind q_token q_start q_stop b_length fbt ∧ va_P (dC, dI) vwCl [(h0, .inr (6, [.ref tp, .ref dr, .int q_faultKind, .int q_faultPlace, .int w0_4, .int w0_5, .int w0_6])), (tp, .inr (10, [.ref bt, .int b_length])), (bt, .inl (kbt, 1600, .inl fbt))] t.heap ∧ va_D A9 [(h0, .inr (6, [.ref tp, .ref dr, .int q_faultKind, .int q_faultPlace, .int w0_4, .int w0_5, .int w0_6])), (tp, .inr (10, [.ref bt, .int b_length])), (bt, .inl (kbt, 1600, .inl fbt))]
set_option maxHeartbeats 4000000 in
set_option maxRecDepth 100000 in
theorem sX6_step (l : Launch) (dC : Nat → ClassId) (dI : Nat → Nat → Nat) (sz : Nat) (h0 : Nat) (tp : Nat) (bt : Nat) (dr : Nat) (q_faultKind : Int32) (q_faultPlace : Int32) (q_token : Int32) (q_start : Int32) (q_stop : Int32) (b_length : Int32) (kbt : ClassId) (fbt : Nat → Int32) (gq_faultKind : gi q_faultKind 0 3) (gq_start : gi q_start 0 1600) (gq_stop : gi q_stop 0 1600) (gb_length : gi b_length 0 1600) : Met l yX6_step (.code yX6_step cX6_step 2 none :: wsGA) ({ frames := 1, cells := 0, slots := 0, locals := 21 }) (va_Pc [.ref h0] (fun U => U.heap.size = sz ∧ va_P (dC, dI) vwCl [(h0, .inr (6, [.ref tp, .ref dr, .int q_faultKind, .int q_faultPlace, .int q_token, .int q_start, .int q_stop])), (tp, .inr (10, [.ref bt, .int b_length])), (bt, .inl (kbt, 1600, .inl fbt))] U.heap ∧ va_K (dC, dI) vwCl [(kbt, .byte)] U ∧ va_D (fun _ => True) [(h0, .inr (6, [.ref tp, .ref dr, .int q_faultKind, .int q_faultPlace, .int q_token, .int q_start, .int q_stop])), (tp, .inr (10, [.ref bt, .int b_length])), (bt, .inl (kbt, 1600, .inl fbt))] ∧ nzA U)) (va_Qv (fun (u : Unit) => True) (fun _ t => ∃ (w0_4 : Int32) (w0_5 : Int32) (w0_6 : Int32), pb_sX6_step dC dI (va_A [(h0, .inr (6, [.ref tp, .ref dr, .int q_faultKind, .int q_faultPlace, .int q_token, .int q_start, .int q_stop])), (tp, .inr (10, [.ref bt, .int b_length])), (bt, .inl (kbt, 1600, .inl fbt))] sz) h0 tp bt dr q_faultKind q_faultPlace q_token q_start q_stop b_length kbt fbt w0_4 w0_5 w0_6 t) (va_A [(h0, .inr (6, [.ref tp, .ref dr, .int q_faultKind, .int q_faultPlace, .int q_token, .int q_start, .int q_stop])), (tp, .inr (10, [.ref bt, .int b_length])), (bt, .inl (kbt, 1600, .inl fbt))] sz)) 0 0 (va_A [(h0, .inr (6, [.ref tp, .ref dr, .int q_faultKind, .int q_faultPlace, .int q_token, .int q_start, .int q_stop])), (tp, .inr (10, [.ref bt, .int b_length])), (bt, .inl (kbt, 1600, .inl fbt))] sz) := by
  refine Met.ofW (cc := cX6_step) (maxL := 2) (ret := none) (by decide) rfl ?_
  intro p e s m args below meth c s₁ B hml hv
  obtain ⟨rfl, hsz, hP, hK, hD0, hz⟩ := hv
  have hx := B.exec
  have hb := B.bytes
  have hr := B.returns
  have hts := atoms_spec (ws := (.code yX6_step cX6_step 2 none :: wsGA)) B.pre
  have hown : s.vm.findClass RX6 = some m.cls := findClass_of_methodNamed B.named
  have hlocks := B.notSynchronized
  subst hsz
  have hD := hD0.self (sz := s.heap.size)
  generalize hAe : va_A [(h0, .inr (6, [.ref tp, .ref dr, .int q_faultKind, .int q_faultPlace, .int q_token, .int q_start, .int q_stop])), (tp, .inr (10, [.ref bt, .int b_length])), (bt, .inl (kbt, 1600, .inl fbt))] s.heap.size = A at hD ⊢
  have hA : ∀ q : Nat, s.heap.size ≤ q → A q := fun q h => by rw [← hAe]; exact Or.inr h
  have hS : va_S A s.heap s.heap [] := va_S.rf
  have hl := lv_entry ([.ref h0]) (n := 2) (Nat.le_of_ble_eq_true rfl)
  rw [lg_entry_eq]
  generalize (lg_sl ([.ref h0]) ++ List.replicate (2 - (lg_sl ([.ref h0])).length) Slot.unset).toArray = ls at hl ⊢
  have hl : lv_has ls 2 [(0, .ref h0)] := hl
  obtain ⟨RES, hF⟩ : ∃ R9, fX6_step q_faultKind q_token q_start q_stop b_length fbt = R9 := ⟨_, rfl⟩
  have hR9 := hF
  refine lv_aload_n hx hb (dk_at dkX6_step 0 rfl) rfl (lv_at hl 0 rfl) ?_
  refine va_get (D := (dC, dI)) (ci := 6) (v := .int q_faultKind) (C := RX6) (T := TX6) (N := 7) hx hb hts (fun w h => List.mem_cons_of_mem _ (jnGA_X6 w h)) hown hK hP 0 rfl rfl 2 (by decide) (hts _ (List.mem_cons_of_mem _ mGA_55)) (fun _ h9 => h9) rfl (dk_at dkX6_step 1 rfl) ?_
  refine lv_if_eq (tgt := 8) hx hb (dk_at dkX6_step 2 rfl) (by decide) (fun c_187 => ?_) (fun c_187 => ?_)
  · have hF := gf_pos c_187 hF
    have g_188 : gi q_faultKind 0 0 := gi_eq c_187 (gi_c 0 0 (by decide))
    refine lv_aload_n hx hb (dk_at dkX6_step 4 rfl) rfl (lv_at hl 0 rfl) ?_
    refine lv_aload_n hx hb (dk_at dkX6_step 5 rfl) rfl (lv_at hl 0 rfl) ?_
    refine va_get (D := (dC, dI)) (ci := 6) (v := .int q_stop) (C := RX6) (T := TX6) (N := 7) hx hb hts (fun w h => List.mem_cons_of_mem _ (jnGA_X6 w h)) hown hK hP 0 rfl rfl 6 (by decide) (hts _ (List.mem_cons_of_mem _ mGA_59)) (fun _ h9 => h9) rfl (dk_at dkX6_step 6 rfl) ?_
    refine va_put (D := (dC, dI)) (ci := 6) (v := .int q_stop) (ty := .int) (C := RX6) (T := TX6) (N := 7) hx hb hts (fun w h => List.mem_cons_of_mem _ (jnGA_X6 w h)) tyX6 tyX6_ok nmX6 hown hK hP hD hS 0 rfl rfl 5 (by decide) (hts _ (List.mem_cons_of_mem _ mGA_58)) (fun _ h9 => h9) rfl fdX6_5 rfl rfl (Nat.le_of_ble_eq_true rfl) (dk_at dkX6_step 7 rfl) (fun H locs hP hD hS => ?_)
    obtain ⟨hP, hD⟩ := gz_both (w := [(h0, .inr (6, [.ref tp, .ref dr, .int q_faultKind, .int q_faultPlace, .int q_token, .int q_stop, .int q_stop])), (tp, .inr (10, [.ref bt, .int b_length])), (bt, .inl (kbt, 1600, .inl fbt))]) hP hD
    refine (lp_sX6_step h0 tp bt dr q_faultKind q_faultPlace q_token q_start q_stop b_length kbt fbt gq_faultKind gq_start gq_stop gb_length hx hb hml hown hts hK hz hA (Nat.le_of_ble_eq_true rfl) (Nat.le_of_ble_eq_true rfl) (Nat.zero_le _) (Nat.zero_le _) (fun w0_4 w0_5 w0_6 H locs ls gw0_5 gw0_6 hF hP hD hS hl => ?_) (fun w0_4 w0_5 w0_6 H locs ls gw0_5 gw0_6 hF hP hD hS hl => ?_) 1000000000).1 q_stop _ _ _ gq_stop hF (by have qgq_stop := gq_stop.1; have rgq_stop := gq_stop.2; omega) hP hD hS (lv_sub hl [0] rfl)
    · skip
      exact W.vret hx hb hr (fun t ht hW => ⟨⟨(), rfl, trivial, w0_4, w0_5, w0_6, gw0_5, gw0_6, hF.trans hR9.symm, by rw [ht]; exact hP, hD⟩, hS.F ht⟩) hS.2.2 (dk_at dkX6_step 3 rfl)
    · skip
      exact W.vret hx hb hr (fun t ht hW => ⟨⟨(), rfl, trivial, w0_4, w0_5, w0_6, gw0_5, gw0_6, hF.trans hR9.symm, by rw [ht]; exact hP, hD⟩, hS.F ht⟩) hS.2.2 (dk_at dkX6_step 110 rfl)
  · have hF := gf_neg c_187 hF
    have g_189 : gi q_faultKind 1 3 := gi_ne_lo c_187 gq_faultKind (gi_c 0 0 (by decide)) (by decide)
    exact W.vret hx hb hr (fun t ht hW => ⟨⟨(), rfl, trivial, q_token, q_start, q_stop, gq_start, gq_stop, hF.trans hR9.symm, by rw [ht]; exact hP, hD⟩, hS.F ht⟩) hS.2.2 (dk_at dkX6_step 3 rfl)
noncomputable def lsX6_nameHere : List (Nat × Instr × Nat) := [(0, .iconst 0, 1), (1, .istore_n 1, 1), (2, .iconst 0, 1), (3, .istore_n 2, 1), (4, .iload_n 2, 1), (5, .bipush 6, 2), (7, .if_icmp .ge 60, 3), (10, .aload_n 0, 1), (11, .getfield 35, 3), (14, .iload_n 2, 1), (15, .iadd, 1), (16, .aload_n 0, 1), (17, .getfield 38, 3), (20, .if_icmp .ge 16, 3), (23, .aload_n 0, 1), (24, .aload_n 0, 1), (25, .getfield 35, 3), (28, .iload_n 2, 1), (29, .iadd, 1), (30, .invokevirtual 181, 3), (33, .goto 4, 3), (36, .iconst (-1), 1), (37, .istore_n 3, 1), (38, .iload_n 1, 1), (39, .bipush 27, 2), (41, .imul, 1), (42, .iload_n 3, 1), (43, .invokestatic 184, 3), (46, .ifCond .eq 12, 3), (49, .iload_n 3, 1), (50, .bipush 97, 2), (52, .isub, 1), (53, .iconst 1, 1), (54, .iadd, 1), (55, .goto 4, 3), (58, .iconst 0, 1), (59, .iadd, 1), (60, .istore_n 1, 1), (61, .iinc 2 1, 3), (64, .goto (-60), 3), (67, .iload_n 1, 1), (68, .ireturn, 1)]
theorem dkX6_nameHere : dkAll cX6_nameHere lsX6_nameHere = true := dk_fast (by decide +kernel)
noncomputable def bfX6_nameHere_59 (q_start : Int32) (q_stop : Int32) (b_length : Int32) (fbt : Nat → Int32) (K : (Int32 → Int32 → Int32)) (v2 : Int32) (s0 : Int32) (s1 : Int32) : Int32 := K (s1 + s0) (v2 + (1 : Int32))
noncomputable def bfX6_nameHere_37 (q_start : Int32) (q_stop : Int32) (b_length : Int32) (fbt : Nat → Int32) (K : (Int32 → Int32 → Int32)) (v1 : Int32) (v2 : Int32) (s0 : Int32) : Int32 := cal (fun o2 => if o2 = (0 : Int32) then (bfX6_nameHere_59 q_start q_stop b_length fbt K v2 (0 : Int32) (v1 * (27 : Int32))) else (bfX6_nameHere_59 q_start q_stop b_length fbt K v2 ((s0 - (97 : Int32)) + (1 : Int32)) (v1 * (27 : Int32)))) (fX6_isLetter s0)
noncomputable def dfX6_nameHere_4 (q_start : Int32) (q_stop : Int32) (b_length : Int32) (fbt : Nat → Int32) (K : (Int32 → Int32 → Int32)) (v1 : Int32) (v2 : Int32) : Int32 := if (6 : Int32) ≤ v2 then v1 else (if q_stop ≤ (q_start + v2) then (bfX6_nameHere_37 q_start q_stop b_length fbt K v1 v2 (-1 : Int32)) else (cal (fun o1 => bfX6_nameHere_37 q_start q_stop b_length fbt K v1 v2 o1) (fX6_byteAt b_length fbt (q_start + v2))))
noncomputable def lfX6_nameHere (q_start : Int32) (q_stop : Int32) (b_length : Int32) (fbt : Nat → Int32) (z : Nat) : (Int32 → Int32 → Int32) := Nat.rec (motive := fun _ => (Int32 → Int32 → Int32)) (fun _ _ => (0)) (fun _ K => dfX6_nameHere_4 q_start q_stop b_length fbt K) z
noncomputable def fX6_nameHere (q_start : Int32) (q_stop : Int32) (b_length : Int32) (fbt : Nat → Int32) : Int32 := (lfX6_nameHere q_start q_stop b_length fbt 1000000000) (0 : Int32) (0 : Int32)
set_option maxHeartbeats 4000000 in
set_option maxRecDepth 100000 in
theorem lp_sX6_nameHere {p : Program} {l : Launch} {e : Env} {R : Room} {s : State} {m : MethodId} {args : Array Value} {below : List Frame} {meth : Method} {c : Code} {Q : State → Prop} {A : Nat → Prop} {cells slots : Nat} {dC : Nat → ClassId} {dI : Nat → Nat → Nat} {RES : Int32} (h0 : Nat) (tp : Nat) (bt : Nat) (dr : Nat) (q_faultKind : Int32) (q_faultPlace : Int32) (q_token : Int32) (q_start : Int32) (q_stop : Int32) (b_length : Int32) (kbt : ClassId) (fbt : Nat → Int32) (gq_faultKind : gi q_faultKind 0 3) (gq_start : gi q_start 0 1600) (gq_stop : gi q_stop 0 1600) (gb_length : gi b_length 0 1600) (hx : p.tables.exec = Jvm.exec) (hb : c.code = cX6_nameHere) (hml : c.maxLocals = 4) (hown : s.vm.findClass RX6 = some m.cls) (hts : ∀ w ∈ ((.code yX6_nameHere cX6_nameHere 4 (some .int) :: wsGA) : List Cond), w.before args s = true) (hK : va_K (dC, dI) vwCl [(kbt, .byte)] s) (hz : nzA s) (hRf : 1 ≤ R.frames) (hRl : 21 ≤ R.locals) (hRc : cells ≤ R.cells) (hRs : slots ≤ R.slots) (kr68 : ∀ (v : Int32) (H : Heap) (locs : List Loc) (ls : Array Slot), v = RES → va_P (dC, dI) vwCl [(h0, .inr (6, [.ref tp, .ref dr, .int q_faultKind, .int q_faultPlace, .int q_token, .int q_start, .int q_stop])), (tp, .inr (10, [.ref bt, .int b_length])), (bt, .inl (kbt, 1600, .inl fbt))] H → va_S A s.heap H locs → lv_has ls 4 [] → W p l e R s m args below meth c H locs cells slots Q (F0 m 68 ls [.int v])) : ∀ z : Nat, (∀ (v1 : Int32) (v2 : Int32) (H : Heap) (locs : List Loc) (ls : Array Slot), gi v2 0 6 → (lfX6_nameHere q_start q_stop b_length fbt z) v1 v2 = RES → 13 + (-2) * v2.toInt < (z : Int) → va_P (dC, dI) vwCl [(h0, .inr (6, [.ref tp, .ref dr, .int q_faultKind, .int q_faultPlace, .int q_token, .int q_start, .int q_stop])), (tp, .inr (10, [.ref bt, .int b_length])), (bt, .inl (kbt, 1600, .inl fbt))] H → va_S A s.heap H locs → lv_has ls 4 [(0, .ref h0), (1, .int v1), (2, .int v2)] → W p l e R s m args below meth c H locs cells slots Q (F0 m 4 ls [])) := by
  intro z
  induction z with
  | zero =>
    intro v1 v2 H locs ls gv2 hF hmu hP hS hl
    exact absurd hmu (by have hv21 := gv2.1; have hv22 := gv2.2; omega)
  | succ z ih =>
      intro v1 v2 H locs ls gv2 hF hmu hP hS hl
      have hF : dfX6_nameHere_4 q_start q_stop b_length fbt (lfX6_nameHere q_start q_stop b_length fbt z) v1 v2 = RES := hF
      refine lv_iload_n hx hb (dk_at dkX6_nameHere 4 rfl) rfl (lv_at hl 2 rfl) ?_
      refine lv_bipush (v := 6) hx hb (dk_at dkX6_nameHere 5 rfl) (by decide) ?_
      refine lv_icmp_ge (tgt := 67) hx hb (dk_at dkX6_nameHere 6 rfl) (by decide) (fun c_192 => ?_) (fun c_192 => ?_)
      · have hF := gf_pos c_192 hF
        have g_193 : gi v2 6 6 := gi_le_r c_192 (gi_c 6 6 (by decide)) gv2
        refine lv_iload_n hx hb (dk_at dkX6_nameHere 40 rfl) rfl (lv_at hl 1 rfl) ?_
        exact kr68 v1 _ _ _ hF hP hS (lv_sub hl [] rfl)
      · have hF := gf_neg c_192 hF
        have g_194 : gi v2 0 5 := gi_lt_l (Int32.not_le.mp c_192) gv2 (gi_c 6 6 (by decide)) (by decide)
        refine lv_aload_n hx hb (dk_at dkX6_nameHere 7 rfl) rfl (lv_at hl 0 rfl) ?_
        refine va_get (D := (dC, dI)) (ci := 6) (v := .int q_start) (C := RX6) (T := TX6) (N := 7) hx hb hts (fun w h => List.mem_cons_of_mem _ (jnGA_X6 w h)) hown hK hP 0 rfl rfl 5 (by decide) (hts _ (List.mem_cons_of_mem _ mGA_58)) (fun _ h9 => h9) rfl (dk_at dkX6_nameHere 8 rfl) ?_
        refine lv_iload_n hx hb (dk_at dkX6_nameHere 9 rfl) rfl (lv_at hl 2 rfl) ?_
        refine lv_iadd hx hb (dk_at dkX6_nameHere 10 rfl) ?_
        refine lv_topi (fun x_195 ex_195 => ?_)
        have gx_195 : gi x_195 0 1605 := gi_add ex_195 gq_start g_194 (by decide)
        refine lv_aload_n hx hb (dk_at dkX6_nameHere 11 rfl) rfl (lv_at hl 0 rfl) ?_
        refine va_get (D := (dC, dI)) (ci := 6) (v := .int q_stop) (C := RX6) (T := TX6) (N := 7) hx hb hts (fun w h => List.mem_cons_of_mem _ (jnGA_X6 w h)) hown hK hP 0 rfl rfl 6 (by decide) (hts _ (List.mem_cons_of_mem _ mGA_59)) (fun _ h9 => h9) rfl (dk_at dkX6_nameHere 12 rfl) ?_
        refine lv_icmp_ge (tgt := 36) hx hb (dk_at dkX6_nameHere 13 rfl) (by decide) (fun c_196 => ?_) (fun c_196 => ?_)
        · have hF := gf_pos (by rw [ex_195] at c_196; exact c_196) hF
          refine lv_iconst (v := (-1)) hx hb (dk_at dkX6_nameHere 21 rfl) (by decide) ?_
          refine lv_istore_n (lv' := [(3, .int (-1)), (0, .ref h0), (1, .int v1), (2, .int v2)]) hx hb (dk_at dkX6_nameHere 22 rfl) rfl hl (by decide) rfl (fun ls hl => ?_)
          refine lv_iload_n hx hb (dk_at dkX6_nameHere 23 rfl) rfl (lv_at hl 2 rfl) ?_
          refine lv_bipush (v := 27) hx hb (dk_at dkX6_nameHere 24 rfl) (by decide) ?_
          refine lv_imul hx hb (dk_at dkX6_nameHere 25 rfl) ?_
          refine lv_topi (fun x_197 ex_197 => ?_)
          refine lv_iload_n hx hb (dk_at dkX6_nameHere 26 rfl) rfl (lv_at hl 0 rfl) ?_
          have hPc := hP.sub (ws' := []) [] rfl
          have hKc := hK.sub (tys' := []) [] rfl
          refine va_calli (va_runS (As := [.int (-1)]) (rest := [.int x_197]) ⟨hx, hb, hml, hown, hts⟩ (sX6_isLetter l dC dI (-1)) (cwS 1 hts (gz_gS mGA_175 mGA_176 mGA_9 mGA_177 goodGA) rfl rfl rfl hdS_X6_isLetter_X6_1 ⟨Nat.le_trans (Nat.le_of_ble_eq_true rfl) hRf, Nat.le_trans (Nat.le_of_ble_eq_true rfl) hRl⟩) ⟨bl_I (bl_a bl_P (bl_a bl_K bl_nz)), fun U hU hW => ⟨rfl, by rw [hU]; exact hPc, va_K.moved hW.alike hKc, nzA_warm hW hz⟩⟩ rfl rfl hl.1 rfl (lv_room (Nat.le_of_ble_eq_true rfl)) (dk_at dkX6_nameHere 27 rfl) ⟨hRc, hRs⟩) hS (fun q _ h => h.elim) (fun q h => h.elim) (fun r_198 u t H1 locs ht hvm hw hB hz1 hk1 hS => ?_)
          obtain ⟨hw, hE⟩ := hw
          have hP := gz_keep hP hk1
          have hF := gf_call (a := r_198) hE hF
          generalize H1 = H at hP hS ⊢
          have gr_198 : gi r_198 0 1 := hw
          refine lv_if_eq (tgt := 58) hx hb (dk_at dkX6_nameHere 28 rfl) (by decide) (fun c_199 => ?_) (fun c_199 => ?_)
          · have hF := gf_pos c_199 hF
            have g_200 : gi r_198 0 0 := gi_eq c_199 (gi_c 0 0 (by decide))
            refine lv_iconst (v := 0) hx hb (dk_at dkX6_nameHere 35 rfl) (by decide) ?_
            refine lv_iadd hx hb (dk_at dkX6_nameHere 36 rfl) ?_
            refine lv_topi (fun x_201 ex_201 => ?_)
            refine lv_istore_n (lv' := [(1, .int x_201), (3, .int (-1)), (0, .ref h0), (2, .int v2)]) hx hb (dk_at dkX6_nameHere 37 rfl) rfl hl (by decide) rfl (fun ls hl => ?_)
            obtain ⟨x_202, ex_202⟩ : ∃ y : Int32, y = v2 + 1 := ⟨_, rfl⟩
            have gx_202 : gi x_202 1 6 := gi_add ex_202 g_194 (gi_c 1 1 (by decide)) (by decide)
            refine lv_iinc (v := x_202) (lv' := [(2, .int x_202), (1, .int x_201), (3, .int (-1)), (0, .ref h0)]) hx hb (dk_at dkX6_nameHere 38 rfl) hl (k := 3) rfl (by rw [ex_202]; rfl) (by decide) rfl (fun ls hl => ?_)
            refine lv_goto (tgt := 4) hx hb (dk_at dkX6_nameHere 39 rfl) (by decide) ?_
            exact ih x_201 x_202 _ _ _ (gi_w gx_202 (by decide)) (by first | (rw [ex_202, ex_201, ex_197]; exact hF) | ((try rw [ex_202]); (try rw [ex_201]); (try rw [ex_197]); exact hF)) (by have av2 := gv2.1; have bv2 := gv2.2; have qgx_202 := gx_202.1; have rgx_202 := gx_202.2; have igx_202 : x_202.toInt = v2.toInt + 1 := (by have hc1 : (1 : Int32).toInt = 1 := (by decide); have h9 := gi_addE ex_202 g_194 (gi_c 1 1 (by decide)) (by decide); rw [hc1] at h9; exact h9); have qgv2 := g_194.1; have rgv2 := g_194.2; omega) hP hS (lv_sub hl [3, 1, 0] rfl)
          · have hF := gf_neg c_199 hF
            have g_203 : gi r_198 1 1 := gi_ne_lo c_199 gr_198 (gi_c 0 0 (by decide)) (by decide)
            refine lv_iload_n hx hb (dk_at dkX6_nameHere 29 rfl) rfl (lv_at hl 0 rfl) ?_
            refine lv_bipush (v := 97) hx hb (dk_at dkX6_nameHere 30 rfl) (by decide) ?_
            refine lv_isub hx hb (dk_at dkX6_nameHere 31 rfl) ?_
            refine gz_topi (y := (-98)) (by decide) ?_
            refine lv_iconst (v := 1) hx hb (dk_at dkX6_nameHere 32 rfl) (by decide) ?_
            refine lv_iadd hx hb (dk_at dkX6_nameHere 33 rfl) ?_
            refine gz_topi (y := (-97)) (by decide) ?_
            refine lv_goto (tgt := 59) hx hb (dk_at dkX6_nameHere 34 rfl) (by decide) ?_
            refine lv_iadd hx hb (dk_at dkX6_nameHere 36 rfl) ?_
            refine lv_topi (fun x_204 ex_204 => ?_)
            refine lv_istore_n (lv' := [(1, .int x_204), (3, .int (-1)), (0, .ref h0), (2, .int v2)]) hx hb (dk_at dkX6_nameHere 37 rfl) rfl hl (by decide) rfl (fun ls hl => ?_)
            obtain ⟨x_205, ex_205⟩ : ∃ y : Int32, y = v2 + 1 := ⟨_, rfl⟩
            have gx_205 : gi x_205 1 6 := gi_add ex_205 g_194 (gi_c 1 1 (by decide)) (by decide)
            refine lv_iinc (v := x_205) (lv' := [(2, .int x_205), (1, .int x_204), (3, .int (-1)), (0, .ref h0)]) hx hb (dk_at dkX6_nameHere 38 rfl) hl (k := 3) rfl (by rw [ex_205]; rfl) (by decide) rfl (fun ls hl => ?_)
            refine lv_goto (tgt := 4) hx hb (dk_at dkX6_nameHere 39 rfl) (by decide) ?_
            exact ih x_204 x_205 _ _ _ (gi_w gx_205 (by decide)) (by first | (rw [ex_205, ex_204, ex_197]; exact hF) | ((try rw [ex_205]); (try rw [ex_204]); (try rw [ex_197]); exact hF)) (by have av2 := gv2.1; have bv2 := gv2.2; have qgx_205 := gx_205.1; have rgx_205 := gx_205.2; have igx_205 : x_205.toInt = v2.toInt + 1 := (by have hc1 : (1 : Int32).toInt = 1 := (by decide); have h9 := gi_addE ex_205 g_194 (gi_c 1 1 (by decide)) (by decide); rw [hc1] at h9; exact h9); have qgv2 := g_194.1; have rgv2 := g_194.2; omega) hP hS (lv_sub hl [3, 1, 0] rfl)
        · have hF := gf_neg (by rw [ex_195] at c_196; exact c_196) hF
          have g_206 : gi x_195 0 1599 := gi_lt_l (Int32.not_le.mp c_196) gx_195 gq_stop (by decide)
          have g_207 : gi q_stop 1 1600 := gi_lt_r (Int32.not_le.mp c_196) gx_195 gq_stop (by decide)
          refine lv_aload_n hx hb (dk_at dkX6_nameHere 14 rfl) rfl (lv_at hl 0 rfl) ?_
          refine lv_aload_n hx hb (dk_at dkX6_nameHere 15 rfl) rfl (lv_at hl 0 rfl) ?_
          refine va_get (D := (dC, dI)) (ci := 6) (v := .int q_start) (C := RX6) (T := TX6) (N := 7) hx hb hts (fun w h => List.mem_cons_of_mem _ (jnGA_X6 w h)) hown hK hP 0 rfl rfl 5 (by decide) (hts _ (List.mem_cons_of_mem _ mGA_58)) (fun _ h9 => h9) rfl (dk_at dkX6_nameHere 16 rfl) ?_
          refine lv_iload_n hx hb (dk_at dkX6_nameHere 17 rfl) rfl (lv_at hl 2 rfl) ?_
          refine lv_iadd hx hb (dk_at dkX6_nameHere 18 rfl) ?_
          refine lv_topi (fun x_208 ex_208 => ?_)
          have gx_208 : gi x_208 0 1605 := gi_add ex_208 gq_start g_194 (by decide)
          refine va_calli (va_runV (As := [.int x_208]) (rest := []) ⟨hx, hb, hml, hown, hts⟩ (sX6_byteAt l dC dI h0 tp bt dr q_faultKind q_faultPlace q_token q_start q_stop b_length kbt fbt x_208 gq_faultKind gq_start (gi_w g_207 (by decide)) gb_length) (cwV 1 hts (gz_gV mGA_167 mGA_168 mGA_169 mGA_9 mGA_170 goodGA) rfl rfl rfl hdV_X6_byteAt_X6_1 ⟨Nat.le_trans (Nat.le_of_ble_eq_true rfl) hRf, Nat.le_trans (Nat.le_of_ble_eq_true rfl) hRl⟩) ⟨bl_I (bl_a bl_P (bl_a bl_K bl_nz)), va_recv hK hP (ci := 6) (q0 := 0) rfl rfl, fun U hU hW => ⟨rfl, by rw [hU]; exact hP, va_K.moved hW.alike hK, nzA_warm hW hz⟩⟩ rfl rfl hl.1 rfl (lv_room (Nat.le_of_ble_eq_true rfl)) (dk_at dkX6_nameHere 19 rfl) ⟨hRc, hRs⟩) hS (fun q _ h => h.elim) (fun q h => h.elim) (fun r_209 u t H1 locs ht hvm hw hB hz1 hk1 hS => ?_)
          obtain ⟨hw, hE⟩ := hw
          have hP := gz_keep hP hk1
          have hF := gf_call (a := r_209) (by rw [ex_208] at hE; exact hE) hF
          generalize H1 = H at hP hS ⊢
          refine lv_goto (tgt := 37) hx hb (dk_at dkX6_nameHere 20 rfl) (by decide) ?_
          refine lv_istore_n (lv' := [(3, .int r_209), (0, .ref h0), (1, .int v1), (2, .int v2)]) hx hb (dk_at dkX6_nameHere 22 rfl) rfl hl (by decide) rfl (fun ls hl => ?_)
          refine lv_iload_n hx hb (dk_at dkX6_nameHere 23 rfl) rfl (lv_at hl 2 rfl) ?_
          refine lv_bipush (v := 27) hx hb (dk_at dkX6_nameHere 24 rfl) (by decide) ?_
          refine lv_imul hx hb (dk_at dkX6_nameHere 25 rfl) ?_
          refine lv_topi (fun x_210 ex_210 => ?_)
          refine lv_iload_n hx hb (dk_at dkX6_nameHere 26 rfl) rfl (lv_at hl 0 rfl) ?_
          have hPc := hP.sub (ws' := []) [] rfl
          have hKc := hK.sub (tys' := []) [] rfl
          refine va_calli (va_runS (As := [.int r_209]) (rest := [.int x_210]) ⟨hx, hb, hml, hown, hts⟩ (sX6_isLetter l dC dI r_209) (cwS 1 hts (gz_gS mGA_175 mGA_176 mGA_9 mGA_177 goodGA) rfl rfl rfl hdS_X6_isLetter_X6_1 ⟨Nat.le_trans (Nat.le_of_ble_eq_true rfl) hRf, Nat.le_trans (Nat.le_of_ble_eq_true rfl) hRl⟩) ⟨bl_I (bl_a bl_P (bl_a bl_K bl_nz)), fun U hU hW => ⟨rfl, by rw [hU]; exact hPc, va_K.moved hW.alike hKc, nzA_warm hW hz⟩⟩ rfl rfl hl.1 rfl (lv_room (Nat.le_of_ble_eq_true rfl)) (dk_at dkX6_nameHere 27 rfl) ⟨hRc, hRs⟩) hS (fun q _ h => h.elim) (fun q h => h.elim) (fun r_211 u t H1 locs ht hvm hw hB hz1 hk1 hS => ?_)
          obtain ⟨hw, hE⟩ := hw
          have hP := gz_keep hP hk1
          have hF := gf_call (a := r_211) hE hF
          generalize H1 = H at hP hS ⊢
          have gr_211 : gi r_211 0 1 := hw
          refine lv_if_eq (tgt := 58) hx hb (dk_at dkX6_nameHere 28 rfl) (by decide) (fun c_212 => ?_) (fun c_212 => ?_)
          · have hF := gf_pos c_212 hF
            have g_213 : gi r_211 0 0 := gi_eq c_212 (gi_c 0 0 (by decide))
            refine lv_iconst (v := 0) hx hb (dk_at dkX6_nameHere 35 rfl) (by decide) ?_
            refine lv_iadd hx hb (dk_at dkX6_nameHere 36 rfl) ?_
            refine lv_topi (fun x_214 ex_214 => ?_)
            refine lv_istore_n (lv' := [(1, .int x_214), (3, .int r_209), (0, .ref h0), (2, .int v2)]) hx hb (dk_at dkX6_nameHere 37 rfl) rfl hl (by decide) rfl (fun ls hl => ?_)
            obtain ⟨x_215, ex_215⟩ : ∃ y : Int32, y = v2 + 1 := ⟨_, rfl⟩
            have gx_215 : gi x_215 1 6 := gi_add ex_215 g_194 (gi_c 1 1 (by decide)) (by decide)
            refine lv_iinc (v := x_215) (lv' := [(2, .int x_215), (1, .int x_214), (3, .int r_209), (0, .ref h0)]) hx hb (dk_at dkX6_nameHere 38 rfl) hl (k := 3) rfl (by rw [ex_215]; rfl) (by decide) rfl (fun ls hl => ?_)
            refine lv_goto (tgt := 4) hx hb (dk_at dkX6_nameHere 39 rfl) (by decide) ?_
            exact ih x_214 x_215 _ _ _ (gi_w gx_215 (by decide)) (by first | (rw [ex_215, ex_214, ex_210]; exact hF) | ((try rw [ex_215]); (try rw [ex_214]); (try rw [ex_210]); exact hF)) (by have av2 := gv2.1; have bv2 := gv2.2; have qgx_215 := gx_215.1; have rgx_215 := gx_215.2; have igx_215 : x_215.toInt = v2.toInt + 1 := (by have hc1 : (1 : Int32).toInt = 1 := (by decide); have h9 := gi_addE ex_215 g_194 (gi_c 1 1 (by decide)) (by decide); rw [hc1] at h9; exact h9); have qgv2 := g_194.1; have rgv2 := g_194.2; omega) hP hS (lv_sub hl [3, 1, 0] rfl)
          · have hF := gf_neg c_212 hF
            have g_216 : gi r_211 1 1 := gi_ne_lo c_212 gr_211 (gi_c 0 0 (by decide)) (by decide)
            refine lv_iload_n hx hb (dk_at dkX6_nameHere 29 rfl) rfl (lv_at hl 0 rfl) ?_
            refine lv_bipush (v := 97) hx hb (dk_at dkX6_nameHere 30 rfl) (by decide) ?_
            refine lv_isub hx hb (dk_at dkX6_nameHere 31 rfl) ?_
            refine lv_topi (fun x_217 ex_217 => ?_)
            refine lv_iconst (v := 1) hx hb (dk_at dkX6_nameHere 32 rfl) (by decide) ?_
            refine lv_iadd hx hb (dk_at dkX6_nameHere 33 rfl) ?_
            refine lv_topi (fun x_218 ex_218 => ?_)
            refine lv_goto (tgt := 59) hx hb (dk_at dkX6_nameHere 34 rfl) (by decide) ?_
            refine lv_iadd hx hb (dk_at dkX6_nameHere 36 rfl) ?_
            refine lv_topi (fun x_219 ex_219 => ?_)
            refine lv_istore_n (lv' := [(1, .int x_219), (3, .int r_209), (0, .ref h0), (2, .int v2)]) hx hb (dk_at dkX6_nameHere 37 rfl) rfl hl (by decide) rfl (fun ls hl => ?_)
            obtain ⟨x_220, ex_220⟩ : ∃ y : Int32, y = v2 + 1 := ⟨_, rfl⟩
            have gx_220 : gi x_220 1 6 := gi_add ex_220 g_194 (gi_c 1 1 (by decide)) (by decide)
            refine lv_iinc (v := x_220) (lv' := [(2, .int x_220), (1, .int x_219), (3, .int r_209), (0, .ref h0)]) hx hb (dk_at dkX6_nameHere 38 rfl) hl (k := 3) rfl (by rw [ex_220]; rfl) (by decide) rfl (fun ls hl => ?_)
            refine lv_goto (tgt := 4) hx hb (dk_at dkX6_nameHere 39 rfl) (by decide) ?_
            exact ih x_219 x_220 _ _ _ (gi_w gx_220 (by decide)) (by first | (rw [ex_220, ex_219, ex_218, ex_217, ex_210]; exact hF) | ((try rw [ex_220]); (try rw [ex_219]); (try rw [ex_218]); (try rw [ex_217]); (try rw [ex_210]); exact hF)) (by have av2 := gv2.1; have bv2 := gv2.2; have qgx_220 := gx_220.1; have rgx_220 := gx_220.2; have igx_220 : x_220.toInt = v2.toInt + 1 := (by have hc1 : (1 : Int32).toInt = 1 := (by decide); have h9 := gi_addE ex_220 g_194 (gi_c 1 1 (by decide)) (by decide); rw [hc1] at h9; exact h9); have qgv2 := g_194.1; have rgv2 := g_194.2; omega) hP hS (lv_sub hl [3, 1, 0] rfl)
set_option maxHeartbeats 4000000 in
set_option maxRecDepth 100000 in
theorem sX6_nameHere (l : Launch) (dC : Nat → ClassId) (dI : Nat → Nat → Nat) (h0 : Nat) (tp : Nat) (bt : Nat) (dr : Nat) (q_faultKind : Int32) (q_faultPlace : Int32) (q_token : Int32) (q_start : Int32) (q_stop : Int32) (b_length : Int32) (kbt : ClassId) (fbt : Nat → Int32) (gq_faultKind : gi q_faultKind 0 3) (gq_start : gi q_start 0 1600) (gq_stop : gi q_stop 0 1600) (gb_length : gi b_length 0 1600) : Met l yX6_nameHere (.code yX6_nameHere cX6_nameHere 4 (some .int) :: wsGA) ({ frames := 1, cells := 0, slots := 0, locals := 21 }) (va_Pc [.ref h0] (fun U => va_P (dC, dI) vwCl [(h0, .inr (6, [.ref tp, .ref dr, .int q_faultKind, .int q_faultPlace, .int q_token, .int q_start, .int q_stop])), (tp, .inr (10, [.ref bt, .int b_length])), (bt, .inl (kbt, 1600, .inl fbt))] U.heap ∧ va_K (dC, dI) vwCl [(kbt, .byte)] U ∧ nzA U)) (va_Qi (fun (r : Int32) (u : Unit) => (gi r (-2147483648) 2147483647) ∧ r = fX6_nameHere q_start q_stop b_length fbt) (fun _ _ => True) (fun _ => False)) 0 0 (fun _ => False) := by
  refine Met.ofW (cc := cX6_nameHere) (maxL := 4) (ret := (some .int)) (by decide) rfl ?_
  intro p e s m args below meth c s₁ B hml hv
  obtain ⟨rfl, hP, hK, hz⟩ := hv
  have hx := B.exec
  have hb := B.bytes
  have hr := B.returns
  have hts := atoms_spec (ws := (.code yX6_nameHere cX6_nameHere 4 (some .int) :: wsGA)) B.pre
  have hown : s.vm.findClass RX6 = some m.cls := findClass_of_methodNamed B.named
  have hlocks := B.notSynchronized
  have hS : va_S (fun _ => False) s.heap s.heap [] := va_S.rf
  have hl := lv_entry ([.ref h0]) (n := 4) (Nat.le_of_ble_eq_true rfl)
  rw [lg_entry_eq]
  generalize (lg_sl ([.ref h0]) ++ List.replicate (4 - (lg_sl ([.ref h0])).length) Slot.unset).toArray = ls at hl ⊢
  have hl : lv_has ls 4 [(0, .ref h0)] := hl
  obtain ⟨RES, hF⟩ : ∃ R9, fX6_nameHere q_start q_stop b_length fbt = R9 := ⟨_, rfl⟩
  have hR9 := hF
  refine lv_iconst (v := 0) hx hb (dk_at dkX6_nameHere 0 rfl) (by decide) ?_
  refine lv_istore_n (lv' := [(1, .int 0), (0, .ref h0)]) hx hb (dk_at dkX6_nameHere 1 rfl) rfl hl (by decide) rfl (fun ls hl => ?_)
  refine lv_iconst (v := 0) hx hb (dk_at dkX6_nameHere 2 rfl) (by decide) ?_
  refine lv_istore_n (lv' := [(2, .int 0), (1, .int 0), (0, .ref h0)]) hx hb (dk_at dkX6_nameHere 3 rfl) rfl hl (by decide) rfl (fun ls hl => ?_)
  refine (lp_sX6_nameHere h0 tp bt dr q_faultKind q_faultPlace q_token q_start q_stop b_length kbt fbt gq_faultKind gq_start gq_stop gb_length hx hb hml hown hts hK hz (Nat.le_of_ble_eq_true rfl) (Nat.le_of_ble_eq_true rfl) (Nat.zero_le _) (Nat.zero_le _) (fun v H locs ls hF hP hS hl => ?_) 1000000000) 0 0 _ _ _ (gi_w (gi_c 0 0 (by decide)) (by decide)) hF (by have k0 : (0 : Int32).toInt = 0 := (by decide); omega) hP hS (lv_sub hl [2, 1, 0] rfl)
  · skip
    exact W.iret (v := v) hx hb hr (fun t ht hW => ⟨⟨v, (), rfl, ⟨(gi_any v), hF.trans hR9.symm⟩, trivial⟩, hS.F ht⟩) hS.2.2 (dk_at dkX6_nameHere 41 rfl)
noncomputable def lsX6_valueHere : List (Nat × Instr × Nat) := [(0, .iconst 0, 1), (1, .istore_n 1, 1), (2, .aload_n 0, 1), (3, .getfield 35, 3), (6, .istore_n 2, 1), (7, .iload_n 2, 1), (8, .aload_n 0, 1), (9, .getfield 38, 3), (12, .if_icmp .ge 41, 3), (15, .aload_n 0, 1), (16, .iload_n 2, 1), (17, .invokevirtual 181, 3), (20, .istore_n 3, 1), (21, .iload_n 3, 1), (22, .invokestatic 188, 3), (25, .ifCond .eq 20, 3), (28, .iload_n 1, 1), (29, .bipush 10, 2), (31, .imul, 1), (32, .iload_n 3, 1), (33, .iadd, 1), (34, .bipush 48, 2), (36, .isub, 1), (37, .ldc 163, 2), (39, .invokestatic 191, 3), (42, .goto 4, 3), (45, .iload_n 1, 1), (46, .istore_n 1, 1), (47, .iinc 2 1, 3), (50, .goto (-43), 3), (53, .iload_n 1, 1), (54, .ireturn, 1)]
theorem dkX6_valueHere : dkAll cX6_valueHere lsX6_valueHere = true := dk_fast (by decide +kernel)
noncomputable def bfX6_valueHere_46 (q_start : Int32) (q_stop : Int32) (b_length : Int32) (fbt : Nat → Int32) (K : (Int32 → Int32 → Int32)) (v2 : Int32) (s0 : Int32) : Int32 := K s0 (v2 + (1 : Int32))
noncomputable def dfX6_valueHere_7 (q_start : Int32) (q_stop : Int32) (b_length : Int32) (fbt : Nat → Int32) (K : (Int32 → Int32 → Int32)) (v1 : Int32) (v2 : Int32) : Int32 := if q_stop ≤ v2 then v1 else (cal (fun o1 => cal (fun o2 => if o2 = (0 : Int32) then (bfX6_valueHere_46 q_start q_stop b_length fbt K v2 v1) else (bfX6_valueHere_46 q_start q_stop b_length fbt K v2 (if (1000000 : Int32) < (((v1 * (10 : Int32)) + o1) - (48 : Int32)) then (1000000 : Int32) else (((v1 * (10 : Int32)) + o1) - (48 : Int32))))) (fX6_isDigit o1)) (fX6_byteAt b_length fbt v2))
noncomputable def lfX6_valueHere (q_start : Int32) (q_stop : Int32) (b_length : Int32) (fbt : Nat → Int32) (z : Nat) : (Int32 → Int32 → Int32) := Nat.rec (motive := fun _ => (Int32 → Int32 → Int32)) (fun _ _ => (0)) (fun _ K => dfX6_valueHere_7 q_start q_stop b_length fbt K) z
noncomputable def fX6_valueHere (q_start : Int32) (q_stop : Int32) (b_length : Int32) (fbt : Nat → Int32) : Int32 := (lfX6_valueHere q_start q_stop b_length fbt 1000000000) (0 : Int32) q_start
set_option maxHeartbeats 4000000 in
set_option maxRecDepth 100000 in
theorem lp_sX6_valueHere {p : Program} {l : Launch} {e : Env} {R : Room} {s : State} {m : MethodId} {args : Array Value} {below : List Frame} {meth : Method} {c : Code} {Q : State → Prop} {A : Nat → Prop} {cells slots : Nat} {dC : Nat → ClassId} {dI : Nat → Nat → Nat} {RES : Int32} (h0 : Nat) (tp : Nat) (bt : Nat) (dr : Nat) (q_faultKind : Int32) (q_faultPlace : Int32) (q_token : Int32) (q_start : Int32) (q_stop : Int32) (b_length : Int32) (kbt : ClassId) (fbt : Nat → Int32) (gq_faultKind : gi q_faultKind 0 3) (gq_start : gi q_start 0 1600) (gq_stop : gi q_stop 0 1600) (gb_length : gi b_length 0 1600) (hx : p.tables.exec = Jvm.exec) (hb : c.code = cX6_valueHere) (hml : c.maxLocals = 4) (hown : s.vm.findClass RX6 = some m.cls) (hts : ∀ w ∈ ((.code yX6_valueHere cX6_valueHere 4 (some .int) :: wsGA) : List Cond), w.before args s = true) (hK : va_K (dC, dI) vwCl [(kbt, .byte)] s) (hz : nzA s) (hRf : 1 ≤ R.frames) (hRl : 21 ≤ R.locals) (hRc : cells ≤ R.cells) (hRs : slots ≤ R.slots) (kr54 : ∀ (v : Int32) (H : Heap) (locs : List Loc) (ls : Array Slot), v = RES → va_P (dC, dI) vwCl [(h0, .inr (6, [.ref tp, .ref dr, .int q_faultKind, .int q_faultPlace, .int q_token, .int q_start, .int q_stop])), (tp, .inr (10, [.ref bt, .int b_length])), (bt, .inl (kbt, 1600, .inl fbt))] H → va_S A s.heap H locs → lv_has ls 4 [] → W p l e R s m args below meth c H locs cells slots Q (F0 m 54 ls [.int v])) : ∀ z : Nat, (∀ (v1 : Int32) (v2 : Int32) (H : Heap) (locs : List Loc) (ls : Array Slot), gi v2 0 1600 → (lfX6_valueHere q_start q_stop b_length fbt z) v1 v2 = RES → 3201 + (-2) * v2.toInt < (z : Int) → va_P (dC, dI) vwCl [(h0, .inr (6, [.ref tp, .ref dr, .int q_faultKind, .int q_faultPlace, .int q_token, .int q_start, .int q_stop])), (tp, .inr (10, [.ref bt, .int b_length])), (bt, .inl (kbt, 1600, .inl fbt))] H → va_S A s.heap H locs → lv_has ls 4 [(0, .ref h0), (1, .int v1), (2, .int v2)] → W p l e R s m args below meth c H locs cells slots Q (F0 m 7 ls [])) := by
  intro z
  induction z with
  | zero =>
    intro v1 v2 H locs ls gv2 hF hmu hP hS hl
    exact absurd hmu (by have hv21 := gv2.1; have hv22 := gv2.2; omega)
  | succ z ih =>
      intro v1 v2 H locs ls gv2 hF hmu hP hS hl
      have hF : dfX6_valueHere_7 q_start q_stop b_length fbt (lfX6_valueHere q_start q_stop b_length fbt z) v1 v2 = RES := hF
      refine lv_iload_n hx hb (dk_at dkX6_valueHere 5 rfl) rfl (lv_at hl 2 rfl) ?_
      refine lv_aload_n hx hb (dk_at dkX6_valueHere 6 rfl) rfl (lv_at hl 0 rfl) ?_
      refine va_get (D := (dC, dI)) (ci := 6) (v := .int q_stop) (C := RX6) (T := TX6) (N := 7) hx hb hts (fun w h => List.mem_cons_of_mem _ (jnGA_X6 w h)) hown hK hP 0 rfl rfl 6 (by decide) (hts _ (List.mem_cons_of_mem _ mGA_59)) (fun _ h9 => h9) rfl (dk_at dkX6_valueHere 7 rfl) ?_
      refine lv_icmp_ge (tgt := 53) hx hb (dk_at dkX6_valueHere 8 rfl) (by decide) (fun c_29 => ?_) (fun c_29 => ?_)
      · have hF := gf_pos c_29 hF
        refine lv_iload_n hx hb (dk_at dkX6_valueHere 30 rfl) rfl (lv_at hl 1 rfl) ?_
        exact kr54 v1 _ _ _ hF hP hS (lv_sub hl [] rfl)
      · have hF := gf_neg c_29 hF
        have g_30 : gi v2 0 1599 := gi_lt_l (Int32.not_le.mp c_29) gv2 gq_stop (by decide)
        have g_31 : gi q_stop 1 1600 := gi_lt_r (Int32.not_le.mp c_29) gv2 gq_stop (by decide)
        refine lv_aload_n hx hb (dk_at dkX6_valueHere 9 rfl) rfl (lv_at hl 0 rfl) ?_
        refine lv_iload_n hx hb (dk_at dkX6_valueHere 10 rfl) rfl (lv_at hl 2 rfl) ?_
        refine va_calli (va_runV (As := [.int v2]) (rest := []) ⟨hx, hb, hml, hown, hts⟩ (sX6_byteAt l dC dI h0 tp bt dr q_faultKind q_faultPlace q_token q_start q_stop b_length kbt fbt v2 gq_faultKind gq_start (gi_w g_31 (by decide)) gb_length) (cwV 1 hts (gz_gV mGA_167 mGA_168 mGA_169 mGA_9 mGA_170 goodGA) rfl rfl rfl hdV_X6_byteAt_X6_1 ⟨Nat.le_trans (Nat.le_of_ble_eq_true rfl) hRf, Nat.le_trans (Nat.le_of_ble_eq_true rfl) hRl⟩) ⟨bl_I (bl_a bl_P (bl_a bl_K bl_nz)), va_recv hK hP (ci := 6) (q0 := 0) rfl rfl, fun U hU hW => ⟨rfl, by rw [hU]; exact hP, va_K.moved hW.alike hK, nzA_warm hW hz⟩⟩ rfl rfl hl.1 rfl (lv_room (Nat.le_of_ble_eq_true rfl)) (dk_at dkX6_valueHere 11 rfl) ⟨hRc, hRs⟩) hS (fun q _ h => h.elim) (fun q h => h.elim) (fun r_32 u t H1 locs ht hvm hw hB hz1 hk1 hS => ?_)
        obtain ⟨hw, hE⟩ := hw
        have hP := gz_keep hP hk1
        have hF := gf_call (a := r_32) hE hF
        generalize H1 = H at hP hS ⊢
        refine lv_istore_n (lv' := [(3, .int r_32), (0, .ref h0), (1, .int v1), (2, .int v2)]) hx hb (dk_at dkX6_valueHere 12 rfl) rfl hl (by decide) rfl (fun ls hl => ?_)
        refine lv_iload_n hx hb (dk_at dkX6_valueHere 13 rfl) rfl (lv_at hl 0 rfl) ?_
        have hPc := hP.sub (ws' := []) [] rfl
        have hKc := hK.sub (tys' := []) [] rfl
        refine va_calli (va_runS (As := [.int r_32]) (rest := []) ⟨hx, hb, hml, hown, hts⟩ (sX6_isDigit l dC dI r_32) (cwS 1 hts (gz_gS mGA_178 mGA_179 mGA_9 mGA_180 goodGA) rfl rfl rfl hdS_X6_isDigit_X6_1 ⟨Nat.le_trans (Nat.le_of_ble_eq_true rfl) hRf, Nat.le_trans (Nat.le_of_ble_eq_true rfl) hRl⟩) ⟨bl_I (bl_a bl_P (bl_a bl_K bl_nz)), fun U hU hW => ⟨rfl, by rw [hU]; exact hPc, va_K.moved hW.alike hKc, nzA_warm hW hz⟩⟩ rfl rfl hl.1 rfl (lv_room (Nat.le_of_ble_eq_true rfl)) (dk_at dkX6_valueHere 14 rfl) ⟨hRc, hRs⟩) hS (fun q _ h => h.elim) (fun q h => h.elim) (fun r_33 u t H1 locs ht hvm hw hB hz1 hk1 hS => ?_)
        obtain ⟨hw, hE⟩ := hw
        have hP := gz_keep hP hk1
        have hF := gf_call (a := r_33) hE hF
        generalize H1 = H at hP hS ⊢
        have gr_33 : gi r_33 0 1 := hw
        refine lv_if_eq (tgt := 45) hx hb (dk_at dkX6_valueHere 15 rfl) (by decide) (fun c_34 => ?_) (fun c_34 => ?_)
        · have hF := gf_pos c_34 hF
          have g_35 : gi r_33 0 0 := gi_eq c_34 (gi_c 0 0 (by decide))
          refine lv_iload_n hx hb (dk_at dkX6_valueHere 26 rfl) rfl (lv_at hl 2 rfl) ?_
          refine lv_istore_n (lv' := [(1, .int v1), (3, .int r_32), (0, .ref h0), (2, .int v2)]) hx hb (dk_at dkX6_valueHere 27 rfl) rfl hl (by decide) rfl (fun ls hl => ?_)
          obtain ⟨x_36, ex_36⟩ : ∃ y : Int32, y = v2 + 1 := ⟨_, rfl⟩
          have gx_36 : gi x_36 1 1600 := gi_add ex_36 g_30 (gi_c 1 1 (by decide)) (by decide)
          refine lv_iinc (v := x_36) (lv' := [(2, .int x_36), (1, .int v1), (3, .int r_32), (0, .ref h0)]) hx hb (dk_at dkX6_valueHere 28 rfl) hl (k := 3) rfl (by rw [ex_36]; rfl) (by decide) rfl (fun ls hl => ?_)
          refine lv_goto (tgt := 7) hx hb (dk_at dkX6_valueHere 29 rfl) (by decide) ?_
          exact ih v1 x_36 _ _ _ (gi_w gx_36 (by decide)) (by first | (rw [ex_36]; exact hF) | ((try rw [ex_36]); exact hF)) (by have av2 := gv2.1; have bv2 := gv2.2; have qgx_36 := gx_36.1; have rgx_36 := gx_36.2; have igx_36 : x_36.toInt = v2.toInt + 1 := (by have hc1 : (1 : Int32).toInt = 1 := (by decide); have h9 := gi_addE ex_36 g_30 (gi_c 1 1 (by decide)) (by decide); rw [hc1] at h9; exact h9); have qgv2 := g_30.1; have rgv2 := g_30.2; omega) hP hS (lv_sub hl [3, 1, 0] rfl)
        · have hF := gf_neg c_34 hF
          have g_37 : gi r_33 1 1 := gi_ne_lo c_34 gr_33 (gi_c 0 0 (by decide)) (by decide)
          refine lv_iload_n hx hb (dk_at dkX6_valueHere 16 rfl) rfl (lv_at hl 2 rfl) ?_
          refine lv_bipush (v := 10) hx hb (dk_at dkX6_valueHere 17 rfl) (by decide) ?_
          refine lv_imul hx hb (dk_at dkX6_valueHere 18 rfl) ?_
          refine lv_topi (fun x_38 ex_38 => ?_)
          refine lv_iload_n hx hb (dk_at dkX6_valueHere 19 rfl) rfl (lv_at hl 0 rfl) ?_
          refine lv_iadd hx hb (dk_at dkX6_valueHere 20 rfl) ?_
          refine lv_topi (fun x_39 ex_39 => ?_)
          refine lv_bipush (v := 48) hx hb (dk_at dkX6_valueHere 21 rfl) (by decide) ?_
          refine lv_isub hx hb (dk_at dkX6_valueHere 22 rfl) ?_
          refine lv_topi (fun x_40 ex_40 => ?_)
          refine lv_ldc (own := RX6) (v := 1000000) hx hb hown (hts _ (List.mem_cons_of_mem _ mGA_266)) (dk_at dkX6_valueHere 23 rfl) ?_
          refine va_mmin (own := RX6) hx hb (by rw [hml]; exact hl.1.symm) hown (hts _ (List.mem_cons_of_mem _ mGA_267)) (hts _ (List.mem_cons_of_mem _ mGA_268)) (hts _ (List.mem_cons_of_mem _ mGA_269)) (hts _ (List.mem_cons_of_mem _ mGA_270)) (Nat.le_trans (Nat.le_of_ble_eq_true rfl) hRf) (Nat.le_trans (Nat.le_of_ble_eq_true rfl) hRl) hRc hRs (dk_at dkX6_valueHere 24 rfl) ?_
          refine lv_topi (fun x_41 ex_41 => ?_)
          have gx_41 : gi x_41 (-2147483648) 1000000 := gi_min ex_41 (gi_any x_40) (gi_c 1000000 1000000 (by decide)) (by decide)
          refine lv_goto (tgt := 46) hx hb (dk_at dkX6_valueHere 25 rfl) (by decide) ?_
          refine lv_istore_n (lv' := [(1, .int x_41), (3, .int r_32), (0, .ref h0), (2, .int v2)]) hx hb (dk_at dkX6_valueHere 27 rfl) rfl hl (by decide) rfl (fun ls hl => ?_)
          obtain ⟨x_42, ex_42⟩ : ∃ y : Int32, y = v2 + 1 := ⟨_, rfl⟩
          have gx_42 : gi x_42 1 1600 := gi_add ex_42 g_30 (gi_c 1 1 (by decide)) (by decide)
          refine lv_iinc (v := x_42) (lv' := [(2, .int x_42), (1, .int x_41), (3, .int r_32), (0, .ref h0)]) hx hb (dk_at dkX6_valueHere 28 rfl) hl (k := 3) rfl (by rw [ex_42]; rfl) (by decide) rfl (fun ls hl => ?_)
          refine lv_goto (tgt := 7) hx hb (dk_at dkX6_valueHere 29 rfl) (by decide) ?_
          exact ih x_41 x_42 _ _ _ (gi_w gx_42 (by decide)) (by first | (rw [ex_42, ex_41, ex_40, ex_39, ex_38]; exact hF) | ((try rw [ex_42]); (try rw [ex_41]); (try rw [ex_40]); (try rw [ex_39]); (try rw [ex_38]); exact hF)) (by have av2 := gv2.1; have bv2 := gv2.2; have qgx_42 := gx_42.1; have rgx_42 := gx_42.2; have igx_42 : x_42.toInt = v2.toInt + 1 := (by have hc1 : (1 : Int32).toInt = 1 := (by decide); have h9 := gi_addE ex_42 g_30 (gi_c 1 1 (by decide)) (by decide); rw [hc1] at h9; exact h9); have qgv2 := g_30.1; have rgv2 := g_30.2; omega) hP hS (lv_sub hl [3, 1, 0] rfl)
set_option maxHeartbeats 4000000 in
set_option maxRecDepth 100000 in
theorem sX6_valueHere (l : Launch) (dC : Nat → ClassId) (dI : Nat → Nat → Nat) (h0 : Nat) (tp : Nat) (bt : Nat) (dr : Nat) (q_faultKind : Int32) (q_faultPlace : Int32) (q_token : Int32) (q_start : Int32) (q_stop : Int32) (b_length : Int32) (kbt : ClassId) (fbt : Nat → Int32) (gq_faultKind : gi q_faultKind 0 3) (gq_start : gi q_start 0 1600) (gq_stop : gi q_stop 0 1600) (gb_length : gi b_length 0 1600) : Met l yX6_valueHere (.code yX6_valueHere cX6_valueHere 4 (some .int) :: wsGA) ({ frames := 1, cells := 0, slots := 0, locals := 21 }) (va_Pc [.ref h0] (fun U => va_P (dC, dI) vwCl [(h0, .inr (6, [.ref tp, .ref dr, .int q_faultKind, .int q_faultPlace, .int q_token, .int q_start, .int q_stop])), (tp, .inr (10, [.ref bt, .int b_length])), (bt, .inl (kbt, 1600, .inl fbt))] U.heap ∧ va_K (dC, dI) vwCl [(kbt, .byte)] U ∧ nzA U)) (va_Qi (fun (r : Int32) (u : Unit) => (gi r (-2147483648) 2147483647) ∧ r = fX6_valueHere q_start q_stop b_length fbt) (fun _ _ => True) (fun _ => False)) 0 0 (fun _ => False) := by
  refine Met.ofW (cc := cX6_valueHere) (maxL := 4) (ret := (some .int)) (by decide) rfl ?_
  intro p e s m args below meth c s₁ B hml hv
  obtain ⟨rfl, hP, hK, hz⟩ := hv
  have hx := B.exec
  have hb := B.bytes
  have hr := B.returns
  have hts := atoms_spec (ws := (.code yX6_valueHere cX6_valueHere 4 (some .int) :: wsGA)) B.pre
  have hown : s.vm.findClass RX6 = some m.cls := findClass_of_methodNamed B.named
  have hlocks := B.notSynchronized
  have hS : va_S (fun _ => False) s.heap s.heap [] := va_S.rf
  have hl := lv_entry ([.ref h0]) (n := 4) (Nat.le_of_ble_eq_true rfl)
  rw [lg_entry_eq]
  generalize (lg_sl ([.ref h0]) ++ List.replicate (4 - (lg_sl ([.ref h0])).length) Slot.unset).toArray = ls at hl ⊢
  have hl : lv_has ls 4 [(0, .ref h0)] := hl
  obtain ⟨RES, hF⟩ : ∃ R9, fX6_valueHere q_start q_stop b_length fbt = R9 := ⟨_, rfl⟩
  have hR9 := hF
  refine lv_iconst (v := 0) hx hb (dk_at dkX6_valueHere 0 rfl) (by decide) ?_
  refine lv_istore_n (lv' := [(1, .int 0), (0, .ref h0)]) hx hb (dk_at dkX6_valueHere 1 rfl) rfl hl (by decide) rfl (fun ls hl => ?_)
  refine lv_aload_n hx hb (dk_at dkX6_valueHere 2 rfl) rfl (lv_at hl 1 rfl) ?_
  refine va_get (D := (dC, dI)) (ci := 6) (v := .int q_start) (C := RX6) (T := TX6) (N := 7) hx hb hts (fun w h => List.mem_cons_of_mem _ (jnGA_X6 w h)) hown hK hP 0 rfl rfl 5 (by decide) (hts _ (List.mem_cons_of_mem _ mGA_58)) (fun _ h9 => h9) rfl (dk_at dkX6_valueHere 3 rfl) ?_
  refine lv_istore_n (lv' := [(2, .int q_start), (1, .int 0), (0, .ref h0)]) hx hb (dk_at dkX6_valueHere 4 rfl) rfl hl (by decide) rfl (fun ls hl => ?_)
  refine (lp_sX6_valueHere h0 tp bt dr q_faultKind q_faultPlace q_token q_start q_stop b_length kbt fbt gq_faultKind gq_start gq_stop gb_length hx hb hml hown hts hK hz (Nat.le_of_ble_eq_true rfl) (Nat.le_of_ble_eq_true rfl) (Nat.zero_le _) (Nat.zero_le _) (fun v H locs ls hF hP hS hl => ?_) 1000000000) 0 q_start _ _ _ gq_start hF (by have qgq_start := gq_start.1; have rgq_start := gq_start.2; omega) hP hS (lv_sub hl [2, 1, 0] rfl)
  · skip
    exact W.iret (v := v) hx hb hr (fun t ht hW => ⟨⟨v, (), rfl, ⟨(gi_any v), hF.trans hR9.symm⟩, trivial⟩, hS.F ht⟩) hS.2.2 (dk_at dkX6_valueHere 31 rfl)
noncomputable def lsX6_blame : List (Nat × Instr × Nat) := [(0, .aload_n 0, 1), (1, .getfield 25, 3), (4, .ifCond .ne 13, 3), (7, .aload_n 0, 1), (8, .iload_n 1, 1), (9, .putfield 25, 3), (12, .aload_n 0, 1), (13, .iload_n 2, 1), (14, .putfield 29, 3), (17, .return_, 1)]
theorem dkX6_blame : dkAll cX6_blame lsX6_blame = true := dk_fast (by decide +kernel)
noncomputable def bfX6_blame_17 (q_faultKind : Int32) (q_faultPlace : Int32) (p1 : Int32) (p2 : Int32) (w0_2 : Int32) (w0_3 : Int32) : Int32 × Int32 := (w0_2, w0_3)
noncomputable def fX6_blame (q_faultKind : Int32) (q_faultPlace : Int32) (p1 : Int32) (p2 : Int32) : Int32 × Int32 := if q_faultKind = (0 : Int32) then (bfX6_blame_17 q_faultKind q_faultPlace p1 p2 p1 p2) else (bfX6_blame_17 q_faultKind q_faultPlace p1 p2 q_faultKind q_faultPlace)
abbrev pb_sX6_blame (dC : Nat → ClassId) (dI : Nat → Nat → Nat) (A9 : Nat → Prop) (h0 : Nat) (tp : Nat) (dr : Nat) (q_faultKind : Int32) (q_faultPlace : Int32) (q_token : Int32) (q_start : Int32) (q_stop : Int32) (p1 : Int32) (p2 : Int32) (w0_2 : Int32) (w0_3 : Int32) (t : State) : Prop := gi w0_2 0 3 ∧ 1 ≤ w0_2.toInt ∧ q_faultKind.toInt ≤ w0_2.toInt ∧ (w0_2, w0_3) = fX6_blame q_faultKind q_faultPlace p1 p2 ∧ va_P (dC, dI) vwCl [(h0, .inr (6, [.ref tp, .ref dr, .int w0_2, .int w0_3, .int q_token, .int q_start, .int q_stop]))] t.heap ∧ va_D A9 [(h0, .inr (6, [.ref tp, .ref dr, .int w0_2, .int w0_3, .int q_token, .int q_start, .int q_stop]))]
set_option maxHeartbeats 4000000 in
set_option maxRecDepth 100000 in
theorem sX6_blame (l : Launch) (dC : Nat → ClassId) (dI : Nat → Nat → Nat) (sz : Nat) (h0 : Nat) (tp : Nat) (dr : Nat) (q_faultKind : Int32) (q_faultPlace : Int32) (q_token : Int32) (q_start : Int32) (q_stop : Int32) (p1 : Int32) (p2 : Int32) (gq_faultKind : gi q_faultKind 0 3) (gq_start : gi q_start 0 1600) (gq_stop : gi q_stop 0 1600) (gp1 : gi p1 1 3) : Met l yX6_blame (.code yX6_blame cX6_blame 3 none :: wsGA) ({ frames := 0, cells := 0, slots := 0, locals := 0 }) (va_Pc [.ref h0, .int p1, .int p2] (fun U => U.heap.size = sz ∧ va_P (dC, dI) vwCl [(h0, .inr (6, [.ref tp, .ref dr, .int q_faultKind, .int q_faultPlace, .int q_token, .int q_start, .int q_stop]))] U.heap ∧ va_K (dC, dI) vwCl [] U ∧ va_D (fun _ => True) [(h0, .inr (6, [.ref tp, .ref dr, .int q_faultKind, .int q_faultPlace, .int q_token, .int q_start, .int q_stop]))] ∧ nzA U)) (va_Qv (fun (u : Unit) => True) (fun _ t => ∃ (w0_2 : Int32) (w0_3 : Int32), pb_sX6_blame dC dI (va_A [(h0, .inr (6, [.ref tp, .ref dr, .int q_faultKind, .int q_faultPlace, .int q_token, .int q_start, .int q_stop]))] sz) h0 tp dr q_faultKind q_faultPlace q_token q_start q_stop p1 p2 w0_2 w0_3 t) (va_A [(h0, .inr (6, [.ref tp, .ref dr, .int q_faultKind, .int q_faultPlace, .int q_token, .int q_start, .int q_stop]))] sz)) 0 0 (va_A [(h0, .inr (6, [.ref tp, .ref dr, .int q_faultKind, .int q_faultPlace, .int q_token, .int q_start, .int q_stop]))] sz) := by
  refine Met.ofW (cc := cX6_blame) (maxL := 3) (ret := none) (by decide) rfl ?_
  intro p e s m args below meth c s₁ B hml hv
  obtain ⟨rfl, hsz, hP, hK, hD0, hz⟩ := hv
  have hx := B.exec
  have hb := B.bytes
  have hr := B.returns
  have hts := atoms_spec (ws := (.code yX6_blame cX6_blame 3 none :: wsGA)) B.pre
  have hown : s.vm.findClass RX6 = some m.cls := findClass_of_methodNamed B.named
  have hlocks := B.notSynchronized
  subst hsz
  have hD := hD0.self (sz := s.heap.size)
  generalize hAe : va_A [(h0, .inr (6, [.ref tp, .ref dr, .int q_faultKind, .int q_faultPlace, .int q_token, .int q_start, .int q_stop]))] s.heap.size = A at hD ⊢
  have hA : ∀ q : Nat, s.heap.size ≤ q → A q := fun q h => by rw [← hAe]; exact Or.inr h
  have hS : va_S A s.heap s.heap [] := va_S.rf
  have hl := lv_entry ([.ref h0, .int p1, .int p2]) (n := 3) (Nat.le_of_ble_eq_true rfl)
  rw [lg_entry_eq]
  generalize (lg_sl ([.ref h0, .int p1, .int p2]) ++ List.replicate (3 - (lg_sl ([.ref h0, .int p1, .int p2])).length) Slot.unset).toArray = ls at hl ⊢
  have hl : lv_has ls 3 [(0, .ref h0), (1, .int p1), (2, .int p2)] := hl
  obtain ⟨RES, hF⟩ : ∃ R9, fX6_blame q_faultKind q_faultPlace p1 p2 = R9 := ⟨_, rfl⟩
  have hR9 := hF
  refine lv_aload_n hx hb (dk_at dkX6_blame 0 rfl) rfl (lv_at hl 0 rfl) ?_
  refine va_get (D := (dC, dI)) (ci := 6) (v := .int q_faultKind) (C := RX6) (T := TX6) (N := 7) hx hb hts (fun w h => List.mem_cons_of_mem _ (jnGA_X6 w h)) hown hK hP 0 rfl rfl 2 (by decide) (hts _ (List.mem_cons_of_mem _ mGA_55)) (fun _ h9 => h9) rfl (dk_at dkX6_blame 1 rfl) ?_
  refine lv_if_ne (tgt := 17) hx hb (dk_at dkX6_blame 2 rfl) (by decide) (fun c_11 => ?_) (fun c_11 => ?_)
  · have hF := gf_neg c_11 hF
    have hc_12 : q_faultKind.toInt ≠ 0 := fun h9 => c_11 (Int32.toInt_inj.mp (by rw [show (0 : Int32).toInt = 0 from by decide]; exact h9))
    have g_13 : gi q_faultKind 1 3 := gi_ne_lo c_11 gq_faultKind (gi_c 0 0 (by decide)) (by decide)
    exact W.vret hx hb hr (fun t ht hW => ⟨⟨(), rfl, trivial, q_faultKind, q_faultPlace, (gi_w g_13 (by decide)), (show 1 ≤ q_faultKind.toInt from g_13.1), (show q_faultKind.toInt ≤ q_faultKind.toInt from (Int.le_refl _)), hF.trans hR9.symm, by rw [ht]; exact hP, hD⟩, hS.F ht⟩) hS.2.2 (dk_at dkX6_blame 9 rfl)
  · have hF := gf_pos c_11 hF
    have hc_14 : q_faultKind.toInt = 0 := by have h9 := congrArg Int32.toInt c_11; rw [show (0 : Int32).toInt = 0 from by decide] at h9; exact h9
    have g_15 : gi q_faultKind 0 0 := gi_eq c_11 (gi_c 0 0 (by decide))
    refine lv_aload_n hx hb (dk_at dkX6_blame 3 rfl) rfl (lv_at hl 0 rfl) ?_
    refine lv_iload_n hx hb (dk_at dkX6_blame 4 rfl) rfl (lv_at hl 1 rfl) ?_
    refine va_put (D := (dC, dI)) (ci := 6) (v := .int p1) (ty := .int) (C := RX6) (T := TX6) (N := 7) hx hb hts (fun w h => List.mem_cons_of_mem _ (jnGA_X6 w h)) tyX6 tyX6_ok nmX6 hown hK hP hD hS 0 rfl rfl 2 (by decide) (hts _ (List.mem_cons_of_mem _ mGA_55)) (fun _ h9 => h9) rfl fdX6_2 rfl rfl (Nat.le_of_ble_eq_true rfl) (dk_at dkX6_blame 5 rfl) (fun H locs hP hD hS => ?_)
    obtain ⟨hP, hD⟩ := gz_both (w := [(h0, .inr (6, [.ref tp, .ref dr, .int p1, .int q_faultPlace, .int q_token, .int q_start, .int q_stop]))]) hP hD
    refine lv_aload_n hx hb (dk_at dkX6_blame 6 rfl) rfl (lv_at hl 0 rfl) ?_
    refine lv_iload_n hx hb (dk_at dkX6_blame 7 rfl) rfl (lv_at hl 2 rfl) ?_
    refine va_put (D := (dC, dI)) (ci := 6) (v := .int p2) (ty := .int) (C := RX6) (T := TX6) (N := 7) hx hb hts (fun w h => List.mem_cons_of_mem _ (jnGA_X6 w h)) tyX6 tyX6_ok nmX6 hown hK hP hD hS 0 rfl rfl 3 (by decide) (hts _ (List.mem_cons_of_mem _ mGA_56)) (fun _ h9 => h9) rfl fdX6_3 rfl rfl (Nat.le_of_ble_eq_true rfl) (dk_at dkX6_blame 8 rfl) (fun H locs hP hD hS => ?_)
    obtain ⟨hP, hD⟩ := gz_both (w := [(h0, .inr (6, [.ref tp, .ref dr, .int p1, .int p2, .int q_token, .int q_start, .int q_stop]))]) hP hD
    exact W.vret hx hb hr (fun t ht hW => ⟨⟨(), rfl, trivial, p1, p2, (gi_w gp1 (by decide)), (show 1 ≤ p1.toInt from gp1.1), (show q_faultKind.toInt ≤ p1.toInt from by have qgq_faultKind := g_15.1; have rgq_faultKind := g_15.2; have qgp1 := gp1.1; have rgp1 := gp1.2; omega), hF.trans hR9.symm, by rw [ht]; exact hP, hD⟩, hS.F ht⟩) hS.2.2 (dk_at dkX6_blame 9 rfl)
noncomputable def lsX6_expect : List (Nat × Instr × Nat) := [(0, .iload_n 1, 1), (1, .ifCond .ne 12, 3), (4, .aload_n 0, 1), (5, .iload_n 2, 1), (6, .aload_n 0, 1), (7, .getfield 35, 3), (10, .invokevirtual 85, 3), (13, .return_, 1)]
theorem dkX6_expect : dkAll cX6_expect lsX6_expect = true := dk_fast (by decide +kernel)
noncomputable def bfX6_expect_13 (q_faultKind : Int32) (q_faultPlace : Int32) (q_start : Int32) (p1 : Int32) (p2 : Int32) (w0_2 : Int32) (w0_3 : Int32) : Int32 × Int32 := (w0_2, w0_3)
noncomputable def fX6_expect (q_faultKind : Int32) (q_faultPlace : Int32) (q_start : Int32) (p1 : Int32) (p2 : Int32) : Int32 × Int32 := if p1 = (0 : Int32) then (cal (fun o1 => bfX6_expect_13 q_faultKind q_faultPlace q_start p1 p2 o1.1 o1.2) (fX6_blame q_faultKind q_faultPlace p2 q_start)) else (bfX6_expect_13 q_faultKind q_faultPlace q_start p1 p2 q_faultKind q_faultPlace)
abbrev pb_sX6_expect (dC : Nat → ClassId) (dI : Nat → Nat → Nat) (A9 : Nat → Prop) (h0 : Nat) (tp : Nat) (dr : Nat) (q_faultKind : Int32) (q_faultPlace : Int32) (q_token : Int32) (q_start : Int32) (q_stop : Int32) (p1 : Int32) (p2 : Int32) (w0_2 : Int32) (w0_3 : Int32) (t : State) : Prop := gi w0_2 0 3 ∧ q_faultKind.toInt ≤ w0_2.toInt ∧ (p1.toInt = 1 ∨ 1 ≤ w0_2.toInt) ∧ (w0_2, w0_3) = fX6_expect q_faultKind q_faultPlace q_start p1 p2 ∧ va_P (dC, dI) vwCl [(h0, .inr (6, [.ref tp, .ref dr, .int w0_2, .int w0_3, .int q_token, .int q_start, .int q_stop]))] t.heap ∧ va_D A9 [(h0, .inr (6, [.ref tp, .ref dr, .int w0_2, .int w0_3, .int q_token, .int q_start, .int q_stop]))]
set_option maxHeartbeats 4000000 in
set_option maxRecDepth 100000 in
theorem sX6_expect (l : Launch) (dC : Nat → ClassId) (dI : Nat → Nat → Nat) (sz : Nat) (h0 : Nat) (tp : Nat) (dr : Nat) (q_faultKind : Int32) (q_faultPlace : Int32) (q_token : Int32) (q_start : Int32) (q_stop : Int32) (p1 : Int32) (p2 : Int32) (gq_faultKind : gi q_faultKind 0 3) (gq_start : gi q_start 0 1600) (gq_stop : gi q_stop 0 1600) (gp1 : gi p1 0 1) (gp2 : gi p2 1 3) : Met l yX6_expect (.code yX6_expect cX6_expect 3 none :: wsGA) ({ frames := 1, cells := 0, slots := 0, locals := 22 }) (va_Pc [.ref h0, .int p1, .int p2] (fun U => U.heap.size = sz ∧ va_P (dC, dI) vwCl [(h0, .inr (6, [.ref tp, .ref dr, .int q_faultKind, .int q_faultPlace, .int q_token, .int q_start, .int q_stop]))] U.heap ∧ va_K (dC, dI) vwCl [] U ∧ va_D (fun _ => True) [(h0, .inr (6, [.ref tp, .ref dr, .int q_faultKind, .int q_faultPlace, .int q_token, .int q_start, .int q_stop]))] ∧ nzA U)) (va_Qv (fun (u : Unit) => True) (fun _ t => ∃ (w0_2 : Int32) (w0_3 : Int32), pb_sX6_expect dC dI (va_A [(h0, .inr (6, [.ref tp, .ref dr, .int q_faultKind, .int q_faultPlace, .int q_token, .int q_start, .int q_stop]))] sz) h0 tp dr q_faultKind q_faultPlace q_token q_start q_stop p1 p2 w0_2 w0_3 t) (va_A [(h0, .inr (6, [.ref tp, .ref dr, .int q_faultKind, .int q_faultPlace, .int q_token, .int q_start, .int q_stop]))] sz)) 0 0 (va_A [(h0, .inr (6, [.ref tp, .ref dr, .int q_faultKind, .int q_faultPlace, .int q_token, .int q_start, .int q_stop]))] sz) := by
  refine Met.ofW (cc := cX6_expect) (maxL := 3) (ret := none) (by decide) rfl ?_
  intro p e s m args below meth c s₁ B hml hv
  obtain ⟨rfl, hsz, hP, hK, hD0, hz⟩ := hv
  have hx := B.exec
  have hb := B.bytes
  have hr := B.returns
  have hts := atoms_spec (ws := (.code yX6_expect cX6_expect 3 none :: wsGA)) B.pre
  have hown : s.vm.findClass RX6 = some m.cls := findClass_of_methodNamed B.named
  have hlocks := B.notSynchronized
  subst hsz
  have hD := hD0.self (sz := s.heap.size)
  generalize hAe : va_A [(h0, .inr (6, [.ref tp, .ref dr, .int q_faultKind, .int q_faultPlace, .int q_token, .int q_start, .int q_stop]))] s.heap.size = A at hD ⊢
  have hA : ∀ q : Nat, s.heap.size ≤ q → A q := fun q h => by rw [← hAe]; exact Or.inr h
  have hS : va_S A s.heap s.heap [] := va_S.rf
  have hl := lv_entry ([.ref h0, .int p1, .int p2]) (n := 3) (Nat.le_of_ble_eq_true rfl)
  rw [lg_entry_eq]
  generalize (lg_sl ([.ref h0, .int p1, .int p2]) ++ List.replicate (3 - (lg_sl ([.ref h0, .int p1, .int p2])).length) Slot.unset).toArray = ls at hl ⊢
  have hl : lv_has ls 3 [(0, .ref h0), (1, .int p1), (2, .int p2)] := hl
  obtain ⟨RES, hF⟩ : ∃ R9, fX6_expect q_faultKind q_faultPlace q_start p1 p2 = R9 := ⟨_, rfl⟩
  have hR9 := hF
  refine lv_iload_n hx hb (dk_at dkX6_expect 0 rfl) rfl (lv_at hl 1 rfl) ?_
  refine lv_if_ne (tgt := 13) hx hb (dk_at dkX6_expect 1 rfl) (by decide) (fun c_19 => ?_) (fun c_19 => ?_)
  · have hF := gf_neg c_19 hF
    have hc_20 : p1.toInt ≠ 0 := fun h9 => c_19 (Int32.toInt_inj.mp (by rw [show (0 : Int32).toInt = 0 from by decide]; exact h9))
    have g_21 : gi p1 1 1 := gi_ne_lo c_19 gp1 (gi_c 0 0 (by decide)) (by decide)
    exact W.vret hx hb hr (fun t ht hW => ⟨⟨(), rfl, trivial, q_faultKind, q_faultPlace, gq_faultKind, (show q_faultKind.toInt ≤ q_faultKind.toInt from (Int.le_refl _)), (show (p1.toInt = 1 ∨ 1 ≤ q_faultKind.toInt) from (Or.inl (gz_isc g_21))), hF.trans hR9.symm, by rw [ht]; exact hP, hD⟩, hS.F ht⟩) hS.2.2 (dk_at dkX6_expect 7 rfl)
  · have hF := gf_pos c_19 hF
    have hc_22 : p1.toInt = 0 := by have h9 := congrArg Int32.toInt c_19; rw [show (0 : Int32).toInt = 0 from by decide] at h9; exact h9
    have g_23 : gi p1 0 0 := gi_eq c_19 (gi_c 0 0 (by decide))
    refine lv_aload_n hx hb (dk_at dkX6_expect 2 rfl) rfl (lv_at hl 0 rfl) ?_
    refine lv_iload_n hx hb (dk_at dkX6_expect 3 rfl) rfl (lv_at hl 2 rfl) ?_
    refine lv_aload_n hx hb (dk_at dkX6_expect 4 rfl) rfl (lv_at hl 0 rfl) ?_
    refine va_get (D := (dC, dI)) (ci := 6) (v := .int q_start) (C := RX6) (T := TX6) (N := 7) hx hb hts (fun w h => List.mem_cons_of_mem _ (jnGA_X6 w h)) hown hK hP 0 rfl rfl 5 (by decide) (hts _ (List.mem_cons_of_mem _ mGA_58)) (fun _ h9 => h9) rfl (dk_at dkX6_expect 5 rfl) ?_
    have hFc := gz_fullF hD hS hA
    refine va_callv (va_runV (As := [.int p2, .int q_start]) (rest := []) ⟨hx, hb, hml, hown, hts⟩ (sX6_blame l dC dI s.heap.size h0 tp dr q_faultKind q_faultPlace q_token q_start q_stop p2 q_start gq_faultKind gq_start gq_stop gp2) (cwV 2 hts (gz_gV mGA_254 mGA_255 mGA_256 mGA_9 mGA_257 goodGA) rfl rfl rfl hdV_X6_blame_X6_2 ⟨Nat.le_of_ble_eq_true rfl, Nat.le_of_ble_eq_true rfl⟩) ⟨bl_I (bl_a bl_sz (bl_a bl_P (bl_a bl_K (bl_a bl_c bl_nz)))), va_recv hK hP (ci := 6) (q0 := 0) rfl rfl, fun U hU hW => ⟨rfl, by rw [hU], by rw [hU]; exact hP, va_K.moved hW.alike hK, hD.weaken (fun _ _ _ _ => trivial), nzA_warm hW hz⟩⟩ rfl rfl hl.1 rfl (lv_room (Nat.le_of_ble_eq_true rfl)) (dk_at dkX6_expect 6 rfl) ⟨Nat.zero_le _, Nat.zero_le _⟩) hS (fun q _ h => hFc q h) hFc (fun u t H1 locs ht hvm hw hB hz1 hk1 hS => ?_)
    clear hz1
    obtain ⟨y_25, y_26, hB⟩ := hB
    obtain ⟨gy_25, hpr0_r_24, hpr1_r_24, hE, hP1, hD1⟩ := hB
    rw [ht] at hP1
    have hD := gz_fullD hFc hD1
    have hP := hP1
    have hpr0_r_24 : Hid (1 ≤ y_25.toInt) := hpr0_r_24
    have g_27 : gi y_25 1 3 := ⟨by have h8 := Hid.un hpr0_r_24; omega, gy_25.2⟩
    have hpr1_r_24 : Hid (q_faultKind.toInt ≤ y_25.toInt) := hpr1_r_24
    have hF := gf_call (a := (y_25, y_26)) hE hF
    generalize H1 = H at hP hS ⊢
    exact W.vret hx hb hr (fun t ht hW => ⟨⟨(), rfl, trivial, y_25, y_26, (gi_w g_27 (by decide)), (Hid.un hpr1_r_24), (show (p1.toInt = 1 ∨ 1 ≤ y_25.toInt) from (Or.inr (Hid.un hpr0_r_24))), hF.trans hR9.symm, by rw [ht]; exact hP, hD⟩, hS.F ht⟩) hS.2.2 (dk_at dkX6_expect 7 rfl)
noncomputable def lsX6_passHead : List (Nat × Instr × Nat) := [(0, .aload_n 0, 1), (1, .iload_n 1, 1), (2, .iconst 3, 1), (3, .invokevirtual 166, 3), (6, .aload_n 0, 1), (7, .invokevirtual 44, 3), (10, .return_, 1)]
theorem dkX6_passHead : dkAll cX6_passHead lsX6_passHead = true := dk_fast (by decide +kernel)
noncomputable def fX6_passHead (q_faultKind : Int32) (q_faultPlace : Int32) (q_token : Int32) (q_start : Int32) (q_stop : Int32) (b_length : Int32) (fbt : Nat → Int32) (p1 : Int32) : Int32 × Int32 × Int32 × Int32 × Int32 := cal (fun o1 => cal (fun o2 => (o1.1, o1.2, o2.1, o2.2.1, o2.2.2)) (fX6_step o1.1 q_token q_start q_stop b_length fbt)) (fX6_expect q_faultKind q_faultPlace q_start p1 (3 : Int32))
abbrev pb_sX6_passHead (dC : Nat → ClassId) (dI : Nat → Nat → Nat) (A9 : Nat → Prop) (h0 : Nat) (tp : Nat) (bt : Nat) (dr : Nat) (q_faultKind : Int32) (q_faultPlace : Int32) (q_token : Int32) (q_start : Int32) (q_stop : Int32) (b_length : Int32) (kbt : ClassId) (fbt : Nat → Int32) (p1 : Int32) (w0_2 : Int32) (w0_3 : Int32) (w0_4 : Int32) (w0_5 : Int32) (w0_6 : Int32) (t : State) : Prop := gi w0_2 0 3 ∧ gi w0_5 0 1600 ∧ gi w0_6 0 1600 ∧ q_faultKind.toInt ≤ w0_2.toInt ∧ (p1.toInt = 1 ∨ 1 ≤ w0_2.toInt) ∧ (w0_2, w0_3, w0_4, w0_5, w0_6) = fX6_passHead q_faultKind q_faultPlace q_token q_start q_stop b_length fbt p1 ∧ va_P (dC, dI) vwCl [(h0, .inr (6, [.ref tp, .ref dr, .int w0_2, .int w0_3, .int w0_4, .int w0_5, .int w0_6])), (tp, .inr (10, [.ref bt, .int b_length])), (bt, .inl (kbt, 1600, .inl fbt))] t.heap ∧ va_D A9 [(h0, .inr (6, [.ref tp, .ref dr, .int w0_2, .int w0_3, .int w0_4, .int w0_5, .int w0_6])), (tp, .inr (10, [.ref bt, .int b_length])), (bt, .inl (kbt, 1600, .inl fbt))]
set_option maxHeartbeats 4000000 in
set_option maxRecDepth 100000 in
theorem sX6_passHead (l : Launch) (dC : Nat → ClassId) (dI : Nat → Nat → Nat) (sz : Nat) (h0 : Nat) (tp : Nat) (bt : Nat) (dr : Nat) (q_faultKind : Int32) (q_faultPlace : Int32) (q_token : Int32) (q_start : Int32) (q_stop : Int32) (b_length : Int32) (kbt : ClassId) (fbt : Nat → Int32) (p1 : Int32) (gq_faultKind : gi q_faultKind 0 3) (gq_start : gi q_start 0 1600) (gq_stop : gi q_stop 0 1600) (gb_length : gi b_length 0 1600) (gp1 : gi p1 0 1) : Met l yX6_passHead (.code yX6_passHead cX6_passHead 2 none :: wsGA) ({ frames := 2, cells := 0, slots := 0, locals := 44 }) (va_Pc [.ref h0, .int p1] (fun U => U.heap.size = sz ∧ va_P (dC, dI) vwCl [(h0, .inr (6, [.ref tp, .ref dr, .int q_faultKind, .int q_faultPlace, .int q_token, .int q_start, .int q_stop])), (tp, .inr (10, [.ref bt, .int b_length])), (bt, .inl (kbt, 1600, .inl fbt))] U.heap ∧ va_K (dC, dI) vwCl [(kbt, .byte)] U ∧ va_D (fun _ => True) [(h0, .inr (6, [.ref tp, .ref dr, .int q_faultKind, .int q_faultPlace, .int q_token, .int q_start, .int q_stop])), (tp, .inr (10, [.ref bt, .int b_length])), (bt, .inl (kbt, 1600, .inl fbt))] ∧ nzA U)) (va_Qv (fun (u : Unit) => True) (fun _ t => ∃ (w0_2 : Int32) (w0_3 : Int32) (w0_4 : Int32) (w0_5 : Int32) (w0_6 : Int32), pb_sX6_passHead dC dI (va_A [(h0, .inr (6, [.ref tp, .ref dr, .int q_faultKind, .int q_faultPlace, .int q_token, .int q_start, .int q_stop])), (tp, .inr (10, [.ref bt, .int b_length])), (bt, .inl (kbt, 1600, .inl fbt))] sz) h0 tp bt dr q_faultKind q_faultPlace q_token q_start q_stop b_length kbt fbt p1 w0_2 w0_3 w0_4 w0_5 w0_6 t) (va_A [(h0, .inr (6, [.ref tp, .ref dr, .int q_faultKind, .int q_faultPlace, .int q_token, .int q_start, .int q_stop])), (tp, .inr (10, [.ref bt, .int b_length])), (bt, .inl (kbt, 1600, .inl fbt))] sz)) 0 0 (va_A [(h0, .inr (6, [.ref tp, .ref dr, .int q_faultKind, .int q_faultPlace, .int q_token, .int q_start, .int q_stop])), (tp, .inr (10, [.ref bt, .int b_length])), (bt, .inl (kbt, 1600, .inl fbt))] sz) := by
  refine Met.ofW (cc := cX6_passHead) (maxL := 2) (ret := none) (by decide) rfl ?_
  intro p e s m args below meth c s₁ B hml hv
  obtain ⟨rfl, hsz, hP, hK, hD0, hz⟩ := hv
  have hx := B.exec
  have hb := B.bytes
  have hr := B.returns
  have hts := atoms_spec (ws := (.code yX6_passHead cX6_passHead 2 none :: wsGA)) B.pre
  have hown : s.vm.findClass RX6 = some m.cls := findClass_of_methodNamed B.named
  have hlocks := B.notSynchronized
  subst hsz
  have hD := hD0.self (sz := s.heap.size)
  generalize hAe : va_A [(h0, .inr (6, [.ref tp, .ref dr, .int q_faultKind, .int q_faultPlace, .int q_token, .int q_start, .int q_stop])), (tp, .inr (10, [.ref bt, .int b_length])), (bt, .inl (kbt, 1600, .inl fbt))] s.heap.size = A at hD ⊢
  have hA : ∀ q : Nat, s.heap.size ≤ q → A q := fun q h => by rw [← hAe]; exact Or.inr h
  have hS : va_S A s.heap s.heap [] := va_S.rf
  have hl := lv_entry ([.ref h0, .int p1]) (n := 2) (Nat.le_of_ble_eq_true rfl)
  rw [lg_entry_eq]
  generalize (lg_sl ([.ref h0, .int p1]) ++ List.replicate (2 - (lg_sl ([.ref h0, .int p1])).length) Slot.unset).toArray = ls at hl ⊢
  have hl : lv_has ls 2 [(0, .ref h0), (1, .int p1)] := hl
  obtain ⟨RES, hF⟩ : ∃ R9, fX6_passHead q_faultKind q_faultPlace q_token q_start q_stop b_length fbt p1 = R9 := ⟨_, rfl⟩
  have hR9 := hF
  refine lv_aload_n hx hb (dk_at dkX6_passHead 0 rfl) rfl (lv_at hl 0 rfl) ?_
  refine lv_iload_n hx hb (dk_at dkX6_passHead 1 rfl) rfl (lv_at hl 1 rfl) ?_
  refine lv_iconst (v := 3) hx hb (dk_at dkX6_passHead 2 rfl) (by decide) ?_
  obtain ⟨hPc, hDc, hFc⟩ := gz_cut (wc := [(h0, .inr (6, [.ref tp, .ref dr, .int q_faultKind, .int q_faultPlace, .int q_token, .int q_start, .int q_stop]))]) hP hD hS hA [0] (by decide) rfl
  have hKc := hK.sub (tys' := []) [] rfl
  refine va_callv (va_runV (As := [.int p1, .int 3]) (rest := []) ⟨hx, hb, hml, hown, hts⟩ (sX6_expect l dC dI s.heap.size h0 tp dr q_faultKind q_faultPlace q_token q_start q_stop p1 3 gq_faultKind gq_start gq_stop gp1 (gi_w (gi_c 3 3 (by decide)) (by decide))) (cwV 2 hts (gz_gV mGA_250 mGA_251 mGA_252 mGA_9 mGA_253 goodGA) rfl rfl rfl hdV_X6_expect_X6_2 ⟨Nat.le_of_ble_eq_true rfl, Nat.le_of_ble_eq_true rfl⟩) ⟨bl_I (bl_a bl_sz (bl_a bl_P (bl_a bl_K (bl_a bl_c bl_nz)))), va_recv hKc hPc (ci := 6) (q0 := 0) rfl rfl, fun U hU hW => ⟨rfl, by rw [hU], by rw [hU]; exact hPc, va_K.moved hW.alike hKc, hDc.weaken (fun _ _ _ _ => trivial), nzA_warm hW hz⟩⟩ rfl rfl hl.1 rfl (lv_room (Nat.le_of_ble_eq_true rfl)) (dk_at dkX6_passHead 3 rfl) ⟨Nat.zero_le _, Nat.zero_le _⟩) hS (fun q _ h => hFc q h) hFc (fun u t H1 locs ht hvm hw hB hz1 hk1 hS => ?_)
  clear hz1
  obtain ⟨y_16, y_17, hB⟩ := hB
  obtain ⟨gy_16, hpr0_r_15, hpr1_r_15, hE, hP1, hD1⟩ := hB
  rw [ht] at hP1
  obtain ⟨hP, hD⟩ := gz_back hP hD hk1 hFc hP1 hD1 [0] rfl rfl
  have hpr0_r_15 : Hid (q_faultKind.toInt ≤ y_16.toInt) := hpr0_r_15
  have hpr1_r_15 : Hid ((p1.toInt = 1 ∨ 1 ≤ y_16.toInt)) := hpr1_r_15
  obtain ⟨hP, hD⟩ := gz_both (w := [(h0, .inr (6, [.ref tp, .ref dr, .int y_16, .int y_17, .int q_token, .int q_start, .int q_stop])), (tp, .inr (10, [.ref bt, .int b_length])), (bt, .inl (kbt, 1600, .inl fbt))]) hP hD
  have hF := gf_call (a := (y_16, y_17)) hE hF
  generalize H1 = H at hP hS ⊢
  refine lv_aload_n hx hb (dk_at dkX6_passHead 4 rfl) rfl (lv_at hl 0 rfl) ?_
  have hFc := gz_fullF hD hS hA
  refine va_callv (va_runV (As := []) (rest := []) ⟨hx, hb, hml, hown, hts⟩ (sX6_step l dC dI H.size h0 tp bt dr y_16 y_17 q_token q_start q_stop b_length kbt fbt gy_16 gq_start gq_stop gb_length) (cwV 0 hts (gz_gV mGA_162 mGA_163 mGA_164 mGA_9 mGA_165 goodGA) rfl rfl rfl hdV_X6_step_X6_0 ⟨Nat.le_of_ble_eq_true rfl, Nat.le_of_ble_eq_true rfl⟩) ⟨bl_I (bl_a bl_sz (bl_a bl_P (bl_a bl_K (bl_a bl_c bl_nz)))), va_recv hK hP (ci := 6) (q0 := 0) rfl rfl, fun U hU hW => ⟨rfl, by rw [hU], by rw [hU]; exact hP, va_K.moved hW.alike hK, hD.weaken (fun _ _ _ _ => trivial), nzA_warm hW hz⟩⟩ rfl rfl hl.1 rfl (lv_room (Nat.le_of_ble_eq_true rfl)) (dk_at dkX6_passHead 5 rfl) ⟨Nat.zero_le _, Nat.zero_le _⟩) hS (fun q _ h => hFc q h) hFc (fun u t H1 locs ht hvm hw hB hz1 hk1 hS => ?_)
  clear hz1
  obtain ⟨y_19, y_20, y_21, hB⟩ := hB
  obtain ⟨gy_20, gy_21, hE, hP1, hD1⟩ := hB
  rw [ht] at hP1
  have hD := gz_fullD hFc hD1
  have hP := hP1
  have hF := gf_call (a := (y_19, y_20, y_21)) hE hF
  generalize H1 = H at hP hS ⊢
  exact W.vret hx hb hr (fun t ht hW => ⟨⟨(), rfl, trivial, y_16, y_17, y_19, y_20, y_21, gy_16, gy_20, gy_21, (Hid.un hpr0_r_15), (Hid.un hpr1_r_15), hF.trans hR9.symm, by rw [ht]; exact hP, hD⟩, hS.F ht⟩) hS.2.2 (dk_at dkX6_passHead 6 rfl)
noncomputable def lsX6_passSign : List (Nat × Instr × Nat) := [(0, .aload_n 0, 1), (1, .aload_n 0, 1), (2, .getfield 32, 3), (5, .iconst 4, 1), (6, .if_icmp .ne 7, 3), (9, .iconst 1, 1), (10, .goto 4, 3), (13, .iconst 0, 1), (14, .iconst 1, 1), (15, .invokevirtual 166, 3), (18, .aload_n 0, 1), (19, .invokevirtual 44, 3), (22, .return_, 1)]
theorem dkX6_passSign : dkAll cX6_passSign lsX6_passSign = true := dk_fast (by decide +kernel)
noncomputable def bfX6_passSign_14 (q_faultKind : Int32) (q_faultPlace : Int32) (q_token : Int32) (q_start : Int32) (q_stop : Int32) (b_length : Int32) (fbt : Nat → Int32) (s0 : Int32) (w0_2 : Int32) (w0_3 : Int32) (w0_4 : Int32) (w0_5 : Int32) (w0_6 : Int32) : Int32 × Int32 × Int32 × Int32 × Int32 := cal (fun o1 => cal (fun o2 => (o1.1, o1.2, o2.1, o2.2.1, o2.2.2)) (fX6_step o1.1 w0_4 w0_5 w0_6 b_length fbt)) (fX6_expect w0_2 w0_3 w0_5 s0 (1 : Int32))
noncomputable def fX6_passSign (q_faultKind : Int32) (q_faultPlace : Int32) (q_token : Int32) (q_start : Int32) (q_stop : Int32) (b_length : Int32) (fbt : Nat → Int32) : Int32 × Int32 × Int32 × Int32 × Int32 := if q_token = (4 : Int32) then (bfX6_passSign_14 q_faultKind q_faultPlace q_token q_start q_stop b_length fbt (1 : Int32) q_faultKind q_faultPlace q_token q_start q_stop) else (bfX6_passSign_14 q_faultKind q_faultPlace q_token q_start q_stop b_length fbt (0 : Int32) q_faultKind q_faultPlace q_token q_start q_stop)
abbrev pb_sX6_passSign (dC : Nat → ClassId) (dI : Nat → Nat → Nat) (A9 : Nat → Prop) (h0 : Nat) (tp : Nat) (bt : Nat) (dr : Nat) (q_faultKind : Int32) (q_faultPlace : Int32) (q_token : Int32) (q_start : Int32) (q_stop : Int32) (b_length : Int32) (kbt : ClassId) (fbt : Nat → Int32) (w0_2 : Int32) (w0_3 : Int32) (w0_4 : Int32) (w0_5 : Int32) (w0_6 : Int32) (t : State) : Prop := gi w0_2 0 3 ∧ gi w0_5 0 1600 ∧ gi w0_6 0 1600 ∧ q_faultKind.toInt ≤ w0_2.toInt ∧ (w0_2, w0_3, w0_4, w0_5, w0_6) = fX6_passSign q_faultKind q_faultPlace q_token q_start q_stop b_length fbt ∧ va_P (dC, dI) vwCl [(h0, .inr (6, [.ref tp, .ref dr, .int w0_2, .int w0_3, .int w0_4, .int w0_5, .int w0_6])), (tp, .inr (10, [.ref bt, .int b_length])), (bt, .inl (kbt, 1600, .inl fbt))] t.heap ∧ va_D A9 [(h0, .inr (6, [.ref tp, .ref dr, .int w0_2, .int w0_3, .int w0_4, .int w0_5, .int w0_6])), (tp, .inr (10, [.ref bt, .int b_length])), (bt, .inl (kbt, 1600, .inl fbt))]
set_option maxHeartbeats 4000000 in
set_option maxRecDepth 100000 in
theorem sX6_passSign (l : Launch) (dC : Nat → ClassId) (dI : Nat → Nat → Nat) (sz : Nat) (h0 : Nat) (tp : Nat) (bt : Nat) (dr : Nat) (q_faultKind : Int32) (q_faultPlace : Int32) (q_token : Int32) (q_start : Int32) (q_stop : Int32) (b_length : Int32) (kbt : ClassId) (fbt : Nat → Int32) (gq_faultKind : gi q_faultKind 0 3) (gq_start : gi q_start 0 1600) (gq_stop : gi q_stop 0 1600) (gb_length : gi b_length 0 1600) : Met l yX6_passSign (.code yX6_passSign cX6_passSign 1 none :: wsGA) ({ frames := 2, cells := 0, slots := 0, locals := 44 }) (va_Pc [.ref h0] (fun U => U.heap.size = sz ∧ va_P (dC, dI) vwCl [(h0, .inr (6, [.ref tp, .ref dr, .int q_faultKind, .int q_faultPlace, .int q_token, .int q_start, .int q_stop])), (tp, .inr (10, [.ref bt, .int b_length])), (bt, .inl (kbt, 1600, .inl fbt))] U.heap ∧ va_K (dC, dI) vwCl [(kbt, .byte)] U ∧ va_D (fun _ => True) [(h0, .inr (6, [.ref tp, .ref dr, .int q_faultKind, .int q_faultPlace, .int q_token, .int q_start, .int q_stop])), (tp, .inr (10, [.ref bt, .int b_length])), (bt, .inl (kbt, 1600, .inl fbt))] ∧ nzA U)) (va_Qv (fun (u : Unit) => True) (fun _ t => ∃ (w0_2 : Int32) (w0_3 : Int32) (w0_4 : Int32) (w0_5 : Int32) (w0_6 : Int32), pb_sX6_passSign dC dI (va_A [(h0, .inr (6, [.ref tp, .ref dr, .int q_faultKind, .int q_faultPlace, .int q_token, .int q_start, .int q_stop])), (tp, .inr (10, [.ref bt, .int b_length])), (bt, .inl (kbt, 1600, .inl fbt))] sz) h0 tp bt dr q_faultKind q_faultPlace q_token q_start q_stop b_length kbt fbt w0_2 w0_3 w0_4 w0_5 w0_6 t) (va_A [(h0, .inr (6, [.ref tp, .ref dr, .int q_faultKind, .int q_faultPlace, .int q_token, .int q_start, .int q_stop])), (tp, .inr (10, [.ref bt, .int b_length])), (bt, .inl (kbt, 1600, .inl fbt))] sz)) 0 0 (va_A [(h0, .inr (6, [.ref tp, .ref dr, .int q_faultKind, .int q_faultPlace, .int q_token, .int q_start, .int q_stop])), (tp, .inr (10, [.ref bt, .int b_length])), (bt, .inl (kbt, 1600, .inl fbt))] sz) := by
  refine Met.ofW (cc := cX6_passSign) (maxL := 1) (ret := none) (by decide) rfl ?_
  intro p e s m args below meth c s₁ B hml hv
  obtain ⟨rfl, hsz, hP, hK, hD0, hz⟩ := hv
  have hx := B.exec
  have hb := B.bytes
  have hr := B.returns
  have hts := atoms_spec (ws := (.code yX6_passSign cX6_passSign 1 none :: wsGA)) B.pre
  have hown : s.vm.findClass RX6 = some m.cls := findClass_of_methodNamed B.named
  have hlocks := B.notSynchronized
  subst hsz
  have hD := hD0.self (sz := s.heap.size)
  generalize hAe : va_A [(h0, .inr (6, [.ref tp, .ref dr, .int q_faultKind, .int q_faultPlace, .int q_token, .int q_start, .int q_stop])), (tp, .inr (10, [.ref bt, .int b_length])), (bt, .inl (kbt, 1600, .inl fbt))] s.heap.size = A at hD ⊢
  have hA : ∀ q : Nat, s.heap.size ≤ q → A q := fun q h => by rw [← hAe]; exact Or.inr h
  have hS : va_S A s.heap s.heap [] := va_S.rf
  have hl := lv_entry ([.ref h0]) (n := 1) (Nat.le_of_ble_eq_true rfl)
  rw [lg_entry_eq]
  generalize (lg_sl ([.ref h0]) ++ List.replicate (1 - (lg_sl ([.ref h0])).length) Slot.unset).toArray = ls at hl ⊢
  have hl : lv_has ls 1 [(0, .ref h0)] := hl
  obtain ⟨RES, hF⟩ : ∃ R9, fX6_passSign q_faultKind q_faultPlace q_token q_start q_stop b_length fbt = R9 := ⟨_, rfl⟩
  have hR9 := hF
  refine lv_aload_n hx hb (dk_at dkX6_passSign 0 rfl) rfl (lv_at hl 0 rfl) ?_
  refine lv_aload_n hx hb (dk_at dkX6_passSign 1 rfl) rfl (lv_at hl 0 rfl) ?_
  refine va_get (D := (dC, dI)) (ci := 6) (v := .int q_token) (C := RX6) (T := TX6) (N := 7) hx hb hts (fun w h => List.mem_cons_of_mem _ (jnGA_X6 w h)) hown hK hP 0 rfl rfl 4 (by decide) (hts _ (List.mem_cons_of_mem _ mGA_57)) (fun _ h9 => h9) rfl (dk_at dkX6_passSign 2 rfl) ?_
  refine lv_iconst (v := 4) hx hb (dk_at dkX6_passSign 3 rfl) (by decide) ?_
  refine lv_icmp_ne (tgt := 13) hx hb (dk_at dkX6_passSign 4 rfl) (by decide) (fun c_41 => ?_) (fun c_41 => ?_)
  · have hF := gf_neg c_41 hF
    have hc_42 : q_token.toInt ≠ 4 := fun h9 => c_41 (Int32.toInt_inj.mp (by rw [show (4 : Int32).toInt = 4 from by decide]; exact h9))
    refine lv_iconst (v := 0) hx hb (dk_at dkX6_passSign 7 rfl) (by decide) ?_
    refine lv_iconst (v := 1) hx hb (dk_at dkX6_passSign 8 rfl) (by decide) ?_
    obtain ⟨hPc, hDc, hFc⟩ := gz_cut (wc := [(h0, .inr (6, [.ref tp, .ref dr, .int q_faultKind, .int q_faultPlace, .int q_token, .int q_start, .int q_stop]))]) hP hD hS hA [0] (by decide) rfl
    have hKc := hK.sub (tys' := []) [] rfl
    refine va_callv (va_runV (As := [.int 0, .int 1]) (rest := []) ⟨hx, hb, hml, hown, hts⟩ (sX6_expect l dC dI s.heap.size h0 tp dr q_faultKind q_faultPlace q_token q_start q_stop 0 1 gq_faultKind gq_start gq_stop (gi_w (gi_c 0 0 (by decide)) (by decide)) (gi_w (gi_c 1 1 (by decide)) (by decide))) (cwV 2 hts (gz_gV mGA_250 mGA_251 mGA_252 mGA_9 mGA_253 goodGA) rfl rfl rfl hdV_X6_expect_X6_2 ⟨Nat.le_of_ble_eq_true rfl, Nat.le_of_ble_eq_true rfl⟩) ⟨bl_I (bl_a bl_sz (bl_a bl_P (bl_a bl_K (bl_a bl_c bl_nz)))), va_recv hKc hPc (ci := 6) (q0 := 0) rfl rfl, fun U hU hW => ⟨rfl, by rw [hU], by rw [hU]; exact hPc, va_K.moved hW.alike hKc, hDc.weaken (fun _ _ _ _ => trivial), nzA_warm hW hz⟩⟩ rfl rfl hl.1 rfl (lv_room (Nat.le_of_ble_eq_true rfl)) (dk_at dkX6_passSign 9 rfl) ⟨Nat.zero_le _, Nat.zero_le _⟩) hS (fun q _ h => hFc q h) hFc (fun u t H1 locs ht hvm hw hB hz1 hk1 hS => ?_)
    clear hz1
    obtain ⟨y_44, y_45, hB⟩ := hB
    obtain ⟨gy_44, hpr0_r_43, hpr1_r_43, hE, hP1, hD1⟩ := hB
    rw [ht] at hP1
    obtain ⟨hP, hD⟩ := gz_back hP hD hk1 hFc hP1 hD1 [0] rfl rfl
    have hpr0_r_43 : Hid (q_faultKind.toInt ≤ y_44.toInt) := hpr0_r_43
    have hpr1_r_43 : Hid (((0 : Int) = 1 ∨ 1 ≤ y_44.toInt)) := by have h9 : ((0 : Int32).toInt = 1 ∨ 1 ≤ y_44.toInt) := hpr1_r_43; rw [show (0 : Int32).toInt = 0 from by decide] at h9; exact h9
    have hf_46 : 1 ≤ y_44.toInt := Hid.resL hpr1_r_43 (by omega)
    have g_47 : gi y_44 1 3 := ⟨by omega, gy_44.2⟩
    obtain ⟨hP, hD⟩ := gz_both (w := [(h0, .inr (6, [.ref tp, .ref dr, .int y_44, .int y_45, .int q_token, .int q_start, .int q_stop])), (tp, .inr (10, [.ref bt, .int b_length])), (bt, .inl (kbt, 1600, .inl fbt))]) hP hD
    have hF := gf_call (a := (y_44, y_45)) hE hF
    generalize H1 = H at hP hS ⊢
    refine lv_aload_n hx hb (dk_at dkX6_passSign 10 rfl) rfl (lv_at hl 0 rfl) ?_
    have hFc := gz_fullF hD hS hA
    refine va_callv (va_runV (As := []) (rest := []) ⟨hx, hb, hml, hown, hts⟩ (sX6_step l dC dI H.size h0 tp bt dr y_44 y_45 q_token q_start q_stop b_length kbt fbt (gi_w g_47 (by decide)) gq_start gq_stop gb_length) (cwV 0 hts (gz_gV mGA_162 mGA_163 mGA_164 mGA_9 mGA_165 goodGA) rfl rfl rfl hdV_X6_step_X6_0 ⟨Nat.le_of_ble_eq_true rfl, Nat.le_of_ble_eq_true rfl⟩) ⟨bl_I (bl_a bl_sz (bl_a bl_P (bl_a bl_K (bl_a bl_c bl_nz)))), va_recv hK hP (ci := 6) (q0 := 0) rfl rfl, fun U hU hW => ⟨rfl, by rw [hU], by rw [hU]; exact hP, va_K.moved hW.alike hK, hD.weaken (fun _ _ _ _ => trivial), nzA_warm hW hz⟩⟩ rfl rfl hl.1 rfl (lv_room (Nat.le_of_ble_eq_true rfl)) (dk_at dkX6_passSign 11 rfl) ⟨Nat.zero_le _, Nat.zero_le _⟩) hS (fun q _ h => hFc q h) hFc (fun u t H1 locs ht hvm hw hB hz1 hk1 hS => ?_)
    clear hz1
    obtain ⟨y_49, y_50, y_51, hB⟩ := hB
    obtain ⟨gy_50, gy_51, hE, hP1, hD1⟩ := hB
    rw [ht] at hP1
    have hD := gz_fullD hFc hD1
    have hP := hP1
    have hF := gf_call (a := (y_49, y_50, y_51)) hE hF
    generalize H1 = H at hP hS ⊢
    exact W.vret hx hb hr (fun t ht hW => ⟨⟨(), rfl, trivial, y_44, y_45, y_49, y_50, y_51, (gi_w g_47 (by decide)), gy_50, gy_51, (Hid.un hpr0_r_43), hF.trans hR9.symm, by rw [ht]; exact hP, hD⟩, hS.F ht⟩) hS.2.2 (dk_at dkX6_passSign 12 rfl)
  · have hF := gf_pos c_41 hF
    have hc_52 : q_token.toInt = 4 := by have h9 := congrArg Int32.toInt c_41; rw [show (4 : Int32).toInt = 4 from by decide] at h9; exact h9
    have g_53 : gi q_token 4 4 := gi_eq c_41 (gi_c 4 4 (by decide))
    refine lv_iconst (v := 1) hx hb (dk_at dkX6_passSign 5 rfl) (by decide) ?_
    refine lv_goto (tgt := 14) hx hb (dk_at dkX6_passSign 6 rfl) (by decide) ?_
    refine lv_iconst (v := 1) hx hb (dk_at dkX6_passSign 8 rfl) (by decide) ?_
    obtain ⟨hPc, hDc, hFc⟩ := gz_cut (wc := [(h0, .inr (6, [.ref tp, .ref dr, .int q_faultKind, .int q_faultPlace, .int q_token, .int q_start, .int q_stop]))]) hP hD hS hA [0] (by decide) rfl
    have hKc := hK.sub (tys' := []) [] rfl
    refine va_callv (va_runV (As := [.int 1, .int 1]) (rest := []) ⟨hx, hb, hml, hown, hts⟩ (sX6_expect l dC dI s.heap.size h0 tp dr q_faultKind q_faultPlace q_token q_start q_stop 1 1 gq_faultKind gq_start gq_stop (gi_w (gi_c 1 1 (by decide)) (by decide)) (gi_w (gi_c 1 1 (by decide)) (by decide))) (cwV 2 hts (gz_gV mGA_250 mGA_251 mGA_252 mGA_9 mGA_253 goodGA) rfl rfl rfl hdV_X6_expect_X6_2 ⟨Nat.le_of_ble_eq_true rfl, Nat.le_of_ble_eq_true rfl⟩) ⟨bl_I (bl_a bl_sz (bl_a bl_P (bl_a bl_K (bl_a bl_c bl_nz)))), va_recv hKc hPc (ci := 6) (q0 := 0) rfl rfl, fun U hU hW => ⟨rfl, by rw [hU], by rw [hU]; exact hPc, va_K.moved hW.alike hKc, hDc.weaken (fun _ _ _ _ => trivial), nzA_warm hW hz⟩⟩ rfl rfl hl.1 rfl (lv_room (Nat.le_of_ble_eq_true rfl)) (dk_at dkX6_passSign 9 rfl) ⟨Nat.zero_le _, Nat.zero_le _⟩) hS (fun q _ h => hFc q h) hFc (fun u t H1 locs ht hvm hw hB hz1 hk1 hS => ?_)
    clear hz1
    obtain ⟨y_55, y_56, hB⟩ := hB
    obtain ⟨gy_55, hpr0_r_54, hpr1_r_54, hE, hP1, hD1⟩ := hB
    rw [ht] at hP1
    obtain ⟨hP, hD⟩ := gz_back hP hD hk1 hFc hP1 hD1 [0] rfl rfl
    have hpr0_r_54 : Hid (q_faultKind.toInt ≤ y_55.toInt) := hpr0_r_54
    have hpr1_r_54 : Hid (((1 : Int) = 1 ∨ 1 ≤ y_55.toInt)) := by have h9 : ((1 : Int32).toInt = 1 ∨ 1 ≤ y_55.toInt) := hpr1_r_54; rw [show (1 : Int32).toInt = 1 from by decide] at h9; exact h9
    obtain ⟨hP, hD⟩ := gz_both (w := [(h0, .inr (6, [.ref tp, .ref dr, .int y_55, .int y_56, .int q_token, .int q_start, .int q_stop])), (tp, .inr (10, [.ref bt, .int b_length])), (bt, .inl (kbt, 1600, .inl fbt))]) hP hD
    have hF := gf_call (a := (y_55, y_56)) hE hF
    generalize H1 = H at hP hS ⊢
    refine lv_aload_n hx hb (dk_at dkX6_passSign 10 rfl) rfl (lv_at hl 0 rfl) ?_
    have hFc := gz_fullF hD hS hA
    refine va_callv (va_runV (As := []) (rest := []) ⟨hx, hb, hml, hown, hts⟩ (sX6_step l dC dI H.size h0 tp bt dr y_55 y_56 q_token q_start q_stop b_length kbt fbt gy_55 gq_start gq_stop gb_length) (cwV 0 hts (gz_gV mGA_162 mGA_163 mGA_164 mGA_9 mGA_165 goodGA) rfl rfl rfl hdV_X6_step_X6_0 ⟨Nat.le_of_ble_eq_true rfl, Nat.le_of_ble_eq_true rfl⟩) ⟨bl_I (bl_a bl_sz (bl_a bl_P (bl_a bl_K (bl_a bl_c bl_nz)))), va_recv hK hP (ci := 6) (q0 := 0) rfl rfl, fun U hU hW => ⟨rfl, by rw [hU], by rw [hU]; exact hP, va_K.moved hW.alike hK, hD.weaken (fun _ _ _ _ => trivial), nzA_warm hW hz⟩⟩ rfl rfl hl.1 rfl (lv_room (Nat.le_of_ble_eq_true rfl)) (dk_at dkX6_passSign 11 rfl) ⟨Nat.zero_le _, Nat.zero_le _⟩) hS (fun q _ h => hFc q h) hFc (fun u t H1 locs ht hvm hw hB hz1 hk1 hS => ?_)
    clear hz1
    obtain ⟨y_58, y_59, y_60, hB⟩ := hB
    obtain ⟨gy_59, gy_60, hE, hP1, hD1⟩ := hB
    rw [ht] at hP1
    have hD := gz_fullD hFc hD1
    have hP := hP1
    have hF := gf_call (a := (y_58, y_59, y_60)) hE hF
    generalize H1 = H at hP hS ⊢
    exact W.vret hx hb hr (fun t ht hW => ⟨⟨(), rfl, trivial, y_55, y_56, y_58, y_59, y_60, gy_55, gy_59, gy_60, (Hid.un hpr0_r_54), hF.trans hR9.symm, by rw [ht]; exact hP, hD⟩, hS.F ht⟩) hS.2.2 (dk_at dkX6_passSign 12 rfl)
noncomputable def lsX6_passNumber : List (Nat × Instr × Nat) := [(0, .aload_n 0, 1), (1, .aload_n 0, 1), (2, .getfield 32, 3), (5, .iconst 3, 1), (6, .if_icmp .ne 7, 3), (9, .iconst 1, 1), (10, .goto 4, 3), (13, .iconst 0, 1), (14, .iconst 1, 1), (15, .invokevirtual 166, 3), (18, .aload_n 0, 1), (19, .invokevirtual 174, 3), (22, .istore_n 3, 1), (23, .aload_n 0, 1), (24, .iload_n 3, 1), (25, .iload_n 1, 1), (26, .if_icmp .lt 12, 3), (29, .iload_n 3, 1), (30, .iload_n 2, 1), (31, .if_icmp .gt 7, 3), (34, .iconst 1, 1), (35, .goto 4, 3), (38, .iconst 0, 1), (39, .iconst 2, 1), (40, .invokevirtual 166, 3), (43, .aload_n 0, 1), (44, .invokevirtual 44, 3), (47, .iload_n 3, 1), (48, .ireturn, 1)]
theorem dkX6_passNumber : dkAll cX6_passNumber lsX6_passNumber = true := dk_fast (by decide +kernel)
noncomputable def bfX6_passNumber_39 (q_faultKind : Int32) (q_faultPlace : Int32) (q_token : Int32) (q_start : Int32) (q_stop : Int32) (b_length : Int32) (fbt : Nat → Int32) (p1 : Int32) (p2 : Int32) (v3 : Int32) (s0 : Int32) (w0_2 : Int32) (w0_3 : Int32) (w0_4 : Int32) (w0_5 : Int32) (w0_6 : Int32) : Int32 × Int32 × Int32 × Int32 × Int32 × Int32 := cal (fun o3 => cal (fun o4 => (v3, o3.1, o3.2, o4.1, o4.2.1, o4.2.2)) (fX6_step o3.1 w0_4 w0_5 w0_6 b_length fbt)) (fX6_expect w0_2 w0_3 w0_5 s0 (2 : Int32))
noncomputable def bfX6_passNumber_38 (q_faultKind : Int32) (q_faultPlace : Int32) (q_token : Int32) (q_start : Int32) (q_stop : Int32) (b_length : Int32) (fbt : Nat → Int32) (p1 : Int32) (p2 : Int32) (v3 : Int32) (w0_2 : Int32) (w0_3 : Int32) (w0_4 : Int32) (w0_5 : Int32) (w0_6 : Int32) : Int32 × Int32 × Int32 × Int32 × Int32 × Int32 := bfX6_passNumber_39 q_faultKind q_faultPlace q_token q_start q_stop b_length fbt p1 p2 v3 (0 : Int32) w0_2 w0_3 w0_4 w0_5 w0_6
noncomputable def bfX6_passNumber_14 (q_faultKind : Int32) (q_faultPlace : Int32) (q_token : Int32) (q_start : Int32) (q_stop : Int32) (b_length : Int32) (fbt : Nat → Int32) (p1 : Int32) (p2 : Int32) (s0 : Int32) (w0_2 : Int32) (w0_3 : Int32) (w0_4 : Int32) (w0_5 : Int32) (w0_6 : Int32) : Int32 × Int32 × Int32 × Int32 × Int32 × Int32 := cal (fun o1 => cal (fun o2 => if o2 < p1 then (bfX6_passNumber_38 q_faultKind q_faultPlace q_token q_start q_stop b_length fbt p1 p2 o2 o1.1 o1.2 w0_4 w0_5 w0_6) else (if p2 < o2 then (bfX6_passNumber_38 q_faultKind q_faultPlace q_token q_start q_stop b_length fbt p1 p2 o2 o1.1 o1.2 w0_4 w0_5 w0_6) else (bfX6_passNumber_39 q_faultKind q_faultPlace q_token q_start q_stop b_length fbt p1 p2 o2 (1 : Int32) o1.1 o1.2 w0_4 w0_5 w0_6))) (fX6_valueHere w0_5 w0_6 b_length fbt)) (fX6_expect w0_2 w0_3 w0_5 s0 (1 : Int32))
noncomputable def fX6_passNumber (q_faultKind : Int32) (q_faultPlace : Int32) (q_token : Int32) (q_start : Int32) (q_stop : Int32) (b_length : Int32) (fbt : Nat → Int32) (p1 : Int32) (p2 : Int32) : Int32 × Int32 × Int32 × Int32 × Int32 × Int32 := if q_token = (3 : Int32) then (bfX6_passNumber_14 q_faultKind q_faultPlace q_token q_start q_stop b_length fbt p1 p2 (1 : Int32) q_faultKind q_faultPlace q_token q_start q_stop) else (bfX6_passNumber_14 q_faultKind q_faultPlace q_token q_start q_stop b_length fbt p1 p2 (0 : Int32) q_faultKind q_faultPlace q_token q_start q_stop)
abbrev pb_sX6_passNumber (dC : Nat → ClassId) (dI : Nat → Nat → Nat) (A9 : Nat → Prop) (h0 : Nat) (tp : Nat) (bt : Nat) (dr : Nat) (q_faultKind : Int32) (q_faultPlace : Int32) (q_token : Int32) (q_start : Int32) (q_stop : Int32) (b_length : Int32) (kbt : ClassId) (fbt : Nat → Int32) (p1 : Int32) (p2 : Int32) (r : Int32) (w0_2 : Int32) (w0_3 : Int32) (w0_4 : Int32) (w0_5 : Int32) (w0_6 : Int32) (t : State) : Prop := gi w0_2 0 3 ∧ gi w0_5 0 1600 ∧ gi w0_6 0 1600 ∧ q_faultKind.toInt ≤ w0_2.toInt ∧ (w0_2.toInt ≠ 0 ∨ (p1.toInt ≤ r.toInt ∧ r.toInt ≤ p2.toInt)) ∧ (r, w0_2, w0_3, w0_4, w0_5, w0_6) = fX6_passNumber q_faultKind q_faultPlace q_token q_start q_stop b_length fbt p1 p2 ∧ va_P (dC, dI) vwCl [(h0, .inr (6, [.ref tp, .ref dr, .int w0_2, .int w0_3, .int w0_4, .int w0_5, .int w0_6])), (tp, .inr (10, [.ref bt, .int b_length])), (bt, .inl (kbt, 1600, .inl fbt))] t.heap ∧ va_D A9 [(h0, .inr (6, [.ref tp, .ref dr, .int w0_2, .int w0_3, .int w0_4, .int w0_5, .int w0_6])), (tp, .inr (10, [.ref bt, .int b_length])), (bt, .inl (kbt, 1600, .inl fbt))]
set_option maxHeartbeats 4000000 in
set_option maxRecDepth 100000 in
theorem sX6_passNumber (l : Launch) (dC : Nat → ClassId) (dI : Nat → Nat → Nat) (sz : Nat) (h0 : Nat) (tp : Nat) (bt : Nat) (dr : Nat) (q_faultKind : Int32) (q_faultPlace : Int32) (q_token : Int32) (q_start : Int32) (q_stop : Int32) (b_length : Int32) (kbt : ClassId) (fbt : Nat → Int32) (p1 : Int32) (p2 : Int32) (gq_faultKind : gi q_faultKind 0 3) (gq_start : gi q_start 0 1600) (gq_stop : gi q_stop 0 1600) (gb_length : gi b_length 0 1600) : Met l yX6_passNumber (.code yX6_passNumber cX6_passNumber 4 (some .int) :: wsGA) ({ frames := 2, cells := 0, slots := 0, locals := 44 }) (va_Pc [.ref h0, .int p1, .int p2] (fun U => U.heap.size = sz ∧ va_P (dC, dI) vwCl [(h0, .inr (6, [.ref tp, .ref dr, .int q_faultKind, .int q_faultPlace, .int q_token, .int q_start, .int q_stop])), (tp, .inr (10, [.ref bt, .int b_length])), (bt, .inl (kbt, 1600, .inl fbt))] U.heap ∧ va_K (dC, dI) vwCl [(kbt, .byte)] U ∧ va_D (fun _ => True) [(h0, .inr (6, [.ref tp, .ref dr, .int q_faultKind, .int q_faultPlace, .int q_token, .int q_start, .int q_stop])), (tp, .inr (10, [.ref bt, .int b_length])), (bt, .inl (kbt, 1600, .inl fbt))] ∧ nzA U)) (va_Qi (fun (r : Int32) (u : Int32) => r = u ∧ gi r (-2147483648) 2147483647) (fun r t => ∃ (w0_2 : Int32) (w0_3 : Int32) (w0_4 : Int32) (w0_5 : Int32) (w0_6 : Int32), pb_sX6_passNumber dC dI (va_A [(h0, .inr (6, [.ref tp, .ref dr, .int q_faultKind, .int q_faultPlace, .int q_token, .int q_start, .int q_stop])), (tp, .inr (10, [.ref bt, .int b_length])), (bt, .inl (kbt, 1600, .inl fbt))] sz) h0 tp bt dr q_faultKind q_faultPlace q_token q_start q_stop b_length kbt fbt p1 p2 r w0_2 w0_3 w0_4 w0_5 w0_6 t) (va_A [(h0, .inr (6, [.ref tp, .ref dr, .int q_faultKind, .int q_faultPlace, .int q_token, .int q_start, .int q_stop])), (tp, .inr (10, [.ref bt, .int b_length])), (bt, .inl (kbt, 1600, .inl fbt))] sz)) 0 0 (va_A [(h0, .inr (6, [.ref tp, .ref dr, .int q_faultKind, .int q_faultPlace, .int q_token, .int q_start, .int q_stop])), (tp, .inr (10, [.ref bt, .int b_length])), (bt, .inl (kbt, 1600, .inl fbt))] sz) := by
  refine Met.ofW (cc := cX6_passNumber) (maxL := 4) (ret := (some .int)) (by decide) rfl ?_
  intro p e s m args below meth c s₁ B hml hv
  obtain ⟨rfl, hsz, hP, hK, hD0, hz⟩ := hv
  have hx := B.exec
  have hb := B.bytes
  have hr := B.returns
  have hts := atoms_spec (ws := (.code yX6_passNumber cX6_passNumber 4 (some .int) :: wsGA)) B.pre
  have hown : s.vm.findClass RX6 = some m.cls := findClass_of_methodNamed B.named
  have hlocks := B.notSynchronized
  subst hsz
  have hD := hD0.self (sz := s.heap.size)
  generalize hAe : va_A [(h0, .inr (6, [.ref tp, .ref dr, .int q_faultKind, .int q_faultPlace, .int q_token, .int q_start, .int q_stop])), (tp, .inr (10, [.ref bt, .int b_length])), (bt, .inl (kbt, 1600, .inl fbt))] s.heap.size = A at hD ⊢
  have hA : ∀ q : Nat, s.heap.size ≤ q → A q := fun q h => by rw [← hAe]; exact Or.inr h
  have hS : va_S A s.heap s.heap [] := va_S.rf
  have hl := lv_entry ([.ref h0, .int p1, .int p2]) (n := 4) (Nat.le_of_ble_eq_true rfl)
  rw [lg_entry_eq]
  generalize (lg_sl ([.ref h0, .int p1, .int p2]) ++ List.replicate (4 - (lg_sl ([.ref h0, .int p1, .int p2])).length) Slot.unset).toArray = ls at hl ⊢
  have hl : lv_has ls 4 [(0, .ref h0), (1, .int p1), (2, .int p2)] := hl
  obtain ⟨RES, hF⟩ : ∃ R9, fX6_passNumber q_faultKind q_faultPlace q_token q_start q_stop b_length fbt p1 p2 = R9 := ⟨_, rfl⟩
  have hR9 := hF
  refine lv_aload_n hx hb (dk_at dkX6_passNumber 0 rfl) rfl (lv_at hl 0 rfl) ?_
  refine lv_aload_n hx hb (dk_at dkX6_passNumber 1 rfl) rfl (lv_at hl 0 rfl) ?_
  refine va_get (D := (dC, dI)) (ci := 6) (v := .int q_token) (C := RX6) (T := TX6) (N := 7) hx hb hts (fun w h => List.mem_cons_of_mem _ (jnGA_X6 w h)) hown hK hP 0 rfl rfl 4 (by decide) (hts _ (List.mem_cons_of_mem _ mGA_57)) (fun _ h9 => h9) rfl (dk_at dkX6_passNumber 2 rfl) ?_
  refine lv_iconst (v := 3) hx hb (dk_at dkX6_passNumber 3 rfl) (by decide) ?_
  refine lv_icmp_ne (tgt := 13) hx hb (dk_at dkX6_passNumber 4 rfl) (by decide) (fun c_171 => ?_) (fun c_171 => ?_)
  · have hF := gf_neg c_171 hF
    have hc_172 : q_token.toInt ≠ 3 := fun h9 => c_171 (Int32.toInt_inj.mp (by rw [show (3 : Int32).toInt = 3 from by decide]; exact h9))
    refine lv_iconst (v := 0) hx hb (dk_at dkX6_passNumber 7 rfl) (by decide) ?_
    refine lv_iconst (v := 1) hx hb (dk_at dkX6_passNumber 8 rfl) (by decide) ?_
    obtain ⟨hPc, hDc, hFc⟩ := gz_cut (wc := [(h0, .inr (6, [.ref tp, .ref dr, .int q_faultKind, .int q_faultPlace, .int q_token, .int q_start, .int q_stop]))]) hP hD hS hA [0] (by decide) rfl
    have hKc := hK.sub (tys' := []) [] rfl
    refine va_callv (va_runV (As := [.int 0, .int 1]) (rest := []) ⟨hx, hb, hml, hown, hts⟩ (sX6_expect l dC dI s.heap.size h0 tp dr q_faultKind q_faultPlace q_token q_start q_stop 0 1 gq_faultKind gq_start gq_stop (gi_w (gi_c 0 0 (by decide)) (by decide)) (gi_w (gi_c 1 1 (by decide)) (by decide))) (cwV 2 hts (gz_gV mGA_250 mGA_251 mGA_252 mGA_9 mGA_253 goodGA) rfl rfl rfl hdV_X6_expect_X6_2 ⟨Nat.le_of_ble_eq_true rfl, Nat.le_of_ble_eq_true rfl⟩) ⟨bl_I (bl_a bl_sz (bl_a bl_P (bl_a bl_K (bl_a bl_c bl_nz)))), va_recv hKc hPc (ci := 6) (q0 := 0) rfl rfl, fun U hU hW => ⟨rfl, by rw [hU], by rw [hU]; exact hPc, va_K.moved hW.alike hKc, hDc.weaken (fun _ _ _ _ => trivial), nzA_warm hW hz⟩⟩ rfl rfl hl.1 rfl (lv_room (Nat.le_of_ble_eq_true rfl)) (dk_at dkX6_passNumber 9 rfl) ⟨Nat.zero_le _, Nat.zero_le _⟩) hS (fun q _ h => hFc q h) hFc (fun u t H1 locs ht hvm hw hB hz1 hk1 hS => ?_)
    clear hz1
    obtain ⟨y_174, y_175, hB⟩ := hB
    obtain ⟨gy_174, hpr0_r_173, hpr1_r_173, hE, hP1, hD1⟩ := hB
    rw [ht] at hP1
    obtain ⟨hP, hD⟩ := gz_back hP hD hk1 hFc hP1 hD1 [0] rfl rfl
    have hpr0_r_173 : Hid (q_faultKind.toInt ≤ y_174.toInt) := hpr0_r_173
    have hpr1_r_173 : Hid (((0 : Int) = 1 ∨ 1 ≤ y_174.toInt)) := by have h9 : ((0 : Int32).toInt = 1 ∨ 1 ≤ y_174.toInt) := hpr1_r_173; rw [show (0 : Int32).toInt = 0 from by decide] at h9; exact h9
    have hf_176 : 1 ≤ y_174.toInt := Hid.resL hpr1_r_173 (by omega)
    have g_177 : gi y_174 1 3 := ⟨by omega, gy_174.2⟩
    obtain ⟨hP, hD⟩ := gz_both (w := [(h0, .inr (6, [.ref tp, .ref dr, .int y_174, .int y_175, .int q_token, .int q_start, .int q_stop])), (tp, .inr (10, [.ref bt, .int b_length])), (bt, .inl (kbt, 1600, .inl fbt))]) hP hD
    have hF := gf_call (a := (y_174, y_175)) hE hF
    generalize H1 = H at hP hS ⊢
    refine lv_aload_n hx hb (dk_at dkX6_passNumber 10 rfl) rfl (lv_at hl 0 rfl) ?_
    refine va_calli (va_runV (As := []) (rest := []) ⟨hx, hb, hml, hown, hts⟩ (sX6_valueHere l dC dI h0 tp bt dr y_174 y_175 q_token q_start q_stop b_length kbt fbt (gi_w g_177 (by decide)) gq_start gq_stop gb_length) (cwV 0 hts (gz_gV mGA_262 mGA_263 mGA_264 mGA_9 mGA_265 goodGA) rfl rfl rfl hdV_X6_valueHere_X6_0 ⟨Nat.le_of_ble_eq_true rfl, Nat.le_of_ble_eq_true rfl⟩) ⟨bl_I (bl_a bl_P (bl_a bl_K bl_nz)), va_recv hK hP (ci := 6) (q0 := 0) rfl rfl, fun U hU hW => ⟨rfl, by rw [hU]; exact hP, va_K.moved hW.alike hK, nzA_warm hW hz⟩⟩ rfl rfl hl.1 rfl (lv_room (Nat.le_of_ble_eq_true rfl)) (dk_at dkX6_passNumber 11 rfl) ⟨Nat.zero_le _, Nat.zero_le _⟩) hS (fun q _ h => h.elim) (fun q h => h.elim) (fun r_178 u t H1 locs ht hvm hw hB hz1 hk1 hS => ?_)
    clear hz1
    obtain ⟨hw, hE⟩ := hw
    have hP := gz_keep hP hk1
    have hF := gf_call (a := r_178) hE hF
    generalize H1 = H at hP hS ⊢
    refine lv_istore_n (lv' := [(3, .int r_178), (0, .ref h0), (1, .int p1), (2, .int p2)]) hx hb (dk_at dkX6_passNumber 12 rfl) rfl hl (by decide) rfl (fun ls hl => ?_)
    refine lv_aload_n hx hb (dk_at dkX6_passNumber 13 rfl) rfl (lv_at hl 1 rfl) ?_
    refine lv_iload_n hx hb (dk_at dkX6_passNumber 14 rfl) rfl (lv_at hl 0 rfl) ?_
    refine lv_iload_n hx hb (dk_at dkX6_passNumber 15 rfl) rfl (lv_at hl 2 rfl) ?_
    refine lv_icmp_lt (tgt := 38) hx hb (dk_at dkX6_passNumber 16 rfl) (by decide) (fun c_179 => ?_) (fun c_179 => ?_)
    · have hF := gf_pos c_179 hF
      have hc_180 : r_178.toInt < p1.toInt := by have h9 := Int32.lt_iff_toInt_lt.mp c_179; exact h9
      have g_181 : gi r_178 (-2147483648) 2147483646 := gi_lt_l c_179 (gi_any r_178) (gi_any p1) (by decide)
      have g_182 : gi p1 (-2147483647) 2147483647 := gi_lt_r c_179 (gi_any r_178) (gi_any p1) (by decide)
      refine lv_iconst (v := 0) hx hb (dk_at dkX6_passNumber 22 rfl) (by decide) ?_
      refine lv_iconst (v := 2) hx hb (dk_at dkX6_passNumber 23 rfl) (by decide) ?_
      obtain ⟨hPc, hDc, hFc⟩ := gz_cut (wc := [(h0, .inr (6, [.ref tp, .ref dr, .int y_174, .int y_175, .int q_token, .int q_start, .int q_stop]))]) hP hD hS hA [0] (by decide) rfl
      have hKc := hK.sub (tys' := []) [] rfl
      refine va_callv (va_runV (As := [.int 0, .int 2]) (rest := []) ⟨hx, hb, hml, hown, hts⟩ (sX6_expect l dC dI H.size h0 tp dr y_174 y_175 q_token q_start q_stop 0 2 (gi_w g_177 (by decide)) gq_start gq_stop (gi_w (gi_c 0 0 (by decide)) (by decide)) (gi_w (gi_c 2 2 (by decide)) (by decide))) (cwV 2 hts (gz_gV mGA_250 mGA_251 mGA_252 mGA_9 mGA_253 goodGA) rfl rfl rfl hdV_X6_expect_X6_2 ⟨Nat.le_of_ble_eq_true rfl, Nat.le_of_ble_eq_true rfl⟩) ⟨bl_I (bl_a bl_sz (bl_a bl_P (bl_a bl_K (bl_a bl_c bl_nz)))), va_recv hKc hPc (ci := 6) (q0 := 0) rfl rfl, fun U hU hW => ⟨rfl, by rw [hU], by rw [hU]; exact hPc, va_K.moved hW.alike hKc, hDc.weaken (fun _ _ _ _ => trivial), nzA_warm hW hz⟩⟩ rfl rfl hl.1 rfl (lv_room (Nat.le_of_ble_eq_true rfl)) (dk_at dkX6_passNumber 24 rfl) ⟨Nat.zero_le _, Nat.zero_le _⟩) hS (fun q _ h => hFc q h) hFc (fun u t H1 locs ht hvm hw hB hz1 hk1 hS => ?_)
      clear hz1
      obtain ⟨y_184, y_185, hB⟩ := hB
      obtain ⟨gy_184, hpr0_r_183, hpr1_r_183, hE, hP1, hD1⟩ := hB
      rw [ht] at hP1
      obtain ⟨hP, hD⟩ := gz_back hP hD hk1 hFc hP1 hD1 [0] rfl rfl
      have hpr0_r_183 : Hid (y_174.toInt ≤ y_184.toInt) := hpr0_r_183
      have g_186 : gi y_184 1 3 := gi_relL (Hid.un hpr0_r_183) g_177 gy_184
      have hpr1_r_183 : Hid (((0 : Int) = 1 ∨ 1 ≤ y_184.toInt)) := by have h9 : ((0 : Int32).toInt = 1 ∨ 1 ≤ y_184.toInt) := hpr1_r_183; rw [show (0 : Int32).toInt = 0 from by decide] at h9; exact h9
      have hf_187 : 1 ≤ y_184.toInt := Hid.resL hpr1_r_183 (by omega)
      obtain ⟨hP, hD⟩ := gz_both (w := [(h0, .inr (6, [.ref tp, .ref dr, .int y_184, .int y_185, .int q_token, .int q_start, .int q_stop])), (tp, .inr (10, [.ref bt, .int b_length])), (bt, .inl (kbt, 1600, .inl fbt))]) hP hD
      have hF := gf_call (a := (y_184, y_185)) hE hF
      generalize H1 = H at hP hS ⊢
      refine lv_aload_n hx hb (dk_at dkX6_passNumber 25 rfl) rfl (lv_at hl 1 rfl) ?_
      have hFc := gz_fullF hD hS hA
      refine va_callv (va_runV (As := []) (rest := []) ⟨hx, hb, hml, hown, hts⟩ (sX6_step l dC dI H.size h0 tp bt dr y_184 y_185 q_token q_start q_stop b_length kbt fbt (gi_w g_186 (by decide)) gq_start gq_stop gb_length) (cwV 0 hts (gz_gV mGA_162 mGA_163 mGA_164 mGA_9 mGA_165 goodGA) rfl rfl rfl hdV_X6_step_X6_0 ⟨Nat.le_of_ble_eq_true rfl, Nat.le_of_ble_eq_true rfl⟩) ⟨bl_I (bl_a bl_sz (bl_a bl_P (bl_a bl_K (bl_a bl_c bl_nz)))), va_recv hK hP (ci := 6) (q0 := 0) rfl rfl, fun U hU hW => ⟨rfl, by rw [hU], by rw [hU]; exact hP, va_K.moved hW.alike hK, hD.weaken (fun _ _ _ _ => trivial), nzA_warm hW hz⟩⟩ rfl rfl hl.1 rfl (lv_room (Nat.le_of_ble_eq_true rfl)) (dk_at dkX6_passNumber 26 rfl) ⟨Nat.zero_le _, Nat.zero_le _⟩) hS (fun q _ h => hFc q h) hFc (fun u t H1 locs ht hvm hw hB hz1 hk1 hS => ?_)
      clear hz1
      obtain ⟨y_189, y_190, y_191, hB⟩ := hB
      obtain ⟨gy_190, gy_191, hE, hP1, hD1⟩ := hB
      rw [ht] at hP1
      have hD := gz_fullD hFc hD1
      have hP := hP1
      have hF := gf_call (a := (y_189, y_190, y_191)) hE hF
      generalize H1 = H at hP hS ⊢
      refine lv_iload_n hx hb (dk_at dkX6_passNumber 27 rfl) rfl (lv_at hl 0 rfl) ?_
      exact W.iret (v := r_178) hx hb hr (fun t ht hW => ⟨⟨r_178, r_178, rfl, ⟨rfl, (gi_any r_178)⟩, y_184, y_185, y_189, y_190, y_191, (gi_w g_186 (by decide)), gy_190, gy_191, (show q_faultKind.toInt ≤ y_184.toInt from (Int.le_trans (Hid.un hpr0_r_173) (Hid.un hpr0_r_183))), (show (y_184.toInt ≠ 0 ∨ (p1.toInt ≤ r_178.toInt ∧ r_178.toInt ≤ p2.toInt)) from (Or.inl (gz_isnc g_186 (by decide)))), hF.trans hR9.symm, by rw [ht]; exact hP, hD⟩, hS.F ht⟩) hS.2.2 (dk_at dkX6_passNumber 28 rfl)
    · have hF := gf_neg c_179 hF
      have hc_192 : p1.toInt ≤ r_178.toInt := by have h9 := Int32.le_iff_toInt_le.mp (Int32.not_lt.mp c_179); exact h9
      refine lv_iload_n hx hb (dk_at dkX6_passNumber 17 rfl) rfl (lv_at hl 0 rfl) ?_
      refine lv_iload_n hx hb (dk_at dkX6_passNumber 18 rfl) rfl (lv_at hl 3 rfl) ?_
      refine lv_icmp_gt (tgt := 38) hx hb (dk_at dkX6_passNumber 19 rfl) (by decide) (fun c_193 => ?_) (fun c_193 => ?_)
      · have hF := gf_pos c_193 hF
        have hc_194 : p2.toInt < r_178.toInt := by have h9 := Int32.lt_iff_toInt_lt.mp c_193; exact h9
        have g_195 : gi p2 (-2147483648) 2147483646 := gi_lt_l c_193 (gi_any p2) (gi_any r_178) (by decide)
        have g_196 : gi r_178 (-2147483647) 2147483647 := gi_lt_r c_193 (gi_any p2) (gi_any r_178) (by decide)
        refine lv_iconst (v := 0) hx hb (dk_at dkX6_passNumber 22 rfl) (by decide) ?_
        refine lv_iconst (v := 2) hx hb (dk_at dkX6_passNumber 23 rfl) (by decide) ?_
        obtain ⟨hPc, hDc, hFc⟩ := gz_cut (wc := [(h0, .inr (6, [.ref tp, .ref dr, .int y_174, .int y_175, .int q_token, .int q_start, .int q_stop]))]) hP hD hS hA [0] (by decide) rfl
        have hKc := hK.sub (tys' := []) [] rfl
        refine va_callv (va_runV (As := [.int 0, .int 2]) (rest := []) ⟨hx, hb, hml, hown, hts⟩ (sX6_expect l dC dI H.size h0 tp dr y_174 y_175 q_token q_start q_stop 0 2 (gi_w g_177 (by decide)) gq_start gq_stop (gi_w (gi_c 0 0 (by decide)) (by decide)) (gi_w (gi_c 2 2 (by decide)) (by decide))) (cwV 2 hts (gz_gV mGA_250 mGA_251 mGA_252 mGA_9 mGA_253 goodGA) rfl rfl rfl hdV_X6_expect_X6_2 ⟨Nat.le_of_ble_eq_true rfl, Nat.le_of_ble_eq_true rfl⟩) ⟨bl_I (bl_a bl_sz (bl_a bl_P (bl_a bl_K (bl_a bl_c bl_nz)))), va_recv hKc hPc (ci := 6) (q0 := 0) rfl rfl, fun U hU hW => ⟨rfl, by rw [hU], by rw [hU]; exact hPc, va_K.moved hW.alike hKc, hDc.weaken (fun _ _ _ _ => trivial), nzA_warm hW hz⟩⟩ rfl rfl hl.1 rfl (lv_room (Nat.le_of_ble_eq_true rfl)) (dk_at dkX6_passNumber 24 rfl) ⟨Nat.zero_le _, Nat.zero_le _⟩) hS (fun q _ h => hFc q h) hFc (fun u t H1 locs ht hvm hw hB hz1 hk1 hS => ?_)
        clear hz1
        obtain ⟨y_198, y_199, hB⟩ := hB
        obtain ⟨gy_198, hpr0_r_197, hpr1_r_197, hE, hP1, hD1⟩ := hB
        rw [ht] at hP1
        obtain ⟨hP, hD⟩ := gz_back hP hD hk1 hFc hP1 hD1 [0] rfl rfl
        have hpr0_r_197 : Hid (y_174.toInt ≤ y_198.toInt) := hpr0_r_197
        have g_200 : gi y_198 1 3 := gi_relL (Hid.un hpr0_r_197) g_177 gy_198
        have hpr1_r_197 : Hid (((0 : Int) = 1 ∨ 1 ≤ y_198.toInt)) := by have h9 : ((0 : Int32).toInt = 1 ∨ 1 ≤ y_198.toInt) := hpr1_r_197; rw [show (0 : Int32).toInt = 0 from by decide] at h9; exact h9
        have hf_201 : 1 ≤ y_198.toInt := Hid.resL hpr1_r_197 (by omega)
        obtain ⟨hP, hD⟩ := gz_both (w := [(h0, .inr (6, [.ref tp, .ref dr, .int y_198, .int y_199, .int q_token, .int q_start, .int q_stop])), (tp, .inr (10, [.ref bt, .int b_length])), (bt, .inl (kbt, 1600, .inl fbt))]) hP hD
        have hF := gf_call (a := (y_198, y_199)) hE hF
        generalize H1 = H at hP hS ⊢
        refine lv_aload_n hx hb (dk_at dkX6_passNumber 25 rfl) rfl (lv_at hl 1 rfl) ?_
        have hFc := gz_fullF hD hS hA
        refine va_callv (va_runV (As := []) (rest := []) ⟨hx, hb, hml, hown, hts⟩ (sX6_step l dC dI H.size h0 tp bt dr y_198 y_199 q_token q_start q_stop b_length kbt fbt (gi_w g_200 (by decide)) gq_start gq_stop gb_length) (cwV 0 hts (gz_gV mGA_162 mGA_163 mGA_164 mGA_9 mGA_165 goodGA) rfl rfl rfl hdV_X6_step_X6_0 ⟨Nat.le_of_ble_eq_true rfl, Nat.le_of_ble_eq_true rfl⟩) ⟨bl_I (bl_a bl_sz (bl_a bl_P (bl_a bl_K (bl_a bl_c bl_nz)))), va_recv hK hP (ci := 6) (q0 := 0) rfl rfl, fun U hU hW => ⟨rfl, by rw [hU], by rw [hU]; exact hP, va_K.moved hW.alike hK, hD.weaken (fun _ _ _ _ => trivial), nzA_warm hW hz⟩⟩ rfl rfl hl.1 rfl (lv_room (Nat.le_of_ble_eq_true rfl)) (dk_at dkX6_passNumber 26 rfl) ⟨Nat.zero_le _, Nat.zero_le _⟩) hS (fun q _ h => hFc q h) hFc (fun u t H1 locs ht hvm hw hB hz1 hk1 hS => ?_)
        clear hz1
        obtain ⟨y_203, y_204, y_205, hB⟩ := hB
        obtain ⟨gy_204, gy_205, hE, hP1, hD1⟩ := hB
        rw [ht] at hP1
        have hD := gz_fullD hFc hD1
        have hP := hP1
        have hF := gf_call (a := (y_203, y_204, y_205)) hE hF
        generalize H1 = H at hP hS ⊢
        refine lv_iload_n hx hb (dk_at dkX6_passNumber 27 rfl) rfl (lv_at hl 0 rfl) ?_
        exact W.iret (v := r_178) hx hb hr (fun t ht hW => ⟨⟨r_178, r_178, rfl, ⟨rfl, (gi_any r_178)⟩, y_198, y_199, y_203, y_204, y_205, (gi_w g_200 (by decide)), gy_204, gy_205, (show q_faultKind.toInt ≤ y_198.toInt from (Int.le_trans (Hid.un hpr0_r_173) (Hid.un hpr0_r_197))), (show (y_198.toInt ≠ 0 ∨ (p1.toInt ≤ r_178.toInt ∧ r_178.toInt ≤ p2.toInt)) from (Or.inl (gz_isnc g_200 (by decide)))), hF.trans hR9.symm, by rw [ht]; exact hP, hD⟩, hS.F ht⟩) hS.2.2 (dk_at dkX6_passNumber 28 rfl)
      · have hF := gf_neg c_193 hF
        have hc_206 : r_178.toInt ≤ p2.toInt := by have h9 := Int32.le_iff_toInt_le.mp (Int32.not_lt.mp c_193); exact h9
        refine lv_iconst (v := 1) hx hb (dk_at dkX6_passNumber 20 rfl) (by decide) ?_
        refine lv_goto (tgt := 39) hx hb (dk_at dkX6_passNumber 21 rfl) (by decide) ?_
        refine lv_iconst (v := 2) hx hb (dk_at dkX6_passNumber 23 rfl) (by decide) ?_
        obtain ⟨hPc, hDc, hFc⟩ := gz_cut (wc := [(h0, .inr (6, [.ref tp, .ref dr, .int y_174, .int y_175, .int q_token, .int q_start, .int q_stop]))]) hP hD hS hA [0] (by decide) rfl
        have hKc := hK.sub (tys' := []) [] rfl
        refine va_callv (va_runV (As := [.int 1, .int 2]) (rest := []) ⟨hx, hb, hml, hown, hts⟩ (sX6_expect l dC dI H.size h0 tp dr y_174 y_175 q_token q_start q_stop 1 2 (gi_w g_177 (by decide)) gq_start gq_stop (gi_w (gi_c 1 1 (by decide)) (by decide)) (gi_w (gi_c 2 2 (by decide)) (by decide))) (cwV 2 hts (gz_gV mGA_250 mGA_251 mGA_252 mGA_9 mGA_253 goodGA) rfl rfl rfl hdV_X6_expect_X6_2 ⟨Nat.le_of_ble_eq_true rfl, Nat.le_of_ble_eq_true rfl⟩) ⟨bl_I (bl_a bl_sz (bl_a bl_P (bl_a bl_K (bl_a bl_c bl_nz)))), va_recv hKc hPc (ci := 6) (q0 := 0) rfl rfl, fun U hU hW => ⟨rfl, by rw [hU], by rw [hU]; exact hPc, va_K.moved hW.alike hKc, hDc.weaken (fun _ _ _ _ => trivial), nzA_warm hW hz⟩⟩ rfl rfl hl.1 rfl (lv_room (Nat.le_of_ble_eq_true rfl)) (dk_at dkX6_passNumber 24 rfl) ⟨Nat.zero_le _, Nat.zero_le _⟩) hS (fun q _ h => hFc q h) hFc (fun u t H1 locs ht hvm hw hB hz1 hk1 hS => ?_)
        clear hz1
        obtain ⟨y_208, y_209, hB⟩ := hB
        obtain ⟨gy_208, hpr0_r_207, hpr1_r_207, hE, hP1, hD1⟩ := hB
        rw [ht] at hP1
        obtain ⟨hP, hD⟩ := gz_back hP hD hk1 hFc hP1 hD1 [0] rfl rfl
        have hpr0_r_207 : Hid (y_174.toInt ≤ y_208.toInt) := hpr0_r_207
        have g_210 : gi y_208 1 3 := gi_relL (Hid.un hpr0_r_207) g_177 gy_208
        have hpr1_r_207 : Hid (((1 : Int) = 1 ∨ 1 ≤ y_208.toInt)) := by have h9 : ((1 : Int32).toInt = 1 ∨ 1 ≤ y_208.toInt) := hpr1_r_207; rw [show (1 : Int32).toInt = 1 from by decide] at h9; exact h9
        obtain ⟨hP, hD⟩ := gz_both (w := [(h0, .inr (6, [.ref tp, .ref dr, .int y_208, .int y_209, .int q_token, .int q_start, .int q_stop])), (tp, .inr (10, [.ref bt, .int b_length])), (bt, .inl (kbt, 1600, .inl fbt))]) hP hD
        have hF := gf_call (a := (y_208, y_209)) hE hF
        generalize H1 = H at hP hS ⊢
        refine lv_aload_n hx hb (dk_at dkX6_passNumber 25 rfl) rfl (lv_at hl 1 rfl) ?_
        have hFc := gz_fullF hD hS hA
        refine va_callv (va_runV (As := []) (rest := []) ⟨hx, hb, hml, hown, hts⟩ (sX6_step l dC dI H.size h0 tp bt dr y_208 y_209 q_token q_start q_stop b_length kbt fbt (gi_w g_210 (by decide)) gq_start gq_stop gb_length) (cwV 0 hts (gz_gV mGA_162 mGA_163 mGA_164 mGA_9 mGA_165 goodGA) rfl rfl rfl hdV_X6_step_X6_0 ⟨Nat.le_of_ble_eq_true rfl, Nat.le_of_ble_eq_true rfl⟩) ⟨bl_I (bl_a bl_sz (bl_a bl_P (bl_a bl_K (bl_a bl_c bl_nz)))), va_recv hK hP (ci := 6) (q0 := 0) rfl rfl, fun U hU hW => ⟨rfl, by rw [hU], by rw [hU]; exact hP, va_K.moved hW.alike hK, hD.weaken (fun _ _ _ _ => trivial), nzA_warm hW hz⟩⟩ rfl rfl hl.1 rfl (lv_room (Nat.le_of_ble_eq_true rfl)) (dk_at dkX6_passNumber 26 rfl) ⟨Nat.zero_le _, Nat.zero_le _⟩) hS (fun q _ h => hFc q h) hFc (fun u t H1 locs ht hvm hw hB hz1 hk1 hS => ?_)
        clear hz1
        obtain ⟨y_212, y_213, y_214, hB⟩ := hB
        obtain ⟨gy_213, gy_214, hE, hP1, hD1⟩ := hB
        rw [ht] at hP1
        have hD := gz_fullD hFc hD1
        have hP := hP1
        have hF := gf_call (a := (y_212, y_213, y_214)) hE hF
        generalize H1 = H at hP hS ⊢
        refine lv_iload_n hx hb (dk_at dkX6_passNumber 27 rfl) rfl (lv_at hl 0 rfl) ?_
        exact W.iret (v := r_178) hx hb hr (fun t ht hW => ⟨⟨r_178, r_178, rfl, ⟨rfl, (gi_any r_178)⟩, y_208, y_209, y_212, y_213, y_214, (gi_w g_210 (by decide)), gy_213, gy_214, (show q_faultKind.toInt ≤ y_208.toInt from (Int.le_trans (Hid.un hpr0_r_173) (Hid.un hpr0_r_207))), (show (y_208.toInt ≠ 0 ∨ (p1.toInt ≤ r_178.toInt ∧ r_178.toInt ≤ p2.toInt)) from (Or.inl (gz_isnc g_210 (by decide)))), hF.trans hR9.symm, by rw [ht]; exact hP, hD⟩, hS.F ht⟩) hS.2.2 (dk_at dkX6_passNumber 28 rfl)
  · have hF := gf_pos c_171 hF
    have hc_215 : q_token.toInt = 3 := by have h9 := congrArg Int32.toInt c_171; rw [show (3 : Int32).toInt = 3 from by decide] at h9; exact h9
    have g_216 : gi q_token 3 3 := gi_eq c_171 (gi_c 3 3 (by decide))
    refine lv_iconst (v := 1) hx hb (dk_at dkX6_passNumber 5 rfl) (by decide) ?_
    refine lv_goto (tgt := 14) hx hb (dk_at dkX6_passNumber 6 rfl) (by decide) ?_
    refine lv_iconst (v := 1) hx hb (dk_at dkX6_passNumber 8 rfl) (by decide) ?_
    obtain ⟨hPc, hDc, hFc⟩ := gz_cut (wc := [(h0, .inr (6, [.ref tp, .ref dr, .int q_faultKind, .int q_faultPlace, .int q_token, .int q_start, .int q_stop]))]) hP hD hS hA [0] (by decide) rfl
    have hKc := hK.sub (tys' := []) [] rfl
    refine va_callv (va_runV (As := [.int 1, .int 1]) (rest := []) ⟨hx, hb, hml, hown, hts⟩ (sX6_expect l dC dI s.heap.size h0 tp dr q_faultKind q_faultPlace q_token q_start q_stop 1 1 gq_faultKind gq_start gq_stop (gi_w (gi_c 1 1 (by decide)) (by decide)) (gi_w (gi_c 1 1 (by decide)) (by decide))) (cwV 2 hts (gz_gV mGA_250 mGA_251 mGA_252 mGA_9 mGA_253 goodGA) rfl rfl rfl hdV_X6_expect_X6_2 ⟨Nat.le_of_ble_eq_true rfl, Nat.le_of_ble_eq_true rfl⟩) ⟨bl_I (bl_a bl_sz (bl_a bl_P (bl_a bl_K (bl_a bl_c bl_nz)))), va_recv hKc hPc (ci := 6) (q0 := 0) rfl rfl, fun U hU hW => ⟨rfl, by rw [hU], by rw [hU]; exact hPc, va_K.moved hW.alike hKc, hDc.weaken (fun _ _ _ _ => trivial), nzA_warm hW hz⟩⟩ rfl rfl hl.1 rfl (lv_room (Nat.le_of_ble_eq_true rfl)) (dk_at dkX6_passNumber 9 rfl) ⟨Nat.zero_le _, Nat.zero_le _⟩) hS (fun q _ h => hFc q h) hFc (fun u t H1 locs ht hvm hw hB hz1 hk1 hS => ?_)
    clear hz1
    obtain ⟨y_218, y_219, hB⟩ := hB
    obtain ⟨gy_218, hpr0_r_217, hpr1_r_217, hE, hP1, hD1⟩ := hB
    rw [ht] at hP1
    obtain ⟨hP, hD⟩ := gz_back hP hD hk1 hFc hP1 hD1 [0] rfl rfl
    have hpr0_r_217 : Hid (q_faultKind.toInt ≤ y_218.toInt) := hpr0_r_217
    have hpr1_r_217 : Hid (((1 : Int) = 1 ∨ 1 ≤ y_218.toInt)) := by have h9 : ((1 : Int32).toInt = 1 ∨ 1 ≤ y_218.toInt) := hpr1_r_217; rw [show (1 : Int32).toInt = 1 from by decide] at h9; exact h9
    obtain ⟨hP, hD⟩ := gz_both (w := [(h0, .inr (6, [.ref tp, .ref dr, .int y_218, .int y_219, .int q_token, .int q_start, .int q_stop])), (tp, .inr (10, [.ref bt, .int b_length])), (bt, .inl (kbt, 1600, .inl fbt))]) hP hD
    have hF := gf_call (a := (y_218, y_219)) hE hF
    generalize H1 = H at hP hS ⊢
    refine lv_aload_n hx hb (dk_at dkX6_passNumber 10 rfl) rfl (lv_at hl 0 rfl) ?_
    refine va_calli (va_runV (As := []) (rest := []) ⟨hx, hb, hml, hown, hts⟩ (sX6_valueHere l dC dI h0 tp bt dr y_218 y_219 q_token q_start q_stop b_length kbt fbt gy_218 gq_start gq_stop gb_length) (cwV 0 hts (gz_gV mGA_262 mGA_263 mGA_264 mGA_9 mGA_265 goodGA) rfl rfl rfl hdV_X6_valueHere_X6_0 ⟨Nat.le_of_ble_eq_true rfl, Nat.le_of_ble_eq_true rfl⟩) ⟨bl_I (bl_a bl_P (bl_a bl_K bl_nz)), va_recv hK hP (ci := 6) (q0 := 0) rfl rfl, fun U hU hW => ⟨rfl, by rw [hU]; exact hP, va_K.moved hW.alike hK, nzA_warm hW hz⟩⟩ rfl rfl hl.1 rfl (lv_room (Nat.le_of_ble_eq_true rfl)) (dk_at dkX6_passNumber 11 rfl) ⟨Nat.zero_le _, Nat.zero_le _⟩) hS (fun q _ h => h.elim) (fun q h => h.elim) (fun r_220 u t H1 locs ht hvm hw hB hz1 hk1 hS => ?_)
    clear hz1
    obtain ⟨hw, hE⟩ := hw
    have hP := gz_keep hP hk1
    have hF := gf_call (a := r_220) hE hF
    generalize H1 = H at hP hS ⊢
    refine lv_istore_n (lv' := [(3, .int r_220), (0, .ref h0), (1, .int p1), (2, .int p2)]) hx hb (dk_at dkX6_passNumber 12 rfl) rfl hl (by decide) rfl (fun ls hl => ?_)
    refine lv_aload_n hx hb (dk_at dkX6_passNumber 13 rfl) rfl (lv_at hl 1 rfl) ?_
    refine lv_iload_n hx hb (dk_at dkX6_passNumber 14 rfl) rfl (lv_at hl 0 rfl) ?_
    refine lv_iload_n hx hb (dk_at dkX6_passNumber 15 rfl) rfl (lv_at hl 2 rfl) ?_
    refine lv_icmp_lt (tgt := 38) hx hb (dk_at dkX6_passNumber 16 rfl) (by decide) (fun c_221 => ?_) (fun c_221 => ?_)
    · have hF := gf_pos c_221 hF
      have hc_222 : r_220.toInt < p1.toInt := by have h9 := Int32.lt_iff_toInt_lt.mp c_221; exact h9
      have g_223 : gi r_220 (-2147483648) 2147483646 := gi_lt_l c_221 (gi_any r_220) (gi_any p1) (by decide)
      have g_224 : gi p1 (-2147483647) 2147483647 := gi_lt_r c_221 (gi_any r_220) (gi_any p1) (by decide)
      refine lv_iconst (v := 0) hx hb (dk_at dkX6_passNumber 22 rfl) (by decide) ?_
      refine lv_iconst (v := 2) hx hb (dk_at dkX6_passNumber 23 rfl) (by decide) ?_
      obtain ⟨hPc, hDc, hFc⟩ := gz_cut (wc := [(h0, .inr (6, [.ref tp, .ref dr, .int y_218, .int y_219, .int q_token, .int q_start, .int q_stop]))]) hP hD hS hA [0] (by decide) rfl
      have hKc := hK.sub (tys' := []) [] rfl
      refine va_callv (va_runV (As := [.int 0, .int 2]) (rest := []) ⟨hx, hb, hml, hown, hts⟩ (sX6_expect l dC dI H.size h0 tp dr y_218 y_219 q_token q_start q_stop 0 2 gy_218 gq_start gq_stop (gi_w (gi_c 0 0 (by decide)) (by decide)) (gi_w (gi_c 2 2 (by decide)) (by decide))) (cwV 2 hts (gz_gV mGA_250 mGA_251 mGA_252 mGA_9 mGA_253 goodGA) rfl rfl rfl hdV_X6_expect_X6_2 ⟨Nat.le_of_ble_eq_true rfl, Nat.le_of_ble_eq_true rfl⟩) ⟨bl_I (bl_a bl_sz (bl_a bl_P (bl_a bl_K (bl_a bl_c bl_nz)))), va_recv hKc hPc (ci := 6) (q0 := 0) rfl rfl, fun U hU hW => ⟨rfl, by rw [hU], by rw [hU]; exact hPc, va_K.moved hW.alike hKc, hDc.weaken (fun _ _ _ _ => trivial), nzA_warm hW hz⟩⟩ rfl rfl hl.1 rfl (lv_room (Nat.le_of_ble_eq_true rfl)) (dk_at dkX6_passNumber 24 rfl) ⟨Nat.zero_le _, Nat.zero_le _⟩) hS (fun q _ h => hFc q h) hFc (fun u t H1 locs ht hvm hw hB hz1 hk1 hS => ?_)
      clear hz1
      obtain ⟨y_226, y_227, hB⟩ := hB
      obtain ⟨gy_226, hpr0_r_225, hpr1_r_225, hE, hP1, hD1⟩ := hB
      rw [ht] at hP1
      obtain ⟨hP, hD⟩ := gz_back hP hD hk1 hFc hP1 hD1 [0] rfl rfl
      have hpr0_r_225 : Hid (y_218.toInt ≤ y_226.toInt) := hpr0_r_225
      have hpr1_r_225 : Hid (((0 : Int) = 1 ∨ 1 ≤ y_226.toInt)) := by have h9 : ((0 : Int32).toInt = 1 ∨ 1 ≤ y_226.toInt) := hpr1_r_225; rw [show (0 : Int32).toInt = 0 from by decide] at h9; exact h9
      have hf_228 : 1 ≤ y_226.toInt := Hid.resL hpr1_r_225 (by omega)
      have g_229 : gi y_226 1 3 := ⟨by omega, gy_226.2⟩
      obtain ⟨hP, hD⟩ := gz_both (w := [(h0, .inr (6, [.ref tp, .ref dr, .int y_226, .int y_227, .int q_token, .int q_start, .int q_stop])), (tp, .inr (10, [.ref bt, .int b_length])), (bt, .inl (kbt, 1600, .inl fbt))]) hP hD
      have hF := gf_call (a := (y_226, y_227)) hE hF
      generalize H1 = H at hP hS ⊢
      refine lv_aload_n hx hb (dk_at dkX6_passNumber 25 rfl) rfl (lv_at hl 1 rfl) ?_
      have hFc := gz_fullF hD hS hA
      refine va_callv (va_runV (As := []) (rest := []) ⟨hx, hb, hml, hown, hts⟩ (sX6_step l dC dI H.size h0 tp bt dr y_226 y_227 q_token q_start q_stop b_length kbt fbt (gi_w g_229 (by decide)) gq_start gq_stop gb_length) (cwV 0 hts (gz_gV mGA_162 mGA_163 mGA_164 mGA_9 mGA_165 goodGA) rfl rfl rfl hdV_X6_step_X6_0 ⟨Nat.le_of_ble_eq_true rfl, Nat.le_of_ble_eq_true rfl⟩) ⟨bl_I (bl_a bl_sz (bl_a bl_P (bl_a bl_K (bl_a bl_c bl_nz)))), va_recv hK hP (ci := 6) (q0 := 0) rfl rfl, fun U hU hW => ⟨rfl, by rw [hU], by rw [hU]; exact hP, va_K.moved hW.alike hK, hD.weaken (fun _ _ _ _ => trivial), nzA_warm hW hz⟩⟩ rfl rfl hl.1 rfl (lv_room (Nat.le_of_ble_eq_true rfl)) (dk_at dkX6_passNumber 26 rfl) ⟨Nat.zero_le _, Nat.zero_le _⟩) hS (fun q _ h => hFc q h) hFc (fun u t H1 locs ht hvm hw hB hz1 hk1 hS => ?_)
      clear hz1
      obtain ⟨y_231, y_232, y_233, hB⟩ := hB
      obtain ⟨gy_232, gy_233, hE, hP1, hD1⟩ := hB
      rw [ht] at hP1
      have hD := gz_fullD hFc hD1
      have hP := hP1
      have hF := gf_call (a := (y_231, y_232, y_233)) hE hF
      generalize H1 = H at hP hS ⊢
      refine lv_iload_n hx hb (dk_at dkX6_passNumber 27 rfl) rfl (lv_at hl 0 rfl) ?_
      exact W.iret (v := r_220) hx hb hr (fun t ht hW => ⟨⟨r_220, r_220, rfl, ⟨rfl, (gi_any r_220)⟩, y_226, y_227, y_231, y_232, y_233, (gi_w g_229 (by decide)), gy_232, gy_233, (show q_faultKind.toInt ≤ y_226.toInt from (Int.le_trans (Hid.un hpr0_r_217) (Hid.un hpr0_r_225))), (show (y_226.toInt ≠ 0 ∨ (p1.toInt ≤ r_220.toInt ∧ r_220.toInt ≤ p2.toInt)) from (Or.inl (gz_isnc g_229 (by decide)))), hF.trans hR9.symm, by rw [ht]; exact hP, hD⟩, hS.F ht⟩) hS.2.2 (dk_at dkX6_passNumber 28 rfl)
    · have hF := gf_neg c_221 hF
      have hc_234 : p1.toInt ≤ r_220.toInt := by have h9 := Int32.le_iff_toInt_le.mp (Int32.not_lt.mp c_221); exact h9
      refine lv_iload_n hx hb (dk_at dkX6_passNumber 17 rfl) rfl (lv_at hl 0 rfl) ?_
      refine lv_iload_n hx hb (dk_at dkX6_passNumber 18 rfl) rfl (lv_at hl 3 rfl) ?_
      refine lv_icmp_gt (tgt := 38) hx hb (dk_at dkX6_passNumber 19 rfl) (by decide) (fun c_235 => ?_) (fun c_235 => ?_)
      · have hF := gf_pos c_235 hF
        have hc_236 : p2.toInt < r_220.toInt := by have h9 := Int32.lt_iff_toInt_lt.mp c_235; exact h9
        have g_237 : gi p2 (-2147483648) 2147483646 := gi_lt_l c_235 (gi_any p2) (gi_any r_220) (by decide)
        have g_238 : gi r_220 (-2147483647) 2147483647 := gi_lt_r c_235 (gi_any p2) (gi_any r_220) (by decide)
        refine lv_iconst (v := 0) hx hb (dk_at dkX6_passNumber 22 rfl) (by decide) ?_
        refine lv_iconst (v := 2) hx hb (dk_at dkX6_passNumber 23 rfl) (by decide) ?_
        obtain ⟨hPc, hDc, hFc⟩ := gz_cut (wc := [(h0, .inr (6, [.ref tp, .ref dr, .int y_218, .int y_219, .int q_token, .int q_start, .int q_stop]))]) hP hD hS hA [0] (by decide) rfl
        have hKc := hK.sub (tys' := []) [] rfl
        refine va_callv (va_runV (As := [.int 0, .int 2]) (rest := []) ⟨hx, hb, hml, hown, hts⟩ (sX6_expect l dC dI H.size h0 tp dr y_218 y_219 q_token q_start q_stop 0 2 gy_218 gq_start gq_stop (gi_w (gi_c 0 0 (by decide)) (by decide)) (gi_w (gi_c 2 2 (by decide)) (by decide))) (cwV 2 hts (gz_gV mGA_250 mGA_251 mGA_252 mGA_9 mGA_253 goodGA) rfl rfl rfl hdV_X6_expect_X6_2 ⟨Nat.le_of_ble_eq_true rfl, Nat.le_of_ble_eq_true rfl⟩) ⟨bl_I (bl_a bl_sz (bl_a bl_P (bl_a bl_K (bl_a bl_c bl_nz)))), va_recv hKc hPc (ci := 6) (q0 := 0) rfl rfl, fun U hU hW => ⟨rfl, by rw [hU], by rw [hU]; exact hPc, va_K.moved hW.alike hKc, hDc.weaken (fun _ _ _ _ => trivial), nzA_warm hW hz⟩⟩ rfl rfl hl.1 rfl (lv_room (Nat.le_of_ble_eq_true rfl)) (dk_at dkX6_passNumber 24 rfl) ⟨Nat.zero_le _, Nat.zero_le _⟩) hS (fun q _ h => hFc q h) hFc (fun u t H1 locs ht hvm hw hB hz1 hk1 hS => ?_)
        clear hz1
        obtain ⟨y_240, y_241, hB⟩ := hB
        obtain ⟨gy_240, hpr0_r_239, hpr1_r_239, hE, hP1, hD1⟩ := hB
        rw [ht] at hP1
        obtain ⟨hP, hD⟩ := gz_back hP hD hk1 hFc hP1 hD1 [0] rfl rfl
        have hpr0_r_239 : Hid (y_218.toInt ≤ y_240.toInt) := hpr0_r_239
        have hpr1_r_239 : Hid (((0 : Int) = 1 ∨ 1 ≤ y_240.toInt)) := by have h9 : ((0 : Int32).toInt = 1 ∨ 1 ≤ y_240.toInt) := hpr1_r_239; rw [show (0 : Int32).toInt = 0 from by decide] at h9; exact h9
        have hf_242 : 1 ≤ y_240.toInt := Hid.resL hpr1_r_239 (by omega)
        have g_243 : gi y_240 1 3 := ⟨by omega, gy_240.2⟩
        obtain ⟨hP, hD⟩ := gz_both (w := [(h0, .inr (6, [.ref tp, .ref dr, .int y_240, .int y_241, .int q_token, .int q_start, .int q_stop])), (tp, .inr (10, [.ref bt, .int b_length])), (bt, .inl (kbt, 1600, .inl fbt))]) hP hD
        have hF := gf_call (a := (y_240, y_241)) hE hF
        generalize H1 = H at hP hS ⊢
        refine lv_aload_n hx hb (dk_at dkX6_passNumber 25 rfl) rfl (lv_at hl 1 rfl) ?_
        have hFc := gz_fullF hD hS hA
        refine va_callv (va_runV (As := []) (rest := []) ⟨hx, hb, hml, hown, hts⟩ (sX6_step l dC dI H.size h0 tp bt dr y_240 y_241 q_token q_start q_stop b_length kbt fbt (gi_w g_243 (by decide)) gq_start gq_stop gb_length) (cwV 0 hts (gz_gV mGA_162 mGA_163 mGA_164 mGA_9 mGA_165 goodGA) rfl rfl rfl hdV_X6_step_X6_0 ⟨Nat.le_of_ble_eq_true rfl, Nat.le_of_ble_eq_true rfl⟩) ⟨bl_I (bl_a bl_sz (bl_a bl_P (bl_a bl_K (bl_a bl_c bl_nz)))), va_recv hK hP (ci := 6) (q0 := 0) rfl rfl, fun U hU hW => ⟨rfl, by rw [hU], by rw [hU]; exact hP, va_K.moved hW.alike hK, hD.weaken (fun _ _ _ _ => trivial), nzA_warm hW hz⟩⟩ rfl rfl hl.1 rfl (lv_room (Nat.le_of_ble_eq_true rfl)) (dk_at dkX6_passNumber 26 rfl) ⟨Nat.zero_le _, Nat.zero_le _⟩) hS (fun q _ h => hFc q h) hFc (fun u t H1 locs ht hvm hw hB hz1 hk1 hS => ?_)
        clear hz1
        obtain ⟨y_245, y_246, y_247, hB⟩ := hB
        obtain ⟨gy_246, gy_247, hE, hP1, hD1⟩ := hB
        rw [ht] at hP1
        have hD := gz_fullD hFc hD1
        have hP := hP1
        have hF := gf_call (a := (y_245, y_246, y_247)) hE hF
        generalize H1 = H at hP hS ⊢
        refine lv_iload_n hx hb (dk_at dkX6_passNumber 27 rfl) rfl (lv_at hl 0 rfl) ?_
        exact W.iret (v := r_220) hx hb hr (fun t ht hW => ⟨⟨r_220, r_220, rfl, ⟨rfl, (gi_any r_220)⟩, y_240, y_241, y_245, y_246, y_247, (gi_w g_243 (by decide)), gy_246, gy_247, (show q_faultKind.toInt ≤ y_240.toInt from (Int.le_trans (Hid.un hpr0_r_217) (Hid.un hpr0_r_239))), (show (y_240.toInt ≠ 0 ∨ (p1.toInt ≤ r_220.toInt ∧ r_220.toInt ≤ p2.toInt)) from (Or.inl (gz_isnc g_243 (by decide)))), hF.trans hR9.symm, by rw [ht]; exact hP, hD⟩, hS.F ht⟩) hS.2.2 (dk_at dkX6_passNumber 28 rfl)
      · have hF := gf_neg c_235 hF
        have hc_248 : r_220.toInt ≤ p2.toInt := by have h9 := Int32.le_iff_toInt_le.mp (Int32.not_lt.mp c_235); exact h9
        refine lv_iconst (v := 1) hx hb (dk_at dkX6_passNumber 20 rfl) (by decide) ?_
        refine lv_goto (tgt := 39) hx hb (dk_at dkX6_passNumber 21 rfl) (by decide) ?_
        refine lv_iconst (v := 2) hx hb (dk_at dkX6_passNumber 23 rfl) (by decide) ?_
        obtain ⟨hPc, hDc, hFc⟩ := gz_cut (wc := [(h0, .inr (6, [.ref tp, .ref dr, .int y_218, .int y_219, .int q_token, .int q_start, .int q_stop]))]) hP hD hS hA [0] (by decide) rfl
        have hKc := hK.sub (tys' := []) [] rfl
        refine va_callv (va_runV (As := [.int 1, .int 2]) (rest := []) ⟨hx, hb, hml, hown, hts⟩ (sX6_expect l dC dI H.size h0 tp dr y_218 y_219 q_token q_start q_stop 1 2 gy_218 gq_start gq_stop (gi_w (gi_c 1 1 (by decide)) (by decide)) (gi_w (gi_c 2 2 (by decide)) (by decide))) (cwV 2 hts (gz_gV mGA_250 mGA_251 mGA_252 mGA_9 mGA_253 goodGA) rfl rfl rfl hdV_X6_expect_X6_2 ⟨Nat.le_of_ble_eq_true rfl, Nat.le_of_ble_eq_true rfl⟩) ⟨bl_I (bl_a bl_sz (bl_a bl_P (bl_a bl_K (bl_a bl_c bl_nz)))), va_recv hKc hPc (ci := 6) (q0 := 0) rfl rfl, fun U hU hW => ⟨rfl, by rw [hU], by rw [hU]; exact hPc, va_K.moved hW.alike hKc, hDc.weaken (fun _ _ _ _ => trivial), nzA_warm hW hz⟩⟩ rfl rfl hl.1 rfl (lv_room (Nat.le_of_ble_eq_true rfl)) (dk_at dkX6_passNumber 24 rfl) ⟨Nat.zero_le _, Nat.zero_le _⟩) hS (fun q _ h => hFc q h) hFc (fun u t H1 locs ht hvm hw hB hz1 hk1 hS => ?_)
        clear hz1
        obtain ⟨y_250, y_251, hB⟩ := hB
        obtain ⟨gy_250, hpr0_r_249, hpr1_r_249, hE, hP1, hD1⟩ := hB
        rw [ht] at hP1
        obtain ⟨hP, hD⟩ := gz_back hP hD hk1 hFc hP1 hD1 [0] rfl rfl
        have hpr0_r_249 : Hid (y_218.toInt ≤ y_250.toInt) := hpr0_r_249
        have hpr1_r_249 : Hid (((1 : Int) = 1 ∨ 1 ≤ y_250.toInt)) := by have h9 : ((1 : Int32).toInt = 1 ∨ 1 ≤ y_250.toInt) := hpr1_r_249; rw [show (1 : Int32).toInt = 1 from by decide] at h9; exact h9
        obtain ⟨hP, hD⟩ := gz_both (w := [(h0, .inr (6, [.ref tp, .ref dr, .int y_250, .int y_251, .int q_token, .int q_start, .int q_stop])), (tp, .inr (10, [.ref bt, .int b_length])), (bt, .inl (kbt, 1600, .inl fbt))]) hP hD
        have hF := gf_call (a := (y_250, y_251)) hE hF
        generalize H1 = H at hP hS ⊢
        refine lv_aload_n hx hb (dk_at dkX6_passNumber 25 rfl) rfl (lv_at hl 1 rfl) ?_
        have hFc := gz_fullF hD hS hA
        refine va_callv (va_runV (As := []) (rest := []) ⟨hx, hb, hml, hown, hts⟩ (sX6_step l dC dI H.size h0 tp bt dr y_250 y_251 q_token q_start q_stop b_length kbt fbt gy_250 gq_start gq_stop gb_length) (cwV 0 hts (gz_gV mGA_162 mGA_163 mGA_164 mGA_9 mGA_165 goodGA) rfl rfl rfl hdV_X6_step_X6_0 ⟨Nat.le_of_ble_eq_true rfl, Nat.le_of_ble_eq_true rfl⟩) ⟨bl_I (bl_a bl_sz (bl_a bl_P (bl_a bl_K (bl_a bl_c bl_nz)))), va_recv hK hP (ci := 6) (q0 := 0) rfl rfl, fun U hU hW => ⟨rfl, by rw [hU], by rw [hU]; exact hP, va_K.moved hW.alike hK, hD.weaken (fun _ _ _ _ => trivial), nzA_warm hW hz⟩⟩ rfl rfl hl.1 rfl (lv_room (Nat.le_of_ble_eq_true rfl)) (dk_at dkX6_passNumber 26 rfl) ⟨Nat.zero_le _, Nat.zero_le _⟩) hS (fun q _ h => hFc q h) hFc (fun u t H1 locs ht hvm hw hB hz1 hk1 hS => ?_)
        clear hz1
        obtain ⟨y_253, y_254, y_255, hB⟩ := hB
        obtain ⟨gy_254, gy_255, hE, hP1, hD1⟩ := hB
        rw [ht] at hP1
        have hD := gz_fullD hFc hD1
        have hP := hP1
        have hF := gf_call (a := (y_253, y_254, y_255)) hE hF
        generalize H1 = H at hP hS ⊢
        refine lv_iload_n hx hb (dk_at dkX6_passNumber 27 rfl) rfl (lv_at hl 0 rfl) ?_
        exact W.iret (v := r_220) hx hb hr (fun t ht hW => ⟨⟨r_220, r_220, rfl, ⟨rfl, (gi_any r_220)⟩, y_250, y_251, y_253, y_254, y_255, gy_250, gy_254, gy_255, (show q_faultKind.toInt ≤ y_250.toInt from (Int.le_trans (Hid.un hpr0_r_217) (Hid.un hpr0_r_249))), (show (y_250.toInt ≠ 0 ∨ (p1.toInt ≤ r_220.toInt ∧ r_220.toInt ≤ p2.toInt)) from (Or.inr ⟨(Int32.le_iff_toInt_le.mp (Int32.not_lt.mp c_221)), (Int32.le_iff_toInt_le.mp (Int32.not_lt.mp c_235))⟩)), hF.trans hR9.symm, by rw [ht]; exact hP, hD⟩, hS.F ht⟩) hS.2.2 (dk_at dkX6_passNumber 28 rfl)
noncomputable def lsX6_isWord : List (Nat × Instr × Nat) := [(0, .aload_n 0, 1), (1, .getfield 32, 3), (4, .iconst 2, 1), (5, .if_icmp .ne 19, 3), (8, .aload_n 0, 1), (9, .getfield 38, 3), (12, .aload_n 0, 1), (13, .getfield 35, 3), (16, .isub, 1), (17, .aload_n 1, 1), (18, .invokevirtual 196, 3), (21, .if_icmp .eq 5, 3), (24, .iconst 0, 1), (25, .ireturn, 1), (26, .iconst 0, 1), (27, .istore_n 2, 1), (28, .iload_n 2, 1), (29, .aload_n 1, 1), (30, .invokevirtual 196, 3), (33, .if_icmp .ge 29, 3), (36, .aload_n 0, 1), (37, .aload_n 0, 1), (38, .getfield 35, 3), (41, .iload_n 2, 1), (42, .iadd, 1), (43, .invokevirtual 181, 3), (46, .aload_n 1, 1), (47, .iload_n 2, 1), (48, .invokevirtual 201, 3), (51, .if_icmp .eq 5, 3), (54, .iconst 0, 1), (55, .ireturn, 1), (56, .iinc 2 1, 3), (59, .goto (-31), 3), (62, .iconst 1, 1), (63, .ireturn, 1)]
theorem dkX6_isWord : dkAll cX6_isWord lsX6_isWord = true := dk_fast (by decide +kernel)
noncomputable def bfX6_isWord_24 (q_token : Int32) (q_start : Int32) (q_stop : Int32) (b_length : Int32) (fbt : Nat → Int32) (wi : Nat) (K : (Int32 → Int32)) : Int32 := (0 : Int32)
noncomputable def dfX6_isWord_28 (q_token : Int32) (q_start : Int32) (q_stop : Int32) (b_length : Int32) (fbt : Nat → Int32) (wi : Nat) (K : (Int32 → Int32)) (v2 : Int32) : Int32 := if (nI (stL wi).length) ≤ v2 then (1 : Int32) else (cal (fun o1 => if o1 = ((stL wi).getD v2.toNatClampNeg 0 &&& 255) then (K (v2 + (1 : Int32))) else (0 : Int32)) (fX6_byteAt b_length fbt (q_start + v2)))
noncomputable def lfX6_isWord (q_token : Int32) (q_start : Int32) (q_stop : Int32) (b_length : Int32) (fbt : Nat → Int32) (wi : Nat) (z : Nat) : (Int32 → Int32) := Nat.rec (motive := fun _ => (Int32 → Int32)) (fun _ => (0)) (fun _ K => dfX6_isWord_28 q_token q_start q_stop b_length fbt wi K) z
noncomputable def fX6_isWord (q_token : Int32) (q_start : Int32) (q_stop : Int32) (b_length : Int32) (fbt : Nat → Int32) (wi : Nat) : Int32 := if q_token = (2 : Int32) then (if (q_stop - q_start) = (nI (stL wi).length) then ((lfX6_isWord q_token q_start q_stop b_length fbt wi 1000000000) (0 : Int32)) else (bfX6_isWord_24 q_token q_start q_stop b_length fbt wi (lfX6_isWord q_token q_start q_stop b_length fbt wi 1000000000))) else (bfX6_isWord_24 q_token q_start q_stop b_length fbt wi (lfX6_isWord q_token q_start q_stop b_length fbt wi 1000000000))
set_option maxHeartbeats 4000000 in
set_option maxRecDepth 100000 in
theorem lp_sX6_isWord {p : Program} {l : Launch} {e : Env} {R : Room} {s : State} {m : MethodId} {args : Array Value} {below : List Frame} {meth : Method} {c : Code} {Q : State → Prop} {A : Nat → Prop} {cells slots : Nat} {dC : Nat → ClassId} {dI : Nat → Nat → Nat} {RES : Int32} (h0 : Nat) (tp : Nat) (bt : Nat) (dr : Nat) (q_faultKind : Int32) (q_faultPlace : Int32) (q_token : Int32) (q_start : Int32) (q_stop : Int32) (b_length : Int32) (kbt : ClassId) (fbt : Nat → Int32) (sa : Nat → Nat) (sb : Nat → Nat) (zf : Value) (wi : Nat) (gq_faultKind : gi q_faultKind 0 3) (gq_start : gi q_start 0 1600) (gq_stop : gi q_stop 0 1600) (gb_length : gi b_length 0 1600) (hwi : wi < 18) (hx : p.tables.exec = Jvm.exec) (hb : c.code = cX6_isWord) (hml : c.maxLocals = 3) (hown : s.vm.findClass RX6 = some m.cls) (hts : ∀ w ∈ ((.code yX6_isWord cX6_isWord 3 (some .boolean) :: wsGA) : List Cond), w.before args s = true) (hK : va_K (dC, dI) vwCl [(kbt, .byte)] s) (hz : nzA s) (hT : gz_ST RX6 stIA sa sb zf A s s.heap) (hRf : 4 ≤ R.frames) (hRl : 85 ≤ R.locals) (hRc : cells ≤ R.cells) (hRs : slots ≤ R.slots) (kr25 : ∀ (v : Int32) (H : Heap) (locs : List Loc) (ls : Array Slot), gi v 0 0 → v = RES → va_P (dC, dI) vwCl [(h0, .inr (6, [.ref tp, .ref dr, .int q_faultKind, .int q_faultPlace, .int q_token, .int q_start, .int q_stop])), (tp, .inr (10, [.ref bt, .int b_length])), (bt, .inl (kbt, 1600, .inl fbt))] H → va_S A s.heap H locs → lv_has ls 3 [] → W p l e R s m args below meth c H locs cells slots Q (F0 m 25 ls [.int v])) (kr63 : ∀ (v : Int32) (H : Heap) (locs : List Loc) (ls : Array Slot), gi v 1 1 → v = RES → va_P (dC, dI) vwCl [(h0, .inr (6, [.ref tp, .ref dr, .int q_faultKind, .int q_faultPlace, .int q_token, .int q_start, .int q_stop])), (tp, .inr (10, [.ref bt, .int b_length])), (bt, .inl (kbt, 1600, .inl fbt))] H → va_S A s.heap H locs → lv_has ls 3 [] → W p l e R s m args below meth c H locs cells slots Q (F0 m 63 ls [.int v])) (kr55 : ∀ (v : Int32) (H : Heap) (locs : List Loc) (ls : Array Slot), gi v 0 0 → v = RES → va_P (dC, dI) vwCl [(h0, .inr (6, [.ref tp, .ref dr, .int q_faultKind, .int q_faultPlace, .int q_token, .int q_start, .int q_stop])), (tp, .inr (10, [.ref bt, .int b_length])), (bt, .inl (kbt, 1600, .inl fbt))] H → va_S A s.heap H locs → lv_has ls 3 [] → W p l e R s m args below meth c H locs cells slots Q (F0 m 55 ls [.int v])) : ∀ z : Nat, (∀ (v2 : Int32) (H : Heap) (locs : List Loc) (ls : Array Slot), gi v2 0 8 → (lfX6_isWord q_token q_start q_stop b_length fbt wi z) v2 = RES → 17 + (-2) * v2.toInt < (z : Int) → va_P (dC, dI) vwCl [(h0, .inr (6, [.ref tp, .ref dr, .int q_faultKind, .int q_faultPlace, .int q_token, .int q_start, .int q_stop])), (tp, .inr (10, [.ref bt, .int b_length])), (bt, .inl (kbt, 1600, .inl fbt))] H → va_S A s.heap H locs → lv_has ls 3 [(0, .ref h0), (1, .ref (sa wi)), (2, .int v2)] → W p l e R s m args below meth c H locs cells slots Q (F0 m 28 ls [])) := by
  intro z
  induction z with
  | zero =>
    intro v2 H locs ls gv2 hF hmu hP hS hl
    exact absurd hmu (by have hv21 := gv2.1; have hv22 := gv2.2; omega)
  | succ z ih =>
      intro v2 H locs ls gv2 hF hmu hP hS hl
      have hF : dfX6_isWord_28 q_token q_start q_stop b_length fbt wi (lfX6_isWord q_token q_start q_stop b_length fbt wi z) v2 = RES := hF
      refine lv_iload_n hx hb (dk_at dkX6_isWord 16 rfl) rfl (lv_at hl 2 rfl) ?_
      refine lv_aload_n hx hb (dk_at dkX6_isWord 17 rfl) rfl (lv_at hl 1 rfl) ?_
      refine va_calli (va_runV (As := []) (rest := [.int v2]) ⟨hx, hb, hml, hown, hts⟩ (sJ0_lengthA l (sa wi) (sb wi) (stL wi) zf (stL_len wi hwi)) (cwV 0 hts (gz_gV mGA_201 mGA_202 mGA_203 mGA_204 mGA_205 goodGA) rfl rfl rfl hdV_J0_length_8abf5_J0_0 ⟨Nat.le_trans (Nat.le_of_ble_eq_true rfl) hRf, Nat.le_trans (Nat.le_of_ble_eq_true rfl) hRl⟩) ⟨fun a U g mk q => ⟨q.1, gz_sp.moved (u := U) (U := U.calling g mk a) (Vm.Alike.refl U.vm) q.2⟩, (by obtain ⟨cell, h1, h2, h3, -⟩ := ((hT.2 wi hwi).2).2.2.1.kept hS.2.1; exact ⟨cell, h1, h2, h3⟩), fun U hU hW => ⟨rfl, by show gz_sp _ _ _ _ _ U U.heap; rw [hU]; exact gz_sp.moved hW.alike (((hT.2 wi hwi).2.kept hS.2.1).narrow (fun _ h => h.elim))⟩⟩ rfl rfl hl.1 rfl (lv_room (Nat.le_of_ble_eq_true rfl)) (dk_at dkX6_isWord 18 rfl) ⟨hRc, hRs⟩) hS (fun q _ h => h.elim) (fun q h => h.elim) (fun r_185 u t H1 locs ht hvm hw hB hz1 hk1 hS => ?_)
      have hP := gz_keep hP hk1
      generalize H1 = H at hP hS ⊢
      have ewr_185 : r_185 = nI (stL wi).length := hw
      have gr_185 : gi r_185 0 7 := gz_len hw (stL_len wi hwi)
      have hnr_185 : r_185.toInt = ((stL wi).length : Int) := gz_lenI hw (stL_len wi hwi)
      refine lv_icmp_ge (tgt := 62) hx hb (dk_at dkX6_isWord 19 rfl) (by decide) (fun c_186 => ?_) (fun c_186 => ?_)
      · have hF := gf_pos (by rw [ewr_185] at c_186; exact c_186) hF
        have hc_187 : r_185.toInt ≤ v2.toInt := by have h9 := Int32.le_iff_toInt_le.mp c_186; exact h9
        refine lv_iconst (v := 1) hx hb (dk_at dkX6_isWord 34 rfl) (by decide) ?_
        exact kr63 1 _ _ _ (gi_c 1 1 (by decide)) hF hP hS (lv_sub hl [] rfl)
      · have hF := gf_neg (by rw [ewr_185] at c_186; exact c_186) hF
        have hc_188 : v2.toInt < r_185.toInt := by have h9 := Int32.lt_iff_toInt_lt.mp (Int32.not_le.mp c_186); exact h9
        have g_189 : gi v2 0 6 := gi_lt_l (Int32.not_le.mp c_186) gv2 gr_185 (by decide)
        have g_190 : gi r_185 1 7 := gi_lt_r (Int32.not_le.mp c_186) gv2 gr_185 (by decide)
        refine lv_aload_n hx hb (dk_at dkX6_isWord 20 rfl) rfl (lv_at hl 0 rfl) ?_
        refine lv_aload_n hx hb (dk_at dkX6_isWord 21 rfl) rfl (lv_at hl 0 rfl) ?_
        refine va_get (D := (dC, dI)) (ci := 6) (v := .int q_start) (C := RX6) (T := TX6) (N := 7) hx hb hts (fun w h => List.mem_cons_of_mem _ (jnGA_X6 w h)) hown hK hP 0 rfl rfl 5 (by decide) (hts _ (List.mem_cons_of_mem _ mGA_58)) (fun _ h9 => h9) rfl (dk_at dkX6_isWord 22 rfl) ?_
        refine lv_iload_n hx hb (dk_at dkX6_isWord 23 rfl) rfl (lv_at hl 2 rfl) ?_
        refine lv_iadd hx hb (dk_at dkX6_isWord 24 rfl) ?_
        refine lv_topi (fun x_191 ex_191 => ?_)
        have gx_191 : gi x_191 0 1606 := gi_add ex_191 gq_start g_189 (by decide)
        refine va_calli (va_runV (As := [.int x_191]) (rest := []) ⟨hx, hb, hml, hown, hts⟩ (sX6_byteAt l dC dI h0 tp bt dr q_faultKind q_faultPlace q_token q_start q_stop b_length kbt fbt x_191 gq_faultKind gq_start gq_stop gb_length) (cwV 1 hts (gz_gV mGA_167 mGA_168 mGA_169 mGA_9 mGA_170 goodGA) rfl rfl rfl hdV_X6_byteAt_X6_1 ⟨Nat.le_trans (Nat.le_of_ble_eq_true rfl) hRf, Nat.le_trans (Nat.le_of_ble_eq_true rfl) hRl⟩) ⟨bl_I (bl_a bl_P (bl_a bl_K bl_nz)), va_recv hK hP (ci := 6) (q0 := 0) rfl rfl, fun U hU hW => ⟨rfl, by rw [hU]; exact hP, va_K.moved hW.alike hK, nzA_warm hW hz⟩⟩ rfl rfl hl.1 rfl (lv_room (Nat.le_of_ble_eq_true rfl)) (dk_at dkX6_isWord 25 rfl) ⟨hRc, hRs⟩) hS (fun q _ h => h.elim) (fun q h => h.elim) (fun r_192 u t H1 locs ht hvm hw hB hz1 hk1 hS => ?_)
        clear hz1
        obtain ⟨hw, hE⟩ := hw
        have hP := gz_keep hP hk1
        have hF := gf_call (a := r_192) (by rw [ex_191] at hE; exact hE) hF
        generalize H1 = H at hP hS ⊢
        refine lv_aload_n hx hb (dk_at dkX6_isWord 26 rfl) rfl (lv_at hl 1 rfl) ?_
        refine lv_iload_n hx hb (dk_at dkX6_isWord 27 rfl) rfl (lv_at hl 2 rfl) ?_
        refine va_calli (va_runV (As := [.int v2]) (rest := [.int r_192]) ⟨hx, hb, hml, hown, hts⟩ (sJ0_charAtA l (sa wi) (sb wi) (stL wi) zf hT.1 (stL_len wi hwi) v2 (gz_nlt0 (by have qgv2 := g_189.1; have rgv2 := g_189.2; have qgr_185 := g_190.1; have rgr_185 := g_190.2; omega)) (gz_chi (by have qgv2 := g_189.1; have rgv2 := g_189.2; have qgr_185 := g_190.1; have rgr_185 := g_190.2; omega) (by have qgv2 := g_189.1; have rgv2 := g_189.2; have qgr_185 := g_190.1; have rgr_185 := g_190.2; omega))) (cwV 1 hts (gz_gV mGA_213 mGA_214 mGA_215 mGA_204 mGA_216 goodGA) rfl rfl rfl hdV_J0_charAt_5068e_J0_1 ⟨Nat.le_trans (Nat.le_of_ble_eq_true rfl) hRf, Nat.le_trans (Nat.le_of_ble_eq_true rfl) hRl⟩) ⟨fun a U g mk q => ⟨q.1, gz_sp.moved (u := U) (U := U.calling g mk a) (Vm.Alike.refl U.vm) q.2⟩, (by obtain ⟨cell, h1, h2, h3, -⟩ := ((hT.2 wi hwi).2).2.2.1.kept hS.2.1; exact ⟨cell, h1, h2, h3⟩), fun U hU hW => ⟨rfl, by show gz_sp _ _ _ _ _ U U.heap; rw [hU]; exact gz_sp.moved hW.alike (((hT.2 wi hwi).2.kept hS.2.1).narrow (fun _ h => h.elim))⟩⟩ rfl rfl hl.1 rfl (lv_room (Nat.le_of_ble_eq_true rfl)) (dk_at dkX6_isWord 28 rfl) ⟨hRc, hRs⟩) hS (fun q _ h => h.elim) (fun q h => h.elim) (fun r_193 u t H1 locs ht hvm hw hB hz1 hk1 hS => ?_)
        have hP := gz_keep hP hk1
        generalize H1 = H at hP hS ⊢
        have her_193 : r_193 = (stL wi).getD v2.toNatClampNeg 0 &&& 255 := hw
        refine lv_icmp_eq (tgt := 56) hx hb (dk_at dkX6_isWord 29 rfl) (by decide) (fun c_194 => ?_) (fun c_194 => ?_)
        · have hF := gf_pos (by rw [her_193] at c_194; exact c_194) hF
          have hc_195 : r_192.toInt = r_193.toInt := by have h9 := congrArg Int32.toInt c_194; exact h9
          obtain ⟨x_196, ex_196⟩ : ∃ y : Int32, y = v2 + 1 := ⟨_, rfl⟩
          have gx_196 : gi x_196 1 7 := gi_add ex_196 g_189 (gi_c 1 1 (by decide)) (by decide)
          refine lv_iinc (v := x_196) (lv' := [(2, .int x_196), (0, .ref h0), (1, .ref (sa wi))]) hx hb (dk_at dkX6_isWord 32 rfl) hl (k := 2) rfl (by rw [ex_196]; rfl) (by decide) rfl (fun ls hl => ?_)
          refine lv_goto (tgt := 28) hx hb (dk_at dkX6_isWord 33 rfl) (by decide) ?_
          exact ih x_196 _ _ _ (gi_w gx_196 (by decide)) (by first | (rw [ex_196]; exact hF) | ((try rw [ex_196]); exact hF)) (by have av2 := gv2.1; have bv2 := gv2.2; have qgx_196 := gx_196.1; have rgx_196 := gx_196.2; have igx_196 : x_196.toInt = v2.toInt + 1 := (by have hc1 : (1 : Int32).toInt = 1 := (by decide); have h9 := gi_addE ex_196 g_189 (gi_c 1 1 (by decide)) (by decide); rw [hc1] at h9; exact h9); have qgv2 := g_189.1; have rgv2 := g_189.2; omega) hP hS (lv_sub hl [1, 2, 0] rfl)
        · have hF := gf_neg (by rw [her_193] at c_194; exact c_194) hF
          have hc_197 : r_192.toInt ≠ r_193.toInt := fun h9 => c_194 (Int32.toInt_inj.mp (by exact h9))
          refine lv_iconst (v := 0) hx hb (dk_at dkX6_isWord 30 rfl) (by decide) ?_
          exact kr55 0 _ _ _ (gi_c 0 0 (by decide)) hF hP hS (lv_sub hl [] rfl)
set_option maxHeartbeats 4000000 in
set_option maxRecDepth 100000 in
theorem sX6_isWord (l : Launch) (dC : Nat → ClassId) (dI : Nat → Nat → Nat) (h0 : Nat) (tp : Nat) (bt : Nat) (dr : Nat) (q_faultKind : Int32) (q_faultPlace : Int32) (q_token : Int32) (q_start : Int32) (q_stop : Int32) (b_length : Int32) (kbt : ClassId) (fbt : Nat → Int32) (sa : Nat → Nat) (sb : Nat → Nat) (zf : Value) (wi : Nat) (gq_faultKind : gi q_faultKind 0 3) (gq_start : gi q_start 0 1600) (gq_stop : gi q_stop 0 1600) (gb_length : gi b_length 0 1600) (hwi : wi < 18) : Met l yX6_isWord (.code yX6_isWord cX6_isWord 3 (some .boolean) :: wsGA) ({ frames := 4, cells := 0, slots := 0, locals := 85 }) (va_Pc [.ref h0, .ref (sa wi)] (fun U => va_P (dC, dI) vwCl [(h0, .inr (6, [.ref tp, .ref dr, .int q_faultKind, .int q_faultPlace, .int q_token, .int q_start, .int q_stop])), (tp, .inr (10, [.ref bt, .int b_length])), (bt, .inl (kbt, 1600, .inl fbt))] U.heap ∧ va_K (dC, dI) vwCl [(kbt, .byte)] U ∧ nzA U ∧ gz_ST RX6 stIA sa sb zf (fun _ => False) U U.heap)) (va_Qi (fun (r : Int32) (u : Unit) => (gi r 0 1) ∧ r = fX6_isWord q_token q_start q_stop b_length fbt wi) (fun _ _ => True) (fun _ => False)) 0 0 (fun _ => False) := by
  refine Met.ofW (cc := cX6_isWord) (maxL := 3) (ret := (some .boolean)) (by decide) rfl ?_
  intro p e s m args below meth c s₁ B hml hv
  obtain ⟨rfl, hP, hK, hz, hT⟩ := hv
  have hx := B.exec
  have hb := B.bytes
  have hr := B.returns
  have hts := atoms_spec (ws := (.code yX6_isWord cX6_isWord 3 (some .boolean) :: wsGA)) B.pre
  have hown : s.vm.findClass RX6 = some m.cls := findClass_of_methodNamed B.named
  have hlocks := B.notSynchronized
  have hS : va_S (fun _ => False) s.heap s.heap [] := va_S.rf
  have hl := lv_entry ([.ref h0, .ref (sa wi)]) (n := 3) (Nat.le_of_ble_eq_true rfl)
  rw [lg_entry_eq]
  generalize (lg_sl ([.ref h0, .ref (sa wi)]) ++ List.replicate (3 - (lg_sl ([.ref h0, .ref (sa wi)])).length) Slot.unset).toArray = ls at hl ⊢
  have hl : lv_has ls 3 [(0, .ref h0), (1, .ref (sa wi))] := hl
  obtain ⟨RES, hF⟩ : ∃ R9, fX6_isWord q_token q_start q_stop b_length fbt wi = R9 := ⟨_, rfl⟩
  have hR9 := hF
  refine lv_aload_n hx hb (dk_at dkX6_isWord 0 rfl) rfl (lv_at hl 0 rfl) ?_
  refine va_get (D := (dC, dI)) (ci := 6) (v := .int q_token) (C := RX6) (T := TX6) (N := 7) hx hb hts (fun w h => List.mem_cons_of_mem _ (jnGA_X6 w h)) hown hK hP 0 rfl rfl 4 (by decide) (hts _ (List.mem_cons_of_mem _ mGA_57)) (fun _ h9 => h9) rfl (dk_at dkX6_isWord 1 rfl) ?_
  refine lv_iconst (v := 2) hx hb (dk_at dkX6_isWord 2 rfl) (by decide) ?_
  refine lv_icmp_ne (tgt := 24) hx hb (dk_at dkX6_isWord 3 rfl) (by decide) (fun c_198 => ?_) (fun c_198 => ?_)
  · have hF := gf_neg c_198 hF
    have hc_199 : q_token.toInt ≠ 2 := fun h9 => c_198 (Int32.toInt_inj.mp (by rw [show (2 : Int32).toInt = 2 from by decide]; exact h9))
    refine lv_iconst (v := 0) hx hb (dk_at dkX6_isWord 12 rfl) (by decide) ?_
    exact W.zret (v := 0) hx hb hr (by decide) (fun t ht hW => ⟨⟨0, (), rfl, ⟨(gi_w (gi_c 0 0 (by decide)) (by decide)), hF.trans hR9.symm⟩, trivial⟩, hS.F ht⟩) hS.2.2 (dk_at dkX6_isWord 13 rfl)
  · have hF := gf_pos c_198 hF
    have hc_200 : q_token.toInt = 2 := by have h9 := congrArg Int32.toInt c_198; rw [show (2 : Int32).toInt = 2 from by decide] at h9; exact h9
    have g_201 : gi q_token 2 2 := gi_eq c_198 (gi_c 2 2 (by decide))
    refine lv_aload_n hx hb (dk_at dkX6_isWord 4 rfl) rfl (lv_at hl 0 rfl) ?_
    refine va_get (D := (dC, dI)) (ci := 6) (v := .int q_stop) (C := RX6) (T := TX6) (N := 7) hx hb hts (fun w h => List.mem_cons_of_mem _ (jnGA_X6 w h)) hown hK hP 0 rfl rfl 6 (by decide) (hts _ (List.mem_cons_of_mem _ mGA_59)) (fun _ h9 => h9) rfl (dk_at dkX6_isWord 5 rfl) ?_
    refine lv_aload_n hx hb (dk_at dkX6_isWord 6 rfl) rfl (lv_at hl 0 rfl) ?_
    refine va_get (D := (dC, dI)) (ci := 6) (v := .int q_start) (C := RX6) (T := TX6) (N := 7) hx hb hts (fun w h => List.mem_cons_of_mem _ (jnGA_X6 w h)) hown hK hP 0 rfl rfl 5 (by decide) (hts _ (List.mem_cons_of_mem _ mGA_58)) (fun _ h9 => h9) rfl (dk_at dkX6_isWord 7 rfl) ?_
    refine lv_isub hx hb (dk_at dkX6_isWord 8 rfl) ?_
    refine lv_topi (fun x_202 ex_202 => ?_)
    have gx_202 : gi x_202 (-1600) 1600 := gi_sub ex_202 gq_stop gq_start (by decide)
    refine lv_aload_n hx hb (dk_at dkX6_isWord 9 rfl) rfl (lv_at hl 1 rfl) ?_
    refine va_calli (va_runV (As := []) (rest := [.int x_202]) ⟨hx, hb, hml, hown, hts⟩ (sJ0_lengthA l (sa wi) (sb wi) (stL wi) zf (stL_len wi hwi)) (cwV 0 hts (gz_gV mGA_201 mGA_202 mGA_203 mGA_204 mGA_205 goodGA) rfl rfl rfl hdV_J0_length_8abf5_J0_0 ⟨Nat.le_of_ble_eq_true rfl, Nat.le_of_ble_eq_true rfl⟩) ⟨fun a U g mk q => ⟨q.1, gz_sp.moved (u := U) (U := U.calling g mk a) (Vm.Alike.refl U.vm) q.2⟩, (by obtain ⟨cell, h1, h2, h3, -⟩ := ((hT.2 wi hwi).2).2.2.1.kept hS.2.1; exact ⟨cell, h1, h2, h3⟩), fun U hU hW => ⟨rfl, by show gz_sp _ _ _ _ _ U U.heap; rw [hU]; exact gz_sp.moved hW.alike (((hT.2 wi hwi).2.kept hS.2.1).narrow (fun _ h => h.elim))⟩⟩ rfl rfl hl.1 rfl (lv_room (Nat.le_of_ble_eq_true rfl)) (dk_at dkX6_isWord 10 rfl) ⟨Nat.zero_le _, Nat.zero_le _⟩) hS (fun q _ h => h.elim) (fun q h => h.elim) (fun r_203 u t H1 locs ht hvm hw hB hz1 hk1 hS => ?_)
    have hP := gz_keep hP hk1
    generalize H1 = H at hP hS ⊢
    have ewr_203 : r_203 = nI (stL wi).length := hw
    have gr_203 : gi r_203 0 7 := gz_len hw (stL_len wi hwi)
    have hnr_203 : r_203.toInt = ((stL wi).length : Int) := gz_lenI hw (stL_len wi hwi)
    refine lv_icmp_eq (tgt := 26) hx hb (dk_at dkX6_isWord 11 rfl) (by decide) (fun c_204 => ?_) (fun c_204 => ?_)
    · have hF := gf_pos (by rw [ewr_203, ex_202] at c_204; exact c_204) hF
      have hc_205 : x_202.toInt = r_203.toInt := by have h9 := congrArg Int32.toInt c_204; exact h9
      have g_206 : gi x_202 0 7 := gi_eq c_204 gr_203
      refine lv_iconst (v := 0) hx hb (dk_at dkX6_isWord 14 rfl) (by decide) ?_
      refine lv_istore_n (lv' := [(2, .int 0), (0, .ref h0), (1, .ref (sa wi))]) hx hb (dk_at dkX6_isWord 15 rfl) rfl hl (by decide) rfl (fun ls hl => ?_)
      refine (lp_sX6_isWord h0 tp bt dr q_faultKind q_faultPlace q_token q_start q_stop b_length kbt fbt sa sb zf wi gq_faultKind gq_start gq_stop gb_length hwi hx hb hml hown hts hK hz hT (Nat.le_of_ble_eq_true rfl) (Nat.le_of_ble_eq_true rfl) (Nat.zero_le _) (Nat.zero_le _) (fun v H locs ls gv hF hP hS hl => ?_) (fun v H locs ls gv hF hP hS hl => ?_) (fun v H locs ls gv hF hP hS hl => ?_) 1000000000) 0 _ _ _ (gi_w (gi_c 0 0 (by decide)) (by decide)) hF (by have k0 : (0 : Int32).toInt = 0 := (by decide); omega) hP hS (lv_sub hl [1, 2, 0] rfl)
      · skip
        exact W.zret (v := v) hx hb hr (gz_nb (gi_w gv (by decide))) (fun t ht hW => ⟨⟨v, (), rfl, ⟨(gi_w gv (by decide)), hF.trans hR9.symm⟩, trivial⟩, hS.F ht⟩) hS.2.2 (dk_at dkX6_isWord 13 rfl)
      · skip
        exact W.zret (v := v) hx hb hr (gz_nb (gi_w gv (by decide))) (fun t ht hW => ⟨⟨v, (), rfl, ⟨(gi_w gv (by decide)), hF.trans hR9.symm⟩, trivial⟩, hS.F ht⟩) hS.2.2 (dk_at dkX6_isWord 35 rfl)
      · skip
        exact W.zret (v := v) hx hb hr (gz_nb (gi_w gv (by decide))) (fun t ht hW => ⟨⟨v, (), rfl, ⟨(gi_w gv (by decide)), hF.trans hR9.symm⟩, trivial⟩, hS.F ht⟩) hS.2.2 (dk_at dkX6_isWord 31 rfl)
    · have hF := gf_neg (by rw [ewr_203, ex_202] at c_204; exact c_204) hF
      have hc_207 : x_202.toInt ≠ r_203.toInt := fun h9 => c_204 (Int32.toInt_inj.mp (by exact h9))
      refine lv_iconst (v := 0) hx hb (dk_at dkX6_isWord 12 rfl) (by decide) ?_
      exact W.zret (v := 0) hx hb hr (by decide) (fun t ht hW => ⟨⟨0, (), rfl, ⟨(gi_w (gi_c 0 0 (by decide)) (by decide)), hF.trans hR9.symm⟩, trivial⟩, hS.F ht⟩) hS.2.2 (dk_at dkX6_isWord 13 rfl)
noncomputable def lsX6_passWord : List (Nat × Instr × Nat) := [(0, .aload_n 0, 1), (1, .aload_n 0, 1), (2, .aload_n 1, 1), (3, .invokevirtual 58, 3), (6, .iconst 1, 1), (7, .invokevirtual 166, 3), (10, .aload_n 0, 1), (11, .invokevirtual 44, 3), (14, .return_, 1)]
theorem dkX6_passWord : dkAll cX6_passWord lsX6_passWord = true := dk_fast (by decide +kernel)
noncomputable def fX6_passWord (q_faultKind : Int32) (q_faultPlace : Int32) (q_token : Int32) (q_start : Int32) (q_stop : Int32) (b_length : Int32) (fbt : Nat → Int32) (wi : Nat) : Int32 × Int32 × Int32 × Int32 × Int32 := cal (fun o1 => cal (fun o2 => cal (fun o3 => (o2.1, o2.2, o3.1, o3.2.1, o3.2.2)) (fX6_step o2.1 q_token q_start q_stop b_length fbt)) (fX6_expect q_faultKind q_faultPlace q_start o1 (1 : Int32))) (fX6_isWord q_token q_start q_stop b_length fbt wi)
abbrev pb_sX6_passWord (dC : Nat → ClassId) (dI : Nat → Nat → Nat) (A9 : Nat → Prop) (h0 : Nat) (tp : Nat) (bt : Nat) (dr : Nat) (q_faultKind : Int32) (q_faultPlace : Int32) (q_token : Int32) (q_start : Int32) (q_stop : Int32) (b_length : Int32) (kbt : ClassId) (fbt : Nat → Int32) (sa : Nat → Nat) (sb : Nat → Nat) (zf : Value) (wi : Nat) (w0_2 : Int32) (w0_3 : Int32) (w0_4 : Int32) (w0_5 : Int32) (w0_6 : Int32) (t : State) : Prop := gi w0_2 0 3 ∧ gi w0_5 0 1600 ∧ gi w0_6 0 1600 ∧ q_faultKind.toInt ≤ w0_2.toInt ∧ (w0_2, w0_3, w0_4, w0_5, w0_6) = fX6_passWord q_faultKind q_faultPlace q_token q_start q_stop b_length fbt wi ∧ va_P (dC, dI) vwCl [(h0, .inr (6, [.ref tp, .ref dr, .int w0_2, .int w0_3, .int w0_4, .int w0_5, .int w0_6])), (tp, .inr (10, [.ref bt, .int b_length])), (bt, .inl (kbt, 1600, .inl fbt))] t.heap ∧ va_D A9 [(h0, .inr (6, [.ref tp, .ref dr, .int w0_2, .int w0_3, .int w0_4, .int w0_5, .int w0_6])), (tp, .inr (10, [.ref bt, .int b_length])), (bt, .inl (kbt, 1600, .inl fbt))]
set_option maxHeartbeats 4000000 in
set_option maxRecDepth 100000 in
theorem sX6_passWord (l : Launch) (dC : Nat → ClassId) (dI : Nat → Nat → Nat) (sz : Nat) (h0 : Nat) (tp : Nat) (bt : Nat) (dr : Nat) (q_faultKind : Int32) (q_faultPlace : Int32) (q_token : Int32) (q_start : Int32) (q_stop : Int32) (b_length : Int32) (kbt : ClassId) (fbt : Nat → Int32) (sa : Nat → Nat) (sb : Nat → Nat) (zf : Value) (wi : Nat) (gq_faultKind : gi q_faultKind 0 3) (gq_start : gi q_start 0 1600) (gq_stop : gi q_stop 0 1600) (gb_length : gi b_length 0 1600) (hwi : wi < 18) : Met l yX6_passWord (.code yX6_passWord cX6_passWord 2 none :: wsGA) ({ frames := 5, cells := 0, slots := 0, locals := 107 }) (va_Pc [.ref h0, .ref (sa wi)] (fun U => U.heap.size = sz ∧ va_P (dC, dI) vwCl [(h0, .inr (6, [.ref tp, .ref dr, .int q_faultKind, .int q_faultPlace, .int q_token, .int q_start, .int q_stop])), (tp, .inr (10, [.ref bt, .int b_length])), (bt, .inl (kbt, 1600, .inl fbt))] U.heap ∧ va_K (dC, dI) vwCl [(kbt, .byte)] U ∧ va_D (fun _ => True) [(h0, .inr (6, [.ref tp, .ref dr, .int q_faultKind, .int q_faultPlace, .int q_token, .int q_start, .int q_stop])), (tp, .inr (10, [.ref bt, .int b_length])), (bt, .inl (kbt, 1600, .inl fbt))] ∧ nzA U ∧ gz_ST RX6 stIA sa sb zf (va_A [(h0, .inr (6, [.ref tp, .ref dr, .int q_faultKind, .int q_faultPlace, .int q_token, .int q_start, .int q_stop])), (tp, .inr (10, [.ref bt, .int b_length])), (bt, .inl (kbt, 1600, .inl fbt))] sz) U U.heap)) (va_Qv (fun (u : Unit) => True) (fun _ t => ∃ (w0_2 : Int32) (w0_3 : Int32) (w0_4 : Int32) (w0_5 : Int32) (w0_6 : Int32), pb_sX6_passWord dC dI (va_A [(h0, .inr (6, [.ref tp, .ref dr, .int q_faultKind, .int q_faultPlace, .int q_token, .int q_start, .int q_stop])), (tp, .inr (10, [.ref bt, .int b_length])), (bt, .inl (kbt, 1600, .inl fbt))] sz) h0 tp bt dr q_faultKind q_faultPlace q_token q_start q_stop b_length kbt fbt sa sb zf wi w0_2 w0_3 w0_4 w0_5 w0_6 t) (va_A [(h0, .inr (6, [.ref tp, .ref dr, .int q_faultKind, .int q_faultPlace, .int q_token, .int q_start, .int q_stop])), (tp, .inr (10, [.ref bt, .int b_length])), (bt, .inl (kbt, 1600, .inl fbt))] sz)) 0 0 (va_A [(h0, .inr (6, [.ref tp, .ref dr, .int q_faultKind, .int q_faultPlace, .int q_token, .int q_start, .int q_stop])), (tp, .inr (10, [.ref bt, .int b_length])), (bt, .inl (kbt, 1600, .inl fbt))] sz) := by
  refine Met.ofW (cc := cX6_passWord) (maxL := 2) (ret := none) (by decide) rfl ?_
  intro p e s m args below meth c s₁ B hml hv
  obtain ⟨rfl, hsz, hP, hK, hD0, hz, hT⟩ := hv
  have hx := B.exec
  have hb := B.bytes
  have hr := B.returns
  have hts := atoms_spec (ws := (.code yX6_passWord cX6_passWord 2 none :: wsGA)) B.pre
  have hown : s.vm.findClass RX6 = some m.cls := findClass_of_methodNamed B.named
  have hlocks := B.notSynchronized
  subst hsz
  have hD := hD0.self (sz := s.heap.size)
  generalize hAe : va_A [(h0, .inr (6, [.ref tp, .ref dr, .int q_faultKind, .int q_faultPlace, .int q_token, .int q_start, .int q_stop])), (tp, .inr (10, [.ref bt, .int b_length])), (bt, .inl (kbt, 1600, .inl fbt))] s.heap.size = A at hD hT ⊢
  have hA : ∀ q : Nat, s.heap.size ≤ q → A q := fun q h => by rw [← hAe]; exact Or.inr h
  have hS : va_S A s.heap s.heap [] := va_S.rf
  have hl := lv_entry ([.ref h0, .ref (sa wi)]) (n := 2) (Nat.le_of_ble_eq_true rfl)
  rw [lg_entry_eq]
  generalize (lg_sl ([.ref h0, .ref (sa wi)]) ++ List.replicate (2 - (lg_sl ([.ref h0, .ref (sa wi)])).length) Slot.unset).toArray = ls at hl ⊢
  have hl : lv_has ls 2 [(0, .ref h0), (1, .ref (sa wi))] := hl
  obtain ⟨RES, hF⟩ : ∃ R9, fX6_passWord q_faultKind q_faultPlace q_token q_start q_stop b_length fbt wi = R9 := ⟨_, rfl⟩
  have hR9 := hF
  refine lv_aload_n hx hb (dk_at dkX6_passWord 0 rfl) rfl (lv_at hl 0 rfl) ?_
  refine lv_aload_n hx hb (dk_at dkX6_passWord 1 rfl) rfl (lv_at hl 0 rfl) ?_
  refine lv_aload_n hx hb (dk_at dkX6_passWord 2 rfl) rfl (lv_at hl 1 rfl) ?_
  refine va_calli (va_runV (As := [.ref (sa wi)]) (rest := [.ref h0]) ⟨hx, hb, hml, hown, hts⟩ (sX6_isWord l dC dI h0 tp bt dr q_faultKind q_faultPlace q_token q_start q_stop b_length kbt fbt sa sb zf wi gq_faultKind gq_start gq_stop gb_length hwi) (cwV 1 hts (gz_gV mGA_197 mGA_198 mGA_199 mGA_9 mGA_200 goodGA) rfl rfl rfl hdV_X6_isWord_X6_1 ⟨Nat.le_of_ble_eq_true rfl, Nat.le_of_ble_eq_true rfl⟩) ⟨bl_I (bl_a bl_P (bl_a bl_K (bl_a bl_nz bl_ST))), va_recv hK hP (ci := 6) (q0 := 0) rfl rfl, fun U hU hW => ⟨rfl, by rw [hU]; exact hP, va_K.moved hW.alike hK, nzA_warm hW hz, by rw [hU]; exact ((hT.kept hS.2.1).narrow (fun _ h => h.elim)).warm hW⟩⟩ rfl rfl hl.1 rfl (lv_room (Nat.le_of_ble_eq_true rfl)) (dk_at dkX6_passWord 3 rfl) ⟨Nat.zero_le _, Nat.zero_le _⟩) hS (fun q _ h => h.elim) (fun q h => h.elim) (fun r_17 u t H1 locs ht hvm hw hB hz1 hk1 hS => ?_)
  clear hz1
  obtain ⟨hw, hE⟩ := hw
  have hP := gz_keep hP hk1
  have hF := gf_call (a := r_17) hE hF
  generalize H1 = H at hP hS ⊢
  have gr_17 : gi r_17 0 1 := hw
  refine lv_iconst (v := 1) hx hb (dk_at dkX6_passWord 4 rfl) (by decide) ?_
  obtain ⟨hPc, hDc, hFc⟩ := gz_cut (wc := [(h0, .inr (6, [.ref tp, .ref dr, .int q_faultKind, .int q_faultPlace, .int q_token, .int q_start, .int q_stop]))]) hP hD hS hA [0] (by decide) rfl
  have hKc := hK.sub (tys' := []) [] rfl
  refine va_callv (va_runV (As := [.int r_17, .int 1]) (rest := []) ⟨hx, hb, hml, hown, hts⟩ (sX6_expect l dC dI H.size h0 tp dr q_faultKind q_faultPlace q_token q_start q_stop r_17 1 gq_faultKind gq_start gq_stop gr_17 (gi_w (gi_c 1 1 (by decide)) (by decide))) (cwV 2 hts (gz_gV mGA_250 mGA_251 mGA_252 mGA_9 mGA_253 goodGA) rfl rfl rfl hdV_X6_expect_X6_2 ⟨Nat.le_of_ble_eq_true rfl, Nat.le_of_ble_eq_true rfl⟩) ⟨bl_I (bl_a bl_sz (bl_a bl_P (bl_a bl_K (bl_a bl_c bl_nz)))), va_recv hKc hPc (ci := 6) (q0 := 0) rfl rfl, fun U hU hW => ⟨rfl, by rw [hU], by rw [hU]; exact hPc, va_K.moved hW.alike hKc, hDc.weaken (fun _ _ _ _ => trivial), nzA_warm hW hz⟩⟩ rfl rfl hl.1 rfl (lv_room (Nat.le_of_ble_eq_true rfl)) (dk_at dkX6_passWord 5 rfl) ⟨Nat.zero_le _, Nat.zero_le _⟩) hS (fun q _ h => hFc q h) hFc (fun u t H1 locs ht hvm hw hB hz1 hk1 hS => ?_)
  clear hz1
  obtain ⟨y_19, y_20, hB⟩ := hB
  obtain ⟨gy_19, hpr0_r_18, hpr1_r_18, hE, hP1, hD1⟩ := hB
  rw [ht] at hP1
  obtain ⟨hP, hD⟩ := gz_back hP hD hk1 hFc hP1 hD1 [0] rfl rfl
  have hpr0_r_18 : Hid (q_faultKind.toInt ≤ y_19.toInt) := hpr0_r_18
  have hpr1_r_18 : Hid ((r_17.toInt = 1 ∨ 1 ≤ y_19.toInt)) := hpr1_r_18
  obtain ⟨hP, hD⟩ := gz_both (w := [(h0, .inr (6, [.ref tp, .ref dr, .int y_19, .int y_20, .int q_token, .int q_start, .int q_stop])), (tp, .inr (10, [.ref bt, .int b_length])), (bt, .inl (kbt, 1600, .inl fbt))]) hP hD
  have hF := gf_call (a := (y_19, y_20)) hE hF
  generalize H1 = H at hP hS ⊢
  refine lv_aload_n hx hb (dk_at dkX6_passWord 6 rfl) rfl (lv_at hl 0 rfl) ?_
  have hFc := gz_fullF hD hS hA
  refine va_callv (va_runV (As := []) (rest := []) ⟨hx, hb, hml, hown, hts⟩ (sX6_step l dC dI H.size h0 tp bt dr y_19 y_20 q_token q_start q_stop b_length kbt fbt gy_19 gq_start gq_stop gb_length) (cwV 0 hts (gz_gV mGA_162 mGA_163 mGA_164 mGA_9 mGA_165 goodGA) rfl rfl rfl hdV_X6_step_X6_0 ⟨Nat.le_of_ble_eq_true rfl, Nat.le_of_ble_eq_true rfl⟩) ⟨bl_I (bl_a bl_sz (bl_a bl_P (bl_a bl_K (bl_a bl_c bl_nz)))), va_recv hK hP (ci := 6) (q0 := 0) rfl rfl, fun U hU hW => ⟨rfl, by rw [hU], by rw [hU]; exact hP, va_K.moved hW.alike hK, hD.weaken (fun _ _ _ _ => trivial), nzA_warm hW hz⟩⟩ rfl rfl hl.1 rfl (lv_room (Nat.le_of_ble_eq_true rfl)) (dk_at dkX6_passWord 7 rfl) ⟨Nat.zero_le _, Nat.zero_le _⟩) hS (fun q _ h => hFc q h) hFc (fun u t H1 locs ht hvm hw hB hz1 hk1 hS => ?_)
  clear hz1
  obtain ⟨y_22, y_23, y_24, hB⟩ := hB
  obtain ⟨gy_23, gy_24, hE, hP1, hD1⟩ := hB
  rw [ht] at hP1
  have hD := gz_fullD hFc hD1
  have hP := hP1
  have hF := gf_call (a := (y_22, y_23, y_24)) hE hF
  generalize H1 = H at hP hS ⊢
  exact W.vret hx hb hr (fun t ht hW => ⟨⟨(), rfl, trivial, y_19, y_20, y_22, y_23, y_24, gy_19, gy_23, gy_24, (Hid.un hpr0_r_18), hF.trans hR9.symm, by rw [ht]; exact hP, hD⟩, hS.F ht⟩) hS.2.2 (dk_at dkX6_passWord 8 rfl)
noncomputable def lsX6_passName : List (Nat × Instr × Nat) := [(0, .aload_n 0, 1), (1, .aload_n 0, 1), (2, .getfield 32, 3), (5, .iconst 2, 1), (6, .if_icmp .ne 7, 3), (9, .iconst 1, 1), (10, .goto 4, 3), (13, .iconst 0, 1), (14, .iconst 1, 1), (15, .invokevirtual 166, 3), (18, .aload_n 0, 1), (19, .aload_n 0, 1), (20, .getfield 38, 3), (23, .aload_n 0, 1), (24, .getfield 35, 3), (27, .isub, 1), (28, .bipush 6, 2), (30, .if_icmp .gt 7, 3), (33, .iconst 1, 1), (34, .goto 4, 3), (37, .iconst 0, 1), (38, .iconst 2, 1), (39, .invokevirtual 166, 3), (42, .aload_n 0, 1), (43, .invokevirtual 178, 3), (46, .istore_n 2, 1), (47, .aload_n 0, 1), (48, .aload_n 0, 1), (49, .getfield 21, 3), (52, .iload_n 2, 1), (53, .invokevirtual 148, 3), (56, .iconst (-1), 1), (57, .if_icmp .eq 7, 3), (60, .iconst 1, 1), (61, .goto 4, 3), (64, .iconst 0, 1), (65, .iload_n 1, 1), (66, .if_icmp .ne 7, 3), (69, .iconst 1, 1), (70, .goto 4, 3), (73, .iconst 0, 1), (74, .iconst 2, 1), (75, .invokevirtual 166, 3), (78, .aload_n 0, 1), (79, .invokevirtual 44, 3), (82, .iload_n 2, 1), (83, .ireturn, 1)]
theorem dkX6_passName : dkAll cX6_passName lsX6_passName = true := dk_fast (by decide +kernel)
noncomputable def bfX6_passName_74 (q_faultKind : Int32) (q_faultPlace : Int32) (q_token : Int32) (q_start : Int32) (q_stop : Int32) (b_length : Int32) (fbt : Nat → Int32) (e_placeCount : Int32) (ep_name : Nat → Int32) (p1 : Int32) (v2 : Int32) (s0 : Int32) (w0_2 : Int32) (w0_3 : Int32) (w0_4 : Int32) (w0_5 : Int32) (w0_6 : Int32) : Int32 × Int32 × Int32 × Int32 × Int32 × Int32 := cal (fun o5 => cal (fun o6 => (v2, o5.1, o5.2, o6.1, o6.2.1, o6.2.2)) (fX6_step o5.1 w0_4 w0_5 w0_6 b_length fbt)) (fX6_expect w0_2 w0_3 w0_5 s0 (2 : Int32))
noncomputable def bfX6_passName_65 (q_faultKind : Int32) (q_faultPlace : Int32) (q_token : Int32) (q_start : Int32) (q_stop : Int32) (b_length : Int32) (fbt : Nat → Int32) (e_placeCount : Int32) (ep_name : Nat → Int32) (p1 : Int32) (v2 : Int32) (s0 : Int32) (w0_2 : Int32) (w0_3 : Int32) (w0_4 : Int32) (w0_5 : Int32) (w0_6 : Int32) : Int32 × Int32 × Int32 × Int32 × Int32 × Int32 := if s0 = p1 then (bfX6_passName_74 q_faultKind q_faultPlace q_token q_start q_stop b_length fbt e_placeCount ep_name p1 v2 (1 : Int32) w0_2 w0_3 w0_4 w0_5 w0_6) else (bfX6_passName_74 q_faultKind q_faultPlace q_token q_start q_stop b_length fbt e_placeCount ep_name p1 v2 (0 : Int32) w0_2 w0_3 w0_4 w0_5 w0_6)
noncomputable def bfX6_passName_38 (q_faultKind : Int32) (q_faultPlace : Int32) (q_token : Int32) (q_start : Int32) (q_stop : Int32) (b_length : Int32) (fbt : Nat → Int32) (e_placeCount : Int32) (ep_name : Nat → Int32) (p1 : Int32) (s0 : Int32) (w0_2 : Int32) (w0_3 : Int32) (w0_4 : Int32) (w0_5 : Int32) (w0_6 : Int32) : Int32 × Int32 × Int32 × Int32 × Int32 × Int32 := cal (fun o2 => cal (fun o3 => cal (fun o4 => if o4 = (-1 : Int32) then (bfX6_passName_65 q_faultKind q_faultPlace q_token q_start q_stop b_length fbt e_placeCount ep_name p1 o3 (0 : Int32) o2.1 o2.2 w0_4 w0_5 w0_6) else (bfX6_passName_65 q_faultKind q_faultPlace q_token q_start q_stop b_length fbt e_placeCount ep_name p1 o3 (1 : Int32) o2.1 o2.2 w0_4 w0_5 w0_6)) (fX0_placeNamed e_placeCount ep_name o3)) (fX6_nameHere w0_5 w0_6 b_length fbt)) (fX6_expect w0_2 w0_3 w0_5 s0 (2 : Int32))
noncomputable def bfX6_passName_14 (q_faultKind : Int32) (q_faultPlace : Int32) (q_token : Int32) (q_start : Int32) (q_stop : Int32) (b_length : Int32) (fbt : Nat → Int32) (e_placeCount : Int32) (ep_name : Nat → Int32) (p1 : Int32) (s0 : Int32) (w0_2 : Int32) (w0_3 : Int32) (w0_4 : Int32) (w0_5 : Int32) (w0_6 : Int32) : Int32 × Int32 × Int32 × Int32 × Int32 × Int32 := cal (fun o1 => if (6 : Int32) < (w0_6 - w0_5) then (bfX6_passName_38 q_faultKind q_faultPlace q_token q_start q_stop b_length fbt e_placeCount ep_name p1 (0 : Int32) o1.1 o1.2 w0_4 w0_5 w0_6) else (bfX6_passName_38 q_faultKind q_faultPlace q_token q_start q_stop b_length fbt e_placeCount ep_name p1 (1 : Int32) o1.1 o1.2 w0_4 w0_5 w0_6)) (fX6_expect w0_2 w0_3 w0_5 s0 (1 : Int32))
noncomputable def fX6_passName (q_faultKind : Int32) (q_faultPlace : Int32) (q_token : Int32) (q_start : Int32) (q_stop : Int32) (b_length : Int32) (fbt : Nat → Int32) (e_placeCount : Int32) (ep_name : Nat → Int32) (p1 : Int32) : Int32 × Int32 × Int32 × Int32 × Int32 × Int32 := if q_token = (2 : Int32) then (bfX6_passName_14 q_faultKind q_faultPlace q_token q_start q_stop b_length fbt e_placeCount ep_name p1 (1 : Int32) q_faultKind q_faultPlace q_token q_start q_stop) else (bfX6_passName_14 q_faultKind q_faultPlace q_token q_start q_stop b_length fbt e_placeCount ep_name p1 (0 : Int32) q_faultKind q_faultPlace q_token q_start q_stop)
abbrev pb_sX6_passName (dC : Nat → ClassId) (dI : Nat → Nat → Nat) (A9 : Nat → Prop) (h0 : Nat) (tp : Nat) (bt : Nat) (dr : Nat) (dpl : Nat) (q_faultKind : Int32) (q_faultPlace : Int32) (q_token : Int32) (q_start : Int32) (q_stop : Int32) (b_length : Int32) (kbt : ClassId) (fbt : Nat → Int32) (e_months : Int32) (e_full : Int32) (e_lean : Int32) (e_lines : Int32) (e_hasMoon : Int32) (e_moonStart : Int32) (e_moonStep : Int32) (e_placeCount : Int32) (e_reportCount : Int32) (e_deedCount : Int32) (dre : Nat) (dde : Nat) (kdpl : ClassId) (dpa : Nat → Nat) (ep_name : Nat → Int32) (ep_trust : Nat → Int32) (p1 : Int32) (r : Int32) (w0_2 : Int32) (w0_3 : Int32) (w0_4 : Int32) (w0_5 : Int32) (w0_6 : Int32) (t : State) : Prop := gi w0_2 0 3 ∧ gi w0_5 0 1600 ∧ gi w0_6 0 1600 ∧ q_faultKind.toInt ≤ w0_2.toInt ∧ (w0_2.toInt ≠ 0 ∨ p1.toInt = 0 ∨ pnF ep_name e_placeCount r ≠ -1) ∧ (r, w0_2, w0_3, w0_4, w0_5, w0_6) = fX6_passName q_faultKind q_faultPlace q_token q_start q_stop b_length fbt e_placeCount ep_name p1 ∧ va_P (dC, dI) vwCl [(h0, .inr (6, [.ref tp, .ref dr, .int w0_2, .int w0_3, .int w0_4, .int w0_5, .int w0_6])), (tp, .inr (10, [.ref bt, .int b_length])), (bt, .inl (kbt, 1600, .inl fbt))] t.heap ∧ va_D A9 [(h0, .inr (6, [.ref tp, .ref dr, .int w0_2, .int w0_3, .int w0_4, .int w0_5, .int w0_6])), (tp, .inr (10, [.ref bt, .int b_length])), (bt, .inl (kbt, 1600, .inl fbt))]
set_option maxHeartbeats 4000000 in
set_option maxRecDepth 100000 in
theorem sX6_passName (l : Launch) (dC : Nat → ClassId) (dI : Nat → Nat → Nat) (sz : Nat) (h0 : Nat) (tp : Nat) (bt : Nat) (dr : Nat) (dpl : Nat) (q_faultKind : Int32) (q_faultPlace : Int32) (q_token : Int32) (q_start : Int32) (q_stop : Int32) (b_length : Int32) (kbt : ClassId) (fbt : Nat → Int32) (e_months : Int32) (e_full : Int32) (e_lean : Int32) (e_lines : Int32) (e_hasMoon : Int32) (e_moonStart : Int32) (e_moonStep : Int32) (e_placeCount : Int32) (e_reportCount : Int32) (e_deedCount : Int32) (dre : Nat) (dde : Nat) (kdpl : ClassId) (dpa : Nat → Nat) (ep_name : Nat → Int32) (ep_trust : Nat → Int32) (p1 : Int32) (gq_faultKind : gi q_faultKind 0 3) (gq_start : gi q_start 0 1600) (gq_stop : gi q_stop 0 1600) (gb_length : gi b_length 0 1600) (ge_months : gi e_months 0 24) (ge_full : gi e_full 0 5) (ge_lean : gi e_lean 0 5) (ge_hasMoon : gi e_hasMoon 0 1) (ge_placeCount : gi e_placeCount 0 6) (ge_reportCount : gi e_reportCount 0 24) (ge_deedCount : gi e_deedCount 0 8) (gp1 : gi p1 0 1) : Met l yX6_passName (.code yX6_passName cX6_passName 3 (some .int) :: wsGA) ({ frames := 2, cells := 0, slots := 0, locals := 44 }) (va_Pc [.ref h0, .int p1] (fun U => U.heap.size = sz ∧ va_P (dC, dI) vwCl [(h0, .inr (6, [.ref tp, .ref dr, .int q_faultKind, .int q_faultPlace, .int q_token, .int q_start, .int q_stop])), (tp, .inr (10, [.ref bt, .int b_length])), (bt, .inl (kbt, 1600, .inl fbt))] U.heap ∧ va_K (dC, dI) vwCl [(kbt, .byte), (kdpl, .object RX5)] U ∧ va_D (fun _ => True) [(h0, .inr (6, [.ref tp, .ref dr, .int q_faultKind, .int q_faultPlace, .int q_token, .int q_start, .int q_stop])), (tp, .inr (10, [.ref bt, .int b_length])), (bt, .inl (kbt, 1600, .inl fbt))] ∧ nzA U ∧ va_P (dC, dI) vwCl [(dr, .inr (0, [.int e_months, .int e_full, .int e_lean, .int e_lines, .int e_hasMoon, .int e_moonStart, .int e_moonStep, .int e_placeCount, .int e_reportCount, .int e_deedCount, .ref dpl, .ref dre, .ref dde])), (dpl, .inl (kdpl, 6, .inr (.inr (.inr (.inr (fun i => some (dpa i)))))))] U.heap ∧ gz_ap (va_A [(h0, .inr (6, [.ref tp, .ref dr, .int q_faultKind, .int q_faultPlace, .int q_token, .int q_start, .int q_stop])), (tp, .inr (10, [.ref bt, .int b_length])), (bt, .inl (kbt, 1600, .inl fbt))] sz) [(dr, .inr (0, [.int e_months, .int e_full, .int e_lean, .int e_lines, .int e_hasMoon, .int e_moonStart, .int e_moonStep, .int e_placeCount, .int e_reportCount, .int e_deedCount, .ref dpl, .ref dre, .ref dde])), (dpl, .inl (kdpl, 6, .inr (.inr (.inr (.inr (fun i => some (dpa i)))))))] ∧ va_P (dC, dI) vwCl (gz_fam 6 dpa 5 (fun i => [.int (ep_name i), .int (ep_trust i)])) U.heap ∧ gz_ap (va_A [(h0, .inr (6, [.ref tp, .ref dr, .int q_faultKind, .int q_faultPlace, .int q_token, .int q_start, .int q_stop])), (tp, .inr (10, [.ref bt, .int b_length])), (bt, .inl (kbt, 1600, .inl fbt))] sz) (gz_fam 6 dpa 5 (fun i => [.int (ep_name i), .int (ep_trust i)])))) (va_Qi (fun (r : Int32) (u : Int32) => r = u ∧ gi r (-2147483648) 2147483647) (fun r t => ∃ (w0_2 : Int32) (w0_3 : Int32) (w0_4 : Int32) (w0_5 : Int32) (w0_6 : Int32), pb_sX6_passName dC dI (va_A [(h0, .inr (6, [.ref tp, .ref dr, .int q_faultKind, .int q_faultPlace, .int q_token, .int q_start, .int q_stop])), (tp, .inr (10, [.ref bt, .int b_length])), (bt, .inl (kbt, 1600, .inl fbt))] sz) h0 tp bt dr dpl q_faultKind q_faultPlace q_token q_start q_stop b_length kbt fbt e_months e_full e_lean e_lines e_hasMoon e_moonStart e_moonStep e_placeCount e_reportCount e_deedCount dre dde kdpl dpa ep_name ep_trust p1 r w0_2 w0_3 w0_4 w0_5 w0_6 t) (va_A [(h0, .inr (6, [.ref tp, .ref dr, .int q_faultKind, .int q_faultPlace, .int q_token, .int q_start, .int q_stop])), (tp, .inr (10, [.ref bt, .int b_length])), (bt, .inl (kbt, 1600, .inl fbt))] sz)) 0 0 (va_A [(h0, .inr (6, [.ref tp, .ref dr, .int q_faultKind, .int q_faultPlace, .int q_token, .int q_start, .int q_stop])), (tp, .inr (10, [.ref bt, .int b_length])), (bt, .inl (kbt, 1600, .inl fbt))] sz) := by
  refine Met.ofW (cc := cX6_passName) (maxL := 3) (ret := (some .int)) (by decide) rfl ?_
  intro p e s m args below meth c s₁ B hml hv
  obtain ⟨rfl, hsz, hP, hK, hD0, hz, hR, hRA, hF0, hFA0⟩ := hv
  have hx := B.exec
  have hb := B.bytes
  have hr := B.returns
  have hts := atoms_spec (ws := (.code yX6_passName cX6_passName 3 (some .int) :: wsGA)) B.pre
  have hown : s.vm.findClass RX6 = some m.cls := findClass_of_methodNamed B.named
  have hlocks := B.notSynchronized
  subst hsz
  have hD := hD0.self (sz := s.heap.size)
  generalize hAe : va_A [(h0, .inr (6, [.ref tp, .ref dr, .int q_faultKind, .int q_faultPlace, .int q_token, .int q_start, .int q_stop])), (tp, .inr (10, [.ref bt, .int b_length])), (bt, .inl (kbt, 1600, .inl fbt))] s.heap.size = A at hD hRA hFA0 ⊢
  have hA : ∀ q : Nat, s.heap.size ≤ q → A q := fun q h => by rw [← hAe]; exact Or.inr h
  have hS : va_S A s.heap s.heap [] := va_S.rf
  have hl := lv_entry ([.ref h0, .int p1]) (n := 3) (Nat.le_of_ble_eq_true rfl)
  rw [lg_entry_eq]
  generalize (lg_sl ([.ref h0, .int p1]) ++ List.replicate (3 - (lg_sl ([.ref h0, .int p1])).length) Slot.unset).toArray = ls at hl ⊢
  have hl : lv_has ls 3 [(0, .ref h0), (1, .int p1)] := hl
  obtain ⟨RES, hF⟩ : ∃ R9, fX6_passName q_faultKind q_faultPlace q_token q_start q_stop b_length fbt e_placeCount ep_name p1 = R9 := ⟨_, rfl⟩
  have hR9 := hF
  refine lv_aload_n hx hb (dk_at dkX6_passName 0 rfl) rfl (lv_at hl 0 rfl) ?_
  refine lv_aload_n hx hb (dk_at dkX6_passName 1 rfl) rfl (lv_at hl 0 rfl) ?_
  refine va_get (D := (dC, dI)) (ci := 6) (v := .int q_token) (C := RX6) (T := TX6) (N := 7) hx hb hts (fun w h => List.mem_cons_of_mem _ (jnGA_X6 w h)) hown hK hP 0 rfl rfl 4 (by decide) (hts _ (List.mem_cons_of_mem _ mGA_57)) (fun _ h9 => h9) rfl (dk_at dkX6_passName 2 rfl) ?_
  refine lv_iconst (v := 2) hx hb (dk_at dkX6_passName 3 rfl) (by decide) ?_
  refine lv_icmp_ne (tgt := 13) hx hb (dk_at dkX6_passName 4 rfl) (by decide) (fun c_471 => ?_) (fun c_471 => ?_)
  · have hF := gf_neg c_471 hF
    have hc_472 : q_token.toInt ≠ 2 := fun h9 => c_471 (Int32.toInt_inj.mp (by rw [show (2 : Int32).toInt = 2 from by decide]; exact h9))
    refine lv_iconst (v := 0) hx hb (dk_at dkX6_passName 7 rfl) (by decide) ?_
    refine lv_iconst (v := 1) hx hb (dk_at dkX6_passName 8 rfl) (by decide) ?_
    obtain ⟨hPc, hDc, hFc⟩ := gz_cut (wc := [(h0, .inr (6, [.ref tp, .ref dr, .int q_faultKind, .int q_faultPlace, .int q_token, .int q_start, .int q_stop]))]) hP hD hS hA [0] (by decide) rfl
    have hKc := hK.sub (tys' := []) [] rfl
    refine va_callv (va_runV (As := [.int 0, .int 1]) (rest := []) ⟨hx, hb, hml, hown, hts⟩ (sX6_expect l dC dI s.heap.size h0 tp dr q_faultKind q_faultPlace q_token q_start q_stop 0 1 gq_faultKind gq_start gq_stop (gi_w (gi_c 0 0 (by decide)) (by decide)) (gi_w (gi_c 1 1 (by decide)) (by decide))) (cwV 2 hts (gz_gV mGA_250 mGA_251 mGA_252 mGA_9 mGA_253 goodGA) rfl rfl rfl hdV_X6_expect_X6_2 ⟨Nat.le_of_ble_eq_true rfl, Nat.le_of_ble_eq_true rfl⟩) ⟨bl_I (bl_a bl_sz (bl_a bl_P (bl_a bl_K (bl_a bl_c bl_nz)))), va_recv hKc hPc (ci := 6) (q0 := 0) rfl rfl, fun U hU hW => ⟨rfl, by rw [hU], by rw [hU]; exact hPc, va_K.moved hW.alike hKc, hDc.weaken (fun _ _ _ _ => trivial), nzA_warm hW hz⟩⟩ rfl rfl hl.1 rfl (lv_room (Nat.le_of_ble_eq_true rfl)) (dk_at dkX6_passName 9 rfl) ⟨Nat.zero_le _, Nat.zero_le _⟩) hS (fun q _ h => hFc q h) hFc (fun u t H1 locs ht hvm hw hB hz1 hk1 hS => ?_)
    clear hz1
    obtain ⟨y_474, y_475, hB⟩ := hB
    obtain ⟨gy_474, hpr0_r_473, hpr1_r_473, hE, hP1, hD1⟩ := hB
    rw [ht] at hP1
    obtain ⟨hP, hD⟩ := gz_back hP hD hk1 hFc hP1 hD1 [0] rfl rfl
    have hpr0_r_473 : Hid (q_faultKind.toInt ≤ y_474.toInt) := hpr0_r_473
    have hpr1_r_473 : Hid (((0 : Int) = 1 ∨ 1 ≤ y_474.toInt)) := by have h9 : ((0 : Int32).toInt = 1 ∨ 1 ≤ y_474.toInt) := hpr1_r_473; rw [show (0 : Int32).toInt = 0 from by decide] at h9; exact h9
    have hf_476 : 1 ≤ y_474.toInt := Hid.resL hpr1_r_473 (by omega)
    have g_477 : gi y_474 1 3 := ⟨by omega, gy_474.2⟩
    obtain ⟨hP, hD⟩ := gz_both (w := [(h0, .inr (6, [.ref tp, .ref dr, .int y_474, .int y_475, .int q_token, .int q_start, .int q_stop])), (tp, .inr (10, [.ref bt, .int b_length])), (bt, .inl (kbt, 1600, .inl fbt))]) hP hD
    have hF := gf_call (a := (y_474, y_475)) hE hF
    generalize H1 = H at hP hS ⊢
    refine lv_aload_n hx hb (dk_at dkX6_passName 10 rfl) rfl (lv_at hl 0 rfl) ?_
    refine lv_aload_n hx hb (dk_at dkX6_passName 11 rfl) rfl (lv_at hl 0 rfl) ?_
    refine va_get (D := (dC, dI)) (ci := 6) (v := .int q_stop) (C := RX6) (T := TX6) (N := 7) hx hb hts (fun w h => List.mem_cons_of_mem _ (jnGA_X6 w h)) hown hK hP 0 rfl rfl 6 (by decide) (hts _ (List.mem_cons_of_mem _ mGA_59)) (fun _ h9 => h9) rfl (dk_at dkX6_passName 12 rfl) ?_
    refine lv_aload_n hx hb (dk_at dkX6_passName 13 rfl) rfl (lv_at hl 0 rfl) ?_
    refine va_get (D := (dC, dI)) (ci := 6) (v := .int q_start) (C := RX6) (T := TX6) (N := 7) hx hb hts (fun w h => List.mem_cons_of_mem _ (jnGA_X6 w h)) hown hK hP 0 rfl rfl 5 (by decide) (hts _ (List.mem_cons_of_mem _ mGA_58)) (fun _ h9 => h9) rfl (dk_at dkX6_passName 14 rfl) ?_
    refine lv_isub hx hb (dk_at dkX6_passName 15 rfl) ?_
    refine lv_topi (fun x_478 ex_478 => ?_)
    have gx_478 : gi x_478 (-1600) 1600 := gi_sub ex_478 gq_stop gq_start (by decide)
    refine lv_bipush (v := 6) hx hb (dk_at dkX6_passName 16 rfl) (by decide) ?_
    refine lv_icmp_gt (tgt := 37) hx hb (dk_at dkX6_passName 17 rfl) (by decide) (fun c_479 => ?_) (fun c_479 => ?_)
    · have hF := gf_pos (by rw [ex_478] at c_479; exact c_479) hF
      have hc_480 : 6 < x_478.toInt := by have h9 := Int32.lt_iff_toInt_lt.mp c_479; rw [show (6 : Int32).toInt = 6 from by decide] at h9; exact h9
      have g_481 : gi x_478 7 1600 := gi_lt_r c_479 (gi_c 6 6 (by decide)) gx_478 (by decide)
      refine lv_iconst (v := 0) hx hb (dk_at dkX6_passName 20 rfl) (by decide) ?_
      refine lv_iconst (v := 2) hx hb (dk_at dkX6_passName 21 rfl) (by decide) ?_
      obtain ⟨hPc, hDc, hFc⟩ := gz_cut (wc := [(h0, .inr (6, [.ref tp, .ref dr, .int y_474, .int y_475, .int q_token, .int q_start, .int q_stop]))]) hP hD hS hA [0] (by decide) rfl
      have hKc := hK.sub (tys' := []) [] rfl
      refine va_callv (va_runV (As := [.int 0, .int 2]) (rest := []) ⟨hx, hb, hml, hown, hts⟩ (sX6_expect l dC dI H.size h0 tp dr y_474 y_475 q_token q_start q_stop 0 2 (gi_w g_477 (by decide)) gq_start gq_stop (gi_w (gi_c 0 0 (by decide)) (by decide)) (gi_w (gi_c 2 2 (by decide)) (by decide))) (cwV 2 hts (gz_gV mGA_250 mGA_251 mGA_252 mGA_9 mGA_253 goodGA) rfl rfl rfl hdV_X6_expect_X6_2 ⟨Nat.le_of_ble_eq_true rfl, Nat.le_of_ble_eq_true rfl⟩) ⟨bl_I (bl_a bl_sz (bl_a bl_P (bl_a bl_K (bl_a bl_c bl_nz)))), va_recv hKc hPc (ci := 6) (q0 := 0) rfl rfl, fun U hU hW => ⟨rfl, by rw [hU], by rw [hU]; exact hPc, va_K.moved hW.alike hKc, hDc.weaken (fun _ _ _ _ => trivial), nzA_warm hW hz⟩⟩ rfl rfl hl.1 rfl (lv_room (Nat.le_of_ble_eq_true rfl)) (dk_at dkX6_passName 22 rfl) ⟨Nat.zero_le _, Nat.zero_le _⟩) hS (fun q _ h => hFc q h) hFc (fun u t H1 locs ht hvm hw hB hz1 hk1 hS => ?_)
      clear hz1
      obtain ⟨y_483, y_484, hB⟩ := hB
      obtain ⟨gy_483, hpr0_r_482, hpr1_r_482, hE, hP1, hD1⟩ := hB
      rw [ht] at hP1
      obtain ⟨hP, hD⟩ := gz_back hP hD hk1 hFc hP1 hD1 [0] rfl rfl
      have hpr0_r_482 : Hid (y_474.toInt ≤ y_483.toInt) := hpr0_r_482
      have g_485 : gi y_483 1 3 := gi_relL (Hid.un hpr0_r_482) g_477 gy_483
      have hpr1_r_482 : Hid (((0 : Int) = 1 ∨ 1 ≤ y_483.toInt)) := by have h9 : ((0 : Int32).toInt = 1 ∨ 1 ≤ y_483.toInt) := hpr1_r_482; rw [show (0 : Int32).toInt = 0 from by decide] at h9; exact h9
      have hf_486 : 1 ≤ y_483.toInt := Hid.resL hpr1_r_482 (by omega)
      obtain ⟨hP, hD⟩ := gz_both (w := [(h0, .inr (6, [.ref tp, .ref dr, .int y_483, .int y_484, .int q_token, .int q_start, .int q_stop])), (tp, .inr (10, [.ref bt, .int b_length])), (bt, .inl (kbt, 1600, .inl fbt))]) hP hD
      have hF := gf_call (a := (y_483, y_484)) hE hF
      generalize H1 = H at hP hS ⊢
      refine lv_aload_n hx hb (dk_at dkX6_passName 23 rfl) rfl (lv_at hl 0 rfl) ?_
      have hKc := hK.sub (tys' := [(kbt, .byte)]) [0] rfl
      refine va_calli (va_runV (As := []) (rest := []) ⟨hx, hb, hml, hown, hts⟩ (sX6_nameHere l dC dI h0 tp bt dr y_483 y_484 q_token q_start q_stop b_length kbt fbt (gi_w g_485 (by decide)) gq_start gq_stop gb_length) (cwV 0 hts (gz_gV mGA_294 mGA_295 mGA_296 mGA_9 mGA_297 goodGA) rfl rfl rfl hdV_X6_nameHere_X6_0 ⟨Nat.le_of_ble_eq_true rfl, Nat.le_of_ble_eq_true rfl⟩) ⟨bl_I (bl_a bl_P (bl_a bl_K bl_nz)), va_recv hKc hP (ci := 6) (q0 := 0) rfl rfl, fun U hU hW => ⟨rfl, by rw [hU]; exact hP, va_K.moved hW.alike hKc, nzA_warm hW hz⟩⟩ rfl rfl hl.1 rfl (lv_room (Nat.le_of_ble_eq_true rfl)) (dk_at dkX6_passName 24 rfl) ⟨Nat.zero_le _, Nat.zero_le _⟩) hS (fun q _ h => h.elim) (fun q h => h.elim) (fun r_487 u t H1 locs ht hvm hw hB hz1 hk1 hS => ?_)
      clear hz1
      obtain ⟨hw, hE⟩ := hw
      have hP := gz_keep hP hk1
      have hF := gf_call (a := r_487) hE hF
      generalize H1 = H at hP hS ⊢
      refine lv_istore_n (lv' := [(2, .int r_487), (0, .ref h0), (1, .int p1)]) hx hb (dk_at dkX6_passName 25 rfl) rfl hl (by decide) rfl (fun ls hl => ?_)
      refine lv_aload_n hx hb (dk_at dkX6_passName 26 rfl) rfl (lv_at hl 1 rfl) ?_
      refine lv_aload_n hx hb (dk_at dkX6_passName 27 rfl) rfl (lv_at hl 1 rfl) ?_
      refine va_get (D := (dC, dI)) (ci := 6) (v := .ref dr) (C := RX6) (T := TX6) (N := 7) hx hb hts (fun w h => List.mem_cons_of_mem _ (jnGA_X6 w h)) hown hK hP 0 rfl rfl 1 (by decide) (hts _ (List.mem_cons_of_mem _ mGA_54)) (fun _ h9 => h9) rfl (dk_at dkX6_passName 28 rfl) ?_
      refine lv_iload_n hx hb (dk_at dkX6_passName 29 rfl) rfl (lv_at hl 0 rfl) ?_
      have hPc : va_P (dC, dI) vwCl [(dr, .inr (0, [.int e_months, .int e_full, .int e_lean, .int e_lines, .int e_hasMoon, .int e_moonStart, .int e_moonStep, .int e_placeCount, .int e_reportCount, .int e_deedCount, .ref dpl, .ref dre, .ref dde])), (dpl, .inl (kdpl, 6, .inr (.inr (.inr (.inr (fun i => some (dpa i)))))))] H := (gz_cat ((gz_ro hR hRA hS).sub [0] rfl) ((gz_ro hR hRA hS).sub [1] rfl))
      have hKc := hK.sub (tys' := [(kdpl, .object RX5)]) [1] rfl
      refine va_calli (va_runV (As := [.int r_487]) (rest := [.ref h0]) ⟨hx, hb, hml, hown, hts⟩ (sX0_placeNamedF l dC dI dr dpl e_months e_full e_lean e_lines e_hasMoon e_moonStart e_moonStep e_placeCount e_reportCount e_deedCount dre dde kdpl dpa ep_name ep_trust r_487 ge_months ge_full ge_lean ge_hasMoon ge_placeCount ge_reportCount ge_deedCount) (cwV 1 hts (gz_gV mGA_298 mGA_299 mGA_300 mGA_13 mGA_301 goodGA) rfl rfl rfl hdV_X0_placeNamed_X0_1 ⟨Nat.le_of_ble_eq_true rfl, Nat.le_of_ble_eq_true rfl⟩) ⟨bl_I (bl_a bl_P (bl_a bl_K (bl_a bl_nz bl_P))), va_recv hKc hPc (ci := 0) (q0 := 0) rfl rfl, fun U hU hW => ⟨rfl, by rw [hU]; exact hPc, va_K.moved hW.alike hKc, nzA_warm hW hz, by rw [hU]; exact gz_ro hF0 hFA0 hS⟩⟩ rfl rfl hl.1 rfl (lv_room (Nat.le_of_ble_eq_true rfl)) (dk_at dkX6_passName 30 rfl) ⟨Nat.zero_le _, Nat.zero_le _⟩) hS (fun q _ h => h.elim) (fun q h => h.elim) (fun r_488 u t H1 locs ht hvm hw hB hz1 hk1 hS => ?_)
      clear hz1
      obtain ⟨hw, hE⟩ := hw
      have hP := gz_keep hP hk1
      have hF := gf_call (a := r_488) hE hF
      generalize H1 = H at hP hS ⊢
      have gr_488 : gi r_488 (-1) 5 := hw.1
      have hqr_488 := hw.2
      have hqr_488 : Hid (r_488.toInt = pnF ep_name e_placeCount r_487) := hqr_488
      clear hw
      refine lv_iconst (v := (-1)) hx hb (dk_at dkX6_passName 31 rfl) (by decide) ?_
      refine lv_icmp_eq (tgt := 64) hx hb (dk_at dkX6_passName 32 rfl) (by decide) (fun c_489 => ?_) (fun c_489 => ?_)
      · have hF := gf_pos c_489 hF
        have hc_490 : r_488.toInt = (-1) := by have h9 := congrArg Int32.toInt c_489; rw [show ((-1) : Int32).toInt = (-1) from by decide] at h9; exact h9
        have g_491 : gi r_488 (-1) (-1) := gi_eq c_489 (gi_c (-1) (-1) (by decide))
        refine lv_iconst (v := 0) hx hb (dk_at dkX6_passName 35 rfl) (by decide) ?_
        refine lv_iload_n hx hb (dk_at dkX6_passName 36 rfl) rfl (lv_at hl 2 rfl) ?_
        refine lv_icmp_ne (tgt := 73) hx hb (dk_at dkX6_passName 37 rfl) (by decide) (fun c_492 => ?_) (fun c_492 => ?_)
        · have hF := gf_neg c_492 hF
          have hc_493 : 0 ≠ p1.toInt := fun h9 => c_492 (Int32.toInt_inj.mp (by rw [show (0 : Int32).toInt = 0 from by decide]; exact h9))
          refine lv_iconst (v := 0) hx hb (dk_at dkX6_passName 40 rfl) (by decide) ?_
          refine lv_iconst (v := 2) hx hb (dk_at dkX6_passName 41 rfl) (by decide) ?_
          obtain ⟨hPc, hDc, hFc⟩ := gz_cut (wc := [(h0, .inr (6, [.ref tp, .ref dr, .int y_483, .int y_484, .int q_token, .int q_start, .int q_stop]))]) hP hD hS hA [0] (by decide) rfl
          have hKc := hK.sub (tys' := []) [] rfl
          refine va_callv (va_runV (As := [.int 0, .int 2]) (rest := []) ⟨hx, hb, hml, hown, hts⟩ (sX6_expect l dC dI H.size h0 tp dr y_483 y_484 q_token q_start q_stop 0 2 (gi_w g_485 (by decide)) gq_start gq_stop (gi_w (gi_c 0 0 (by decide)) (by decide)) (gi_w (gi_c 2 2 (by decide)) (by decide))) (cwV 2 hts (gz_gV mGA_250 mGA_251 mGA_252 mGA_9 mGA_253 goodGA) rfl rfl rfl hdV_X6_expect_X6_2 ⟨Nat.le_of_ble_eq_true rfl, Nat.le_of_ble_eq_true rfl⟩) ⟨bl_I (bl_a bl_sz (bl_a bl_P (bl_a bl_K (bl_a bl_c bl_nz)))), va_recv hKc hPc (ci := 6) (q0 := 0) rfl rfl, fun U hU hW => ⟨rfl, by rw [hU], by rw [hU]; exact hPc, va_K.moved hW.alike hKc, hDc.weaken (fun _ _ _ _ => trivial), nzA_warm hW hz⟩⟩ rfl rfl hl.1 rfl (lv_room (Nat.le_of_ble_eq_true rfl)) (dk_at dkX6_passName 42 rfl) ⟨Nat.zero_le _, Nat.zero_le _⟩) hS (fun q _ h => hFc q h) hFc (fun u t H1 locs ht hvm hw hB hz1 hk1 hS => ?_)
          clear hz1
          obtain ⟨y_495, y_496, hB⟩ := hB
          obtain ⟨gy_495, hpr0_r_494, hpr1_r_494, hE, hP1, hD1⟩ := hB
          rw [ht] at hP1
          obtain ⟨hP, hD⟩ := gz_back hP hD hk1 hFc hP1 hD1 [0] rfl rfl
          have hpr0_r_494 : Hid (y_483.toInt ≤ y_495.toInt) := hpr0_r_494
          have g_497 : gi y_495 1 3 := gi_relL (Hid.un hpr0_r_494) g_485 gy_495
          have hpr1_r_494 : Hid (((0 : Int) = 1 ∨ 1 ≤ y_495.toInt)) := by have h9 : ((0 : Int32).toInt = 1 ∨ 1 ≤ y_495.toInt) := hpr1_r_494; rw [show (0 : Int32).toInt = 0 from by decide] at h9; exact h9
          have hf_498 : 1 ≤ y_495.toInt := Hid.resL hpr1_r_494 (by omega)
          obtain ⟨hP, hD⟩ := gz_both (w := [(h0, .inr (6, [.ref tp, .ref dr, .int y_495, .int y_496, .int q_token, .int q_start, .int q_stop])), (tp, .inr (10, [.ref bt, .int b_length])), (bt, .inl (kbt, 1600, .inl fbt))]) hP hD
          have hF := gf_call (a := (y_495, y_496)) hE hF
          generalize H1 = H at hP hS ⊢
          refine lv_aload_n hx hb (dk_at dkX6_passName 43 rfl) rfl (lv_at hl 1 rfl) ?_
          have hKc := hK.sub (tys' := [(kbt, .byte)]) [0] rfl
          have hFc := gz_fullF hD hS hA
          refine va_callv (va_runV (As := []) (rest := []) ⟨hx, hb, hml, hown, hts⟩ (sX6_step l dC dI H.size h0 tp bt dr y_495 y_496 q_token q_start q_stop b_length kbt fbt (gi_w g_497 (by decide)) gq_start gq_stop gb_length) (cwV 0 hts (gz_gV mGA_162 mGA_163 mGA_164 mGA_9 mGA_165 goodGA) rfl rfl rfl hdV_X6_step_X6_0 ⟨Nat.le_of_ble_eq_true rfl, Nat.le_of_ble_eq_true rfl⟩) ⟨bl_I (bl_a bl_sz (bl_a bl_P (bl_a bl_K (bl_a bl_c bl_nz)))), va_recv hKc hP (ci := 6) (q0 := 0) rfl rfl, fun U hU hW => ⟨rfl, by rw [hU], by rw [hU]; exact hP, va_K.moved hW.alike hKc, hD.weaken (fun _ _ _ _ => trivial), nzA_warm hW hz⟩⟩ rfl rfl hl.1 rfl (lv_room (Nat.le_of_ble_eq_true rfl)) (dk_at dkX6_passName 44 rfl) ⟨Nat.zero_le _, Nat.zero_le _⟩) hS (fun q _ h => hFc q h) hFc (fun u t H1 locs ht hvm hw hB hz1 hk1 hS => ?_)
          clear hz1
          obtain ⟨y_500, y_501, y_502, hB⟩ := hB
          obtain ⟨gy_501, gy_502, hE, hP1, hD1⟩ := hB
          rw [ht] at hP1
          have hD := gz_fullD hFc hD1
          have hP := hP1
          have hF := gf_call (a := (y_500, y_501, y_502)) hE hF
          generalize H1 = H at hP hS ⊢
          refine lv_iload_n hx hb (dk_at dkX6_passName 45 rfl) rfl (lv_at hl 0 rfl) ?_
          exact W.iret (v := r_487) hx hb hr (fun t ht hW => ⟨⟨r_487, r_487, rfl, ⟨rfl, (gi_any r_487)⟩, y_495, y_496, y_500, y_501, y_502, (gi_w g_497 (by decide)), gy_501, gy_502, (show q_faultKind.toInt ≤ y_495.toInt from (Int.le_trans (Hid.un hpr0_r_473) (Int.le_trans (Hid.un hpr0_r_482) (Hid.un hpr0_r_494)))), (show (y_495.toInt ≠ 0 ∨ p1.toInt = 0 ∨ pnF ep_name e_placeCount r_487 ≠ -1) from (Or.inl (gz_isnc g_497 (by decide)))), hF.trans hR9.symm, by rw [ht]; exact hP, hD⟩, hS.F ht⟩) hS.2.2 (dk_at dkX6_passName 46 rfl)
        · have hF := gf_pos c_492 hF
          have hc_503 : 0 = p1.toInt := by have h9 := congrArg Int32.toInt c_492; rw [show (0 : Int32).toInt = 0 from by decide] at h9; exact h9
          have g_504 : gi p1 0 0 := gi_eq c_492.symm (gi_c 0 0 (by decide))
          refine lv_iconst (v := 1) hx hb (dk_at dkX6_passName 38 rfl) (by decide) ?_
          refine lv_goto (tgt := 74) hx hb (dk_at dkX6_passName 39 rfl) (by decide) ?_
          refine lv_iconst (v := 2) hx hb (dk_at dkX6_passName 41 rfl) (by decide) ?_
          obtain ⟨hPc, hDc, hFc⟩ := gz_cut (wc := [(h0, .inr (6, [.ref tp, .ref dr, .int y_483, .int y_484, .int q_token, .int q_start, .int q_stop]))]) hP hD hS hA [0] (by decide) rfl
          have hKc := hK.sub (tys' := []) [] rfl
          refine va_callv (va_runV (As := [.int 1, .int 2]) (rest := []) ⟨hx, hb, hml, hown, hts⟩ (sX6_expect l dC dI H.size h0 tp dr y_483 y_484 q_token q_start q_stop 1 2 (gi_w g_485 (by decide)) gq_start gq_stop (gi_w (gi_c 1 1 (by decide)) (by decide)) (gi_w (gi_c 2 2 (by decide)) (by decide))) (cwV 2 hts (gz_gV mGA_250 mGA_251 mGA_252 mGA_9 mGA_253 goodGA) rfl rfl rfl hdV_X6_expect_X6_2 ⟨Nat.le_of_ble_eq_true rfl, Nat.le_of_ble_eq_true rfl⟩) ⟨bl_I (bl_a bl_sz (bl_a bl_P (bl_a bl_K (bl_a bl_c bl_nz)))), va_recv hKc hPc (ci := 6) (q0 := 0) rfl rfl, fun U hU hW => ⟨rfl, by rw [hU], by rw [hU]; exact hPc, va_K.moved hW.alike hKc, hDc.weaken (fun _ _ _ _ => trivial), nzA_warm hW hz⟩⟩ rfl rfl hl.1 rfl (lv_room (Nat.le_of_ble_eq_true rfl)) (dk_at dkX6_passName 42 rfl) ⟨Nat.zero_le _, Nat.zero_le _⟩) hS (fun q _ h => hFc q h) hFc (fun u t H1 locs ht hvm hw hB hz1 hk1 hS => ?_)
          clear hz1
          obtain ⟨y_506, y_507, hB⟩ := hB
          obtain ⟨gy_506, hpr0_r_505, hpr1_r_505, hE, hP1, hD1⟩ := hB
          rw [ht] at hP1
          obtain ⟨hP, hD⟩ := gz_back hP hD hk1 hFc hP1 hD1 [0] rfl rfl
          have hpr0_r_505 : Hid (y_483.toInt ≤ y_506.toInt) := hpr0_r_505
          have g_508 : gi y_506 1 3 := gi_relL (Hid.un hpr0_r_505) g_485 gy_506
          have hpr1_r_505 : Hid (((1 : Int) = 1 ∨ 1 ≤ y_506.toInt)) := by have h9 : ((1 : Int32).toInt = 1 ∨ 1 ≤ y_506.toInt) := hpr1_r_505; rw [show (1 : Int32).toInt = 1 from by decide] at h9; exact h9
          obtain ⟨hP, hD⟩ := gz_both (w := [(h0, .inr (6, [.ref tp, .ref dr, .int y_506, .int y_507, .int q_token, .int q_start, .int q_stop])), (tp, .inr (10, [.ref bt, .int b_length])), (bt, .inl (kbt, 1600, .inl fbt))]) hP hD
          have hF := gf_call (a := (y_506, y_507)) hE hF
          generalize H1 = H at hP hS ⊢
          refine lv_aload_n hx hb (dk_at dkX6_passName 43 rfl) rfl (lv_at hl 1 rfl) ?_
          have hKc := hK.sub (tys' := [(kbt, .byte)]) [0] rfl
          have hFc := gz_fullF hD hS hA
          refine va_callv (va_runV (As := []) (rest := []) ⟨hx, hb, hml, hown, hts⟩ (sX6_step l dC dI H.size h0 tp bt dr y_506 y_507 q_token q_start q_stop b_length kbt fbt (gi_w g_508 (by decide)) gq_start gq_stop gb_length) (cwV 0 hts (gz_gV mGA_162 mGA_163 mGA_164 mGA_9 mGA_165 goodGA) rfl rfl rfl hdV_X6_step_X6_0 ⟨Nat.le_of_ble_eq_true rfl, Nat.le_of_ble_eq_true rfl⟩) ⟨bl_I (bl_a bl_sz (bl_a bl_P (bl_a bl_K (bl_a bl_c bl_nz)))), va_recv hKc hP (ci := 6) (q0 := 0) rfl rfl, fun U hU hW => ⟨rfl, by rw [hU], by rw [hU]; exact hP, va_K.moved hW.alike hKc, hD.weaken (fun _ _ _ _ => trivial), nzA_warm hW hz⟩⟩ rfl rfl hl.1 rfl (lv_room (Nat.le_of_ble_eq_true rfl)) (dk_at dkX6_passName 44 rfl) ⟨Nat.zero_le _, Nat.zero_le _⟩) hS (fun q _ h => hFc q h) hFc (fun u t H1 locs ht hvm hw hB hz1 hk1 hS => ?_)
          clear hz1
          obtain ⟨y_510, y_511, y_512, hB⟩ := hB
          obtain ⟨gy_511, gy_512, hE, hP1, hD1⟩ := hB
          rw [ht] at hP1
          have hD := gz_fullD hFc hD1
          have hP := hP1
          have hF := gf_call (a := (y_510, y_511, y_512)) hE hF
          generalize H1 = H at hP hS ⊢
          refine lv_iload_n hx hb (dk_at dkX6_passName 45 rfl) rfl (lv_at hl 0 rfl) ?_
          exact W.iret (v := r_487) hx hb hr (fun t ht hW => ⟨⟨r_487, r_487, rfl, ⟨rfl, (gi_any r_487)⟩, y_506, y_507, y_510, y_511, y_512, (gi_w g_508 (by decide)), gy_511, gy_512, (show q_faultKind.toInt ≤ y_506.toInt from (Int.le_trans (Hid.un hpr0_r_473) (Int.le_trans (Hid.un hpr0_r_482) (Hid.un hpr0_r_505)))), (show (y_506.toInt ≠ 0 ∨ p1.toInt = 0 ∨ pnF ep_name e_placeCount r_487 ≠ -1) from (Or.inl (gz_isnc g_508 (by decide)))), hF.trans hR9.symm, by rw [ht]; exact hP, hD⟩, hS.F ht⟩) hS.2.2 (dk_at dkX6_passName 46 rfl)
      · have hF := gf_neg c_489 hF
        have hc_513 : r_488.toInt ≠ (-1) := fun h9 => c_489 (Int32.toInt_inj.mp (by rw [show ((-1) : Int32).toInt = (-1) from by decide]; exact h9))
        have g_514 : gi r_488 0 5 := gi_ne_lo c_489 gr_488 (gi_c (-1) (-1) (by decide)) (by decide)
        refine lv_iconst (v := 1) hx hb (dk_at dkX6_passName 33 rfl) (by decide) ?_
        refine lv_goto (tgt := 65) hx hb (dk_at dkX6_passName 34 rfl) (by decide) ?_
        refine lv_iload_n hx hb (dk_at dkX6_passName 36 rfl) rfl (lv_at hl 2 rfl) ?_
        refine lv_icmp_ne (tgt := 73) hx hb (dk_at dkX6_passName 37 rfl) (by decide) (fun c_515 => ?_) (fun c_515 => ?_)
        · have hF := gf_neg c_515 hF
          have hc_516 : 1 ≠ p1.toInt := fun h9 => c_515 (Int32.toInt_inj.mp (by rw [show (1 : Int32).toInt = 1 from by decide]; exact h9))
          refine lv_iconst (v := 0) hx hb (dk_at dkX6_passName 40 rfl) (by decide) ?_
          refine lv_iconst (v := 2) hx hb (dk_at dkX6_passName 41 rfl) (by decide) ?_
          obtain ⟨hPc, hDc, hFc⟩ := gz_cut (wc := [(h0, .inr (6, [.ref tp, .ref dr, .int y_483, .int y_484, .int q_token, .int q_start, .int q_stop]))]) hP hD hS hA [0] (by decide) rfl
          have hKc := hK.sub (tys' := []) [] rfl
          refine va_callv (va_runV (As := [.int 0, .int 2]) (rest := []) ⟨hx, hb, hml, hown, hts⟩ (sX6_expect l dC dI H.size h0 tp dr y_483 y_484 q_token q_start q_stop 0 2 (gi_w g_485 (by decide)) gq_start gq_stop (gi_w (gi_c 0 0 (by decide)) (by decide)) (gi_w (gi_c 2 2 (by decide)) (by decide))) (cwV 2 hts (gz_gV mGA_250 mGA_251 mGA_252 mGA_9 mGA_253 goodGA) rfl rfl rfl hdV_X6_expect_X6_2 ⟨Nat.le_of_ble_eq_true rfl, Nat.le_of_ble_eq_true rfl⟩) ⟨bl_I (bl_a bl_sz (bl_a bl_P (bl_a bl_K (bl_a bl_c bl_nz)))), va_recv hKc hPc (ci := 6) (q0 := 0) rfl rfl, fun U hU hW => ⟨rfl, by rw [hU], by rw [hU]; exact hPc, va_K.moved hW.alike hKc, hDc.weaken (fun _ _ _ _ => trivial), nzA_warm hW hz⟩⟩ rfl rfl hl.1 rfl (lv_room (Nat.le_of_ble_eq_true rfl)) (dk_at dkX6_passName 42 rfl) ⟨Nat.zero_le _, Nat.zero_le _⟩) hS (fun q _ h => hFc q h) hFc (fun u t H1 locs ht hvm hw hB hz1 hk1 hS => ?_)
          clear hz1
          obtain ⟨y_518, y_519, hB⟩ := hB
          obtain ⟨gy_518, hpr0_r_517, hpr1_r_517, hE, hP1, hD1⟩ := hB
          rw [ht] at hP1
          obtain ⟨hP, hD⟩ := gz_back hP hD hk1 hFc hP1 hD1 [0] rfl rfl
          have hpr0_r_517 : Hid (y_483.toInt ≤ y_518.toInt) := hpr0_r_517
          have g_520 : gi y_518 1 3 := gi_relL (Hid.un hpr0_r_517) g_485 gy_518
          have hpr1_r_517 : Hid (((0 : Int) = 1 ∨ 1 ≤ y_518.toInt)) := by have h9 : ((0 : Int32).toInt = 1 ∨ 1 ≤ y_518.toInt) := hpr1_r_517; rw [show (0 : Int32).toInt = 0 from by decide] at h9; exact h9
          have hf_521 : 1 ≤ y_518.toInt := Hid.resL hpr1_r_517 (by omega)
          obtain ⟨hP, hD⟩ := gz_both (w := [(h0, .inr (6, [.ref tp, .ref dr, .int y_518, .int y_519, .int q_token, .int q_start, .int q_stop])), (tp, .inr (10, [.ref bt, .int b_length])), (bt, .inl (kbt, 1600, .inl fbt))]) hP hD
          have hF := gf_call (a := (y_518, y_519)) hE hF
          generalize H1 = H at hP hS ⊢
          refine lv_aload_n hx hb (dk_at dkX6_passName 43 rfl) rfl (lv_at hl 1 rfl) ?_
          have hKc := hK.sub (tys' := [(kbt, .byte)]) [0] rfl
          have hFc := gz_fullF hD hS hA
          refine va_callv (va_runV (As := []) (rest := []) ⟨hx, hb, hml, hown, hts⟩ (sX6_step l dC dI H.size h0 tp bt dr y_518 y_519 q_token q_start q_stop b_length kbt fbt (gi_w g_520 (by decide)) gq_start gq_stop gb_length) (cwV 0 hts (gz_gV mGA_162 mGA_163 mGA_164 mGA_9 mGA_165 goodGA) rfl rfl rfl hdV_X6_step_X6_0 ⟨Nat.le_of_ble_eq_true rfl, Nat.le_of_ble_eq_true rfl⟩) ⟨bl_I (bl_a bl_sz (bl_a bl_P (bl_a bl_K (bl_a bl_c bl_nz)))), va_recv hKc hP (ci := 6) (q0 := 0) rfl rfl, fun U hU hW => ⟨rfl, by rw [hU], by rw [hU]; exact hP, va_K.moved hW.alike hKc, hD.weaken (fun _ _ _ _ => trivial), nzA_warm hW hz⟩⟩ rfl rfl hl.1 rfl (lv_room (Nat.le_of_ble_eq_true rfl)) (dk_at dkX6_passName 44 rfl) ⟨Nat.zero_le _, Nat.zero_le _⟩) hS (fun q _ h => hFc q h) hFc (fun u t H1 locs ht hvm hw hB hz1 hk1 hS => ?_)
          clear hz1
          obtain ⟨y_523, y_524, y_525, hB⟩ := hB
          obtain ⟨gy_524, gy_525, hE, hP1, hD1⟩ := hB
          rw [ht] at hP1
          have hD := gz_fullD hFc hD1
          have hP := hP1
          have hF := gf_call (a := (y_523, y_524, y_525)) hE hF
          generalize H1 = H at hP hS ⊢
          refine lv_iload_n hx hb (dk_at dkX6_passName 45 rfl) rfl (lv_at hl 0 rfl) ?_
          exact W.iret (v := r_487) hx hb hr (fun t ht hW => ⟨⟨r_487, r_487, rfl, ⟨rfl, (gi_any r_487)⟩, y_518, y_519, y_523, y_524, y_525, (gi_w g_520 (by decide)), gy_524, gy_525, (show q_faultKind.toInt ≤ y_518.toInt from (Int.le_trans (Hid.un hpr0_r_473) (Int.le_trans (Hid.un hpr0_r_482) (Hid.un hpr0_r_517)))), (show (y_518.toInt ≠ 0 ∨ p1.toInt = 0 ∨ pnF ep_name e_placeCount r_487 ≠ -1) from (Or.inl (gz_isnc g_520 (by decide)))), hF.trans hR9.symm, by rw [ht]; exact hP, hD⟩, hS.F ht⟩) hS.2.2 (dk_at dkX6_passName 46 rfl)
        · have hF := gf_pos c_515 hF
          have hc_526 : 1 = p1.toInt := by have h9 := congrArg Int32.toInt c_515; rw [show (1 : Int32).toInt = 1 from by decide] at h9; exact h9
          have g_527 : gi p1 1 1 := gi_eq c_515.symm (gi_c 1 1 (by decide))
          refine lv_iconst (v := 1) hx hb (dk_at dkX6_passName 38 rfl) (by decide) ?_
          refine lv_goto (tgt := 74) hx hb (dk_at dkX6_passName 39 rfl) (by decide) ?_
          refine lv_iconst (v := 2) hx hb (dk_at dkX6_passName 41 rfl) (by decide) ?_
          obtain ⟨hPc, hDc, hFc⟩ := gz_cut (wc := [(h0, .inr (6, [.ref tp, .ref dr, .int y_483, .int y_484, .int q_token, .int q_start, .int q_stop]))]) hP hD hS hA [0] (by decide) rfl
          have hKc := hK.sub (tys' := []) [] rfl
          refine va_callv (va_runV (As := [.int 1, .int 2]) (rest := []) ⟨hx, hb, hml, hown, hts⟩ (sX6_expect l dC dI H.size h0 tp dr y_483 y_484 q_token q_start q_stop 1 2 (gi_w g_485 (by decide)) gq_start gq_stop (gi_w (gi_c 1 1 (by decide)) (by decide)) (gi_w (gi_c 2 2 (by decide)) (by decide))) (cwV 2 hts (gz_gV mGA_250 mGA_251 mGA_252 mGA_9 mGA_253 goodGA) rfl rfl rfl hdV_X6_expect_X6_2 ⟨Nat.le_of_ble_eq_true rfl, Nat.le_of_ble_eq_true rfl⟩) ⟨bl_I (bl_a bl_sz (bl_a bl_P (bl_a bl_K (bl_a bl_c bl_nz)))), va_recv hKc hPc (ci := 6) (q0 := 0) rfl rfl, fun U hU hW => ⟨rfl, by rw [hU], by rw [hU]; exact hPc, va_K.moved hW.alike hKc, hDc.weaken (fun _ _ _ _ => trivial), nzA_warm hW hz⟩⟩ rfl rfl hl.1 rfl (lv_room (Nat.le_of_ble_eq_true rfl)) (dk_at dkX6_passName 42 rfl) ⟨Nat.zero_le _, Nat.zero_le _⟩) hS (fun q _ h => hFc q h) hFc (fun u t H1 locs ht hvm hw hB hz1 hk1 hS => ?_)
          clear hz1
          obtain ⟨y_529, y_530, hB⟩ := hB
          obtain ⟨gy_529, hpr0_r_528, hpr1_r_528, hE, hP1, hD1⟩ := hB
          rw [ht] at hP1
          obtain ⟨hP, hD⟩ := gz_back hP hD hk1 hFc hP1 hD1 [0] rfl rfl
          have hpr0_r_528 : Hid (y_483.toInt ≤ y_529.toInt) := hpr0_r_528
          have g_531 : gi y_529 1 3 := gi_relL (Hid.un hpr0_r_528) g_485 gy_529
          have hpr1_r_528 : Hid (((1 : Int) = 1 ∨ 1 ≤ y_529.toInt)) := by have h9 : ((1 : Int32).toInt = 1 ∨ 1 ≤ y_529.toInt) := hpr1_r_528; rw [show (1 : Int32).toInt = 1 from by decide] at h9; exact h9
          obtain ⟨hP, hD⟩ := gz_both (w := [(h0, .inr (6, [.ref tp, .ref dr, .int y_529, .int y_530, .int q_token, .int q_start, .int q_stop])), (tp, .inr (10, [.ref bt, .int b_length])), (bt, .inl (kbt, 1600, .inl fbt))]) hP hD
          have hF := gf_call (a := (y_529, y_530)) hE hF
          generalize H1 = H at hP hS ⊢
          refine lv_aload_n hx hb (dk_at dkX6_passName 43 rfl) rfl (lv_at hl 1 rfl) ?_
          have hKc := hK.sub (tys' := [(kbt, .byte)]) [0] rfl
          have hFc := gz_fullF hD hS hA
          refine va_callv (va_runV (As := []) (rest := []) ⟨hx, hb, hml, hown, hts⟩ (sX6_step l dC dI H.size h0 tp bt dr y_529 y_530 q_token q_start q_stop b_length kbt fbt (gi_w g_531 (by decide)) gq_start gq_stop gb_length) (cwV 0 hts (gz_gV mGA_162 mGA_163 mGA_164 mGA_9 mGA_165 goodGA) rfl rfl rfl hdV_X6_step_X6_0 ⟨Nat.le_of_ble_eq_true rfl, Nat.le_of_ble_eq_true rfl⟩) ⟨bl_I (bl_a bl_sz (bl_a bl_P (bl_a bl_K (bl_a bl_c bl_nz)))), va_recv hKc hP (ci := 6) (q0 := 0) rfl rfl, fun U hU hW => ⟨rfl, by rw [hU], by rw [hU]; exact hP, va_K.moved hW.alike hKc, hD.weaken (fun _ _ _ _ => trivial), nzA_warm hW hz⟩⟩ rfl rfl hl.1 rfl (lv_room (Nat.le_of_ble_eq_true rfl)) (dk_at dkX6_passName 44 rfl) ⟨Nat.zero_le _, Nat.zero_le _⟩) hS (fun q _ h => hFc q h) hFc (fun u t H1 locs ht hvm hw hB hz1 hk1 hS => ?_)
          clear hz1
          obtain ⟨y_533, y_534, y_535, hB⟩ := hB
          obtain ⟨gy_534, gy_535, hE, hP1, hD1⟩ := hB
          rw [ht] at hP1
          have hD := gz_fullD hFc hD1
          have hP := hP1
          have hF := gf_call (a := (y_533, y_534, y_535)) hE hF
          generalize H1 = H at hP hS ⊢
          refine lv_iload_n hx hb (dk_at dkX6_passName 45 rfl) rfl (lv_at hl 0 rfl) ?_
          exact W.iret (v := r_487) hx hb hr (fun t ht hW => ⟨⟨r_487, r_487, rfl, ⟨rfl, (gi_any r_487)⟩, y_529, y_530, y_533, y_534, y_535, (gi_w g_531 (by decide)), gy_534, gy_535, (show q_faultKind.toInt ≤ y_529.toInt from (Int.le_trans (Hid.un hpr0_r_473) (Int.le_trans (Hid.un hpr0_r_482) (Hid.un hpr0_r_528)))), (show (y_529.toInt ≠ 0 ∨ p1.toInt = 0 ∨ pnF ep_name e_placeCount r_487 ≠ -1) from (Or.inl (gz_isnc g_531 (by decide)))), hF.trans hR9.symm, by rw [ht]; exact hP, hD⟩, hS.F ht⟩) hS.2.2 (dk_at dkX6_passName 46 rfl)
    · have hF := gf_neg (by rw [ex_478] at c_479; exact c_479) hF
      have hc_536 : x_478.toInt ≤ 6 := by have h9 := Int32.le_iff_toInt_le.mp (Int32.not_lt.mp c_479); rw [show (6 : Int32).toInt = 6 from by decide] at h9; exact h9
      have g_537 : gi x_478 (-1600) 6 := gi_le_l (Int32.not_lt.mp c_479) gx_478 (gi_c 6 6 (by decide))
      refine lv_iconst (v := 1) hx hb (dk_at dkX6_passName 18 rfl) (by decide) ?_
      refine lv_goto (tgt := 38) hx hb (dk_at dkX6_passName 19 rfl) (by decide) ?_
      refine lv_iconst (v := 2) hx hb (dk_at dkX6_passName 21 rfl) (by decide) ?_
      obtain ⟨hPc, hDc, hFc⟩ := gz_cut (wc := [(h0, .inr (6, [.ref tp, .ref dr, .int y_474, .int y_475, .int q_token, .int q_start, .int q_stop]))]) hP hD hS hA [0] (by decide) rfl
      have hKc := hK.sub (tys' := []) [] rfl
      refine va_callv (va_runV (As := [.int 1, .int 2]) (rest := []) ⟨hx, hb, hml, hown, hts⟩ (sX6_expect l dC dI H.size h0 tp dr y_474 y_475 q_token q_start q_stop 1 2 (gi_w g_477 (by decide)) gq_start gq_stop (gi_w (gi_c 1 1 (by decide)) (by decide)) (gi_w (gi_c 2 2 (by decide)) (by decide))) (cwV 2 hts (gz_gV mGA_250 mGA_251 mGA_252 mGA_9 mGA_253 goodGA) rfl rfl rfl hdV_X6_expect_X6_2 ⟨Nat.le_of_ble_eq_true rfl, Nat.le_of_ble_eq_true rfl⟩) ⟨bl_I (bl_a bl_sz (bl_a bl_P (bl_a bl_K (bl_a bl_c bl_nz)))), va_recv hKc hPc (ci := 6) (q0 := 0) rfl rfl, fun U hU hW => ⟨rfl, by rw [hU], by rw [hU]; exact hPc, va_K.moved hW.alike hKc, hDc.weaken (fun _ _ _ _ => trivial), nzA_warm hW hz⟩⟩ rfl rfl hl.1 rfl (lv_room (Nat.le_of_ble_eq_true rfl)) (dk_at dkX6_passName 22 rfl) ⟨Nat.zero_le _, Nat.zero_le _⟩) hS (fun q _ h => hFc q h) hFc (fun u t H1 locs ht hvm hw hB hz1 hk1 hS => ?_)
      clear hz1
      obtain ⟨y_539, y_540, hB⟩ := hB
      obtain ⟨gy_539, hpr0_r_538, hpr1_r_538, hE, hP1, hD1⟩ := hB
      rw [ht] at hP1
      obtain ⟨hP, hD⟩ := gz_back hP hD hk1 hFc hP1 hD1 [0] rfl rfl
      have hpr0_r_538 : Hid (y_474.toInt ≤ y_539.toInt) := hpr0_r_538
      have g_541 : gi y_539 1 3 := gi_relL (Hid.un hpr0_r_538) g_477 gy_539
      have hpr1_r_538 : Hid (((1 : Int) = 1 ∨ 1 ≤ y_539.toInt)) := by have h9 : ((1 : Int32).toInt = 1 ∨ 1 ≤ y_539.toInt) := hpr1_r_538; rw [show (1 : Int32).toInt = 1 from by decide] at h9; exact h9
      obtain ⟨hP, hD⟩ := gz_both (w := [(h0, .inr (6, [.ref tp, .ref dr, .int y_539, .int y_540, .int q_token, .int q_start, .int q_stop])), (tp, .inr (10, [.ref bt, .int b_length])), (bt, .inl (kbt, 1600, .inl fbt))]) hP hD
      have hF := gf_call (a := (y_539, y_540)) hE hF
      generalize H1 = H at hP hS ⊢
      refine lv_aload_n hx hb (dk_at dkX6_passName 23 rfl) rfl (lv_at hl 0 rfl) ?_
      have hKc := hK.sub (tys' := [(kbt, .byte)]) [0] rfl
      refine va_calli (va_runV (As := []) (rest := []) ⟨hx, hb, hml, hown, hts⟩ (sX6_nameHere l dC dI h0 tp bt dr y_539 y_540 q_token q_start q_stop b_length kbt fbt (gi_w g_541 (by decide)) gq_start gq_stop gb_length) (cwV 0 hts (gz_gV mGA_294 mGA_295 mGA_296 mGA_9 mGA_297 goodGA) rfl rfl rfl hdV_X6_nameHere_X6_0 ⟨Nat.le_of_ble_eq_true rfl, Nat.le_of_ble_eq_true rfl⟩) ⟨bl_I (bl_a bl_P (bl_a bl_K bl_nz)), va_recv hKc hP (ci := 6) (q0 := 0) rfl rfl, fun U hU hW => ⟨rfl, by rw [hU]; exact hP, va_K.moved hW.alike hKc, nzA_warm hW hz⟩⟩ rfl rfl hl.1 rfl (lv_room (Nat.le_of_ble_eq_true rfl)) (dk_at dkX6_passName 24 rfl) ⟨Nat.zero_le _, Nat.zero_le _⟩) hS (fun q _ h => h.elim) (fun q h => h.elim) (fun r_542 u t H1 locs ht hvm hw hB hz1 hk1 hS => ?_)
      clear hz1
      obtain ⟨hw, hE⟩ := hw
      have hP := gz_keep hP hk1
      have hF := gf_call (a := r_542) hE hF
      generalize H1 = H at hP hS ⊢
      refine lv_istore_n (lv' := [(2, .int r_542), (0, .ref h0), (1, .int p1)]) hx hb (dk_at dkX6_passName 25 rfl) rfl hl (by decide) rfl (fun ls hl => ?_)
      refine lv_aload_n hx hb (dk_at dkX6_passName 26 rfl) rfl (lv_at hl 1 rfl) ?_
      refine lv_aload_n hx hb (dk_at dkX6_passName 27 rfl) rfl (lv_at hl 1 rfl) ?_
      refine va_get (D := (dC, dI)) (ci := 6) (v := .ref dr) (C := RX6) (T := TX6) (N := 7) hx hb hts (fun w h => List.mem_cons_of_mem _ (jnGA_X6 w h)) hown hK hP 0 rfl rfl 1 (by decide) (hts _ (List.mem_cons_of_mem _ mGA_54)) (fun _ h9 => h9) rfl (dk_at dkX6_passName 28 rfl) ?_
      refine lv_iload_n hx hb (dk_at dkX6_passName 29 rfl) rfl (lv_at hl 0 rfl) ?_
      have hPc : va_P (dC, dI) vwCl [(dr, .inr (0, [.int e_months, .int e_full, .int e_lean, .int e_lines, .int e_hasMoon, .int e_moonStart, .int e_moonStep, .int e_placeCount, .int e_reportCount, .int e_deedCount, .ref dpl, .ref dre, .ref dde])), (dpl, .inl (kdpl, 6, .inr (.inr (.inr (.inr (fun i => some (dpa i)))))))] H := (gz_cat ((gz_ro hR hRA hS).sub [0] rfl) ((gz_ro hR hRA hS).sub [1] rfl))
      have hKc := hK.sub (tys' := [(kdpl, .object RX5)]) [1] rfl
      refine va_calli (va_runV (As := [.int r_542]) (rest := [.ref h0]) ⟨hx, hb, hml, hown, hts⟩ (sX0_placeNamedF l dC dI dr dpl e_months e_full e_lean e_lines e_hasMoon e_moonStart e_moonStep e_placeCount e_reportCount e_deedCount dre dde kdpl dpa ep_name ep_trust r_542 ge_months ge_full ge_lean ge_hasMoon ge_placeCount ge_reportCount ge_deedCount) (cwV 1 hts (gz_gV mGA_298 mGA_299 mGA_300 mGA_13 mGA_301 goodGA) rfl rfl rfl hdV_X0_placeNamed_X0_1 ⟨Nat.le_of_ble_eq_true rfl, Nat.le_of_ble_eq_true rfl⟩) ⟨bl_I (bl_a bl_P (bl_a bl_K (bl_a bl_nz bl_P))), va_recv hKc hPc (ci := 0) (q0 := 0) rfl rfl, fun U hU hW => ⟨rfl, by rw [hU]; exact hPc, va_K.moved hW.alike hKc, nzA_warm hW hz, by rw [hU]; exact gz_ro hF0 hFA0 hS⟩⟩ rfl rfl hl.1 rfl (lv_room (Nat.le_of_ble_eq_true rfl)) (dk_at dkX6_passName 30 rfl) ⟨Nat.zero_le _, Nat.zero_le _⟩) hS (fun q _ h => h.elim) (fun q h => h.elim) (fun r_543 u t H1 locs ht hvm hw hB hz1 hk1 hS => ?_)
      clear hz1
      obtain ⟨hw, hE⟩ := hw
      have hP := gz_keep hP hk1
      have hF := gf_call (a := r_543) hE hF
      generalize H1 = H at hP hS ⊢
      have gr_543 : gi r_543 (-1) 5 := hw.1
      have hqr_543 := hw.2
      have hqr_543 : Hid (r_543.toInt = pnF ep_name e_placeCount r_542) := hqr_543
      clear hw
      refine lv_iconst (v := (-1)) hx hb (dk_at dkX6_passName 31 rfl) (by decide) ?_
      refine lv_icmp_eq (tgt := 64) hx hb (dk_at dkX6_passName 32 rfl) (by decide) (fun c_544 => ?_) (fun c_544 => ?_)
      · have hF := gf_pos c_544 hF
        have hc_545 : r_543.toInt = (-1) := by have h9 := congrArg Int32.toInt c_544; rw [show ((-1) : Int32).toInt = (-1) from by decide] at h9; exact h9
        have g_546 : gi r_543 (-1) (-1) := gi_eq c_544 (gi_c (-1) (-1) (by decide))
        refine lv_iconst (v := 0) hx hb (dk_at dkX6_passName 35 rfl) (by decide) ?_
        refine lv_iload_n hx hb (dk_at dkX6_passName 36 rfl) rfl (lv_at hl 2 rfl) ?_
        refine lv_icmp_ne (tgt := 73) hx hb (dk_at dkX6_passName 37 rfl) (by decide) (fun c_547 => ?_) (fun c_547 => ?_)
        · have hF := gf_neg c_547 hF
          have hc_548 : 0 ≠ p1.toInt := fun h9 => c_547 (Int32.toInt_inj.mp (by rw [show (0 : Int32).toInt = 0 from by decide]; exact h9))
          refine lv_iconst (v := 0) hx hb (dk_at dkX6_passName 40 rfl) (by decide) ?_
          refine lv_iconst (v := 2) hx hb (dk_at dkX6_passName 41 rfl) (by decide) ?_
          obtain ⟨hPc, hDc, hFc⟩ := gz_cut (wc := [(h0, .inr (6, [.ref tp, .ref dr, .int y_539, .int y_540, .int q_token, .int q_start, .int q_stop]))]) hP hD hS hA [0] (by decide) rfl
          have hKc := hK.sub (tys' := []) [] rfl
          refine va_callv (va_runV (As := [.int 0, .int 2]) (rest := []) ⟨hx, hb, hml, hown, hts⟩ (sX6_expect l dC dI H.size h0 tp dr y_539 y_540 q_token q_start q_stop 0 2 (gi_w g_541 (by decide)) gq_start gq_stop (gi_w (gi_c 0 0 (by decide)) (by decide)) (gi_w (gi_c 2 2 (by decide)) (by decide))) (cwV 2 hts (gz_gV mGA_250 mGA_251 mGA_252 mGA_9 mGA_253 goodGA) rfl rfl rfl hdV_X6_expect_X6_2 ⟨Nat.le_of_ble_eq_true rfl, Nat.le_of_ble_eq_true rfl⟩) ⟨bl_I (bl_a bl_sz (bl_a bl_P (bl_a bl_K (bl_a bl_c bl_nz)))), va_recv hKc hPc (ci := 6) (q0 := 0) rfl rfl, fun U hU hW => ⟨rfl, by rw [hU], by rw [hU]; exact hPc, va_K.moved hW.alike hKc, hDc.weaken (fun _ _ _ _ => trivial), nzA_warm hW hz⟩⟩ rfl rfl hl.1 rfl (lv_room (Nat.le_of_ble_eq_true rfl)) (dk_at dkX6_passName 42 rfl) ⟨Nat.zero_le _, Nat.zero_le _⟩) hS (fun q _ h => hFc q h) hFc (fun u t H1 locs ht hvm hw hB hz1 hk1 hS => ?_)
          clear hz1
          obtain ⟨y_550, y_551, hB⟩ := hB
          obtain ⟨gy_550, hpr0_r_549, hpr1_r_549, hE, hP1, hD1⟩ := hB
          rw [ht] at hP1
          obtain ⟨hP, hD⟩ := gz_back hP hD hk1 hFc hP1 hD1 [0] rfl rfl
          have hpr0_r_549 : Hid (y_539.toInt ≤ y_550.toInt) := hpr0_r_549
          have g_552 : gi y_550 1 3 := gi_relL (Hid.un hpr0_r_549) g_541 gy_550
          have hpr1_r_549 : Hid (((0 : Int) = 1 ∨ 1 ≤ y_550.toInt)) := by have h9 : ((0 : Int32).toInt = 1 ∨ 1 ≤ y_550.toInt) := hpr1_r_549; rw [show (0 : Int32).toInt = 0 from by decide] at h9; exact h9
          have hf_553 : 1 ≤ y_550.toInt := Hid.resL hpr1_r_549 (by omega)
          obtain ⟨hP, hD⟩ := gz_both (w := [(h0, .inr (6, [.ref tp, .ref dr, .int y_550, .int y_551, .int q_token, .int q_start, .int q_stop])), (tp, .inr (10, [.ref bt, .int b_length])), (bt, .inl (kbt, 1600, .inl fbt))]) hP hD
          have hF := gf_call (a := (y_550, y_551)) hE hF
          generalize H1 = H at hP hS ⊢
          refine lv_aload_n hx hb (dk_at dkX6_passName 43 rfl) rfl (lv_at hl 1 rfl) ?_
          have hKc := hK.sub (tys' := [(kbt, .byte)]) [0] rfl
          have hFc := gz_fullF hD hS hA
          refine va_callv (va_runV (As := []) (rest := []) ⟨hx, hb, hml, hown, hts⟩ (sX6_step l dC dI H.size h0 tp bt dr y_550 y_551 q_token q_start q_stop b_length kbt fbt (gi_w g_552 (by decide)) gq_start gq_stop gb_length) (cwV 0 hts (gz_gV mGA_162 mGA_163 mGA_164 mGA_9 mGA_165 goodGA) rfl rfl rfl hdV_X6_step_X6_0 ⟨Nat.le_of_ble_eq_true rfl, Nat.le_of_ble_eq_true rfl⟩) ⟨bl_I (bl_a bl_sz (bl_a bl_P (bl_a bl_K (bl_a bl_c bl_nz)))), va_recv hKc hP (ci := 6) (q0 := 0) rfl rfl, fun U hU hW => ⟨rfl, by rw [hU], by rw [hU]; exact hP, va_K.moved hW.alike hKc, hD.weaken (fun _ _ _ _ => trivial), nzA_warm hW hz⟩⟩ rfl rfl hl.1 rfl (lv_room (Nat.le_of_ble_eq_true rfl)) (dk_at dkX6_passName 44 rfl) ⟨Nat.zero_le _, Nat.zero_le _⟩) hS (fun q _ h => hFc q h) hFc (fun u t H1 locs ht hvm hw hB hz1 hk1 hS => ?_)
          clear hz1
          obtain ⟨y_555, y_556, y_557, hB⟩ := hB
          obtain ⟨gy_556, gy_557, hE, hP1, hD1⟩ := hB
          rw [ht] at hP1
          have hD := gz_fullD hFc hD1
          have hP := hP1
          have hF := gf_call (a := (y_555, y_556, y_557)) hE hF
          generalize H1 = H at hP hS ⊢
          refine lv_iload_n hx hb (dk_at dkX6_passName 45 rfl) rfl (lv_at hl 0 rfl) ?_
          exact W.iret (v := r_542) hx hb hr (fun t ht hW => ⟨⟨r_542, r_542, rfl, ⟨rfl, (gi_any r_542)⟩, y_550, y_551, y_555, y_556, y_557, (gi_w g_552 (by decide)), gy_556, gy_557, (show q_faultKind.toInt ≤ y_550.toInt from (Int.le_trans (Hid.un hpr0_r_473) (Int.le_trans (Hid.un hpr0_r_538) (Hid.un hpr0_r_549)))), (show (y_550.toInt ≠ 0 ∨ p1.toInt = 0 ∨ pnF ep_name e_placeCount r_542 ≠ -1) from (Or.inl (gz_isnc g_552 (by decide)))), hF.trans hR9.symm, by rw [ht]; exact hP, hD⟩, hS.F ht⟩) hS.2.2 (dk_at dkX6_passName 46 rfl)
        · have hF := gf_pos c_547 hF
          have hc_558 : 0 = p1.toInt := by have h9 := congrArg Int32.toInt c_547; rw [show (0 : Int32).toInt = 0 from by decide] at h9; exact h9
          have g_559 : gi p1 0 0 := gi_eq c_547.symm (gi_c 0 0 (by decide))
          refine lv_iconst (v := 1) hx hb (dk_at dkX6_passName 38 rfl) (by decide) ?_
          refine lv_goto (tgt := 74) hx hb (dk_at dkX6_passName 39 rfl) (by decide) ?_
          refine lv_iconst (v := 2) hx hb (dk_at dkX6_passName 41 rfl) (by decide) ?_
          obtain ⟨hPc, hDc, hFc⟩ := gz_cut (wc := [(h0, .inr (6, [.ref tp, .ref dr, .int y_539, .int y_540, .int q_token, .int q_start, .int q_stop]))]) hP hD hS hA [0] (by decide) rfl
          have hKc := hK.sub (tys' := []) [] rfl
          refine va_callv (va_runV (As := [.int 1, .int 2]) (rest := []) ⟨hx, hb, hml, hown, hts⟩ (sX6_expect l dC dI H.size h0 tp dr y_539 y_540 q_token q_start q_stop 1 2 (gi_w g_541 (by decide)) gq_start gq_stop (gi_w (gi_c 1 1 (by decide)) (by decide)) (gi_w (gi_c 2 2 (by decide)) (by decide))) (cwV 2 hts (gz_gV mGA_250 mGA_251 mGA_252 mGA_9 mGA_253 goodGA) rfl rfl rfl hdV_X6_expect_X6_2 ⟨Nat.le_of_ble_eq_true rfl, Nat.le_of_ble_eq_true rfl⟩) ⟨bl_I (bl_a bl_sz (bl_a bl_P (bl_a bl_K (bl_a bl_c bl_nz)))), va_recv hKc hPc (ci := 6) (q0 := 0) rfl rfl, fun U hU hW => ⟨rfl, by rw [hU], by rw [hU]; exact hPc, va_K.moved hW.alike hKc, hDc.weaken (fun _ _ _ _ => trivial), nzA_warm hW hz⟩⟩ rfl rfl hl.1 rfl (lv_room (Nat.le_of_ble_eq_true rfl)) (dk_at dkX6_passName 42 rfl) ⟨Nat.zero_le _, Nat.zero_le _⟩) hS (fun q _ h => hFc q h) hFc (fun u t H1 locs ht hvm hw hB hz1 hk1 hS => ?_)
          clear hz1
          obtain ⟨y_561, y_562, hB⟩ := hB
          obtain ⟨gy_561, hpr0_r_560, hpr1_r_560, hE, hP1, hD1⟩ := hB
          rw [ht] at hP1
          obtain ⟨hP, hD⟩ := gz_back hP hD hk1 hFc hP1 hD1 [0] rfl rfl
          have hpr0_r_560 : Hid (y_539.toInt ≤ y_561.toInt) := hpr0_r_560
          have g_563 : gi y_561 1 3 := gi_relL (Hid.un hpr0_r_560) g_541 gy_561
          have hpr1_r_560 : Hid (((1 : Int) = 1 ∨ 1 ≤ y_561.toInt)) := by have h9 : ((1 : Int32).toInt = 1 ∨ 1 ≤ y_561.toInt) := hpr1_r_560; rw [show (1 : Int32).toInt = 1 from by decide] at h9; exact h9
          obtain ⟨hP, hD⟩ := gz_both (w := [(h0, .inr (6, [.ref tp, .ref dr, .int y_561, .int y_562, .int q_token, .int q_start, .int q_stop])), (tp, .inr (10, [.ref bt, .int b_length])), (bt, .inl (kbt, 1600, .inl fbt))]) hP hD
          have hF := gf_call (a := (y_561, y_562)) hE hF
          generalize H1 = H at hP hS ⊢
          refine lv_aload_n hx hb (dk_at dkX6_passName 43 rfl) rfl (lv_at hl 1 rfl) ?_
          have hKc := hK.sub (tys' := [(kbt, .byte)]) [0] rfl
          have hFc := gz_fullF hD hS hA
          refine va_callv (va_runV (As := []) (rest := []) ⟨hx, hb, hml, hown, hts⟩ (sX6_step l dC dI H.size h0 tp bt dr y_561 y_562 q_token q_start q_stop b_length kbt fbt (gi_w g_563 (by decide)) gq_start gq_stop gb_length) (cwV 0 hts (gz_gV mGA_162 mGA_163 mGA_164 mGA_9 mGA_165 goodGA) rfl rfl rfl hdV_X6_step_X6_0 ⟨Nat.le_of_ble_eq_true rfl, Nat.le_of_ble_eq_true rfl⟩) ⟨bl_I (bl_a bl_sz (bl_a bl_P (bl_a bl_K (bl_a bl_c bl_nz)))), va_recv hKc hP (ci := 6) (q0 := 0) rfl rfl, fun U hU hW => ⟨rfl, by rw [hU], by rw [hU]; exact hP, va_K.moved hW.alike hKc, hD.weaken (fun _ _ _ _ => trivial), nzA_warm hW hz⟩⟩ rfl rfl hl.1 rfl (lv_room (Nat.le_of_ble_eq_true rfl)) (dk_at dkX6_passName 44 rfl) ⟨Nat.zero_le _, Nat.zero_le _⟩) hS (fun q _ h => hFc q h) hFc (fun u t H1 locs ht hvm hw hB hz1 hk1 hS => ?_)
          clear hz1
          obtain ⟨y_565, y_566, y_567, hB⟩ := hB
          obtain ⟨gy_566, gy_567, hE, hP1, hD1⟩ := hB
          rw [ht] at hP1
          have hD := gz_fullD hFc hD1
          have hP := hP1
          have hF := gf_call (a := (y_565, y_566, y_567)) hE hF
          generalize H1 = H at hP hS ⊢
          refine lv_iload_n hx hb (dk_at dkX6_passName 45 rfl) rfl (lv_at hl 0 rfl) ?_
          exact W.iret (v := r_542) hx hb hr (fun t ht hW => ⟨⟨r_542, r_542, rfl, ⟨rfl, (gi_any r_542)⟩, y_561, y_562, y_565, y_566, y_567, (gi_w g_563 (by decide)), gy_566, gy_567, (show q_faultKind.toInt ≤ y_561.toInt from (Int.le_trans (Hid.un hpr0_r_473) (Int.le_trans (Hid.un hpr0_r_538) (Hid.un hpr0_r_560)))), (show (y_561.toInt ≠ 0 ∨ p1.toInt = 0 ∨ pnF ep_name e_placeCount r_542 ≠ -1) from (Or.inl (gz_isnc g_563 (by decide)))), hF.trans hR9.symm, by rw [ht]; exact hP, hD⟩, hS.F ht⟩) hS.2.2 (dk_at dkX6_passName 46 rfl)
      · have hF := gf_neg c_544 hF
        have hc_568 : r_543.toInt ≠ (-1) := fun h9 => c_544 (Int32.toInt_inj.mp (by rw [show ((-1) : Int32).toInt = (-1) from by decide]; exact h9))
        have g_569 : gi r_543 0 5 := gi_ne_lo c_544 gr_543 (gi_c (-1) (-1) (by decide)) (by decide)
        refine lv_iconst (v := 1) hx hb (dk_at dkX6_passName 33 rfl) (by decide) ?_
        refine lv_goto (tgt := 65) hx hb (dk_at dkX6_passName 34 rfl) (by decide) ?_
        refine lv_iload_n hx hb (dk_at dkX6_passName 36 rfl) rfl (lv_at hl 2 rfl) ?_
        refine lv_icmp_ne (tgt := 73) hx hb (dk_at dkX6_passName 37 rfl) (by decide) (fun c_570 => ?_) (fun c_570 => ?_)
        · have hF := gf_neg c_570 hF
          have hc_571 : 1 ≠ p1.toInt := fun h9 => c_570 (Int32.toInt_inj.mp (by rw [show (1 : Int32).toInt = 1 from by decide]; exact h9))
          refine lv_iconst (v := 0) hx hb (dk_at dkX6_passName 40 rfl) (by decide) ?_
          refine lv_iconst (v := 2) hx hb (dk_at dkX6_passName 41 rfl) (by decide) ?_
          obtain ⟨hPc, hDc, hFc⟩ := gz_cut (wc := [(h0, .inr (6, [.ref tp, .ref dr, .int y_539, .int y_540, .int q_token, .int q_start, .int q_stop]))]) hP hD hS hA [0] (by decide) rfl
          have hKc := hK.sub (tys' := []) [] rfl
          refine va_callv (va_runV (As := [.int 0, .int 2]) (rest := []) ⟨hx, hb, hml, hown, hts⟩ (sX6_expect l dC dI H.size h0 tp dr y_539 y_540 q_token q_start q_stop 0 2 (gi_w g_541 (by decide)) gq_start gq_stop (gi_w (gi_c 0 0 (by decide)) (by decide)) (gi_w (gi_c 2 2 (by decide)) (by decide))) (cwV 2 hts (gz_gV mGA_250 mGA_251 mGA_252 mGA_9 mGA_253 goodGA) rfl rfl rfl hdV_X6_expect_X6_2 ⟨Nat.le_of_ble_eq_true rfl, Nat.le_of_ble_eq_true rfl⟩) ⟨bl_I (bl_a bl_sz (bl_a bl_P (bl_a bl_K (bl_a bl_c bl_nz)))), va_recv hKc hPc (ci := 6) (q0 := 0) rfl rfl, fun U hU hW => ⟨rfl, by rw [hU], by rw [hU]; exact hPc, va_K.moved hW.alike hKc, hDc.weaken (fun _ _ _ _ => trivial), nzA_warm hW hz⟩⟩ rfl rfl hl.1 rfl (lv_room (Nat.le_of_ble_eq_true rfl)) (dk_at dkX6_passName 42 rfl) ⟨Nat.zero_le _, Nat.zero_le _⟩) hS (fun q _ h => hFc q h) hFc (fun u t H1 locs ht hvm hw hB hz1 hk1 hS => ?_)
          clear hz1
          obtain ⟨y_573, y_574, hB⟩ := hB
          obtain ⟨gy_573, hpr0_r_572, hpr1_r_572, hE, hP1, hD1⟩ := hB
          rw [ht] at hP1
          obtain ⟨hP, hD⟩ := gz_back hP hD hk1 hFc hP1 hD1 [0] rfl rfl
          have hpr0_r_572 : Hid (y_539.toInt ≤ y_573.toInt) := hpr0_r_572
          have g_575 : gi y_573 1 3 := gi_relL (Hid.un hpr0_r_572) g_541 gy_573
          have hpr1_r_572 : Hid (((0 : Int) = 1 ∨ 1 ≤ y_573.toInt)) := by have h9 : ((0 : Int32).toInt = 1 ∨ 1 ≤ y_573.toInt) := hpr1_r_572; rw [show (0 : Int32).toInt = 0 from by decide] at h9; exact h9
          have hf_576 : 1 ≤ y_573.toInt := Hid.resL hpr1_r_572 (by omega)
          obtain ⟨hP, hD⟩ := gz_both (w := [(h0, .inr (6, [.ref tp, .ref dr, .int y_573, .int y_574, .int q_token, .int q_start, .int q_stop])), (tp, .inr (10, [.ref bt, .int b_length])), (bt, .inl (kbt, 1600, .inl fbt))]) hP hD
          have hF := gf_call (a := (y_573, y_574)) hE hF
          generalize H1 = H at hP hS ⊢
          refine lv_aload_n hx hb (dk_at dkX6_passName 43 rfl) rfl (lv_at hl 1 rfl) ?_
          have hKc := hK.sub (tys' := [(kbt, .byte)]) [0] rfl
          have hFc := gz_fullF hD hS hA
          refine va_callv (va_runV (As := []) (rest := []) ⟨hx, hb, hml, hown, hts⟩ (sX6_step l dC dI H.size h0 tp bt dr y_573 y_574 q_token q_start q_stop b_length kbt fbt (gi_w g_575 (by decide)) gq_start gq_stop gb_length) (cwV 0 hts (gz_gV mGA_162 mGA_163 mGA_164 mGA_9 mGA_165 goodGA) rfl rfl rfl hdV_X6_step_X6_0 ⟨Nat.le_of_ble_eq_true rfl, Nat.le_of_ble_eq_true rfl⟩) ⟨bl_I (bl_a bl_sz (bl_a bl_P (bl_a bl_K (bl_a bl_c bl_nz)))), va_recv hKc hP (ci := 6) (q0 := 0) rfl rfl, fun U hU hW => ⟨rfl, by rw [hU], by rw [hU]; exact hP, va_K.moved hW.alike hKc, hD.weaken (fun _ _ _ _ => trivial), nzA_warm hW hz⟩⟩ rfl rfl hl.1 rfl (lv_room (Nat.le_of_ble_eq_true rfl)) (dk_at dkX6_passName 44 rfl) ⟨Nat.zero_le _, Nat.zero_le _⟩) hS (fun q _ h => hFc q h) hFc (fun u t H1 locs ht hvm hw hB hz1 hk1 hS => ?_)
          clear hz1
          obtain ⟨y_578, y_579, y_580, hB⟩ := hB
          obtain ⟨gy_579, gy_580, hE, hP1, hD1⟩ := hB
          rw [ht] at hP1
          have hD := gz_fullD hFc hD1
          have hP := hP1
          have hF := gf_call (a := (y_578, y_579, y_580)) hE hF
          generalize H1 = H at hP hS ⊢
          refine lv_iload_n hx hb (dk_at dkX6_passName 45 rfl) rfl (lv_at hl 0 rfl) ?_
          exact W.iret (v := r_542) hx hb hr (fun t ht hW => ⟨⟨r_542, r_542, rfl, ⟨rfl, (gi_any r_542)⟩, y_573, y_574, y_578, y_579, y_580, (gi_w g_575 (by decide)), gy_579, gy_580, (show q_faultKind.toInt ≤ y_573.toInt from (Int.le_trans (Hid.un hpr0_r_473) (Int.le_trans (Hid.un hpr0_r_538) (Hid.un hpr0_r_572)))), (show (y_573.toInt ≠ 0 ∨ p1.toInt = 0 ∨ pnF ep_name e_placeCount r_542 ≠ -1) from (Or.inl (gz_isnc g_575 (by decide)))), hF.trans hR9.symm, by rw [ht]; exact hP, hD⟩, hS.F ht⟩) hS.2.2 (dk_at dkX6_passName 46 rfl)
        · have hF := gf_pos c_570 hF
          have hc_581 : 1 = p1.toInt := by have h9 := congrArg Int32.toInt c_570; rw [show (1 : Int32).toInt = 1 from by decide] at h9; exact h9
          have g_582 : gi p1 1 1 := gi_eq c_570.symm (gi_c 1 1 (by decide))
          refine lv_iconst (v := 1) hx hb (dk_at dkX6_passName 38 rfl) (by decide) ?_
          refine lv_goto (tgt := 74) hx hb (dk_at dkX6_passName 39 rfl) (by decide) ?_
          refine lv_iconst (v := 2) hx hb (dk_at dkX6_passName 41 rfl) (by decide) ?_
          obtain ⟨hPc, hDc, hFc⟩ := gz_cut (wc := [(h0, .inr (6, [.ref tp, .ref dr, .int y_539, .int y_540, .int q_token, .int q_start, .int q_stop]))]) hP hD hS hA [0] (by decide) rfl
          have hKc := hK.sub (tys' := []) [] rfl
          refine va_callv (va_runV (As := [.int 1, .int 2]) (rest := []) ⟨hx, hb, hml, hown, hts⟩ (sX6_expect l dC dI H.size h0 tp dr y_539 y_540 q_token q_start q_stop 1 2 (gi_w g_541 (by decide)) gq_start gq_stop (gi_w (gi_c 1 1 (by decide)) (by decide)) (gi_w (gi_c 2 2 (by decide)) (by decide))) (cwV 2 hts (gz_gV mGA_250 mGA_251 mGA_252 mGA_9 mGA_253 goodGA) rfl rfl rfl hdV_X6_expect_X6_2 ⟨Nat.le_of_ble_eq_true rfl, Nat.le_of_ble_eq_true rfl⟩) ⟨bl_I (bl_a bl_sz (bl_a bl_P (bl_a bl_K (bl_a bl_c bl_nz)))), va_recv hKc hPc (ci := 6) (q0 := 0) rfl rfl, fun U hU hW => ⟨rfl, by rw [hU], by rw [hU]; exact hPc, va_K.moved hW.alike hKc, hDc.weaken (fun _ _ _ _ => trivial), nzA_warm hW hz⟩⟩ rfl rfl hl.1 rfl (lv_room (Nat.le_of_ble_eq_true rfl)) (dk_at dkX6_passName 42 rfl) ⟨Nat.zero_le _, Nat.zero_le _⟩) hS (fun q _ h => hFc q h) hFc (fun u t H1 locs ht hvm hw hB hz1 hk1 hS => ?_)
          clear hz1
          obtain ⟨y_584, y_585, hB⟩ := hB
          obtain ⟨gy_584, hpr0_r_583, hpr1_r_583, hE, hP1, hD1⟩ := hB
          rw [ht] at hP1
          obtain ⟨hP, hD⟩ := gz_back hP hD hk1 hFc hP1 hD1 [0] rfl rfl
          have hpr0_r_583 : Hid (y_539.toInt ≤ y_584.toInt) := hpr0_r_583
          have g_586 : gi y_584 1 3 := gi_relL (Hid.un hpr0_r_583) g_541 gy_584
          have hpr1_r_583 : Hid (((1 : Int) = 1 ∨ 1 ≤ y_584.toInt)) := by have h9 : ((1 : Int32).toInt = 1 ∨ 1 ≤ y_584.toInt) := hpr1_r_583; rw [show (1 : Int32).toInt = 1 from by decide] at h9; exact h9
          obtain ⟨hP, hD⟩ := gz_both (w := [(h0, .inr (6, [.ref tp, .ref dr, .int y_584, .int y_585, .int q_token, .int q_start, .int q_stop])), (tp, .inr (10, [.ref bt, .int b_length])), (bt, .inl (kbt, 1600, .inl fbt))]) hP hD
          have hF := gf_call (a := (y_584, y_585)) hE hF
          generalize H1 = H at hP hS ⊢
          refine lv_aload_n hx hb (dk_at dkX6_passName 43 rfl) rfl (lv_at hl 1 rfl) ?_
          have hKc := hK.sub (tys' := [(kbt, .byte)]) [0] rfl
          have hFc := gz_fullF hD hS hA
          refine va_callv (va_runV (As := []) (rest := []) ⟨hx, hb, hml, hown, hts⟩ (sX6_step l dC dI H.size h0 tp bt dr y_584 y_585 q_token q_start q_stop b_length kbt fbt (gi_w g_586 (by decide)) gq_start gq_stop gb_length) (cwV 0 hts (gz_gV mGA_162 mGA_163 mGA_164 mGA_9 mGA_165 goodGA) rfl rfl rfl hdV_X6_step_X6_0 ⟨Nat.le_of_ble_eq_true rfl, Nat.le_of_ble_eq_true rfl⟩) ⟨bl_I (bl_a bl_sz (bl_a bl_P (bl_a bl_K (bl_a bl_c bl_nz)))), va_recv hKc hP (ci := 6) (q0 := 0) rfl rfl, fun U hU hW => ⟨rfl, by rw [hU], by rw [hU]; exact hP, va_K.moved hW.alike hKc, hD.weaken (fun _ _ _ _ => trivial), nzA_warm hW hz⟩⟩ rfl rfl hl.1 rfl (lv_room (Nat.le_of_ble_eq_true rfl)) (dk_at dkX6_passName 44 rfl) ⟨Nat.zero_le _, Nat.zero_le _⟩) hS (fun q _ h => hFc q h) hFc (fun u t H1 locs ht hvm hw hB hz1 hk1 hS => ?_)
          clear hz1
          obtain ⟨y_588, y_589, y_590, hB⟩ := hB
          obtain ⟨gy_589, gy_590, hE, hP1, hD1⟩ := hB
          rw [ht] at hP1
          have hD := gz_fullD hFc hD1
          have hP := hP1
          have hF := gf_call (a := (y_588, y_589, y_590)) hE hF
          generalize H1 = H at hP hS ⊢
          refine lv_iload_n hx hb (dk_at dkX6_passName 45 rfl) rfl (lv_at hl 0 rfl) ?_
          exact W.iret (v := r_542) hx hb hr (fun t ht hW => ⟨⟨r_542, r_542, rfl, ⟨rfl, (gi_any r_542)⟩, y_584, y_585, y_588, y_589, y_590, (gi_w g_586 (by decide)), gy_589, gy_590, (show q_faultKind.toInt ≤ y_584.toInt from (Int.le_trans (Hid.un hpr0_r_473) (Int.le_trans (Hid.un hpr0_r_538) (Hid.un hpr0_r_583)))), (show (y_584.toInt ≠ 0 ∨ p1.toInt = 0 ∨ pnF ep_name e_placeCount r_542 ≠ -1) from (Or.inl (gz_isnc g_586 (by decide)))), hF.trans hR9.symm, by rw [ht]; exact hP, hD⟩, hS.F ht⟩) hS.2.2 (dk_at dkX6_passName 46 rfl)
  · have hF := gf_pos c_471 hF
    have hc_591 : q_token.toInt = 2 := by have h9 := congrArg Int32.toInt c_471; rw [show (2 : Int32).toInt = 2 from by decide] at h9; exact h9
    have g_592 : gi q_token 2 2 := gi_eq c_471 (gi_c 2 2 (by decide))
    refine lv_iconst (v := 1) hx hb (dk_at dkX6_passName 5 rfl) (by decide) ?_
    refine lv_goto (tgt := 14) hx hb (dk_at dkX6_passName 6 rfl) (by decide) ?_
    refine lv_iconst (v := 1) hx hb (dk_at dkX6_passName 8 rfl) (by decide) ?_
    obtain ⟨hPc, hDc, hFc⟩ := gz_cut (wc := [(h0, .inr (6, [.ref tp, .ref dr, .int q_faultKind, .int q_faultPlace, .int q_token, .int q_start, .int q_stop]))]) hP hD hS hA [0] (by decide) rfl
    have hKc := hK.sub (tys' := []) [] rfl
    refine va_callv (va_runV (As := [.int 1, .int 1]) (rest := []) ⟨hx, hb, hml, hown, hts⟩ (sX6_expect l dC dI s.heap.size h0 tp dr q_faultKind q_faultPlace q_token q_start q_stop 1 1 gq_faultKind gq_start gq_stop (gi_w (gi_c 1 1 (by decide)) (by decide)) (gi_w (gi_c 1 1 (by decide)) (by decide))) (cwV 2 hts (gz_gV mGA_250 mGA_251 mGA_252 mGA_9 mGA_253 goodGA) rfl rfl rfl hdV_X6_expect_X6_2 ⟨Nat.le_of_ble_eq_true rfl, Nat.le_of_ble_eq_true rfl⟩) ⟨bl_I (bl_a bl_sz (bl_a bl_P (bl_a bl_K (bl_a bl_c bl_nz)))), va_recv hKc hPc (ci := 6) (q0 := 0) rfl rfl, fun U hU hW => ⟨rfl, by rw [hU], by rw [hU]; exact hPc, va_K.moved hW.alike hKc, hDc.weaken (fun _ _ _ _ => trivial), nzA_warm hW hz⟩⟩ rfl rfl hl.1 rfl (lv_room (Nat.le_of_ble_eq_true rfl)) (dk_at dkX6_passName 9 rfl) ⟨Nat.zero_le _, Nat.zero_le _⟩) hS (fun q _ h => hFc q h) hFc (fun u t H1 locs ht hvm hw hB hz1 hk1 hS => ?_)
    clear hz1
    obtain ⟨y_594, y_595, hB⟩ := hB
    obtain ⟨gy_594, hpr0_r_593, hpr1_r_593, hE, hP1, hD1⟩ := hB
    rw [ht] at hP1
    obtain ⟨hP, hD⟩ := gz_back hP hD hk1 hFc hP1 hD1 [0] rfl rfl
    have hpr0_r_593 : Hid (q_faultKind.toInt ≤ y_594.toInt) := hpr0_r_593
    have hpr1_r_593 : Hid (((1 : Int) = 1 ∨ 1 ≤ y_594.toInt)) := by have h9 : ((1 : Int32).toInt = 1 ∨ 1 ≤ y_594.toInt) := hpr1_r_593; rw [show (1 : Int32).toInt = 1 from by decide] at h9; exact h9
    obtain ⟨hP, hD⟩ := gz_both (w := [(h0, .inr (6, [.ref tp, .ref dr, .int y_594, .int y_595, .int q_token, .int q_start, .int q_stop])), (tp, .inr (10, [.ref bt, .int b_length])), (bt, .inl (kbt, 1600, .inl fbt))]) hP hD
    have hF := gf_call (a := (y_594, y_595)) hE hF
    generalize H1 = H at hP hS ⊢
    refine lv_aload_n hx hb (dk_at dkX6_passName 10 rfl) rfl (lv_at hl 0 rfl) ?_
    refine lv_aload_n hx hb (dk_at dkX6_passName 11 rfl) rfl (lv_at hl 0 rfl) ?_
    refine va_get (D := (dC, dI)) (ci := 6) (v := .int q_stop) (C := RX6) (T := TX6) (N := 7) hx hb hts (fun w h => List.mem_cons_of_mem _ (jnGA_X6 w h)) hown hK hP 0 rfl rfl 6 (by decide) (hts _ (List.mem_cons_of_mem _ mGA_59)) (fun _ h9 => h9) rfl (dk_at dkX6_passName 12 rfl) ?_
    refine lv_aload_n hx hb (dk_at dkX6_passName 13 rfl) rfl (lv_at hl 0 rfl) ?_
    refine va_get (D := (dC, dI)) (ci := 6) (v := .int q_start) (C := RX6) (T := TX6) (N := 7) hx hb hts (fun w h => List.mem_cons_of_mem _ (jnGA_X6 w h)) hown hK hP 0 rfl rfl 5 (by decide) (hts _ (List.mem_cons_of_mem _ mGA_58)) (fun _ h9 => h9) rfl (dk_at dkX6_passName 14 rfl) ?_
    refine lv_isub hx hb (dk_at dkX6_passName 15 rfl) ?_
    refine lv_topi (fun x_596 ex_596 => ?_)
    have gx_596 : gi x_596 (-1600) 1600 := gi_sub ex_596 gq_stop gq_start (by decide)
    refine lv_bipush (v := 6) hx hb (dk_at dkX6_passName 16 rfl) (by decide) ?_
    refine lv_icmp_gt (tgt := 37) hx hb (dk_at dkX6_passName 17 rfl) (by decide) (fun c_597 => ?_) (fun c_597 => ?_)
    · have hF := gf_pos (by rw [ex_596] at c_597; exact c_597) hF
      have hc_598 : 6 < x_596.toInt := by have h9 := Int32.lt_iff_toInt_lt.mp c_597; rw [show (6 : Int32).toInt = 6 from by decide] at h9; exact h9
      have g_599 : gi x_596 7 1600 := gi_lt_r c_597 (gi_c 6 6 (by decide)) gx_596 (by decide)
      refine lv_iconst (v := 0) hx hb (dk_at dkX6_passName 20 rfl) (by decide) ?_
      refine lv_iconst (v := 2) hx hb (dk_at dkX6_passName 21 rfl) (by decide) ?_
      obtain ⟨hPc, hDc, hFc⟩ := gz_cut (wc := [(h0, .inr (6, [.ref tp, .ref dr, .int y_594, .int y_595, .int q_token, .int q_start, .int q_stop]))]) hP hD hS hA [0] (by decide) rfl
      have hKc := hK.sub (tys' := []) [] rfl
      refine va_callv (va_runV (As := [.int 0, .int 2]) (rest := []) ⟨hx, hb, hml, hown, hts⟩ (sX6_expect l dC dI H.size h0 tp dr y_594 y_595 q_token q_start q_stop 0 2 gy_594 gq_start gq_stop (gi_w (gi_c 0 0 (by decide)) (by decide)) (gi_w (gi_c 2 2 (by decide)) (by decide))) (cwV 2 hts (gz_gV mGA_250 mGA_251 mGA_252 mGA_9 mGA_253 goodGA) rfl rfl rfl hdV_X6_expect_X6_2 ⟨Nat.le_of_ble_eq_true rfl, Nat.le_of_ble_eq_true rfl⟩) ⟨bl_I (bl_a bl_sz (bl_a bl_P (bl_a bl_K (bl_a bl_c bl_nz)))), va_recv hKc hPc (ci := 6) (q0 := 0) rfl rfl, fun U hU hW => ⟨rfl, by rw [hU], by rw [hU]; exact hPc, va_K.moved hW.alike hKc, hDc.weaken (fun _ _ _ _ => trivial), nzA_warm hW hz⟩⟩ rfl rfl hl.1 rfl (lv_room (Nat.le_of_ble_eq_true rfl)) (dk_at dkX6_passName 22 rfl) ⟨Nat.zero_le _, Nat.zero_le _⟩) hS (fun q _ h => hFc q h) hFc (fun u t H1 locs ht hvm hw hB hz1 hk1 hS => ?_)
      clear hz1
      obtain ⟨y_601, y_602, hB⟩ := hB
      obtain ⟨gy_601, hpr0_r_600, hpr1_r_600, hE, hP1, hD1⟩ := hB
      rw [ht] at hP1
      obtain ⟨hP, hD⟩ := gz_back hP hD hk1 hFc hP1 hD1 [0] rfl rfl
      have hpr0_r_600 : Hid (y_594.toInt ≤ y_601.toInt) := hpr0_r_600
      have hpr1_r_600 : Hid (((0 : Int) = 1 ∨ 1 ≤ y_601.toInt)) := by have h9 : ((0 : Int32).toInt = 1 ∨ 1 ≤ y_601.toInt) := hpr1_r_600; rw [show (0 : Int32).toInt = 0 from by decide] at h9; exact h9
      have hf_603 : 1 ≤ y_601.toInt := Hid.resL hpr1_r_600 (by omega)
      have g_604 : gi y_601 1 3 := ⟨by omega, gy_601.2⟩
      obtain ⟨hP, hD⟩ := gz_both (w := [(h0, .inr (6, [.ref tp, .ref dr, .int y_601, .int y_602, .int q_token, .int q_start, .int q_stop])), (tp, .inr (10, [.ref bt, .int b_length])), (bt, .inl (kbt, 1600, .inl fbt))]) hP hD
      have hF := gf_call (a := (y_601, y_602)) hE hF
      generalize H1 = H at hP hS ⊢
      refine lv_aload_n hx hb (dk_at dkX6_passName 23 rfl) rfl (lv_at hl 0 rfl) ?_
      have hKc := hK.sub (tys' := [(kbt, .byte)]) [0] rfl
      refine va_calli (va_runV (As := []) (rest := []) ⟨hx, hb, hml, hown, hts⟩ (sX6_nameHere l dC dI h0 tp bt dr y_601 y_602 q_token q_start q_stop b_length kbt fbt (gi_w g_604 (by decide)) gq_start gq_stop gb_length) (cwV 0 hts (gz_gV mGA_294 mGA_295 mGA_296 mGA_9 mGA_297 goodGA) rfl rfl rfl hdV_X6_nameHere_X6_0 ⟨Nat.le_of_ble_eq_true rfl, Nat.le_of_ble_eq_true rfl⟩) ⟨bl_I (bl_a bl_P (bl_a bl_K bl_nz)), va_recv hKc hP (ci := 6) (q0 := 0) rfl rfl, fun U hU hW => ⟨rfl, by rw [hU]; exact hP, va_K.moved hW.alike hKc, nzA_warm hW hz⟩⟩ rfl rfl hl.1 rfl (lv_room (Nat.le_of_ble_eq_true rfl)) (dk_at dkX6_passName 24 rfl) ⟨Nat.zero_le _, Nat.zero_le _⟩) hS (fun q _ h => h.elim) (fun q h => h.elim) (fun r_605 u t H1 locs ht hvm hw hB hz1 hk1 hS => ?_)
      clear hz1
      obtain ⟨hw, hE⟩ := hw
      have hP := gz_keep hP hk1
      have hF := gf_call (a := r_605) hE hF
      generalize H1 = H at hP hS ⊢
      refine lv_istore_n (lv' := [(2, .int r_605), (0, .ref h0), (1, .int p1)]) hx hb (dk_at dkX6_passName 25 rfl) rfl hl (by decide) rfl (fun ls hl => ?_)
      refine lv_aload_n hx hb (dk_at dkX6_passName 26 rfl) rfl (lv_at hl 1 rfl) ?_
      refine lv_aload_n hx hb (dk_at dkX6_passName 27 rfl) rfl (lv_at hl 1 rfl) ?_
      refine va_get (D := (dC, dI)) (ci := 6) (v := .ref dr) (C := RX6) (T := TX6) (N := 7) hx hb hts (fun w h => List.mem_cons_of_mem _ (jnGA_X6 w h)) hown hK hP 0 rfl rfl 1 (by decide) (hts _ (List.mem_cons_of_mem _ mGA_54)) (fun _ h9 => h9) rfl (dk_at dkX6_passName 28 rfl) ?_
      refine lv_iload_n hx hb (dk_at dkX6_passName 29 rfl) rfl (lv_at hl 0 rfl) ?_
      have hPc : va_P (dC, dI) vwCl [(dr, .inr (0, [.int e_months, .int e_full, .int e_lean, .int e_lines, .int e_hasMoon, .int e_moonStart, .int e_moonStep, .int e_placeCount, .int e_reportCount, .int e_deedCount, .ref dpl, .ref dre, .ref dde])), (dpl, .inl (kdpl, 6, .inr (.inr (.inr (.inr (fun i => some (dpa i)))))))] H := (gz_cat ((gz_ro hR hRA hS).sub [0] rfl) ((gz_ro hR hRA hS).sub [1] rfl))
      have hKc := hK.sub (tys' := [(kdpl, .object RX5)]) [1] rfl
      refine va_calli (va_runV (As := [.int r_605]) (rest := [.ref h0]) ⟨hx, hb, hml, hown, hts⟩ (sX0_placeNamedF l dC dI dr dpl e_months e_full e_lean e_lines e_hasMoon e_moonStart e_moonStep e_placeCount e_reportCount e_deedCount dre dde kdpl dpa ep_name ep_trust r_605 ge_months ge_full ge_lean ge_hasMoon ge_placeCount ge_reportCount ge_deedCount) (cwV 1 hts (gz_gV mGA_298 mGA_299 mGA_300 mGA_13 mGA_301 goodGA) rfl rfl rfl hdV_X0_placeNamed_X0_1 ⟨Nat.le_of_ble_eq_true rfl, Nat.le_of_ble_eq_true rfl⟩) ⟨bl_I (bl_a bl_P (bl_a bl_K (bl_a bl_nz bl_P))), va_recv hKc hPc (ci := 0) (q0 := 0) rfl rfl, fun U hU hW => ⟨rfl, by rw [hU]; exact hPc, va_K.moved hW.alike hKc, nzA_warm hW hz, by rw [hU]; exact gz_ro hF0 hFA0 hS⟩⟩ rfl rfl hl.1 rfl (lv_room (Nat.le_of_ble_eq_true rfl)) (dk_at dkX6_passName 30 rfl) ⟨Nat.zero_le _, Nat.zero_le _⟩) hS (fun q _ h => h.elim) (fun q h => h.elim) (fun r_606 u t H1 locs ht hvm hw hB hz1 hk1 hS => ?_)
      clear hz1
      obtain ⟨hw, hE⟩ := hw
      have hP := gz_keep hP hk1
      have hF := gf_call (a := r_606) hE hF
      generalize H1 = H at hP hS ⊢
      have gr_606 : gi r_606 (-1) 5 := hw.1
      have hqr_606 := hw.2
      have hqr_606 : Hid (r_606.toInt = pnF ep_name e_placeCount r_605) := hqr_606
      clear hw
      refine lv_iconst (v := (-1)) hx hb (dk_at dkX6_passName 31 rfl) (by decide) ?_
      refine lv_icmp_eq (tgt := 64) hx hb (dk_at dkX6_passName 32 rfl) (by decide) (fun c_607 => ?_) (fun c_607 => ?_)
      · have hF := gf_pos c_607 hF
        have hc_608 : r_606.toInt = (-1) := by have h9 := congrArg Int32.toInt c_607; rw [show ((-1) : Int32).toInt = (-1) from by decide] at h9; exact h9
        have g_609 : gi r_606 (-1) (-1) := gi_eq c_607 (gi_c (-1) (-1) (by decide))
        refine lv_iconst (v := 0) hx hb (dk_at dkX6_passName 35 rfl) (by decide) ?_
        refine lv_iload_n hx hb (dk_at dkX6_passName 36 rfl) rfl (lv_at hl 2 rfl) ?_
        refine lv_icmp_ne (tgt := 73) hx hb (dk_at dkX6_passName 37 rfl) (by decide) (fun c_610 => ?_) (fun c_610 => ?_)
        · have hF := gf_neg c_610 hF
          have hc_611 : 0 ≠ p1.toInt := fun h9 => c_610 (Int32.toInt_inj.mp (by rw [show (0 : Int32).toInt = 0 from by decide]; exact h9))
          refine lv_iconst (v := 0) hx hb (dk_at dkX6_passName 40 rfl) (by decide) ?_
          refine lv_iconst (v := 2) hx hb (dk_at dkX6_passName 41 rfl) (by decide) ?_
          obtain ⟨hPc, hDc, hFc⟩ := gz_cut (wc := [(h0, .inr (6, [.ref tp, .ref dr, .int y_601, .int y_602, .int q_token, .int q_start, .int q_stop]))]) hP hD hS hA [0] (by decide) rfl
          have hKc := hK.sub (tys' := []) [] rfl
          refine va_callv (va_runV (As := [.int 0, .int 2]) (rest := []) ⟨hx, hb, hml, hown, hts⟩ (sX6_expect l dC dI H.size h0 tp dr y_601 y_602 q_token q_start q_stop 0 2 (gi_w g_604 (by decide)) gq_start gq_stop (gi_w (gi_c 0 0 (by decide)) (by decide)) (gi_w (gi_c 2 2 (by decide)) (by decide))) (cwV 2 hts (gz_gV mGA_250 mGA_251 mGA_252 mGA_9 mGA_253 goodGA) rfl rfl rfl hdV_X6_expect_X6_2 ⟨Nat.le_of_ble_eq_true rfl, Nat.le_of_ble_eq_true rfl⟩) ⟨bl_I (bl_a bl_sz (bl_a bl_P (bl_a bl_K (bl_a bl_c bl_nz)))), va_recv hKc hPc (ci := 6) (q0 := 0) rfl rfl, fun U hU hW => ⟨rfl, by rw [hU], by rw [hU]; exact hPc, va_K.moved hW.alike hKc, hDc.weaken (fun _ _ _ _ => trivial), nzA_warm hW hz⟩⟩ rfl rfl hl.1 rfl (lv_room (Nat.le_of_ble_eq_true rfl)) (dk_at dkX6_passName 42 rfl) ⟨Nat.zero_le _, Nat.zero_le _⟩) hS (fun q _ h => hFc q h) hFc (fun u t H1 locs ht hvm hw hB hz1 hk1 hS => ?_)
          clear hz1
          obtain ⟨y_613, y_614, hB⟩ := hB
          obtain ⟨gy_613, hpr0_r_612, hpr1_r_612, hE, hP1, hD1⟩ := hB
          rw [ht] at hP1
          obtain ⟨hP, hD⟩ := gz_back hP hD hk1 hFc hP1 hD1 [0] rfl rfl
          have hpr0_r_612 : Hid (y_601.toInt ≤ y_613.toInt) := hpr0_r_612
          have g_615 : gi y_613 1 3 := gi_relL (Hid.un hpr0_r_612) g_604 gy_613
          have hpr1_r_612 : Hid (((0 : Int) = 1 ∨ 1 ≤ y_613.toInt)) := by have h9 : ((0 : Int32).toInt = 1 ∨ 1 ≤ y_613.toInt) := hpr1_r_612; rw [show (0 : Int32).toInt = 0 from by decide] at h9; exact h9
          have hf_616 : 1 ≤ y_613.toInt := Hid.resL hpr1_r_612 (by omega)
          obtain ⟨hP, hD⟩ := gz_both (w := [(h0, .inr (6, [.ref tp, .ref dr, .int y_613, .int y_614, .int q_token, .int q_start, .int q_stop])), (tp, .inr (10, [.ref bt, .int b_length])), (bt, .inl (kbt, 1600, .inl fbt))]) hP hD
          have hF := gf_call (a := (y_613, y_614)) hE hF
          generalize H1 = H at hP hS ⊢
          refine lv_aload_n hx hb (dk_at dkX6_passName 43 rfl) rfl (lv_at hl 1 rfl) ?_
          have hKc := hK.sub (tys' := [(kbt, .byte)]) [0] rfl
          have hFc := gz_fullF hD hS hA
          refine va_callv (va_runV (As := []) (rest := []) ⟨hx, hb, hml, hown, hts⟩ (sX6_step l dC dI H.size h0 tp bt dr y_613 y_614 q_token q_start q_stop b_length kbt fbt (gi_w g_615 (by decide)) gq_start gq_stop gb_length) (cwV 0 hts (gz_gV mGA_162 mGA_163 mGA_164 mGA_9 mGA_165 goodGA) rfl rfl rfl hdV_X6_step_X6_0 ⟨Nat.le_of_ble_eq_true rfl, Nat.le_of_ble_eq_true rfl⟩) ⟨bl_I (bl_a bl_sz (bl_a bl_P (bl_a bl_K (bl_a bl_c bl_nz)))), va_recv hKc hP (ci := 6) (q0 := 0) rfl rfl, fun U hU hW => ⟨rfl, by rw [hU], by rw [hU]; exact hP, va_K.moved hW.alike hKc, hD.weaken (fun _ _ _ _ => trivial), nzA_warm hW hz⟩⟩ rfl rfl hl.1 rfl (lv_room (Nat.le_of_ble_eq_true rfl)) (dk_at dkX6_passName 44 rfl) ⟨Nat.zero_le _, Nat.zero_le _⟩) hS (fun q _ h => hFc q h) hFc (fun u t H1 locs ht hvm hw hB hz1 hk1 hS => ?_)
          clear hz1
          obtain ⟨y_618, y_619, y_620, hB⟩ := hB
          obtain ⟨gy_619, gy_620, hE, hP1, hD1⟩ := hB
          rw [ht] at hP1
          have hD := gz_fullD hFc hD1
          have hP := hP1
          have hF := gf_call (a := (y_618, y_619, y_620)) hE hF
          generalize H1 = H at hP hS ⊢
          refine lv_iload_n hx hb (dk_at dkX6_passName 45 rfl) rfl (lv_at hl 0 rfl) ?_
          exact W.iret (v := r_605) hx hb hr (fun t ht hW => ⟨⟨r_605, r_605, rfl, ⟨rfl, (gi_any r_605)⟩, y_613, y_614, y_618, y_619, y_620, (gi_w g_615 (by decide)), gy_619, gy_620, (show q_faultKind.toInt ≤ y_613.toInt from (Int.le_trans (Hid.un hpr0_r_593) (Int.le_trans (Hid.un hpr0_r_600) (Hid.un hpr0_r_612)))), (show (y_613.toInt ≠ 0 ∨ p1.toInt = 0 ∨ pnF ep_name e_placeCount r_605 ≠ -1) from (Or.inl (gz_isnc g_615 (by decide)))), hF.trans hR9.symm, by rw [ht]; exact hP, hD⟩, hS.F ht⟩) hS.2.2 (dk_at dkX6_passName 46 rfl)
        · have hF := gf_pos c_610 hF
          have hc_621 : 0 = p1.toInt := by have h9 := congrArg Int32.toInt c_610; rw [show (0 : Int32).toInt = 0 from by decide] at h9; exact h9
          have g_622 : gi p1 0 0 := gi_eq c_610.symm (gi_c 0 0 (by decide))
          refine lv_iconst (v := 1) hx hb (dk_at dkX6_passName 38 rfl) (by decide) ?_
          refine lv_goto (tgt := 74) hx hb (dk_at dkX6_passName 39 rfl) (by decide) ?_
          refine lv_iconst (v := 2) hx hb (dk_at dkX6_passName 41 rfl) (by decide) ?_
          obtain ⟨hPc, hDc, hFc⟩ := gz_cut (wc := [(h0, .inr (6, [.ref tp, .ref dr, .int y_601, .int y_602, .int q_token, .int q_start, .int q_stop]))]) hP hD hS hA [0] (by decide) rfl
          have hKc := hK.sub (tys' := []) [] rfl
          refine va_callv (va_runV (As := [.int 1, .int 2]) (rest := []) ⟨hx, hb, hml, hown, hts⟩ (sX6_expect l dC dI H.size h0 tp dr y_601 y_602 q_token q_start q_stop 1 2 (gi_w g_604 (by decide)) gq_start gq_stop (gi_w (gi_c 1 1 (by decide)) (by decide)) (gi_w (gi_c 2 2 (by decide)) (by decide))) (cwV 2 hts (gz_gV mGA_250 mGA_251 mGA_252 mGA_9 mGA_253 goodGA) rfl rfl rfl hdV_X6_expect_X6_2 ⟨Nat.le_of_ble_eq_true rfl, Nat.le_of_ble_eq_true rfl⟩) ⟨bl_I (bl_a bl_sz (bl_a bl_P (bl_a bl_K (bl_a bl_c bl_nz)))), va_recv hKc hPc (ci := 6) (q0 := 0) rfl rfl, fun U hU hW => ⟨rfl, by rw [hU], by rw [hU]; exact hPc, va_K.moved hW.alike hKc, hDc.weaken (fun _ _ _ _ => trivial), nzA_warm hW hz⟩⟩ rfl rfl hl.1 rfl (lv_room (Nat.le_of_ble_eq_true rfl)) (dk_at dkX6_passName 42 rfl) ⟨Nat.zero_le _, Nat.zero_le _⟩) hS (fun q _ h => hFc q h) hFc (fun u t H1 locs ht hvm hw hB hz1 hk1 hS => ?_)
          clear hz1
          obtain ⟨y_624, y_625, hB⟩ := hB
          obtain ⟨gy_624, hpr0_r_623, hpr1_r_623, hE, hP1, hD1⟩ := hB
          rw [ht] at hP1
          obtain ⟨hP, hD⟩ := gz_back hP hD hk1 hFc hP1 hD1 [0] rfl rfl
          have hpr0_r_623 : Hid (y_601.toInt ≤ y_624.toInt) := hpr0_r_623
          have g_626 : gi y_624 1 3 := gi_relL (Hid.un hpr0_r_623) g_604 gy_624
          have hpr1_r_623 : Hid (((1 : Int) = 1 ∨ 1 ≤ y_624.toInt)) := by have h9 : ((1 : Int32).toInt = 1 ∨ 1 ≤ y_624.toInt) := hpr1_r_623; rw [show (1 : Int32).toInt = 1 from by decide] at h9; exact h9
          obtain ⟨hP, hD⟩ := gz_both (w := [(h0, .inr (6, [.ref tp, .ref dr, .int y_624, .int y_625, .int q_token, .int q_start, .int q_stop])), (tp, .inr (10, [.ref bt, .int b_length])), (bt, .inl (kbt, 1600, .inl fbt))]) hP hD
          have hF := gf_call (a := (y_624, y_625)) hE hF
          generalize H1 = H at hP hS ⊢
          refine lv_aload_n hx hb (dk_at dkX6_passName 43 rfl) rfl (lv_at hl 1 rfl) ?_
          have hKc := hK.sub (tys' := [(kbt, .byte)]) [0] rfl
          have hFc := gz_fullF hD hS hA
          refine va_callv (va_runV (As := []) (rest := []) ⟨hx, hb, hml, hown, hts⟩ (sX6_step l dC dI H.size h0 tp bt dr y_624 y_625 q_token q_start q_stop b_length kbt fbt (gi_w g_626 (by decide)) gq_start gq_stop gb_length) (cwV 0 hts (gz_gV mGA_162 mGA_163 mGA_164 mGA_9 mGA_165 goodGA) rfl rfl rfl hdV_X6_step_X6_0 ⟨Nat.le_of_ble_eq_true rfl, Nat.le_of_ble_eq_true rfl⟩) ⟨bl_I (bl_a bl_sz (bl_a bl_P (bl_a bl_K (bl_a bl_c bl_nz)))), va_recv hKc hP (ci := 6) (q0 := 0) rfl rfl, fun U hU hW => ⟨rfl, by rw [hU], by rw [hU]; exact hP, va_K.moved hW.alike hKc, hD.weaken (fun _ _ _ _ => trivial), nzA_warm hW hz⟩⟩ rfl rfl hl.1 rfl (lv_room (Nat.le_of_ble_eq_true rfl)) (dk_at dkX6_passName 44 rfl) ⟨Nat.zero_le _, Nat.zero_le _⟩) hS (fun q _ h => hFc q h) hFc (fun u t H1 locs ht hvm hw hB hz1 hk1 hS => ?_)
          clear hz1
          obtain ⟨y_628, y_629, y_630, hB⟩ := hB
          obtain ⟨gy_629, gy_630, hE, hP1, hD1⟩ := hB
          rw [ht] at hP1
          have hD := gz_fullD hFc hD1
          have hP := hP1
          have hF := gf_call (a := (y_628, y_629, y_630)) hE hF
          generalize H1 = H at hP hS ⊢
          refine lv_iload_n hx hb (dk_at dkX6_passName 45 rfl) rfl (lv_at hl 0 rfl) ?_
          exact W.iret (v := r_605) hx hb hr (fun t ht hW => ⟨⟨r_605, r_605, rfl, ⟨rfl, (gi_any r_605)⟩, y_624, y_625, y_628, y_629, y_630, (gi_w g_626 (by decide)), gy_629, gy_630, (show q_faultKind.toInt ≤ y_624.toInt from (Int.le_trans (Hid.un hpr0_r_593) (Int.le_trans (Hid.un hpr0_r_600) (Hid.un hpr0_r_623)))), (show (y_624.toInt ≠ 0 ∨ p1.toInt = 0 ∨ pnF ep_name e_placeCount r_605 ≠ -1) from (Or.inl (gz_isnc g_626 (by decide)))), hF.trans hR9.symm, by rw [ht]; exact hP, hD⟩, hS.F ht⟩) hS.2.2 (dk_at dkX6_passName 46 rfl)
      · have hF := gf_neg c_607 hF
        have hc_631 : r_606.toInt ≠ (-1) := fun h9 => c_607 (Int32.toInt_inj.mp (by rw [show ((-1) : Int32).toInt = (-1) from by decide]; exact h9))
        have g_632 : gi r_606 0 5 := gi_ne_lo c_607 gr_606 (gi_c (-1) (-1) (by decide)) (by decide)
        refine lv_iconst (v := 1) hx hb (dk_at dkX6_passName 33 rfl) (by decide) ?_
        refine lv_goto (tgt := 65) hx hb (dk_at dkX6_passName 34 rfl) (by decide) ?_
        refine lv_iload_n hx hb (dk_at dkX6_passName 36 rfl) rfl (lv_at hl 2 rfl) ?_
        refine lv_icmp_ne (tgt := 73) hx hb (dk_at dkX6_passName 37 rfl) (by decide) (fun c_633 => ?_) (fun c_633 => ?_)
        · have hF := gf_neg c_633 hF
          have hc_634 : 1 ≠ p1.toInt := fun h9 => c_633 (Int32.toInt_inj.mp (by rw [show (1 : Int32).toInt = 1 from by decide]; exact h9))
          refine lv_iconst (v := 0) hx hb (dk_at dkX6_passName 40 rfl) (by decide) ?_
          refine lv_iconst (v := 2) hx hb (dk_at dkX6_passName 41 rfl) (by decide) ?_
          obtain ⟨hPc, hDc, hFc⟩ := gz_cut (wc := [(h0, .inr (6, [.ref tp, .ref dr, .int y_601, .int y_602, .int q_token, .int q_start, .int q_stop]))]) hP hD hS hA [0] (by decide) rfl
          have hKc := hK.sub (tys' := []) [] rfl
          refine va_callv (va_runV (As := [.int 0, .int 2]) (rest := []) ⟨hx, hb, hml, hown, hts⟩ (sX6_expect l dC dI H.size h0 tp dr y_601 y_602 q_token q_start q_stop 0 2 (gi_w g_604 (by decide)) gq_start gq_stop (gi_w (gi_c 0 0 (by decide)) (by decide)) (gi_w (gi_c 2 2 (by decide)) (by decide))) (cwV 2 hts (gz_gV mGA_250 mGA_251 mGA_252 mGA_9 mGA_253 goodGA) rfl rfl rfl hdV_X6_expect_X6_2 ⟨Nat.le_of_ble_eq_true rfl, Nat.le_of_ble_eq_true rfl⟩) ⟨bl_I (bl_a bl_sz (bl_a bl_P (bl_a bl_K (bl_a bl_c bl_nz)))), va_recv hKc hPc (ci := 6) (q0 := 0) rfl rfl, fun U hU hW => ⟨rfl, by rw [hU], by rw [hU]; exact hPc, va_K.moved hW.alike hKc, hDc.weaken (fun _ _ _ _ => trivial), nzA_warm hW hz⟩⟩ rfl rfl hl.1 rfl (lv_room (Nat.le_of_ble_eq_true rfl)) (dk_at dkX6_passName 42 rfl) ⟨Nat.zero_le _, Nat.zero_le _⟩) hS (fun q _ h => hFc q h) hFc (fun u t H1 locs ht hvm hw hB hz1 hk1 hS => ?_)
          clear hz1
          obtain ⟨y_636, y_637, hB⟩ := hB
          obtain ⟨gy_636, hpr0_r_635, hpr1_r_635, hE, hP1, hD1⟩ := hB
          rw [ht] at hP1
          obtain ⟨hP, hD⟩ := gz_back hP hD hk1 hFc hP1 hD1 [0] rfl rfl
          have hpr0_r_635 : Hid (y_601.toInt ≤ y_636.toInt) := hpr0_r_635
          have g_638 : gi y_636 1 3 := gi_relL (Hid.un hpr0_r_635) g_604 gy_636
          have hpr1_r_635 : Hid (((0 : Int) = 1 ∨ 1 ≤ y_636.toInt)) := by have h9 : ((0 : Int32).toInt = 1 ∨ 1 ≤ y_636.toInt) := hpr1_r_635; rw [show (0 : Int32).toInt = 0 from by decide] at h9; exact h9
          have hf_639 : 1 ≤ y_636.toInt := Hid.resL hpr1_r_635 (by omega)
          obtain ⟨hP, hD⟩ := gz_both (w := [(h0, .inr (6, [.ref tp, .ref dr, .int y_636, .int y_637, .int q_token, .int q_start, .int q_stop])), (tp, .inr (10, [.ref bt, .int b_length])), (bt, .inl (kbt, 1600, .inl fbt))]) hP hD
          have hF := gf_call (a := (y_636, y_637)) hE hF
          generalize H1 = H at hP hS ⊢
          refine lv_aload_n hx hb (dk_at dkX6_passName 43 rfl) rfl (lv_at hl 1 rfl) ?_
          have hKc := hK.sub (tys' := [(kbt, .byte)]) [0] rfl
          have hFc := gz_fullF hD hS hA
          refine va_callv (va_runV (As := []) (rest := []) ⟨hx, hb, hml, hown, hts⟩ (sX6_step l dC dI H.size h0 tp bt dr y_636 y_637 q_token q_start q_stop b_length kbt fbt (gi_w g_638 (by decide)) gq_start gq_stop gb_length) (cwV 0 hts (gz_gV mGA_162 mGA_163 mGA_164 mGA_9 mGA_165 goodGA) rfl rfl rfl hdV_X6_step_X6_0 ⟨Nat.le_of_ble_eq_true rfl, Nat.le_of_ble_eq_true rfl⟩) ⟨bl_I (bl_a bl_sz (bl_a bl_P (bl_a bl_K (bl_a bl_c bl_nz)))), va_recv hKc hP (ci := 6) (q0 := 0) rfl rfl, fun U hU hW => ⟨rfl, by rw [hU], by rw [hU]; exact hP, va_K.moved hW.alike hKc, hD.weaken (fun _ _ _ _ => trivial), nzA_warm hW hz⟩⟩ rfl rfl hl.1 rfl (lv_room (Nat.le_of_ble_eq_true rfl)) (dk_at dkX6_passName 44 rfl) ⟨Nat.zero_le _, Nat.zero_le _⟩) hS (fun q _ h => hFc q h) hFc (fun u t H1 locs ht hvm hw hB hz1 hk1 hS => ?_)
          clear hz1
          obtain ⟨y_641, y_642, y_643, hB⟩ := hB
          obtain ⟨gy_642, gy_643, hE, hP1, hD1⟩ := hB
          rw [ht] at hP1
          have hD := gz_fullD hFc hD1
          have hP := hP1
          have hF := gf_call (a := (y_641, y_642, y_643)) hE hF
          generalize H1 = H at hP hS ⊢
          refine lv_iload_n hx hb (dk_at dkX6_passName 45 rfl) rfl (lv_at hl 0 rfl) ?_
          exact W.iret (v := r_605) hx hb hr (fun t ht hW => ⟨⟨r_605, r_605, rfl, ⟨rfl, (gi_any r_605)⟩, y_636, y_637, y_641, y_642, y_643, (gi_w g_638 (by decide)), gy_642, gy_643, (show q_faultKind.toInt ≤ y_636.toInt from (Int.le_trans (Hid.un hpr0_r_593) (Int.le_trans (Hid.un hpr0_r_600) (Hid.un hpr0_r_635)))), (show (y_636.toInt ≠ 0 ∨ p1.toInt = 0 ∨ pnF ep_name e_placeCount r_605 ≠ -1) from (Or.inl (gz_isnc g_638 (by decide)))), hF.trans hR9.symm, by rw [ht]; exact hP, hD⟩, hS.F ht⟩) hS.2.2 (dk_at dkX6_passName 46 rfl)
        · have hF := gf_pos c_633 hF
          have hc_644 : 1 = p1.toInt := by have h9 := congrArg Int32.toInt c_633; rw [show (1 : Int32).toInt = 1 from by decide] at h9; exact h9
          have g_645 : gi p1 1 1 := gi_eq c_633.symm (gi_c 1 1 (by decide))
          refine lv_iconst (v := 1) hx hb (dk_at dkX6_passName 38 rfl) (by decide) ?_
          refine lv_goto (tgt := 74) hx hb (dk_at dkX6_passName 39 rfl) (by decide) ?_
          refine lv_iconst (v := 2) hx hb (dk_at dkX6_passName 41 rfl) (by decide) ?_
          obtain ⟨hPc, hDc, hFc⟩ := gz_cut (wc := [(h0, .inr (6, [.ref tp, .ref dr, .int y_601, .int y_602, .int q_token, .int q_start, .int q_stop]))]) hP hD hS hA [0] (by decide) rfl
          have hKc := hK.sub (tys' := []) [] rfl
          refine va_callv (va_runV (As := [.int 1, .int 2]) (rest := []) ⟨hx, hb, hml, hown, hts⟩ (sX6_expect l dC dI H.size h0 tp dr y_601 y_602 q_token q_start q_stop 1 2 (gi_w g_604 (by decide)) gq_start gq_stop (gi_w (gi_c 1 1 (by decide)) (by decide)) (gi_w (gi_c 2 2 (by decide)) (by decide))) (cwV 2 hts (gz_gV mGA_250 mGA_251 mGA_252 mGA_9 mGA_253 goodGA) rfl rfl rfl hdV_X6_expect_X6_2 ⟨Nat.le_of_ble_eq_true rfl, Nat.le_of_ble_eq_true rfl⟩) ⟨bl_I (bl_a bl_sz (bl_a bl_P (bl_a bl_K (bl_a bl_c bl_nz)))), va_recv hKc hPc (ci := 6) (q0 := 0) rfl rfl, fun U hU hW => ⟨rfl, by rw [hU], by rw [hU]; exact hPc, va_K.moved hW.alike hKc, hDc.weaken (fun _ _ _ _ => trivial), nzA_warm hW hz⟩⟩ rfl rfl hl.1 rfl (lv_room (Nat.le_of_ble_eq_true rfl)) (dk_at dkX6_passName 42 rfl) ⟨Nat.zero_le _, Nat.zero_le _⟩) hS (fun q _ h => hFc q h) hFc (fun u t H1 locs ht hvm hw hB hz1 hk1 hS => ?_)
          clear hz1
          obtain ⟨y_647, y_648, hB⟩ := hB
          obtain ⟨gy_647, hpr0_r_646, hpr1_r_646, hE, hP1, hD1⟩ := hB
          rw [ht] at hP1
          obtain ⟨hP, hD⟩ := gz_back hP hD hk1 hFc hP1 hD1 [0] rfl rfl
          have hpr0_r_646 : Hid (y_601.toInt ≤ y_647.toInt) := hpr0_r_646
          have g_649 : gi y_647 1 3 := gi_relL (Hid.un hpr0_r_646) g_604 gy_647
          have hpr1_r_646 : Hid (((1 : Int) = 1 ∨ 1 ≤ y_647.toInt)) := by have h9 : ((1 : Int32).toInt = 1 ∨ 1 ≤ y_647.toInt) := hpr1_r_646; rw [show (1 : Int32).toInt = 1 from by decide] at h9; exact h9
          obtain ⟨hP, hD⟩ := gz_both (w := [(h0, .inr (6, [.ref tp, .ref dr, .int y_647, .int y_648, .int q_token, .int q_start, .int q_stop])), (tp, .inr (10, [.ref bt, .int b_length])), (bt, .inl (kbt, 1600, .inl fbt))]) hP hD
          have hF := gf_call (a := (y_647, y_648)) hE hF
          generalize H1 = H at hP hS ⊢
          refine lv_aload_n hx hb (dk_at dkX6_passName 43 rfl) rfl (lv_at hl 1 rfl) ?_
          have hKc := hK.sub (tys' := [(kbt, .byte)]) [0] rfl
          have hFc := gz_fullF hD hS hA
          refine va_callv (va_runV (As := []) (rest := []) ⟨hx, hb, hml, hown, hts⟩ (sX6_step l dC dI H.size h0 tp bt dr y_647 y_648 q_token q_start q_stop b_length kbt fbt (gi_w g_649 (by decide)) gq_start gq_stop gb_length) (cwV 0 hts (gz_gV mGA_162 mGA_163 mGA_164 mGA_9 mGA_165 goodGA) rfl rfl rfl hdV_X6_step_X6_0 ⟨Nat.le_of_ble_eq_true rfl, Nat.le_of_ble_eq_true rfl⟩) ⟨bl_I (bl_a bl_sz (bl_a bl_P (bl_a bl_K (bl_a bl_c bl_nz)))), va_recv hKc hP (ci := 6) (q0 := 0) rfl rfl, fun U hU hW => ⟨rfl, by rw [hU], by rw [hU]; exact hP, va_K.moved hW.alike hKc, hD.weaken (fun _ _ _ _ => trivial), nzA_warm hW hz⟩⟩ rfl rfl hl.1 rfl (lv_room (Nat.le_of_ble_eq_true rfl)) (dk_at dkX6_passName 44 rfl) ⟨Nat.zero_le _, Nat.zero_le _⟩) hS (fun q _ h => hFc q h) hFc (fun u t H1 locs ht hvm hw hB hz1 hk1 hS => ?_)
          clear hz1
          obtain ⟨y_651, y_652, y_653, hB⟩ := hB
          obtain ⟨gy_652, gy_653, hE, hP1, hD1⟩ := hB
          rw [ht] at hP1
          have hD := gz_fullD hFc hD1
          have hP := hP1
          have hF := gf_call (a := (y_651, y_652, y_653)) hE hF
          generalize H1 = H at hP hS ⊢
          refine lv_iload_n hx hb (dk_at dkX6_passName 45 rfl) rfl (lv_at hl 0 rfl) ?_
          exact W.iret (v := r_605) hx hb hr (fun t ht hW => ⟨⟨r_605, r_605, rfl, ⟨rfl, (gi_any r_605)⟩, y_647, y_648, y_651, y_652, y_653, (gi_w g_649 (by decide)), gy_652, gy_653, (show q_faultKind.toInt ≤ y_647.toInt from (Int.le_trans (Hid.un hpr0_r_593) (Int.le_trans (Hid.un hpr0_r_600) (Hid.un hpr0_r_646)))), (show (y_647.toInt ≠ 0 ∨ p1.toInt = 0 ∨ pnF ep_name e_placeCount r_605 ≠ -1) from (Or.inl (gz_isnc g_649 (by decide)))), hF.trans hR9.symm, by rw [ht]; exact hP, hD⟩, hS.F ht⟩) hS.2.2 (dk_at dkX6_passName 46 rfl)
    · have hF := gf_neg (by rw [ex_596] at c_597; exact c_597) hF
      have hc_654 : x_596.toInt ≤ 6 := by have h9 := Int32.le_iff_toInt_le.mp (Int32.not_lt.mp c_597); rw [show (6 : Int32).toInt = 6 from by decide] at h9; exact h9
      have g_655 : gi x_596 (-1600) 6 := gi_le_l (Int32.not_lt.mp c_597) gx_596 (gi_c 6 6 (by decide))
      refine lv_iconst (v := 1) hx hb (dk_at dkX6_passName 18 rfl) (by decide) ?_
      refine lv_goto (tgt := 38) hx hb (dk_at dkX6_passName 19 rfl) (by decide) ?_
      refine lv_iconst (v := 2) hx hb (dk_at dkX6_passName 21 rfl) (by decide) ?_
      obtain ⟨hPc, hDc, hFc⟩ := gz_cut (wc := [(h0, .inr (6, [.ref tp, .ref dr, .int y_594, .int y_595, .int q_token, .int q_start, .int q_stop]))]) hP hD hS hA [0] (by decide) rfl
      have hKc := hK.sub (tys' := []) [] rfl
      refine va_callv (va_runV (As := [.int 1, .int 2]) (rest := []) ⟨hx, hb, hml, hown, hts⟩ (sX6_expect l dC dI H.size h0 tp dr y_594 y_595 q_token q_start q_stop 1 2 gy_594 gq_start gq_stop (gi_w (gi_c 1 1 (by decide)) (by decide)) (gi_w (gi_c 2 2 (by decide)) (by decide))) (cwV 2 hts (gz_gV mGA_250 mGA_251 mGA_252 mGA_9 mGA_253 goodGA) rfl rfl rfl hdV_X6_expect_X6_2 ⟨Nat.le_of_ble_eq_true rfl, Nat.le_of_ble_eq_true rfl⟩) ⟨bl_I (bl_a bl_sz (bl_a bl_P (bl_a bl_K (bl_a bl_c bl_nz)))), va_recv hKc hPc (ci := 6) (q0 := 0) rfl rfl, fun U hU hW => ⟨rfl, by rw [hU], by rw [hU]; exact hPc, va_K.moved hW.alike hKc, hDc.weaken (fun _ _ _ _ => trivial), nzA_warm hW hz⟩⟩ rfl rfl hl.1 rfl (lv_room (Nat.le_of_ble_eq_true rfl)) (dk_at dkX6_passName 22 rfl) ⟨Nat.zero_le _, Nat.zero_le _⟩) hS (fun q _ h => hFc q h) hFc (fun u t H1 locs ht hvm hw hB hz1 hk1 hS => ?_)
      clear hz1
      obtain ⟨y_657, y_658, hB⟩ := hB
      obtain ⟨gy_657, hpr0_r_656, hpr1_r_656, hE, hP1, hD1⟩ := hB
      rw [ht] at hP1
      obtain ⟨hP, hD⟩ := gz_back hP hD hk1 hFc hP1 hD1 [0] rfl rfl
      have hpr0_r_656 : Hid (y_594.toInt ≤ y_657.toInt) := hpr0_r_656
      have hpr1_r_656 : Hid (((1 : Int) = 1 ∨ 1 ≤ y_657.toInt)) := by have h9 : ((1 : Int32).toInt = 1 ∨ 1 ≤ y_657.toInt) := hpr1_r_656; rw [show (1 : Int32).toInt = 1 from by decide] at h9; exact h9
      obtain ⟨hP, hD⟩ := gz_both (w := [(h0, .inr (6, [.ref tp, .ref dr, .int y_657, .int y_658, .int q_token, .int q_start, .int q_stop])), (tp, .inr (10, [.ref bt, .int b_length])), (bt, .inl (kbt, 1600, .inl fbt))]) hP hD
      have hF := gf_call (a := (y_657, y_658)) hE hF
      generalize H1 = H at hP hS ⊢
      refine lv_aload_n hx hb (dk_at dkX6_passName 23 rfl) rfl (lv_at hl 0 rfl) ?_
      have hKc := hK.sub (tys' := [(kbt, .byte)]) [0] rfl
      refine va_calli (va_runV (As := []) (rest := []) ⟨hx, hb, hml, hown, hts⟩ (sX6_nameHere l dC dI h0 tp bt dr y_657 y_658 q_token q_start q_stop b_length kbt fbt gy_657 gq_start gq_stop gb_length) (cwV 0 hts (gz_gV mGA_294 mGA_295 mGA_296 mGA_9 mGA_297 goodGA) rfl rfl rfl hdV_X6_nameHere_X6_0 ⟨Nat.le_of_ble_eq_true rfl, Nat.le_of_ble_eq_true rfl⟩) ⟨bl_I (bl_a bl_P (bl_a bl_K bl_nz)), va_recv hKc hP (ci := 6) (q0 := 0) rfl rfl, fun U hU hW => ⟨rfl, by rw [hU]; exact hP, va_K.moved hW.alike hKc, nzA_warm hW hz⟩⟩ rfl rfl hl.1 rfl (lv_room (Nat.le_of_ble_eq_true rfl)) (dk_at dkX6_passName 24 rfl) ⟨Nat.zero_le _, Nat.zero_le _⟩) hS (fun q _ h => h.elim) (fun q h => h.elim) (fun r_659 u t H1 locs ht hvm hw hB hz1 hk1 hS => ?_)
      clear hz1
      obtain ⟨hw, hE⟩ := hw
      have hP := gz_keep hP hk1
      have hF := gf_call (a := r_659) hE hF
      generalize H1 = H at hP hS ⊢
      refine lv_istore_n (lv' := [(2, .int r_659), (0, .ref h0), (1, .int p1)]) hx hb (dk_at dkX6_passName 25 rfl) rfl hl (by decide) rfl (fun ls hl => ?_)
      refine lv_aload_n hx hb (dk_at dkX6_passName 26 rfl) rfl (lv_at hl 1 rfl) ?_
      refine lv_aload_n hx hb (dk_at dkX6_passName 27 rfl) rfl (lv_at hl 1 rfl) ?_
      refine va_get (D := (dC, dI)) (ci := 6) (v := .ref dr) (C := RX6) (T := TX6) (N := 7) hx hb hts (fun w h => List.mem_cons_of_mem _ (jnGA_X6 w h)) hown hK hP 0 rfl rfl 1 (by decide) (hts _ (List.mem_cons_of_mem _ mGA_54)) (fun _ h9 => h9) rfl (dk_at dkX6_passName 28 rfl) ?_
      refine lv_iload_n hx hb (dk_at dkX6_passName 29 rfl) rfl (lv_at hl 0 rfl) ?_
      have hPc : va_P (dC, dI) vwCl [(dr, .inr (0, [.int e_months, .int e_full, .int e_lean, .int e_lines, .int e_hasMoon, .int e_moonStart, .int e_moonStep, .int e_placeCount, .int e_reportCount, .int e_deedCount, .ref dpl, .ref dre, .ref dde])), (dpl, .inl (kdpl, 6, .inr (.inr (.inr (.inr (fun i => some (dpa i)))))))] H := (gz_cat ((gz_ro hR hRA hS).sub [0] rfl) ((gz_ro hR hRA hS).sub [1] rfl))
      have hKc := hK.sub (tys' := [(kdpl, .object RX5)]) [1] rfl
      refine va_calli (va_runV (As := [.int r_659]) (rest := [.ref h0]) ⟨hx, hb, hml, hown, hts⟩ (sX0_placeNamedF l dC dI dr dpl e_months e_full e_lean e_lines e_hasMoon e_moonStart e_moonStep e_placeCount e_reportCount e_deedCount dre dde kdpl dpa ep_name ep_trust r_659 ge_months ge_full ge_lean ge_hasMoon ge_placeCount ge_reportCount ge_deedCount) (cwV 1 hts (gz_gV mGA_298 mGA_299 mGA_300 mGA_13 mGA_301 goodGA) rfl rfl rfl hdV_X0_placeNamed_X0_1 ⟨Nat.le_of_ble_eq_true rfl, Nat.le_of_ble_eq_true rfl⟩) ⟨bl_I (bl_a bl_P (bl_a bl_K (bl_a bl_nz bl_P))), va_recv hKc hPc (ci := 0) (q0 := 0) rfl rfl, fun U hU hW => ⟨rfl, by rw [hU]; exact hPc, va_K.moved hW.alike hKc, nzA_warm hW hz, by rw [hU]; exact gz_ro hF0 hFA0 hS⟩⟩ rfl rfl hl.1 rfl (lv_room (Nat.le_of_ble_eq_true rfl)) (dk_at dkX6_passName 30 rfl) ⟨Nat.zero_le _, Nat.zero_le _⟩) hS (fun q _ h => h.elim) (fun q h => h.elim) (fun r_660 u t H1 locs ht hvm hw hB hz1 hk1 hS => ?_)
      clear hz1
      obtain ⟨hw, hE⟩ := hw
      have hP := gz_keep hP hk1
      have hF := gf_call (a := r_660) hE hF
      generalize H1 = H at hP hS ⊢
      have gr_660 : gi r_660 (-1) 5 := hw.1
      have hqr_660 := hw.2
      have hqr_660 : Hid (r_660.toInt = pnF ep_name e_placeCount r_659) := hqr_660
      clear hw
      refine lv_iconst (v := (-1)) hx hb (dk_at dkX6_passName 31 rfl) (by decide) ?_
      refine lv_icmp_eq (tgt := 64) hx hb (dk_at dkX6_passName 32 rfl) (by decide) (fun c_661 => ?_) (fun c_661 => ?_)
      · have hF := gf_pos c_661 hF
        have hc_662 : r_660.toInt = (-1) := by have h9 := congrArg Int32.toInt c_661; rw [show ((-1) : Int32).toInt = (-1) from by decide] at h9; exact h9
        have g_663 : gi r_660 (-1) (-1) := gi_eq c_661 (gi_c (-1) (-1) (by decide))
        refine lv_iconst (v := 0) hx hb (dk_at dkX6_passName 35 rfl) (by decide) ?_
        refine lv_iload_n hx hb (dk_at dkX6_passName 36 rfl) rfl (lv_at hl 2 rfl) ?_
        refine lv_icmp_ne (tgt := 73) hx hb (dk_at dkX6_passName 37 rfl) (by decide) (fun c_664 => ?_) (fun c_664 => ?_)
        · have hF := gf_neg c_664 hF
          have hc_665 : 0 ≠ p1.toInt := fun h9 => c_664 (Int32.toInt_inj.mp (by rw [show (0 : Int32).toInt = 0 from by decide]; exact h9))
          refine lv_iconst (v := 0) hx hb (dk_at dkX6_passName 40 rfl) (by decide) ?_
          refine lv_iconst (v := 2) hx hb (dk_at dkX6_passName 41 rfl) (by decide) ?_
          obtain ⟨hPc, hDc, hFc⟩ := gz_cut (wc := [(h0, .inr (6, [.ref tp, .ref dr, .int y_657, .int y_658, .int q_token, .int q_start, .int q_stop]))]) hP hD hS hA [0] (by decide) rfl
          have hKc := hK.sub (tys' := []) [] rfl
          refine va_callv (va_runV (As := [.int 0, .int 2]) (rest := []) ⟨hx, hb, hml, hown, hts⟩ (sX6_expect l dC dI H.size h0 tp dr y_657 y_658 q_token q_start q_stop 0 2 gy_657 gq_start gq_stop (gi_w (gi_c 0 0 (by decide)) (by decide)) (gi_w (gi_c 2 2 (by decide)) (by decide))) (cwV 2 hts (gz_gV mGA_250 mGA_251 mGA_252 mGA_9 mGA_253 goodGA) rfl rfl rfl hdV_X6_expect_X6_2 ⟨Nat.le_of_ble_eq_true rfl, Nat.le_of_ble_eq_true rfl⟩) ⟨bl_I (bl_a bl_sz (bl_a bl_P (bl_a bl_K (bl_a bl_c bl_nz)))), va_recv hKc hPc (ci := 6) (q0 := 0) rfl rfl, fun U hU hW => ⟨rfl, by rw [hU], by rw [hU]; exact hPc, va_K.moved hW.alike hKc, hDc.weaken (fun _ _ _ _ => trivial), nzA_warm hW hz⟩⟩ rfl rfl hl.1 rfl (lv_room (Nat.le_of_ble_eq_true rfl)) (dk_at dkX6_passName 42 rfl) ⟨Nat.zero_le _, Nat.zero_le _⟩) hS (fun q _ h => hFc q h) hFc (fun u t H1 locs ht hvm hw hB hz1 hk1 hS => ?_)
          clear hz1
          obtain ⟨y_667, y_668, hB⟩ := hB
          obtain ⟨gy_667, hpr0_r_666, hpr1_r_666, hE, hP1, hD1⟩ := hB
          rw [ht] at hP1
          obtain ⟨hP, hD⟩ := gz_back hP hD hk1 hFc hP1 hD1 [0] rfl rfl
          have hpr0_r_666 : Hid (y_657.toInt ≤ y_667.toInt) := hpr0_r_666
          have hpr1_r_666 : Hid (((0 : Int) = 1 ∨ 1 ≤ y_667.toInt)) := by have h9 : ((0 : Int32).toInt = 1 ∨ 1 ≤ y_667.toInt) := hpr1_r_666; rw [show (0 : Int32).toInt = 0 from by decide] at h9; exact h9
          have hf_669 : 1 ≤ y_667.toInt := Hid.resL hpr1_r_666 (by omega)
          have g_670 : gi y_667 1 3 := ⟨by omega, gy_667.2⟩
          obtain ⟨hP, hD⟩ := gz_both (w := [(h0, .inr (6, [.ref tp, .ref dr, .int y_667, .int y_668, .int q_token, .int q_start, .int q_stop])), (tp, .inr (10, [.ref bt, .int b_length])), (bt, .inl (kbt, 1600, .inl fbt))]) hP hD
          have hF := gf_call (a := (y_667, y_668)) hE hF
          generalize H1 = H at hP hS ⊢
          refine lv_aload_n hx hb (dk_at dkX6_passName 43 rfl) rfl (lv_at hl 1 rfl) ?_
          have hKc := hK.sub (tys' := [(kbt, .byte)]) [0] rfl
          have hFc := gz_fullF hD hS hA
          refine va_callv (va_runV (As := []) (rest := []) ⟨hx, hb, hml, hown, hts⟩ (sX6_step l dC dI H.size h0 tp bt dr y_667 y_668 q_token q_start q_stop b_length kbt fbt (gi_w g_670 (by decide)) gq_start gq_stop gb_length) (cwV 0 hts (gz_gV mGA_162 mGA_163 mGA_164 mGA_9 mGA_165 goodGA) rfl rfl rfl hdV_X6_step_X6_0 ⟨Nat.le_of_ble_eq_true rfl, Nat.le_of_ble_eq_true rfl⟩) ⟨bl_I (bl_a bl_sz (bl_a bl_P (bl_a bl_K (bl_a bl_c bl_nz)))), va_recv hKc hP (ci := 6) (q0 := 0) rfl rfl, fun U hU hW => ⟨rfl, by rw [hU], by rw [hU]; exact hP, va_K.moved hW.alike hKc, hD.weaken (fun _ _ _ _ => trivial), nzA_warm hW hz⟩⟩ rfl rfl hl.1 rfl (lv_room (Nat.le_of_ble_eq_true rfl)) (dk_at dkX6_passName 44 rfl) ⟨Nat.zero_le _, Nat.zero_le _⟩) hS (fun q _ h => hFc q h) hFc (fun u t H1 locs ht hvm hw hB hz1 hk1 hS => ?_)
          clear hz1
          obtain ⟨y_672, y_673, y_674, hB⟩ := hB
          obtain ⟨gy_673, gy_674, hE, hP1, hD1⟩ := hB
          rw [ht] at hP1
          have hD := gz_fullD hFc hD1
          have hP := hP1
          have hF := gf_call (a := (y_672, y_673, y_674)) hE hF
          generalize H1 = H at hP hS ⊢
          refine lv_iload_n hx hb (dk_at dkX6_passName 45 rfl) rfl (lv_at hl 0 rfl) ?_
          exact W.iret (v := r_659) hx hb hr (fun t ht hW => ⟨⟨r_659, r_659, rfl, ⟨rfl, (gi_any r_659)⟩, y_667, y_668, y_672, y_673, y_674, (gi_w g_670 (by decide)), gy_673, gy_674, (show q_faultKind.toInt ≤ y_667.toInt from (Int.le_trans (Hid.un hpr0_r_593) (Int.le_trans (Hid.un hpr0_r_656) (Hid.un hpr0_r_666)))), (show (y_667.toInt ≠ 0 ∨ p1.toInt = 0 ∨ pnF ep_name e_placeCount r_659 ≠ -1) from (Or.inl (gz_isnc g_670 (by decide)))), hF.trans hR9.symm, by rw [ht]; exact hP, hD⟩, hS.F ht⟩) hS.2.2 (dk_at dkX6_passName 46 rfl)
        · have hF := gf_pos c_664 hF
          have hc_675 : 0 = p1.toInt := by have h9 := congrArg Int32.toInt c_664; rw [show (0 : Int32).toInt = 0 from by decide] at h9; exact h9
          have g_676 : gi p1 0 0 := gi_eq c_664.symm (gi_c 0 0 (by decide))
          refine lv_iconst (v := 1) hx hb (dk_at dkX6_passName 38 rfl) (by decide) ?_
          refine lv_goto (tgt := 74) hx hb (dk_at dkX6_passName 39 rfl) (by decide) ?_
          refine lv_iconst (v := 2) hx hb (dk_at dkX6_passName 41 rfl) (by decide) ?_
          obtain ⟨hPc, hDc, hFc⟩ := gz_cut (wc := [(h0, .inr (6, [.ref tp, .ref dr, .int y_657, .int y_658, .int q_token, .int q_start, .int q_stop]))]) hP hD hS hA [0] (by decide) rfl
          have hKc := hK.sub (tys' := []) [] rfl
          refine va_callv (va_runV (As := [.int 1, .int 2]) (rest := []) ⟨hx, hb, hml, hown, hts⟩ (sX6_expect l dC dI H.size h0 tp dr y_657 y_658 q_token q_start q_stop 1 2 gy_657 gq_start gq_stop (gi_w (gi_c 1 1 (by decide)) (by decide)) (gi_w (gi_c 2 2 (by decide)) (by decide))) (cwV 2 hts (gz_gV mGA_250 mGA_251 mGA_252 mGA_9 mGA_253 goodGA) rfl rfl rfl hdV_X6_expect_X6_2 ⟨Nat.le_of_ble_eq_true rfl, Nat.le_of_ble_eq_true rfl⟩) ⟨bl_I (bl_a bl_sz (bl_a bl_P (bl_a bl_K (bl_a bl_c bl_nz)))), va_recv hKc hPc (ci := 6) (q0 := 0) rfl rfl, fun U hU hW => ⟨rfl, by rw [hU], by rw [hU]; exact hPc, va_K.moved hW.alike hKc, hDc.weaken (fun _ _ _ _ => trivial), nzA_warm hW hz⟩⟩ rfl rfl hl.1 rfl (lv_room (Nat.le_of_ble_eq_true rfl)) (dk_at dkX6_passName 42 rfl) ⟨Nat.zero_le _, Nat.zero_le _⟩) hS (fun q _ h => hFc q h) hFc (fun u t H1 locs ht hvm hw hB hz1 hk1 hS => ?_)
          clear hz1
          obtain ⟨y_678, y_679, hB⟩ := hB
          obtain ⟨gy_678, hpr0_r_677, hpr1_r_677, hE, hP1, hD1⟩ := hB
          rw [ht] at hP1
          obtain ⟨hP, hD⟩ := gz_back hP hD hk1 hFc hP1 hD1 [0] rfl rfl
          have hpr0_r_677 : Hid (y_657.toInt ≤ y_678.toInt) := hpr0_r_677
          have hpr1_r_677 : Hid (((1 : Int) = 1 ∨ 1 ≤ y_678.toInt)) := by have h9 : ((1 : Int32).toInt = 1 ∨ 1 ≤ y_678.toInt) := hpr1_r_677; rw [show (1 : Int32).toInt = 1 from by decide] at h9; exact h9
          obtain ⟨hP, hD⟩ := gz_both (w := [(h0, .inr (6, [.ref tp, .ref dr, .int y_678, .int y_679, .int q_token, .int q_start, .int q_stop])), (tp, .inr (10, [.ref bt, .int b_length])), (bt, .inl (kbt, 1600, .inl fbt))]) hP hD
          have hF := gf_call (a := (y_678, y_679)) hE hF
          generalize H1 = H at hP hS ⊢
          refine lv_aload_n hx hb (dk_at dkX6_passName 43 rfl) rfl (lv_at hl 1 rfl) ?_
          have hKc := hK.sub (tys' := [(kbt, .byte)]) [0] rfl
          have hFc := gz_fullF hD hS hA
          refine va_callv (va_runV (As := []) (rest := []) ⟨hx, hb, hml, hown, hts⟩ (sX6_step l dC dI H.size h0 tp bt dr y_678 y_679 q_token q_start q_stop b_length kbt fbt gy_678 gq_start gq_stop gb_length) (cwV 0 hts (gz_gV mGA_162 mGA_163 mGA_164 mGA_9 mGA_165 goodGA) rfl rfl rfl hdV_X6_step_X6_0 ⟨Nat.le_of_ble_eq_true rfl, Nat.le_of_ble_eq_true rfl⟩) ⟨bl_I (bl_a bl_sz (bl_a bl_P (bl_a bl_K (bl_a bl_c bl_nz)))), va_recv hKc hP (ci := 6) (q0 := 0) rfl rfl, fun U hU hW => ⟨rfl, by rw [hU], by rw [hU]; exact hP, va_K.moved hW.alike hKc, hD.weaken (fun _ _ _ _ => trivial), nzA_warm hW hz⟩⟩ rfl rfl hl.1 rfl (lv_room (Nat.le_of_ble_eq_true rfl)) (dk_at dkX6_passName 44 rfl) ⟨Nat.zero_le _, Nat.zero_le _⟩) hS (fun q _ h => hFc q h) hFc (fun u t H1 locs ht hvm hw hB hz1 hk1 hS => ?_)
          clear hz1
          obtain ⟨y_681, y_682, y_683, hB⟩ := hB
          obtain ⟨gy_682, gy_683, hE, hP1, hD1⟩ := hB
          rw [ht] at hP1
          have hD := gz_fullD hFc hD1
          have hP := hP1
          have hF := gf_call (a := (y_681, y_682, y_683)) hE hF
          generalize H1 = H at hP hS ⊢
          refine lv_iload_n hx hb (dk_at dkX6_passName 45 rfl) rfl (lv_at hl 0 rfl) ?_
          exact W.iret (v := r_659) hx hb hr (fun t ht hW => ⟨⟨r_659, r_659, rfl, ⟨rfl, (gi_any r_659)⟩, y_678, y_679, y_681, y_682, y_683, gy_678, gy_682, gy_683, (show q_faultKind.toInt ≤ y_678.toInt from (Int.le_trans (Hid.un hpr0_r_593) (Int.le_trans (Hid.un hpr0_r_656) (Hid.un hpr0_r_677)))), (show (y_678.toInt ≠ 0 ∨ p1.toInt = 0 ∨ pnF ep_name e_placeCount r_659 ≠ -1) from (Or.inr (Or.inl (gz_isc g_676)))), hF.trans hR9.symm, by rw [ht]; exact hP, hD⟩, hS.F ht⟩) hS.2.2 (dk_at dkX6_passName 46 rfl)
      · have hF := gf_neg c_661 hF
        have hc_684 : r_660.toInt ≠ (-1) := fun h9 => c_661 (Int32.toInt_inj.mp (by rw [show ((-1) : Int32).toInt = (-1) from by decide]; exact h9))
        have g_685 : gi r_660 0 5 := gi_ne_lo c_661 gr_660 (gi_c (-1) (-1) (by decide)) (by decide)
        refine lv_iconst (v := 1) hx hb (dk_at dkX6_passName 33 rfl) (by decide) ?_
        refine lv_goto (tgt := 65) hx hb (dk_at dkX6_passName 34 rfl) (by decide) ?_
        refine lv_iload_n hx hb (dk_at dkX6_passName 36 rfl) rfl (lv_at hl 2 rfl) ?_
        refine lv_icmp_ne (tgt := 73) hx hb (dk_at dkX6_passName 37 rfl) (by decide) (fun c_686 => ?_) (fun c_686 => ?_)
        · have hF := gf_neg c_686 hF
          have hc_687 : 1 ≠ p1.toInt := fun h9 => c_686 (Int32.toInt_inj.mp (by rw [show (1 : Int32).toInt = 1 from by decide]; exact h9))
          refine lv_iconst (v := 0) hx hb (dk_at dkX6_passName 40 rfl) (by decide) ?_
          refine lv_iconst (v := 2) hx hb (dk_at dkX6_passName 41 rfl) (by decide) ?_
          obtain ⟨hPc, hDc, hFc⟩ := gz_cut (wc := [(h0, .inr (6, [.ref tp, .ref dr, .int y_657, .int y_658, .int q_token, .int q_start, .int q_stop]))]) hP hD hS hA [0] (by decide) rfl
          have hKc := hK.sub (tys' := []) [] rfl
          refine va_callv (va_runV (As := [.int 0, .int 2]) (rest := []) ⟨hx, hb, hml, hown, hts⟩ (sX6_expect l dC dI H.size h0 tp dr y_657 y_658 q_token q_start q_stop 0 2 gy_657 gq_start gq_stop (gi_w (gi_c 0 0 (by decide)) (by decide)) (gi_w (gi_c 2 2 (by decide)) (by decide))) (cwV 2 hts (gz_gV mGA_250 mGA_251 mGA_252 mGA_9 mGA_253 goodGA) rfl rfl rfl hdV_X6_expect_X6_2 ⟨Nat.le_of_ble_eq_true rfl, Nat.le_of_ble_eq_true rfl⟩) ⟨bl_I (bl_a bl_sz (bl_a bl_P (bl_a bl_K (bl_a bl_c bl_nz)))), va_recv hKc hPc (ci := 6) (q0 := 0) rfl rfl, fun U hU hW => ⟨rfl, by rw [hU], by rw [hU]; exact hPc, va_K.moved hW.alike hKc, hDc.weaken (fun _ _ _ _ => trivial), nzA_warm hW hz⟩⟩ rfl rfl hl.1 rfl (lv_room (Nat.le_of_ble_eq_true rfl)) (dk_at dkX6_passName 42 rfl) ⟨Nat.zero_le _, Nat.zero_le _⟩) hS (fun q _ h => hFc q h) hFc (fun u t H1 locs ht hvm hw hB hz1 hk1 hS => ?_)
          clear hz1
          obtain ⟨y_689, y_690, hB⟩ := hB
          obtain ⟨gy_689, hpr0_r_688, hpr1_r_688, hE, hP1, hD1⟩ := hB
          rw [ht] at hP1
          obtain ⟨hP, hD⟩ := gz_back hP hD hk1 hFc hP1 hD1 [0] rfl rfl
          have hpr0_r_688 : Hid (y_657.toInt ≤ y_689.toInt) := hpr0_r_688
          have hpr1_r_688 : Hid (((0 : Int) = 1 ∨ 1 ≤ y_689.toInt)) := by have h9 : ((0 : Int32).toInt = 1 ∨ 1 ≤ y_689.toInt) := hpr1_r_688; rw [show (0 : Int32).toInt = 0 from by decide] at h9; exact h9
          have hf_691 : 1 ≤ y_689.toInt := Hid.resL hpr1_r_688 (by omega)
          have g_692 : gi y_689 1 3 := ⟨by omega, gy_689.2⟩
          obtain ⟨hP, hD⟩ := gz_both (w := [(h0, .inr (6, [.ref tp, .ref dr, .int y_689, .int y_690, .int q_token, .int q_start, .int q_stop])), (tp, .inr (10, [.ref bt, .int b_length])), (bt, .inl (kbt, 1600, .inl fbt))]) hP hD
          have hF := gf_call (a := (y_689, y_690)) hE hF
          generalize H1 = H at hP hS ⊢
          refine lv_aload_n hx hb (dk_at dkX6_passName 43 rfl) rfl (lv_at hl 1 rfl) ?_
          have hKc := hK.sub (tys' := [(kbt, .byte)]) [0] rfl
          have hFc := gz_fullF hD hS hA
          refine va_callv (va_runV (As := []) (rest := []) ⟨hx, hb, hml, hown, hts⟩ (sX6_step l dC dI H.size h0 tp bt dr y_689 y_690 q_token q_start q_stop b_length kbt fbt (gi_w g_692 (by decide)) gq_start gq_stop gb_length) (cwV 0 hts (gz_gV mGA_162 mGA_163 mGA_164 mGA_9 mGA_165 goodGA) rfl rfl rfl hdV_X6_step_X6_0 ⟨Nat.le_of_ble_eq_true rfl, Nat.le_of_ble_eq_true rfl⟩) ⟨bl_I (bl_a bl_sz (bl_a bl_P (bl_a bl_K (bl_a bl_c bl_nz)))), va_recv hKc hP (ci := 6) (q0 := 0) rfl rfl, fun U hU hW => ⟨rfl, by rw [hU], by rw [hU]; exact hP, va_K.moved hW.alike hKc, hD.weaken (fun _ _ _ _ => trivial), nzA_warm hW hz⟩⟩ rfl rfl hl.1 rfl (lv_room (Nat.le_of_ble_eq_true rfl)) (dk_at dkX6_passName 44 rfl) ⟨Nat.zero_le _, Nat.zero_le _⟩) hS (fun q _ h => hFc q h) hFc (fun u t H1 locs ht hvm hw hB hz1 hk1 hS => ?_)
          clear hz1
          obtain ⟨y_694, y_695, y_696, hB⟩ := hB
          obtain ⟨gy_695, gy_696, hE, hP1, hD1⟩ := hB
          rw [ht] at hP1
          have hD := gz_fullD hFc hD1
          have hP := hP1
          have hF := gf_call (a := (y_694, y_695, y_696)) hE hF
          generalize H1 = H at hP hS ⊢
          refine lv_iload_n hx hb (dk_at dkX6_passName 45 rfl) rfl (lv_at hl 0 rfl) ?_
          exact W.iret (v := r_659) hx hb hr (fun t ht hW => ⟨⟨r_659, r_659, rfl, ⟨rfl, (gi_any r_659)⟩, y_689, y_690, y_694, y_695, y_696, (gi_w g_692 (by decide)), gy_695, gy_696, (show q_faultKind.toInt ≤ y_689.toInt from (Int.le_trans (Hid.un hpr0_r_593) (Int.le_trans (Hid.un hpr0_r_656) (Hid.un hpr0_r_688)))), (show (y_689.toInt ≠ 0 ∨ p1.toInt = 0 ∨ pnF ep_name e_placeCount r_659 ≠ -1) from (Or.inl (gz_isnc g_692 (by decide)))), hF.trans hR9.symm, by rw [ht]; exact hP, hD⟩, hS.F ht⟩) hS.2.2 (dk_at dkX6_passName 46 rfl)
        · have hF := gf_pos c_686 hF
          have hc_697 : 1 = p1.toInt := by have h9 := congrArg Int32.toInt c_686; rw [show (1 : Int32).toInt = 1 from by decide] at h9; exact h9
          have g_698 : gi p1 1 1 := gi_eq c_686.symm (gi_c 1 1 (by decide))
          refine lv_iconst (v := 1) hx hb (dk_at dkX6_passName 38 rfl) (by decide) ?_
          refine lv_goto (tgt := 74) hx hb (dk_at dkX6_passName 39 rfl) (by decide) ?_
          refine lv_iconst (v := 2) hx hb (dk_at dkX6_passName 41 rfl) (by decide) ?_
          obtain ⟨hPc, hDc, hFc⟩ := gz_cut (wc := [(h0, .inr (6, [.ref tp, .ref dr, .int y_657, .int y_658, .int q_token, .int q_start, .int q_stop]))]) hP hD hS hA [0] (by decide) rfl
          have hKc := hK.sub (tys' := []) [] rfl
          refine va_callv (va_runV (As := [.int 1, .int 2]) (rest := []) ⟨hx, hb, hml, hown, hts⟩ (sX6_expect l dC dI H.size h0 tp dr y_657 y_658 q_token q_start q_stop 1 2 gy_657 gq_start gq_stop (gi_w (gi_c 1 1 (by decide)) (by decide)) (gi_w (gi_c 2 2 (by decide)) (by decide))) (cwV 2 hts (gz_gV mGA_250 mGA_251 mGA_252 mGA_9 mGA_253 goodGA) rfl rfl rfl hdV_X6_expect_X6_2 ⟨Nat.le_of_ble_eq_true rfl, Nat.le_of_ble_eq_true rfl⟩) ⟨bl_I (bl_a bl_sz (bl_a bl_P (bl_a bl_K (bl_a bl_c bl_nz)))), va_recv hKc hPc (ci := 6) (q0 := 0) rfl rfl, fun U hU hW => ⟨rfl, by rw [hU], by rw [hU]; exact hPc, va_K.moved hW.alike hKc, hDc.weaken (fun _ _ _ _ => trivial), nzA_warm hW hz⟩⟩ rfl rfl hl.1 rfl (lv_room (Nat.le_of_ble_eq_true rfl)) (dk_at dkX6_passName 42 rfl) ⟨Nat.zero_le _, Nat.zero_le _⟩) hS (fun q _ h => hFc q h) hFc (fun u t H1 locs ht hvm hw hB hz1 hk1 hS => ?_)
          clear hz1
          obtain ⟨y_700, y_701, hB⟩ := hB
          obtain ⟨gy_700, hpr0_r_699, hpr1_r_699, hE, hP1, hD1⟩ := hB
          rw [ht] at hP1
          obtain ⟨hP, hD⟩ := gz_back hP hD hk1 hFc hP1 hD1 [0] rfl rfl
          have hpr0_r_699 : Hid (y_657.toInt ≤ y_700.toInt) := hpr0_r_699
          have hpr1_r_699 : Hid (((1 : Int) = 1 ∨ 1 ≤ y_700.toInt)) := by have h9 : ((1 : Int32).toInt = 1 ∨ 1 ≤ y_700.toInt) := hpr1_r_699; rw [show (1 : Int32).toInt = 1 from by decide] at h9; exact h9
          obtain ⟨hP, hD⟩ := gz_both (w := [(h0, .inr (6, [.ref tp, .ref dr, .int y_700, .int y_701, .int q_token, .int q_start, .int q_stop])), (tp, .inr (10, [.ref bt, .int b_length])), (bt, .inl (kbt, 1600, .inl fbt))]) hP hD
          have hF := gf_call (a := (y_700, y_701)) hE hF
          generalize H1 = H at hP hS ⊢
          refine lv_aload_n hx hb (dk_at dkX6_passName 43 rfl) rfl (lv_at hl 1 rfl) ?_
          have hKc := hK.sub (tys' := [(kbt, .byte)]) [0] rfl
          have hFc := gz_fullF hD hS hA
          refine va_callv (va_runV (As := []) (rest := []) ⟨hx, hb, hml, hown, hts⟩ (sX6_step l dC dI H.size h0 tp bt dr y_700 y_701 q_token q_start q_stop b_length kbt fbt gy_700 gq_start gq_stop gb_length) (cwV 0 hts (gz_gV mGA_162 mGA_163 mGA_164 mGA_9 mGA_165 goodGA) rfl rfl rfl hdV_X6_step_X6_0 ⟨Nat.le_of_ble_eq_true rfl, Nat.le_of_ble_eq_true rfl⟩) ⟨bl_I (bl_a bl_sz (bl_a bl_P (bl_a bl_K (bl_a bl_c bl_nz)))), va_recv hKc hP (ci := 6) (q0 := 0) rfl rfl, fun U hU hW => ⟨rfl, by rw [hU], by rw [hU]; exact hP, va_K.moved hW.alike hKc, hD.weaken (fun _ _ _ _ => trivial), nzA_warm hW hz⟩⟩ rfl rfl hl.1 rfl (lv_room (Nat.le_of_ble_eq_true rfl)) (dk_at dkX6_passName 44 rfl) ⟨Nat.zero_le _, Nat.zero_le _⟩) hS (fun q _ h => hFc q h) hFc (fun u t H1 locs ht hvm hw hB hz1 hk1 hS => ?_)
          clear hz1
          obtain ⟨y_703, y_704, y_705, hB⟩ := hB
          obtain ⟨gy_704, gy_705, hE, hP1, hD1⟩ := hB
          rw [ht] at hP1
          have hD := gz_fullD hFc hD1
          have hP := hP1
          have hF := gf_call (a := (y_703, y_704, y_705)) hE hF
          generalize H1 = H at hP hS ⊢
          refine lv_iload_n hx hb (dk_at dkX6_passName 45 rfl) rfl (lv_at hl 0 rfl) ?_
          exact W.iret (v := r_659) hx hb hr (fun t ht hW => ⟨⟨r_659, r_659, rfl, ⟨rfl, (gi_any r_659)⟩, y_700, y_701, y_703, y_704, y_705, gy_700, gy_704, gy_705, (show q_faultKind.toInt ≤ y_700.toInt from (Int.le_trans (Hid.un hpr0_r_593) (Int.le_trans (Hid.un hpr0_r_656) (Hid.un hpr0_r_699)))), (show (y_700.toInt ≠ 0 ∨ p1.toInt = 0 ∨ pnF ep_name e_placeCount r_659 ≠ -1) from by by_cases h9 : y_700.toInt ≠ 0; exact Or.inl h9; refine Or.inr ?_; have w90 := (Hid.un hpr0_r_699); have w91 := (Hid.un hpr0_r_656); have w92 := (Hid.un hpr0_r_593); have lgq_faultKind := gq_faultKind.1; have mgq_faultKind := gq_faultKind.2; have lgy_594 := gy_594.1; have mgy_594 := gy_594.2; have lgy_657 := gy_657.1; have mgy_657 := gy_657.2; have lgy_700 := gy_700.1; have mgy_700 := gy_700.2; have qgy_700 := gy_700.1; have rgy_700 := gy_700.2; have qgy_657 := gy_657.1; have rgy_657 := gy_657.2; have qgy_594 := gy_594.1; have rgy_594 := gy_594.2; have qgr_660 := g_685.1; have rgr_660 := g_685.2; have qgq_faultKind := gq_faultKind.1; have rgq_faultKind := gq_faultKind.2; have qgp1 := g_698.1; have rgp1 := g_698.2; have qge_placeCount := ge_placeCount.1; have rge_placeCount := ge_placeCount.2; have zhpr0_r_593 := Hid.un hpr0_r_593; have zhpr0_r_656 := Hid.un hpr0_r_656; have zhqr_660 := Hid.un hqr_660; have zhpr0_r_699 := Hid.un hpr0_r_699; omega), hF.trans hR9.symm, by rw [ht]; exact hP, hD⟩, hS.F ht⟩) hS.2.2 (dk_at dkX6_passName 46 rfl)
