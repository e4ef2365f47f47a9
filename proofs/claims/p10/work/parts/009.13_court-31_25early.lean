noncomputable def lsX1_turnOf : List (Nat × Instr × Nat) := [(0, .aload_n 0, 1), (1, .getfield 47, 3), (4, .iload_n 1, 1), (5, .aaload, 1), (6, .astore_n 2, 1), (7, .aload_n 0, 1), (8, .getfield 82, 3), (11, .aload_n 2, 1), (12, .getfield 86, 3), (15, .aaload, 1), (16, .astore_n 3, 1), (17, .bipush 9, 2), (19, .aload_n 3, 1), (20, .getfield 89, 3), (23, .isub, 1), (24, .i2l, 1), (25, .lstore 4, 2), (27, .lload 4, 2), (29, .ldc2_w 94, 3), (32, .lmul, 1), (33, .aload_n 3, 1), (34, .getfield 96, 3), (37, .i2l, 1), (38, .ladd, 1), (39, .lstore 4, 2), (41, .lload 4, 2), (43, .ldc2_w 99, 3), (46, .lmul, 1), (47, .aload_n 2, 1), (48, .getfield 101, 3), (51, .i2l, 1), (52, .ladd, 1), (53, .lstore 4, 2), (55, .lload 4, 2), (57, .ldc2_w 104, 3), (60, .lmul, 1), (61, .aload_n 2, 1), (62, .getfield 106, 3), (65, .i2l, 1), (66, .ladd, 1), (67, .lstore 4, 2), (69, .lload 4, 2), (71, .ldc2_w 109, 3), (74, .lmul, 1), (75, .aload_n 2, 1), (76, .getfield 111, 3), (79, .i2l, 1), (80, .ladd, 1), (81, .lstore 4, 2), (83, .lload 4, 2), (85, .ldc2_w 99, 3), (88, .lmul, 1), (89, .iload_n 1, 1), (90, .i2l, 1), (91, .ladd, 1), (92, .lreturn, 1)]
theorem dkX1_turnOf : dkAll cX1_turnOf lsX1_turnOf = true := by decide +kernel
set_option maxHeartbeats 4000000 in
set_option maxRecDepth 100000 in
theorem sX1_turnOf (l : Launch) (dC : Nat → ClassId) (dI : Nat → Nat → Nat) (am : Nat) (pl : Nat) (re : Nat) (amonths : Int32) (afull : Int32) (alean : Int32) (alines : Int32) (ahasMoon : Int32) (amoonStart : Int32) (amoonStep : Int32) (aplaceCount : Int32) (areportCount : Int32) (adeedCount : Int32) (de : Nat) (kpl : ClassId) (kre : ClassId) (pa : Nat → Nat) (p_name : Nat → Int32) (p_trust : Nat → Int32) (ra : Nat → Nat) (r_place : Nat → Int32) (r_kind : Nat → Int32) (r_month : Nat → Int32) (r_day : Nat → Int32) (r_known : Nat → Int32) (r_struck : Nat → Int32) (p1 : Int32) (gamonths : gi amonths 0 24) (gafull : gi afull 0 5) (galean : gi alean 0 5) (gahasMoon : gi ahasMoon 0 1) (gaplaceCount : gi aplaceCount 0 6) (gareportCount : gi areportCount 0 24) (gadeedCount : gi adeedCount 0 8) (gr_place : ga r_place 24 0 5) (gr_month : ga r_month 24 0 23) (gr_struck : ga r_struck 24 0 1) (gp1 : gi p1 0 23) : Met l yX1_turnOf (.code yX1_turnOf cX1_turnOf 6 (some .long) :: wsGA) ({ frames := 0, cells := 0, slots := 0, locals := 0 }) (va_Pc [.ref am, .int p1] (fun U => va_P (dC, dI) vwCl [(am, .inr (0, [.int amonths, .int afull, .int alean, .int alines, .int ahasMoon, .int amoonStart, .int amoonStep, .int aplaceCount, .int areportCount, .int adeedCount, .ref pl, .ref re, .ref de])), (pl, .inl (kpl, 6, .inr (.inr (.inr (.inr (fun i => some (pa i))))))), (re, .inl (kre, 24, .inr (.inr (.inr (.inr (fun i => some (ra i)))))))] U.heap ∧ va_K (dC, dI) vwCl [(kpl, .object RX5), (kre, .object RX7)] U ∧ nzA U ∧ va_P (dC, dI) vwCl (gz_fam 6 pa 5 (fun i => [.int (p_name i), .int (p_trust i)])) U.heap ∧ va_P (dC, dI) vwCl (gz_fam 24 ra 7 (fun i => [.int (r_place i), .int (r_kind i), .int (r_month i), .int (r_day i), .int (r_known i), .int (r_struck i)])) U.heap)) (va_Ql (fun (r : Int64) (u : Unit) => True) (fun _ _ => True) (fun _ => False)) 0 0 (fun _ => False) := by
  refine Met.ofW (cc := cX1_turnOf) (maxL := 6) (ret := (some .long)) (by decide) rfl ?_
  intro p e s m args below meth c s₁ B hml hv
  obtain ⟨rfl, hP, hK, hz, hF0, hF1⟩ := hv
  have hx := B.exec
  have hb := B.bytes
  have hr := B.returns
  have hts := atoms_spec (ws := (.code yX1_turnOf cX1_turnOf 6 (some .long) :: wsGA)) B.pre
  have hown : s.vm.findClass RX1 = some m.cls := findClass_of_methodNamed B.named
  have hlocks := B.notSynchronized
  have hS : va_S (fun _ => False) s.heap s.heap [] := va_S.rf
  have hFA0 : gz_ap (fun _ => False) (gz_fam 6 pa 5 (fun i => [.int (p_name i), .int (p_trust i)])) := gz_ap0
  have hFA1 : gz_ap (fun _ => False) (gz_fam 24 ra 7 (fun i => [.int (r_place i), .int (r_kind i), .int (r_month i), .int (r_day i), .int (r_known i), .int (r_struck i)])) := gz_ap0
  have hl := lv_entry ([.ref am, .int p1]) (n := 6) (Nat.le_of_ble_eq_true rfl)
  rw [lg_entry_eq]
  generalize (lg_sl ([.ref am, .int p1]) ++ List.replicate (6 - (lg_sl ([.ref am, .int p1])).length) Slot.unset).toArray = ls at hl ⊢
  have hl : lv_has ls 6 [(0, .ref am), (1, .int p1)] := hl
  refine lv_aload_n hx hb (dk_at dkX1_turnOf 0 rfl) rfl (lv_at hl 0 rfl) ?_
  refine va_get (D := (dC, dI)) (ci := 0) (v := .ref re) (C := RX0) (T := TX0) (N := 13) hx hb hts (fun w h => List.mem_cons_of_mem _ (jnGA_X0 w h)) hown hK hP 0 rfl rfl 11 (by decide) (hts _ (List.mem_cons_of_mem _ mGA_447)) (fun _ h9 => h9) rfl (dk_at dkX1_turnOf 1 rfl) ?_
  refine lv_iload_n hx hb (dk_at dkX1_turnOf 2 rfl) rfl (lv_at hl 1 rfl) ?_
  refine va_aldq hx hb hK hP 2 1 rfl rfl (gi_in gp1 (by decide)) (dk_at dkX1_turnOf 3 rfl) ?_
  refine W.eq (g2 := F0 m 6 ls [.ref (ra p1.toNatClampNeg)]) rfl ?_
  refine lv_astore_n (lv' := [(2, .ref (ra p1.toNatClampNeg)), (0, .ref am), (1, .int p1)]) hx hb (dk_at dkX1_turnOf 4 rfl) rfl hl (by decide) rfl (fun ls hl => ?_)
  refine lv_aload_n hx hb (dk_at dkX1_turnOf 5 rfl) rfl (lv_at hl 1 rfl) ?_
  refine va_get (D := (dC, dI)) (ci := 0) (v := .ref pl) (C := RX0) (T := TX0) (N := 13) hx hb hts (fun w h => List.mem_cons_of_mem _ (jnGA_X0 w h)) hown hK hP 0 rfl rfl 10 (by decide) (hts _ (List.mem_cons_of_mem _ mGA_457)) (fun _ h9 => h9) rfl (dk_at dkX1_turnOf 6 rfl) ?_
  refine lv_aload_n hx hb (dk_at dkX1_turnOf 7 rfl) rfl (lv_at hl 0 rfl) ?_
  refine va_get (D := (dC, dI)) (ci := 7) (v := .int (r_place p1.toNatClampNeg)) (C := RX7) (T := TX7) (N := 6) hx hb hts (fun w h => List.mem_cons_of_mem _ (jnGA_X7 w h)) hown hK (gz_ro hF1 hFA1 hS) (p1.toNatClampNeg) (gz_fam_at (gz_clt (gi_in (n := 24) gp1 (by decide)))) rfl 0 (by decide) (hts _ (List.mem_cons_of_mem _ mGA_458)) (fun _ h9 => h9) rfl (dk_at dkX1_turnOf 8 rfl) ?_
  refine lv_topi (fun x_24 ex_24 => ?_)
  have gx_24 : gi x_24 0 5 := ga_at gr_place (gi_in (n := 24) gp1 (by decide)) ex_24
  refine va_aldq hx hb hK hP 1 0 rfl rfl (gi_in gx_24 (by decide)) (dk_at dkX1_turnOf 9 rfl) ?_
  refine W.eq (g2 := F0 m 16 ls [.ref (pa x_24.toNatClampNeg)]) rfl ?_
  refine lv_astore_n (lv' := [(3, .ref (pa x_24.toNatClampNeg)), (2, .ref (ra p1.toNatClampNeg)), (0, .ref am), (1, .int p1)]) hx hb (dk_at dkX1_turnOf 10 rfl) rfl hl (by decide) rfl (fun ls hl => ?_)
  refine lv_bipush (v := 9) hx hb (dk_at dkX1_turnOf 11 rfl) (by decide) ?_
  refine lv_aload_n hx hb (dk_at dkX1_turnOf 12 rfl) rfl (lv_at hl 0 rfl) ?_
  refine va_get (D := (dC, dI)) (ci := 5) (v := .int (p_trust x_24.toNatClampNeg)) (C := RX5) (T := TX5) (N := 2) hx hb hts (fun w h => List.mem_cons_of_mem _ (jnGA_X5 w h)) hown hK (gz_ro hF0 hFA0 hS) (x_24.toNatClampNeg) (gz_fam_at (gz_clt (gi_in (n := 6) gx_24 (by decide)))) rfl 1 (by decide) (hts _ (List.mem_cons_of_mem _ mGA_459)) (fun _ h9 => h9) rfl (dk_at dkX1_turnOf 13 rfl) ?_
  refine lv_topi (fun x_25 ex_25 => ?_)
  refine lv_isub hx hb (dk_at dkX1_turnOf 14 rfl) ?_
  refine lv_topi (fun x_26 ex_26 => ?_)
  refine lv_i2l (v := (x_26).toInt64) hx hb (dk_at dkX1_turnOf 15 rfl) rfl ?_
  refine lv_topl (fun l_27 el_27 => ?_)
  refine lv_lstore (lv' := [(4, .long l_27), (3, .ref (pa x_24.toNatClampNeg)), (2, .ref (ra p1.toNatClampNeg)), (0, .ref am), (1, .int p1)]) hx hb (dk_at dkX1_turnOf 16 rfl) hl (by decide) rfl (fun ls hl => ?_)
  refine lv_lload hx hb (dk_at dkX1_turnOf 17 rfl) (lv_at hl 0 rfl) ?_
  refine lv_ldc2 (own := RX1) (v := 387420489) hx hb hown (hts _ (List.mem_cons_of_mem _ mGA_460)) (dk_at dkX1_turnOf 18 rfl) ?_
  refine lv_lmul hx hb (dk_at dkX1_turnOf 19 rfl) ?_
  refine lv_topl (fun l_28 el_28 => ?_)
  refine lv_aload_n hx hb (dk_at dkX1_turnOf 20 rfl) rfl (lv_at hl 1 rfl) ?_
  refine va_get (D := (dC, dI)) (ci := 5) (v := .int (p_name x_24.toNatClampNeg)) (C := RX5) (T := TX5) (N := 2) hx hb hts (fun w h => List.mem_cons_of_mem _ (jnGA_X5 w h)) hown hK (gz_ro hF0 hFA0 hS) (x_24.toNatClampNeg) (gz_fam_at (gz_clt (gi_in (n := 6) gx_24 (by decide)))) rfl 0 (by decide) (hts _ (List.mem_cons_of_mem _ mGA_461)) (fun _ h9 => h9) rfl (dk_at dkX1_turnOf 21 rfl) ?_
  refine lv_topi (fun x_29 ex_29 => ?_)
  refine lv_i2l (v := (x_29).toInt64) hx hb (dk_at dkX1_turnOf 22 rfl) rfl ?_
  refine lv_topl (fun l_30 el_30 => ?_)
  refine lv_ladd hx hb (dk_at dkX1_turnOf 23 rfl) ?_
  refine lv_topl (fun l_31 el_31 => ?_)
  refine lv_lstore (lv' := [(4, .long l_31), (3, .ref (pa x_24.toNatClampNeg)), (2, .ref (ra p1.toNatClampNeg)), (0, .ref am), (1, .int p1)]) hx hb (dk_at dkX1_turnOf 24 rfl) hl (by decide) rfl (fun ls hl => ?_)
  refine lv_lload hx hb (dk_at dkX1_turnOf 25 rfl) (lv_at hl 0 rfl) ?_
  refine lv_ldc2 (own := RX1) (v := 24) hx hb hown (hts _ (List.mem_cons_of_mem _ mGA_462)) (dk_at dkX1_turnOf 26 rfl) ?_
  refine lv_lmul hx hb (dk_at dkX1_turnOf 27 rfl) ?_
  refine lv_topl (fun l_32 el_32 => ?_)
  refine lv_aload_n hx hb (dk_at dkX1_turnOf 28 rfl) rfl (lv_at hl 2 rfl) ?_
  refine va_get (D := (dC, dI)) (ci := 7) (v := .int (r_month p1.toNatClampNeg)) (C := RX7) (T := TX7) (N := 6) hx hb hts (fun w h => List.mem_cons_of_mem _ (jnGA_X7 w h)) hown hK (gz_ro hF1 hFA1 hS) (p1.toNatClampNeg) (gz_fam_at (gz_clt (gi_in (n := 24) gp1 (by decide)))) rfl 2 (by decide) (hts _ (List.mem_cons_of_mem _ mGA_463)) (fun _ h9 => h9) rfl (dk_at dkX1_turnOf 29 rfl) ?_
  refine lv_topi (fun x_33 ex_33 => ?_)
  have gx_33 : gi x_33 0 23 := ga_at gr_month (gi_in (n := 24) gp1 (by decide)) ex_33
  refine lv_i2l (v := (x_33).toInt64) hx hb (dk_at dkX1_turnOf 30 rfl) rfl ?_
  refine lv_topl (fun l_34 el_34 => ?_)
  refine lv_ladd hx hb (dk_at dkX1_turnOf 31 rfl) ?_
  refine lv_topl (fun l_35 el_35 => ?_)
  refine lv_lstore (lv' := [(4, .long l_35), (3, .ref (pa x_24.toNatClampNeg)), (2, .ref (ra p1.toNatClampNeg)), (0, .ref am), (1, .int p1)]) hx hb (dk_at dkX1_turnOf 32 rfl) hl (by decide) rfl (fun ls hl => ?_)
  refine lv_lload hx hb (dk_at dkX1_turnOf 33 rfl) (lv_at hl 0 rfl) ?_
  refine lv_ldc2 (own := RX1) (v := 1000) hx hb hown (hts _ (List.mem_cons_of_mem _ mGA_464)) (dk_at dkX1_turnOf 34 rfl) ?_
  refine lv_lmul hx hb (dk_at dkX1_turnOf 35 rfl) ?_
  refine lv_topl (fun l_36 el_36 => ?_)
  refine lv_aload_n hx hb (dk_at dkX1_turnOf 36 rfl) rfl (lv_at hl 2 rfl) ?_
  refine va_get (D := (dC, dI)) (ci := 7) (v := .int (r_day p1.toNatClampNeg)) (C := RX7) (T := TX7) (N := 6) hx hb hts (fun w h => List.mem_cons_of_mem _ (jnGA_X7 w h)) hown hK (gz_ro hF1 hFA1 hS) (p1.toNatClampNeg) (gz_fam_at (gz_clt (gi_in (n := 24) gp1 (by decide)))) rfl 3 (by decide) (hts _ (List.mem_cons_of_mem _ mGA_465)) (fun _ h9 => h9) rfl (dk_at dkX1_turnOf 37 rfl) ?_
  refine lv_topi (fun x_37 ex_37 => ?_)
  refine lv_i2l (v := (x_37).toInt64) hx hb (dk_at dkX1_turnOf 38 rfl) rfl ?_
  refine lv_topl (fun l_38 el_38 => ?_)
  refine lv_ladd hx hb (dk_at dkX1_turnOf 39 rfl) ?_
  refine lv_topl (fun l_39 el_39 => ?_)
  refine lv_lstore (lv' := [(4, .long l_39), (3, .ref (pa x_24.toNatClampNeg)), (2, .ref (ra p1.toNatClampNeg)), (0, .ref am), (1, .int p1)]) hx hb (dk_at dkX1_turnOf 40 rfl) hl (by decide) rfl (fun ls hl => ?_)
  refine lv_lload hx hb (dk_at dkX1_turnOf 41 rfl) (lv_at hl 0 rfl) ?_
  refine lv_ldc2 (own := RX1) (v := 3) hx hb hown (hts _ (List.mem_cons_of_mem _ mGA_466)) (dk_at dkX1_turnOf 42 rfl) ?_
  refine lv_lmul hx hb (dk_at dkX1_turnOf 43 rfl) ?_
  refine lv_topl (fun l_40 el_40 => ?_)
  refine lv_aload_n hx hb (dk_at dkX1_turnOf 44 rfl) rfl (lv_at hl 2 rfl) ?_
  refine va_get (D := (dC, dI)) (ci := 7) (v := .int (r_kind p1.toNatClampNeg)) (C := RX7) (T := TX7) (N := 6) hx hb hts (fun w h => List.mem_cons_of_mem _ (jnGA_X7 w h)) hown hK (gz_ro hF1 hFA1 hS) (p1.toNatClampNeg) (gz_fam_at (gz_clt (gi_in (n := 24) gp1 (by decide)))) rfl 1 (by decide) (hts _ (List.mem_cons_of_mem _ mGA_467)) (fun _ h9 => h9) rfl (dk_at dkX1_turnOf 45 rfl) ?_
  refine lv_topi (fun x_41 ex_41 => ?_)
  refine lv_i2l (v := (x_41).toInt64) hx hb (dk_at dkX1_turnOf 46 rfl) rfl ?_
  refine lv_topl (fun l_42 el_42 => ?_)
  refine lv_ladd hx hb (dk_at dkX1_turnOf 47 rfl) ?_
  refine lv_topl (fun l_43 el_43 => ?_)
  refine lv_lstore (lv' := [(4, .long l_43), (3, .ref (pa x_24.toNatClampNeg)), (2, .ref (ra p1.toNatClampNeg)), (0, .ref am), (1, .int p1)]) hx hb (dk_at dkX1_turnOf 48 rfl) hl (by decide) rfl (fun ls hl => ?_)
  refine lv_lload hx hb (dk_at dkX1_turnOf 49 rfl) (lv_at hl 0 rfl) ?_
  refine lv_ldc2 (own := RX1) (v := 24) hx hb hown (hts _ (List.mem_cons_of_mem _ mGA_462)) (dk_at dkX1_turnOf 50 rfl) ?_
  refine lv_lmul hx hb (dk_at dkX1_turnOf 51 rfl) ?_
  refine lv_topl (fun l_44 el_44 => ?_)
  refine lv_iload_n hx hb (dk_at dkX1_turnOf 52 rfl) rfl (lv_at hl 4 rfl) ?_
  refine lv_i2l (v := (p1).toInt64) hx hb (dk_at dkX1_turnOf 53 rfl) rfl ?_
  refine lv_topl (fun l_45 el_45 => ?_)
  refine lv_ladd hx hb (dk_at dkX1_turnOf 54 rfl) ?_
  refine lv_topl (fun l_46 el_46 => ?_)
  exact W.lret (v := l_46) hx hb hr (fun t ht hW => ⟨⟨l_46, (), rfl, trivial, trivial⟩, hS.F ht⟩) hS.2.2 (dk_at dkX1_turnOf 55 rfl)
noncomputable def lsX1_insert : List (Nat × Instr × Nat) := [(0, .aload_n 0, 1), (1, .getfield 32, 3), (4, .istore 4, 2), (6, .iload 4, 2), (8, .ifCond .le 55, 3), (11, .aload_n 0, 1), (12, .getfield 25, 3), (15, .iload 4, 2), (17, .iconst 1, 1), (18, .isub, 1), (19, .laload, 1), (20, .lload_n 2, 1), (21, .lcmp, 1), (22, .ifCond .le 41, 3), (25, .aload_n 0, 1), (26, .getfield 25, 3), (29, .iload 4, 2), (31, .aload_n 0, 1), (32, .getfield 25, 3), (35, .iload 4, 2), (37, .iconst 1, 1), (38, .isub, 1), (39, .laload, 1), (40, .lastore, 1), (41, .aload_n 0, 1), (42, .getfield 22, 3), (45, .iload 4, 2), (47, .aload_n 0, 1), (48, .getfield 22, 3), (51, .iload 4, 2), (53, .iconst 1, 1), (54, .isub, 1), (55, .iaload, 1), (56, .iastore, 1), (57, .iinc 4 (-1), 3), (60, .goto (-54), 3), (63, .aload_n 0, 1), (64, .getfield 25, 3), (67, .iload 4, 2), (69, .lload_n 2, 1), (70, .lastore, 1), (71, .aload_n 0, 1), (72, .getfield 22, 3), (75, .iload 4, 2), (77, .iload_n 1, 1), (78, .iastore, 1), (79, .aload_n 0, 1), (80, .dup, 1), (81, .getfield 32, 3), (84, .iconst 1, 1), (85, .iadd, 1), (86, .putfield 32, 3), (89, .return_, 1)]
theorem dkX1_insert : dkAll cX1_insert lsX1_insert = true := by decide +kernel
set_option maxHeartbeats 4000000 in
set_option maxRecDepth 100000 in
theorem lp_sX1_insert {p : Program} {l : Launch} {e : Env} {R : Room} {s : State} {m : MethodId} {args : Array Value} {below : List Frame} {meth : Method} {c : Code} {Q : State → Prop} {A : Nat → Prop} {cells slots : Nat} {dC : Nat → ClassId} {dI : Nat → Nat → Nat} (h0 : Nat) (qu : Nat) (tu : Nat) (fr : Nat) (ve : Nat) (cb : Nat) (queueLength : Int32) (takenBits : Int32) (kqu : ClassId) (fqu : Nat → Int32) (ktu : ClassId) (ftu : Nat → Int64) (p1 : Int32) (p2 : Int64) (gqueueLength : gi queueLength 0 23) (gfqu : ga fqu 24 0 23) (gp1 : gi p1 0 23) (hx : p.tables.exec = Jvm.exec) (hb : c.code = cX1_insert) (hml : c.maxLocals = 5) (hown : s.vm.findClass RX1 = some m.cls) (hts : ∀ w ∈ ((.code yX1_insert cX1_insert 5 none :: wsGA) : List Cond), w.before args s = true) (hK : va_K (dC, dI) vwCl [(kqu, .int), (ktu, .long)] s) (hz : nzA s) (hA : ∀ q : Nat, s.heap.size ≤ q → A q) (hRf : 0 ≤ R.frames) (hRl : 0 ≤ R.locals) (hRc : cells ≤ R.cells) (hRs : slots ≤ R.slots) (kr89 : ∀ (w0_5 : Int32) (z1 : Nat → Int32) (z2 : Nat → Int64) (H : Heap) (locs : List Loc) (ls : Array Slot), gi w0_5 0 24 → ga z1 24 0 23 → w0_5.toInt = queueLength.toInt + 1 → va_P (dC, dI) vwCl [(h0, .inr (1, [.ref fr, .ref ve, .ref qu, .ref tu, .ref cb, .int w0_5, .int takenBits])), (qu, .inl (kqu, 24, .inl z1)), (tu, .inl (ktu, 24, .inr (.inl z2)))] H → va_D A [(h0, .inr (1, [.ref fr, .ref ve, .ref qu, .ref tu, .ref cb, .int w0_5, .int takenBits])), (qu, .inl (kqu, 24, .inl z1)), (tu, .inl (ktu, 24, .inr (.inl z2)))] → va_S A s.heap H locs → lv_has ls 5 [] → W p l e R s m args below meth c H locs cells slots Q (F0 m 89 ls [])) : ∀ z : Nat, (∀ (v4 : Int32) (z1 : Nat → Int32) (z2 : Nat → Int64) (H : Heap) (locs : List Loc) (ls : Array Slot), gi v4 0 23 → ga z1 24 0 23 → 1 + 2 * v4.toInt < (z : Int) → va_P (dC, dI) vwCl [(h0, .inr (1, [.ref fr, .ref ve, .ref qu, .ref tu, .ref cb, .int queueLength, .int takenBits])), (qu, .inl (kqu, 24, .inl z1)), (tu, .inl (ktu, 24, .inr (.inl z2)))] H → va_D A [(h0, .inr (1, [.ref fr, .ref ve, .ref qu, .ref tu, .ref cb, .int queueLength, .int takenBits])), (qu, .inl (kqu, 24, .inl z1)), (tu, .inl (ktu, 24, .inr (.inl z2)))] → va_S A s.heap H locs → lv_has ls 5 [(0, .ref h0), (1, .int p1), (2, .long p2), (4, .int v4)] → W p l e R s m args below meth c H locs cells slots Q (F0 m 6 ls [])) := by
  intro z
  induction z with
  | zero =>
    intro v4 z1 z2 H locs ls gv4 gz1 hmu hP hD hS hl
    exact absurd hmu (by have hv41 := gv4.1; have hv42 := gv4.2; omega)
  | succ z ih =>
      intro v4 z1 z2 H locs ls gv4 gz1 hmu hP hD hS hl
      refine lv_iload hx hb (dk_at dkX1_insert 3 rfl) (lv_at hl 3 rfl) ?_
      refine lv_if_le (tgt := 63) hx hb (dk_at dkX1_insert 4 rfl) (by decide) (fun c_45 => ?_) (fun c_45 => ?_)
      · have g_46 : gi v4 0 0 := gi_le_l c_45 gv4 (gi_c 0 0 (by decide))
        refine lv_aload_n hx hb (dk_at dkX1_insert 36 rfl) rfl (lv_at hl 0 rfl) ?_
        refine va_get (D := (dC, dI)) (ci := 1) (v := .ref tu) (C := RX1) (T := TX1) (N := 7) hx hb hts (fun w h => List.mem_cons_of_mem _ (jnGA_X1 w h)) hown hK hP 0 rfl rfl 3 (by decide) (hts _ (List.mem_cons_of_mem _ mGA_104)) (fun _ h9 => h9) rfl (dk_at dkX1_insert 37 rfl) ?_
        refine lv_iload hx hb (dk_at dkX1_insert 38 rfl) (lv_at hl 3 rfl) ?_
        refine lv_lload_n hx hb (dk_at dkX1_insert 39 rfl) rfl (lv_at hl 2 rfl) ?_
        refine va_last hx hb hK hP hD hS 2 1 rfl rfl (gi_in g_46 (by decide)) (dk_at dkX1_insert 40 rfl) (fun H locs hP hD hS => ?_)
        obtain ⟨hP, hD⟩ := gz_both (w := [(h0, .inr (1, [.ref fr, .ref ve, .ref qu, .ref tu, .ref cb, .int queueLength, .int takenBits])), (qu, .inl (kqu, 24, .inl z1)), (tu, .inl (ktu, 24, .inr (.inl (vp_updL z2 (v4 : Int32).toNatClampNeg p2))))]) hP hD
        generalize vp_updL z2 (v4 : Int32).toNatClampNeg p2 = f_47 at hP hD
        refine lv_aload_n hx hb (dk_at dkX1_insert 41 rfl) rfl (lv_at hl 0 rfl) ?_
        refine va_get (D := (dC, dI)) (ci := 1) (v := .ref qu) (C := RX1) (T := TX1) (N := 7) hx hb hts (fun w h => List.mem_cons_of_mem _ (jnGA_X1 w h)) hown hK hP 0 rfl rfl 2 (by decide) (hts _ (List.mem_cons_of_mem _ mGA_102)) (fun _ h9 => h9) rfl (dk_at dkX1_insert 42 rfl) ?_
        refine lv_iload hx hb (dk_at dkX1_insert 43 rfl) (lv_at hl 3 rfl) ?_
        refine lv_iload_n hx hb (dk_at dkX1_insert 44 rfl) rfl (lv_at hl 1 rfl) ?_
        refine va_iast hx hb hK hP hD hS 1 0 rfl rfl (gi_in g_46 (by decide)) (dk_at dkX1_insert 45 rfl) (fun H locs hP hD hS => ?_)
        obtain ⟨hP, hD⟩ := gz_both (w := [(h0, .inr (1, [.ref fr, .ref ve, .ref qu, .ref tu, .ref cb, .int queueLength, .int takenBits])), (qu, .inl (kqu, 24, .inl (upd z1 (v4 : Int32).toNatClampNeg p1))), (tu, .inl (ktu, 24, .inr (.inl f_47)))]) hP hD
        have gf_48 : ga (upd z1 (v4 : Int32).toNatClampNeg p1) 24 0 23 := ga_upd gz1 gp1
        generalize upd z1 (v4 : Int32).toNatClampNeg p1 = f_48 at hP hD gf_48
        refine lv_aload_n hx hb (dk_at dkX1_insert 46 rfl) rfl (lv_at hl 0 rfl) ?_
        refine lv_dup hx hb (dk_at dkX1_insert 47 rfl) rfl ?_
        refine va_get (D := (dC, dI)) (ci := 1) (v := .int queueLength) (C := RX1) (T := TX1) (N := 7) hx hb hts (fun w h => List.mem_cons_of_mem _ (jnGA_X1 w h)) hown hK hP 0 rfl rfl 5 (by decide) (hts _ (List.mem_cons_of_mem _ mGA_106)) (fun _ h9 => h9) rfl (dk_at dkX1_insert 48 rfl) ?_
        refine lv_iconst (v := 1) hx hb (dk_at dkX1_insert 49 rfl) (by decide) ?_
        refine lv_iadd hx hb (dk_at dkX1_insert 50 rfl) ?_
        refine lv_topi (fun x_49 ex_49 => ?_)
        have gx_49 : gi x_49 1 24 := gi_add ex_49 gqueueLength (gi_c 1 1 (by decide)) (by decide)
        refine va_put (D := (dC, dI)) (ci := 1) (v := .int x_49) (ty := .int) (C := RX1) (T := TX1) (N := 7) hx hb hts (fun w h => List.mem_cons_of_mem _ (jnGA_X1 w h)) tyX1 tyX1_ok nmX1 hown hK hP hD hS 0 rfl rfl 5 (by decide) (hts _ (List.mem_cons_of_mem _ mGA_106)) (fun _ h9 => h9) rfl (by decide +kernel) rfl rfl (Nat.le_of_ble_eq_true rfl) (dk_at dkX1_insert 51 rfl) (fun H locs hP hD hS => ?_)
        obtain ⟨hP, hD⟩ := gz_both (w := [(h0, .inr (1, [.ref fr, .ref ve, .ref qu, .ref tu, .ref cb, .int x_49, .int takenBits])), (qu, .inl (kqu, 24, .inl f_48)), (tu, .inl (ktu, 24, .inr (.inl f_47)))]) hP hD
        exact kr89 x_49 f_48 f_47 _ _ _ (gi_w gx_49 (by decide)) gf_48 (by have qgx_49 := gx_49.1; have rgx_49 := gx_49.2; have igx_49 : x_49.toInt = queueLength.toInt + 1 := (by have hc1 : (1 : Int32).toInt = 1 := (by decide); have h9 := gi_addI ex_49 (by have h1 := gqueueLength.1; have h2 := (gi_c 1 1 (by decide)).1; have h3 := gqueueLength.2; have h4 := (gi_c 1 1 (by decide)).2; omega) (by have h1 := gqueueLength.1; have h2 := (gi_c 1 1 (by decide)).1; have h3 := gqueueLength.2; have h4 := (gi_c 1 1 (by decide)).2; omega); rw [hc1] at h9; exact h9); have qgqueueLength := gqueueLength.1; have rgqueueLength := gqueueLength.2; omega) hP hD hS (lv_sub hl [] rfl)
      · have g_50 : gi v4 1 23 := gi_lt_r (Int32.not_le.mp c_45) (gi_c 0 0 (by decide)) gv4 (by decide)
        refine lv_aload_n hx hb (dk_at dkX1_insert 5 rfl) rfl (lv_at hl 0 rfl) ?_
        refine va_get (D := (dC, dI)) (ci := 1) (v := .ref tu) (C := RX1) (T := TX1) (N := 7) hx hb hts (fun w h => List.mem_cons_of_mem _ (jnGA_X1 w h)) hown hK hP 0 rfl rfl 3 (by decide) (hts _ (List.mem_cons_of_mem _ mGA_104)) (fun _ h9 => h9) rfl (dk_at dkX1_insert 6 rfl) ?_
        refine lv_iload hx hb (dk_at dkX1_insert 7 rfl) (lv_at hl 3 rfl) ?_
        refine lv_iconst (v := 1) hx hb (dk_at dkX1_insert 8 rfl) (by decide) ?_
        refine lv_isub hx hb (dk_at dkX1_insert 9 rfl) ?_
        refine lv_topi (fun x_51 ex_51 => ?_)
        have gx_51 : gi x_51 0 22 := gi_sub ex_51 g_50 (gi_c 1 1 (by decide)) (by decide)
        refine va_lald hx hb hK hP 2 1 rfl rfl (gi_in gx_51 (by decide)) (dk_at dkX1_insert 10 rfl) ?_
        refine lv_topl (fun l_52 el_52 => ?_)
        refine lv_lload_n hx hb (dk_at dkX1_insert 11 rfl) rfl (lv_at hl 2 rfl) ?_
        refine W.lcmp hx hb (dk_at dkX1_insert 12 rfl) ?_
        refine lv_topi (fun x_53 ex_53 => ?_)
        refine lv_if_le (tgt := 63) hx hb (dk_at dkX1_insert 13 rfl) (by decide) (fun c_54 => ?_) (fun c_54 => ?_)
        · have g_55 : gi x_53 (-2147483648) 0 := gi_le_l c_54 (gi_any x_53) (gi_c 0 0 (by decide))
          refine lv_aload_n hx hb (dk_at dkX1_insert 36 rfl) rfl (lv_at hl 0 rfl) ?_
          refine va_get (D := (dC, dI)) (ci := 1) (v := .ref tu) (C := RX1) (T := TX1) (N := 7) hx hb hts (fun w h => List.mem_cons_of_mem _ (jnGA_X1 w h)) hown hK hP 0 rfl rfl 3 (by decide) (hts _ (List.mem_cons_of_mem _ mGA_104)) (fun _ h9 => h9) rfl (dk_at dkX1_insert 37 rfl) ?_
          refine lv_iload hx hb (dk_at dkX1_insert 38 rfl) (lv_at hl 3 rfl) ?_
          refine lv_lload_n hx hb (dk_at dkX1_insert 39 rfl) rfl (lv_at hl 2 rfl) ?_
          refine va_last hx hb hK hP hD hS 2 1 rfl rfl (gi_in g_50 (by decide)) (dk_at dkX1_insert 40 rfl) (fun H locs hP hD hS => ?_)
          obtain ⟨hP, hD⟩ := gz_both (w := [(h0, .inr (1, [.ref fr, .ref ve, .ref qu, .ref tu, .ref cb, .int queueLength, .int takenBits])), (qu, .inl (kqu, 24, .inl z1)), (tu, .inl (ktu, 24, .inr (.inl (vp_updL z2 (v4 : Int32).toNatClampNeg p2))))]) hP hD
          generalize vp_updL z2 (v4 : Int32).toNatClampNeg p2 = f_56 at hP hD
          refine lv_aload_n hx hb (dk_at dkX1_insert 41 rfl) rfl (lv_at hl 0 rfl) ?_
          refine va_get (D := (dC, dI)) (ci := 1) (v := .ref qu) (C := RX1) (T := TX1) (N := 7) hx hb hts (fun w h => List.mem_cons_of_mem _ (jnGA_X1 w h)) hown hK hP 0 rfl rfl 2 (by decide) (hts _ (List.mem_cons_of_mem _ mGA_102)) (fun _ h9 => h9) rfl (dk_at dkX1_insert 42 rfl) ?_
          refine lv_iload hx hb (dk_at dkX1_insert 43 rfl) (lv_at hl 3 rfl) ?_
          refine lv_iload_n hx hb (dk_at dkX1_insert 44 rfl) rfl (lv_at hl 1 rfl) ?_
          refine va_iast hx hb hK hP hD hS 1 0 rfl rfl (gi_in g_50 (by decide)) (dk_at dkX1_insert 45 rfl) (fun H locs hP hD hS => ?_)
          obtain ⟨hP, hD⟩ := gz_both (w := [(h0, .inr (1, [.ref fr, .ref ve, .ref qu, .ref tu, .ref cb, .int queueLength, .int takenBits])), (qu, .inl (kqu, 24, .inl (upd z1 (v4 : Int32).toNatClampNeg p1))), (tu, .inl (ktu, 24, .inr (.inl f_56)))]) hP hD
          have gf_57 : ga (upd z1 (v4 : Int32).toNatClampNeg p1) 24 0 23 := ga_upd gz1 gp1
          generalize upd z1 (v4 : Int32).toNatClampNeg p1 = f_57 at hP hD gf_57
          refine lv_aload_n hx hb (dk_at dkX1_insert 46 rfl) rfl (lv_at hl 0 rfl) ?_
          refine lv_dup hx hb (dk_at dkX1_insert 47 rfl) rfl ?_
          refine va_get (D := (dC, dI)) (ci := 1) (v := .int queueLength) (C := RX1) (T := TX1) (N := 7) hx hb hts (fun w h => List.mem_cons_of_mem _ (jnGA_X1 w h)) hown hK hP 0 rfl rfl 5 (by decide) (hts _ (List.mem_cons_of_mem _ mGA_106)) (fun _ h9 => h9) rfl (dk_at dkX1_insert 48 rfl) ?_
          refine lv_iconst (v := 1) hx hb (dk_at dkX1_insert 49 rfl) (by decide) ?_
          refine lv_iadd hx hb (dk_at dkX1_insert 50 rfl) ?_
          refine lv_topi (fun x_58 ex_58 => ?_)
          have gx_58 : gi x_58 1 24 := gi_add ex_58 gqueueLength (gi_c 1 1 (by decide)) (by decide)
          refine va_put (D := (dC, dI)) (ci := 1) (v := .int x_58) (ty := .int) (C := RX1) (T := TX1) (N := 7) hx hb hts (fun w h => List.mem_cons_of_mem _ (jnGA_X1 w h)) tyX1 tyX1_ok nmX1 hown hK hP hD hS 0 rfl rfl 5 (by decide) (hts _ (List.mem_cons_of_mem _ mGA_106)) (fun _ h9 => h9) rfl (by decide +kernel) rfl rfl (Nat.le_of_ble_eq_true rfl) (dk_at dkX1_insert 51 rfl) (fun H locs hP hD hS => ?_)
          obtain ⟨hP, hD⟩ := gz_both (w := [(h0, .inr (1, [.ref fr, .ref ve, .ref qu, .ref tu, .ref cb, .int x_58, .int takenBits])), (qu, .inl (kqu, 24, .inl f_57)), (tu, .inl (ktu, 24, .inr (.inl f_56)))]) hP hD
          exact kr89 x_58 f_57 f_56 _ _ _ (gi_w gx_58 (by decide)) gf_57 (by have qgx_58 := gx_58.1; have rgx_58 := gx_58.2; have igx_58 : x_58.toInt = queueLength.toInt + 1 := (by have hc1 : (1 : Int32).toInt = 1 := (by decide); have h9 := gi_addI ex_58 (by have h1 := gqueueLength.1; have h2 := (gi_c 1 1 (by decide)).1; have h3 := gqueueLength.2; have h4 := (gi_c 1 1 (by decide)).2; omega) (by have h1 := gqueueLength.1; have h2 := (gi_c 1 1 (by decide)).1; have h3 := gqueueLength.2; have h4 := (gi_c 1 1 (by decide)).2; omega); rw [hc1] at h9; exact h9); have qgqueueLength := gqueueLength.1; have rgqueueLength := gqueueLength.2; omega) hP hD hS (lv_sub hl [] rfl)
        · have g_59 : gi x_53 1 2147483647 := gi_lt_r (Int32.not_le.mp c_54) (gi_c 0 0 (by decide)) (gi_any x_53) (by decide)
          refine lv_aload_n hx hb (dk_at dkX1_insert 14 rfl) rfl (lv_at hl 0 rfl) ?_
          refine va_get (D := (dC, dI)) (ci := 1) (v := .ref tu) (C := RX1) (T := TX1) (N := 7) hx hb hts (fun w h => List.mem_cons_of_mem _ (jnGA_X1 w h)) hown hK hP 0 rfl rfl 3 (by decide) (hts _ (List.mem_cons_of_mem _ mGA_104)) (fun _ h9 => h9) rfl (dk_at dkX1_insert 15 rfl) ?_
          refine lv_iload hx hb (dk_at dkX1_insert 16 rfl) (lv_at hl 3 rfl) ?_
          refine lv_aload_n hx hb (dk_at dkX1_insert 17 rfl) rfl (lv_at hl 0 rfl) ?_
          refine va_get (D := (dC, dI)) (ci := 1) (v := .ref tu) (C := RX1) (T := TX1) (N := 7) hx hb hts (fun w h => List.mem_cons_of_mem _ (jnGA_X1 w h)) hown hK hP 0 rfl rfl 3 (by decide) (hts _ (List.mem_cons_of_mem _ mGA_104)) (fun _ h9 => h9) rfl (dk_at dkX1_insert 18 rfl) ?_
          refine lv_iload hx hb (dk_at dkX1_insert 19 rfl) (lv_at hl 3 rfl) ?_
          refine lv_iconst (v := 1) hx hb (dk_at dkX1_insert 20 rfl) (by decide) ?_
          refine lv_isub hx hb (dk_at dkX1_insert 21 rfl) ?_
          refine lv_topi (fun x_60 ex_60 => ?_)
          have gx_60 : gi x_60 0 22 := gi_sub ex_60 g_50 (gi_c 1 1 (by decide)) (by decide)
          refine va_lald hx hb hK hP 2 1 rfl rfl (gi_in gx_60 (by decide)) (dk_at dkX1_insert 22 rfl) ?_
          refine lv_topl (fun l_61 el_61 => ?_)
          refine va_last hx hb hK hP hD hS 2 1 rfl rfl (gi_in g_50 (by decide)) (dk_at dkX1_insert 23 rfl) (fun H locs hP hD hS => ?_)
          obtain ⟨hP, hD⟩ := gz_both (w := [(h0, .inr (1, [.ref fr, .ref ve, .ref qu, .ref tu, .ref cb, .int queueLength, .int takenBits])), (qu, .inl (kqu, 24, .inl z1)), (tu, .inl (ktu, 24, .inr (.inl (vp_updL z2 (v4 : Int32).toNatClampNeg l_61))))]) hP hD
          generalize vp_updL z2 (v4 : Int32).toNatClampNeg l_61 = f_62 at hP hD
          refine lv_aload_n hx hb (dk_at dkX1_insert 24 rfl) rfl (lv_at hl 0 rfl) ?_
          refine va_get (D := (dC, dI)) (ci := 1) (v := .ref qu) (C := RX1) (T := TX1) (N := 7) hx hb hts (fun w h => List.mem_cons_of_mem _ (jnGA_X1 w h)) hown hK hP 0 rfl rfl 2 (by decide) (hts _ (List.mem_cons_of_mem _ mGA_102)) (fun _ h9 => h9) rfl (dk_at dkX1_insert 25 rfl) ?_
          refine lv_iload hx hb (dk_at dkX1_insert 26 rfl) (lv_at hl 3 rfl) ?_
          refine lv_aload_n hx hb (dk_at dkX1_insert 27 rfl) rfl (lv_at hl 0 rfl) ?_
          refine va_get (D := (dC, dI)) (ci := 1) (v := .ref qu) (C := RX1) (T := TX1) (N := 7) hx hb hts (fun w h => List.mem_cons_of_mem _ (jnGA_X1 w h)) hown hK hP 0 rfl rfl 2 (by decide) (hts _ (List.mem_cons_of_mem _ mGA_102)) (fun _ h9 => h9) rfl (dk_at dkX1_insert 28 rfl) ?_
          refine lv_iload hx hb (dk_at dkX1_insert 29 rfl) (lv_at hl 3 rfl) ?_
          refine lv_iconst (v := 1) hx hb (dk_at dkX1_insert 30 rfl) (by decide) ?_
          refine lv_isub hx hb (dk_at dkX1_insert 31 rfl) ?_
          refine lv_topi (fun x_63 ex_63 => ?_)
          have gx_63 : gi x_63 0 22 := gi_sub ex_63 g_50 (gi_c 1 1 (by decide)) (by decide)
          refine va_iald hx hb hK hP 1 0 rfl rfl (gi_in gx_63 (by decide)) (dk_at dkX1_insert 32 rfl) ?_
          refine lv_topi (fun x_64 ex_64 => ?_)
          have gx_64 : gi x_64 0 23 := ga_at gz1 (gi_in gx_63 (by decide)) ex_64
          refine va_iast hx hb hK hP hD hS 1 0 rfl rfl (gi_in g_50 (by decide)) (dk_at dkX1_insert 33 rfl) (fun H locs hP hD hS => ?_)
          obtain ⟨hP, hD⟩ := gz_both (w := [(h0, .inr (1, [.ref fr, .ref ve, .ref qu, .ref tu, .ref cb, .int queueLength, .int takenBits])), (qu, .inl (kqu, 24, .inl (upd z1 (v4 : Int32).toNatClampNeg x_64))), (tu, .inl (ktu, 24, .inr (.inl f_62)))]) hP hD
          have gf_65 : ga (upd z1 (v4 : Int32).toNatClampNeg x_64) 24 0 23 := ga_upd gz1 gx_64
          generalize upd z1 (v4 : Int32).toNatClampNeg x_64 = f_65 at hP hD gf_65
          obtain ⟨x_66, ex_66⟩ : ∃ y : Int32, y = v4 + (-1) := ⟨_, rfl⟩
          have gx_66 : gi x_66 0 22 := gi_add ex_66 g_50 (gi_c (-1) (-1) (by decide)) (by decide)
          refine lv_iinc (v := x_66) (lv' := [(4, .int x_66), (0, .ref h0), (1, .int p1), (2, .long p2)]) hx hb (dk_at dkX1_insert 34 rfl) hl (k := 3) rfl (by rw [ex_66]; rfl) (by decide) rfl (fun ls hl => ?_)
          refine lv_goto (tgt := 6) hx hb (dk_at dkX1_insert 35 rfl) (by decide) ?_
          exact ih x_66 f_65 f_62 _ _ _ (gi_w gx_66 (by decide)) gf_65 (by have av4 := gv4.1; have bv4 := gv4.2; have qgx_66 := gx_66.1; have rgx_66 := gx_66.2; have igx_66 : x_66.toInt = v4.toInt + (-1) := (by have hcm1 : ((-1) : Int32).toInt = (-1) := (by decide); have h9 := gi_addI ex_66 (by have h1 := g_50.1; have h2 := (gi_c (-1) (-1) (by decide)).1; have h3 := g_50.2; have h4 := (gi_c (-1) (-1) (by decide)).2; omega) (by have h1 := g_50.1; have h2 := (gi_c (-1) (-1) (by decide)).1; have h3 := g_50.2; have h4 := (gi_c (-1) (-1) (by decide)).2; omega); rw [hcm1] at h9; exact h9); have qgv4 := g_50.1; have rgv4 := g_50.2; omega) hP hD hS (lv_sub hl [1, 2, 3, 0] rfl)
abbrev pb_sX1_insert (dC : Nat → ClassId) (dI : Nat → Nat → Nat) (A9 : Nat → Prop) (h0 : Nat) (qu : Nat) (tu : Nat) (fr : Nat) (ve : Nat) (cb : Nat) (queueLength : Int32) (takenBits : Int32) (kqu : ClassId) (fqu : Nat → Int32) (ktu : ClassId) (ftu : Nat → Int64) (p1 : Int32) (p2 : Int64) (w0_5 : Int32) (z1 : Nat → Int32) (z2 : Nat → Int64) (t : State) : Prop := gi w0_5 0 24 ∧ ga z1 24 0 23 ∧ w0_5.toInt = queueLength.toInt + 1 ∧ va_P (dC, dI) vwCl [(h0, .inr (1, [.ref fr, .ref ve, .ref qu, .ref tu, .ref cb, .int w0_5, .int takenBits])), (qu, .inl (kqu, 24, .inl z1)), (tu, .inl (ktu, 24, .inr (.inl z2)))] t.heap ∧ va_D A9 [(h0, .inr (1, [.ref fr, .ref ve, .ref qu, .ref tu, .ref cb, .int w0_5, .int takenBits])), (qu, .inl (kqu, 24, .inl z1)), (tu, .inl (ktu, 24, .inr (.inl z2)))]
set_option maxHeartbeats 4000000 in
set_option maxRecDepth 100000 in
theorem sX1_insert (l : Launch) (dC : Nat → ClassId) (dI : Nat → Nat → Nat) (sz : Nat) (h0 : Nat) (qu : Nat) (tu : Nat) (fr : Nat) (ve : Nat) (cb : Nat) (queueLength : Int32) (takenBits : Int32) (kqu : ClassId) (fqu : Nat → Int32) (ktu : ClassId) (ftu : Nat → Int64) (p1 : Int32) (p2 : Int64) (gqueueLength : gi queueLength 0 23) (gfqu : ga fqu 24 0 23) (gp1 : gi p1 0 23) : Met l yX1_insert (.code yX1_insert cX1_insert 5 none :: wsGA) ({ frames := 0, cells := 0, slots := 0, locals := 0 }) (va_Pc [.ref h0, .int p1, .long p2] (fun U => U.heap.size = sz ∧ va_P (dC, dI) vwCl [(h0, .inr (1, [.ref fr, .ref ve, .ref qu, .ref tu, .ref cb, .int queueLength, .int takenBits])), (qu, .inl (kqu, 24, .inl fqu)), (tu, .inl (ktu, 24, .inr (.inl ftu)))] U.heap ∧ va_K (dC, dI) vwCl [(kqu, .int), (ktu, .long)] U ∧ va_D (fun _ => True) [(h0, .inr (1, [.ref fr, .ref ve, .ref qu, .ref tu, .ref cb, .int queueLength, .int takenBits])), (qu, .inl (kqu, 24, .inl fqu)), (tu, .inl (ktu, 24, .inr (.inl ftu)))] ∧ nzA U)) (va_Qv (fun (u : Unit) => True) (fun _ t => ∃ (w0_5 : Int32) (z1 : Nat → Int32) (z2 : Nat → Int64), pb_sX1_insert dC dI (va_A [(h0, .inr (1, [.ref fr, .ref ve, .ref qu, .ref tu, .ref cb, .int queueLength, .int takenBits])), (qu, .inl (kqu, 24, .inl fqu)), (tu, .inl (ktu, 24, .inr (.inl ftu)))] sz) h0 qu tu fr ve cb queueLength takenBits kqu fqu ktu ftu p1 p2 w0_5 z1 z2 t) (va_A [(h0, .inr (1, [.ref fr, .ref ve, .ref qu, .ref tu, .ref cb, .int queueLength, .int takenBits])), (qu, .inl (kqu, 24, .inl fqu)), (tu, .inl (ktu, 24, .inr (.inl ftu)))] sz)) 0 0 (va_A [(h0, .inr (1, [.ref fr, .ref ve, .ref qu, .ref tu, .ref cb, .int queueLength, .int takenBits])), (qu, .inl (kqu, 24, .inl fqu)), (tu, .inl (ktu, 24, .inr (.inl ftu)))] sz) := by
  refine Met.ofW (cc := cX1_insert) (maxL := 5) (ret := none) (by decide) rfl ?_
  intro p e s m args below meth c s₁ B hml hv
  obtain ⟨rfl, hsz, hP, hK, hD0, hz⟩ := hv
  have hx := B.exec
  have hb := B.bytes
  have hr := B.returns
  have hts := atoms_spec (ws := (.code yX1_insert cX1_insert 5 none :: wsGA)) B.pre
  have hown : s.vm.findClass RX1 = some m.cls := findClass_of_methodNamed B.named
  have hlocks := B.notSynchronized
  subst hsz
  have hD := hD0.self (sz := s.heap.size)
  generalize hAe : va_A [(h0, .inr (1, [.ref fr, .ref ve, .ref qu, .ref tu, .ref cb, .int queueLength, .int takenBits])), (qu, .inl (kqu, 24, .inl fqu)), (tu, .inl (ktu, 24, .inr (.inl ftu)))] s.heap.size = A at hD ⊢
  have hA : ∀ q : Nat, s.heap.size ≤ q → A q := fun q h => by rw [← hAe]; exact Or.inr h
  have hS : va_S A s.heap s.heap [] := va_S.rf
  have hl := lv_entry ([.ref h0, .int p1, .long p2]) (n := 5) (Nat.le_of_ble_eq_true rfl)
  rw [lg_entry_eq]
  generalize (lg_sl ([.ref h0, .int p1, .long p2]) ++ List.replicate (5 - (lg_sl ([.ref h0, .int p1, .long p2])).length) Slot.unset).toArray = ls at hl ⊢
  have hl : lv_has ls 5 [(0, .ref h0), (1, .int p1), (2, .long p2)] := hl
  refine lv_aload_n hx hb (dk_at dkX1_insert 0 rfl) rfl (lv_at hl 0 rfl) ?_
  refine va_get (D := (dC, dI)) (ci := 1) (v := .int queueLength) (C := RX1) (T := TX1) (N := 7) hx hb hts (fun w h => List.mem_cons_of_mem _ (jnGA_X1 w h)) hown hK hP 0 rfl rfl 5 (by decide) (hts _ (List.mem_cons_of_mem _ mGA_106)) (fun _ h9 => h9) rfl (dk_at dkX1_insert 1 rfl) ?_
  refine lv_istore (lv' := [(4, .int queueLength), (0, .ref h0), (1, .int p1), (2, .long p2)]) hx hb (dk_at dkX1_insert 2 rfl) hl (by decide) rfl (fun ls hl => ?_)
  refine (lp_sX1_insert h0 qu tu fr ve cb queueLength takenBits kqu fqu ktu ftu p1 p2 gqueueLength gfqu gp1 hx hb hml hown hts hK hz hA (Nat.le_of_ble_eq_true rfl) (Nat.le_of_ble_eq_true rfl) (Nat.zero_le _) (Nat.zero_le _) (fun w0_5 z1 z2 H locs ls gw0_5 gz1 hpr0 hP hD hS hl => ?_) 60) queueLength fqu ftu _ _ _ gqueueLength gfqu (by have qgqueueLength := gqueueLength.1; have rgqueueLength := gqueueLength.2; omega) hP hD hS (lv_sub hl [1, 2, 3, 0] rfl)
  · skip
    exact W.vret hx hb hr (fun t ht hW => ⟨⟨(), rfl, trivial, w0_5, z1, z2, gw0_5, gz1, by have qgw0_5 := gw0_5.1; have rgw0_5 := gw0_5.2; omega, by rw [ht]; exact hP, hD⟩, hS.F ht⟩) hS.2.2 (dk_at dkX1_insert 52 rfl)
noncomputable def lsX1_lineUp : List (Nat × Instr × Nat) := [(0, .aload_n 0, 1), (1, .iconst 0, 1), (2, .putfield 32, 3), (5, .iconst 0, 1), (6, .istore_n 3, 1), (7, .iload_n 3, 1), (8, .aload_n 1, 1), (9, .getfield 65, 3), (12, .if_icmp .ge 39, 3), (15, .aload_n 0, 1), (16, .getfield 18, 3), (19, .iload_n 3, 1), (20, .iconst 3, 1), (21, .iastore, 1), (22, .aload_n 1, 1), (23, .getfield 47, 3), (26, .iload_n 3, 1), (27, .aaload, 1), (28, .iload_n 2, 1), (29, .invokevirtual 68, 3), (32, .ifCond .eq 13, 3), (35, .aload_n 0, 1), (36, .iload_n 3, 1), (37, .aload_n 1, 1), (38, .iload_n 3, 1), (39, .invokestatic 74, 3), (42, .invokevirtual 78, 3), (45, .iinc 3 1, 3), (48, .goto (-41), 3), (51, .return_, 1)]
theorem dkX1_lineUp : dkAll cX1_lineUp lsX1_lineUp = true := by decide +kernel
set_option maxHeartbeats 4000000 in
set_option maxRecDepth 100000 in
theorem lp_sX1_lineUp {p : Program} {l : Launch} {e : Env} {R : Room} {s : State} {m : MethodId} {args : Array Value} {below : List Frame} {meth : Method} {c : Code} {Q : State → Prop} {A : Nat → Prop} {cells slots : Nat} {dC : Nat → ClassId} {dI : Nat → Nat → Nat} (h0 : Nat) (ve : Nat) (qu : Nat) (tu : Nat) (am : Nat) (pl : Nat) (re : Nat) (fr : Nat) (cb : Nat) (queueLength : Int32) (takenBits : Int32) (kve : ClassId) (fve : Nat → Int32) (kqu : ClassId) (fqu : Nat → Int32) (ktu : ClassId) (ftu : Nat → Int64) (amonths : Int32) (afull : Int32) (alean : Int32) (alines : Int32) (ahasMoon : Int32) (amoonStart : Int32) (amoonStep : Int32) (aplaceCount : Int32) (areportCount : Int32) (adeedCount : Int32) (de : Nat) (kpl : ClassId) (kre : ClassId) (pa : Nat → Nat) (p_name : Nat → Int32) (p_trust : Nat → Int32) (ra : Nat → Nat) (r_place : Nat → Int32) (r_kind : Nat → Int32) (r_month : Nat → Int32) (r_day : Nat → Int32) (r_known : Nat → Int32) (r_struck : Nat → Int32) (p2 : Int32) (gqueueLength : gi queueLength 0 24) (gfqu : ga fqu 24 0 23) (gamonths : gi amonths 0 24) (gafull : gi afull 0 5) (galean : gi alean 0 5) (gahasMoon : gi ahasMoon 0 1) (gaplaceCount : gi aplaceCount 0 6) (gareportCount : gi areportCount 0 24) (gadeedCount : gi adeedCount 0 8) (gr_place : ga r_place 24 0 5) (gr_month : ga r_month 24 0 23) (gr_struck : ga r_struck 24 0 1) (hx : p.tables.exec = Jvm.exec) (hb : c.code = cX1_lineUp) (hml : c.maxLocals = 4) (hown : s.vm.findClass RX1 = some m.cls) (hts : ∀ w ∈ ((.code yX1_lineUp cX1_lineUp 4 none :: wsGA) : List Cond), w.before args s = true) (hK : va_K (dC, dI) vwCl [(kve, .int), (kqu, .int), (ktu, .long), (kpl, .object RX5), (kre, .object RX7)] s) (hz : nzA s) (hR : va_P (dC, dI) vwCl [(am, .inr (0, [.int amonths, .int afull, .int alean, .int alines, .int ahasMoon, .int amoonStart, .int amoonStep, .int aplaceCount, .int areportCount, .int adeedCount, .ref pl, .ref re, .ref de])), (pl, .inl (kpl, 6, .inr (.inr (.inr (.inr (fun i => some (pa i))))))), (re, .inl (kre, 24, .inr (.inr (.inr (.inr (fun i => some (ra i)))))))] s.heap) (hRA : gz_ap A [(am, .inr (0, [.int amonths, .int afull, .int alean, .int alines, .int ahasMoon, .int amoonStart, .int amoonStep, .int aplaceCount, .int areportCount, .int adeedCount, .ref pl, .ref re, .ref de])), (pl, .inl (kpl, 6, .inr (.inr (.inr (.inr (fun i => some (pa i))))))), (re, .inl (kre, 24, .inr (.inr (.inr (.inr (fun i => some (ra i)))))))]) (hF0 : va_P (dC, dI) vwCl (gz_fam 6 pa 5 (fun i => [.int (p_name i), .int (p_trust i)])) s.heap) (hFA0 : gz_ap A (gz_fam 6 pa 5 (fun i => [.int (p_name i), .int (p_trust i)]))) (hF1 : va_P (dC, dI) vwCl (gz_fam 24 ra 7 (fun i => [.int (r_place i), .int (r_kind i), .int (r_month i), .int (r_day i), .int (r_known i), .int (r_struck i)])) s.heap) (hFA1 : gz_ap A (gz_fam 24 ra 7 (fun i => [.int (r_place i), .int (r_kind i), .int (r_month i), .int (r_day i), .int (r_known i), .int (r_struck i)]))) (hA : ∀ q : Nat, s.heap.size ≤ q → A q) (hRf : 1 ≤ R.frames) (hRl : 25 ≤ R.locals) (hRc : cells ≤ R.cells) (hRs : slots ≤ R.slots) (kr51 : ∀ (w0_5 : Int32) (z1 : Nat → Int32) (z2 : Nat → Int32) (z3 : Nat → Int64) (H : Heap) (locs : List Loc) (ls : Array Slot), gi w0_5 0 24 → ga z2 24 0 23 → va_P (dC, dI) vwCl [(h0, .inr (1, [.ref fr, .ref ve, .ref qu, .ref tu, .ref cb, .int w0_5, .int takenBits])), (ve, .inl (kve, 24, .inl z1)), (qu, .inl (kqu, 24, .inl z2)), (tu, .inl (ktu, 24, .inr (.inl z3)))] H → va_D A [(h0, .inr (1, [.ref fr, .ref ve, .ref qu, .ref tu, .ref cb, .int w0_5, .int takenBits])), (ve, .inl (kve, 24, .inl z1)), (qu, .inl (kqu, 24, .inl z2)), (tu, .inl (ktu, 24, .inr (.inl z3)))] → va_S A s.heap H locs → lv_has ls 4 [] → W p l e R s m args below meth c H locs cells slots Q (F0 m 51 ls [])) : ∀ z : Nat, (∀ (v3 : Int32) (w0_5 : Int32) (z1 : Nat → Int32) (z2 : Nat → Int32) (z3 : Nat → Int64) (H : Heap) (locs : List Loc) (ls : Array Slot), gi v3 0 24 → gi w0_5 0 24 → ga z2 24 0 23 → w0_5.toInt ≤ v3.toInt → 49 + (-2) * v3.toInt < (z : Int) → va_P (dC, dI) vwCl [(h0, .inr (1, [.ref fr, .ref ve, .ref qu, .ref tu, .ref cb, .int w0_5, .int takenBits])), (ve, .inl (kve, 24, .inl z1)), (qu, .inl (kqu, 24, .inl z2)), (tu, .inl (ktu, 24, .inr (.inl z3)))] H → va_D A [(h0, .inr (1, [.ref fr, .ref ve, .ref qu, .ref tu, .ref cb, .int w0_5, .int takenBits])), (ve, .inl (kve, 24, .inl z1)), (qu, .inl (kqu, 24, .inl z2)), (tu, .inl (ktu, 24, .inr (.inl z3)))] → va_S A s.heap H locs → lv_has ls 4 [(0, .ref h0), (1, .ref am), (2, .int p2), (3, .int v3)] → W p l e R s m args below meth c H locs cells slots Q (F0 m 7 ls [])) := by
  intro z
  induction z with
  | zero =>
    intro v3 w0_5 z1 z2 z3 H locs ls gv3 gw0_5 gz2 hle_gw0_5_gv3 hmu hP hD hS hl
    exact absurd hmu (by have hv31 := gv3.1; have hv32 := gv3.2; omega)
  | succ z ih =>
      intro v3 w0_5 z1 z2 z3 H locs ls gv3 gw0_5 gz2 hle_gw0_5_gv3 hmu hP hD hS hl
      refine lv_iload_n hx hb (dk_at dkX1_lineUp 5 rfl) rfl (lv_at hl 3 rfl) ?_
      refine lv_aload_n hx hb (dk_at dkX1_lineUp 6 rfl) rfl (lv_at hl 1 rfl) ?_
      refine va_get (D := (dC, dI)) (ci := 0) (v := .int areportCount) (C := RX0) (T := TX0) (N := 13) hx hb hts (fun w h => List.mem_cons_of_mem _ (jnGA_X0 w h)) hown hK (gz_ro hR hRA hS) 0 rfl rfl 8 (by decide) (hts _ (List.mem_cons_of_mem _ mGA_452)) (fun _ h9 => h9) rfl (dk_at dkX1_lineUp 7 rfl) ?_
      refine lv_icmp_ge (tgt := 51) hx hb (dk_at dkX1_lineUp 8 rfl) (by decide) (fun c_241 => ?_) (fun c_241 => ?_)
      · exact kr51 w0_5 z1 z2 z3 _ _ _ gw0_5 gz2 hP hD hS (lv_sub hl [] rfl)
      · have g_242 : gi v3 0 23 := gi_lt_l (Int32.not_le.mp c_241) gv3 gareportCount (by decide)
        have g_243 : gi w0_5 0 23 := gi_rel hle_gw0_5_gv3 gw0_5 g_242
        have g_244 : gi areportCount 1 24 := gi_lt_r (Int32.not_le.mp c_241) gv3 gareportCount (by decide)
        refine lv_aload_n hx hb (dk_at dkX1_lineUp 9 rfl) rfl (lv_at hl 0 rfl) ?_
        refine va_get (D := (dC, dI)) (ci := 1) (v := .ref ve) (C := RX1) (T := TX1) (N := 7) hx hb hts (fun w h => List.mem_cons_of_mem _ (jnGA_X1 w h)) hown hK hP 0 rfl rfl 1 (by decide) (hts _ (List.mem_cons_of_mem _ mGA_101)) (fun _ h9 => h9) rfl (dk_at dkX1_lineUp 10 rfl) ?_
        refine lv_iload_n hx hb (dk_at dkX1_lineUp 11 rfl) rfl (lv_at hl 3 rfl) ?_
        refine lv_iconst (v := 3) hx hb (dk_at dkX1_lineUp 12 rfl) (by decide) ?_
        refine va_iast hx hb hK hP hD hS 1 0 rfl rfl (gi_in g_242 (by decide)) (dk_at dkX1_lineUp 13 rfl) (fun H locs hP hD hS => ?_)
        obtain ⟨hP, hD⟩ := gz_both (w := [(h0, .inr (1, [.ref fr, .ref ve, .ref qu, .ref tu, .ref cb, .int w0_5, .int takenBits])), (ve, .inl (kve, 24, .inl (upd z1 (v3 : Int32).toNatClampNeg 3))), (qu, .inl (kqu, 24, .inl z2)), (tu, .inl (ktu, 24, .inr (.inl z3)))]) hP hD
        generalize upd z1 (v3 : Int32).toNatClampNeg 3 = f_245 at hP hD
        refine lv_aload_n hx hb (dk_at dkX1_lineUp 14 rfl) rfl (lv_at hl 1 rfl) ?_
        refine va_get (D := (dC, dI)) (ci := 0) (v := .ref re) (C := RX0) (T := TX0) (N := 13) hx hb hts (fun w h => List.mem_cons_of_mem _ (jnGA_X0 w h)) hown hK (gz_ro hR hRA hS) 0 rfl rfl 11 (by decide) (hts _ (List.mem_cons_of_mem _ mGA_447)) (fun _ h9 => h9) rfl (dk_at dkX1_lineUp 15 rfl) ?_
        refine lv_iload_n hx hb (dk_at dkX1_lineUp 16 rfl) rfl (lv_at hl 3 rfl) ?_
        refine va_aldq hx hb hK (gz_ro hR hRA hS) 2 4 rfl rfl (gi_in g_242 (by decide)) (dk_at dkX1_lineUp 17 rfl) ?_
        refine W.eq (g2 := F0 m 28 ls [.ref (ra v3.toNatClampNeg)]) rfl ?_
        refine lv_iload_n hx hb (dk_at dkX1_lineUp 18 rfl) rfl (lv_at hl 2 rfl) ?_
        have hPc : va_P (dC, dI) vwCl [((ra v3.toNatClampNeg), .inr (7, [.int (r_place v3.toNatClampNeg), .int (r_kind v3.toNatClampNeg), .int (r_month v3.toNatClampNeg), .int (r_day v3.toNatClampNeg), .int (r_known v3.toNatClampNeg), .int (r_struck v3.toNatClampNeg)]))] H := (gz_fam1 (gz_ro hF1 hFA1 hS) (gz_clt (gi_in (n := 24) g_242 (by decide))))
        have hKc := hK.sub (tys' := []) [] rfl
        refine va_calli (va_runV (As := [.int p2]) (rest := []) ⟨hx, hb, hml, hown, hts⟩ (sX7_isKnownBy l dC dI (ra v3.toNatClampNeg) (r_place v3.toNatClampNeg) (r_kind v3.toNatClampNeg) (r_month v3.toNatClampNeg) (r_day v3.toNatClampNeg) (r_known v3.toNatClampNeg) (r_struck v3.toNatClampNeg) p2 (ga_ix gr_place (gi_in (n := 24) g_242 (by decide))) (ga_ix gr_month (gi_in (n := 24) g_242 (by decide))) (ga_ix gr_struck (gi_in (n := 24) g_242 (by decide)))) (cwV 1 hts (gz_gV mGA_453 mGA_438 mGA_439 mGA_78 mGA_440 goodGA) rfl rfl rfl (by decide +kernel) ⟨Nat.le_trans (Nat.le_of_ble_eq_true rfl) hRf, Nat.le_trans (Nat.le_of_ble_eq_true rfl) hRl⟩) ⟨bl_I (bl_a bl_P (bl_a bl_K bl_nz)), va_recv hKc hPc (ci := 7) (q0 := 0) rfl rfl, fun U hU hW => ⟨rfl, by rw [hU]; exact hPc, va_K.moved hW.alike hKc, nzA_warm hW hz⟩⟩ rfl rfl hl.1 rfl (lv_room (Nat.le_of_ble_eq_true rfl)) (dk_at dkX1_lineUp 19 rfl) ⟨hRc, hRs⟩) hS (fun q _ h => h.elim) (fun q h => h.elim) (fun r_246 u t H1 locs ht hvm hw hB hz1 hk1 hS => ?_)
        obtain ⟨hw, hE⟩ := hw
        have hP := gz_keep hP hk1
        generalize H1 = H at hP hS ⊢
        have gr_246 : gi r_246 0 1 := hw
        refine lv_if_eq (tgt := 45) hx hb (dk_at dkX1_lineUp 20 rfl) (by decide) (fun c_247 => ?_) (fun c_247 => ?_)
        · have g_248 : gi r_246 0 0 := gi_eq c_247 (gi_c 0 0 (by decide))
          obtain ⟨x_249, ex_249⟩ : ∃ y : Int32, y = v3 + 1 := ⟨_, rfl⟩
          have gx_249 : gi x_249 1 24 := gi_add ex_249 g_242 (gi_c 1 1 (by decide)) (by decide)
          refine lv_iinc (v := x_249) (lv' := [(3, .int x_249), (0, .ref h0), (1, .ref am), (2, .int p2)]) hx hb (dk_at dkX1_lineUp 27 rfl) hl (k := 3) rfl (by rw [ex_249]; rfl) (by decide) rfl (fun ls hl => ?_)
          refine lv_goto (tgt := 7) hx hb (dk_at dkX1_lineUp 28 rfl) (by decide) ?_
          exact ih x_249 w0_5 f_245 z2 z3 _ _ _ (gi_w gx_249 (by decide)) (gi_w g_243 (by decide)) gz2 (by have qgx_249 := gx_249.1; have rgx_249 := gx_249.2; have igx_249 : x_249.toInt = v3.toInt + 1 := (by have hc1 : (1 : Int32).toInt = 1 := (by decide); have h9 := gi_addI ex_249 (by have h1 := g_242.1; have h2 := (gi_c 1 1 (by decide)).1; have h3 := g_242.2; have h4 := (gi_c 1 1 (by decide)).2; omega) (by have h1 := g_242.1; have h2 := (gi_c 1 1 (by decide)).1; have h3 := g_242.2; have h4 := (gi_c 1 1 (by decide)).2; omega); rw [hc1] at h9; exact h9); have qgv3 := g_242.1; have rgv3 := g_242.2; have qgw0_5 := g_243.1; have rgw0_5 := g_243.2; have y1 := (Int32.lt_iff_toInt_lt.mp (Int32.not_le.mp c_241)); omega) (by have av3 := gv3.1; have bv3 := gv3.2; have qgx_249 := gx_249.1; have rgx_249 := gx_249.2; have igx_249 : x_249.toInt = v3.toInt + 1 := (by have hc1 : (1 : Int32).toInt = 1 := (by decide); have h9 := gi_addI ex_249 (by have h1 := g_242.1; have h2 := (gi_c 1 1 (by decide)).1; have h3 := g_242.2; have h4 := (gi_c 1 1 (by decide)).2; omega) (by have h1 := g_242.1; have h2 := (gi_c 1 1 (by decide)).1; have h3 := g_242.2; have h4 := (gi_c 1 1 (by decide)).2; omega); rw [hc1] at h9; exact h9); have qgv3 := g_242.1; have rgv3 := g_242.2; omega) hP hD hS (lv_sub hl [1, 2, 3, 0] rfl)
        · have g_250 : gi r_246 1 1 := gi_ne_lo c_247 gr_246 (gi_c 0 0 (by decide)) (by decide)
          refine lv_aload_n hx hb (dk_at dkX1_lineUp 21 rfl) rfl (lv_at hl 0 rfl) ?_
          refine lv_iload_n hx hb (dk_at dkX1_lineUp 22 rfl) rfl (lv_at hl 3 rfl) ?_
          refine lv_aload_n hx hb (dk_at dkX1_lineUp 23 rfl) rfl (lv_at hl 1 rfl) ?_
          refine lv_iload_n hx hb (dk_at dkX1_lineUp 24 rfl) rfl (lv_at hl 3 rfl) ?_
          have hPc : va_P (dC, dI) vwCl [(am, .inr (0, [.int amonths, .int afull, .int alean, .int alines, .int ahasMoon, .int amoonStart, .int amoonStep, .int aplaceCount, .int areportCount, .int adeedCount, .ref pl, .ref re, .ref de])), (pl, .inl (kpl, 6, .inr (.inr (.inr (.inr (fun i => some (pa i))))))), (re, .inl (kre, 24, .inr (.inr (.inr (.inr (fun i => some (ra i)))))))] H := (gz_cat ((gz_ro hR hRA hS).sub [0] rfl) (gz_cat ((gz_ro hR hRA hS).sub [1] rfl) ((gz_ro hR hRA hS).sub [2] rfl)))
          have hKc := hK.sub (tys' := [(kpl, .object RX5), (kre, .object RX7)]) [3, 4] rfl
          refine va_calll (va_runS (As := [.ref am, .int v3]) (rest := [.int v3, .ref h0]) ⟨hx, hb, hml, hown, hts⟩ (sX1_turnOf l dC dI am pl re amonths afull alean alines ahasMoon amoonStart amoonStep aplaceCount areportCount adeedCount de kpl kre pa p_name p_trust ra r_place r_kind r_month r_day r_known r_struck v3 gamonths gafull galean gahasMoon gaplaceCount (gi_w g_244 (by decide)) gadeedCount gr_place gr_month gr_struck g_242) (cwS 2 hts (gz_gS mGA_454 mGA_455 mGA_22 mGA_456 goodGA) rfl rfl rfl (by decide +kernel) ⟨Nat.le_trans (Nat.le_of_ble_eq_true rfl) hRf, Nat.le_trans (Nat.le_of_ble_eq_true rfl) hRl⟩) ⟨bl_I (bl_a bl_P (bl_a bl_K (bl_a bl_nz (bl_a bl_P bl_P)))), fun U hU hW => ⟨rfl, by rw [hU]; exact hPc, va_K.moved hW.alike hKc, nzA_warm hW hz, by rw [hU]; exact gz_ro hF0 hFA0 hS, by rw [hU]; exact gz_ro hF1 hFA1 hS⟩⟩ rfl rfl hl.1 rfl (lv_room (Nat.le_of_ble_eq_true rfl)) (dk_at dkX1_lineUp 25 rfl) ⟨hRc, hRs⟩) hS (fun q _ h => h.elim) (fun q h => h.elim) (fun r_251 u t H1 locs ht hvm hw hB hz1 hk1 hS => ?_)
          have hP := gz_keep hP hk1
          generalize H1 = H at hP hS ⊢
          obtain ⟨hPc, hDc, hFc⟩ := gz_cut (wc := [(h0, .inr (1, [.ref fr, .ref ve, .ref qu, .ref tu, .ref cb, .int w0_5, .int takenBits])), (qu, .inl (kqu, 24, .inl z2)), (tu, .inl (ktu, 24, .inr (.inl z3)))]) hP hD hS hA [0, 2, 3] (by decide) rfl
          have hKc := hK.sub (tys' := [(kqu, .int), (ktu, .long)]) [1, 2] rfl
          refine va_callv (va_runV (As := [.int v3, .long r_251]) (rest := []) ⟨hx, hb, hml, hown, hts⟩ (sX1_insert l dC dI H.size h0 qu tu fr ve cb w0_5 takenBits kqu z2 ktu z3 v3 r_251 g_243 gz2 g_242) (cwV 2 hts (gz_gV mGA_468 mGA_469 mGA_470 mGA_22 mGA_471 goodGA) rfl rfl rfl (by decide +kernel) ⟨Nat.le_trans (Nat.le_of_ble_eq_true rfl) hRf, Nat.le_trans (Nat.le_of_ble_eq_true rfl) hRl⟩) ⟨bl_I (bl_a bl_sz (bl_a bl_P (bl_a bl_K (bl_a bl_c bl_nz)))), va_recv hKc hPc (ci := 1) (q0 := 0) rfl rfl, fun U hU hW => ⟨rfl, by rw [hU], by rw [hU]; exact hPc, va_K.moved hW.alike hKc, hDc.weaken (fun _ _ _ _ => trivial), nzA_warm hW hz⟩⟩ rfl rfl hl.1 rfl (lv_room (Nat.le_of_ble_eq_true rfl)) (dk_at dkX1_lineUp 26 rfl) ⟨hRc, hRs⟩) hS (fun q _ h => hFc q h) hFc (fun u t H1 locs ht hvm hw hB hz1 hk1 hS => ?_)
          obtain ⟨y_253, f_254, f_255, hB⟩ := hB
          obtain ⟨gy_253, gf_254, hpr0_r_252, hP1, hD1⟩ := hB
          rw [ht] at hP1
          obtain ⟨hP, hD⟩ := gz_back hP hD hk1 hFc hP1 hD1 [0, 2, 3] rfl rfl
          obtain ⟨hP, hD⟩ := gz_both (w := [(h0, .inr (1, [.ref fr, .ref ve, .ref qu, .ref tu, .ref cb, .int y_253, .int takenBits])), (ve, .inl (kve, 24, .inl f_245)), (qu, .inl (kqu, 24, .inl f_254)), (tu, .inl (ktu, 24, .inr (.inl f_255)))]) hP hD
          generalize H1 = H at hP hS ⊢
          obtain ⟨x_256, ex_256⟩ : ∃ y : Int32, y = v3 + 1 := ⟨_, rfl⟩
          have gx_256 : gi x_256 1 24 := gi_add ex_256 g_242 (gi_c 1 1 (by decide)) (by decide)
          refine lv_iinc (v := x_256) (lv' := [(3, .int x_256), (0, .ref h0), (1, .ref am), (2, .int p2)]) hx hb (dk_at dkX1_lineUp 27 rfl) hl (k := 3) rfl (by rw [ex_256]; rfl) (by decide) rfl (fun ls hl => ?_)
          refine lv_goto (tgt := 7) hx hb (dk_at dkX1_lineUp 28 rfl) (by decide) ?_
          exact ih x_256 y_253 f_245 f_254 f_255 _ _ _ (gi_w gx_256 (by decide)) gy_253 gf_254 (by have qgx_256 := gx_256.1; have rgx_256 := gx_256.2; have igx_256 : x_256.toInt = v3.toInt + 1 := (by have hc1 : (1 : Int32).toInt = 1 := (by decide); have h9 := gi_addI ex_256 (by have h1 := g_242.1; have h2 := (gi_c 1 1 (by decide)).1; have h3 := g_242.2; have h4 := (gi_c 1 1 (by decide)).2; omega) (by have h1 := g_242.1; have h2 := (gi_c 1 1 (by decide)).1; have h3 := g_242.2; have h4 := (gi_c 1 1 (by decide)).2; omega); rw [hc1] at h9; exact h9); have qgv3 := g_242.1; have rgv3 := g_242.2; have qgy_253 := gy_253.1; have rgy_253 := gy_253.2; have y1 := (Int32.lt_iff_toInt_lt.mp (Int32.not_le.mp c_241)); omega) (by have av3 := gv3.1; have bv3 := gv3.2; have qgx_256 := gx_256.1; have rgx_256 := gx_256.2; have igx_256 : x_256.toInt = v3.toInt + 1 := (by have hc1 : (1 : Int32).toInt = 1 := (by decide); have h9 := gi_addI ex_256 (by have h1 := g_242.1; have h2 := (gi_c 1 1 (by decide)).1; have h3 := g_242.2; have h4 := (gi_c 1 1 (by decide)).2; omega) (by have h1 := g_242.1; have h2 := (gi_c 1 1 (by decide)).1; have h3 := g_242.2; have h4 := (gi_c 1 1 (by decide)).2; omega); rw [hc1] at h9; exact h9); have qgv3 := g_242.1; have rgv3 := g_242.2; omega) hP hD hS (lv_sub hl [1, 2, 3, 0] rfl)
abbrev pb_sX1_lineUp (dC : Nat → ClassId) (dI : Nat → Nat → Nat) (A9 : Nat → Prop) (h0 : Nat) (ve : Nat) (qu : Nat) (tu : Nat) (am : Nat) (pl : Nat) (re : Nat) (fr : Nat) (cb : Nat) (queueLength : Int32) (takenBits : Int32) (kve : ClassId) (fve : Nat → Int32) (kqu : ClassId) (fqu : Nat → Int32) (ktu : ClassId) (ftu : Nat → Int64) (amonths : Int32) (afull : Int32) (alean : Int32) (alines : Int32) (ahasMoon : Int32) (amoonStart : Int32) (amoonStep : Int32) (aplaceCount : Int32) (areportCount : Int32) (adeedCount : Int32) (de : Nat) (kpl : ClassId) (kre : ClassId) (pa : Nat → Nat) (p_name : Nat → Int32) (p_trust : Nat → Int32) (ra : Nat → Nat) (r_place : Nat → Int32) (r_kind : Nat → Int32) (r_month : Nat → Int32) (r_day : Nat → Int32) (r_known : Nat → Int32) (r_struck : Nat → Int32) (p2 : Int32) (w0_5 : Int32) (z1 : Nat → Int32) (z2 : Nat → Int32) (z3 : Nat → Int64) (t : State) : Prop := gi w0_5 0 24 ∧ ga z2 24 0 23 ∧ va_P (dC, dI) vwCl [(h0, .inr (1, [.ref fr, .ref ve, .ref qu, .ref tu, .ref cb, .int w0_5, .int takenBits])), (ve, .inl (kve, 24, .inl z1)), (qu, .inl (kqu, 24, .inl z2)), (tu, .inl (ktu, 24, .inr (.inl z3)))] t.heap ∧ va_D A9 [(h0, .inr (1, [.ref fr, .ref ve, .ref qu, .ref tu, .ref cb, .int w0_5, .int takenBits])), (ve, .inl (kve, 24, .inl z1)), (qu, .inl (kqu, 24, .inl z2)), (tu, .inl (ktu, 24, .inr (.inl z3)))]
set_option maxHeartbeats 4000000 in
set_option maxRecDepth 100000 in
theorem sX1_lineUp (l : Launch) (dC : Nat → ClassId) (dI : Nat → Nat → Nat) (sz : Nat) (h0 : Nat) (ve : Nat) (qu : Nat) (tu : Nat) (am : Nat) (pl : Nat) (re : Nat) (fr : Nat) (cb : Nat) (queueLength : Int32) (takenBits : Int32) (kve : ClassId) (fve : Nat → Int32) (kqu : ClassId) (fqu : Nat → Int32) (ktu : ClassId) (ftu : Nat → Int64) (amonths : Int32) (afull : Int32) (alean : Int32) (alines : Int32) (ahasMoon : Int32) (amoonStart : Int32) (amoonStep : Int32) (aplaceCount : Int32) (areportCount : Int32) (adeedCount : Int32) (de : Nat) (kpl : ClassId) (kre : ClassId) (pa : Nat → Nat) (p_name : Nat → Int32) (p_trust : Nat → Int32) (ra : Nat → Nat) (r_place : Nat → Int32) (r_kind : Nat → Int32) (r_month : Nat → Int32) (r_day : Nat → Int32) (r_known : Nat → Int32) (r_struck : Nat → Int32) (p2 : Int32) (gqueueLength : gi queueLength 0 24) (gfqu : ga fqu 24 0 23) (gamonths : gi amonths 0 24) (gafull : gi afull 0 5) (galean : gi alean 0 5) (gahasMoon : gi ahasMoon 0 1) (gaplaceCount : gi aplaceCount 0 6) (gareportCount : gi areportCount 0 24) (gadeedCount : gi adeedCount 0 8) (gr_place : ga r_place 24 0 5) (gr_month : ga r_month 24 0 23) (gr_struck : ga r_struck 24 0 1) : Met l yX1_lineUp (.code yX1_lineUp cX1_lineUp 4 none :: wsGA) ({ frames := 1, cells := 0, slots := 0, locals := 25 }) (va_Pc [.ref h0, .ref am, .int p2] (fun U => U.heap.size = sz ∧ va_P (dC, dI) vwCl [(h0, .inr (1, [.ref fr, .ref ve, .ref qu, .ref tu, .ref cb, .int queueLength, .int takenBits])), (ve, .inl (kve, 24, .inl fve)), (qu, .inl (kqu, 24, .inl fqu)), (tu, .inl (ktu, 24, .inr (.inl ftu)))] U.heap ∧ va_K (dC, dI) vwCl [(kve, .int), (kqu, .int), (ktu, .long), (kpl, .object RX5), (kre, .object RX7)] U ∧ va_D (fun _ => True) [(h0, .inr (1, [.ref fr, .ref ve, .ref qu, .ref tu, .ref cb, .int queueLength, .int takenBits])), (ve, .inl (kve, 24, .inl fve)), (qu, .inl (kqu, 24, .inl fqu)), (tu, .inl (ktu, 24, .inr (.inl ftu)))] ∧ nzA U ∧ va_P (dC, dI) vwCl [(am, .inr (0, [.int amonths, .int afull, .int alean, .int alines, .int ahasMoon, .int amoonStart, .int amoonStep, .int aplaceCount, .int areportCount, .int adeedCount, .ref pl, .ref re, .ref de])), (pl, .inl (kpl, 6, .inr (.inr (.inr (.inr (fun i => some (pa i))))))), (re, .inl (kre, 24, .inr (.inr (.inr (.inr (fun i => some (ra i)))))))] U.heap ∧ gz_ap (va_A [(h0, .inr (1, [.ref fr, .ref ve, .ref qu, .ref tu, .ref cb, .int queueLength, .int takenBits])), (ve, .inl (kve, 24, .inl fve)), (qu, .inl (kqu, 24, .inl fqu)), (tu, .inl (ktu, 24, .inr (.inl ftu)))] sz) [(am, .inr (0, [.int amonths, .int afull, .int alean, .int alines, .int ahasMoon, .int amoonStart, .int amoonStep, .int aplaceCount, .int areportCount, .int adeedCount, .ref pl, .ref re, .ref de])), (pl, .inl (kpl, 6, .inr (.inr (.inr (.inr (fun i => some (pa i))))))), (re, .inl (kre, 24, .inr (.inr (.inr (.inr (fun i => some (ra i)))))))] ∧ va_P (dC, dI) vwCl (gz_fam 6 pa 5 (fun i => [.int (p_name i), .int (p_trust i)])) U.heap ∧ gz_ap (va_A [(h0, .inr (1, [.ref fr, .ref ve, .ref qu, .ref tu, .ref cb, .int queueLength, .int takenBits])), (ve, .inl (kve, 24, .inl fve)), (qu, .inl (kqu, 24, .inl fqu)), (tu, .inl (ktu, 24, .inr (.inl ftu)))] sz) (gz_fam 6 pa 5 (fun i => [.int (p_name i), .int (p_trust i)])) ∧ va_P (dC, dI) vwCl (gz_fam 24 ra 7 (fun i => [.int (r_place i), .int (r_kind i), .int (r_month i), .int (r_day i), .int (r_known i), .int (r_struck i)])) U.heap ∧ gz_ap (va_A [(h0, .inr (1, [.ref fr, .ref ve, .ref qu, .ref tu, .ref cb, .int queueLength, .int takenBits])), (ve, .inl (kve, 24, .inl fve)), (qu, .inl (kqu, 24, .inl fqu)), (tu, .inl (ktu, 24, .inr (.inl ftu)))] sz) (gz_fam 24 ra 7 (fun i => [.int (r_place i), .int (r_kind i), .int (r_month i), .int (r_day i), .int (r_known i), .int (r_struck i)])))) (va_Qv (fun (u : Unit) => True) (fun _ t => ∃ (w0_5 : Int32) (z1 : Nat → Int32) (z2 : Nat → Int32) (z3 : Nat → Int64), pb_sX1_lineUp dC dI (va_A [(h0, .inr (1, [.ref fr, .ref ve, .ref qu, .ref tu, .ref cb, .int queueLength, .int takenBits])), (ve, .inl (kve, 24, .inl fve)), (qu, .inl (kqu, 24, .inl fqu)), (tu, .inl (ktu, 24, .inr (.inl ftu)))] sz) h0 ve qu tu am pl re fr cb queueLength takenBits kve fve kqu fqu ktu ftu amonths afull alean alines ahasMoon amoonStart amoonStep aplaceCount areportCount adeedCount de kpl kre pa p_name p_trust ra r_place r_kind r_month r_day r_known r_struck p2 w0_5 z1 z2 z3 t) (va_A [(h0, .inr (1, [.ref fr, .ref ve, .ref qu, .ref tu, .ref cb, .int queueLength, .int takenBits])), (ve, .inl (kve, 24, .inl fve)), (qu, .inl (kqu, 24, .inl fqu)), (tu, .inl (ktu, 24, .inr (.inl ftu)))] sz)) 0 0 (va_A [(h0, .inr (1, [.ref fr, .ref ve, .ref qu, .ref tu, .ref cb, .int queueLength, .int takenBits])), (ve, .inl (kve, 24, .inl fve)), (qu, .inl (kqu, 24, .inl fqu)), (tu, .inl (ktu, 24, .inr (.inl ftu)))] sz) := by
  refine Met.ofW (cc := cX1_lineUp) (maxL := 4) (ret := none) (by decide) rfl ?_
  intro p e s m args below meth c s₁ B hml hv
  obtain ⟨rfl, hsz, hP, hK, hD0, hz, hR, hRA, hF0, hFA0, hF1, hFA1⟩ := hv
  have hx := B.exec
  have hb := B.bytes
  have hr := B.returns
  have hts := atoms_spec (ws := (.code yX1_lineUp cX1_lineUp 4 none :: wsGA)) B.pre
  have hown : s.vm.findClass RX1 = some m.cls := findClass_of_methodNamed B.named
  have hlocks := B.notSynchronized
  subst hsz
  have hD := hD0.self (sz := s.heap.size)
  generalize hAe : va_A [(h0, .inr (1, [.ref fr, .ref ve, .ref qu, .ref tu, .ref cb, .int queueLength, .int takenBits])), (ve, .inl (kve, 24, .inl fve)), (qu, .inl (kqu, 24, .inl fqu)), (tu, .inl (ktu, 24, .inr (.inl ftu)))] s.heap.size = A at hD hRA hFA0 hFA1 ⊢
  have hA : ∀ q : Nat, s.heap.size ≤ q → A q := fun q h => by rw [← hAe]; exact Or.inr h
  have hS : va_S A s.heap s.heap [] := va_S.rf
  have hl := lv_entry ([.ref h0, .ref am, .int p2]) (n := 4) (Nat.le_of_ble_eq_true rfl)
  rw [lg_entry_eq]
  generalize (lg_sl ([.ref h0, .ref am, .int p2]) ++ List.replicate (4 - (lg_sl ([.ref h0, .ref am, .int p2])).length) Slot.unset).toArray = ls at hl ⊢
  have hl : lv_has ls 4 [(0, .ref h0), (1, .ref am), (2, .int p2)] := hl
  refine lv_aload_n hx hb (dk_at dkX1_lineUp 0 rfl) rfl (lv_at hl 0 rfl) ?_
  refine lv_iconst (v := 0) hx hb (dk_at dkX1_lineUp 1 rfl) (by decide) ?_
  refine va_put (D := (dC, dI)) (ci := 1) (v := .int 0) (ty := .int) (C := RX1) (T := TX1) (N := 7) hx hb hts (fun w h => List.mem_cons_of_mem _ (jnGA_X1 w h)) tyX1 tyX1_ok nmX1 hown hK hP hD hS 0 rfl rfl 5 (by decide) (hts _ (List.mem_cons_of_mem _ mGA_106)) (fun _ h9 => h9) rfl (by decide +kernel) rfl rfl (Nat.le_of_ble_eq_true rfl) (dk_at dkX1_lineUp 2 rfl) (fun H locs hP hD hS => ?_)
  obtain ⟨hP, hD⟩ := gz_both (w := [(h0, .inr (1, [.ref fr, .ref ve, .ref qu, .ref tu, .ref cb, .int 0, .int takenBits])), (ve, .inl (kve, 24, .inl fve)), (qu, .inl (kqu, 24, .inl fqu)), (tu, .inl (ktu, 24, .inr (.inl ftu)))]) hP hD
  refine lv_iconst (v := 0) hx hb (dk_at dkX1_lineUp 3 rfl) (by decide) ?_
  refine lv_istore_n (lv' := [(3, .int 0), (0, .ref h0), (1, .ref am), (2, .int p2)]) hx hb (dk_at dkX1_lineUp 4 rfl) rfl hl (by decide) rfl (fun ls hl => ?_)
  refine (lp_sX1_lineUp h0 ve qu tu am pl re fr cb queueLength takenBits kve fve kqu fqu ktu ftu amonths afull alean alines ahasMoon amoonStart amoonStep aplaceCount areportCount adeedCount de kpl kre pa p_name p_trust ra r_place r_kind r_month r_day r_known r_struck p2 gqueueLength gfqu gamonths gafull galean gahasMoon gaplaceCount gareportCount gadeedCount gr_place gr_month gr_struck hx hb hml hown hts hK hz hR hRA hF0 hFA0 hF1 hFA1 hA (Nat.le_of_ble_eq_true rfl) (Nat.le_of_ble_eq_true rfl) (Nat.zero_le _) (Nat.zero_le _) (fun w0_5 z1 z2 z3 H locs ls gw0_5 gz2 hP hD hS hl => ?_) 62) 0 0 fve fqu ftu _ _ _ (gi_w (gi_c 0 0 (by decide)) (by decide)) (gi_w (gi_c 0 0 (by decide)) (by decide)) gfqu (by have k0 : (0 : Int32).toInt = 0 := (by decide); have k0 : (0 : Int32).toInt = 0 := (by decide); omega) (by have k0 : (0 : Int32).toInt = 0 := (by decide); omega) hP hD hS (lv_sub hl [1, 2, 3, 0] rfl)
  · skip
    exact W.vret hx hb hr (fun t ht hW => ⟨⟨(), rfl, trivial, w0_5, z1, z2, z3, gw0_5, gz2, by rw [ht]; exact hP, hD⟩, hS.F ht⟩) hS.2.2 (dk_at dkX1_lineUp 29 rfl)
noncomputable def lsX1_verdictOn : List (Nat × Instr × Nat) := [(0, .aload_n 2, 1), (1, .getfield 111, 3), (4, .ifCond .ne 14, 3), (7, .aload_n 1, 1), (8, .getfield 114, 3), (11, .ifCond .eq 7, 3), (14, .iconst 1, 1), (15, .goto 4, 3), (18, .iconst 0, 1), (19, .istore_n 3, 1), (20, .iload_n 3, 1), (21, .ifCond .eq 20, 3), (24, .aload_n 2, 1), (25, .getfield 106, 3), (28, .aload_n 1, 1), (29, .aload_n 2, 1), (30, .getfield 101, 3), (33, .invokevirtual 118, 3), (36, .if_icmp .ge 5, 3), (39, .iconst 1, 1), (40, .ireturn, 1), (41, .aload_n 0, 1), (42, .getfield 12, 3), (45, .getfield 122, 3), (48, .aload_n 2, 1), (49, .getfield 101, 3), (52, .iaload, 1), (53, .istore 4, 2), (55, .aload_n 0, 1), (56, .getfield 12, 3), (59, .aload_n 2, 1), (60, .invokevirtual 125, 3), (63, .aload_n 0, 1), (64, .getfield 12, 3), (67, .getfield 122, 3), (70, .aload_n 2, 1), (71, .getfield 101, 3), (74, .iaload, 1), (75, .iload 4, 2), (77, .if_icmp .eq 13, 3), (80, .aload_n 0, 1), (81, .getfield 12, 3), (84, .invokevirtual 57, 3), (87, .ifCond .eq 5, 3), (90, .iconst 0, 1), (91, .ireturn, 1), (92, .aload_n 0, 1), (93, .getfield 12, 3), (96, .getfield 122, 3), (99, .aload_n 2, 1), (100, .getfield 101, 3), (103, .iload 4, 2), (105, .iastore, 1), (106, .iconst 2, 1), (107, .ireturn, 1)]
theorem dkX1_verdictOn : dkAll cX1_verdictOn lsX1_verdictOn = true := by decide +kernel
abbrev pb_sX1_verdictOn (dC : Nat → ClassId) (dI : Nat → Nat → Nat) (A9 : Nat → Prop) (h0 : Nat) (fr : Nat) (fal : Nat) (fon : Nat) (am : Nat) (rp : Nat) (ve : Nat) (qu : Nat) (tu : Nat) (cb : Nat) (queueLength : Int32) (takenBits : Int32) (fmonths : Int32) (ffull : Int32) (flean : Int32) (kfal : ClassId) (ffal : Nat → Int32) (kfon : ClassId) (ffon : Nat → Int32) (amonths : Int32) (afull : Int32) (alean : Int32) (alines : Int32) (ahasMoon : Int32) (amoonStart : Int32) (amoonStep : Int32) (aplaceCount : Int32) (areportCount : Int32) (adeedCount : Int32) (pl : Nat) (re : Nat) (de : Nat) (qplace : Int32) (qkind : Int32) (qmonth : Int32) (qday : Int32) (qknown : Int32) (qstruck : Int32) (z2 : Nat → Int32) (z3 : Nat → Int32) (t : State) : Prop := va_P (dC, dI) vwCl [(h0, .inr (1, [.ref fr, .ref ve, .ref qu, .ref tu, .ref cb, .int queueLength, .int takenBits])), (fr, .inr (3, [.int fmonths, .int ffull, .int flean, .ref fal, .ref fon])), (fal, .inl (kfal, 25, .inl z2)), (fon, .inl (kfon, 275, .inl z3))] t.heap ∧ va_D A9 [(h0, .inr (1, [.ref fr, .ref ve, .ref qu, .ref tu, .ref cb, .int queueLength, .int takenBits])), (fr, .inr (3, [.int fmonths, .int ffull, .int flean, .ref fal, .ref fon])), (fal, .inl (kfal, 25, .inl z2)), (fon, .inl (kfon, 275, .inl z3))]
set_option maxHeartbeats 4000000 in
set_option maxRecDepth 100000 in
theorem sX1_verdictOn (l : Launch) (dC : Nat → ClassId) (dI : Nat → Nat → Nat) (sz : Nat) (h0 : Nat) (fr : Nat) (fal : Nat) (fon : Nat) (am : Nat) (rp : Nat) (ve : Nat) (qu : Nat) (tu : Nat) (cb : Nat) (queueLength : Int32) (takenBits : Int32) (fmonths : Int32) (ffull : Int32) (flean : Int32) (kfal : ClassId) (ffal : Nat → Int32) (kfon : ClassId) (ffon : Nat → Int32) (amonths : Int32) (afull : Int32) (alean : Int32) (alines : Int32) (ahasMoon : Int32) (amoonStart : Int32) (amoonStep : Int32) (aplaceCount : Int32) (areportCount : Int32) (adeedCount : Int32) (pl : Nat) (re : Nat) (de : Nat) (qplace : Int32) (qkind : Int32) (qmonth : Int32) (qday : Int32) (qknown : Int32) (qstruck : Int32) (gqueueLength : gi queueLength 0 24) (gfmonths : gi fmonths 0 24) (gffull : gi ffull 0 5) (gflean : gi flean 0 5) (gamonths : gi amonths 0 24) (gafull : gi afull 0 5) (galean : gi alean 0 5) (gahasMoon : gi ahasMoon 0 1) (gaplaceCount : gi aplaceCount 0 6) (gareportCount : gi areportCount 0 24) (gadeedCount : gi adeedCount 0 8) (gqplace : gi qplace 0 5) (gqmonth : gi qmonth 0 23) (gqstruck : gi qstruck 0 1) : Met l yX1_verdictOn (.code yX1_verdictOn cX1_verdictOn 5 (some .int) :: wsGA) ({ frames := 2, cells := 0, slots := 0, locals := 47 }) (va_Pc [.ref h0, .ref am, .ref rp] (fun U => U.heap.size = sz ∧ va_P (dC, dI) vwCl [(h0, .inr (1, [.ref fr, .ref ve, .ref qu, .ref tu, .ref cb, .int queueLength, .int takenBits])), (fr, .inr (3, [.int fmonths, .int ffull, .int flean, .ref fal, .ref fon])), (fal, .inl (kfal, 25, .inl ffal)), (fon, .inl (kfon, 275, .inl ffon))] U.heap ∧ va_K (dC, dI) vwCl [(kfal, .int), (kfon, .int)] U ∧ va_D (fun _ => True) [(h0, .inr (1, [.ref fr, .ref ve, .ref qu, .ref tu, .ref cb, .int queueLength, .int takenBits])), (fr, .inr (3, [.int fmonths, .int ffull, .int flean, .ref fal, .ref fon])), (fal, .inl (kfal, 25, .inl ffal)), (fon, .inl (kfon, 275, .inl ffon))] ∧ nzA U ∧ va_P (dC, dI) vwCl [(am, .inr (0, [.int amonths, .int afull, .int alean, .int alines, .int ahasMoon, .int amoonStart, .int amoonStep, .int aplaceCount, .int areportCount, .int adeedCount, .ref pl, .ref re, .ref de])), (rp, .inr (7, [.int qplace, .int qkind, .int qmonth, .int qday, .int qknown, .int qstruck]))] U.heap ∧ gz_ap (va_A [(h0, .inr (1, [.ref fr, .ref ve, .ref qu, .ref tu, .ref cb, .int queueLength, .int takenBits])), (fr, .inr (3, [.int fmonths, .int ffull, .int flean, .ref fal, .ref fon])), (fal, .inl (kfal, 25, .inl ffal)), (fon, .inl (kfon, 275, .inl ffon))] sz) [(am, .inr (0, [.int amonths, .int afull, .int alean, .int alines, .int ahasMoon, .int amoonStart, .int amoonStep, .int aplaceCount, .int areportCount, .int adeedCount, .ref pl, .ref re, .ref de])), (rp, .inr (7, [.int qplace, .int qkind, .int qmonth, .int qday, .int qknown, .int qstruck]))])) (va_Qi (fun (r : Int32) (u : Unit) => gi r 0 2) (fun _ t => ∃ (z2 : Nat → Int32) (z3 : Nat → Int32), pb_sX1_verdictOn dC dI (va_A [(h0, .inr (1, [.ref fr, .ref ve, .ref qu, .ref tu, .ref cb, .int queueLength, .int takenBits])), (fr, .inr (3, [.int fmonths, .int ffull, .int flean, .ref fal, .ref fon])), (fal, .inl (kfal, 25, .inl ffal)), (fon, .inl (kfon, 275, .inl ffon))] sz) h0 fr fal fon am rp ve qu tu cb queueLength takenBits fmonths ffull flean kfal ffal kfon ffon amonths afull alean alines ahasMoon amoonStart amoonStep aplaceCount areportCount adeedCount pl re de qplace qkind qmonth qday qknown qstruck z2 z3 t) (va_A [(h0, .inr (1, [.ref fr, .ref ve, .ref qu, .ref tu, .ref cb, .int queueLength, .int takenBits])), (fr, .inr (3, [.int fmonths, .int ffull, .int flean, .ref fal, .ref fon])), (fal, .inl (kfal, 25, .inl ffal)), (fon, .inl (kfon, 275, .inl ffon))] sz)) 0 0 (va_A [(h0, .inr (1, [.ref fr, .ref ve, .ref qu, .ref tu, .ref cb, .int queueLength, .int takenBits])), (fr, .inr (3, [.int fmonths, .int ffull, .int flean, .ref fal, .ref fon])), (fal, .inl (kfal, 25, .inl ffal)), (fon, .inl (kfon, 275, .inl ffon))] sz) := by
  refine Met.ofW (cc := cX1_verdictOn) (maxL := 5) (ret := (some .int)) (by decide) rfl ?_
  intro p e s m args below meth c s₁ B hml hv
  obtain ⟨rfl, hsz, hP, hK, hD0, hz, hR, hRA⟩ := hv
  have hx := B.exec
  have hb := B.bytes
  have hr := B.returns
  have hts := atoms_spec (ws := (.code yX1_verdictOn cX1_verdictOn 5 (some .int) :: wsGA)) B.pre
  have hown : s.vm.findClass RX1 = some m.cls := findClass_of_methodNamed B.named
  have hlocks := B.notSynchronized
  subst hsz
  have hD := hD0.self (sz := s.heap.size)
  generalize hAe : va_A [(h0, .inr (1, [.ref fr, .ref ve, .ref qu, .ref tu, .ref cb, .int queueLength, .int takenBits])), (fr, .inr (3, [.int fmonths, .int ffull, .int flean, .ref fal, .ref fon])), (fal, .inl (kfal, 25, .inl ffal)), (fon, .inl (kfon, 275, .inl ffon))] s.heap.size = A at hD hRA ⊢
  have hA : ∀ q : Nat, s.heap.size ≤ q → A q := fun q h => by rw [← hAe]; exact Or.inr h
  have hS : va_S A s.heap s.heap [] := va_S.rf
  have hl := lv_entry ([.ref h0, .ref am, .ref rp]) (n := 5) (Nat.le_of_ble_eq_true rfl)
  rw [lg_entry_eq]
  generalize (lg_sl ([.ref h0, .ref am, .ref rp]) ++ List.replicate (5 - (lg_sl ([.ref h0, .ref am, .ref rp])).length) Slot.unset).toArray = ls at hl ⊢
  have hl : lv_has ls 5 [(0, .ref h0), (1, .ref am), (2, .ref rp)] := hl
  refine lv_aload_n hx hb (dk_at dkX1_verdictOn 0 rfl) rfl (lv_at hl 2 rfl) ?_
  refine va_get (D := (dC, dI)) (ci := 7) (v := .int qkind) (C := RX7) (T := TX7) (N := 6) hx hb hts (fun w h => List.mem_cons_of_mem _ (jnGA_X7 w h)) hown hK (gz_ro hR hRA hS) 1 rfl rfl 1 (by decide) (hts _ (List.mem_cons_of_mem _ mGA_467)) (fun _ h9 => h9) rfl (dk_at dkX1_verdictOn 1 rfl) ?_
  refine lv_if_ne (tgt := 18) hx hb (dk_at dkX1_verdictOn 2 rfl) (by decide) (fun c_91 => ?_) (fun c_91 => ?_)
  · refine lv_iconst (v := 0) hx hb (dk_at dkX1_verdictOn 8 rfl) (by decide) ?_
    refine lv_istore_n (lv' := [(3, .int 0), (0, .ref h0), (1, .ref am), (2, .ref rp)]) hx hb (dk_at dkX1_verdictOn 9 rfl) rfl hl (by decide) rfl (fun ls hl => ?_)
    refine lv_iload_n hx hb (dk_at dkX1_verdictOn 10 rfl) rfl (lv_at hl 0 rfl) ?_
    refine lv_if_eq (tgt := 41) hx hb (dk_at dkX1_verdictOn 11 rfl) (by decide) (fun c_92 => ?_) (fun c_92 => absurd (gi_is_eq (gi_c 0 0 (by decide)) (gi_c 0 0 (by decide))) c_92)
    refine lv_aload_n hx hb (dk_at dkX1_verdictOn 21 rfl) rfl (lv_at hl 1 rfl) ?_
    refine va_get (D := (dC, dI)) (ci := 1) (v := .ref fr) (C := RX1) (T := TX1) (N := 7) hx hb hts (fun w h => List.mem_cons_of_mem _ (jnGA_X1 w h)) hown hK hP 0 rfl rfl 0 (by decide) (hts _ (List.mem_cons_of_mem _ mGA_100)) (fun _ h9 => h9) rfl (dk_at dkX1_verdictOn 22 rfl) ?_
    refine va_get (D := (dC, dI)) (ci := 3) (v := .ref fal) (C := RX3) (T := TX3) (N := 5) hx hb hts (fun w h => List.mem_cons_of_mem _ (jnGA_X3 w h)) hown hK hP 1 rfl rfl 3 (by decide) (hts _ (List.mem_cons_of_mem _ mGA_487)) (fun _ h9 => h9) rfl (dk_at dkX1_verdictOn 23 rfl) ?_
    refine lv_aload_n hx hb (dk_at dkX1_verdictOn 24 rfl) rfl (lv_at hl 3 rfl) ?_
    refine va_get (D := (dC, dI)) (ci := 7) (v := .int qmonth) (C := RX7) (T := TX7) (N := 6) hx hb hts (fun w h => List.mem_cons_of_mem _ (jnGA_X7 w h)) hown hK (gz_ro hR hRA hS) 1 rfl rfl 2 (by decide) (hts _ (List.mem_cons_of_mem _ mGA_463)) (fun _ h9 => h9) rfl (dk_at dkX1_verdictOn 25 rfl) ?_
    refine va_iald hx hb hK hP 2 0 rfl rfl (gi_in gqmonth (by decide)) (dk_at dkX1_verdictOn 26 rfl) ?_
    refine lv_topi (fun x_93 ex_93 => ?_)
    refine lv_istore (lv' := [(4, .int x_93), (3, .int 0), (0, .ref h0), (1, .ref am), (2, .ref rp)]) hx hb (dk_at dkX1_verdictOn 27 rfl) hl (by decide) rfl (fun ls hl => ?_)
    refine lv_aload_n hx hb (dk_at dkX1_verdictOn 28 rfl) rfl (lv_at hl 2 rfl) ?_
    refine va_get (D := (dC, dI)) (ci := 1) (v := .ref fr) (C := RX1) (T := TX1) (N := 7) hx hb hts (fun w h => List.mem_cons_of_mem _ (jnGA_X1 w h)) hown hK hP 0 rfl rfl 0 (by decide) (hts _ (List.mem_cons_of_mem _ mGA_100)) (fun _ h9 => h9) rfl (dk_at dkX1_verdictOn 29 rfl) ?_
    refine lv_aload_n hx hb (dk_at dkX1_verdictOn 30 rfl) rfl (lv_at hl 4 rfl) ?_
    obtain ⟨hPc, hDc, hFc⟩ := gz_cut (wc := [(fr, .inr (3, [.int fmonths, .int ffull, .int flean, .ref fal, .ref fon])), (fal, .inl (kfal, 25, .inl ffal))]) hP hD hS hA [1, 2] (by decide) rfl
    have hKc := hK.sub (tys' := [(kfal, .int)]) [0] rfl
    have hRc_ : va_P (dC, dI) vwCl [(rp, .inr (7, [.int qplace, .int qkind, .int qmonth, .int qday, .int qknown, .int qstruck]))] s.heap := ((gz_ro hR hRA hS).sub [1] rfl)
    have hRa_ : gz_ap (va_A [(fr, .inr (3, [.int fmonths, .int ffull, .int flean, .ref fal, .ref fon])), (fal, .inl (kfal, 25, .inl ffal))] s.heap.size) [(rp, .inr (7, [.int qplace, .int qkind, .int qmonth, .int qday, .int qknown, .int qstruck]))] := (gz_apR (gz_ap1 hRA 1 rfl) hFc)
    refine va_callv (va_runV (As := [.ref rp]) (rest := []) ⟨hx, hb, hml, hown, hts⟩ (sX3_narrow l dC dI s.heap.size fr fal rp fmonths ffull flean fon kfal ffal qplace qkind qmonth qday qknown qstruck gfmonths gffull gflean gqplace gqmonth gqstruck) (cwV 1 hts (gz_gV mGA_489 mGA_490 mGA_491 mGA_18 mGA_492 goodGA) rfl rfl rfl (by decide +kernel) ⟨Nat.le_of_ble_eq_true rfl, Nat.le_of_ble_eq_true rfl⟩) ⟨bl_I (bl_a bl_sz (bl_a bl_P (bl_a bl_K (bl_a bl_c (bl_a bl_nz (bl_a bl_P bl_c)))))), va_recv hKc hPc (ci := 3) (q0 := 0) rfl rfl, fun U hU hW => ⟨rfl, by rw [hU], by rw [hU]; exact hPc, va_K.moved hW.alike hKc, hDc.weaken (fun _ _ _ _ => trivial), nzA_warm hW hz, by rw [hU]; exact hRc_, hRa_⟩⟩ rfl rfl hl.1 rfl (lv_room (Nat.le_of_ble_eq_true rfl)) (dk_at dkX1_verdictOn 31 rfl) ⟨Nat.zero_le _, Nat.zero_le _⟩) hS (fun q _ h => hFc q h) hFc (fun u t H1 locs ht hvm hw hB hz1 hk1 hS => ?_)
    obtain ⟨f_95, hB⟩ := hB
    obtain ⟨hP1, hD1⟩ := hB
    rw [ht] at hP1
    obtain ⟨hP, hD⟩ := gz_back hP hD hk1 hFc hP1 hD1 [1, 2] rfl rfl
    obtain ⟨hP, hD⟩ := gz_both (w := [(h0, .inr (1, [.ref fr, .ref ve, .ref qu, .ref tu, .ref cb, .int queueLength, .int takenBits])), (fr, .inr (3, [.int fmonths, .int ffull, .int flean, .ref fal, .ref fon])), (fal, .inl (kfal, 25, .inl f_95)), (fon, .inl (kfon, 275, .inl ffon))]) hP hD
    generalize H1 = H at hP hS ⊢
    refine lv_aload_n hx hb (dk_at dkX1_verdictOn 32 rfl) rfl (lv_at hl 2 rfl) ?_
    refine va_get (D := (dC, dI)) (ci := 1) (v := .ref fr) (C := RX1) (T := TX1) (N := 7) hx hb hts (fun w h => List.mem_cons_of_mem _ (jnGA_X1 w h)) hown hK hP 0 rfl rfl 0 (by decide) (hts _ (List.mem_cons_of_mem _ mGA_100)) (fun _ h9 => h9) rfl (dk_at dkX1_verdictOn 33 rfl) ?_
    refine va_get (D := (dC, dI)) (ci := 3) (v := .ref fal) (C := RX3) (T := TX3) (N := 5) hx hb hts (fun w h => List.mem_cons_of_mem _ (jnGA_X3 w h)) hown hK hP 1 rfl rfl 3 (by decide) (hts _ (List.mem_cons_of_mem _ mGA_487)) (fun _ h9 => h9) rfl (dk_at dkX1_verdictOn 34 rfl) ?_
    refine lv_aload_n hx hb (dk_at dkX1_verdictOn 35 rfl) rfl (lv_at hl 4 rfl) ?_
    refine va_get (D := (dC, dI)) (ci := 7) (v := .int qmonth) (C := RX7) (T := TX7) (N := 6) hx hb hts (fun w h => List.mem_cons_of_mem _ (jnGA_X7 w h)) hown hK (gz_ro hR hRA hS) 1 rfl rfl 2 (by decide) (hts _ (List.mem_cons_of_mem _ mGA_463)) (fun _ h9 => h9) rfl (dk_at dkX1_verdictOn 36 rfl) ?_
    refine va_iald hx hb hK hP 2 0 rfl rfl (gi_in gqmonth (by decide)) (dk_at dkX1_verdictOn 37 rfl) ?_
    refine lv_topi (fun x_96 ex_96 => ?_)
    refine lv_iload hx hb (dk_at dkX1_verdictOn 38 rfl) (lv_at hl 0 rfl) ?_
    refine lv_icmp_eq (tgt := 90) hx hb (dk_at dkX1_verdictOn 39 rfl) (by decide) (fun c_97 => ?_) (fun c_97 => ?_)
    · refine lv_iconst (v := 0) hx hb (dk_at dkX1_verdictOn 44 rfl) (by decide) ?_
      exact W.iret (v := 0) hx hb hr (fun t ht hW => ⟨⟨0, (), rfl, (gi_w (gi_c 0 0 (by decide)) (by decide)), f_95, ffon, by rw [ht]; exact hP, hD⟩, hS.F ht⟩) hS.2.2 (dk_at dkX1_verdictOn 45 rfl)
    · refine lv_aload_n hx hb (dk_at dkX1_verdictOn 40 rfl) rfl (lv_at hl 2 rfl) ?_
      refine va_get (D := (dC, dI)) (ci := 1) (v := .ref fr) (C := RX1) (T := TX1) (N := 7) hx hb hts (fun w h => List.mem_cons_of_mem _ (jnGA_X1 w h)) hown hK hP 0 rfl rfl 0 (by decide) (hts _ (List.mem_cons_of_mem _ mGA_100)) (fun _ h9 => h9) rfl (dk_at dkX1_verdictOn 41 rfl) ?_
      obtain ⟨hPc, hDc, hFc⟩ := gz_cut (wc := [(fr, .inr (3, [.int fmonths, .int ffull, .int flean, .ref fal, .ref fon])), (fal, .inl (kfal, 25, .inl f_95)), (fon, .inl (kfon, 275, .inl ffon))]) hP hD hS hA [1, 2, 3] (by decide) rfl
      have hKc := hK.sub (tys' := [(kfal, .int), (kfon, .int)]) [0, 1] rfl
      refine va_calli (va_runV (As := []) (rest := []) ⟨hx, hb, hml, hown, hts⟩ (sX3_fits l dC dI H.size fr fal fon fmonths ffull flean kfal f_95 kfon ffon gfmonths gffull gflean) (cwV 0 hts (gz_gV mGA_499 mGA_500 mGA_501 mGA_18 mGA_502 goodGA) rfl rfl rfl (by decide +kernel) ⟨Nat.le_of_ble_eq_true rfl, Nat.le_of_ble_eq_true rfl⟩) ⟨bl_I (bl_a bl_sz (bl_a bl_P (bl_a bl_K (bl_a bl_c bl_nz)))), va_recv hKc hPc (ci := 3) (q0 := 0) rfl rfl, fun U hU hW => ⟨rfl, by rw [hU], by rw [hU]; exact hPc, va_K.moved hW.alike hKc, hDc.weaken (fun _ _ _ _ => trivial), nzA_warm hW hz⟩⟩ rfl rfl hl.1 rfl (lv_room (Nat.le_of_ble_eq_true rfl)) (dk_at dkX1_verdictOn 42 rfl) ⟨Nat.zero_le _, Nat.zero_le _⟩) hS (fun q _ h => hFc q h) hFc (fun r_98 u t H1 locs ht hvm hw hB hz1 hk1 hS => ?_)
      obtain ⟨f_99, hB⟩ := hB
      obtain ⟨hP1, hD1⟩ := hB
      rw [ht] at hP1
      obtain ⟨hP, hD⟩ := gz_back hP hD hk1 hFc hP1 hD1 [1, 2, 3] rfl rfl
      obtain ⟨hP, hD⟩ := gz_both (w := [(h0, .inr (1, [.ref fr, .ref ve, .ref qu, .ref tu, .ref cb, .int queueLength, .int takenBits])), (fr, .inr (3, [.int fmonths, .int ffull, .int flean, .ref fal, .ref fon])), (fal, .inl (kfal, 25, .inl f_95)), (fon, .inl (kfon, 275, .inl f_99))]) hP hD
      generalize H1 = H at hP hS ⊢
      have gr_98 : gi r_98 0 1 := hw
      refine lv_if_eq (tgt := 92) hx hb (dk_at dkX1_verdictOn 43 rfl) (by decide) (fun c_100 => ?_) (fun c_100 => ?_)
      · have g_101 : gi r_98 0 0 := gi_eq c_100 (gi_c 0 0 (by decide))
        refine lv_aload_n hx hb (dk_at dkX1_verdictOn 46 rfl) rfl (lv_at hl 2 rfl) ?_
        refine va_get (D := (dC, dI)) (ci := 1) (v := .ref fr) (C := RX1) (T := TX1) (N := 7) hx hb hts (fun w h => List.mem_cons_of_mem _ (jnGA_X1 w h)) hown hK hP 0 rfl rfl 0 (by decide) (hts _ (List.mem_cons_of_mem _ mGA_100)) (fun _ h9 => h9) rfl (dk_at dkX1_verdictOn 47 rfl) ?_
        refine va_get (D := (dC, dI)) (ci := 3) (v := .ref fal) (C := RX3) (T := TX3) (N := 5) hx hb hts (fun w h => List.mem_cons_of_mem _ (jnGA_X3 w h)) hown hK hP 1 rfl rfl 3 (by decide) (hts _ (List.mem_cons_of_mem _ mGA_487)) (fun _ h9 => h9) rfl (dk_at dkX1_verdictOn 48 rfl) ?_
        refine lv_aload_n hx hb (dk_at dkX1_verdictOn 49 rfl) rfl (lv_at hl 4 rfl) ?_
        refine va_get (D := (dC, dI)) (ci := 7) (v := .int qmonth) (C := RX7) (T := TX7) (N := 6) hx hb hts (fun w h => List.mem_cons_of_mem _ (jnGA_X7 w h)) hown hK (gz_ro hR hRA hS) 1 rfl rfl 2 (by decide) (hts _ (List.mem_cons_of_mem _ mGA_463)) (fun _ h9 => h9) rfl (dk_at dkX1_verdictOn 50 rfl) ?_
        refine lv_iload hx hb (dk_at dkX1_verdictOn 51 rfl) (lv_at hl 0 rfl) ?_
        refine va_iast hx hb hK hP hD hS 2 0 rfl rfl (gi_in gqmonth (by decide)) (dk_at dkX1_verdictOn 52 rfl) (fun H locs hP hD hS => ?_)
        obtain ⟨hP, hD⟩ := gz_both (w := [(h0, .inr (1, [.ref fr, .ref ve, .ref qu, .ref tu, .ref cb, .int queueLength, .int takenBits])), (fr, .inr (3, [.int fmonths, .int ffull, .int flean, .ref fal, .ref fon])), (fal, .inl (kfal, 25, .inl (upd f_95 (qmonth : Int32).toNatClampNeg x_93))), (fon, .inl (kfon, 275, .inl f_99))]) hP hD
        generalize upd f_95 (qmonth : Int32).toNatClampNeg x_93 = f_102 at hP hD
        refine lv_iconst (v := 2) hx hb (dk_at dkX1_verdictOn 53 rfl) (by decide) ?_
        exact W.iret (v := 2) hx hb hr (fun t ht hW => ⟨⟨2, (), rfl, (gi_w (gi_c 2 2 (by decide)) (by decide)), f_102, f_99, by rw [ht]; exact hP, hD⟩, hS.F ht⟩) hS.2.2 (dk_at dkX1_verdictOn 54 rfl)
      · have g_103 : gi r_98 1 1 := gi_ne_lo c_100 gr_98 (gi_c 0 0 (by decide)) (by decide)
        refine lv_iconst (v := 0) hx hb (dk_at dkX1_verdictOn 44 rfl) (by decide) ?_
        exact W.iret (v := 0) hx hb hr (fun t ht hW => ⟨⟨0, (), rfl, (gi_w (gi_c 0 0 (by decide)) (by decide)), f_95, f_99, by rw [ht]; exact hP, hD⟩, hS.F ht⟩) hS.2.2 (dk_at dkX1_verdictOn 45 rfl)
  · have g_104 : gi qkind 0 0 := gi_eq c_91 (gi_c 0 0 (by decide))
    refine lv_aload_n hx hb (dk_at dkX1_verdictOn 3 rfl) rfl (lv_at hl 1 rfl) ?_
    refine va_get (D := (dC, dI)) (ci := 0) (v := .int ahasMoon) (C := RX0) (T := TX0) (N := 13) hx hb hts (fun w h => List.mem_cons_of_mem _ (jnGA_X0 w h)) hown hK (gz_ro hR hRA hS) 0 rfl rfl 4 (by decide) (hts _ (List.mem_cons_of_mem _ mGA_486)) (fun _ h9 => h9) rfl (dk_at dkX1_verdictOn 4 rfl) ?_
    refine lv_if_eq (tgt := 18) hx hb (dk_at dkX1_verdictOn 5 rfl) (by decide) (fun c_105 => ?_) (fun c_105 => ?_)
    · have g_106 : gi ahasMoon 0 0 := gi_eq c_105 (gi_c 0 0 (by decide))
      refine lv_iconst (v := 0) hx hb (dk_at dkX1_verdictOn 8 rfl) (by decide) ?_
      refine lv_istore_n (lv' := [(3, .int 0), (0, .ref h0), (1, .ref am), (2, .ref rp)]) hx hb (dk_at dkX1_verdictOn 9 rfl) rfl hl (by decide) rfl (fun ls hl => ?_)
      refine lv_iload_n hx hb (dk_at dkX1_verdictOn 10 rfl) rfl (lv_at hl 0 rfl) ?_
      refine lv_if_eq (tgt := 41) hx hb (dk_at dkX1_verdictOn 11 rfl) (by decide) (fun c_107 => ?_) (fun c_107 => absurd (gi_is_eq (gi_c 0 0 (by decide)) (gi_c 0 0 (by decide))) c_107)
      refine lv_aload_n hx hb (dk_at dkX1_verdictOn 21 rfl) rfl (lv_at hl 1 rfl) ?_
      refine va_get (D := (dC, dI)) (ci := 1) (v := .ref fr) (C := RX1) (T := TX1) (N := 7) hx hb hts (fun w h => List.mem_cons_of_mem _ (jnGA_X1 w h)) hown hK hP 0 rfl rfl 0 (by decide) (hts _ (List.mem_cons_of_mem _ mGA_100)) (fun _ h9 => h9) rfl (dk_at dkX1_verdictOn 22 rfl) ?_
      refine va_get (D := (dC, dI)) (ci := 3) (v := .ref fal) (C := RX3) (T := TX3) (N := 5) hx hb hts (fun w h => List.mem_cons_of_mem _ (jnGA_X3 w h)) hown hK hP 1 rfl rfl 3 (by decide) (hts _ (List.mem_cons_of_mem _ mGA_487)) (fun _ h9 => h9) rfl (dk_at dkX1_verdictOn 23 rfl) ?_
      refine lv_aload_n hx hb (dk_at dkX1_verdictOn 24 rfl) rfl (lv_at hl 3 rfl) ?_
      refine va_get (D := (dC, dI)) (ci := 7) (v := .int qmonth) (C := RX7) (T := TX7) (N := 6) hx hb hts (fun w h => List.mem_cons_of_mem _ (jnGA_X7 w h)) hown hK (gz_ro hR hRA hS) 1 rfl rfl 2 (by decide) (hts _ (List.mem_cons_of_mem _ mGA_463)) (fun _ h9 => h9) rfl (dk_at dkX1_verdictOn 25 rfl) ?_
      refine va_iald hx hb hK hP 2 0 rfl rfl (gi_in gqmonth (by decide)) (dk_at dkX1_verdictOn 26 rfl) ?_
      refine lv_topi (fun x_108 ex_108 => ?_)
      refine lv_istore (lv' := [(4, .int x_108), (3, .int 0), (0, .ref h0), (1, .ref am), (2, .ref rp)]) hx hb (dk_at dkX1_verdictOn 27 rfl) hl (by decide) rfl (fun ls hl => ?_)
      refine lv_aload_n hx hb (dk_at dkX1_verdictOn 28 rfl) rfl (lv_at hl 2 rfl) ?_
      refine va_get (D := (dC, dI)) (ci := 1) (v := .ref fr) (C := RX1) (T := TX1) (N := 7) hx hb hts (fun w h => List.mem_cons_of_mem _ (jnGA_X1 w h)) hown hK hP 0 rfl rfl 0 (by decide) (hts _ (List.mem_cons_of_mem _ mGA_100)) (fun _ h9 => h9) rfl (dk_at dkX1_verdictOn 29 rfl) ?_
      refine lv_aload_n hx hb (dk_at dkX1_verdictOn 30 rfl) rfl (lv_at hl 4 rfl) ?_
      obtain ⟨hPc, hDc, hFc⟩ := gz_cut (wc := [(fr, .inr (3, [.int fmonths, .int ffull, .int flean, .ref fal, .ref fon])), (fal, .inl (kfal, 25, .inl ffal))]) hP hD hS hA [1, 2] (by decide) rfl
      have hKc := hK.sub (tys' := [(kfal, .int)]) [0] rfl
      have hRc_ : va_P (dC, dI) vwCl [(rp, .inr (7, [.int qplace, .int qkind, .int qmonth, .int qday, .int qknown, .int qstruck]))] s.heap := ((gz_ro hR hRA hS).sub [1] rfl)
      have hRa_ : gz_ap (va_A [(fr, .inr (3, [.int fmonths, .int ffull, .int flean, .ref fal, .ref fon])), (fal, .inl (kfal, 25, .inl ffal))] s.heap.size) [(rp, .inr (7, [.int qplace, .int qkind, .int qmonth, .int qday, .int qknown, .int qstruck]))] := (gz_apR (gz_ap1 hRA 1 rfl) hFc)
      refine va_callv (va_runV (As := [.ref rp]) (rest := []) ⟨hx, hb, hml, hown, hts⟩ (sX3_narrow l dC dI s.heap.size fr fal rp fmonths ffull flean fon kfal ffal qplace qkind qmonth qday qknown qstruck gfmonths gffull gflean gqplace gqmonth gqstruck) (cwV 1 hts (gz_gV mGA_489 mGA_490 mGA_491 mGA_18 mGA_492 goodGA) rfl rfl rfl (by decide +kernel) ⟨Nat.le_of_ble_eq_true rfl, Nat.le_of_ble_eq_true rfl⟩) ⟨bl_I (bl_a bl_sz (bl_a bl_P (bl_a bl_K (bl_a bl_c (bl_a bl_nz (bl_a bl_P bl_c)))))), va_recv hKc hPc (ci := 3) (q0 := 0) rfl rfl, fun U hU hW => ⟨rfl, by rw [hU], by rw [hU]; exact hPc, va_K.moved hW.alike hKc, hDc.weaken (fun _ _ _ _ => trivial), nzA_warm hW hz, by rw [hU]; exact hRc_, hRa_⟩⟩ rfl rfl hl.1 rfl (lv_room (Nat.le_of_ble_eq_true rfl)) (dk_at dkX1_verdictOn 31 rfl) ⟨Nat.zero_le _, Nat.zero_le _⟩) hS (fun q _ h => hFc q h) hFc (fun u t H1 locs ht hvm hw hB hz1 hk1 hS => ?_)
      obtain ⟨f_110, hB⟩ := hB
      obtain ⟨hP1, hD1⟩ := hB
      rw [ht] at hP1
      obtain ⟨hP, hD⟩ := gz_back hP hD hk1 hFc hP1 hD1 [1, 2] rfl rfl
      obtain ⟨hP, hD⟩ := gz_both (w := [(h0, .inr (1, [.ref fr, .ref ve, .ref qu, .ref tu, .ref cb, .int queueLength, .int takenBits])), (fr, .inr (3, [.int fmonths, .int ffull, .int flean, .ref fal, .ref fon])), (fal, .inl (kfal, 25, .inl f_110)), (fon, .inl (kfon, 275, .inl ffon))]) hP hD
      generalize H1 = H at hP hS ⊢
      refine lv_aload_n hx hb (dk_at dkX1_verdictOn 32 rfl) rfl (lv_at hl 2 rfl) ?_
      refine va_get (D := (dC, dI)) (ci := 1) (v := .ref fr) (C := RX1) (T := TX1) (N := 7) hx hb hts (fun w h => List.mem_cons_of_mem _ (jnGA_X1 w h)) hown hK hP 0 rfl rfl 0 (by decide) (hts _ (List.mem_cons_of_mem _ mGA_100)) (fun _ h9 => h9) rfl (dk_at dkX1_verdictOn 33 rfl) ?_
      refine va_get (D := (dC, dI)) (ci := 3) (v := .ref fal) (C := RX3) (T := TX3) (N := 5) hx hb hts (fun w h => List.mem_cons_of_mem _ (jnGA_X3 w h)) hown hK hP 1 rfl rfl 3 (by decide) (hts _ (List.mem_cons_of_mem _ mGA_487)) (fun _ h9 => h9) rfl (dk_at dkX1_verdictOn 34 rfl) ?_
      refine lv_aload_n hx hb (dk_at dkX1_verdictOn 35 rfl) rfl (lv_at hl 4 rfl) ?_
      refine va_get (D := (dC, dI)) (ci := 7) (v := .int qmonth) (C := RX7) (T := TX7) (N := 6) hx hb hts (fun w h => List.mem_cons_of_mem _ (jnGA_X7 w h)) hown hK (gz_ro hR hRA hS) 1 rfl rfl 2 (by decide) (hts _ (List.mem_cons_of_mem _ mGA_463)) (fun _ h9 => h9) rfl (dk_at dkX1_verdictOn 36 rfl) ?_
      refine va_iald hx hb hK hP 2 0 rfl rfl (gi_in gqmonth (by decide)) (dk_at dkX1_verdictOn 37 rfl) ?_
      refine lv_topi (fun x_111 ex_111 => ?_)
      refine lv_iload hx hb (dk_at dkX1_verdictOn 38 rfl) (lv_at hl 0 rfl) ?_
      refine lv_icmp_eq (tgt := 90) hx hb (dk_at dkX1_verdictOn 39 rfl) (by decide) (fun c_112 => ?_) (fun c_112 => ?_)
      · refine lv_iconst (v := 0) hx hb (dk_at dkX1_verdictOn 44 rfl) (by decide) ?_
        exact W.iret (v := 0) hx hb hr (fun t ht hW => ⟨⟨0, (), rfl, (gi_w (gi_c 0 0 (by decide)) (by decide)), f_110, ffon, by rw [ht]; exact hP, hD⟩, hS.F ht⟩) hS.2.2 (dk_at dkX1_verdictOn 45 rfl)
      · refine lv_aload_n hx hb (dk_at dkX1_verdictOn 40 rfl) rfl (lv_at hl 2 rfl) ?_
        refine va_get (D := (dC, dI)) (ci := 1) (v := .ref fr) (C := RX1) (T := TX1) (N := 7) hx hb hts (fun w h => List.mem_cons_of_mem _ (jnGA_X1 w h)) hown hK hP 0 rfl rfl 0 (by decide) (hts _ (List.mem_cons_of_mem _ mGA_100)) (fun _ h9 => h9) rfl (dk_at dkX1_verdictOn 41 rfl) ?_
        obtain ⟨hPc, hDc, hFc⟩ := gz_cut (wc := [(fr, .inr (3, [.int fmonths, .int ffull, .int flean, .ref fal, .ref fon])), (fal, .inl (kfal, 25, .inl f_110)), (fon, .inl (kfon, 275, .inl ffon))]) hP hD hS hA [1, 2, 3] (by decide) rfl
        have hKc := hK.sub (tys' := [(kfal, .int), (kfon, .int)]) [0, 1] rfl
        refine va_calli (va_runV (As := []) (rest := []) ⟨hx, hb, hml, hown, hts⟩ (sX3_fits l dC dI H.size fr fal fon fmonths ffull flean kfal f_110 kfon ffon gfmonths gffull gflean) (cwV 0 hts (gz_gV mGA_499 mGA_500 mGA_501 mGA_18 mGA_502 goodGA) rfl rfl rfl (by decide +kernel) ⟨Nat.le_of_ble_eq_true rfl, Nat.le_of_ble_eq_true rfl⟩) ⟨bl_I (bl_a bl_sz (bl_a bl_P (bl_a bl_K (bl_a bl_c bl_nz)))), va_recv hKc hPc (ci := 3) (q0 := 0) rfl rfl, fun U hU hW => ⟨rfl, by rw [hU], by rw [hU]; exact hPc, va_K.moved hW.alike hKc, hDc.weaken (fun _ _ _ _ => trivial), nzA_warm hW hz⟩⟩ rfl rfl hl.1 rfl (lv_room (Nat.le_of_ble_eq_true rfl)) (dk_at dkX1_verdictOn 42 rfl) ⟨Nat.zero_le _, Nat.zero_le _⟩) hS (fun q _ h => hFc q h) hFc (fun r_113 u t H1 locs ht hvm hw hB hz1 hk1 hS => ?_)
        obtain ⟨f_114, hB⟩ := hB
        obtain ⟨hP1, hD1⟩ := hB
        rw [ht] at hP1
        obtain ⟨hP, hD⟩ := gz_back hP hD hk1 hFc hP1 hD1 [1, 2, 3] rfl rfl
        obtain ⟨hP, hD⟩ := gz_both (w := [(h0, .inr (1, [.ref fr, .ref ve, .ref qu, .ref tu, .ref cb, .int queueLength, .int takenBits])), (fr, .inr (3, [.int fmonths, .int ffull, .int flean, .ref fal, .ref fon])), (fal, .inl (kfal, 25, .inl f_110)), (fon, .inl (kfon, 275, .inl f_114))]) hP hD
        generalize H1 = H at hP hS ⊢
        have gr_113 : gi r_113 0 1 := hw
        refine lv_if_eq (tgt := 92) hx hb (dk_at dkX1_verdictOn 43 rfl) (by decide) (fun c_115 => ?_) (fun c_115 => ?_)
        · have g_116 : gi r_113 0 0 := gi_eq c_115 (gi_c 0 0 (by decide))
          refine lv_aload_n hx hb (dk_at dkX1_verdictOn 46 rfl) rfl (lv_at hl 2 rfl) ?_
          refine va_get (D := (dC, dI)) (ci := 1) (v := .ref fr) (C := RX1) (T := TX1) (N := 7) hx hb hts (fun w h => List.mem_cons_of_mem _ (jnGA_X1 w h)) hown hK hP 0 rfl rfl 0 (by decide) (hts _ (List.mem_cons_of_mem _ mGA_100)) (fun _ h9 => h9) rfl (dk_at dkX1_verdictOn 47 rfl) ?_
          refine va_get (D := (dC, dI)) (ci := 3) (v := .ref fal) (C := RX3) (T := TX3) (N := 5) hx hb hts (fun w h => List.mem_cons_of_mem _ (jnGA_X3 w h)) hown hK hP 1 rfl rfl 3 (by decide) (hts _ (List.mem_cons_of_mem _ mGA_487)) (fun _ h9 => h9) rfl (dk_at dkX1_verdictOn 48 rfl) ?_
          refine lv_aload_n hx hb (dk_at dkX1_verdictOn 49 rfl) rfl (lv_at hl 4 rfl) ?_
          refine va_get (D := (dC, dI)) (ci := 7) (v := .int qmonth) (C := RX7) (T := TX7) (N := 6) hx hb hts (fun w h => List.mem_cons_of_mem _ (jnGA_X7 w h)) hown hK (gz_ro hR hRA hS) 1 rfl rfl 2 (by decide) (hts _ (List.mem_cons_of_mem _ mGA_463)) (fun _ h9 => h9) rfl (dk_at dkX1_verdictOn 50 rfl) ?_
          refine lv_iload hx hb (dk_at dkX1_verdictOn 51 rfl) (lv_at hl 0 rfl) ?_
          refine va_iast hx hb hK hP hD hS 2 0 rfl rfl (gi_in gqmonth (by decide)) (dk_at dkX1_verdictOn 52 rfl) (fun H locs hP hD hS => ?_)
          obtain ⟨hP, hD⟩ := gz_both (w := [(h0, .inr (1, [.ref fr, .ref ve, .ref qu, .ref tu, .ref cb, .int queueLength, .int takenBits])), (fr, .inr (3, [.int fmonths, .int ffull, .int flean, .ref fal, .ref fon])), (fal, .inl (kfal, 25, .inl (upd f_110 (qmonth : Int32).toNatClampNeg x_108))), (fon, .inl (kfon, 275, .inl f_114))]) hP hD
          generalize upd f_110 (qmonth : Int32).toNatClampNeg x_108 = f_117 at hP hD
          refine lv_iconst (v := 2) hx hb (dk_at dkX1_verdictOn 53 rfl) (by decide) ?_
          exact W.iret (v := 2) hx hb hr (fun t ht hW => ⟨⟨2, (), rfl, (gi_w (gi_c 2 2 (by decide)) (by decide)), f_117, f_114, by rw [ht]; exact hP, hD⟩, hS.F ht⟩) hS.2.2 (dk_at dkX1_verdictOn 54 rfl)
        · have g_118 : gi r_113 1 1 := gi_ne_lo c_115 gr_113 (gi_c 0 0 (by decide)) (by decide)
          refine lv_iconst (v := 0) hx hb (dk_at dkX1_verdictOn 44 rfl) (by decide) ?_
          exact W.iret (v := 0) hx hb hr (fun t ht hW => ⟨⟨0, (), rfl, (gi_w (gi_c 0 0 (by decide)) (by decide)), f_110, f_114, by rw [ht]; exact hP, hD⟩, hS.F ht⟩) hS.2.2 (dk_at dkX1_verdictOn 45 rfl)
    · have g_119 : gi ahasMoon 1 1 := gi_ne_lo c_105 gahasMoon (gi_c 0 0 (by decide)) (by decide)
      refine lv_iconst (v := 1) hx hb (dk_at dkX1_verdictOn 6 rfl) (by decide) ?_
      refine lv_goto (tgt := 19) hx hb (dk_at dkX1_verdictOn 7 rfl) (by decide) ?_
      refine lv_istore_n (lv' := [(3, .int 1), (0, .ref h0), (1, .ref am), (2, .ref rp)]) hx hb (dk_at dkX1_verdictOn 9 rfl) rfl hl (by decide) rfl (fun ls hl => ?_)
      refine lv_iload_n hx hb (dk_at dkX1_verdictOn 10 rfl) rfl (lv_at hl 0 rfl) ?_
      refine lv_if_eq (tgt := 41) hx hb (dk_at dkX1_verdictOn 11 rfl) (by decide) (fun c_120 => absurd c_120 (gi_no_eq (gi_c 1 1 (by decide)) (gi_c 0 0 (by decide)) (by decide))) (fun c_120 => ?_)
      refine lv_aload_n hx hb (dk_at dkX1_verdictOn 12 rfl) rfl (lv_at hl 3 rfl) ?_
      refine va_get (D := (dC, dI)) (ci := 7) (v := .int qday) (C := RX7) (T := TX7) (N := 6) hx hb hts (fun w h => List.mem_cons_of_mem _ (jnGA_X7 w h)) hown hK (gz_ro hR hRA hS) 1 rfl rfl 3 (by decide) (hts _ (List.mem_cons_of_mem _ mGA_465)) (fun _ h9 => h9) rfl (dk_at dkX1_verdictOn 13 rfl) ?_
      refine lv_aload_n hx hb (dk_at dkX1_verdictOn 14 rfl) rfl (lv_at hl 2 rfl) ?_
      refine lv_aload_n hx hb (dk_at dkX1_verdictOn 15 rfl) rfl (lv_at hl 3 rfl) ?_
      refine va_get (D := (dC, dI)) (ci := 7) (v := .int qmonth) (C := RX7) (T := TX7) (N := 6) hx hb hts (fun w h => List.mem_cons_of_mem _ (jnGA_X7 w h)) hown hK (gz_ro hR hRA hS) 1 rfl rfl 2 (by decide) (hts _ (List.mem_cons_of_mem _ mGA_463)) (fun _ h9 => h9) rfl (dk_at dkX1_verdictOn 16 rfl) ?_
      have hPc : va_P (dC, dI) vwCl [(am, .inr (0, [.int amonths, .int afull, .int alean, .int alines, .int ahasMoon, .int amoonStart, .int amoonStep, .int aplaceCount, .int areportCount, .int adeedCount, .ref pl, .ref re, .ref de]))] s.heap := ((gz_ro hR hRA hS).sub [0] rfl)
      have hKc := hK.sub (tys' := []) [] rfl
      refine va_calli (va_runV (As := [.int qmonth]) (rest := [.int qday]) ⟨hx, hb, hml, hown, hts⟩ (sX0_earlyOf l dC dI am amonths afull alean alines ahasMoon amoonStart amoonStep aplaceCount areportCount adeedCount pl re de qmonth gamonths gafull galean (gi_w g_119 (by decide)) gaplaceCount gareportCount gadeedCount) (cwV 1 hts (gz_gV mGA_488 mGA_417 mGA_418 mGA_13 mGA_419 goodGA) rfl rfl rfl (by decide +kernel) ⟨Nat.le_of_ble_eq_true rfl, Nat.le_of_ble_eq_true rfl⟩) ⟨bl_I (bl_a bl_P (bl_a bl_K bl_nz)), va_recv hKc hPc (ci := 0) (q0 := 0) rfl rfl, fun U hU hW => ⟨rfl, by rw [hU]; exact hPc, va_K.moved hW.alike hKc, nzA_warm hW hz⟩⟩ rfl rfl hl.1 rfl (lv_room (Nat.le_of_ble_eq_true rfl)) (dk_at dkX1_verdictOn 17 rfl) ⟨Nat.zero_le _, Nat.zero_le _⟩) hS (fun q _ h => h.elim) (fun q h => h.elim) (fun r_121 u t H1 locs ht hvm hw hB hz1 hk1 hS => ?_)
      obtain ⟨hw, hE⟩ := hw
      have hP := gz_keep hP hk1
      generalize H1 = H at hP hS ⊢
      refine lv_icmp_ge (tgt := 41) hx hb (dk_at dkX1_verdictOn 18 rfl) (by decide) (fun c_122 => ?_) (fun c_122 => ?_)
      · refine lv_aload_n hx hb (dk_at dkX1_verdictOn 21 rfl) rfl (lv_at hl 1 rfl) ?_
        refine va_get (D := (dC, dI)) (ci := 1) (v := .ref fr) (C := RX1) (T := TX1) (N := 7) hx hb hts (fun w h => List.mem_cons_of_mem _ (jnGA_X1 w h)) hown hK hP 0 rfl rfl 0 (by decide) (hts _ (List.mem_cons_of_mem _ mGA_100)) (fun _ h9 => h9) rfl (dk_at dkX1_verdictOn 22 rfl) ?_
        refine va_get (D := (dC, dI)) (ci := 3) (v := .ref fal) (C := RX3) (T := TX3) (N := 5) hx hb hts (fun w h => List.mem_cons_of_mem _ (jnGA_X3 w h)) hown hK hP 1 rfl rfl 3 (by decide) (hts _ (List.mem_cons_of_mem _ mGA_487)) (fun _ h9 => h9) rfl (dk_at dkX1_verdictOn 23 rfl) ?_
        refine lv_aload_n hx hb (dk_at dkX1_verdictOn 24 rfl) rfl (lv_at hl 3 rfl) ?_
        refine va_get (D := (dC, dI)) (ci := 7) (v := .int qmonth) (C := RX7) (T := TX7) (N := 6) hx hb hts (fun w h => List.mem_cons_of_mem _ (jnGA_X7 w h)) hown hK (gz_ro hR hRA hS) 1 rfl rfl 2 (by decide) (hts _ (List.mem_cons_of_mem _ mGA_463)) (fun _ h9 => h9) rfl (dk_at dkX1_verdictOn 25 rfl) ?_
        refine va_iald hx hb hK hP 2 0 rfl rfl (gi_in gqmonth (by decide)) (dk_at dkX1_verdictOn 26 rfl) ?_
        refine lv_topi (fun x_123 ex_123 => ?_)
        refine lv_istore (lv' := [(4, .int x_123), (3, .int 1), (0, .ref h0), (1, .ref am), (2, .ref rp)]) hx hb (dk_at dkX1_verdictOn 27 rfl) hl (by decide) rfl (fun ls hl => ?_)
        refine lv_aload_n hx hb (dk_at dkX1_verdictOn 28 rfl) rfl (lv_at hl 2 rfl) ?_
        refine va_get (D := (dC, dI)) (ci := 1) (v := .ref fr) (C := RX1) (T := TX1) (N := 7) hx hb hts (fun w h => List.mem_cons_of_mem _ (jnGA_X1 w h)) hown hK hP 0 rfl rfl 0 (by decide) (hts _ (List.mem_cons_of_mem _ mGA_100)) (fun _ h9 => h9) rfl (dk_at dkX1_verdictOn 29 rfl) ?_
        refine lv_aload_n hx hb (dk_at dkX1_verdictOn 30 rfl) rfl (lv_at hl 4 rfl) ?_
        obtain ⟨hPc, hDc, hFc⟩ := gz_cut (wc := [(fr, .inr (3, [.int fmonths, .int ffull, .int flean, .ref fal, .ref fon])), (fal, .inl (kfal, 25, .inl ffal))]) hP hD hS hA [1, 2] (by decide) rfl
        have hKc := hK.sub (tys' := [(kfal, .int)]) [0] rfl
        have hRc_ : va_P (dC, dI) vwCl [(rp, .inr (7, [.int qplace, .int qkind, .int qmonth, .int qday, .int qknown, .int qstruck]))] H := ((gz_ro hR hRA hS).sub [1] rfl)
        have hRa_ : gz_ap (va_A [(fr, .inr (3, [.int fmonths, .int ffull, .int flean, .ref fal, .ref fon])), (fal, .inl (kfal, 25, .inl ffal))] H.size) [(rp, .inr (7, [.int qplace, .int qkind, .int qmonth, .int qday, .int qknown, .int qstruck]))] := (gz_apR (gz_ap1 hRA 1 rfl) hFc)
        refine va_callv (va_runV (As := [.ref rp]) (rest := []) ⟨hx, hb, hml, hown, hts⟩ (sX3_narrow l dC dI H.size fr fal rp fmonths ffull flean fon kfal ffal qplace qkind qmonth qday qknown qstruck gfmonths gffull gflean gqplace gqmonth gqstruck) (cwV 1 hts (gz_gV mGA_489 mGA_490 mGA_491 mGA_18 mGA_492 goodGA) rfl rfl rfl (by decide +kernel) ⟨Nat.le_of_ble_eq_true rfl, Nat.le_of_ble_eq_true rfl⟩) ⟨bl_I (bl_a bl_sz (bl_a bl_P (bl_a bl_K (bl_a bl_c (bl_a bl_nz (bl_a bl_P bl_c)))))), va_recv hKc hPc (ci := 3) (q0 := 0) rfl rfl, fun U hU hW => ⟨rfl, by rw [hU], by rw [hU]; exact hPc, va_K.moved hW.alike hKc, hDc.weaken (fun _ _ _ _ => trivial), nzA_warm hW hz, by rw [hU]; exact hRc_, hRa_⟩⟩ rfl rfl hl.1 rfl (lv_room (Nat.le_of_ble_eq_true rfl)) (dk_at dkX1_verdictOn 31 rfl) ⟨Nat.zero_le _, Nat.zero_le _⟩) hS (fun q _ h => hFc q h) hFc (fun u t H1 locs ht hvm hw hB hz1 hk1 hS => ?_)
        obtain ⟨f_125, hB⟩ := hB
        obtain ⟨hP1, hD1⟩ := hB
        rw [ht] at hP1
        obtain ⟨hP, hD⟩ := gz_back hP hD hk1 hFc hP1 hD1 [1, 2] rfl rfl
        obtain ⟨hP, hD⟩ := gz_both (w := [(h0, .inr (1, [.ref fr, .ref ve, .ref qu, .ref tu, .ref cb, .int queueLength, .int takenBits])), (fr, .inr (3, [.int fmonths, .int ffull, .int flean, .ref fal, .ref fon])), (fal, .inl (kfal, 25, .inl f_125)), (fon, .inl (kfon, 275, .inl ffon))]) hP hD
        generalize H1 = H at hP hS ⊢
        refine lv_aload_n hx hb (dk_at dkX1_verdictOn 32 rfl) rfl (lv_at hl 2 rfl) ?_
        refine va_get (D := (dC, dI)) (ci := 1) (v := .ref fr) (C := RX1) (T := TX1) (N := 7) hx hb hts (fun w h => List.mem_cons_of_mem _ (jnGA_X1 w h)) hown hK hP 0 rfl rfl 0 (by decide) (hts _ (List.mem_cons_of_mem _ mGA_100)) (fun _ h9 => h9) rfl (dk_at dkX1_verdictOn 33 rfl) ?_
        refine va_get (D := (dC, dI)) (ci := 3) (v := .ref fal) (C := RX3) (T := TX3) (N := 5) hx hb hts (fun w h => List.mem_cons_of_mem _ (jnGA_X3 w h)) hown hK hP 1 rfl rfl 3 (by decide) (hts _ (List.mem_cons_of_mem _ mGA_487)) (fun _ h9 => h9) rfl (dk_at dkX1_verdictOn 34 rfl) ?_
        refine lv_aload_n hx hb (dk_at dkX1_verdictOn 35 rfl) rfl (lv_at hl 4 rfl) ?_
        refine va_get (D := (dC, dI)) (ci := 7) (v := .int qmonth) (C := RX7) (T := TX7) (N := 6) hx hb hts (fun w h => List.mem_cons_of_mem _ (jnGA_X7 w h)) hown hK (gz_ro hR hRA hS) 1 rfl rfl 2 (by decide) (hts _ (List.mem_cons_of_mem _ mGA_463)) (fun _ h9 => h9) rfl (dk_at dkX1_verdictOn 36 rfl) ?_
        refine va_iald hx hb hK hP 2 0 rfl rfl (gi_in gqmonth (by decide)) (dk_at dkX1_verdictOn 37 rfl) ?_
        refine lv_topi (fun x_126 ex_126 => ?_)
        refine lv_iload hx hb (dk_at dkX1_verdictOn 38 rfl) (lv_at hl 0 rfl) ?_
        refine lv_icmp_eq (tgt := 90) hx hb (dk_at dkX1_verdictOn 39 rfl) (by decide) (fun c_127 => ?_) (fun c_127 => ?_)
        · refine lv_iconst (v := 0) hx hb (dk_at dkX1_verdictOn 44 rfl) (by decide) ?_
          exact W.iret (v := 0) hx hb hr (fun t ht hW => ⟨⟨0, (), rfl, (gi_w (gi_c 0 0 (by decide)) (by decide)), f_125, ffon, by rw [ht]; exact hP, hD⟩, hS.F ht⟩) hS.2.2 (dk_at dkX1_verdictOn 45 rfl)
        · refine lv_aload_n hx hb (dk_at dkX1_verdictOn 40 rfl) rfl (lv_at hl 2 rfl) ?_
          refine va_get (D := (dC, dI)) (ci := 1) (v := .ref fr) (C := RX1) (T := TX1) (N := 7) hx hb hts (fun w h => List.mem_cons_of_mem _ (jnGA_X1 w h)) hown hK hP 0 rfl rfl 0 (by decide) (hts _ (List.mem_cons_of_mem _ mGA_100)) (fun _ h9 => h9) rfl (dk_at dkX1_verdictOn 41 rfl) ?_
          obtain ⟨hPc, hDc, hFc⟩ := gz_cut (wc := [(fr, .inr (3, [.int fmonths, .int ffull, .int flean, .ref fal, .ref fon])), (fal, .inl (kfal, 25, .inl f_125)), (fon, .inl (kfon, 275, .inl ffon))]) hP hD hS hA [1, 2, 3] (by decide) rfl
          have hKc := hK.sub (tys' := [(kfal, .int), (kfon, .int)]) [0, 1] rfl
          refine va_calli (va_runV (As := []) (rest := []) ⟨hx, hb, hml, hown, hts⟩ (sX3_fits l dC dI H.size fr fal fon fmonths ffull flean kfal f_125 kfon ffon gfmonths gffull gflean) (cwV 0 hts (gz_gV mGA_499 mGA_500 mGA_501 mGA_18 mGA_502 goodGA) rfl rfl rfl (by decide +kernel) ⟨Nat.le_of_ble_eq_true rfl, Nat.le_of_ble_eq_true rfl⟩) ⟨bl_I (bl_a bl_sz (bl_a bl_P (bl_a bl_K (bl_a bl_c bl_nz)))), va_recv hKc hPc (ci := 3) (q0 := 0) rfl rfl, fun U hU hW => ⟨rfl, by rw [hU], by rw [hU]; exact hPc, va_K.moved hW.alike hKc, hDc.weaken (fun _ _ _ _ => trivial), nzA_warm hW hz⟩⟩ rfl rfl hl.1 rfl (lv_room (Nat.le_of_ble_eq_true rfl)) (dk_at dkX1_verdictOn 42 rfl) ⟨Nat.zero_le _, Nat.zero_le _⟩) hS (fun q _ h => hFc q h) hFc (fun r_128 u t H1 locs ht hvm hw hB hz1 hk1 hS => ?_)
          obtain ⟨f_129, hB⟩ := hB
          obtain ⟨hP1, hD1⟩ := hB
          rw [ht] at hP1
          obtain ⟨hP, hD⟩ := gz_back hP hD hk1 hFc hP1 hD1 [1, 2, 3] rfl rfl
          obtain ⟨hP, hD⟩ := gz_both (w := [(h0, .inr (1, [.ref fr, .ref ve, .ref qu, .ref tu, .ref cb, .int queueLength, .int takenBits])), (fr, .inr (3, [.int fmonths, .int ffull, .int flean, .ref fal, .ref fon])), (fal, .inl (kfal, 25, .inl f_125)), (fon, .inl (kfon, 275, .inl f_129))]) hP hD
          generalize H1 = H at hP hS ⊢
          have gr_128 : gi r_128 0 1 := hw
          refine lv_if_eq (tgt := 92) hx hb (dk_at dkX1_verdictOn 43 rfl) (by decide) (fun c_130 => ?_) (fun c_130 => ?_)
          · have g_131 : gi r_128 0 0 := gi_eq c_130 (gi_c 0 0 (by decide))
            refine lv_aload_n hx hb (dk_at dkX1_verdictOn 46 rfl) rfl (lv_at hl 2 rfl) ?_
            refine va_get (D := (dC, dI)) (ci := 1) (v := .ref fr) (C := RX1) (T := TX1) (N := 7) hx hb hts (fun w h => List.mem_cons_of_mem _ (jnGA_X1 w h)) hown hK hP 0 rfl rfl 0 (by decide) (hts _ (List.mem_cons_of_mem _ mGA_100)) (fun _ h9 => h9) rfl (dk_at dkX1_verdictOn 47 rfl) ?_
            refine va_get (D := (dC, dI)) (ci := 3) (v := .ref fal) (C := RX3) (T := TX3) (N := 5) hx hb hts (fun w h => List.mem_cons_of_mem _ (jnGA_X3 w h)) hown hK hP 1 rfl rfl 3 (by decide) (hts _ (List.mem_cons_of_mem _ mGA_487)) (fun _ h9 => h9) rfl (dk_at dkX1_verdictOn 48 rfl) ?_
            refine lv_aload_n hx hb (dk_at dkX1_verdictOn 49 rfl) rfl (lv_at hl 4 rfl) ?_
            refine va_get (D := (dC, dI)) (ci := 7) (v := .int qmonth) (C := RX7) (T := TX7) (N := 6) hx hb hts (fun w h => List.mem_cons_of_mem _ (jnGA_X7 w h)) hown hK (gz_ro hR hRA hS) 1 rfl rfl 2 (by decide) (hts _ (List.mem_cons_of_mem _ mGA_463)) (fun _ h9 => h9) rfl (dk_at dkX1_verdictOn 50 rfl) ?_
            refine lv_iload hx hb (dk_at dkX1_verdictOn 51 rfl) (lv_at hl 0 rfl) ?_
            refine va_iast hx hb hK hP hD hS 2 0 rfl rfl (gi_in gqmonth (by decide)) (dk_at dkX1_verdictOn 52 rfl) (fun H locs hP hD hS => ?_)
            obtain ⟨hP, hD⟩ := gz_both (w := [(h0, .inr (1, [.ref fr, .ref ve, .ref qu, .ref tu, .ref cb, .int queueLength, .int takenBits])), (fr, .inr (3, [.int fmonths, .int ffull, .int flean, .ref fal, .ref fon])), (fal, .inl (kfal, 25, .inl (upd f_125 (qmonth : Int32).toNatClampNeg x_123))), (fon, .inl (kfon, 275, .inl f_129))]) hP hD
            generalize upd f_125 (qmonth : Int32).toNatClampNeg x_123 = f_132 at hP hD
            refine lv_iconst (v := 2) hx hb (dk_at dkX1_verdictOn 53 rfl) (by decide) ?_
            exact W.iret (v := 2) hx hb hr (fun t ht hW => ⟨⟨2, (), rfl, (gi_w (gi_c 2 2 (by decide)) (by decide)), f_132, f_129, by rw [ht]; exact hP, hD⟩, hS.F ht⟩) hS.2.2 (dk_at dkX1_verdictOn 54 rfl)
          · have g_133 : gi r_128 1 1 := gi_ne_lo c_130 gr_128 (gi_c 0 0 (by decide)) (by decide)
            refine lv_iconst (v := 0) hx hb (dk_at dkX1_verdictOn 44 rfl) (by decide) ?_
            exact W.iret (v := 0) hx hb hr (fun t ht hW => ⟨⟨0, (), rfl, (gi_w (gi_c 0 0 (by decide)) (by decide)), f_125, f_129, by rw [ht]; exact hP, hD⟩, hS.F ht⟩) hS.2.2 (dk_at dkX1_verdictOn 45 rfl)
      · have g_134 : gi qday (-2147483648) 2147483646 := gi_lt_l (Int32.not_le.mp c_122) (gi_any qday) (gi_any r_121) (by decide)
        have g_135 : gi r_121 (-2147483647) 2147483647 := gi_lt_r (Int32.not_le.mp c_122) (gi_any qday) (gi_any r_121) (by decide)
        refine lv_iconst (v := 1) hx hb (dk_at dkX1_verdictOn 19 rfl) (by decide) ?_
        exact W.iret (v := 1) hx hb hr (fun t ht hW => ⟨⟨1, (), rfl, (gi_w (gi_c 1 1 (by decide)) (by decide)), ffal, ffon, by rw [ht]; exact hP, hD⟩, hS.F ht⟩) hS.2.2 (dk_at dkX1_verdictOn 20 rfl)
noncomputable def lsX1_judge : List (Nat × Instr × Nat) := [(0, .aload_n 0, 1), (1, .aload_n 1, 1), (2, .iload_n 2, 1), (3, .invokevirtual 39, 3), (6, .aload_n 0, 1), (7, .getfield 12, 3), (10, .aload_n 1, 1), (11, .invokevirtual 43, 3), (14, .aload_n 0, 1), (15, .iconst 0, 1), (16, .putfield 36, 3), (19, .iconst 0, 1), (20, .istore_n 3, 1), (21, .iload_n 3, 1), (22, .aload_n 0, 1), (23, .getfield 32, 3), (26, .if_icmp .ge 59, 3), (29, .aload_n 0, 1), (30, .getfield 22, 3), (33, .iload_n 3, 1), (34, .iaload, 1), (35, .istore 4, 2), (37, .aload_n 0, 1), (38, .getfield 18, 3), (41, .iload 4, 2), (43, .aload_n 0, 1), (44, .aload_n 1, 1), (45, .aload_n 1, 1), (46, .getfield 47, 3), (49, .iload 4, 2), (51, .aaload, 1), (52, .invokevirtual 53, 3), (55, .iastore, 1), (56, .aload_n 0, 1), (57, .getfield 18, 3), (60, .iload 4, 2), (62, .iaload, 1), (63, .ifCond .ne 16, 3), (66, .aload_n 0, 1), (67, .dup, 1), (68, .getfield 36, 3), (71, .iconst 1, 1), (72, .iload 4, 2), (74, .ishl, 1), (75, .ior, 1), (76, .putfield 36, 3), (79, .iinc 3 1, 3), (82, .goto (-61), 3), (85, .aload_n 0, 1), (86, .getfield 12, 3), (89, .invokevirtual 57, 3), (92, .pop, 1), (93, .aload_n 0, 1), (94, .getfield 12, 3), (97, .aload_n 0, 1), (98, .getfield 29, 3), (101, .invokevirtual 61, 3), (104, .return_, 1)]
theorem dkX1_judge : dkAll cX1_judge lsX1_judge = true := by decide +kernel
set_option maxHeartbeats 4000000 in
set_option maxRecDepth 100000 in
theorem lp_sX1_judge {p : Program} {l : Launch} {e : Env} {R : Room} {s : State} {m : MethodId} {args : Array Value} {below : List Frame} {meth : Method} {c : Code} {Q : State → Prop} {A : Nat → Prop} {cells slots : Nat} {dC : Nat → ClassId} {dI : Nat → Nat → Nat} (h0 : Nat) (ve : Nat) (qu : Nat) (tu : Nat) (cb : Nat) (fr : Nat) (fal : Nat) (fon : Nat) (am : Nat) (pl : Nat) (re : Nat) (queueLength : Int32) (takenBits : Int32) (kve : ClassId) (fve : Nat → Int32) (kqu : ClassId) (fqu : Nat → Int32) (ktu : ClassId) (ftu : Nat → Int64) (kcb : ClassId) (fcb : Nat → Int32) (fmonths : Int32) (ffull : Int32) (flean : Int32) (kfal : ClassId) (ffal : Nat → Int32) (kfon : ClassId) (ffon : Nat → Int32) (amonths : Int32) (afull : Int32) (alean : Int32) (alines : Int32) (ahasMoon : Int32) (amoonStart : Int32) (amoonStep : Int32) (aplaceCount : Int32) (areportCount : Int32) (adeedCount : Int32) (de : Nat) (kpl : ClassId) (kre : ClassId) (pa : Nat → Nat) (p_name : Nat → Int32) (p_trust : Nat → Int32) (ra : Nat → Nat) (r_place : Nat → Int32) (r_kind : Nat → Int32) (r_month : Nat → Int32) (r_day : Nat → Int32) (r_known : Nat → Int32) (r_struck : Nat → Int32) (p2 : Int32) (gqueueLength : gi queueLength 0 24) (gfqu : ga fqu 24 0 23) (gfmonths : gi fmonths 0 24) (gffull : gi ffull 0 5) (gflean : gi flean 0 5) (gamonths : gi amonths 0 24) (gafull : gi afull 0 5) (galean : gi alean 0 5) (gahasMoon : gi ahasMoon 0 1) (gaplaceCount : gi aplaceCount 0 6) (gareportCount : gi areportCount 0 24) (gadeedCount : gi adeedCount 0 8) (gr_place : ga r_place 24 0 5) (gr_month : ga r_month 24 0 23) (gr_struck : ga r_struck 24 0 1) (hx : p.tables.exec = Jvm.exec) (hb : c.code = cX1_judge) (hml : c.maxLocals = 5) (hown : s.vm.findClass RX1 = some m.cls) (hts : ∀ w ∈ ((.code yX1_judge cX1_judge 5 none :: wsGA) : List Cond), w.before args s = true) (hK : va_K (dC, dI) vwCl [(kve, .int), (kqu, .int), (ktu, .long), (kcb, .int), (kfal, .int), (kfon, .int), (kpl, .object RX5), (kre, .object RX7)] s) (hz : nzA s) (hR : va_P (dC, dI) vwCl [(am, .inr (0, [.int amonths, .int afull, .int alean, .int alines, .int ahasMoon, .int amoonStart, .int amoonStep, .int aplaceCount, .int areportCount, .int adeedCount, .ref pl, .ref re, .ref de])), (pl, .inl (kpl, 6, .inr (.inr (.inr (.inr (fun i => some (pa i))))))), (re, .inl (kre, 24, .inr (.inr (.inr (.inr (fun i => some (ra i)))))))] s.heap) (hRA : gz_ap A [(am, .inr (0, [.int amonths, .int afull, .int alean, .int alines, .int ahasMoon, .int amoonStart, .int amoonStep, .int aplaceCount, .int areportCount, .int adeedCount, .ref pl, .ref re, .ref de])), (pl, .inl (kpl, 6, .inr (.inr (.inr (.inr (fun i => some (pa i))))))), (re, .inl (kre, 24, .inr (.inr (.inr (.inr (fun i => some (ra i)))))))]) (hF0 : va_P (dC, dI) vwCl (gz_fam 6 pa 5 (fun i => [.int (p_name i), .int (p_trust i)])) s.heap) (hFA0 : gz_ap A (gz_fam 6 pa 5 (fun i => [.int (p_name i), .int (p_trust i)]))) (hF1 : va_P (dC, dI) vwCl (gz_fam 24 ra 7 (fun i => [.int (r_place i), .int (r_kind i), .int (r_month i), .int (r_day i), .int (r_known i), .int (r_struck i)])) s.heap) (hFA1 : gz_ap A (gz_fam 24 ra 7 (fun i => [.int (r_place i), .int (r_kind i), .int (r_month i), .int (r_day i), .int (r_known i), .int (r_struck i)]))) (hA : ∀ q : Nat, s.heap.size ≤ q → A q) (hRf : 3 ≤ R.frames) (hRl : 71 ≤ R.locals) (hRc : cells ≤ R.cells) (hRs : slots ≤ R.slots) (kr104 : ∀ (w0_5 : Int32) (w0_6 : Int32) (w5_0 : Int32) (w5_1 : Int32) (w5_2 : Int32) (z1 : Nat → Int32) (z2 : Nat → Int32) (z3 : Nat → Int64) (z4 : Nat → Int32) (z6 : Nat → Int32) (z7 : Nat → Int32) (H : Heap) (locs : List Loc) (ls : Array Slot), gi w0_5 0 24 → gi w5_0 0 24 → gi w5_1 0 5 → gi w5_2 0 5 → ga z2 24 0 23 → va_P (dC, dI) vwCl [(h0, .inr (1, [.ref fr, .ref ve, .ref qu, .ref tu, .ref cb, .int w0_5, .int w0_6])), (ve, .inl (kve, 24, .inl z1)), (qu, .inl (kqu, 24, .inl z2)), (tu, .inl (ktu, 24, .inr (.inl z3))), (cb, .inl (kcb, 25, .inl z4)), (fr, .inr (3, [.int w5_0, .int w5_1, .int w5_2, .ref fal, .ref fon])), (fal, .inl (kfal, 25, .inl z6)), (fon, .inl (kfon, 275, .inl z7))] H → va_D A [(h0, .inr (1, [.ref fr, .ref ve, .ref qu, .ref tu, .ref cb, .int w0_5, .int w0_6])), (ve, .inl (kve, 24, .inl z1)), (qu, .inl (kqu, 24, .inl z2)), (tu, .inl (ktu, 24, .inr (.inl z3))), (cb, .inl (kcb, 25, .inl z4)), (fr, .inr (3, [.int w5_0, .int w5_1, .int w5_2, .ref fal, .ref fon])), (fal, .inl (kfal, 25, .inl z6)), (fon, .inl (kfon, 275, .inl z7))] → va_S A s.heap H locs → lv_has ls 5 [] → W p l e R s m args below meth c H locs cells slots Q (F0 m 104 ls [])) : ∀ z : Nat, (∀ (v3 : Int32) (w0_5 : Int32) (w0_6 : Int32) (w5_0 : Int32) (w5_1 : Int32) (w5_2 : Int32) (z1 : Nat → Int32) (z2 : Nat → Int32) (z3 : Nat → Int64) (z6 : Nat → Int32) (z7 : Nat → Int32) (H : Heap) (locs : List Loc) (ls : Array Slot), gi v3 0 24 → gi w0_5 0 24 → gi w5_0 0 24 → gi w5_1 0 5 → gi w5_2 0 5 → ga z2 24 0 23 → 49 + (-2) * v3.toInt < (z : Int) → va_P (dC, dI) vwCl [(h0, .inr (1, [.ref fr, .ref ve, .ref qu, .ref tu, .ref cb, .int w0_5, .int w0_6])), (ve, .inl (kve, 24, .inl z1)), (qu, .inl (kqu, 24, .inl z2)), (tu, .inl (ktu, 24, .inr (.inl z3))), (cb, .inl (kcb, 25, .inl fcb)), (fr, .inr (3, [.int w5_0, .int w5_1, .int w5_2, .ref fal, .ref fon])), (fal, .inl (kfal, 25, .inl z6)), (fon, .inl (kfon, 275, .inl z7))] H → va_D A [(h0, .inr (1, [.ref fr, .ref ve, .ref qu, .ref tu, .ref cb, .int w0_5, .int w0_6])), (ve, .inl (kve, 24, .inl z1)), (qu, .inl (kqu, 24, .inl z2)), (tu, .inl (ktu, 24, .inr (.inl z3))), (cb, .inl (kcb, 25, .inl fcb)), (fr, .inr (3, [.int w5_0, .int w5_1, .int w5_2, .ref fal, .ref fon])), (fal, .inl (kfal, 25, .inl z6)), (fon, .inl (kfon, 275, .inl z7))] → va_S A s.heap H locs → lv_has ls 5 [(0, .ref h0), (1, .ref am), (2, .int p2), (3, .int v3)] → W p l e R s m args below meth c H locs cells slots Q (F0 m 21 ls [])) := by
  intro z
  induction z with
  | zero =>
    intro v3 w0_5 w0_6 w5_0 w5_1 w5_2 z1 z2 z3 z6 z7 H locs ls gv3 gw0_5 gw5_0 gw5_1 gw5_2 gz2 hmu hP hD hS hl
    exact absurd hmu (by have hv31 := gv3.1; have hv32 := gv3.2; omega)
  | succ z ih =>
      intro v3 w0_5 w0_6 w5_0 w5_1 w5_2 z1 z2 z3 z6 z7 H locs ls gv3 gw0_5 gw5_0 gw5_1 gw5_2 gz2 hmu hP hD hS hl
      refine lv_iload_n hx hb (dk_at dkX1_judge 13 rfl) rfl (lv_at hl 3 rfl) ?_
      refine lv_aload_n hx hb (dk_at dkX1_judge 14 rfl) rfl (lv_at hl 0 rfl) ?_
      refine va_get (D := (dC, dI)) (ci := 1) (v := .int w0_5) (C := RX1) (T := TX1) (N := 7) hx hb hts (fun w h => List.mem_cons_of_mem _ (jnGA_X1 w h)) hown hK hP 0 rfl rfl 5 (by decide) (hts _ (List.mem_cons_of_mem _ mGA_106)) (fun _ h9 => h9) rfl (dk_at dkX1_judge 15 rfl) ?_
      refine lv_icmp_ge (tgt := 85) hx hb (dk_at dkX1_judge 16 rfl) (by decide) (fun c_436 => ?_) (fun c_436 => ?_)
      · refine lv_aload_n hx hb (dk_at dkX1_judge 48 rfl) rfl (lv_at hl 0 rfl) ?_
        refine va_get (D := (dC, dI)) (ci := 1) (v := .ref fr) (C := RX1) (T := TX1) (N := 7) hx hb hts (fun w h => List.mem_cons_of_mem _ (jnGA_X1 w h)) hown hK hP 0 rfl rfl 0 (by decide) (hts _ (List.mem_cons_of_mem _ mGA_100)) (fun _ h9 => h9) rfl (dk_at dkX1_judge 49 rfl) ?_
        obtain ⟨hPc, hDc, hFc⟩ := gz_cut (wc := [(fr, .inr (3, [.int w5_0, .int w5_1, .int w5_2, .ref fal, .ref fon])), (fal, .inl (kfal, 25, .inl z6)), (fon, .inl (kfon, 275, .inl z7))]) hP hD hS hA [5, 6, 7] (by decide) rfl
        have hKc := hK.sub (tys' := [(kfal, .int), (kfon, .int)]) [4, 5] rfl
        refine va_calli (va_runV (As := []) (rest := []) ⟨hx, hb, hml, hown, hts⟩ (sX3_fits l dC dI H.size fr fal fon w5_0 w5_1 w5_2 kfal z6 kfon z7 gw5_0 gw5_1 gw5_2) (cwV 0 hts (gz_gV mGA_499 mGA_500 mGA_501 mGA_18 mGA_502 goodGA) rfl rfl rfl (by decide +kernel) ⟨Nat.le_trans (Nat.le_of_ble_eq_true rfl) hRf, Nat.le_trans (Nat.le_of_ble_eq_true rfl) hRl⟩) ⟨bl_I (bl_a bl_sz (bl_a bl_P (bl_a bl_K (bl_a bl_c bl_nz)))), va_recv hKc hPc (ci := 3) (q0 := 0) rfl rfl, fun U hU hW => ⟨rfl, by rw [hU], by rw [hU]; exact hPc, va_K.moved hW.alike hKc, hDc.weaken (fun _ _ _ _ => trivial), nzA_warm hW hz⟩⟩ rfl rfl hl.1 rfl (lv_room (Nat.le_of_ble_eq_true rfl)) (dk_at dkX1_judge 50 rfl) ⟨hRc, hRs⟩) hS (fun q _ h => hFc q h) hFc (fun r_437 u t H1 locs ht hvm hw hB hz1 hk1 hS => ?_)
        obtain ⟨f_438, hB⟩ := hB
        obtain ⟨hP1, hD1⟩ := hB
        rw [ht] at hP1
        obtain ⟨hP, hD⟩ := gz_back hP hD hk1 hFc hP1 hD1 [5, 6, 7] rfl rfl
        obtain ⟨hP, hD⟩ := gz_both (w := [(h0, .inr (1, [.ref fr, .ref ve, .ref qu, .ref tu, .ref cb, .int w0_5, .int w0_6])), (ve, .inl (kve, 24, .inl z1)), (qu, .inl (kqu, 24, .inl z2)), (tu, .inl (ktu, 24, .inr (.inl z3))), (cb, .inl (kcb, 25, .inl fcb)), (fr, .inr (3, [.int w5_0, .int w5_1, .int w5_2, .ref fal, .ref fon])), (fal, .inl (kfal, 25, .inl z6)), (fon, .inl (kfon, 275, .inl f_438))]) hP hD
        generalize H1 = H at hP hS ⊢
        have gr_437 : gi r_437 0 1 := hw
        refine lv_pop hx hb (dk_at dkX1_judge 51 rfl) rfl ?_
        refine lv_aload_n hx hb (dk_at dkX1_judge 52 rfl) rfl (lv_at hl 0 rfl) ?_
        refine va_get (D := (dC, dI)) (ci := 1) (v := .ref fr) (C := RX1) (T := TX1) (N := 7) hx hb hts (fun w h => List.mem_cons_of_mem _ (jnGA_X1 w h)) hown hK hP 0 rfl rfl 0 (by decide) (hts _ (List.mem_cons_of_mem _ mGA_100)) (fun _ h9 => h9) rfl (dk_at dkX1_judge 53 rfl) ?_
        refine lv_aload_n hx hb (dk_at dkX1_judge 54 rfl) rfl (lv_at hl 0 rfl) ?_
        refine va_get (D := (dC, dI)) (ci := 1) (v := .ref cb) (C := RX1) (T := TX1) (N := 7) hx hb hts (fun w h => List.mem_cons_of_mem _ (jnGA_X1 w h)) hown hK hP 0 rfl rfl 4 (by decide) (hts _ (List.mem_cons_of_mem _ mGA_105)) (fun _ h9 => h9) rfl (dk_at dkX1_judge 55 rfl) ?_
        obtain ⟨hPc, hDc, hFc⟩ := gz_cut (wc := [(fr, .inr (3, [.int w5_0, .int w5_1, .int w5_2, .ref fal, .ref fon])), (fal, .inl (kfal, 25, .inl z6)), (fon, .inl (kfon, 275, .inl f_438)), (cb, .inl (kcb, 25, .inl fcb))]) hP hD hS hA [5, 6, 7, 4] (by decide) rfl
        have hKc := hK.sub (tys' := [(kfal, .int), (kfon, .int), (kcb, .int)]) [4, 5, 3] rfl
        refine va_callv (va_runV (As := [.ref cb]) (rest := []) ⟨hx, hb, hml, hown, hts⟩ (sX3_beginsInto l dC dI H.size fr fal fon cb w5_0 w5_1 w5_2 kfal z6 kfon f_438 kcb fcb gw5_0 gw5_1 gw5_2) (cwV 1 hts (gz_gV mGA_511 mGA_512 mGA_513 mGA_18 mGA_514 goodGA) rfl rfl rfl (by decide +kernel) ⟨Nat.le_trans (Nat.le_of_ble_eq_true rfl) hRf, Nat.le_trans (Nat.le_of_ble_eq_true rfl) hRl⟩) ⟨bl_I (bl_a bl_sz (bl_a bl_P (bl_a bl_K (bl_a bl_c bl_nz)))), va_recv hKc hPc (ci := 3) (q0 := 0) rfl rfl, fun U hU hW => ⟨rfl, by rw [hU], by rw [hU]; exact hPc, va_K.moved hW.alike hKc, hDc.weaken (fun _ _ _ _ => trivial), nzA_warm hW hz⟩⟩ rfl rfl hl.1 rfl (lv_room (Nat.le_of_ble_eq_true rfl)) (dk_at dkX1_judge 56 rfl) ⟨hRc, hRs⟩) hS (fun q _ h => hFc q h) hFc (fun u t H1 locs ht hvm hw hB hz1 hk1 hS => ?_)
        obtain ⟨f_440, hB⟩ := hB
        obtain ⟨hP1, hD1⟩ := hB
        rw [ht] at hP1
        obtain ⟨hP, hD⟩ := gz_back hP hD hk1 hFc hP1 hD1 [5, 6, 7, 4] rfl rfl
        obtain ⟨hP, hD⟩ := gz_both (w := [(h0, .inr (1, [.ref fr, .ref ve, .ref qu, .ref tu, .ref cb, .int w0_5, .int w0_6])), (ve, .inl (kve, 24, .inl z1)), (qu, .inl (kqu, 24, .inl z2)), (tu, .inl (ktu, 24, .inr (.inl z3))), (cb, .inl (kcb, 25, .inl f_440)), (fr, .inr (3, [.int w5_0, .int w5_1, .int w5_2, .ref fal, .ref fon])), (fal, .inl (kfal, 25, .inl z6)), (fon, .inl (kfon, 275, .inl f_438))]) hP hD
        generalize H1 = H at hP hS ⊢
        exact kr104 w0_5 w0_6 w5_0 w5_1 w5_2 z1 z2 z3 f_440 z6 f_438 _ _ _ gw0_5 gw5_0 gw5_1 gw5_2 gz2 hP hD hS (lv_sub hl [] rfl)
      · have g_441 : gi v3 0 23 := gi_lt_l (Int32.not_le.mp c_436) gv3 gw0_5 (by decide)
        have g_442 : gi w0_5 1 24 := gi_lt_r (Int32.not_le.mp c_436) gv3 gw0_5 (by decide)
        refine lv_aload_n hx hb (dk_at dkX1_judge 17 rfl) rfl (lv_at hl 0 rfl) ?_
        refine va_get (D := (dC, dI)) (ci := 1) (v := .ref qu) (C := RX1) (T := TX1) (N := 7) hx hb hts (fun w h => List.mem_cons_of_mem _ (jnGA_X1 w h)) hown hK hP 0 rfl rfl 2 (by decide) (hts _ (List.mem_cons_of_mem _ mGA_102)) (fun _ h9 => h9) rfl (dk_at dkX1_judge 18 rfl) ?_
        refine lv_iload_n hx hb (dk_at dkX1_judge 19 rfl) rfl (lv_at hl 3 rfl) ?_
        refine va_iald hx hb hK hP 2 1 rfl rfl (gi_in g_441 (by decide)) (dk_at dkX1_judge 20 rfl) ?_
        refine lv_topi (fun x_443 ex_443 => ?_)
        have gx_443 : gi x_443 0 23 := ga_at gz2 (gi_in g_441 (by decide)) ex_443
        refine lv_istore (lv' := [(4, .int x_443), (0, .ref h0), (1, .ref am), (2, .int p2), (3, .int v3)]) hx hb (dk_at dkX1_judge 21 rfl) hl (by decide) rfl (fun ls hl => ?_)
        refine lv_aload_n hx hb (dk_at dkX1_judge 22 rfl) rfl (lv_at hl 1 rfl) ?_
        refine va_get (D := (dC, dI)) (ci := 1) (v := .ref ve) (C := RX1) (T := TX1) (N := 7) hx hb hts (fun w h => List.mem_cons_of_mem _ (jnGA_X1 w h)) hown hK hP 0 rfl rfl 1 (by decide) (hts _ (List.mem_cons_of_mem _ mGA_101)) (fun _ h9 => h9) rfl (dk_at dkX1_judge 23 rfl) ?_
        refine lv_iload hx hb (dk_at dkX1_judge 24 rfl) (lv_at hl 0 rfl) ?_
        refine lv_aload_n hx hb (dk_at dkX1_judge 25 rfl) rfl (lv_at hl 1 rfl) ?_
        refine lv_aload_n hx hb (dk_at dkX1_judge 26 rfl) rfl (lv_at hl 2 rfl) ?_
        refine lv_aload_n hx hb (dk_at dkX1_judge 27 rfl) rfl (lv_at hl 2 rfl) ?_
        refine va_get (D := (dC, dI)) (ci := 0) (v := .ref re) (C := RX0) (T := TX0) (N := 13) hx hb hts (fun w h => List.mem_cons_of_mem _ (jnGA_X0 w h)) hown hK (gz_ro hR hRA hS) 0 rfl rfl 11 (by decide) (hts _ (List.mem_cons_of_mem _ mGA_447)) (fun _ h9 => h9) rfl (dk_at dkX1_judge 28 rfl) ?_
        refine lv_iload hx hb (dk_at dkX1_judge 29 rfl) (lv_at hl 0 rfl) ?_
        refine va_aldq hx hb hK (gz_ro hR hRA hS) 2 7 rfl rfl (gi_in gx_443 (by decide)) (dk_at dkX1_judge 30 rfl) ?_
        refine W.eq (g2 := F0 m 52 ls [.ref (ra x_443.toNatClampNeg), .ref am, .ref h0, .int x_443, .ref ve]) rfl ?_
        obtain ⟨hPc, hDc, hFc⟩ := gz_cut (wc := [(h0, .inr (1, [.ref fr, .ref ve, .ref qu, .ref tu, .ref cb, .int w0_5, .int w0_6])), (fr, .inr (3, [.int w5_0, .int w5_1, .int w5_2, .ref fal, .ref fon])), (fal, .inl (kfal, 25, .inl z6)), (fon, .inl (kfon, 275, .inl z7))]) hP hD hS hA [0, 5, 6, 7] (by decide) rfl
        have hKc := hK.sub (tys' := [(kfal, .int), (kfon, .int)]) [4, 5] rfl
        have hRc_ : va_P (dC, dI) vwCl [(am, .inr (0, [.int amonths, .int afull, .int alean, .int alines, .int ahasMoon, .int amoonStart, .int amoonStep, .int aplaceCount, .int areportCount, .int adeedCount, .ref pl, .ref re, .ref de])), ((ra x_443.toNatClampNeg), .inr (7, [.int (r_place x_443.toNatClampNeg), .int (r_kind x_443.toNatClampNeg), .int (r_month x_443.toNatClampNeg), .int (r_day x_443.toNatClampNeg), .int (r_known x_443.toNatClampNeg), .int (r_struck x_443.toNatClampNeg)]))] H := (gz_cat ((gz_ro hR hRA hS).sub [0] rfl) (gz_fam1 (gz_ro hF1 hFA1 hS) (gz_clt (gi_in (n := 24) gx_443 (by decide)))))
        have hRa_ : gz_ap (va_A [(h0, .inr (1, [.ref fr, .ref ve, .ref qu, .ref tu, .ref cb, .int w0_5, .int w0_6])), (fr, .inr (3, [.int w5_0, .int w5_1, .int w5_2, .ref fal, .ref fon])), (fal, .inl (kfal, 25, .inl z6)), (fon, .inl (kfon, 275, .inl z7))] H.size) [(am, .inr (0, [.int amonths, .int afull, .int alean, .int alines, .int ahasMoon, .int amoonStart, .int amoonStep, .int aplaceCount, .int areportCount, .int adeedCount, .ref pl, .ref re, .ref de])), ((ra x_443.toNatClampNeg), .inr (7, [.int (r_place x_443.toNatClampNeg), .int (r_kind x_443.toNatClampNeg), .int (r_month x_443.toNatClampNeg), .int (r_day x_443.toNatClampNeg), .int (r_known x_443.toNatClampNeg), .int (r_struck x_443.toNatClampNeg)]))] := (gz_apc (gz_apR (gz_ap1 hRA 0 rfl) hFc) (gz_apR (gz_ap1 hFA1 _ (gz_fam_at (gz_clt (gi_in (n := 24) gx_443 (by decide))))) hFc))
        refine va_calli (va_runV (As := [.ref am, .ref (ra x_443.toNatClampNeg)]) (rest := [.int x_443, .ref ve]) ⟨hx, hb, hml, hown, hts⟩ (sX1_verdictOn l dC dI H.size h0 fr fal fon am (ra x_443.toNatClampNeg) ve qu tu cb w0_5 w0_6 w5_0 w5_1 w5_2 kfal z6 kfon z7 amonths afull alean alines ahasMoon amoonStart amoonStep aplaceCount areportCount adeedCount pl re de (r_place x_443.toNatClampNeg) (r_kind x_443.toNatClampNeg) (r_month x_443.toNatClampNeg) (r_day x_443.toNatClampNeg) (r_known x_443.toNatClampNeg) (r_struck x_443.toNatClampNeg) (gi_w g_442 (by decide)) gw5_0 gw5_1 gw5_2 gamonths gafull galean gahasMoon gaplaceCount gareportCount gadeedCount (ga_ix gr_place (gi_in (n := 24) gx_443 (by decide))) (ga_ix gr_month (gi_in (n := 24) gx_443 (by decide))) (ga_ix gr_struck (gi_in (n := 24) gx_443 (by decide)))) (cwV 2 hts (gz_gV mGA_482 mGA_483 mGA_484 mGA_22 mGA_485 goodGA) rfl rfl rfl (by decide +kernel) ⟨Nat.le_trans (Nat.le_of_ble_eq_true rfl) hRf, Nat.le_trans (Nat.le_of_ble_eq_true rfl) hRl⟩) ⟨bl_I (bl_a bl_sz (bl_a bl_P (bl_a bl_K (bl_a bl_c (bl_a bl_nz (bl_a bl_P bl_c)))))), va_recv hKc hPc (ci := 1) (q0 := 0) rfl rfl, fun U hU hW => ⟨rfl, by rw [hU], by rw [hU]; exact hPc, va_K.moved hW.alike hKc, hDc.weaken (fun _ _ _ _ => trivial), nzA_warm hW hz, by rw [hU]; exact hRc_, hRa_⟩⟩ rfl rfl hl.1 rfl (lv_room (Nat.le_of_ble_eq_true rfl)) (dk_at dkX1_judge 31 rfl) ⟨hRc, hRs⟩) hS (fun q _ h => hFc q h) hFc (fun r_444 u t H1 locs ht hvm hw hB hz1 hk1 hS => ?_)
        obtain ⟨f_445, f_446, hB⟩ := hB
        obtain ⟨hP1, hD1⟩ := hB
        rw [ht] at hP1
        obtain ⟨hP, hD⟩ := gz_back hP hD hk1 hFc hP1 hD1 [0, 5, 6, 7] rfl rfl
        obtain ⟨hP, hD⟩ := gz_both (w := [(h0, .inr (1, [.ref fr, .ref ve, .ref qu, .ref tu, .ref cb, .int w0_5, .int w0_6])), (ve, .inl (kve, 24, .inl z1)), (qu, .inl (kqu, 24, .inl z2)), (tu, .inl (ktu, 24, .inr (.inl z3))), (cb, .inl (kcb, 25, .inl fcb)), (fr, .inr (3, [.int w5_0, .int w5_1, .int w5_2, .ref fal, .ref fon])), (fal, .inl (kfal, 25, .inl f_445)), (fon, .inl (kfon, 275, .inl f_446))]) hP hD
        generalize H1 = H at hP hS ⊢
        have gr_444 : gi r_444 0 2 := hw
        refine va_iast hx hb hK hP hD hS 1 0 rfl rfl (gi_in gx_443 (by decide)) (dk_at dkX1_judge 32 rfl) (fun H locs hP hD hS => ?_)
        obtain ⟨hP, hD⟩ := gz_both (w := [(h0, .inr (1, [.ref fr, .ref ve, .ref qu, .ref tu, .ref cb, .int w0_5, .int w0_6])), (ve, .inl (kve, 24, .inl (upd z1 (x_443 : Int32).toNatClampNeg r_444))), (qu, .inl (kqu, 24, .inl z2)), (tu, .inl (ktu, 24, .inr (.inl z3))), (cb, .inl (kcb, 25, .inl fcb)), (fr, .inr (3, [.int w5_0, .int w5_1, .int w5_2, .ref fal, .ref fon])), (fal, .inl (kfal, 25, .inl f_445)), (fon, .inl (kfon, 275, .inl f_446))]) hP hD
        generalize upd z1 (x_443 : Int32).toNatClampNeg r_444 = f_447 at hP hD
        refine lv_aload_n hx hb (dk_at dkX1_judge 33 rfl) rfl (lv_at hl 1 rfl) ?_
        refine va_get (D := (dC, dI)) (ci := 1) (v := .ref ve) (C := RX1) (T := TX1) (N := 7) hx hb hts (fun w h => List.mem_cons_of_mem _ (jnGA_X1 w h)) hown hK hP 0 rfl rfl 1 (by decide) (hts _ (List.mem_cons_of_mem _ mGA_101)) (fun _ h9 => h9) rfl (dk_at dkX1_judge 34 rfl) ?_
        refine lv_iload hx hb (dk_at dkX1_judge 35 rfl) (lv_at hl 0 rfl) ?_
        refine va_iald hx hb hK hP 1 0 rfl rfl (gi_in gx_443 (by decide)) (dk_at dkX1_judge 36 rfl) ?_
        refine lv_topi (fun x_448 ex_448 => ?_)
        refine lv_if_ne (tgt := 79) hx hb (dk_at dkX1_judge 37 rfl) (by decide) (fun c_449 => ?_) (fun c_449 => ?_)
        · obtain ⟨x_450, ex_450⟩ : ∃ y : Int32, y = v3 + 1 := ⟨_, rfl⟩
          have gx_450 : gi x_450 1 24 := gi_add ex_450 g_441 (gi_c 1 1 (by decide)) (by decide)
          refine lv_iinc (v := x_450) (lv' := [(3, .int x_450), (4, .int x_443), (0, .ref h0), (1, .ref am), (2, .int p2)]) hx hb (dk_at dkX1_judge 46 rfl) hl (k := 4) rfl (by rw [ex_450]; rfl) (by decide) rfl (fun ls hl => ?_)
          refine lv_goto (tgt := 21) hx hb (dk_at dkX1_judge 47 rfl) (by decide) ?_
          exact ih x_450 w0_5 w0_6 w5_0 w5_1 w5_2 f_447 z2 z3 f_445 f_446 _ _ _ (gi_w gx_450 (by decide)) (gi_w g_442 (by decide)) gw5_0 gw5_1 gw5_2 gz2 (by have av3 := gv3.1; have bv3 := gv3.2; have qgx_450 := gx_450.1; have rgx_450 := gx_450.2; have igx_450 : x_450.toInt = v3.toInt + 1 := (by have hc1 : (1 : Int32).toInt = 1 := (by decide); have h9 := gi_addI ex_450 (by have h1 := g_441.1; have h2 := (gi_c 1 1 (by decide)).1; have h3 := g_441.2; have h4 := (gi_c 1 1 (by decide)).2; omega) (by have h1 := g_441.1; have h2 := (gi_c 1 1 (by decide)).1; have h3 := g_441.2; have h4 := (gi_c 1 1 (by decide)).2; omega); rw [hc1] at h9; exact h9); have qgv3 := g_441.1; have rgv3 := g_441.2; omega) hP hD hS (lv_sub hl [2, 3, 4, 0] rfl)
        · have g_451 : gi x_448 0 0 := gi_eq c_449 (gi_c 0 0 (by decide))
          refine lv_aload_n hx hb (dk_at dkX1_judge 38 rfl) rfl (lv_at hl 1 rfl) ?_
          refine lv_dup hx hb (dk_at dkX1_judge 39 rfl) rfl ?_
          refine va_get (D := (dC, dI)) (ci := 1) (v := .int w0_6) (C := RX1) (T := TX1) (N := 7) hx hb hts (fun w h => List.mem_cons_of_mem _ (jnGA_X1 w h)) hown hK hP 0 rfl rfl 6 (by decide) (hts _ (List.mem_cons_of_mem _ mGA_107)) (fun _ h9 => h9) rfl (dk_at dkX1_judge 40 rfl) ?_
          refine lv_iconst (v := 1) hx hb (dk_at dkX1_judge 41 rfl) (by decide) ?_
          refine lv_iload hx hb (dk_at dkX1_judge 42 rfl) (lv_at hl 0 rfl) ?_
          refine lv_ishl hx hb (dk_at dkX1_judge 43 rfl) ?_
          refine lv_topi (fun x_452 ex_452 => ?_)
          refine lv_ior hx hb (dk_at dkX1_judge 44 rfl) ?_
          refine lv_topi (fun x_453 ex_453 => ?_)
          refine va_put (D := (dC, dI)) (ci := 1) (v := .int x_453) (ty := .int) (C := RX1) (T := TX1) (N := 7) hx hb hts (fun w h => List.mem_cons_of_mem _ (jnGA_X1 w h)) tyX1 tyX1_ok nmX1 hown hK hP hD hS 0 rfl rfl 6 (by decide) (hts _ (List.mem_cons_of_mem _ mGA_107)) (fun _ h9 => h9) rfl (by decide +kernel) rfl rfl (Nat.le_of_ble_eq_true rfl) (dk_at dkX1_judge 45 rfl) (fun H locs hP hD hS => ?_)
          obtain ⟨hP, hD⟩ := gz_both (w := [(h0, .inr (1, [.ref fr, .ref ve, .ref qu, .ref tu, .ref cb, .int w0_5, .int x_453])), (ve, .inl (kve, 24, .inl f_447)), (qu, .inl (kqu, 24, .inl z2)), (tu, .inl (ktu, 24, .inr (.inl z3))), (cb, .inl (kcb, 25, .inl fcb)), (fr, .inr (3, [.int w5_0, .int w5_1, .int w5_2, .ref fal, .ref fon])), (fal, .inl (kfal, 25, .inl f_445)), (fon, .inl (kfon, 275, .inl f_446))]) hP hD
          obtain ⟨x_454, ex_454⟩ : ∃ y : Int32, y = v3 + 1 := ⟨_, rfl⟩
          have gx_454 : gi x_454 1 24 := gi_add ex_454 g_441 (gi_c 1 1 (by decide)) (by decide)
          refine lv_iinc (v := x_454) (lv' := [(3, .int x_454), (4, .int x_443), (0, .ref h0), (1, .ref am), (2, .int p2)]) hx hb (dk_at dkX1_judge 46 rfl) hl (k := 4) rfl (by rw [ex_454]; rfl) (by decide) rfl (fun ls hl => ?_)
          refine lv_goto (tgt := 21) hx hb (dk_at dkX1_judge 47 rfl) (by decide) ?_
          exact ih x_454 w0_5 x_453 w5_0 w5_1 w5_2 f_447 z2 z3 f_445 f_446 _ _ _ (gi_w gx_454 (by decide)) (gi_w g_442 (by decide)) gw5_0 gw5_1 gw5_2 gz2 (by have av3 := gv3.1; have bv3 := gv3.2; have qgx_454 := gx_454.1; have rgx_454 := gx_454.2; have igx_454 : x_454.toInt = v3.toInt + 1 := (by have hc1 : (1 : Int32).toInt = 1 := (by decide); have h9 := gi_addI ex_454 (by have h1 := g_441.1; have h2 := (gi_c 1 1 (by decide)).1; have h3 := g_441.2; have h4 := (gi_c 1 1 (by decide)).2; omega) (by have h1 := g_441.1; have h2 := (gi_c 1 1 (by decide)).1; have h3 := g_441.2; have h4 := (gi_c 1 1 (by decide)).2; omega); rw [hc1] at h9; exact h9); have qgv3 := g_441.1; have rgv3 := g_441.2; omega) hP hD hS (lv_sub hl [2, 3, 4, 0] rfl)
abbrev pb_sX1_judge (dC : Nat → ClassId) (dI : Nat → Nat → Nat) (A9 : Nat → Prop) (h0 : Nat) (ve : Nat) (qu : Nat) (tu : Nat) (cb : Nat) (fr : Nat) (fal : Nat) (fon : Nat) (am : Nat) (pl : Nat) (re : Nat) (queueLength : Int32) (takenBits : Int32) (kve : ClassId) (fve : Nat → Int32) (kqu : ClassId) (fqu : Nat → Int32) (ktu : ClassId) (ftu : Nat → Int64) (kcb : ClassId) (fcb : Nat → Int32) (fmonths : Int32) (ffull : Int32) (flean : Int32) (kfal : ClassId) (ffal : Nat → Int32) (kfon : ClassId) (ffon : Nat → Int32) (amonths : Int32) (afull : Int32) (alean : Int32) (alines : Int32) (ahasMoon : Int32) (amoonStart : Int32) (amoonStep : Int32) (aplaceCount : Int32) (areportCount : Int32) (adeedCount : Int32) (de : Nat) (kpl : ClassId) (kre : ClassId) (pa : Nat → Nat) (p_name : Nat → Int32) (p_trust : Nat → Int32) (ra : Nat → Nat) (r_place : Nat → Int32) (r_kind : Nat → Int32) (r_month : Nat → Int32) (r_day : Nat → Int32) (r_known : Nat → Int32) (r_struck : Nat → Int32) (p2 : Int32) (w0_5 : Int32) (w0_6 : Int32) (w5_0 : Int32) (w5_1 : Int32) (w5_2 : Int32) (z1 : Nat → Int32) (z2 : Nat → Int32) (z3 : Nat → Int64) (z4 : Nat → Int32) (z6 : Nat → Int32) (z7 : Nat → Int32) (t : State) : Prop := gi w0_5 0 24 ∧ gi w5_0 0 24 ∧ gi w5_1 0 5 ∧ gi w5_2 0 5 ∧ ga z2 24 0 23 ∧ va_P (dC, dI) vwCl [(h0, .inr (1, [.ref fr, .ref ve, .ref qu, .ref tu, .ref cb, .int w0_5, .int w0_6])), (ve, .inl (kve, 24, .inl z1)), (qu, .inl (kqu, 24, .inl z2)), (tu, .inl (ktu, 24, .inr (.inl z3))), (cb, .inl (kcb, 25, .inl z4)), (fr, .inr (3, [.int w5_0, .int w5_1, .int w5_2, .ref fal, .ref fon])), (fal, .inl (kfal, 25, .inl z6)), (fon, .inl (kfon, 275, .inl z7))] t.heap ∧ va_D A9 [(h0, .inr (1, [.ref fr, .ref ve, .ref qu, .ref tu, .ref cb, .int w0_5, .int w0_6])), (ve, .inl (kve, 24, .inl z1)), (qu, .inl (kqu, 24, .inl z2)), (tu, .inl (ktu, 24, .inr (.inl z3))), (cb, .inl (kcb, 25, .inl z4)), (fr, .inr (3, [.int w5_0, .int w5_1, .int w5_2, .ref fal, .ref fon])), (fal, .inl (kfal, 25, .inl z6)), (fon, .inl (kfon, 275, .inl z7))]
set_option maxHeartbeats 4000000 in
set_option maxRecDepth 100000 in
theorem sX1_judge (l : Launch) (dC : Nat → ClassId) (dI : Nat → Nat → Nat) (sz : Nat) (h0 : Nat) (ve : Nat) (qu : Nat) (tu : Nat) (cb : Nat) (fr : Nat) (fal : Nat) (fon : Nat) (am : Nat) (pl : Nat) (re : Nat) (queueLength : Int32) (takenBits : Int32) (kve : ClassId) (fve : Nat → Int32) (kqu : ClassId) (fqu : Nat → Int32) (ktu : ClassId) (ftu : Nat → Int64) (kcb : ClassId) (fcb : Nat → Int32) (fmonths : Int32) (ffull : Int32) (flean : Int32) (kfal : ClassId) (ffal : Nat → Int32) (kfon : ClassId) (ffon : Nat → Int32) (amonths : Int32) (afull : Int32) (alean : Int32) (alines : Int32) (ahasMoon : Int32) (amoonStart : Int32) (amoonStep : Int32) (aplaceCount : Int32) (areportCount : Int32) (adeedCount : Int32) (de : Nat) (kpl : ClassId) (kre : ClassId) (pa : Nat → Nat) (p_name : Nat → Int32) (p_trust : Nat → Int32) (ra : Nat → Nat) (r_place : Nat → Int32) (r_kind : Nat → Int32) (r_month : Nat → Int32) (r_day : Nat → Int32) (r_known : Nat → Int32) (r_struck : Nat → Int32) (p2 : Int32) (gqueueLength : gi queueLength 0 24) (gfqu : ga fqu 24 0 23) (gfmonths : gi fmonths 0 24) (gffull : gi ffull 0 5) (gflean : gi flean 0 5) (gamonths : gi amonths 0 24) (gafull : gi afull 0 5) (galean : gi alean 0 5) (gahasMoon : gi ahasMoon 0 1) (gaplaceCount : gi aplaceCount 0 6) (gareportCount : gi areportCount 0 24) (gadeedCount : gi adeedCount 0 8) (gr_place : ga r_place 24 0 5) (gr_month : ga r_month 24 0 23) (gr_struck : ga r_struck 24 0 1) : Met l yX1_judge (.code yX1_judge cX1_judge 5 none :: wsGA) ({ frames := 3, cells := 0, slots := 0, locals := 71 }) (va_Pc [.ref h0, .ref am, .int p2] (fun U => U.heap.size = sz ∧ va_P (dC, dI) vwCl [(h0, .inr (1, [.ref fr, .ref ve, .ref qu, .ref tu, .ref cb, .int queueLength, .int takenBits])), (ve, .inl (kve, 24, .inl fve)), (qu, .inl (kqu, 24, .inl fqu)), (tu, .inl (ktu, 24, .inr (.inl ftu))), (cb, .inl (kcb, 25, .inl fcb)), (fr, .inr (3, [.int fmonths, .int ffull, .int flean, .ref fal, .ref fon])), (fal, .inl (kfal, 25, .inl ffal)), (fon, .inl (kfon, 275, .inl ffon))] U.heap ∧ va_K (dC, dI) vwCl [(kve, .int), (kqu, .int), (ktu, .long), (kcb, .int), (kfal, .int), (kfon, .int), (kpl, .object RX5), (kre, .object RX7)] U ∧ va_D (fun _ => True) [(h0, .inr (1, [.ref fr, .ref ve, .ref qu, .ref tu, .ref cb, .int queueLength, .int takenBits])), (ve, .inl (kve, 24, .inl fve)), (qu, .inl (kqu, 24, .inl fqu)), (tu, .inl (ktu, 24, .inr (.inl ftu))), (cb, .inl (kcb, 25, .inl fcb)), (fr, .inr (3, [.int fmonths, .int ffull, .int flean, .ref fal, .ref fon])), (fal, .inl (kfal, 25, .inl ffal)), (fon, .inl (kfon, 275, .inl ffon))] ∧ nzA U ∧ va_P (dC, dI) vwCl [(am, .inr (0, [.int amonths, .int afull, .int alean, .int alines, .int ahasMoon, .int amoonStart, .int amoonStep, .int aplaceCount, .int areportCount, .int adeedCount, .ref pl, .ref re, .ref de])), (pl, .inl (kpl, 6, .inr (.inr (.inr (.inr (fun i => some (pa i))))))), (re, .inl (kre, 24, .inr (.inr (.inr (.inr (fun i => some (ra i)))))))] U.heap ∧ gz_ap (va_A [(h0, .inr (1, [.ref fr, .ref ve, .ref qu, .ref tu, .ref cb, .int queueLength, .int takenBits])), (ve, .inl (kve, 24, .inl fve)), (qu, .inl (kqu, 24, .inl fqu)), (tu, .inl (ktu, 24, .inr (.inl ftu))), (cb, .inl (kcb, 25, .inl fcb)), (fr, .inr (3, [.int fmonths, .int ffull, .int flean, .ref fal, .ref fon])), (fal, .inl (kfal, 25, .inl ffal)), (fon, .inl (kfon, 275, .inl ffon))] sz) [(am, .inr (0, [.int amonths, .int afull, .int alean, .int alines, .int ahasMoon, .int amoonStart, .int amoonStep, .int aplaceCount, .int areportCount, .int adeedCount, .ref pl, .ref re, .ref de])), (pl, .inl (kpl, 6, .inr (.inr (.inr (.inr (fun i => some (pa i))))))), (re, .inl (kre, 24, .inr (.inr (.inr (.inr (fun i => some (ra i)))))))] ∧ va_P (dC, dI) vwCl (gz_fam 6 pa 5 (fun i => [.int (p_name i), .int (p_trust i)])) U.heap ∧ gz_ap (va_A [(h0, .inr (1, [.ref fr, .ref ve, .ref qu, .ref tu, .ref cb, .int queueLength, .int takenBits])), (ve, .inl (kve, 24, .inl fve)), (qu, .inl (kqu, 24, .inl fqu)), (tu, .inl (ktu, 24, .inr (.inl ftu))), (cb, .inl (kcb, 25, .inl fcb)), (fr, .inr (3, [.int fmonths, .int ffull, .int flean, .ref fal, .ref fon])), (fal, .inl (kfal, 25, .inl ffal)), (fon, .inl (kfon, 275, .inl ffon))] sz) (gz_fam 6 pa 5 (fun i => [.int (p_name i), .int (p_trust i)])) ∧ va_P (dC, dI) vwCl (gz_fam 24 ra 7 (fun i => [.int (r_place i), .int (r_kind i), .int (r_month i), .int (r_day i), .int (r_known i), .int (r_struck i)])) U.heap ∧ gz_ap (va_A [(h0, .inr (1, [.ref fr, .ref ve, .ref qu, .ref tu, .ref cb, .int queueLength, .int takenBits])), (ve, .inl (kve, 24, .inl fve)), (qu, .inl (kqu, 24, .inl fqu)), (tu, .inl (ktu, 24, .inr (.inl ftu))), (cb, .inl (kcb, 25, .inl fcb)), (fr, .inr (3, [.int fmonths, .int ffull, .int flean, .ref fal, .ref fon])), (fal, .inl (kfal, 25, .inl ffal)), (fon, .inl (kfon, 275, .inl ffon))] sz) (gz_fam 24 ra 7 (fun i => [.int (r_place i), .int (r_kind i), .int (r_month i), .int (r_day i), .int (r_known i), .int (r_struck i)])))) (va_Qv (fun (u : Unit) => True) (fun _ t => ∃ (w0_5 : Int32) (w0_6 : Int32) (w5_0 : Int32) (w5_1 : Int32) (w5_2 : Int32) (z1 : Nat → Int32) (z2 : Nat → Int32) (z3 : Nat → Int64) (z4 : Nat → Int32) (z6 : Nat → Int32) (z7 : Nat → Int32), pb_sX1_judge dC dI (va_A [(h0, .inr (1, [.ref fr, .ref ve, .ref qu, .ref tu, .ref cb, .int queueLength, .int takenBits])), (ve, .inl (kve, 24, .inl fve)), (qu, .inl (kqu, 24, .inl fqu)), (tu, .inl (ktu, 24, .inr (.inl ftu))), (cb, .inl (kcb, 25, .inl fcb)), (fr, .inr (3, [.int fmonths, .int ffull, .int flean, .ref fal, .ref fon])), (fal, .inl (kfal, 25, .inl ffal)), (fon, .inl (kfon, 275, .inl ffon))] sz) h0 ve qu tu cb fr fal fon am pl re queueLength takenBits kve fve kqu fqu ktu ftu kcb fcb fmonths ffull flean kfal ffal kfon ffon amonths afull alean alines ahasMoon amoonStart amoonStep aplaceCount areportCount adeedCount de kpl kre pa p_name p_trust ra r_place r_kind r_month r_day r_known r_struck p2 w0_5 w0_6 w5_0 w5_1 w5_2 z1 z2 z3 z4 z6 z7 t) (va_A [(h0, .inr (1, [.ref fr, .ref ve, .ref qu, .ref tu, .ref cb, .int queueLength, .int takenBits])), (ve, .inl (kve, 24, .inl fve)), (qu, .inl (kqu, 24, .inl fqu)), (tu, .inl (ktu, 24, .inr (.inl ftu))), (cb, .inl (kcb, 25, .inl fcb)), (fr, .inr (3, [.int fmonths, .int ffull, .int flean, .ref fal, .ref fon])), (fal, .inl (kfal, 25, .inl ffal)), (fon, .inl (kfon, 275, .inl ffon))] sz)) 0 0 (va_A [(h0, .inr (1, [.ref fr, .ref ve, .ref qu, .ref tu, .ref cb, .int queueLength, .int takenBits])), (ve, .inl (kve, 24, .inl fve)), (qu, .inl (kqu, 24, .inl fqu)), (tu, .inl (ktu, 24, .inr (.inl ftu))), (cb, .inl (kcb, 25, .inl fcb)), (fr, .inr (3, [.int fmonths, .int ffull, .int flean, .ref fal, .ref fon])), (fal, .inl (kfal, 25, .inl ffal)), (fon, .inl (kfon, 275, .inl ffon))] sz) := by
  refine Met.ofW (cc := cX1_judge) (maxL := 5) (ret := none) (by decide) rfl ?_
  intro p e s m args below meth c s₁ B hml hv
  obtain ⟨rfl, hsz, hP, hK, hD0, hz, hR, hRA, hF0, hFA0, hF1, hFA1⟩ := hv
  have hx := B.exec
  have hb := B.bytes
  have hr := B.returns
  have hts := atoms_spec (ws := (.code yX1_judge cX1_judge 5 none :: wsGA)) B.pre
  have hown : s.vm.findClass RX1 = some m.cls := findClass_of_methodNamed B.named
  have hlocks := B.notSynchronized
  subst hsz
  have hD := hD0.self (sz := s.heap.size)
  generalize hAe : va_A [(h0, .inr (1, [.ref fr, .ref ve, .ref qu, .ref tu, .ref cb, .int queueLength, .int takenBits])), (ve, .inl (kve, 24, .inl fve)), (qu, .inl (kqu, 24, .inl fqu)), (tu, .inl (ktu, 24, .inr (.inl ftu))), (cb, .inl (kcb, 25, .inl fcb)), (fr, .inr (3, [.int fmonths, .int ffull, .int flean, .ref fal, .ref fon])), (fal, .inl (kfal, 25, .inl ffal)), (fon, .inl (kfon, 275, .inl ffon))] s.heap.size = A at hD hRA hFA0 hFA1 ⊢
  have hA : ∀ q : Nat, s.heap.size ≤ q → A q := fun q h => by rw [← hAe]; exact Or.inr h
  have hS : va_S A s.heap s.heap [] := va_S.rf
  have hl := lv_entry ([.ref h0, .ref am, .int p2]) (n := 5) (Nat.le_of_ble_eq_true rfl)
  rw [lg_entry_eq]
  generalize (lg_sl ([.ref h0, .ref am, .int p2]) ++ List.replicate (5 - (lg_sl ([.ref h0, .ref am, .int p2])).length) Slot.unset).toArray = ls at hl ⊢
  have hl : lv_has ls 5 [(0, .ref h0), (1, .ref am), (2, .int p2)] := hl
  refine lv_aload_n hx hb (dk_at dkX1_judge 0 rfl) rfl (lv_at hl 0 rfl) ?_
  refine lv_aload_n hx hb (dk_at dkX1_judge 1 rfl) rfl (lv_at hl 1 rfl) ?_
  refine lv_iload_n hx hb (dk_at dkX1_judge 2 rfl) rfl (lv_at hl 2 rfl) ?_
  obtain ⟨hPc, hDc, hFc⟩ := gz_cut (wc := [(h0, .inr (1, [.ref fr, .ref ve, .ref qu, .ref tu, .ref cb, .int queueLength, .int takenBits])), (ve, .inl (kve, 24, .inl fve)), (qu, .inl (kqu, 24, .inl fqu)), (tu, .inl (ktu, 24, .inr (.inl ftu)))]) hP hD hS hA [0, 1, 2, 3] (by decide) rfl
  have hKc := hK.sub (tys' := [(kve, .int), (kqu, .int), (ktu, .long), (kpl, .object RX5), (kre, .object RX7)]) [0, 1, 2, 6, 7] rfl
  have hRc_ : va_P (dC, dI) vwCl [(am, .inr (0, [.int amonths, .int afull, .int alean, .int alines, .int ahasMoon, .int amoonStart, .int amoonStep, .int aplaceCount, .int areportCount, .int adeedCount, .ref pl, .ref re, .ref de])), (pl, .inl (kpl, 6, .inr (.inr (.inr (.inr (fun i => some (pa i))))))), (re, .inl (kre, 24, .inr (.inr (.inr (.inr (fun i => some (ra i)))))))] s.heap := (gz_cat ((gz_ro hR hRA hS).sub [0] rfl) (gz_cat ((gz_ro hR hRA hS).sub [1] rfl) ((gz_ro hR hRA hS).sub [2] rfl)))
  have hRa_ : gz_ap (va_A [(h0, .inr (1, [.ref fr, .ref ve, .ref qu, .ref tu, .ref cb, .int queueLength, .int takenBits])), (ve, .inl (kve, 24, .inl fve)), (qu, .inl (kqu, 24, .inl fqu)), (tu, .inl (ktu, 24, .inr (.inl ftu)))] s.heap.size) [(am, .inr (0, [.int amonths, .int afull, .int alean, .int alines, .int ahasMoon, .int amoonStart, .int amoonStep, .int aplaceCount, .int areportCount, .int adeedCount, .ref pl, .ref re, .ref de])), (pl, .inl (kpl, 6, .inr (.inr (.inr (.inr (fun i => some (pa i))))))), (re, .inl (kre, 24, .inr (.inr (.inr (.inr (fun i => some (ra i)))))))] := (gz_apc (gz_apR (gz_ap1 hRA 0 rfl) hFc) (gz_apc (gz_apR (gz_ap1 hRA 1 rfl) hFc) (gz_apR (gz_ap1 hRA 2 rfl) hFc)))
  refine va_callv (va_runV (As := [.ref am, .int p2]) (rest := []) ⟨hx, hb, hml, hown, hts⟩ (sX1_lineUp l dC dI s.heap.size h0 ve qu tu am pl re fr cb queueLength takenBits kve fve kqu fqu ktu ftu amonths afull alean alines ahasMoon amoonStart amoonStep aplaceCount areportCount adeedCount de kpl kre pa p_name p_trust ra r_place r_kind r_month r_day r_known r_struck p2 gqueueLength gfqu gamonths gafull galean gahasMoon gaplaceCount gareportCount gadeedCount gr_place gr_month gr_struck) (cwV 2 hts (gz_gV mGA_448 mGA_449 mGA_450 mGA_22 mGA_451 goodGA) rfl rfl rfl (by decide +kernel) ⟨Nat.le_of_ble_eq_true rfl, Nat.le_of_ble_eq_true rfl⟩) ⟨bl_I (bl_a bl_sz (bl_a bl_P (bl_a bl_K (bl_a bl_c (bl_a bl_nz (bl_a bl_P (bl_a bl_c (bl_a bl_P (bl_a bl_c (bl_a bl_P bl_c)))))))))), va_recv hKc hPc (ci := 1) (q0 := 0) rfl rfl, fun U hU hW => ⟨rfl, by rw [hU], by rw [hU]; exact hPc, va_K.moved hW.alike hKc, hDc.weaken (fun _ _ _ _ => trivial), nzA_warm hW hz, by rw [hU]; exact hRc_, hRa_, by rw [hU]; exact gz_ro hF0 hFA0 hS, gz_apR hFA0 hFc, by rw [hU]; exact gz_ro hF1 hFA1 hS, gz_apR hFA1 hFc⟩⟩ rfl rfl hl.1 rfl (lv_room (Nat.le_of_ble_eq_true rfl)) (dk_at dkX1_judge 3 rfl) ⟨Nat.zero_le _, Nat.zero_le _⟩) hS (fun q _ h => hFc q h) hFc (fun u t H1 locs ht hvm hw hB hz1 hk1 hS => ?_)
  obtain ⟨y_456, f_457, f_458, f_459, hB⟩ := hB
  obtain ⟨gy_456, gf_458, hP1, hD1⟩ := hB
  rw [ht] at hP1
  obtain ⟨hP, hD⟩ := gz_back hP hD hk1 hFc hP1 hD1 [0, 1, 2, 3] rfl rfl
  obtain ⟨hP, hD⟩ := gz_both (w := [(h0, .inr (1, [.ref fr, .ref ve, .ref qu, .ref tu, .ref cb, .int y_456, .int takenBits])), (ve, .inl (kve, 24, .inl f_457)), (qu, .inl (kqu, 24, .inl f_458)), (tu, .inl (ktu, 24, .inr (.inl f_459))), (cb, .inl (kcb, 25, .inl fcb)), (fr, .inr (3, [.int fmonths, .int ffull, .int flean, .ref fal, .ref fon])), (fal, .inl (kfal, 25, .inl ffal)), (fon, .inl (kfon, 275, .inl ffon))]) hP hD
  generalize H1 = H at hP hS ⊢
  refine lv_aload_n hx hb (dk_at dkX1_judge 4 rfl) rfl (lv_at hl 0 rfl) ?_
  refine va_get (D := (dC, dI)) (ci := 1) (v := .ref fr) (C := RX1) (T := TX1) (N := 7) hx hb hts (fun w h => List.mem_cons_of_mem _ (jnGA_X1 w h)) hown hK hP 0 rfl rfl 0 (by decide) (hts _ (List.mem_cons_of_mem _ mGA_100)) (fun _ h9 => h9) rfl (dk_at dkX1_judge 5 rfl) ?_
  refine lv_aload_n hx hb (dk_at dkX1_judge 6 rfl) rfl (lv_at hl 1 rfl) ?_
  obtain ⟨hPc, hDc, hFc⟩ := gz_cut (wc := [(fr, .inr (3, [.int fmonths, .int ffull, .int flean, .ref fal, .ref fon])), (fal, .inl (kfal, 25, .inl ffal))]) hP hD hS hA [5, 6] (by decide) rfl
  have hKc := hK.sub (tys' := [(kfal, .int)]) [4] rfl
  have hRc_ : va_P (dC, dI) vwCl [(am, .inr (0, [.int amonths, .int afull, .int alean, .int alines, .int ahasMoon, .int amoonStart, .int amoonStep, .int aplaceCount, .int areportCount, .int adeedCount, .ref pl, .ref re, .ref de]))] H := ((gz_ro hR hRA hS).sub [0] rfl)
  have hRa_ : gz_ap (va_A [(fr, .inr (3, [.int fmonths, .int ffull, .int flean, .ref fal, .ref fon])), (fal, .inl (kfal, 25, .inl ffal))] H.size) [(am, .inr (0, [.int amonths, .int afull, .int alean, .int alines, .int ahasMoon, .int amoonStart, .int amoonStep, .int aplaceCount, .int areportCount, .int adeedCount, .ref pl, .ref re, .ref de]))] := (gz_apR (gz_ap1 hRA 0 rfl) hFc)
  refine va_callv (va_runV (As := [.ref am]) (rest := []) ⟨hx, hb, hml, hown, hts⟩ (sX3_open l dC dI H.size fr fal am fmonths ffull flean fon kfal ffal amonths afull alean alines ahasMoon amoonStart amoonStep aplaceCount areportCount adeedCount pl re de gfmonths gffull gflean gamonths gafull galean gahasMoon gaplaceCount gareportCount gadeedCount) (cwV 1 hts (gz_gV mGA_472 mGA_473 mGA_474 mGA_18 mGA_475 goodGA) rfl rfl rfl (by decide +kernel) ⟨Nat.le_of_ble_eq_true rfl, Nat.le_of_ble_eq_true rfl⟩) ⟨bl_I (bl_a bl_sz (bl_a bl_P (bl_a bl_K (bl_a bl_c (bl_a bl_nz (bl_a bl_P bl_c)))))), va_recv hKc hPc (ci := 3) (q0 := 0) rfl rfl, fun U hU hW => ⟨rfl, by rw [hU], by rw [hU]; exact hPc, va_K.moved hW.alike hKc, hDc.weaken (fun _ _ _ _ => trivial), nzA_warm hW hz, by rw [hU]; exact hRc_, hRa_⟩⟩ rfl rfl hl.1 rfl (lv_room (Nat.le_of_ble_eq_true rfl)) (dk_at dkX1_judge 7 rfl) ⟨Nat.zero_le _, Nat.zero_le _⟩) hS (fun q _ h => hFc q h) hFc (fun u t H1 locs ht hvm hw hB hz1 hk1 hS => ?_)
  obtain ⟨y_461, y_462, y_463, f_464, hB⟩ := hB
  obtain ⟨gy_461, gy_462, gy_463, hP1, hD1⟩ := hB
  rw [ht] at hP1
  obtain ⟨hP, hD⟩ := gz_back hP hD hk1 hFc hP1 hD1 [5, 6] rfl rfl
  obtain ⟨hP, hD⟩ := gz_both (w := [(h0, .inr (1, [.ref fr, .ref ve, .ref qu, .ref tu, .ref cb, .int y_456, .int takenBits])), (ve, .inl (kve, 24, .inl f_457)), (qu, .inl (kqu, 24, .inl f_458)), (tu, .inl (ktu, 24, .inr (.inl f_459))), (cb, .inl (kcb, 25, .inl fcb)), (fr, .inr (3, [.int y_461, .int y_462, .int y_463, .ref fal, .ref fon])), (fal, .inl (kfal, 25, .inl f_464)), (fon, .inl (kfon, 275, .inl ffon))]) hP hD
  generalize H1 = H at hP hS ⊢
  refine lv_aload_n hx hb (dk_at dkX1_judge 8 rfl) rfl (lv_at hl 0 rfl) ?_
  refine lv_iconst (v := 0) hx hb (dk_at dkX1_judge 9 rfl) (by decide) ?_
  refine va_put (D := (dC, dI)) (ci := 1) (v := .int 0) (ty := .int) (C := RX1) (T := TX1) (N := 7) hx hb hts (fun w h => List.mem_cons_of_mem _ (jnGA_X1 w h)) tyX1 tyX1_ok nmX1 hown hK hP hD hS 0 rfl rfl 6 (by decide) (hts _ (List.mem_cons_of_mem _ mGA_107)) (fun _ h9 => h9) rfl (by decide +kernel) rfl rfl (Nat.le_of_ble_eq_true rfl) (dk_at dkX1_judge 10 rfl) (fun H locs hP hD hS => ?_)
  obtain ⟨hP, hD⟩ := gz_both (w := [(h0, .inr (1, [.ref fr, .ref ve, .ref qu, .ref tu, .ref cb, .int y_456, .int 0])), (ve, .inl (kve, 24, .inl f_457)), (qu, .inl (kqu, 24, .inl f_458)), (tu, .inl (ktu, 24, .inr (.inl f_459))), (cb, .inl (kcb, 25, .inl fcb)), (fr, .inr (3, [.int y_461, .int y_462, .int y_463, .ref fal, .ref fon])), (fal, .inl (kfal, 25, .inl f_464)), (fon, .inl (kfon, 275, .inl ffon))]) hP hD
  refine lv_iconst (v := 0) hx hb (dk_at dkX1_judge 11 rfl) (by decide) ?_
  refine lv_istore_n (lv' := [(3, .int 0), (0, .ref h0), (1, .ref am), (2, .int p2)]) hx hb (dk_at dkX1_judge 12 rfl) rfl hl (by decide) rfl (fun ls hl => ?_)
  refine (lp_sX1_judge h0 ve qu tu cb fr fal fon am pl re queueLength takenBits kve fve kqu fqu ktu ftu kcb fcb fmonths ffull flean kfal ffal kfon ffon amonths afull alean alines ahasMoon amoonStart amoonStep aplaceCount areportCount adeedCount de kpl kre pa p_name p_trust ra r_place r_kind r_month r_day r_known r_struck p2 gqueueLength gfqu gfmonths gffull gflean gamonths gafull galean gahasMoon gaplaceCount gareportCount gadeedCount gr_place gr_month gr_struck hx hb hml hown hts hK hz hR hRA hF0 hFA0 hF1 hFA1 hA (Nat.le_of_ble_eq_true rfl) (Nat.le_of_ble_eq_true rfl) (Nat.zero_le _) (Nat.zero_le _) (fun w0_5 w0_6 w5_0 w5_1 w5_2 z1 z2 z3 z4 z6 z7 H locs ls gw0_5 gw5_0 gw5_1 gw5_2 gz2 hP hD hS hl => ?_) 62) 0 y_456 0 y_461 y_462 y_463 f_457 f_458 f_459 f_464 ffon _ _ _ (gi_w (gi_c 0 0 (by decide)) (by decide)) gy_456 gy_461 gy_462 gy_463 gf_458 (by have k0 : (0 : Int32).toInt = 0 := (by decide); omega) hP hD hS (lv_sub hl [1, 2, 3, 0] rfl)
  · skip
    exact W.vret hx hb hr (fun t ht hW => ⟨⟨(), rfl, trivial, w0_5, w0_6, w5_0, w5_1, w5_2, z1, z2, z3, z4, z6, z7, gw0_5, gw5_0, gw5_1, gw5_2, gz2, by rw [ht]; exact hP, hD⟩, hS.F ht⟩) hS.2.2 (dk_at dkX1_judge 57 rfl)
noncomputable def lsX11_isTold : List (Nat × Instr × Nat) := [(0, .aload_n 0, 1), (1, .getfield 19, 3), (4, .getfield 120, 3), (7, .ifCond .le 7, 3), (10, .iconst 1, 1), (11, .goto 4, 3), (14, .iconst 0, 1), (15, .ireturn, 1)]
theorem dkX11_isTold : dkAll cX11_isTold lsX11_isTold = true := by decide +kernel
noncomputable def bfX11_isTold_15 (amonths : Int32) (s0 : Int32) : Int32 := s0
noncomputable def fX11_isTold (amonths : Int32) : Int32 := if amonths ≤ (0 : Int32) then (bfX11_isTold_15 amonths (0 : Int32)) else (bfX11_isTold_15 amonths (1 : Int32))
set_option maxHeartbeats 4000000 in
set_option maxRecDepth 100000 in
theorem sX11_isTold (l : Launch) (dC : Nat → ClassId) (dI : Nat → Nat → Nat) (h0 : Nat) (am : Nat) (xr : Nat) (xs : Nat) (xf : Nat) (co : Nat) (oc : Nat) (ta : Nat) (xq : Nat) (xh : Nat) (xk : Nat) (xo : Nat) (x_outLength : Int32) (x_courtStands : Int32) (x_courtNews : Int32) (x_tallyStands : Int32) (x_historyStands : Int32) (amonths : Int32) (afull : Int32) (alean : Int32) (alines : Int32) (ahasMoon : Int32) (amoonStart : Int32) (amoonStep : Int32) (aplaceCount : Int32) (areportCount : Int32) (adeedCount : Int32) (pl : Nat) (re : Nat) (de : Nat) (gx_outLength : gi x_outLength 0 72) (gx_courtStands : gi x_courtStands 0 1) (gx_tallyStands : gi x_tallyStands 0 1) (gx_historyStands : gi x_historyStands 0 1) (gamonths : gi amonths 0 24) (gafull : gi afull 0 5) (galean : gi alean 0 5) (gahasMoon : gi ahasMoon 0 1) (gaplaceCount : gi aplaceCount 0 6) (gareportCount : gi areportCount 0 24) (gadeedCount : gi adeedCount 0 8) : Met l yX11_isTold (.code yX11_isTold cX11_isTold 1 (some .boolean) :: wsGA) ({ frames := 0, cells := 0, slots := 0, locals := 0 }) (va_Pc [.ref h0] (fun U => va_P (dC, dI) vwCl [(h0, .inr (11, [.ref xr, .ref am, .ref xs, .ref xf, .ref co, .ref oc, .ref ta, .ref xq, .ref xh, .ref xk, .ref xo, .int x_outLength, .int x_courtStands, .int x_courtNews, .int x_tallyStands, .int x_historyStands])), (am, .inr (0, [.int amonths, .int afull, .int alean, .int alines, .int ahasMoon, .int amoonStart, .int amoonStep, .int aplaceCount, .int areportCount, .int adeedCount, .ref pl, .ref re, .ref de]))] U.heap ∧ va_K (dC, dI) vwCl [] U ∧ nzA U)) (va_Qi (fun (r : Int32) (u : Unit) => (gi r 0 1) ∧ r = fX11_isTold amonths) (fun _ _ => True) (fun _ => False)) 0 0 (fun _ => False) := by
  refine Met.ofW (cc := cX11_isTold) (maxL := 1) (ret := (some .boolean)) (by decide) rfl ?_
  intro p e s m args below meth c s₁ B hml hv
  obtain ⟨rfl, hP, hK, hz⟩ := hv
  have hx := B.exec
  have hb := B.bytes
  have hr := B.returns
  have hts := atoms_spec (ws := (.code yX11_isTold cX11_isTold 1 (some .boolean) :: wsGA)) B.pre
  have hown : s.vm.findClass RX11 = some m.cls := findClass_of_methodNamed B.named
  have hlocks := B.notSynchronized
  have hS : va_S (fun _ => False) s.heap s.heap [] := va_S.rf
  have hl := lv_entry ([.ref h0]) (n := 1) (Nat.le_of_ble_eq_true rfl)
  rw [lg_entry_eq]
  generalize (lg_sl ([.ref h0]) ++ List.replicate (1 - (lg_sl ([.ref h0])).length) Slot.unset).toArray = ls at hl ⊢
  have hl : lv_has ls 1 [(0, .ref h0)] := hl
  obtain ⟨RES, hF⟩ : ∃ R9, fX11_isTold amonths = R9 := ⟨_, rfl⟩
  have hR9 := hF
  refine lv_aload_n hx hb (dk_at dkX11_isTold 0 rfl) rfl (lv_at hl 0 rfl) ?_
  refine va_get (D := (dC, dI)) (ci := 11) (v := .ref am) (C := RX11) (T := TX11) (N := 16) hx hb hts (fun w h => List.mem_cons_of_mem _ (jnGA_X11 w h)) hown hK hP 0 rfl rfl 1 (by decide) (hts _ (List.mem_cons_of_mem _ mGA_14)) (fun _ h9 => h9) rfl (dk_at dkX11_isTold 1 rfl) ?_
  refine va_get (D := (dC, dI)) (ci := 0) (v := .int amonths) (C := RX0) (T := TX0) (N := 13) hx hb hts (fun w h => List.mem_cons_of_mem _ (jnGA_X0 w h)) hown hK hP 1 rfl rfl 0 (by decide) (hts _ (List.mem_cons_of_mem _ mGA_353)) (fun _ h9 => h9) rfl (dk_at dkX11_isTold 2 rfl) ?_
  refine lv_if_le (tgt := 14) hx hb (dk_at dkX11_isTold 3 rfl) (by decide) (fun c_4 => ?_) (fun c_4 => ?_)
  · have hF := gf_pos c_4 hF
    have g_5 : gi amonths 0 0 := gi_le_l c_4 gamonths (gi_c 0 0 (by decide))
    refine lv_iconst (v := 0) hx hb (dk_at dkX11_isTold 6 rfl) (by decide) ?_
    exact W.zret (v := 0) hx hb hr (by decide) (fun t ht hW => ⟨⟨0, (), rfl, ⟨(gi_w (gi_c 0 0 (by decide)) (by decide)), hF.trans hR9.symm⟩, trivial⟩, hS.F ht⟩) hS.2.2 (dk_at dkX11_isTold 7 rfl)
  · have hF := gf_neg c_4 hF
    have g_6 : gi amonths 1 24 := gi_lt_r (Int32.not_le.mp c_4) (gi_c 0 0 (by decide)) gamonths (by decide)
    refine lv_iconst (v := 1) hx hb (dk_at dkX11_isTold 4 rfl) (by decide) ?_
    refine lv_goto (tgt := 15) hx hb (dk_at dkX11_isTold 5 rfl) (by decide) ?_
    exact W.zret (v := 1) hx hb hr (by decide) (fun t ht hW => ⟨⟨1, (), rfl, ⟨(gi_w (gi_c 1 1 (by decide)) (by decide)), hF.trans hR9.symm⟩, trivial⟩, hS.F ht⟩) hS.2.2 (dk_at dkX11_isTold 7 rfl)
noncomputable def lsX11_hasTime : List (Nat × Instr × Nat) := [(0, .aload_n 0, 1), (1, .invokevirtual 395, 3), (4, .ifCond .eq 18, 3), (7, .iload_n 1, 1), (8, .ifCond .lt 14, 3), (11, .iload_n 1, 1), (12, .sipush 999, 3), (15, .if_icmp .gt 7, 3), (18, .iconst 1, 1), (19, .goto 4, 3), (22, .iconst 0, 1), (23, .ireturn, 1)]
theorem dkX11_hasTime : dkAll cX11_hasTime lsX11_hasTime = true := by decide +kernel
noncomputable def bfX11_hasTime_23 (amonths : Int32) (p1 : Int32) (s0 : Int32) : Int32 := s0
noncomputable def bfX11_hasTime_22 (amonths : Int32) (p1 : Int32) : Int32 := bfX11_hasTime_23 amonths p1 (0 : Int32)
noncomputable def fX11_hasTime (amonths : Int32) (p1 : Int32) : Int32 := cal (fun o1 => if o1 = (0 : Int32) then (bfX11_hasTime_22 amonths p1) else (if p1 < (0 : Int32) then (bfX11_hasTime_22 amonths p1) else (if (999 : Int32) < p1 then (bfX11_hasTime_22 amonths p1) else (bfX11_hasTime_23 amonths p1 (1 : Int32))))) (fX11_isTold amonths)
set_option maxHeartbeats 4000000 in
set_option maxRecDepth 100000 in
theorem sX11_hasTime (l : Launch) (dC : Nat → ClassId) (dI : Nat → Nat → Nat) (h0 : Nat) (am : Nat) (xr : Nat) (xs : Nat) (xf : Nat) (co : Nat) (oc : Nat) (ta : Nat) (xq : Nat) (xh : Nat) (xk : Nat) (xo : Nat) (x_outLength : Int32) (x_courtStands : Int32) (x_courtNews : Int32) (x_tallyStands : Int32) (x_historyStands : Int32) (amonths : Int32) (afull : Int32) (alean : Int32) (alines : Int32) (ahasMoon : Int32) (amoonStart : Int32) (amoonStep : Int32) (aplaceCount : Int32) (areportCount : Int32) (adeedCount : Int32) (pl : Nat) (re : Nat) (de : Nat) (p1 : Int32) (gx_outLength : gi x_outLength 0 72) (gx_courtStands : gi x_courtStands 0 1) (gx_tallyStands : gi x_tallyStands 0 1) (gx_historyStands : gi x_historyStands 0 1) (gamonths : gi amonths 0 24) (gafull : gi afull 0 5) (galean : gi alean 0 5) (gahasMoon : gi ahasMoon 0 1) (gaplaceCount : gi aplaceCount 0 6) (gareportCount : gi areportCount 0 24) (gadeedCount : gi adeedCount 0 8) : Met l yX11_hasTime (.code yX11_hasTime cX11_hasTime 2 (some .boolean) :: wsGA) ({ frames := 1, cells := 0, slots := 0, locals := 20 }) (va_Pc [.ref h0, .int p1] (fun U => va_P (dC, dI) vwCl [(h0, .inr (11, [.ref xr, .ref am, .ref xs, .ref xf, .ref co, .ref oc, .ref ta, .ref xq, .ref xh, .ref xk, .ref xo, .int x_outLength, .int x_courtStands, .int x_courtNews, .int x_tallyStands, .int x_historyStands])), (am, .inr (0, [.int amonths, .int afull, .int alean, .int alines, .int ahasMoon, .int amoonStart, .int amoonStep, .int aplaceCount, .int areportCount, .int adeedCount, .ref pl, .ref re, .ref de]))] U.heap ∧ va_K (dC, dI) vwCl [] U ∧ nzA U)) (va_Qi (fun (r : Int32) (u : Unit) => (gi r 0 1 ∧ (r.toInt = 1 → gi p1 0 999)) ∧ r = fX11_hasTime amonths p1) (fun _ _ => True) (fun _ => False)) 0 0 (fun _ => False) := by
  refine Met.ofW (cc := cX11_hasTime) (maxL := 2) (ret := (some .boolean)) (by decide) rfl ?_
  intro p e s m args below meth c s₁ B hml hv
  obtain ⟨rfl, hP, hK, hz⟩ := hv
  have hx := B.exec
  have hb := B.bytes
  have hr := B.returns
  have hts := atoms_spec (ws := (.code yX11_hasTime cX11_hasTime 2 (some .boolean) :: wsGA)) B.pre
  have hown : s.vm.findClass RX11 = some m.cls := findClass_of_methodNamed B.named
  have hlocks := B.notSynchronized
  have hS : va_S (fun _ => False) s.heap s.heap [] := va_S.rf
  have hl := lv_entry ([.ref h0, .int p1]) (n := 2) (Nat.le_of_ble_eq_true rfl)
  rw [lg_entry_eq]
  generalize (lg_sl ([.ref h0, .int p1]) ++ List.replicate (2 - (lg_sl ([.ref h0, .int p1])).length) Slot.unset).toArray = ls at hl ⊢
  have hl : lv_has ls 2 [(0, .ref h0), (1, .int p1)] := hl
  obtain ⟨RES, hF⟩ : ∃ R9, fX11_hasTime amonths p1 = R9 := ⟨_, rfl⟩
  have hR9 := hF
  refine lv_aload_n hx hb (dk_at dkX11_hasTime 0 rfl) rfl (lv_at hl 0 rfl) ?_
  have hPc := hP.sub (ws' := [(h0, .inr (11, [.ref xr, .ref am, .ref xs, .ref xf, .ref co, .ref oc, .ref ta, .ref xq, .ref xh, .ref xk, .ref xo, .int x_outLength, .int x_courtStands, .int x_courtNews, .int x_tallyStands, .int x_historyStands])), (am, .inr (0, [.int amonths, .int afull, .int alean, .int alines, .int ahasMoon, .int amoonStart, .int amoonStep, .int aplaceCount, .int areportCount, .int adeedCount, .ref pl, .ref re, .ref de]))]) [0, 1] rfl
  have hKc := hK.sub (tys' := []) [] rfl
  refine va_calli (va_runV (As := []) (rest := []) ⟨hx, hb, hml, hown, hts⟩ (sX11_isTold l dC dI h0 am xr xs xf co oc ta xq xh xk xo x_outLength x_courtStands x_courtNews x_tallyStands x_historyStands amonths afull alean alines ahasMoon amoonStart amoonStep aplaceCount areportCount adeedCount pl re de gx_outLength gx_courtStands gx_tallyStands gx_historyStands gamonths gafull galean gahasMoon gaplaceCount gareportCount gadeedCount) (cwV 0 hts (gz_gV mGA_412 mGA_413 mGA_414 mGA_1 mGA_415 goodGA) rfl rfl rfl (by decide +kernel) ⟨Nat.le_of_ble_eq_true rfl, Nat.le_of_ble_eq_true rfl⟩) ⟨bl_I (bl_a bl_P (bl_a bl_K bl_nz)), va_recv hKc hPc (ci := 11) (q0 := 0) rfl rfl, fun U hU hW => ⟨rfl, by rw [hU]; exact hPc, va_K.moved hW.alike hKc, nzA_warm hW hz⟩⟩ rfl rfl hl.1 rfl (lv_room (Nat.le_of_ble_eq_true rfl)) (dk_at dkX11_hasTime 1 rfl) ⟨Nat.zero_le _, Nat.zero_le _⟩) hS (fun q _ h => h.elim) (fun q h => h.elim) (fun r_11 u t H1 locs ht hvm hw hB hz1 hk1 hS => ?_)
  obtain ⟨hw, hE⟩ := hw
  have hP := gz_keep hP hk1
  have hF := gf_call (a := r_11) hE hF
  generalize H1 = H at hP hS ⊢
  have gr_11 : gi r_11 0 1 := hw
  refine lv_if_eq (tgt := 22) hx hb (dk_at dkX11_hasTime 2 rfl) (by decide) (fun c_12 => ?_) (fun c_12 => ?_)
  · have hF := gf_pos c_12 hF
    have g_13 : gi r_11 0 0 := gi_eq c_12 (gi_c 0 0 (by decide))
    refine lv_iconst (v := 0) hx hb (dk_at dkX11_hasTime 10 rfl) (by decide) ?_
    exact W.zret (v := 0) hx hb hr (by decide) (fun t ht hW => ⟨⟨0, (), rfl, ⟨⟨(gi_w (gi_c 0 0 (by decide)) (by decide)), (fun h => absurd h (by decide))⟩, hF.trans hR9.symm⟩, trivial⟩, hS.F ht⟩) hS.2.2 (dk_at dkX11_hasTime 11 rfl)
  · have hF := gf_neg c_12 hF
    have g_14 : gi r_11 1 1 := gi_ne_lo c_12 gr_11 (gi_c 0 0 (by decide)) (by decide)
    refine lv_iload_n hx hb (dk_at dkX11_hasTime 3 rfl) rfl (lv_at hl 1 rfl) ?_
    refine lv_if_lt (tgt := 22) hx hb (dk_at dkX11_hasTime 4 rfl) (by decide) (fun c_15 => ?_) (fun c_15 => ?_)
    · have hF := gf_pos c_15 hF
      have g_16 : gi p1 (-2147483648) (-1) := gi_lt_l c_15 (gi_any p1) (gi_c 0 0 (by decide)) (by decide)
      refine lv_iconst (v := 0) hx hb (dk_at dkX11_hasTime 10 rfl) (by decide) ?_
      exact W.zret (v := 0) hx hb hr (by decide) (fun t ht hW => ⟨⟨0, (), rfl, ⟨⟨(gi_w (gi_c 0 0 (by decide)) (by decide)), (fun h => absurd h (by decide))⟩, hF.trans hR9.symm⟩, trivial⟩, hS.F ht⟩) hS.2.2 (dk_at dkX11_hasTime 11 rfl)
    · have hF := gf_neg c_15 hF
      have g_17 : gi p1 0 2147483647 := gi_le_r (Int32.not_lt.mp c_15) (gi_c 0 0 (by decide)) (gi_any p1)
      refine lv_iload_n hx hb (dk_at dkX11_hasTime 5 rfl) rfl (lv_at hl 1 rfl) ?_
      refine lv_sipush (v := 999) hx hb (dk_at dkX11_hasTime 6 rfl) (by decide) ?_
      refine lv_icmp_gt (tgt := 22) hx hb (dk_at dkX11_hasTime 7 rfl) (by decide) (fun c_18 => ?_) (fun c_18 => ?_)
      · have hF := gf_pos c_18 hF
        have g_19 : gi p1 1000 2147483647 := gi_lt_r c_18 (gi_c 999 999 (by decide)) g_17 (by decide)
        refine lv_iconst (v := 0) hx hb (dk_at dkX11_hasTime 10 rfl) (by decide) ?_
        exact W.zret (v := 0) hx hb hr (by decide) (fun t ht hW => ⟨⟨0, (), rfl, ⟨⟨(gi_w (gi_c 0 0 (by decide)) (by decide)), (fun h => absurd h (by decide))⟩, hF.trans hR9.symm⟩, trivial⟩, hS.F ht⟩) hS.2.2 (dk_at dkX11_hasTime 11 rfl)
      · have hF := gf_neg c_18 hF
        have g_20 : gi p1 0 999 := gi_le_l (Int32.not_lt.mp c_18) g_17 (gi_c 999 999 (by decide))
        refine lv_iconst (v := 1) hx hb (dk_at dkX11_hasTime 8 rfl) (by decide) ?_
        refine lv_goto (tgt := 23) hx hb (dk_at dkX11_hasTime 9 rfl) (by decide) ?_
        exact W.zret (v := 1) hx hb hr (by decide) (fun t ht hW => ⟨⟨1, (), rfl, ⟨⟨(gi_w (gi_c 1 1 (by decide)) (by decide)), (fun _ => g_20)⟩, hF.trans hR9.symm⟩, trivial⟩, hS.F ht⟩) hS.2.2 (dk_at dkX11_hasTime 11 rfl)
noncomputable def lsX11_hasMonth : List (Nat × Instr × Nat) := [(0, .aload_n 0, 1), (1, .invokevirtual 395, 3), (4, .ifCond .eq 17, 3), (7, .iload_n 1, 1), (8, .iload_n 2, 1), (9, .if_icmp .lt 12, 3), (12, .iload_n 1, 1), (13, .iload_n 3, 1), (14, .if_icmp .gt 7, 3), (17, .iconst 1, 1), (18, .goto 4, 3), (21, .iconst 0, 1), (22, .ireturn, 1)]
theorem dkX11_hasMonth : dkAll cX11_hasMonth lsX11_hasMonth = true := by decide +kernel
noncomputable def bfX11_hasMonth_22 (amonths : Int32) (p1 : Int32) (p2 : Int32) (p3 : Int32) (s0 : Int32) : Int32 := s0
noncomputable def bfX11_hasMonth_21 (amonths : Int32) (p1 : Int32) (p2 : Int32) (p3 : Int32) : Int32 := bfX11_hasMonth_22 amonths p1 p2 p3 (0 : Int32)
noncomputable def fX11_hasMonth (amonths : Int32) (p1 : Int32) (p2 : Int32) (p3 : Int32) : Int32 := cal (fun o1 => if o1 = (0 : Int32) then (bfX11_hasMonth_21 amonths p1 p2 p3) else (if p1 < p2 then (bfX11_hasMonth_21 amonths p1 p2 p3) else (if p3 < p1 then (bfX11_hasMonth_21 amonths p1 p2 p3) else (bfX11_hasMonth_22 amonths p1 p2 p3 (1 : Int32))))) (fX11_isTold amonths)
set_option maxHeartbeats 4000000 in
set_option maxRecDepth 100000 in
theorem sX11_hasMonthA (l : Launch) (dC : Nat → ClassId) (dI : Nat → Nat → Nat) (h0 : Nat) (am : Nat) (xr : Nat) (xs : Nat) (xf : Nat) (co : Nat) (oc : Nat) (ta : Nat) (xq : Nat) (xh : Nat) (xk : Nat) (xo : Nat) (x_outLength : Int32) (x_courtStands : Int32) (x_courtNews : Int32) (x_tallyStands : Int32) (x_historyStands : Int32) (amonths : Int32) (afull : Int32) (alean : Int32) (alines : Int32) (ahasMoon : Int32) (amoonStart : Int32) (amoonStep : Int32) (aplaceCount : Int32) (areportCount : Int32) (adeedCount : Int32) (pl : Nat) (re : Nat) (de : Nat) (p1 : Int32) (p2 : Int32) (p3 : Int32) (gx_outLength : gi x_outLength 0 72) (gx_courtStands : gi x_courtStands 0 1) (gx_tallyStands : gi x_tallyStands 0 1) (gx_historyStands : gi x_historyStands 0 1) (gamonths : gi amonths 0 24) (gafull : gi afull 0 5) (galean : gi alean 0 5) (gahasMoon : gi ahasMoon 0 1) (gaplaceCount : gi aplaceCount 0 6) (gareportCount : gi areportCount 0 24) (gadeedCount : gi adeedCount 0 8) (gp2 : gi p2 0 1) (gp3 : gi p3 (-1) 23) : Met l yX11_hasMonth (.code yX11_hasMonth cX11_hasMonth 4 (some .boolean) :: wsGA) ({ frames := 1, cells := 0, slots := 0, locals := 20 }) (va_Pc [.ref h0, .int p1, .int p2, .int p3] (fun U => va_P (dC, dI) vwCl [(h0, .inr (11, [.ref xr, .ref am, .ref xs, .ref xf, .ref co, .ref oc, .ref ta, .ref xq, .ref xh, .ref xk, .ref xo, .int x_outLength, .int x_courtStands, .int x_courtNews, .int x_tallyStands, .int x_historyStands])), (am, .inr (0, [.int amonths, .int afull, .int alean, .int alines, .int ahasMoon, .int amoonStart, .int amoonStep, .int aplaceCount, .int areportCount, .int adeedCount, .ref pl, .ref re, .ref de]))] U.heap ∧ va_K (dC, dI) vwCl [] U ∧ nzA U)) (va_Qi (fun (r : Int32) (u : Unit) => (gi r 0 1 ∧ (r.toInt = 1 → gi p1 0 23)) ∧ r = fX11_hasMonth amonths p1 p2 p3) (fun _ _ => True) (fun _ => False)) 0 0 (fun _ => False) := by
  refine Met.ofW (cc := cX11_hasMonth) (maxL := 4) (ret := (some .boolean)) (by decide) rfl ?_
  intro p e s m args below meth c s₁ B hml hv
  obtain ⟨rfl, hP, hK, hz⟩ := hv
  have hx := B.exec
  have hb := B.bytes
  have hr := B.returns
  have hts := atoms_spec (ws := (.code yX11_hasMonth cX11_hasMonth 4 (some .boolean) :: wsGA)) B.pre
  have hown : s.vm.findClass RX11 = some m.cls := findClass_of_methodNamed B.named
  have hlocks := B.notSynchronized
  have hS : va_S (fun _ => False) s.heap s.heap [] := va_S.rf
  have hl := lv_entry ([.ref h0, .int p1, .int p2, .int p3]) (n := 4) (Nat.le_of_ble_eq_true rfl)
  rw [lg_entry_eq]
  generalize (lg_sl ([.ref h0, .int p1, .int p2, .int p3]) ++ List.replicate (4 - (lg_sl ([.ref h0, .int p1, .int p2, .int p3])).length) Slot.unset).toArray = ls at hl ⊢
  have hl : lv_has ls 4 [(0, .ref h0), (1, .int p1), (2, .int p2), (3, .int p3)] := hl
  obtain ⟨RES, hF⟩ : ∃ R9, fX11_hasMonth amonths p1 p2 p3 = R9 := ⟨_, rfl⟩
  have hR9 := hF
  refine lv_aload_n hx hb (dk_at dkX11_hasMonth 0 rfl) rfl (lv_at hl 0 rfl) ?_
  have hPc := hP.sub (ws' := [(h0, .inr (11, [.ref xr, .ref am, .ref xs, .ref xf, .ref co, .ref oc, .ref ta, .ref xq, .ref xh, .ref xk, .ref xo, .int x_outLength, .int x_courtStands, .int x_courtNews, .int x_tallyStands, .int x_historyStands])), (am, .inr (0, [.int amonths, .int afull, .int alean, .int alines, .int ahasMoon, .int amoonStart, .int amoonStep, .int aplaceCount, .int areportCount, .int adeedCount, .ref pl, .ref re, .ref de]))]) [0, 1] rfl
  have hKc := hK.sub (tys' := []) [] rfl
  refine va_calli (va_runV (As := []) (rest := []) ⟨hx, hb, hml, hown, hts⟩ (sX11_isTold l dC dI h0 am xr xs xf co oc ta xq xh xk xo x_outLength x_courtStands x_courtNews x_tallyStands x_historyStands amonths afull alean alines ahasMoon amoonStart amoonStep aplaceCount areportCount adeedCount pl re de gx_outLength gx_courtStands gx_tallyStands gx_historyStands gamonths gafull galean gahasMoon gaplaceCount gareportCount gadeedCount) (cwV 0 hts (gz_gV mGA_412 mGA_413 mGA_414 mGA_1 mGA_415 goodGA) rfl rfl rfl (by decide +kernel) ⟨Nat.le_of_ble_eq_true rfl, Nat.le_of_ble_eq_true rfl⟩) ⟨bl_I (bl_a bl_P (bl_a bl_K bl_nz)), va_recv hKc hPc (ci := 11) (q0 := 0) rfl rfl, fun U hU hW => ⟨rfl, by rw [hU]; exact hPc, va_K.moved hW.alike hKc, nzA_warm hW hz⟩⟩ rfl rfl hl.1 rfl (lv_room (Nat.le_of_ble_eq_true rfl)) (dk_at dkX11_hasMonth 1 rfl) ⟨Nat.zero_le _, Nat.zero_le _⟩) hS (fun q _ h => h.elim) (fun q h => h.elim) (fun r_11 u t H1 locs ht hvm hw hB hz1 hk1 hS => ?_)
  obtain ⟨hw, hE⟩ := hw
  have hP := gz_keep hP hk1
  have hF := gf_call (a := r_11) hE hF
  generalize H1 = H at hP hS ⊢
  have gr_11 : gi r_11 0 1 := hw
  refine lv_if_eq (tgt := 21) hx hb (dk_at dkX11_hasMonth 2 rfl) (by decide) (fun c_12 => ?_) (fun c_12 => ?_)
  · have hF := gf_pos c_12 hF
    have g_13 : gi r_11 0 0 := gi_eq c_12 (gi_c 0 0 (by decide))
    refine lv_iconst (v := 0) hx hb (dk_at dkX11_hasMonth 11 rfl) (by decide) ?_
    exact W.zret (v := 0) hx hb hr (by decide) (fun t ht hW => ⟨⟨0, (), rfl, ⟨⟨(gi_w (gi_c 0 0 (by decide)) (by decide)), (fun h => absurd h (by decide))⟩, hF.trans hR9.symm⟩, trivial⟩, hS.F ht⟩) hS.2.2 (dk_at dkX11_hasMonth 12 rfl)
  · have hF := gf_neg c_12 hF
    have g_14 : gi r_11 1 1 := gi_ne_lo c_12 gr_11 (gi_c 0 0 (by decide)) (by decide)
    refine lv_iload_n hx hb (dk_at dkX11_hasMonth 3 rfl) rfl (lv_at hl 1 rfl) ?_
    refine lv_iload_n hx hb (dk_at dkX11_hasMonth 4 rfl) rfl (lv_at hl 2 rfl) ?_
    refine lv_icmp_lt (tgt := 21) hx hb (dk_at dkX11_hasMonth 5 rfl) (by decide) (fun c_15 => ?_) (fun c_15 => ?_)
    · have hF := gf_pos c_15 hF
      have g_16 : gi p1 (-2147483648) 0 := gi_lt_l c_15 (gi_any p1) gp2 (by decide)
      refine lv_iconst (v := 0) hx hb (dk_at dkX11_hasMonth 11 rfl) (by decide) ?_
      exact W.zret (v := 0) hx hb hr (by decide) (fun t ht hW => ⟨⟨0, (), rfl, ⟨⟨(gi_w (gi_c 0 0 (by decide)) (by decide)), (fun h => absurd h (by decide))⟩, hF.trans hR9.symm⟩, trivial⟩, hS.F ht⟩) hS.2.2 (dk_at dkX11_hasMonth 12 rfl)
    · have hF := gf_neg c_15 hF
      have g_17 : gi p1 0 2147483647 := gi_le_r (Int32.not_lt.mp c_15) gp2 (gi_any p1)
      refine lv_iload_n hx hb (dk_at dkX11_hasMonth 6 rfl) rfl (lv_at hl 1 rfl) ?_
      refine lv_iload_n hx hb (dk_at dkX11_hasMonth 7 rfl) rfl (lv_at hl 3 rfl) ?_
      refine lv_icmp_gt (tgt := 21) hx hb (dk_at dkX11_hasMonth 8 rfl) (by decide) (fun c_18 => ?_) (fun c_18 => ?_)
      · have hF := gf_pos c_18 hF
        refine lv_iconst (v := 0) hx hb (dk_at dkX11_hasMonth 11 rfl) (by decide) ?_
        exact W.zret (v := 0) hx hb hr (by decide) (fun t ht hW => ⟨⟨0, (), rfl, ⟨⟨(gi_w (gi_c 0 0 (by decide)) (by decide)), (fun h => absurd h (by decide))⟩, hF.trans hR9.symm⟩, trivial⟩, hS.F ht⟩) hS.2.2 (dk_at dkX11_hasMonth 12 rfl)
      · have hF := gf_neg c_18 hF
        have g_19 : gi p1 0 23 := gi_le_l (Int32.not_lt.mp c_18) g_17 gp3
        have g_20 : gi p3 0 23 := gi_le_r (Int32.not_lt.mp c_18) g_17 gp3
        refine lv_iconst (v := 1) hx hb (dk_at dkX11_hasMonth 9 rfl) (by decide) ?_
        refine lv_goto (tgt := 22) hx hb (dk_at dkX11_hasMonth 10 rfl) (by decide) ?_
        exact W.zret (v := 1) hx hb hr (by decide) (fun t ht hW => ⟨⟨1, (), rfl, ⟨⟨(gi_w (gi_c 1 1 (by decide)) (by decide)), (fun _ => g_19)⟩, hF.trans hR9.symm⟩, trivial⟩, hS.F ht⟩) hS.2.2 (dk_at dkX11_hasMonth 12 rfl)
set_option maxHeartbeats 4000000 in
set_option maxRecDepth 100000 in
theorem sX11_hasMonthB (l : Launch) (dC : Nat → ClassId) (dI : Nat → Nat → Nat) (h0 : Nat) (am : Nat) (xr : Nat) (xs : Nat) (xf : Nat) (co : Nat) (oc : Nat) (ta : Nat) (xq : Nat) (xh : Nat) (xk : Nat) (xo : Nat) (x_outLength : Int32) (x_courtStands : Int32) (x_courtNews : Int32) (x_tallyStands : Int32) (x_historyStands : Int32) (amonths : Int32) (afull : Int32) (alean : Int32) (alines : Int32) (ahasMoon : Int32) (amoonStart : Int32) (amoonStep : Int32) (aplaceCount : Int32) (areportCount : Int32) (adeedCount : Int32) (pl : Nat) (re : Nat) (de : Nat) (p1 : Int32) (p2 : Int32) (p3 : Int32) (gx_outLength : gi x_outLength 0 72) (gx_courtStands : gi x_courtStands 0 1) (gx_tallyStands : gi x_tallyStands 0 1) (gx_historyStands : gi x_historyStands 0 1) (gamonths : gi amonths 0 24) (gafull : gi afull 0 5) (galean : gi alean 0 5) (gahasMoon : gi ahasMoon 0 1) (gaplaceCount : gi aplaceCount 0 6) (gareportCount : gi areportCount 0 24) (gadeedCount : gi adeedCount 0 8) (gp2 : gi p2 0 1) (gp3 : gi p3 0 24) : Met l yX11_hasMonth (.code yX11_hasMonth cX11_hasMonth 4 (some .boolean) :: wsGA) ({ frames := 1, cells := 0, slots := 0, locals := 20 }) (va_Pc [.ref h0, .int p1, .int p2, .int p3] (fun U => va_P (dC, dI) vwCl [(h0, .inr (11, [.ref xr, .ref am, .ref xs, .ref xf, .ref co, .ref oc, .ref ta, .ref xq, .ref xh, .ref xk, .ref xo, .int x_outLength, .int x_courtStands, .int x_courtNews, .int x_tallyStands, .int x_historyStands])), (am, .inr (0, [.int amonths, .int afull, .int alean, .int alines, .int ahasMoon, .int amoonStart, .int amoonStep, .int aplaceCount, .int areportCount, .int adeedCount, .ref pl, .ref re, .ref de]))] U.heap ∧ va_K (dC, dI) vwCl [] U ∧ nzA U)) (va_Qi (fun (r : Int32) (u : Unit) => (gi r 0 1 ∧ (r.toInt = 1 → gi p1 0 24)) ∧ r = fX11_hasMonth amonths p1 p2 p3) (fun _ _ => True) (fun _ => False)) 0 0 (fun _ => False) := by
  refine Met.ofW (cc := cX11_hasMonth) (maxL := 4) (ret := (some .boolean)) (by decide) rfl ?_
  intro p e s m args below meth c s₁ B hml hv
  obtain ⟨rfl, hP, hK, hz⟩ := hv
  have hx := B.exec
  have hb := B.bytes
  have hr := B.returns
  have hts := atoms_spec (ws := (.code yX11_hasMonth cX11_hasMonth 4 (some .boolean) :: wsGA)) B.pre
  have hown : s.vm.findClass RX11 = some m.cls := findClass_of_methodNamed B.named
  have hlocks := B.notSynchronized
  have hS : va_S (fun _ => False) s.heap s.heap [] := va_S.rf
  have hl := lv_entry ([.ref h0, .int p1, .int p2, .int p3]) (n := 4) (Nat.le_of_ble_eq_true rfl)
  rw [lg_entry_eq]
  generalize (lg_sl ([.ref h0, .int p1, .int p2, .int p3]) ++ List.replicate (4 - (lg_sl ([.ref h0, .int p1, .int p2, .int p3])).length) Slot.unset).toArray = ls at hl ⊢
  have hl : lv_has ls 4 [(0, .ref h0), (1, .int p1), (2, .int p2), (3, .int p3)] := hl
  obtain ⟨RES, hF⟩ : ∃ R9, fX11_hasMonth amonths p1 p2 p3 = R9 := ⟨_, rfl⟩
  have hR9 := hF
  refine lv_aload_n hx hb (dk_at dkX11_hasMonth 0 rfl) rfl (lv_at hl 0 rfl) ?_
  have hPc := hP.sub (ws' := [(h0, .inr (11, [.ref xr, .ref am, .ref xs, .ref xf, .ref co, .ref oc, .ref ta, .ref xq, .ref xh, .ref xk, .ref xo, .int x_outLength, .int x_courtStands, .int x_courtNews, .int x_tallyStands, .int x_historyStands])), (am, .inr (0, [.int amonths, .int afull, .int alean, .int alines, .int ahasMoon, .int amoonStart, .int amoonStep, .int aplaceCount, .int areportCount, .int adeedCount, .ref pl, .ref re, .ref de]))]) [0, 1] rfl
  have hKc := hK.sub (tys' := []) [] rfl
  refine va_calli (va_runV (As := []) (rest := []) ⟨hx, hb, hml, hown, hts⟩ (sX11_isTold l dC dI h0 am xr xs xf co oc ta xq xh xk xo x_outLength x_courtStands x_courtNews x_tallyStands x_historyStands amonths afull alean alines ahasMoon amoonStart amoonStep aplaceCount areportCount adeedCount pl re de gx_outLength gx_courtStands gx_tallyStands gx_historyStands gamonths gafull galean gahasMoon gaplaceCount gareportCount gadeedCount) (cwV 0 hts (gz_gV mGA_412 mGA_413 mGA_414 mGA_1 mGA_415 goodGA) rfl rfl rfl (by decide +kernel) ⟨Nat.le_of_ble_eq_true rfl, Nat.le_of_ble_eq_true rfl⟩) ⟨bl_I (bl_a bl_P (bl_a bl_K bl_nz)), va_recv hKc hPc (ci := 11) (q0 := 0) rfl rfl, fun U hU hW => ⟨rfl, by rw [hU]; exact hPc, va_K.moved hW.alike hKc, nzA_warm hW hz⟩⟩ rfl rfl hl.1 rfl (lv_room (Nat.le_of_ble_eq_true rfl)) (dk_at dkX11_hasMonth 1 rfl) ⟨Nat.zero_le _, Nat.zero_le _⟩) hS (fun q _ h => h.elim) (fun q h => h.elim) (fun r_11 u t H1 locs ht hvm hw hB hz1 hk1 hS => ?_)
  obtain ⟨hw, hE⟩ := hw
  have hP := gz_keep hP hk1
  have hF := gf_call (a := r_11) hE hF
  generalize H1 = H at hP hS ⊢
  have gr_11 : gi r_11 0 1 := hw
  refine lv_if_eq (tgt := 21) hx hb (dk_at dkX11_hasMonth 2 rfl) (by decide) (fun c_12 => ?_) (fun c_12 => ?_)
  · have hF := gf_pos c_12 hF
    have g_13 : gi r_11 0 0 := gi_eq c_12 (gi_c 0 0 (by decide))
    refine lv_iconst (v := 0) hx hb (dk_at dkX11_hasMonth 11 rfl) (by decide) ?_
    exact W.zret (v := 0) hx hb hr (by decide) (fun t ht hW => ⟨⟨0, (), rfl, ⟨⟨(gi_w (gi_c 0 0 (by decide)) (by decide)), (fun h => absurd h (by decide))⟩, hF.trans hR9.symm⟩, trivial⟩, hS.F ht⟩) hS.2.2 (dk_at dkX11_hasMonth 12 rfl)
  · have hF := gf_neg c_12 hF
    have g_14 : gi r_11 1 1 := gi_ne_lo c_12 gr_11 (gi_c 0 0 (by decide)) (by decide)
    refine lv_iload_n hx hb (dk_at dkX11_hasMonth 3 rfl) rfl (lv_at hl 1 rfl) ?_
    refine lv_iload_n hx hb (dk_at dkX11_hasMonth 4 rfl) rfl (lv_at hl 2 rfl) ?_
    refine lv_icmp_lt (tgt := 21) hx hb (dk_at dkX11_hasMonth 5 rfl) (by decide) (fun c_15 => ?_) (fun c_15 => ?_)
    · have hF := gf_pos c_15 hF
      have g_16 : gi p1 (-2147483648) 0 := gi_lt_l c_15 (gi_any p1) gp2 (by decide)
      refine lv_iconst (v := 0) hx hb (dk_at dkX11_hasMonth 11 rfl) (by decide) ?_
      exact W.zret (v := 0) hx hb hr (by decide) (fun t ht hW => ⟨⟨0, (), rfl, ⟨⟨(gi_w (gi_c 0 0 (by decide)) (by decide)), (fun h => absurd h (by decide))⟩, hF.trans hR9.symm⟩, trivial⟩, hS.F ht⟩) hS.2.2 (dk_at dkX11_hasMonth 12 rfl)
    · have hF := gf_neg c_15 hF
      have g_17 : gi p1 0 2147483647 := gi_le_r (Int32.not_lt.mp c_15) gp2 (gi_any p1)
      refine lv_iload_n hx hb (dk_at dkX11_hasMonth 6 rfl) rfl (lv_at hl 1 rfl) ?_
      refine lv_iload_n hx hb (dk_at dkX11_hasMonth 7 rfl) rfl (lv_at hl 3 rfl) ?_
      refine lv_icmp_gt (tgt := 21) hx hb (dk_at dkX11_hasMonth 8 rfl) (by decide) (fun c_18 => ?_) (fun c_18 => ?_)
      · have hF := gf_pos c_18 hF
        have g_19 : gi p1 1 2147483647 := gi_lt_r c_18 gp3 g_17 (by decide)
        refine lv_iconst (v := 0) hx hb (dk_at dkX11_hasMonth 11 rfl) (by decide) ?_
        exact W.zret (v := 0) hx hb hr (by decide) (fun t ht hW => ⟨⟨0, (), rfl, ⟨⟨(gi_w (gi_c 0 0 (by decide)) (by decide)), (fun h => absurd h (by decide))⟩, hF.trans hR9.symm⟩, trivial⟩, hS.F ht⟩) hS.2.2 (dk_at dkX11_hasMonth 12 rfl)
      · have hF := gf_neg c_18 hF
        have g_20 : gi p1 0 24 := gi_le_l (Int32.not_lt.mp c_18) g_17 gp3
        refine lv_iconst (v := 1) hx hb (dk_at dkX11_hasMonth 9 rfl) (by decide) ?_
        refine lv_goto (tgt := 22) hx hb (dk_at dkX11_hasMonth 10 rfl) (by decide) ?_
        exact W.zret (v := 1) hx hb hr (by decide) (fun t ht hW => ⟨⟨1, (), rfl, ⟨⟨(gi_w (gi_c 1 1 (by decide)) (by decide)), (fun _ => g_20)⟩, hF.trans hR9.symm⟩, trivial⟩, hS.F ht⟩) hS.2.2 (dk_at dkX11_hasMonth 12 rfl)
noncomputable def lsX11_hasDate : List (Nat × Instr × Nat) := [(0, .aload_n 0, 1), (1, .iload_n 1, 1), (2, .iconst 0, 1), (3, .aload_n 0, 1), (4, .getfield 19, 3), (7, .getfield 120, 3), (10, .iconst 1, 1), (11, .isub, 1), (12, .invokevirtual 209, 3), (15, .ifCond .eq 18, 3), (18, .iload_n 2, 1), (19, .iconst 1, 1), (20, .if_icmp .lt 13, 3), (23, .iload_n 2, 1), (24, .bipush 30, 2), (26, .if_icmp .gt 7, 3), (29, .iconst 1, 1), (30, .goto 4, 3), (33, .iconst 0, 1), (34, .ireturn, 1)]
theorem dkX11_hasDate : dkAll cX11_hasDate lsX11_hasDate = true := by decide +kernel
set_option maxHeartbeats 4000000 in
set_option maxRecDepth 100000 in
theorem sX11_hasDate (l : Launch) (dC : Nat → ClassId) (dI : Nat → Nat → Nat) (h0 : Nat) (am : Nat) (xr : Nat) (xs : Nat) (xf : Nat) (co : Nat) (oc : Nat) (ta : Nat) (xq : Nat) (xh : Nat) (xk : Nat) (xo : Nat) (x_outLength : Int32) (x_courtStands : Int32) (x_courtNews : Int32) (x_tallyStands : Int32) (x_historyStands : Int32) (amonths : Int32) (afull : Int32) (alean : Int32) (alines : Int32) (ahasMoon : Int32) (amoonStart : Int32) (amoonStep : Int32) (aplaceCount : Int32) (areportCount : Int32) (adeedCount : Int32) (pl : Nat) (re : Nat) (de : Nat) (p1 : Int32) (p2 : Int32) (gx_outLength : gi x_outLength 0 72) (gx_courtStands : gi x_courtStands 0 1) (gx_tallyStands : gi x_tallyStands 0 1) (gx_historyStands : gi x_historyStands 0 1) (gamonths : gi amonths 0 24) (gafull : gi afull 0 5) (galean : gi alean 0 5) (gahasMoon : gi ahasMoon 0 1) (gaplaceCount : gi aplaceCount 0 6) (gareportCount : gi areportCount 0 24) (gadeedCount : gi adeedCount 0 8) : Met l yX11_hasDate (.code yX11_hasDate cX11_hasDate 3 (some .boolean) :: wsGA) ({ frames := 2, cells := 0, slots := 0, locals := 43 }) (va_Pc [.ref h0, .int p1, .int p2] (fun U => va_P (dC, dI) vwCl [(h0, .inr (11, [.ref xr, .ref am, .ref xs, .ref xf, .ref co, .ref oc, .ref ta, .ref xq, .ref xh, .ref xk, .ref xo, .int x_outLength, .int x_courtStands, .int x_courtNews, .int x_tallyStands, .int x_historyStands])), (am, .inr (0, [.int amonths, .int afull, .int alean, .int alines, .int ahasMoon, .int amoonStart, .int amoonStep, .int aplaceCount, .int areportCount, .int adeedCount, .ref pl, .ref re, .ref de]))] U.heap ∧ va_K (dC, dI) vwCl [] U ∧ nzA U)) (va_Qi (fun (r : Int32) (u : Unit) => gi r 0 1 ∧ (r.toInt = 1 → gi p1 0 23 ∧ gi p2 1 30)) (fun _ _ => True) (fun _ => False)) 0 0 (fun _ => False) := by
  refine Met.ofW (cc := cX11_hasDate) (maxL := 3) (ret := (some .boolean)) (by decide) rfl ?_
  intro p e s m args below meth c s₁ B hml hv
  obtain ⟨rfl, hP, hK, hz⟩ := hv
  have hx := B.exec
  have hb := B.bytes
  have hr := B.returns
  have hts := atoms_spec (ws := (.code yX11_hasDate cX11_hasDate 3 (some .boolean) :: wsGA)) B.pre
  have hown : s.vm.findClass RX11 = some m.cls := findClass_of_methodNamed B.named
  have hlocks := B.notSynchronized
  have hS : va_S (fun _ => False) s.heap s.heap [] := va_S.rf
  have hl := lv_entry ([.ref h0, .int p1, .int p2]) (n := 3) (Nat.le_of_ble_eq_true rfl)
  rw [lg_entry_eq]
  generalize (lg_sl ([.ref h0, .int p1, .int p2]) ++ List.replicate (3 - (lg_sl ([.ref h0, .int p1, .int p2])).length) Slot.unset).toArray = ls at hl ⊢
  have hl : lv_has ls 3 [(0, .ref h0), (1, .int p1), (2, .int p2)] := hl
  refine lv_aload_n hx hb (dk_at dkX11_hasDate 0 rfl) rfl (lv_at hl 0 rfl) ?_
  refine lv_iload_n hx hb (dk_at dkX11_hasDate 1 rfl) rfl (lv_at hl 1 rfl) ?_
  refine lv_iconst (v := 0) hx hb (dk_at dkX11_hasDate 2 rfl) (by decide) ?_
  refine lv_aload_n hx hb (dk_at dkX11_hasDate 3 rfl) rfl (lv_at hl 0 rfl) ?_
  refine va_get (D := (dC, dI)) (ci := 11) (v := .ref am) (C := RX11) (T := TX11) (N := 16) hx hb hts (fun w h => List.mem_cons_of_mem _ (jnGA_X11 w h)) hown hK hP 0 rfl rfl 1 (by decide) (hts _ (List.mem_cons_of_mem _ mGA_14)) (fun _ h9 => h9) rfl (dk_at dkX11_hasDate 4 rfl) ?_
  refine va_get (D := (dC, dI)) (ci := 0) (v := .int amonths) (C := RX0) (T := TX0) (N := 13) hx hb hts (fun w h => List.mem_cons_of_mem _ (jnGA_X0 w h)) hown hK hP 1 rfl rfl 0 (by decide) (hts _ (List.mem_cons_of_mem _ mGA_353)) (fun _ h9 => h9) rfl (dk_at dkX11_hasDate 5 rfl) ?_
  refine lv_iconst (v := 1) hx hb (dk_at dkX11_hasDate 6 rfl) (by decide) ?_
  refine lv_isub hx hb (dk_at dkX11_hasDate 7 rfl) ?_
  refine lv_topi (fun x_13 ex_13 => ?_)
  have gx_13 : gi x_13 (-1) 23 := gi_sub ex_13 gamonths (gi_c 1 1 (by decide)) (by decide)
  have hPc := hP.sub (ws' := [(h0, .inr (11, [.ref xr, .ref am, .ref xs, .ref xf, .ref co, .ref oc, .ref ta, .ref xq, .ref xh, .ref xk, .ref xo, .int x_outLength, .int x_courtStands, .int x_courtNews, .int x_tallyStands, .int x_historyStands])), (am, .inr (0, [.int amonths, .int afull, .int alean, .int alines, .int ahasMoon, .int amoonStart, .int amoonStep, .int aplaceCount, .int areportCount, .int adeedCount, .ref pl, .ref re, .ref de]))]) [0, 1] rfl
  have hKc := hK.sub (tys' := []) [] rfl
  refine va_calli (va_runV (As := [.int p1, .int 0, .int x_13]) (rest := []) ⟨hx, hb, hml, hown, hts⟩ (sX11_hasMonthA l dC dI h0 am xr xs xf co oc ta xq xh xk xo x_outLength x_courtStands x_courtNews x_tallyStands x_historyStands amonths afull alean alines ahasMoon amoonStart amoonStep aplaceCount areportCount adeedCount pl re de p1 0 x_13 gx_outLength gx_courtStands gx_tallyStands gx_historyStands gamonths gafull galean gahasMoon gaplaceCount gareportCount gadeedCount (gi_w (gi_c 0 0 (by decide)) (by decide)) gx_13) (cwV 3 hts (gz_gV mGA_408 mGA_409 mGA_410 mGA_1 mGA_411 goodGA) rfl rfl rfl (by decide +kernel) ⟨Nat.le_of_ble_eq_true rfl, Nat.le_of_ble_eq_true rfl⟩) ⟨bl_I (bl_a bl_P (bl_a bl_K bl_nz)), va_recv hKc hPc (ci := 11) (q0 := 0) rfl rfl, fun U hU hW => ⟨rfl, by rw [hU]; exact hPc, va_K.moved hW.alike hKc, nzA_warm hW hz⟩⟩ rfl rfl hl.1 rfl (lv_room (Nat.le_of_ble_eq_true rfl)) (dk_at dkX11_hasDate 8 rfl) ⟨Nat.zero_le _, Nat.zero_le _⟩) hS (fun q _ h => h.elim) (fun q h => h.elim) (fun r_14 u t H1 locs ht hvm hw hB hz1 hk1 hS => ?_)
  obtain ⟨hw, hE⟩ := hw
  have hP := gz_keep hP hk1
  generalize H1 = H at hP hS ⊢
  have gr_14 : gi r_14 0 1 := hw.1
  have hqr_14 := hw.2
  refine lv_if_eq (tgt := 33) hx hb (dk_at dkX11_hasDate 9 rfl) (by decide) (fun c_15 => ?_) (fun c_15 => ?_)
  · have g_16 : gi r_14 0 0 := gi_eq c_15 (gi_c 0 0 (by decide))
    refine lv_iconst (v := 0) hx hb (dk_at dkX11_hasDate 18 rfl) (by decide) ?_
    exact W.zret (v := 0) hx hb hr (by decide) (fun t ht hW => ⟨⟨0, (), rfl, ⟨(gi_w (gi_c 0 0 (by decide)) (by decide)), (fun h => absurd h (by decide))⟩, trivial⟩, hS.F ht⟩) hS.2.2 (dk_at dkX11_hasDate 19 rfl)
  · have g_17 : gi r_14 1 1 := gi_ne_lo c_15 gr_14 (gi_c 0 0 (by decide)) (by decide)
    have g_18 : gi p1 0 23 := gi_cap (gi_any p1) (hqr_14 (gz_one g_17)) (by decide)
    refine lv_iload_n hx hb (dk_at dkX11_hasDate 10 rfl) rfl (lv_at hl 2 rfl) ?_
    refine lv_iconst (v := 1) hx hb (dk_at dkX11_hasDate 11 rfl) (by decide) ?_
    refine lv_icmp_lt (tgt := 33) hx hb (dk_at dkX11_hasDate 12 rfl) (by decide) (fun c_19 => ?_) (fun c_19 => ?_)
    · have g_20 : gi p2 (-2147483648) 0 := gi_lt_l c_19 (gi_any p2) (gi_c 1 1 (by decide)) (by decide)
      refine lv_iconst (v := 0) hx hb (dk_at dkX11_hasDate 18 rfl) (by decide) ?_
      exact W.zret (v := 0) hx hb hr (by decide) (fun t ht hW => ⟨⟨0, (), rfl, ⟨(gi_w (gi_c 0 0 (by decide)) (by decide)), (fun h => absurd h (by decide))⟩, trivial⟩, hS.F ht⟩) hS.2.2 (dk_at dkX11_hasDate 19 rfl)
    · have g_21 : gi p2 1 2147483647 := gi_le_r (Int32.not_lt.mp c_19) (gi_c 1 1 (by decide)) (gi_any p2)
      refine lv_iload_n hx hb (dk_at dkX11_hasDate 13 rfl) rfl (lv_at hl 2 rfl) ?_
      refine lv_bipush (v := 30) hx hb (dk_at dkX11_hasDate 14 rfl) (by decide) ?_
      refine lv_icmp_gt (tgt := 33) hx hb (dk_at dkX11_hasDate 15 rfl) (by decide) (fun c_22 => ?_) (fun c_22 => ?_)
      · have g_23 : gi p2 31 2147483647 := gi_lt_r c_22 (gi_c 30 30 (by decide)) g_21 (by decide)
        refine lv_iconst (v := 0) hx hb (dk_at dkX11_hasDate 18 rfl) (by decide) ?_
        exact W.zret (v := 0) hx hb hr (by decide) (fun t ht hW => ⟨⟨0, (), rfl, ⟨(gi_w (gi_c 0 0 (by decide)) (by decide)), (fun h => absurd h (by decide))⟩, trivial⟩, hS.F ht⟩) hS.2.2 (dk_at dkX11_hasDate 19 rfl)
      · have g_24 : gi p2 1 30 := gi_le_l (Int32.not_lt.mp c_22) g_21 (gi_c 30 30 (by decide))
        refine lv_iconst (v := 1) hx hb (dk_at dkX11_hasDate 16 rfl) (by decide) ?_
        refine lv_goto (tgt := 34) hx hb (dk_at dkX11_hasDate 17 rfl) (by decide) ?_
        exact W.zret (v := 1) hx hb hr (by decide) (fun t ht hW => ⟨⟨1, (), rfl, ⟨(gi_w (gi_c 1 1 (by decide)) (by decide)), (fun _ => ⟨g_18, g_24⟩)⟩, trivial⟩, hS.F ht⟩) hS.2.2 (dk_at dkX11_hasDate 19 rfl)
noncomputable def lsX11_hasPlace : List (Nat × Instr × Nat) := [(0, .iload_n 1, 1), (1, .ifCond .lt 18, 3), (4, .iload_n 1, 1), (5, .aload_n 0, 1), (6, .getfield 19, 3), (9, .getfield 129, 3), (12, .if_icmp .ge 7, 3), (15, .iconst 1, 1), (16, .goto 4, 3), (19, .iconst 0, 1), (20, .ireturn, 1)]
theorem dkX11_hasPlace : dkAll cX11_hasPlace lsX11_hasPlace = true := by decide +kernel
noncomputable def bfX11_hasPlace_20 (aplaceCount : Int32) (p1 : Int32) (s0 : Int32) : Int32 := s0
noncomputable def bfX11_hasPlace_19 (aplaceCount : Int32) (p1 : Int32) : Int32 := bfX11_hasPlace_20 aplaceCount p1 (0 : Int32)
noncomputable def fX11_hasPlace (aplaceCount : Int32) (p1 : Int32) : Int32 := if p1 < (0 : Int32) then (bfX11_hasPlace_19 aplaceCount p1) else (if aplaceCount ≤ p1 then (bfX11_hasPlace_19 aplaceCount p1) else (bfX11_hasPlace_20 aplaceCount p1 (1 : Int32)))
set_option maxHeartbeats 4000000 in
set_option maxRecDepth 100000 in
theorem sX11_hasPlace (l : Launch) (dC : Nat → ClassId) (dI : Nat → Nat → Nat) (h0 : Nat) (am : Nat) (xr : Nat) (xs : Nat) (xf : Nat) (co : Nat) (oc : Nat) (ta : Nat) (xq : Nat) (xh : Nat) (xk : Nat) (xo : Nat) (x_outLength : Int32) (x_courtStands : Int32) (x_courtNews : Int32) (x_tallyStands : Int32) (x_historyStands : Int32) (amonths : Int32) (afull : Int32) (alean : Int32) (alines : Int32) (ahasMoon : Int32) (amoonStart : Int32) (amoonStep : Int32) (aplaceCount : Int32) (areportCount : Int32) (adeedCount : Int32) (pl : Nat) (re : Nat) (de : Nat) (p1 : Int32) (gx_outLength : gi x_outLength 0 72) (gx_courtStands : gi x_courtStands 0 1) (gx_tallyStands : gi x_tallyStands 0 1) (gx_historyStands : gi x_historyStands 0 1) (gamonths : gi amonths 0 24) (gafull : gi afull 0 5) (galean : gi alean 0 5) (gahasMoon : gi ahasMoon 0 1) (gaplaceCount : gi aplaceCount 0 6) (gareportCount : gi areportCount 0 24) (gadeedCount : gi adeedCount 0 8) : Met l yX11_hasPlace (.code yX11_hasPlace cX11_hasPlace 2 (some .boolean) :: wsGA) ({ frames := 0, cells := 0, slots := 0, locals := 0 }) (va_Pc [.ref h0, .int p1] (fun U => va_P (dC, dI) vwCl [(h0, .inr (11, [.ref xr, .ref am, .ref xs, .ref xf, .ref co, .ref oc, .ref ta, .ref xq, .ref xh, .ref xk, .ref xo, .int x_outLength, .int x_courtStands, .int x_courtNews, .int x_tallyStands, .int x_historyStands])), (am, .inr (0, [.int amonths, .int afull, .int alean, .int alines, .int ahasMoon, .int amoonStart, .int amoonStep, .int aplaceCount, .int areportCount, .int adeedCount, .ref pl, .ref re, .ref de]))] U.heap ∧ va_K (dC, dI) vwCl [] U ∧ nzA U)) (va_Qi (fun (r : Int32) (u : Unit) => (gi r 0 1 ∧ (r.toInt = 1 → gi p1 0 5)) ∧ r = fX11_hasPlace aplaceCount p1) (fun _ _ => True) (fun _ => False)) 0 0 (fun _ => False) := by
  refine Met.ofW (cc := cX11_hasPlace) (maxL := 2) (ret := (some .boolean)) (by decide) rfl ?_
  intro p e s m args below meth c s₁ B hml hv
  obtain ⟨rfl, hP, hK, hz⟩ := hv
  have hx := B.exec
  have hb := B.bytes
  have hr := B.returns
  have hts := atoms_spec (ws := (.code yX11_hasPlace cX11_hasPlace 2 (some .boolean) :: wsGA)) B.pre
  have hown : s.vm.findClass RX11 = some m.cls := findClass_of_methodNamed B.named
  have hlocks := B.notSynchronized
  have hS : va_S (fun _ => False) s.heap s.heap [] := va_S.rf
  have hl := lv_entry ([.ref h0, .int p1]) (n := 2) (Nat.le_of_ble_eq_true rfl)
  rw [lg_entry_eq]
  generalize (lg_sl ([.ref h0, .int p1]) ++ List.replicate (2 - (lg_sl ([.ref h0, .int p1])).length) Slot.unset).toArray = ls at hl ⊢
  have hl : lv_has ls 2 [(0, .ref h0), (1, .int p1)] := hl
  obtain ⟨RES, hF⟩ : ∃ R9, fX11_hasPlace aplaceCount p1 = R9 := ⟨_, rfl⟩
  have hR9 := hF
  refine lv_iload_n hx hb (dk_at dkX11_hasPlace 0 rfl) rfl (lv_at hl 1 rfl) ?_
  refine lv_if_lt (tgt := 19) hx hb (dk_at dkX11_hasPlace 1 rfl) (by decide) (fun c_7 => ?_) (fun c_7 => ?_)
  · have hF := gf_pos c_7 hF
    have g_8 : gi p1 (-2147483648) (-1) := gi_lt_l c_7 (gi_any p1) (gi_c 0 0 (by decide)) (by decide)
    refine lv_iconst (v := 0) hx hb (dk_at dkX11_hasPlace 9 rfl) (by decide) ?_
    exact W.zret (v := 0) hx hb hr (by decide) (fun t ht hW => ⟨⟨0, (), rfl, ⟨⟨(gi_w (gi_c 0 0 (by decide)) (by decide)), (fun h => absurd h (by decide))⟩, hF.trans hR9.symm⟩, trivial⟩, hS.F ht⟩) hS.2.2 (dk_at dkX11_hasPlace 10 rfl)
  · have hF := gf_neg c_7 hF
    have g_9 : gi p1 0 2147483647 := gi_le_r (Int32.not_lt.mp c_7) (gi_c 0 0 (by decide)) (gi_any p1)
    refine lv_iload_n hx hb (dk_at dkX11_hasPlace 2 rfl) rfl (lv_at hl 1 rfl) ?_
    refine lv_aload_n hx hb (dk_at dkX11_hasPlace 3 rfl) rfl (lv_at hl 0 rfl) ?_
    refine va_get (D := (dC, dI)) (ci := 11) (v := .ref am) (C := RX11) (T := TX11) (N := 16) hx hb hts (fun w h => List.mem_cons_of_mem _ (jnGA_X11 w h)) hown hK hP 0 rfl rfl 1 (by decide) (hts _ (List.mem_cons_of_mem _ mGA_14)) (fun _ h9 => h9) rfl (dk_at dkX11_hasPlace 4 rfl) ?_
    refine va_get (D := (dC, dI)) (ci := 0) (v := .int aplaceCount) (C := RX0) (T := TX0) (N := 13) hx hb hts (fun w h => List.mem_cons_of_mem _ (jnGA_X0 w h)) hown hK hP 1 rfl rfl 7 (by decide) (hts _ (List.mem_cons_of_mem _ mGA_356)) (fun _ h9 => h9) rfl (dk_at dkX11_hasPlace 5 rfl) ?_
    refine lv_icmp_ge (tgt := 19) hx hb (dk_at dkX11_hasPlace 6 rfl) (by decide) (fun c_10 => ?_) (fun c_10 => ?_)
    · have hF := gf_pos c_10 hF
      refine lv_iconst (v := 0) hx hb (dk_at dkX11_hasPlace 9 rfl) (by decide) ?_
      exact W.zret (v := 0) hx hb hr (by decide) (fun t ht hW => ⟨⟨0, (), rfl, ⟨⟨(gi_w (gi_c 0 0 (by decide)) (by decide)), (fun h => absurd h (by decide))⟩, hF.trans hR9.symm⟩, trivial⟩, hS.F ht⟩) hS.2.2 (dk_at dkX11_hasPlace 10 rfl)
    · have hF := gf_neg c_10 hF
      have g_11 : gi p1 0 5 := gi_lt_l (Int32.not_le.mp c_10) g_9 gaplaceCount (by decide)
      have g_12 : gi aplaceCount 1 6 := gi_lt_r (Int32.not_le.mp c_10) g_9 gaplaceCount (by decide)
      refine lv_iconst (v := 1) hx hb (dk_at dkX11_hasPlace 7 rfl) (by decide) ?_
      refine lv_goto (tgt := 20) hx hb (dk_at dkX11_hasPlace 8 rfl) (by decide) ?_
      exact W.zret (v := 1) hx hb hr (by decide) (fun t ht hW => ⟨⟨1, (), rfl, ⟨⟨(gi_w (gi_c 1 1 (by decide)) (by decide)), (fun _ => g_11)⟩, hF.trans hR9.symm⟩, trivial⟩, hS.F ht⟩) hS.2.2 (dk_at dkX11_hasPlace 10 rfl)
noncomputable def lsX11_hasReport : List (Nat × Instr × Nat) := [(0, .iload_n 1, 1), (1, .ifCond .lt 18, 3), (4, .iload_n 1, 1), (5, .aload_n 0, 1), (6, .getfield 19, 3), (9, .getfield 132, 3), (12, .if_icmp .ge 7, 3), (15, .iconst 1, 1), (16, .goto 4, 3), (19, .iconst 0, 1), (20, .ireturn, 1)]
theorem dkX11_hasReport : dkAll cX11_hasReport lsX11_hasReport = true := by decide +kernel
noncomputable def bfX11_hasReport_20 (areportCount : Int32) (p1 : Int32) (s0 : Int32) : Int32 := s0
noncomputable def bfX11_hasReport_19 (areportCount : Int32) (p1 : Int32) : Int32 := bfX11_hasReport_20 areportCount p1 (0 : Int32)
noncomputable def fX11_hasReport (areportCount : Int32) (p1 : Int32) : Int32 := if p1 < (0 : Int32) then (bfX11_hasReport_19 areportCount p1) else (if areportCount ≤ p1 then (bfX11_hasReport_19 areportCount p1) else (bfX11_hasReport_20 areportCount p1 (1 : Int32)))
set_option maxHeartbeats 4000000 in
set_option maxRecDepth 100000 in
theorem sX11_hasReport (l : Launch) (dC : Nat → ClassId) (dI : Nat → Nat → Nat) (h0 : Nat) (am : Nat) (xr : Nat) (xs : Nat) (xf : Nat) (co : Nat) (oc : Nat) (ta : Nat) (xq : Nat) (xh : Nat) (xk : Nat) (xo : Nat) (x_outLength : Int32) (x_courtStands : Int32) (x_courtNews : Int32) (x_tallyStands : Int32) (x_historyStands : Int32) (amonths : Int32) (afull : Int32) (alean : Int32) (alines : Int32) (ahasMoon : Int32) (amoonStart : Int32) (amoonStep : Int32) (aplaceCount : Int32) (areportCount : Int32) (adeedCount : Int32) (pl : Nat) (re : Nat) (de : Nat) (p1 : Int32) (gx_outLength : gi x_outLength 0 72) (gx_courtStands : gi x_courtStands 0 1) (gx_tallyStands : gi x_tallyStands 0 1) (gx_historyStands : gi x_historyStands 0 1) (gamonths : gi amonths 0 24) (gafull : gi afull 0 5) (galean : gi alean 0 5) (gahasMoon : gi ahasMoon 0 1) (gaplaceCount : gi aplaceCount 0 6) (gareportCount : gi areportCount 0 24) (gadeedCount : gi adeedCount 0 8) : Met l yX11_hasReport (.code yX11_hasReport cX11_hasReport 2 (some .boolean) :: wsGA) ({ frames := 0, cells := 0, slots := 0, locals := 0 }) (va_Pc [.ref h0, .int p1] (fun U => va_P (dC, dI) vwCl [(h0, .inr (11, [.ref xr, .ref am, .ref xs, .ref xf, .ref co, .ref oc, .ref ta, .ref xq, .ref xh, .ref xk, .ref xo, .int x_outLength, .int x_courtStands, .int x_courtNews, .int x_tallyStands, .int x_historyStands])), (am, .inr (0, [.int amonths, .int afull, .int alean, .int alines, .int ahasMoon, .int amoonStart, .int amoonStep, .int aplaceCount, .int areportCount, .int adeedCount, .ref pl, .ref re, .ref de]))] U.heap ∧ va_K (dC, dI) vwCl [] U ∧ nzA U)) (va_Qi (fun (r : Int32) (u : Unit) => (gi r 0 1 ∧ (r.toInt = 1 → gi p1 0 23)) ∧ r = fX11_hasReport areportCount p1) (fun _ _ => True) (fun _ => False)) 0 0 (fun _ => False) := by
  refine Met.ofW (cc := cX11_hasReport) (maxL := 2) (ret := (some .boolean)) (by decide) rfl ?_
  intro p e s m args below meth c s₁ B hml hv
  obtain ⟨rfl, hP, hK, hz⟩ := hv
  have hx := B.exec
  have hb := B.bytes
  have hr := B.returns
  have hts := atoms_spec (ws := (.code yX11_hasReport cX11_hasReport 2 (some .boolean) :: wsGA)) B.pre
  have hown : s.vm.findClass RX11 = some m.cls := findClass_of_methodNamed B.named
  have hlocks := B.notSynchronized
  have hS : va_S (fun _ => False) s.heap s.heap [] := va_S.rf
  have hl := lv_entry ([.ref h0, .int p1]) (n := 2) (Nat.le_of_ble_eq_true rfl)
  rw [lg_entry_eq]
  generalize (lg_sl ([.ref h0, .int p1]) ++ List.replicate (2 - (lg_sl ([.ref h0, .int p1])).length) Slot.unset).toArray = ls at hl ⊢
  have hl : lv_has ls 2 [(0, .ref h0), (1, .int p1)] := hl
  obtain ⟨RES, hF⟩ : ∃ R9, fX11_hasReport areportCount p1 = R9 := ⟨_, rfl⟩
  have hR9 := hF
  refine lv_iload_n hx hb (dk_at dkX11_hasReport 0 rfl) rfl (lv_at hl 1 rfl) ?_
  refine lv_if_lt (tgt := 19) hx hb (dk_at dkX11_hasReport 1 rfl) (by decide) (fun c_7 => ?_) (fun c_7 => ?_)
  · have hF := gf_pos c_7 hF
    have g_8 : gi p1 (-2147483648) (-1) := gi_lt_l c_7 (gi_any p1) (gi_c 0 0 (by decide)) (by decide)
    refine lv_iconst (v := 0) hx hb (dk_at dkX11_hasReport 9 rfl) (by decide) ?_
    exact W.zret (v := 0) hx hb hr (by decide) (fun t ht hW => ⟨⟨0, (), rfl, ⟨⟨(gi_w (gi_c 0 0 (by decide)) (by decide)), (fun h => absurd h (by decide))⟩, hF.trans hR9.symm⟩, trivial⟩, hS.F ht⟩) hS.2.2 (dk_at dkX11_hasReport 10 rfl)
  · have hF := gf_neg c_7 hF
    have g_9 : gi p1 0 2147483647 := gi_le_r (Int32.not_lt.mp c_7) (gi_c 0 0 (by decide)) (gi_any p1)
    refine lv_iload_n hx hb (dk_at dkX11_hasReport 2 rfl) rfl (lv_at hl 1 rfl) ?_
    refine lv_aload_n hx hb (dk_at dkX11_hasReport 3 rfl) rfl (lv_at hl 0 rfl) ?_
    refine va_get (D := (dC, dI)) (ci := 11) (v := .ref am) (C := RX11) (T := TX11) (N := 16) hx hb hts (fun w h => List.mem_cons_of_mem _ (jnGA_X11 w h)) hown hK hP 0 rfl rfl 1 (by decide) (hts _ (List.mem_cons_of_mem _ mGA_14)) (fun _ h9 => h9) rfl (dk_at dkX11_hasReport 4 rfl) ?_
    refine va_get (D := (dC, dI)) (ci := 0) (v := .int areportCount) (C := RX0) (T := TX0) (N := 13) hx hb hts (fun w h => List.mem_cons_of_mem _ (jnGA_X0 w h)) hown hK hP 1 rfl rfl 8 (by decide) (hts _ (List.mem_cons_of_mem _ mGA_357)) (fun _ h9 => h9) rfl (dk_at dkX11_hasReport 5 rfl) ?_
    refine lv_icmp_ge (tgt := 19) hx hb (dk_at dkX11_hasReport 6 rfl) (by decide) (fun c_10 => ?_) (fun c_10 => ?_)
    · have hF := gf_pos c_10 hF
      refine lv_iconst (v := 0) hx hb (dk_at dkX11_hasReport 9 rfl) (by decide) ?_
      exact W.zret (v := 0) hx hb hr (by decide) (fun t ht hW => ⟨⟨0, (), rfl, ⟨⟨(gi_w (gi_c 0 0 (by decide)) (by decide)), (fun h => absurd h (by decide))⟩, hF.trans hR9.symm⟩, trivial⟩, hS.F ht⟩) hS.2.2 (dk_at dkX11_hasReport 10 rfl)
    · have hF := gf_neg c_10 hF
      have g_11 : gi p1 0 23 := gi_lt_l (Int32.not_le.mp c_10) g_9 gareportCount (by decide)
      have g_12 : gi areportCount 1 24 := gi_lt_r (Int32.not_le.mp c_10) g_9 gareportCount (by decide)
      refine lv_iconst (v := 1) hx hb (dk_at dkX11_hasReport 7 rfl) (by decide) ?_
      refine lv_goto (tgt := 20) hx hb (dk_at dkX11_hasReport 8 rfl) (by decide) ?_
      exact W.zret (v := 1) hx hb hr (by decide) (fun t ht hW => ⟨⟨1, (), rfl, ⟨⟨(gi_w (gi_c 1 1 (by decide)) (by decide)), (fun _ => g_11)⟩, hF.trans hR9.symm⟩, trivial⟩, hS.F ht⟩) hS.2.2 (dk_at dkX11_hasReport 10 rfl)
noncomputable def lsX11_hasDeed : List (Nat × Instr × Nat) := [(0, .iload_n 1, 1), (1, .ifCond .lt 18, 3), (4, .iload_n 1, 1), (5, .aload_n 0, 1), (6, .getfield 19, 3), (9, .getfield 135, 3), (12, .if_icmp .ge 7, 3), (15, .iconst 1, 1), (16, .goto 4, 3), (19, .iconst 0, 1), (20, .ireturn, 1)]
theorem dkX11_hasDeed : dkAll cX11_hasDeed lsX11_hasDeed = true := by decide +kernel
noncomputable def bfX11_hasDeed_20 (adeedCount : Int32) (p1 : Int32) (s0 : Int32) : Int32 := s0
noncomputable def bfX11_hasDeed_19 (adeedCount : Int32) (p1 : Int32) : Int32 := bfX11_hasDeed_20 adeedCount p1 (0 : Int32)
noncomputable def fX11_hasDeed (adeedCount : Int32) (p1 : Int32) : Int32 := if p1 < (0 : Int32) then (bfX11_hasDeed_19 adeedCount p1) else (if adeedCount ≤ p1 then (bfX11_hasDeed_19 adeedCount p1) else (bfX11_hasDeed_20 adeedCount p1 (1 : Int32)))
set_option maxHeartbeats 4000000 in
set_option maxRecDepth 100000 in
theorem sX11_hasDeed (l : Launch) (dC : Nat → ClassId) (dI : Nat → Nat → Nat) (h0 : Nat) (am : Nat) (xr : Nat) (xs : Nat) (xf : Nat) (co : Nat) (oc : Nat) (ta : Nat) (xq : Nat) (xh : Nat) (xk : Nat) (xo : Nat) (x_outLength : Int32) (x_courtStands : Int32) (x_courtNews : Int32) (x_tallyStands : Int32) (x_historyStands : Int32) (amonths : Int32) (afull : Int32) (alean : Int32) (alines : Int32) (ahasMoon : Int32) (amoonStart : Int32) (amoonStep : Int32) (aplaceCount : Int32) (areportCount : Int32) (adeedCount : Int32) (pl : Nat) (re : Nat) (de : Nat) (p1 : Int32) (gx_outLength : gi x_outLength 0 72) (gx_courtStands : gi x_courtStands 0 1) (gx_tallyStands : gi x_tallyStands 0 1) (gx_historyStands : gi x_historyStands 0 1) (gamonths : gi amonths 0 24) (gafull : gi afull 0 5) (galean : gi alean 0 5) (gahasMoon : gi ahasMoon 0 1) (gaplaceCount : gi aplaceCount 0 6) (gareportCount : gi areportCount 0 24) (gadeedCount : gi adeedCount 0 8) : Met l yX11_hasDeed (.code yX11_hasDeed cX11_hasDeed 2 (some .boolean) :: wsGA) ({ frames := 0, cells := 0, slots := 0, locals := 0 }) (va_Pc [.ref h0, .int p1] (fun U => va_P (dC, dI) vwCl [(h0, .inr (11, [.ref xr, .ref am, .ref xs, .ref xf, .ref co, .ref oc, .ref ta, .ref xq, .ref xh, .ref xk, .ref xo, .int x_outLength, .int x_courtStands, .int x_courtNews, .int x_tallyStands, .int x_historyStands])), (am, .inr (0, [.int amonths, .int afull, .int alean, .int alines, .int ahasMoon, .int amoonStart, .int amoonStep, .int aplaceCount, .int areportCount, .int adeedCount, .ref pl, .ref re, .ref de]))] U.heap ∧ va_K (dC, dI) vwCl [] U ∧ nzA U)) (va_Qi (fun (r : Int32) (u : Unit) => (gi r 0 1 ∧ (r.toInt = 1 → gi p1 0 7)) ∧ r = fX11_hasDeed adeedCount p1) (fun _ _ => True) (fun _ => False)) 0 0 (fun _ => False) := by
  refine Met.ofW (cc := cX11_hasDeed) (maxL := 2) (ret := (some .boolean)) (by decide) rfl ?_
  intro p e s m args below meth c s₁ B hml hv
  obtain ⟨rfl, hP, hK, hz⟩ := hv
  have hx := B.exec
  have hb := B.bytes
  have hr := B.returns
  have hts := atoms_spec (ws := (.code yX11_hasDeed cX11_hasDeed 2 (some .boolean) :: wsGA)) B.pre
  have hown : s.vm.findClass RX11 = some m.cls := findClass_of_methodNamed B.named
  have hlocks := B.notSynchronized
  have hS : va_S (fun _ => False) s.heap s.heap [] := va_S.rf
  have hl := lv_entry ([.ref h0, .int p1]) (n := 2) (Nat.le_of_ble_eq_true rfl)
  rw [lg_entry_eq]
  generalize (lg_sl ([.ref h0, .int p1]) ++ List.replicate (2 - (lg_sl ([.ref h0, .int p1])).length) Slot.unset).toArray = ls at hl ⊢
  have hl : lv_has ls 2 [(0, .ref h0), (1, .int p1)] := hl
  obtain ⟨RES, hF⟩ : ∃ R9, fX11_hasDeed adeedCount p1 = R9 := ⟨_, rfl⟩
  have hR9 := hF
  refine lv_iload_n hx hb (dk_at dkX11_hasDeed 0 rfl) rfl (lv_at hl 1 rfl) ?_
  refine lv_if_lt (tgt := 19) hx hb (dk_at dkX11_hasDeed 1 rfl) (by decide) (fun c_7 => ?_) (fun c_7 => ?_)
  · have hF := gf_pos c_7 hF
    have g_8 : gi p1 (-2147483648) (-1) := gi_lt_l c_7 (gi_any p1) (gi_c 0 0 (by decide)) (by decide)
    refine lv_iconst (v := 0) hx hb (dk_at dkX11_hasDeed 9 rfl) (by decide) ?_
    exact W.zret (v := 0) hx hb hr (by decide) (fun t ht hW => ⟨⟨0, (), rfl, ⟨⟨(gi_w (gi_c 0 0 (by decide)) (by decide)), (fun h => absurd h (by decide))⟩, hF.trans hR9.symm⟩, trivial⟩, hS.F ht⟩) hS.2.2 (dk_at dkX11_hasDeed 10 rfl)
  · have hF := gf_neg c_7 hF
    have g_9 : gi p1 0 2147483647 := gi_le_r (Int32.not_lt.mp c_7) (gi_c 0 0 (by decide)) (gi_any p1)
    refine lv_iload_n hx hb (dk_at dkX11_hasDeed 2 rfl) rfl (lv_at hl 1 rfl) ?_
    refine lv_aload_n hx hb (dk_at dkX11_hasDeed 3 rfl) rfl (lv_at hl 0 rfl) ?_
    refine va_get (D := (dC, dI)) (ci := 11) (v := .ref am) (C := RX11) (T := TX11) (N := 16) hx hb hts (fun w h => List.mem_cons_of_mem _ (jnGA_X11 w h)) hown hK hP 0 rfl rfl 1 (by decide) (hts _ (List.mem_cons_of_mem _ mGA_14)) (fun _ h9 => h9) rfl (dk_at dkX11_hasDeed 4 rfl) ?_
    refine va_get (D := (dC, dI)) (ci := 0) (v := .int adeedCount) (C := RX0) (T := TX0) (N := 13) hx hb hts (fun w h => List.mem_cons_of_mem _ (jnGA_X0 w h)) hown hK hP 1 rfl rfl 9 (by decide) (hts _ (List.mem_cons_of_mem _ mGA_358)) (fun _ h9 => h9) rfl (dk_at dkX11_hasDeed 5 rfl) ?_
    refine lv_icmp_ge (tgt := 19) hx hb (dk_at dkX11_hasDeed 6 rfl) (by decide) (fun c_10 => ?_) (fun c_10 => ?_)
    · have hF := gf_pos c_10 hF
      refine lv_iconst (v := 0) hx hb (dk_at dkX11_hasDeed 9 rfl) (by decide) ?_
      exact W.zret (v := 0) hx hb hr (by decide) (fun t ht hW => ⟨⟨0, (), rfl, ⟨⟨(gi_w (gi_c 0 0 (by decide)) (by decide)), (fun h => absurd h (by decide))⟩, hF.trans hR9.symm⟩, trivial⟩, hS.F ht⟩) hS.2.2 (dk_at dkX11_hasDeed 10 rfl)
    · have hF := gf_neg c_10 hF
      have g_11 : gi p1 0 7 := gi_lt_l (Int32.not_le.mp c_10) g_9 gadeedCount (by decide)
      have g_12 : gi adeedCount 1 8 := gi_lt_r (Int32.not_le.mp c_10) g_9 gadeedCount (by decide)
      refine lv_iconst (v := 1) hx hb (dk_at dkX11_hasDeed 7 rfl) (by decide) ?_
      refine lv_goto (tgt := 20) hx hb (dk_at dkX11_hasDeed 8 rfl) (by decide) ?_
      exact W.zret (v := 1) hx hb hr (by decide) (fun t ht hW => ⟨⟨1, (), rfl, ⟨⟨(gi_w (gi_c 1 1 (by decide)) (by decide)), (fun _ => g_11)⟩, hF.trans hR9.symm⟩, trivial⟩, hS.F ht⟩) hS.2.2 (dk_at dkX11_hasDeed 10 rfl)
noncomputable def lsX11_forget : List (Nat × Instr × Nat) := [(0, .aload_n 0, 1), (1, .iconst 0, 1), (2, .putfield 76, 3), (5, .aload_n 0, 1), (6, .iconst 0, 1), (7, .putfield 83, 3), (10, .aload_n 0, 1), (11, .iconst 0, 1), (12, .putfield 86, 3), (15, .return_, 1)]
theorem dkX11_forget : dkAll cX11_forget lsX11_forget = true := by decide +kernel
noncomputable def fX11_forget : Int32 × Int32 × Int32 := ((0 : Int32), (0 : Int32), (0 : Int32))
abbrev pb_sX11_forget (dC : Nat → ClassId) (dI : Nat → Nat → Nat) (A9 : Nat → Prop) (h0 : Nat) (xr : Nat) (am : Nat) (xs : Nat) (xf : Nat) (co : Nat) (oc : Nat) (ta : Nat) (xq : Nat) (xh : Nat) (xk : Nat) (xo : Nat) (x_outLength : Int32) (x_courtStands : Int32) (x_courtNews : Int32) (x_tallyStands : Int32) (x_historyStands : Int32) (w0_12 : Int32) (w0_14 : Int32) (w0_15 : Int32) (t : State) : Prop := gi w0_12 0 1 ∧ gi w0_14 0 1 ∧ gi w0_15 0 1 ∧ (w0_12, w0_14, w0_15) = fX11_forget ∧ va_P (dC, dI) vwCl [(h0, .inr (11, [.ref xr, .ref am, .ref xs, .ref xf, .ref co, .ref oc, .ref ta, .ref xq, .ref xh, .ref xk, .ref xo, .int x_outLength, .int w0_12, .int x_courtNews, .int w0_14, .int w0_15]))] t.heap ∧ va_D A9 [(h0, .inr (11, [.ref xr, .ref am, .ref xs, .ref xf, .ref co, .ref oc, .ref ta, .ref xq, .ref xh, .ref xk, .ref xo, .int x_outLength, .int w0_12, .int x_courtNews, .int w0_14, .int w0_15]))]
set_option maxHeartbeats 4000000 in
set_option maxRecDepth 100000 in
theorem sX11_forget (l : Launch) (dC : Nat → ClassId) (dI : Nat → Nat → Nat) (sz : Nat) (h0 : Nat) (xr : Nat) (am : Nat) (xs : Nat) (xf : Nat) (co : Nat) (oc : Nat) (ta : Nat) (xq : Nat) (xh : Nat) (xk : Nat) (xo : Nat) (x_outLength : Int32) (x_courtStands : Int32) (x_courtNews : Int32) (x_tallyStands : Int32) (x_historyStands : Int32) (gx_outLength : gi x_outLength 0 72) (gx_courtStands : gi x_courtStands 0 1) (gx_tallyStands : gi x_tallyStands 0 1) (gx_historyStands : gi x_historyStands 0 1) : Met l yX11_forget (.code yX11_forget cX11_forget 1 none :: wsGA) ({ frames := 0, cells := 0, slots := 0, locals := 0 }) (va_Pc [.ref h0] (fun U => U.heap.size = sz ∧ va_P (dC, dI) vwCl [(h0, .inr (11, [.ref xr, .ref am, .ref xs, .ref xf, .ref co, .ref oc, .ref ta, .ref xq, .ref xh, .ref xk, .ref xo, .int x_outLength, .int x_courtStands, .int x_courtNews, .int x_tallyStands, .int x_historyStands]))] U.heap ∧ va_K (dC, dI) vwCl [] U ∧ va_D (fun _ => True) [(h0, .inr (11, [.ref xr, .ref am, .ref xs, .ref xf, .ref co, .ref oc, .ref ta, .ref xq, .ref xh, .ref xk, .ref xo, .int x_outLength, .int x_courtStands, .int x_courtNews, .int x_tallyStands, .int x_historyStands]))] ∧ nzA U)) (va_Qv (fun (u : Unit) => True) (fun _ t => ∃ (w0_12 : Int32) (w0_14 : Int32) (w0_15 : Int32), pb_sX11_forget dC dI (va_A [(h0, .inr (11, [.ref xr, .ref am, .ref xs, .ref xf, .ref co, .ref oc, .ref ta, .ref xq, .ref xh, .ref xk, .ref xo, .int x_outLength, .int x_courtStands, .int x_courtNews, .int x_tallyStands, .int x_historyStands]))] sz) h0 xr am xs xf co oc ta xq xh xk xo x_outLength x_courtStands x_courtNews x_tallyStands x_historyStands w0_12 w0_14 w0_15 t) (va_A [(h0, .inr (11, [.ref xr, .ref am, .ref xs, .ref xf, .ref co, .ref oc, .ref ta, .ref xq, .ref xh, .ref xk, .ref xo, .int x_outLength, .int x_courtStands, .int x_courtNews, .int x_tallyStands, .int x_historyStands]))] sz)) 0 0 (va_A [(h0, .inr (11, [.ref xr, .ref am, .ref xs, .ref xf, .ref co, .ref oc, .ref ta, .ref xq, .ref xh, .ref xk, .ref xo, .int x_outLength, .int x_courtStands, .int x_courtNews, .int x_tallyStands, .int x_historyStands]))] sz) := by
  refine Met.ofW (cc := cX11_forget) (maxL := 1) (ret := none) (by decide) rfl ?_
  intro p e s m args below meth c s₁ B hml hv
  obtain ⟨rfl, hsz, hP, hK, hD0, hz⟩ := hv
  have hx := B.exec
  have hb := B.bytes
  have hr := B.returns
  have hts := atoms_spec (ws := (.code yX11_forget cX11_forget 1 none :: wsGA)) B.pre
  have hown : s.vm.findClass RX11 = some m.cls := findClass_of_methodNamed B.named
  have hlocks := B.notSynchronized
  subst hsz
  have hD := hD0.self (sz := s.heap.size)
  generalize hAe : va_A [(h0, .inr (11, [.ref xr, .ref am, .ref xs, .ref xf, .ref co, .ref oc, .ref ta, .ref xq, .ref xh, .ref xk, .ref xo, .int x_outLength, .int x_courtStands, .int x_courtNews, .int x_tallyStands, .int x_historyStands]))] s.heap.size = A at hD ⊢
  have hA : ∀ q : Nat, s.heap.size ≤ q → A q := fun q h => by rw [← hAe]; exact Or.inr h
  have hS : va_S A s.heap s.heap [] := va_S.rf
  have hl := lv_entry ([.ref h0]) (n := 1) (Nat.le_of_ble_eq_true rfl)
  rw [lg_entry_eq]
  generalize (lg_sl ([.ref h0]) ++ List.replicate (1 - (lg_sl ([.ref h0])).length) Slot.unset).toArray = ls at hl ⊢
  have hl : lv_has ls 1 [(0, .ref h0)] := hl
  obtain ⟨RES, hF⟩ : ∃ R9, fX11_forget = R9 := ⟨_, rfl⟩
  have hR9 := hF
  refine lv_aload_n hx hb (dk_at dkX11_forget 0 rfl) rfl (lv_at hl 0 rfl) ?_
  refine lv_iconst (v := 0) hx hb (dk_at dkX11_forget 1 rfl) (by decide) ?_
  refine va_put (D := (dC, dI)) (ci := 11) (v := .int 0) (ty := .boolean) (C := RX11) (T := TX11) (N := 16) hx hb hts (fun w h => List.mem_cons_of_mem _ (jnGA_X11 w h)) tyX11 tyX11_ok nmX11 hown hK hP hD hS 0 rfl rfl 12 (by decide) (hts _ (List.mem_cons_of_mem _ mGA_42)) (fun _ h9 => h9) rfl (by decide +kernel) rfl rfl (Nat.le_of_ble_eq_true rfl) (dk_at dkX11_forget 2 rfl) (fun H locs hP hD hS => ?_)
  obtain ⟨hP, hD⟩ := gz_both (w := [(h0, .inr (11, [.ref xr, .ref am, .ref xs, .ref xf, .ref co, .ref oc, .ref ta, .ref xq, .ref xh, .ref xk, .ref xo, .int x_outLength, .int 0, .int x_courtNews, .int x_tallyStands, .int x_historyStands]))]) hP hD
  refine lv_aload_n hx hb (dk_at dkX11_forget 3 rfl) rfl (lv_at hl 0 rfl) ?_
  refine lv_iconst (v := 0) hx hb (dk_at dkX11_forget 4 rfl) (by decide) ?_
  refine va_put (D := (dC, dI)) (ci := 11) (v := .int 0) (ty := .boolean) (C := RX11) (T := TX11) (N := 16) hx hb hts (fun w h => List.mem_cons_of_mem _ (jnGA_X11 w h)) tyX11 tyX11_ok nmX11 hown hK hP hD hS 0 rfl rfl 14 (by decide) (hts _ (List.mem_cons_of_mem _ mGA_44)) (fun _ h9 => h9) rfl (by decide +kernel) rfl rfl (Nat.le_of_ble_eq_true rfl) (dk_at dkX11_forget 5 rfl) (fun H locs hP hD hS => ?_)
  obtain ⟨hP, hD⟩ := gz_both (w := [(h0, .inr (11, [.ref xr, .ref am, .ref xs, .ref xf, .ref co, .ref oc, .ref ta, .ref xq, .ref xh, .ref xk, .ref xo, .int x_outLength, .int 0, .int x_courtNews, .int 0, .int x_historyStands]))]) hP hD
  refine lv_aload_n hx hb (dk_at dkX11_forget 6 rfl) rfl (lv_at hl 0 rfl) ?_
  refine lv_iconst (v := 0) hx hb (dk_at dkX11_forget 7 rfl) (by decide) ?_
  refine va_put (D := (dC, dI)) (ci := 11) (v := .int 0) (ty := .boolean) (C := RX11) (T := TX11) (N := 16) hx hb hts (fun w h => List.mem_cons_of_mem _ (jnGA_X11 w h)) tyX11 tyX11_ok nmX11 hown hK hP hD hS 0 rfl rfl 15 (by decide) (hts _ (List.mem_cons_of_mem _ mGA_45)) (fun _ h9 => h9) rfl (by decide +kernel) rfl rfl (Nat.le_of_ble_eq_true rfl) (dk_at dkX11_forget 8 rfl) (fun H locs hP hD hS => ?_)
  obtain ⟨hP, hD⟩ := gz_both (w := [(h0, .inr (11, [.ref xr, .ref am, .ref xs, .ref xf, .ref co, .ref oc, .ref ta, .ref xq, .ref xh, .ref xk, .ref xo, .int x_outLength, .int 0, .int x_courtNews, .int 0, .int 0]))]) hP hD
  exact W.vret hx hb hr (fun t ht hW => ⟨⟨(), rfl, trivial, 0, 0, 0, (gi_w (gi_c 0 0 (by decide)) (by decide)), (gi_w (gi_c 0 0 (by decide)) (by decide)), (gi_w (gi_c 0 0 (by decide)) (by decide)), hF.trans hR9.symm, by rw [ht]; exact hP, hD⟩, hS.F ht⟩) hS.2.2 (dk_at dkX11_forget 9 rfl)
noncomputable def lsX11_octet : List (Nat × Instr × Nat) := [(0, .iload_n 1, 1), (1, .ifCond .lt 11, 3), (4, .iload_n 1, 1), (5, .aload_n 0, 1), (6, .getfield 72, 3), (9, .if_icmp .lt 7, 3), (12, .iconst (-1), 1), (13, .goto 9, 3), (16, .aload_n 0, 1), (17, .getfield 68, 3), (20, .iload_n 1, 1), (21, .baload, 1), (22, .ireturn, 1)]
theorem dkX11_octet : dkAll cX11_octet lsX11_octet = true := by decide +kernel
set_option maxHeartbeats 4000000 in
set_option maxRecDepth 100000 in
theorem sX11_octet (l : Launch) (dC : Nat → ClassId) (dI : Nat → Nat → Nat) (h0 : Nat) (xo : Nat) (xr : Nat) (am : Nat) (xs : Nat) (xf : Nat) (co : Nat) (oc : Nat) (ta : Nat) (xq : Nat) (xh : Nat) (xk : Nat) (x_outLength : Int32) (x_courtStands : Int32) (x_courtNews : Int32) (x_tallyStands : Int32) (x_historyStands : Int32) (kxo : ClassId) (fxo : Nat → Int32) (p1 : Int32) (gx_outLength : gi x_outLength 0 72) (gx_courtStands : gi x_courtStands 0 1) (gx_tallyStands : gi x_tallyStands 0 1) (gx_historyStands : gi x_historyStands 0 1) : Met l yX11_octet (.code yX11_octet cX11_octet 2 (some .int) :: wsGA) ({ frames := 0, cells := 0, slots := 0, locals := 0 }) (va_Pc [.ref h0, .int p1] (fun U => va_P (dC, dI) vwCl [(h0, .inr (11, [.ref xr, .ref am, .ref xs, .ref xf, .ref co, .ref oc, .ref ta, .ref xq, .ref xh, .ref xk, .ref xo, .int x_outLength, .int x_courtStands, .int x_courtNews, .int x_tallyStands, .int x_historyStands])), (xo, .inl (kxo, 72, .inl fxo))] U.heap ∧ va_K (dC, dI) vwCl [(kxo, .byte)] U ∧ nzA U)) (va_Qi (fun (r : Int32) (u : Unit) => gi r (-2147483648) 2147483647) (fun _ _ => True) (fun _ => False)) 0 0 (fun _ => False) := by
  refine Met.ofW (cc := cX11_octet) (maxL := 2) (ret := (some .int)) (by decide) rfl ?_
  intro p e s m args below meth c s₁ B hml hv
  obtain ⟨rfl, hP, hK, hz⟩ := hv
  have hx := B.exec
  have hb := B.bytes
  have hr := B.returns
  have hts := atoms_spec (ws := (.code yX11_octet cX11_octet 2 (some .int) :: wsGA)) B.pre
  have hown : s.vm.findClass RX11 = some m.cls := findClass_of_methodNamed B.named
  have hlocks := B.notSynchronized
  have hS : va_S (fun _ => False) s.heap s.heap [] := va_S.rf
  have hl := lv_entry ([.ref h0, .int p1]) (n := 2) (Nat.le_of_ble_eq_true rfl)
  rw [lg_entry_eq]
  generalize (lg_sl ([.ref h0, .int p1]) ++ List.replicate (2 - (lg_sl ([.ref h0, .int p1])).length) Slot.unset).toArray = ls at hl ⊢
  have hl : lv_has ls 2 [(0, .ref h0), (1, .int p1)] := hl
  refine lv_iload_n hx hb (dk_at dkX11_octet 0 rfl) rfl (lv_at hl 1 rfl) ?_
  refine lv_if_lt (tgt := 12) hx hb (dk_at dkX11_octet 1 rfl) (by decide) (fun c_8 => ?_) (fun c_8 => ?_)
  · have g_9 : gi p1 (-2147483648) (-1) := gi_lt_l c_8 (gi_any p1) (gi_c 0 0 (by decide)) (by decide)
    refine lv_iconst (v := (-1)) hx hb (dk_at dkX11_octet 6 rfl) (by decide) ?_
    refine lv_goto (tgt := 22) hx hb (dk_at dkX11_octet 7 rfl) (by decide) ?_
    exact W.iret (v := (-1)) hx hb hr (fun t ht hW => ⟨⟨(-1), (), rfl, (gi_any (-1)), trivial⟩, hS.F ht⟩) hS.2.2 (dk_at dkX11_octet 12 rfl)
  · have g_10 : gi p1 0 2147483647 := gi_le_r (Int32.not_lt.mp c_8) (gi_c 0 0 (by decide)) (gi_any p1)
    refine lv_iload_n hx hb (dk_at dkX11_octet 2 rfl) rfl (lv_at hl 1 rfl) ?_
    refine lv_aload_n hx hb (dk_at dkX11_octet 3 rfl) rfl (lv_at hl 0 rfl) ?_
    refine va_get (D := (dC, dI)) (ci := 11) (v := .int x_outLength) (C := RX11) (T := TX11) (N := 16) hx hb hts (fun w h => List.mem_cons_of_mem _ (jnGA_X11 w h)) hown hK hP 0 rfl rfl 11 (by decide) (hts _ (List.mem_cons_of_mem _ mGA_41)) (fun _ h9 => h9) rfl (dk_at dkX11_octet 4 rfl) ?_
    refine lv_icmp_lt (tgt := 16) hx hb (dk_at dkX11_octet 5 rfl) (by decide) (fun c_11 => ?_) (fun c_11 => ?_)
    · have g_12 : gi p1 0 71 := gi_lt_l c_11 g_10 gx_outLength (by decide)
      have g_13 : gi x_outLength 1 72 := gi_lt_r c_11 g_10 gx_outLength (by decide)
      refine lv_aload_n hx hb (dk_at dkX11_octet 8 rfl) rfl (lv_at hl 0 rfl) ?_
      refine va_get (D := (dC, dI)) (ci := 11) (v := .ref xo) (C := RX11) (T := TX11) (N := 16) hx hb hts (fun w h => List.mem_cons_of_mem _ (jnGA_X11 w h)) hown hK hP 0 rfl rfl 10 (by decide) (hts _ (List.mem_cons_of_mem _ mGA_40)) (fun _ h9 => h9) rfl (dk_at dkX11_octet 9 rfl) ?_
      refine lv_iload_n hx hb (dk_at dkX11_octet 10 rfl) rfl (lv_at hl 1 rfl) ?_
      refine va_bald hx hb hK hP 1 0 rfl rfl (gi_in g_12 (by decide)) (dk_at dkX11_octet 11 rfl) ?_
      refine lv_topi (fun x_14 ex_14 => ?_)
      exact W.iret (v := x_14) hx hb hr (fun t ht hW => ⟨⟨x_14, (), rfl, (gi_any x_14), trivial⟩, hS.F ht⟩) hS.2.2 (dk_at dkX11_octet 12 rfl)
    · refine lv_iconst (v := (-1)) hx hb (dk_at dkX11_octet 6 rfl) (by decide) ?_
      refine lv_goto (tgt := 22) hx hb (dk_at dkX11_octet 7 rfl) (by decide) ?_
      exact W.iret (v := (-1)) hx hb hr (fun t ht hW => ⟨⟨(-1), (), rfl, (gi_any (-1)), trivial⟩, hS.F ht⟩) hS.2.2 (dk_at dkX11_octet 12 rfl)
noncomputable def lsX11_putOut : List (Nat × Instr × Nat) := [(0, .aload_n 0, 1), (1, .getfield 72, 3), (4, .aload_n 0, 1), (5, .getfield 68, 3), (8, .arraylength, 1), (9, .if_icmp .ge 24, 3), (12, .aload_n 0, 1), (13, .getfield 68, 3), (16, .aload_n 0, 1), (17, .getfield 72, 3), (20, .iload_n 1, 1), (21, .i2b, 1), (22, .bastore, 1), (23, .aload_n 0, 1), (24, .dup, 1), (25, .getfield 72, 3), (28, .iconst 1, 1), (29, .iadd, 1), (30, .putfield 72, 3), (33, .return_, 1)]
theorem dkX11_putOut : dkAll cX11_putOut lsX11_putOut = true := by decide +kernel
abbrev pb_sX11_putOut (dC : Nat → ClassId) (dI : Nat → Nat → Nat) (A9 : Nat → Prop) (h0 : Nat) (xo : Nat) (xr : Nat) (am : Nat) (xs : Nat) (xf : Nat) (co : Nat) (oc : Nat) (ta : Nat) (xq : Nat) (xh : Nat) (xk : Nat) (x_outLength : Int32) (x_courtStands : Int32) (x_courtNews : Int32) (x_tallyStands : Int32) (x_historyStands : Int32) (kxo : ClassId) (fxo : Nat → Int32) (p1 : Int32) (w0_11 : Int32) (z1 : Nat → Int32) (t : State) : Prop := gi w0_11 0 72 ∧ va_P (dC, dI) vwCl [(h0, .inr (11, [.ref xr, .ref am, .ref xs, .ref xf, .ref co, .ref oc, .ref ta, .ref xq, .ref xh, .ref xk, .ref xo, .int w0_11, .int x_courtStands, .int x_courtNews, .int x_tallyStands, .int x_historyStands])), (xo, .inl (kxo, 72, .inl z1))] t.heap ∧ va_D A9 [(h0, .inr (11, [.ref xr, .ref am, .ref xs, .ref xf, .ref co, .ref oc, .ref ta, .ref xq, .ref xh, .ref xk, .ref xo, .int w0_11, .int x_courtStands, .int x_courtNews, .int x_tallyStands, .int x_historyStands])), (xo, .inl (kxo, 72, .inl z1))]
set_option maxHeartbeats 4000000 in
set_option maxRecDepth 100000 in
theorem sX11_putOut (l : Launch) (dC : Nat → ClassId) (dI : Nat → Nat → Nat) (sz : Nat) (h0 : Nat) (xo : Nat) (xr : Nat) (am : Nat) (xs : Nat) (xf : Nat) (co : Nat) (oc : Nat) (ta : Nat) (xq : Nat) (xh : Nat) (xk : Nat) (x_outLength : Int32) (x_courtStands : Int32) (x_courtNews : Int32) (x_tallyStands : Int32) (x_historyStands : Int32) (kxo : ClassId) (fxo : Nat → Int32) (p1 : Int32) (gx_outLength : gi x_outLength 0 72) (gx_courtStands : gi x_courtStands 0 1) (gx_tallyStands : gi x_tallyStands 0 1) (gx_historyStands : gi x_historyStands 0 1) : Met l yX11_putOut (.code yX11_putOut cX11_putOut 2 none :: wsGA) ({ frames := 0, cells := 0, slots := 0, locals := 0 }) (va_Pc [.ref h0, .int p1] (fun U => U.heap.size = sz ∧ va_P (dC, dI) vwCl [(h0, .inr (11, [.ref xr, .ref am, .ref xs, .ref xf, .ref co, .ref oc, .ref ta, .ref xq, .ref xh, .ref xk, .ref xo, .int x_outLength, .int x_courtStands, .int x_courtNews, .int x_tallyStands, .int x_historyStands])), (xo, .inl (kxo, 72, .inl fxo))] U.heap ∧ va_K (dC, dI) vwCl [(kxo, .byte)] U ∧ va_D (fun _ => True) [(h0, .inr (11, [.ref xr, .ref am, .ref xs, .ref xf, .ref co, .ref oc, .ref ta, .ref xq, .ref xh, .ref xk, .ref xo, .int x_outLength, .int x_courtStands, .int x_courtNews, .int x_tallyStands, .int x_historyStands])), (xo, .inl (kxo, 72, .inl fxo))] ∧ nzA U)) (va_Qv (fun (u : Unit) => True) (fun _ t => ∃ (w0_11 : Int32) (z1 : Nat → Int32), pb_sX11_putOut dC dI (va_A [(h0, .inr (11, [.ref xr, .ref am, .ref xs, .ref xf, .ref co, .ref oc, .ref ta, .ref xq, .ref xh, .ref xk, .ref xo, .int x_outLength, .int x_courtStands, .int x_courtNews, .int x_tallyStands, .int x_historyStands])), (xo, .inl (kxo, 72, .inl fxo))] sz) h0 xo xr am xs xf co oc ta xq xh xk x_outLength x_courtStands x_courtNews x_tallyStands x_historyStands kxo fxo p1 w0_11 z1 t) (va_A [(h0, .inr (11, [.ref xr, .ref am, .ref xs, .ref xf, .ref co, .ref oc, .ref ta, .ref xq, .ref xh, .ref xk, .ref xo, .int x_outLength, .int x_courtStands, .int x_courtNews, .int x_tallyStands, .int x_historyStands])), (xo, .inl (kxo, 72, .inl fxo))] sz)) 0 0 (va_A [(h0, .inr (11, [.ref xr, .ref am, .ref xs, .ref xf, .ref co, .ref oc, .ref ta, .ref xq, .ref xh, .ref xk, .ref xo, .int x_outLength, .int x_courtStands, .int x_courtNews, .int x_tallyStands, .int x_historyStands])), (xo, .inl (kxo, 72, .inl fxo))] sz) := by
  refine Met.ofW (cc := cX11_putOut) (maxL := 2) (ret := none) (by decide) rfl ?_
  intro p e s m args below meth c s₁ B hml hv
  obtain ⟨rfl, hsz, hP, hK, hD0, hz⟩ := hv
  have hx := B.exec
  have hb := B.bytes
  have hr := B.returns
  have hts := atoms_spec (ws := (.code yX11_putOut cX11_putOut 2 none :: wsGA)) B.pre
  have hown : s.vm.findClass RX11 = some m.cls := findClass_of_methodNamed B.named
  have hlocks := B.notSynchronized
  subst hsz
  have hD := hD0.self (sz := s.heap.size)
  generalize hAe : va_A [(h0, .inr (11, [.ref xr, .ref am, .ref xs, .ref xf, .ref co, .ref oc, .ref ta, .ref xq, .ref xh, .ref xk, .ref xo, .int x_outLength, .int x_courtStands, .int x_courtNews, .int x_tallyStands, .int x_historyStands])), (xo, .inl (kxo, 72, .inl fxo))] s.heap.size = A at hD ⊢
  have hA : ∀ q : Nat, s.heap.size ≤ q → A q := fun q h => by rw [← hAe]; exact Or.inr h
  have hS : va_S A s.heap s.heap [] := va_S.rf
  have hl := lv_entry ([.ref h0, .int p1]) (n := 2) (Nat.le_of_ble_eq_true rfl)
  rw [lg_entry_eq]
  generalize (lg_sl ([.ref h0, .int p1]) ++ List.replicate (2 - (lg_sl ([.ref h0, .int p1])).length) Slot.unset).toArray = ls at hl ⊢
  have hl : lv_has ls 2 [(0, .ref h0), (1, .int p1)] := hl
  refine lv_aload_n hx hb (dk_at dkX11_putOut 0 rfl) rfl (lv_at hl 0 rfl) ?_
  refine va_get (D := (dC, dI)) (ci := 11) (v := .int x_outLength) (C := RX11) (T := TX11) (N := 16) hx hb hts (fun w h => List.mem_cons_of_mem _ (jnGA_X11 w h)) hown hK hP 0 rfl rfl 11 (by decide) (hts _ (List.mem_cons_of_mem _ mGA_41)) (fun _ h9 => h9) rfl (dk_at dkX11_putOut 1 rfl) ?_
  refine lv_aload_n hx hb (dk_at dkX11_putOut 2 rfl) rfl (lv_at hl 0 rfl) ?_
  refine va_get (D := (dC, dI)) (ci := 11) (v := .ref xo) (C := RX11) (T := TX11) (N := 16) hx hb hts (fun w h => List.mem_cons_of_mem _ (jnGA_X11 w h)) hown hK hP 0 rfl rfl 10 (by decide) (hts _ (List.mem_cons_of_mem _ mGA_40)) (fun _ h9 => h9) rfl (dk_at dkX11_putOut 3 rfl) ?_
  refine va_alen (v := 72) hx hb hK hP 1 0 rfl rfl rfl (dk_at dkX11_putOut 4 rfl) ?_
  refine lv_icmp_ge (tgt := 33) hx hb (dk_at dkX11_putOut 5 rfl) (by decide) (fun c_13 => ?_) (fun c_13 => ?_)
  · have g_14 : gi x_outLength 72 72 := gi_le_r c_13 (gi_c 72 72 (by decide)) gx_outLength
    exact W.vret hx hb hr (fun t ht hW => ⟨⟨(), rfl, trivial, x_outLength, fxo, (gi_w g_14 (by decide)), by rw [ht]; exact hP, hD⟩, hS.F ht⟩) hS.2.2 (dk_at dkX11_putOut 19 rfl)
  · have g_15 : gi x_outLength 0 71 := gi_lt_l (Int32.not_le.mp c_13) gx_outLength (gi_c 72 72 (by decide)) (by decide)
    refine lv_aload_n hx hb (dk_at dkX11_putOut 6 rfl) rfl (lv_at hl 0 rfl) ?_
    refine va_get (D := (dC, dI)) (ci := 11) (v := .ref xo) (C := RX11) (T := TX11) (N := 16) hx hb hts (fun w h => List.mem_cons_of_mem _ (jnGA_X11 w h)) hown hK hP 0 rfl rfl 10 (by decide) (hts _ (List.mem_cons_of_mem _ mGA_40)) (fun _ h9 => h9) rfl (dk_at dkX11_putOut 7 rfl) ?_
    refine lv_aload_n hx hb (dk_at dkX11_putOut 8 rfl) rfl (lv_at hl 0 rfl) ?_
    refine va_get (D := (dC, dI)) (ci := 11) (v := .int x_outLength) (C := RX11) (T := TX11) (N := 16) hx hb hts (fun w h => List.mem_cons_of_mem _ (jnGA_X11 w h)) hown hK hP 0 rfl rfl 11 (by decide) (hts _ (List.mem_cons_of_mem _ mGA_41)) (fun _ h9 => h9) rfl (dk_at dkX11_putOut 9 rfl) ?_
    refine lv_iload_n hx hb (dk_at dkX11_putOut 10 rfl) rfl (lv_at hl 1 rfl) ?_
    refine lv_i2b hx hb (dk_at dkX11_putOut 11 rfl) rfl ?_
    refine lv_topi (fun x_16 ex_16 => ?_)
    refine va_bast hx hb hK hP hD hS 1 0 rfl rfl (gi_in g_15 (by decide)) (dk_at dkX11_putOut 12 rfl) (fun H locs hP hD hS => ?_)
    obtain ⟨hP, hD⟩ := gz_both (w := [(h0, .inr (11, [.ref xr, .ref am, .ref xs, .ref xf, .ref co, .ref oc, .ref ta, .ref xq, .ref xh, .ref xk, .ref xo, .int x_outLength, .int x_courtStands, .int x_courtNews, .int x_tallyStands, .int x_historyStands])), (xo, .inl (kxo, 72, .inl (upd fxo (x_outLength : Int32).toNatClampNeg (vp_nar .byte x_16))))]) hP hD
    generalize upd fxo (x_outLength : Int32).toNatClampNeg (vp_nar .byte x_16) = f_17 at hP hD
    refine lv_aload_n hx hb (dk_at dkX11_putOut 13 rfl) rfl (lv_at hl 0 rfl) ?_
    refine lv_dup hx hb (dk_at dkX11_putOut 14 rfl) rfl ?_
    refine va_get (D := (dC, dI)) (ci := 11) (v := .int x_outLength) (C := RX11) (T := TX11) (N := 16) hx hb hts (fun w h => List.mem_cons_of_mem _ (jnGA_X11 w h)) hown hK hP 0 rfl rfl 11 (by decide) (hts _ (List.mem_cons_of_mem _ mGA_41)) (fun _ h9 => h9) rfl (dk_at dkX11_putOut 15 rfl) ?_
    refine lv_iconst (v := 1) hx hb (dk_at dkX11_putOut 16 rfl) (by decide) ?_
    refine lv_iadd hx hb (dk_at dkX11_putOut 17 rfl) ?_
    refine lv_topi (fun x_18 ex_18 => ?_)
    have gx_18 : gi x_18 1 72 := gi_add ex_18 g_15 (gi_c 1 1 (by decide)) (by decide)
    refine va_put (D := (dC, dI)) (ci := 11) (v := .int x_18) (ty := .int) (C := RX11) (T := TX11) (N := 16) hx hb hts (fun w h => List.mem_cons_of_mem _ (jnGA_X11 w h)) tyX11 tyX11_ok nmX11 hown hK hP hD hS 0 rfl rfl 11 (by decide) (hts _ (List.mem_cons_of_mem _ mGA_41)) (fun _ h9 => h9) rfl (by decide +kernel) rfl rfl (Nat.le_of_ble_eq_true rfl) (dk_at dkX11_putOut 18 rfl) (fun H locs hP hD hS => ?_)
    obtain ⟨hP, hD⟩ := gz_both (w := [(h0, .inr (11, [.ref xr, .ref am, .ref xs, .ref xf, .ref co, .ref oc, .ref ta, .ref xq, .ref xh, .ref xk, .ref xo, .int x_18, .int x_courtStands, .int x_courtNews, .int x_tallyStands, .int x_historyStands])), (xo, .inl (kxo, 72, .inl f_17))]) hP hD
    exact W.vret hx hb hr (fun t ht hW => ⟨⟨(), rfl, trivial, x_18, f_17, (gi_w gx_18 (by decide)), by rw [ht]; exact hP, hD⟩, hS.F ht⟩) hS.2.2 (dk_at dkX11_putOut 19 rfl)
noncomputable def lsX11_courtBy : List (Nat × Instr × Nat) := [(0, .aload_n 0, 1), (1, .getfield 19, 3), (4, .iload_n 1, 1), (5, .invokevirtual 403, 3), (8, .istore_n 2, 1), (9, .aload_n 0, 1), (10, .getfield 76, 3), (13, .ifCond .eq 11, 3), (16, .iload_n 2, 1), (17, .aload_n 0, 1), (18, .getfield 80, 3), (21, .if_icmp .eq 30, 3), (24, .aload_n 0, 1), (25, .getfield 36, 3), (28, .aload_n 0, 1), (29, .getfield 19, 3), (32, .iload_n 1, 1), (33, .invokevirtual 254, 3), (36, .aload_n 0, 1), (37, .iload_n 2, 1), (38, .putfield 80, 3), (41, .aload_n 0, 1), (42, .iconst 1, 1), (43, .putfield 76, 3), (46, .aload_n 0, 1), (47, .iconst 0, 1), (48, .putfield 83, 3), (51, .aload_n 0, 1), (52, .getfield 36, 3), (55, .areturn, 1)]
theorem dkX11_courtBy : dkAll cX11_courtBy lsX11_courtBy = true := by decide +kernel
abbrev pb_sX11_courtBy (dC : Nat → ClassId) (dI : Nat → Nat → Nat) (A9 : Nat → Prop) (h0 : Nat) (co : Nat) (ve : Nat) (qu : Nat) (tu : Nat) (cb : Nat) (fr : Nat) (fal : Nat) (fon : Nat) (am : Nat) (pl : Nat) (re : Nat) (xr : Nat) (xs : Nat) (xf : Nat) (oc : Nat) (ta : Nat) (xq : Nat) (xh : Nat) (xk : Nat) (xo : Nat) (x_outLength : Int32) (x_courtStands : Int32) (x_courtNews : Int32) (x_tallyStands : Int32) (x_historyStands : Int32) (c_queueLength : Int32) (c_takenBits : Int32) (kve : ClassId) (fve : Nat → Int32) (kqu : ClassId) (fqu : Nat → Int32) (ktu : ClassId) (ftu : Nat → Int64) (kcb : ClassId) (fcb : Nat → Int32) (fmonths : Int32) (ffull : Int32) (flean : Int32) (kfal : ClassId) (ffal : Nat → Int32) (kfon : ClassId) (ffon : Nat → Int32) (amonths : Int32) (afull : Int32) (alean : Int32) (alines : Int32) (ahasMoon : Int32) (amoonStart : Int32) (amoonStep : Int32) (aplaceCount : Int32) (areportCount : Int32) (adeedCount : Int32) (de : Nat) (kpl : ClassId) (kre : ClassId) (pa : Nat → Nat) (p_name : Nat → Int32) (p_trust : Nat → Int32) (ra : Nat → Nat) (r_place : Nat → Int32) (r_kind : Nat → Int32) (r_month : Nat → Int32) (r_day : Nat → Int32) (r_known : Nat → Int32) (r_struck : Nat → Int32) (p1 : Int32) (w0_12 : Int32) (w0_13 : Int32) (w0_14 : Int32) (w1_5 : Int32) (w1_6 : Int32) (w6_0 : Int32) (w6_1 : Int32) (w6_2 : Int32) (z2 : Nat → Int32) (z3 : Nat → Int32) (z4 : Nat → Int64) (z5 : Nat → Int32) (z7 : Nat → Int32) (z8 : Nat → Int32) (t : State) : Prop := gi w0_12 0 1 ∧ gi w0_14 0 1 ∧ gi w1_5 0 24 ∧ gi w6_0 0 24 ∧ gi w6_1 0 5 ∧ gi w6_2 0 5 ∧ ga z3 24 0 23 ∧ va_P (dC, dI) vwCl [(h0, .inr (11, [.ref xr, .ref am, .ref xs, .ref xf, .ref co, .ref oc, .ref ta, .ref xq, .ref xh, .ref xk, .ref xo, .int x_outLength, .int w0_12, .int w0_13, .int w0_14, .int x_historyStands])), (co, .inr (1, [.ref fr, .ref ve, .ref qu, .ref tu, .ref cb, .int w1_5, .int w1_6])), (ve, .inl (kve, 24, .inl z2)), (qu, .inl (kqu, 24, .inl z3)), (tu, .inl (ktu, 24, .inr (.inl z4))), (cb, .inl (kcb, 25, .inl z5)), (fr, .inr (3, [.int w6_0, .int w6_1, .int w6_2, .ref fal, .ref fon])), (fal, .inl (kfal, 25, .inl z7)), (fon, .inl (kfon, 275, .inl z8))] t.heap ∧ va_D A9 [(h0, .inr (11, [.ref xr, .ref am, .ref xs, .ref xf, .ref co, .ref oc, .ref ta, .ref xq, .ref xh, .ref xk, .ref xo, .int x_outLength, .int w0_12, .int w0_13, .int w0_14, .int x_historyStands])), (co, .inr (1, [.ref fr, .ref ve, .ref qu, .ref tu, .ref cb, .int w1_5, .int w1_6])), (ve, .inl (kve, 24, .inl z2)), (qu, .inl (kqu, 24, .inl z3)), (tu, .inl (ktu, 24, .inr (.inl z4))), (cb, .inl (kcb, 25, .inl z5)), (fr, .inr (3, [.int w6_0, .int w6_1, .int w6_2, .ref fal, .ref fon])), (fal, .inl (kfal, 25, .inl z7)), (fon, .inl (kfon, 275, .inl z8))]
set_option maxHeartbeats 4000000 in
set_option maxRecDepth 100000 in
theorem sX11_courtBy (l : Launch) (dC : Nat → ClassId) (dI : Nat → Nat → Nat) (sz : Nat) (h0 : Nat) (co : Nat) (ve : Nat) (qu : Nat) (tu : Nat) (cb : Nat) (fr : Nat) (fal : Nat) (fon : Nat) (am : Nat) (pl : Nat) (re : Nat) (xr : Nat) (xs : Nat) (xf : Nat) (oc : Nat) (ta : Nat) (xq : Nat) (xh : Nat) (xk : Nat) (xo : Nat) (x_outLength : Int32) (x_courtStands : Int32) (x_courtNews : Int32) (x_tallyStands : Int32) (x_historyStands : Int32) (c_queueLength : Int32) (c_takenBits : Int32) (kve : ClassId) (fve : Nat → Int32) (kqu : ClassId) (fqu : Nat → Int32) (ktu : ClassId) (ftu : Nat → Int64) (kcb : ClassId) (fcb : Nat → Int32) (fmonths : Int32) (ffull : Int32) (flean : Int32) (kfal : ClassId) (ffal : Nat → Int32) (kfon : ClassId) (ffon : Nat → Int32) (amonths : Int32) (afull : Int32) (alean : Int32) (alines : Int32) (ahasMoon : Int32) (amoonStart : Int32) (amoonStep : Int32) (aplaceCount : Int32) (areportCount : Int32) (adeedCount : Int32) (de : Nat) (kpl : ClassId) (kre : ClassId) (pa : Nat → Nat) (p_name : Nat → Int32) (p_trust : Nat → Int32) (ra : Nat → Nat) (r_place : Nat → Int32) (r_kind : Nat → Int32) (r_month : Nat → Int32) (r_day : Nat → Int32) (r_known : Nat → Int32) (r_struck : Nat → Int32) (p1 : Int32) (gx_outLength : gi x_outLength 0 72) (gx_courtStands : gi x_courtStands 0 1) (gx_tallyStands : gi x_tallyStands 0 1) (gx_historyStands : gi x_historyStands 0 1) (gc_queueLength : gi c_queueLength 0 24) (gfqu : ga fqu 24 0 23) (gfmonths : gi fmonths 0 24) (gffull : gi ffull 0 5) (gflean : gi flean 0 5) (gamonths : gi amonths 0 24) (gafull : gi afull 0 5) (galean : gi alean 0 5) (gahasMoon : gi ahasMoon 0 1) (gaplaceCount : gi aplaceCount 0 6) (gareportCount : gi areportCount 0 24) (gadeedCount : gi adeedCount 0 8) (gr_place : ga r_place 24 0 5) (gr_month : ga r_month 24 0 23) (gr_struck : ga r_struck 24 0 1) : Met l yX11_courtBy (.code yX11_courtBy cX11_courtBy 3 (some (.object "SightedMonths$Court")) :: wsGA) ({ frames := 4, cells := 0, slots := 0, locals := 95 }) (va_Pc [.ref h0, .int p1] (fun U => U.heap.size = sz ∧ va_P (dC, dI) vwCl [(h0, .inr (11, [.ref xr, .ref am, .ref xs, .ref xf, .ref co, .ref oc, .ref ta, .ref xq, .ref xh, .ref xk, .ref xo, .int x_outLength, .int x_courtStands, .int x_courtNews, .int x_tallyStands, .int x_historyStands])), (co, .inr (1, [.ref fr, .ref ve, .ref qu, .ref tu, .ref cb, .int c_queueLength, .int c_takenBits])), (ve, .inl (kve, 24, .inl fve)), (qu, .inl (kqu, 24, .inl fqu)), (tu, .inl (ktu, 24, .inr (.inl ftu))), (cb, .inl (kcb, 25, .inl fcb)), (fr, .inr (3, [.int fmonths, .int ffull, .int flean, .ref fal, .ref fon])), (fal, .inl (kfal, 25, .inl ffal)), (fon, .inl (kfon, 275, .inl ffon))] U.heap ∧ va_K (dC, dI) vwCl [(kve, .int), (kqu, .int), (ktu, .long), (kcb, .int), (kfal, .int), (kfon, .int), (kpl, .object RX5), (kre, .object RX7)] U ∧ va_D (fun _ => True) [(h0, .inr (11, [.ref xr, .ref am, .ref xs, .ref xf, .ref co, .ref oc, .ref ta, .ref xq, .ref xh, .ref xk, .ref xo, .int x_outLength, .int x_courtStands, .int x_courtNews, .int x_tallyStands, .int x_historyStands])), (co, .inr (1, [.ref fr, .ref ve, .ref qu, .ref tu, .ref cb, .int c_queueLength, .int c_takenBits])), (ve, .inl (kve, 24, .inl fve)), (qu, .inl (kqu, 24, .inl fqu)), (tu, .inl (ktu, 24, .inr (.inl ftu))), (cb, .inl (kcb, 25, .inl fcb)), (fr, .inr (3, [.int fmonths, .int ffull, .int flean, .ref fal, .ref fon])), (fal, .inl (kfal, 25, .inl ffal)), (fon, .inl (kfon, 275, .inl ffon))] ∧ nzA U ∧ va_P (dC, dI) vwCl [(am, .inr (0, [.int amonths, .int afull, .int alean, .int alines, .int ahasMoon, .int amoonStart, .int amoonStep, .int aplaceCount, .int areportCount, .int adeedCount, .ref pl, .ref re, .ref de])), (pl, .inl (kpl, 6, .inr (.inr (.inr (.inr (fun i => some (pa i))))))), (re, .inl (kre, 24, .inr (.inr (.inr (.inr (fun i => some (ra i)))))))] U.heap ∧ gz_ap (va_A [(h0, .inr (11, [.ref xr, .ref am, .ref xs, .ref xf, .ref co, .ref oc, .ref ta, .ref xq, .ref xh, .ref xk, .ref xo, .int x_outLength, .int x_courtStands, .int x_courtNews, .int x_tallyStands, .int x_historyStands])), (co, .inr (1, [.ref fr, .ref ve, .ref qu, .ref tu, .ref cb, .int c_queueLength, .int c_takenBits])), (ve, .inl (kve, 24, .inl fve)), (qu, .inl (kqu, 24, .inl fqu)), (tu, .inl (ktu, 24, .inr (.inl ftu))), (cb, .inl (kcb, 25, .inl fcb)), (fr, .inr (3, [.int fmonths, .int ffull, .int flean, .ref fal, .ref fon])), (fal, .inl (kfal, 25, .inl ffal)), (fon, .inl (kfon, 275, .inl ffon))] sz) [(am, .inr (0, [.int amonths, .int afull, .int alean, .int alines, .int ahasMoon, .int amoonStart, .int amoonStep, .int aplaceCount, .int areportCount, .int adeedCount, .ref pl, .ref re, .ref de])), (pl, .inl (kpl, 6, .inr (.inr (.inr (.inr (fun i => some (pa i))))))), (re, .inl (kre, 24, .inr (.inr (.inr (.inr (fun i => some (ra i)))))))] ∧ va_P (dC, dI) vwCl (gz_fam 6 pa 5 (fun i => [.int (p_name i), .int (p_trust i)])) U.heap ∧ gz_ap (va_A [(h0, .inr (11, [.ref xr, .ref am, .ref xs, .ref xf, .ref co, .ref oc, .ref ta, .ref xq, .ref xh, .ref xk, .ref xo, .int x_outLength, .int x_courtStands, .int x_courtNews, .int x_tallyStands, .int x_historyStands])), (co, .inr (1, [.ref fr, .ref ve, .ref qu, .ref tu, .ref cb, .int c_queueLength, .int c_takenBits])), (ve, .inl (kve, 24, .inl fve)), (qu, .inl (kqu, 24, .inl fqu)), (tu, .inl (ktu, 24, .inr (.inl ftu))), (cb, .inl (kcb, 25, .inl fcb)), (fr, .inr (3, [.int fmonths, .int ffull, .int flean, .ref fal, .ref fon])), (fal, .inl (kfal, 25, .inl ffal)), (fon, .inl (kfon, 275, .inl ffon))] sz) (gz_fam 6 pa 5 (fun i => [.int (p_name i), .int (p_trust i)])) ∧ va_P (dC, dI) vwCl (gz_fam 24 ra 7 (fun i => [.int (r_place i), .int (r_kind i), .int (r_month i), .int (r_day i), .int (r_known i), .int (r_struck i)])) U.heap ∧ gz_ap (va_A [(h0, .inr (11, [.ref xr, .ref am, .ref xs, .ref xf, .ref co, .ref oc, .ref ta, .ref xq, .ref xh, .ref xk, .ref xo, .int x_outLength, .int x_courtStands, .int x_courtNews, .int x_tallyStands, .int x_historyStands])), (co, .inr (1, [.ref fr, .ref ve, .ref qu, .ref tu, .ref cb, .int c_queueLength, .int c_takenBits])), (ve, .inl (kve, 24, .inl fve)), (qu, .inl (kqu, 24, .inl fqu)), (tu, .inl (ktu, 24, .inr (.inl ftu))), (cb, .inl (kcb, 25, .inl fcb)), (fr, .inr (3, [.int fmonths, .int ffull, .int flean, .ref fal, .ref fon])), (fal, .inl (kfal, 25, .inl ffal)), (fon, .inl (kfon, 275, .inl ffon))] sz) (gz_fam 24 ra 7 (fun i => [.int (r_place i), .int (r_kind i), .int (r_month i), .int (r_day i), .int (r_known i), .int (r_struck i)])))) (va_Qr (fun (u : Unit) => True) (fun _ a t => a = co ∧ (∃ (w0_12 : Int32) (w0_13 : Int32) (w0_14 : Int32) (w1_5 : Int32) (w1_6 : Int32) (w6_0 : Int32) (w6_1 : Int32) (w6_2 : Int32) (z2 : Nat → Int32) (z3 : Nat → Int32) (z4 : Nat → Int64) (z5 : Nat → Int32) (z7 : Nat → Int32) (z8 : Nat → Int32), pb_sX11_courtBy dC dI (va_A [(h0, .inr (11, [.ref xr, .ref am, .ref xs, .ref xf, .ref co, .ref oc, .ref ta, .ref xq, .ref xh, .ref xk, .ref xo, .int x_outLength, .int x_courtStands, .int x_courtNews, .int x_tallyStands, .int x_historyStands])), (co, .inr (1, [.ref fr, .ref ve, .ref qu, .ref tu, .ref cb, .int c_queueLength, .int c_takenBits])), (ve, .inl (kve, 24, .inl fve)), (qu, .inl (kqu, 24, .inl fqu)), (tu, .inl (ktu, 24, .inr (.inl ftu))), (cb, .inl (kcb, 25, .inl fcb)), (fr, .inr (3, [.int fmonths, .int ffull, .int flean, .ref fal, .ref fon])), (fal, .inl (kfal, 25, .inl ffal)), (fon, .inl (kfon, 275, .inl ffon))] sz) h0 co ve qu tu cb fr fal fon am pl re xr xs xf oc ta xq xh xk xo x_outLength x_courtStands x_courtNews x_tallyStands x_historyStands c_queueLength c_takenBits kve fve kqu fqu ktu ftu kcb fcb fmonths ffull flean kfal ffal kfon ffon amonths afull alean alines ahasMoon amoonStart amoonStep aplaceCount areportCount adeedCount de kpl kre pa p_name p_trust ra r_place r_kind r_month r_day r_known r_struck p1 w0_12 w0_13 w0_14 w1_5 w1_6 w6_0 w6_1 w6_2 z2 z3 z4 z5 z7 z8 t)) (va_A [(h0, .inr (11, [.ref xr, .ref am, .ref xs, .ref xf, .ref co, .ref oc, .ref ta, .ref xq, .ref xh, .ref xk, .ref xo, .int x_outLength, .int x_courtStands, .int x_courtNews, .int x_tallyStands, .int x_historyStands])), (co, .inr (1, [.ref fr, .ref ve, .ref qu, .ref tu, .ref cb, .int c_queueLength, .int c_takenBits])), (ve, .inl (kve, 24, .inl fve)), (qu, .inl (kqu, 24, .inl fqu)), (tu, .inl (ktu, 24, .inr (.inl ftu))), (cb, .inl (kcb, 25, .inl fcb)), (fr, .inr (3, [.int fmonths, .int ffull, .int flean, .ref fal, .ref fon])), (fal, .inl (kfal, 25, .inl ffal)), (fon, .inl (kfon, 275, .inl ffon))] sz)) 0 0 (va_A [(h0, .inr (11, [.ref xr, .ref am, .ref xs, .ref xf, .ref co, .ref oc, .ref ta, .ref xq, .ref xh, .ref xk, .ref xo, .int x_outLength, .int x_courtStands, .int x_courtNews, .int x_tallyStands, .int x_historyStands])), (co, .inr (1, [.ref fr, .ref ve, .ref qu, .ref tu, .ref cb, .int c_queueLength, .int c_takenBits])), (ve, .inl (kve, 24, .inl fve)), (qu, .inl (kqu, 24, .inl fqu)), (tu, .inl (ktu, 24, .inr (.inl ftu))), (cb, .inl (kcb, 25, .inl fcb)), (fr, .inr (3, [.int fmonths, .int ffull, .int flean, .ref fal, .ref fon])), (fal, .inl (kfal, 25, .inl ffal)), (fon, .inl (kfon, 275, .inl ffon))] sz) := by
  refine Met.ofW (cc := cX11_courtBy) (maxL := 3) (ret := (some (.object "SightedMonths$Court"))) (by decide) rfl ?_
  intro p e s m args below meth c s₁ B hml hv
  obtain ⟨rfl, hsz, hP, hK, hD0, hz, hR, hRA, hF0, hFA0, hF1, hFA1⟩ := hv
  have hx := B.exec
  have hb := B.bytes
  have hr := B.returns
  have hts := atoms_spec (ws := (.code yX11_courtBy cX11_courtBy 3 (some (.object "SightedMonths$Court")) :: wsGA)) B.pre
  have hown : s.vm.findClass RX11 = some m.cls := findClass_of_methodNamed B.named
  have hlocks := B.notSynchronized
  subst hsz
  have hD := hD0.self (sz := s.heap.size)
  generalize hAe : va_A [(h0, .inr (11, [.ref xr, .ref am, .ref xs, .ref xf, .ref co, .ref oc, .ref ta, .ref xq, .ref xh, .ref xk, .ref xo, .int x_outLength, .int x_courtStands, .int x_courtNews, .int x_tallyStands, .int x_historyStands])), (co, .inr (1, [.ref fr, .ref ve, .ref qu, .ref tu, .ref cb, .int c_queueLength, .int c_takenBits])), (ve, .inl (kve, 24, .inl fve)), (qu, .inl (kqu, 24, .inl fqu)), (tu, .inl (ktu, 24, .inr (.inl ftu))), (cb, .inl (kcb, 25, .inl fcb)), (fr, .inr (3, [.int fmonths, .int ffull, .int flean, .ref fal, .ref fon])), (fal, .inl (kfal, 25, .inl ffal)), (fon, .inl (kfon, 275, .inl ffon))] s.heap.size = A at hD hRA hFA0 hFA1 ⊢
  have hA : ∀ q : Nat, s.heap.size ≤ q → A q := fun q h => by rw [← hAe]; exact Or.inr h
  have hS : va_S A s.heap s.heap [] := va_S.rf
  have hl := lv_entry ([.ref h0, .int p1]) (n := 3) (Nat.le_of_ble_eq_true rfl)
  rw [lg_entry_eq]
  generalize (lg_sl ([.ref h0, .int p1]) ++ List.replicate (3 - (lg_sl ([.ref h0, .int p1])).length) Slot.unset).toArray = ls at hl ⊢
  have hl : lv_has ls 3 [(0, .ref h0), (1, .int p1)] := hl
  refine lv_aload_n hx hb (dk_at dkX11_courtBy 0 rfl) rfl (lv_at hl 0 rfl) ?_
  refine va_get (D := (dC, dI)) (ci := 11) (v := .ref am) (C := RX11) (T := TX11) (N := 16) hx hb hts (fun w h => List.mem_cons_of_mem _ (jnGA_X11 w h)) hown hK hP 0 rfl rfl 1 (by decide) (hts _ (List.mem_cons_of_mem _ mGA_14)) (fun _ h9 => h9) rfl (dk_at dkX11_courtBy 1 rfl) ?_
  refine lv_iload_n hx hb (dk_at dkX11_courtBy 2 rfl) rfl (lv_at hl 1 rfl) ?_
  have hPc : va_P (dC, dI) vwCl [(am, .inr (0, [.int amonths, .int afull, .int alean, .int alines, .int ahasMoon, .int amoonStart, .int amoonStep, .int aplaceCount, .int areportCount, .int adeedCount, .ref pl, .ref re, .ref de])), (re, .inl (kre, 24, .inr (.inr (.inr (.inr (fun i => some (ra i)))))))] s.heap := (gz_cat ((gz_ro hR hRA hS).sub [0] rfl) ((gz_ro hR hRA hS).sub [2] rfl))
  have hKc := hK.sub (tys' := [(kre, .object RX7)]) [7] rfl
  refine va_calli (va_runV (As := [.int p1]) (rest := []) ⟨hx, hb, hml, hown, hts⟩ (sX0_latestNews l dC dI am re amonths afull alean alines ahasMoon amoonStart amoonStep aplaceCount areportCount adeedCount pl de kre ra r_place r_kind r_month r_day r_known r_struck p1 gamonths gafull galean gahasMoon gaplaceCount gareportCount gadeedCount gr_place gr_month gr_struck) (cwV 1 hts (gz_gV mGA_432 mGA_433 mGA_434 mGA_13 mGA_435 goodGA) rfl rfl rfl (by decide +kernel) ⟨Nat.le_of_ble_eq_true rfl, Nat.le_of_ble_eq_true rfl⟩) ⟨bl_I (bl_a bl_P (bl_a bl_K (bl_a bl_nz bl_P))), va_recv hKc hPc (ci := 0) (q0 := 0) rfl rfl, fun U hU hW => ⟨rfl, by rw [hU]; exact hPc, va_K.moved hW.alike hKc, nzA_warm hW hz, by rw [hU]; exact gz_ro hF1 hFA1 hS⟩⟩ rfl rfl hl.1 rfl (lv_room (Nat.le_of_ble_eq_true rfl)) (dk_at dkX11_courtBy 3 rfl) ⟨Nat.zero_le _, Nat.zero_le _⟩) hS (fun q _ h => h.elim) (fun q h => h.elim) (fun r_61 u t H1 locs ht hvm hw hB hz1 hk1 hS => ?_)
  have hP := gz_keep hP hk1
  generalize H1 = H at hP hS ⊢
  have gr_61 : gi r_61 (-1) 2147483647 := hw
  refine lv_istore_n (lv' := [(2, .int r_61), (0, .ref h0), (1, .int p1)]) hx hb (dk_at dkX11_courtBy 4 rfl) rfl hl (by decide) rfl (fun ls hl => ?_)
  refine lv_aload_n hx hb (dk_at dkX11_courtBy 5 rfl) rfl (lv_at hl 1 rfl) ?_
  refine va_get (D := (dC, dI)) (ci := 11) (v := .int x_courtStands) (C := RX11) (T := TX11) (N := 16) hx hb hts (fun w h => List.mem_cons_of_mem _ (jnGA_X11 w h)) hown hK hP 0 rfl rfl 12 (by decide) (hts _ (List.mem_cons_of_mem _ mGA_42)) (fun _ h9 => h9) rfl (dk_at dkX11_courtBy 6 rfl) ?_
  refine lv_if_eq (tgt := 24) hx hb (dk_at dkX11_courtBy 7 rfl) (by decide) (fun c_62 => ?_) (fun c_62 => ?_)
  · have g_63 : gi x_courtStands 0 0 := gi_eq c_62 (gi_c 0 0 (by decide))
    refine lv_aload_n hx hb (dk_at dkX11_courtBy 12 rfl) rfl (lv_at hl 1 rfl) ?_
    refine va_get (D := (dC, dI)) (ci := 11) (v := .ref co) (C := RX11) (T := TX11) (N := 16) hx hb hts (fun w h => List.mem_cons_of_mem _ (jnGA_X11 w h)) hown hK hP 0 rfl rfl 4 (by decide) (hts _ (List.mem_cons_of_mem _ mGA_23)) (fun _ h9 => h9) rfl (dk_at dkX11_courtBy 13 rfl) ?_
    refine lv_aload_n hx hb (dk_at dkX11_courtBy 14 rfl) rfl (lv_at hl 1 rfl) ?_
    refine va_get (D := (dC, dI)) (ci := 11) (v := .ref am) (C := RX11) (T := TX11) (N := 16) hx hb hts (fun w h => List.mem_cons_of_mem _ (jnGA_X11 w h)) hown hK hP 0 rfl rfl 1 (by decide) (hts _ (List.mem_cons_of_mem _ mGA_14)) (fun _ h9 => h9) rfl (dk_at dkX11_courtBy 15 rfl) ?_
    refine lv_iload_n hx hb (dk_at dkX11_courtBy 16 rfl) rfl (lv_at hl 2 rfl) ?_
    obtain ⟨hPc, hDc, hFc⟩ := gz_cut (wc := [(co, .inr (1, [.ref fr, .ref ve, .ref qu, .ref tu, .ref cb, .int c_queueLength, .int c_takenBits])), (ve, .inl (kve, 24, .inl fve)), (qu, .inl (kqu, 24, .inl fqu)), (tu, .inl (ktu, 24, .inr (.inl ftu))), (cb, .inl (kcb, 25, .inl fcb)), (fr, .inr (3, [.int fmonths, .int ffull, .int flean, .ref fal, .ref fon])), (fal, .inl (kfal, 25, .inl ffal)), (fon, .inl (kfon, 275, .inl ffon))]) hP hD hS hA [1, 2, 3, 4, 5, 6, 7, 8] (by decide) rfl
    have hKc := hK.sub (tys' := [(kve, .int), (kqu, .int), (ktu, .long), (kcb, .int), (kfal, .int), (kfon, .int), (kpl, .object RX5), (kre, .object RX7)]) [0, 1, 2, 3, 4, 5, 6, 7] rfl
    have hRc_ : va_P (dC, dI) vwCl [(am, .inr (0, [.int amonths, .int afull, .int alean, .int alines, .int ahasMoon, .int amoonStart, .int amoonStep, .int aplaceCount, .int areportCount, .int adeedCount, .ref pl, .ref re, .ref de])), (pl, .inl (kpl, 6, .inr (.inr (.inr (.inr (fun i => some (pa i))))))), (re, .inl (kre, 24, .inr (.inr (.inr (.inr (fun i => some (ra i)))))))] H := (gz_cat ((gz_ro hR hRA hS).sub [0] rfl) (gz_cat ((gz_ro hR hRA hS).sub [1] rfl) ((gz_ro hR hRA hS).sub [2] rfl)))
    have hRa_ : gz_ap (va_A [(co, .inr (1, [.ref fr, .ref ve, .ref qu, .ref tu, .ref cb, .int c_queueLength, .int c_takenBits])), (ve, .inl (kve, 24, .inl fve)), (qu, .inl (kqu, 24, .inl fqu)), (tu, .inl (ktu, 24, .inr (.inl ftu))), (cb, .inl (kcb, 25, .inl fcb)), (fr, .inr (3, [.int fmonths, .int ffull, .int flean, .ref fal, .ref fon])), (fal, .inl (kfal, 25, .inl ffal)), (fon, .inl (kfon, 275, .inl ffon))] H.size) [(am, .inr (0, [.int amonths, .int afull, .int alean, .int alines, .int ahasMoon, .int amoonStart, .int amoonStep, .int aplaceCount, .int areportCount, .int adeedCount, .ref pl, .ref re, .ref de])), (pl, .inl (kpl, 6, .inr (.inr (.inr (.inr (fun i => some (pa i))))))), (re, .inl (kre, 24, .inr (.inr (.inr (.inr (fun i => some (ra i)))))))] := (gz_apc (gz_apR (gz_ap1 hRA 0 rfl) hFc) (gz_apc (gz_apR (gz_ap1 hRA 1 rfl) hFc) (gz_apR (gz_ap1 hRA 2 rfl) hFc)))
    refine va_callv (va_runV (As := [.ref am, .int p1]) (rest := []) ⟨hx, hb, hml, hown, hts⟩ (sX1_judge l dC dI H.size co ve qu tu cb fr fal fon am pl re c_queueLength c_takenBits kve fve kqu fqu ktu ftu kcb fcb fmonths ffull flean kfal ffal kfon ffon amonths afull alean alines ahasMoon amoonStart amoonStep aplaceCount areportCount adeedCount de kpl kre pa p_name p_trust ra r_place r_kind r_month r_day r_known r_struck p1 gc_queueLength gfqu gfmonths gffull gflean gamonths gafull galean gahasMoon gaplaceCount gareportCount gadeedCount gr_place gr_month gr_struck) (cwV 2 hts (gz_gV mGA_443 mGA_444 mGA_445 mGA_22 mGA_446 goodGA) rfl rfl rfl (by decide +kernel) ⟨Nat.le_of_ble_eq_true rfl, Nat.le_of_ble_eq_true rfl⟩) ⟨bl_I (bl_a bl_sz (bl_a bl_P (bl_a bl_K (bl_a bl_c (bl_a bl_nz (bl_a bl_P (bl_a bl_c (bl_a bl_P (bl_a bl_c (bl_a bl_P bl_c)))))))))), va_recv hKc hPc (ci := 1) (q0 := 0) rfl rfl, fun U hU hW => ⟨rfl, by rw [hU], by rw [hU]; exact hPc, va_K.moved hW.alike hKc, hDc.weaken (fun _ _ _ _ => trivial), nzA_warm hW hz, by rw [hU]; exact hRc_, hRa_, by rw [hU]; exact gz_ro hF0 hFA0 hS, gz_apR hFA0 hFc, by rw [hU]; exact gz_ro hF1 hFA1 hS, gz_apR hFA1 hFc⟩⟩ rfl rfl hl.1 rfl (lv_room (Nat.le_of_ble_eq_true rfl)) (dk_at dkX11_courtBy 17 rfl) ⟨Nat.zero_le _, Nat.zero_le _⟩) hS (fun q _ h => hFc q h) hFc (fun u t H1 locs ht hvm hw hB hz1 hk1 hS => ?_)
    obtain ⟨y_65, y_66, y_67, y_68, y_69, f_70, f_71, f_72, f_73, f_74, f_75, hB⟩ := hB
    obtain ⟨gy_65, gy_67, gy_68, gy_69, gf_71, hP1, hD1⟩ := hB
    rw [ht] at hP1
    obtain ⟨hP, hD⟩ := gz_back hP hD hk1 hFc hP1 hD1 [1, 2, 3, 4, 5, 6, 7, 8] rfl rfl
    obtain ⟨hP, hD⟩ := gz_both (w := [(h0, .inr (11, [.ref xr, .ref am, .ref xs, .ref xf, .ref co, .ref oc, .ref ta, .ref xq, .ref xh, .ref xk, .ref xo, .int x_outLength, .int x_courtStands, .int x_courtNews, .int x_tallyStands, .int x_historyStands])), (co, .inr (1, [.ref fr, .ref ve, .ref qu, .ref tu, .ref cb, .int y_65, .int y_66])), (ve, .inl (kve, 24, .inl f_70)), (qu, .inl (kqu, 24, .inl f_71)), (tu, .inl (ktu, 24, .inr (.inl f_72))), (cb, .inl (kcb, 25, .inl f_73)), (fr, .inr (3, [.int y_67, .int y_68, .int y_69, .ref fal, .ref fon])), (fal, .inl (kfal, 25, .inl f_74)), (fon, .inl (kfon, 275, .inl f_75))]) hP hD
    generalize H1 = H at hP hS ⊢
    refine lv_aload_n hx hb (dk_at dkX11_courtBy 18 rfl) rfl (lv_at hl 1 rfl) ?_
    refine lv_iload_n hx hb (dk_at dkX11_courtBy 19 rfl) rfl (lv_at hl 0 rfl) ?_
    refine va_put (D := (dC, dI)) (ci := 11) (v := .int r_61) (ty := .int) (C := RX11) (T := TX11) (N := 16) hx hb hts (fun w h => List.mem_cons_of_mem _ (jnGA_X11 w h)) tyX11 tyX11_ok nmX11 hown hK hP hD hS 0 rfl rfl 13 (by decide) (hts _ (List.mem_cons_of_mem _ mGA_43)) (fun _ h9 => h9) rfl (by decide +kernel) rfl rfl (Nat.le_of_ble_eq_true rfl) (dk_at dkX11_courtBy 20 rfl) (fun H locs hP hD hS => ?_)
    obtain ⟨hP, hD⟩ := gz_both (w := [(h0, .inr (11, [.ref xr, .ref am, .ref xs, .ref xf, .ref co, .ref oc, .ref ta, .ref xq, .ref xh, .ref xk, .ref xo, .int x_outLength, .int x_courtStands, .int r_61, .int x_tallyStands, .int x_historyStands])), (co, .inr (1, [.ref fr, .ref ve, .ref qu, .ref tu, .ref cb, .int y_65, .int y_66])), (ve, .inl (kve, 24, .inl f_70)), (qu, .inl (kqu, 24, .inl f_71)), (tu, .inl (ktu, 24, .inr (.inl f_72))), (cb, .inl (kcb, 25, .inl f_73)), (fr, .inr (3, [.int y_67, .int y_68, .int y_69, .ref fal, .ref fon])), (fal, .inl (kfal, 25, .inl f_74)), (fon, .inl (kfon, 275, .inl f_75))]) hP hD
    refine lv_aload_n hx hb (dk_at dkX11_courtBy 21 rfl) rfl (lv_at hl 1 rfl) ?_
    refine lv_iconst (v := 1) hx hb (dk_at dkX11_courtBy 22 rfl) (by decide) ?_
    refine va_put (D := (dC, dI)) (ci := 11) (v := .int 1) (ty := .boolean) (C := RX11) (T := TX11) (N := 16) hx hb hts (fun w h => List.mem_cons_of_mem _ (jnGA_X11 w h)) tyX11 tyX11_ok nmX11 hown hK hP hD hS 0 rfl rfl 12 (by decide) (hts _ (List.mem_cons_of_mem _ mGA_42)) (fun _ h9 => h9) rfl (by decide +kernel) rfl rfl (Nat.le_of_ble_eq_true rfl) (dk_at dkX11_courtBy 23 rfl) (fun H locs hP hD hS => ?_)
    obtain ⟨hP, hD⟩ := gz_both (w := [(h0, .inr (11, [.ref xr, .ref am, .ref xs, .ref xf, .ref co, .ref oc, .ref ta, .ref xq, .ref xh, .ref xk, .ref xo, .int x_outLength, .int 1, .int r_61, .int x_tallyStands, .int x_historyStands])), (co, .inr (1, [.ref fr, .ref ve, .ref qu, .ref tu, .ref cb, .int y_65, .int y_66])), (ve, .inl (kve, 24, .inl f_70)), (qu, .inl (kqu, 24, .inl f_71)), (tu, .inl (ktu, 24, .inr (.inl f_72))), (cb, .inl (kcb, 25, .inl f_73)), (fr, .inr (3, [.int y_67, .int y_68, .int y_69, .ref fal, .ref fon])), (fal, .inl (kfal, 25, .inl f_74)), (fon, .inl (kfon, 275, .inl f_75))]) hP hD
    refine lv_aload_n hx hb (dk_at dkX11_courtBy 24 rfl) rfl (lv_at hl 1 rfl) ?_
    refine lv_iconst (v := 0) hx hb (dk_at dkX11_courtBy 25 rfl) (by decide) ?_
    refine va_put (D := (dC, dI)) (ci := 11) (v := .int 0) (ty := .boolean) (C := RX11) (T := TX11) (N := 16) hx hb hts (fun w h => List.mem_cons_of_mem _ (jnGA_X11 w h)) tyX11 tyX11_ok nmX11 hown hK hP hD hS 0 rfl rfl 14 (by decide) (hts _ (List.mem_cons_of_mem _ mGA_44)) (fun _ h9 => h9) rfl (by decide +kernel) rfl rfl (Nat.le_of_ble_eq_true rfl) (dk_at dkX11_courtBy 26 rfl) (fun H locs hP hD hS => ?_)
    obtain ⟨hP, hD⟩ := gz_both (w := [(h0, .inr (11, [.ref xr, .ref am, .ref xs, .ref xf, .ref co, .ref oc, .ref ta, .ref xq, .ref xh, .ref xk, .ref xo, .int x_outLength, .int 1, .int r_61, .int 0, .int x_historyStands])), (co, .inr (1, [.ref fr, .ref ve, .ref qu, .ref tu, .ref cb, .int y_65, .int y_66])), (ve, .inl (kve, 24, .inl f_70)), (qu, .inl (kqu, 24, .inl f_71)), (tu, .inl (ktu, 24, .inr (.inl f_72))), (cb, .inl (kcb, 25, .inl f_73)), (fr, .inr (3, [.int y_67, .int y_68, .int y_69, .ref fal, .ref fon])), (fal, .inl (kfal, 25, .inl f_74)), (fon, .inl (kfon, 275, .inl f_75))]) hP hD
    refine lv_aload_n hx hb (dk_at dkX11_courtBy 27 rfl) rfl (lv_at hl 1 rfl) ?_
    refine va_get (D := (dC, dI)) (ci := 11) (v := .ref co) (C := RX11) (T := TX11) (N := 16) hx hb hts (fun w h => List.mem_cons_of_mem _ (jnGA_X11 w h)) hown hK hP 0 rfl rfl 4 (by decide) (hts _ (List.mem_cons_of_mem _ mGA_23)) (fun _ h9 => h9) rfl (dk_at dkX11_courtBy 28 rfl) ?_
    exact W.aret (v := .ref co) hx hb hr (Or.inl ⟨_, rfl⟩) (Or.inr ⟨_, rfl⟩) (fun t ht hW => ⟨⟨(), co, rfl, trivial, rfl, 1, r_61, 0, y_65, y_66, y_67, y_68, y_69, f_70, f_71, f_72, f_73, f_74, f_75, (gi_w (gi_c 1 1 (by decide)) (by decide)), (gi_w (gi_c 0 0 (by decide)) (by decide)), gy_65, gy_67, gy_68, gy_69, gf_71, by rw [ht]; exact hP, hD⟩, hS.F ht⟩) hS.2.2 (dk_at dkX11_courtBy 29 rfl)
  · have g_76 : gi x_courtStands 1 1 := gi_ne_lo c_62 gx_courtStands (gi_c 0 0 (by decide)) (by decide)
    refine lv_iload_n hx hb (dk_at dkX11_courtBy 8 rfl) rfl (lv_at hl 0 rfl) ?_
    refine lv_aload_n hx hb (dk_at dkX11_courtBy 9 rfl) rfl (lv_at hl 1 rfl) ?_
    refine va_get (D := (dC, dI)) (ci := 11) (v := .int x_courtNews) (C := RX11) (T := TX11) (N := 16) hx hb hts (fun w h => List.mem_cons_of_mem _ (jnGA_X11 w h)) hown hK hP 0 rfl rfl 13 (by decide) (hts _ (List.mem_cons_of_mem _ mGA_43)) (fun _ h9 => h9) rfl (dk_at dkX11_courtBy 10 rfl) ?_
    refine lv_icmp_eq (tgt := 51) hx hb (dk_at dkX11_courtBy 11 rfl) (by decide) (fun c_77 => ?_) (fun c_77 => ?_)
    · have g_78 : gi x_courtNews (-1) 2147483647 := gi_eq c_77.symm gr_61
      refine lv_aload_n hx hb (dk_at dkX11_courtBy 27 rfl) rfl (lv_at hl 1 rfl) ?_
      refine va_get (D := (dC, dI)) (ci := 11) (v := .ref co) (C := RX11) (T := TX11) (N := 16) hx hb hts (fun w h => List.mem_cons_of_mem _ (jnGA_X11 w h)) hown hK hP 0 rfl rfl 4 (by decide) (hts _ (List.mem_cons_of_mem _ mGA_23)) (fun _ h9 => h9) rfl (dk_at dkX11_courtBy 28 rfl) ?_
      exact W.aret (v := .ref co) hx hb hr (Or.inl ⟨_, rfl⟩) (Or.inr ⟨_, rfl⟩) (fun t ht hW => ⟨⟨(), co, rfl, trivial, rfl, x_courtStands, x_courtNews, x_tallyStands, c_queueLength, c_takenBits, fmonths, ffull, flean, fve, fqu, ftu, fcb, ffal, ffon, (gi_w g_76 (by decide)), gx_tallyStands, gc_queueLength, gfmonths, gffull, gflean, gfqu, by rw [ht]; exact hP, hD⟩, hS.F ht⟩) hS.2.2 (dk_at dkX11_courtBy 29 rfl)
    · refine lv_aload_n hx hb (dk_at dkX11_courtBy 12 rfl) rfl (lv_at hl 1 rfl) ?_
      refine va_get (D := (dC, dI)) (ci := 11) (v := .ref co) (C := RX11) (T := TX11) (N := 16) hx hb hts (fun w h => List.mem_cons_of_mem _ (jnGA_X11 w h)) hown hK hP 0 rfl rfl 4 (by decide) (hts _ (List.mem_cons_of_mem _ mGA_23)) (fun _ h9 => h9) rfl (dk_at dkX11_courtBy 13 rfl) ?_
      refine lv_aload_n hx hb (dk_at dkX11_courtBy 14 rfl) rfl (lv_at hl 1 rfl) ?_
      refine va_get (D := (dC, dI)) (ci := 11) (v := .ref am) (C := RX11) (T := TX11) (N := 16) hx hb hts (fun w h => List.mem_cons_of_mem _ (jnGA_X11 w h)) hown hK hP 0 rfl rfl 1 (by decide) (hts _ (List.mem_cons_of_mem _ mGA_14)) (fun _ h9 => h9) rfl (dk_at dkX11_courtBy 15 rfl) ?_
      refine lv_iload_n hx hb (dk_at dkX11_courtBy 16 rfl) rfl (lv_at hl 2 rfl) ?_
      obtain ⟨hPc, hDc, hFc⟩ := gz_cut (wc := [(co, .inr (1, [.ref fr, .ref ve, .ref qu, .ref tu, .ref cb, .int c_queueLength, .int c_takenBits])), (ve, .inl (kve, 24, .inl fve)), (qu, .inl (kqu, 24, .inl fqu)), (tu, .inl (ktu, 24, .inr (.inl ftu))), (cb, .inl (kcb, 25, .inl fcb)), (fr, .inr (3, [.int fmonths, .int ffull, .int flean, .ref fal, .ref fon])), (fal, .inl (kfal, 25, .inl ffal)), (fon, .inl (kfon, 275, .inl ffon))]) hP hD hS hA [1, 2, 3, 4, 5, 6, 7, 8] (by decide) rfl
      have hKc := hK.sub (tys' := [(kve, .int), (kqu, .int), (ktu, .long), (kcb, .int), (kfal, .int), (kfon, .int), (kpl, .object RX5), (kre, .object RX7)]) [0, 1, 2, 3, 4, 5, 6, 7] rfl
      have hRc_ : va_P (dC, dI) vwCl [(am, .inr (0, [.int amonths, .int afull, .int alean, .int alines, .int ahasMoon, .int amoonStart, .int amoonStep, .int aplaceCount, .int areportCount, .int adeedCount, .ref pl, .ref re, .ref de])), (pl, .inl (kpl, 6, .inr (.inr (.inr (.inr (fun i => some (pa i))))))), (re, .inl (kre, 24, .inr (.inr (.inr (.inr (fun i => some (ra i)))))))] H := (gz_cat ((gz_ro hR hRA hS).sub [0] rfl) (gz_cat ((gz_ro hR hRA hS).sub [1] rfl) ((gz_ro hR hRA hS).sub [2] rfl)))
      have hRa_ : gz_ap (va_A [(co, .inr (1, [.ref fr, .ref ve, .ref qu, .ref tu, .ref cb, .int c_queueLength, .int c_takenBits])), (ve, .inl (kve, 24, .inl fve)), (qu, .inl (kqu, 24, .inl fqu)), (tu, .inl (ktu, 24, .inr (.inl ftu))), (cb, .inl (kcb, 25, .inl fcb)), (fr, .inr (3, [.int fmonths, .int ffull, .int flean, .ref fal, .ref fon])), (fal, .inl (kfal, 25, .inl ffal)), (fon, .inl (kfon, 275, .inl ffon))] H.size) [(am, .inr (0, [.int amonths, .int afull, .int alean, .int alines, .int ahasMoon, .int amoonStart, .int amoonStep, .int aplaceCount, .int areportCount, .int adeedCount, .ref pl, .ref re, .ref de])), (pl, .inl (kpl, 6, .inr (.inr (.inr (.inr (fun i => some (pa i))))))), (re, .inl (kre, 24, .inr (.inr (.inr (.inr (fun i => some (ra i)))))))] := (gz_apc (gz_apR (gz_ap1 hRA 0 rfl) hFc) (gz_apc (gz_apR (gz_ap1 hRA 1 rfl) hFc) (gz_apR (gz_ap1 hRA 2 rfl) hFc)))
      refine va_callv (va_runV (As := [.ref am, .int p1]) (rest := []) ⟨hx, hb, hml, hown, hts⟩ (sX1_judge l dC dI H.size co ve qu tu cb fr fal fon am pl re c_queueLength c_takenBits kve fve kqu fqu ktu ftu kcb fcb fmonths ffull flean kfal ffal kfon ffon amonths afull alean alines ahasMoon amoonStart amoonStep aplaceCount areportCount adeedCount de kpl kre pa p_name p_trust ra r_place r_kind r_month r_day r_known r_struck p1 gc_queueLength gfqu gfmonths gffull gflean gamonths gafull galean gahasMoon gaplaceCount gareportCount gadeedCount gr_place gr_month gr_struck) (cwV 2 hts (gz_gV mGA_443 mGA_444 mGA_445 mGA_22 mGA_446 goodGA) rfl rfl rfl (by decide +kernel) ⟨Nat.le_of_ble_eq_true rfl, Nat.le_of_ble_eq_true rfl⟩) ⟨bl_I (bl_a bl_sz (bl_a bl_P (bl_a bl_K (bl_a bl_c (bl_a bl_nz (bl_a bl_P (bl_a bl_c (bl_a bl_P (bl_a bl_c (bl_a bl_P bl_c)))))))))), va_recv hKc hPc (ci := 1) (q0 := 0) rfl rfl, fun U hU hW => ⟨rfl, by rw [hU], by rw [hU]; exact hPc, va_K.moved hW.alike hKc, hDc.weaken (fun _ _ _ _ => trivial), nzA_warm hW hz, by rw [hU]; exact hRc_, hRa_, by rw [hU]; exact gz_ro hF0 hFA0 hS, gz_apR hFA0 hFc, by rw [hU]; exact gz_ro hF1 hFA1 hS, gz_apR hFA1 hFc⟩⟩ rfl rfl hl.1 rfl (lv_room (Nat.le_of_ble_eq_true rfl)) (dk_at dkX11_courtBy 17 rfl) ⟨Nat.zero_le _, Nat.zero_le _⟩) hS (fun q _ h => hFc q h) hFc (fun u t H1 locs ht hvm hw hB hz1 hk1 hS => ?_)
      obtain ⟨y_80, y_81, y_82, y_83, y_84, f_85, f_86, f_87, f_88, f_89, f_90, hB⟩ := hB
      obtain ⟨gy_80, gy_82, gy_83, gy_84, gf_86, hP1, hD1⟩ := hB
      rw [ht] at hP1
      obtain ⟨hP, hD⟩ := gz_back hP hD hk1 hFc hP1 hD1 [1, 2, 3, 4, 5, 6, 7, 8] rfl rfl
      obtain ⟨hP, hD⟩ := gz_both (w := [(h0, .inr (11, [.ref xr, .ref am, .ref xs, .ref xf, .ref co, .ref oc, .ref ta, .ref xq, .ref xh, .ref xk, .ref xo, .int x_outLength, .int x_courtStands, .int x_courtNews, .int x_tallyStands, .int x_historyStands])), (co, .inr (1, [.ref fr, .ref ve, .ref qu, .ref tu, .ref cb, .int y_80, .int y_81])), (ve, .inl (kve, 24, .inl f_85)), (qu, .inl (kqu, 24, .inl f_86)), (tu, .inl (ktu, 24, .inr (.inl f_87))), (cb, .inl (kcb, 25, .inl f_88)), (fr, .inr (3, [.int y_82, .int y_83, .int y_84, .ref fal, .ref fon])), (fal, .inl (kfal, 25, .inl f_89)), (fon, .inl (kfon, 275, .inl f_90))]) hP hD
      generalize H1 = H at hP hS ⊢
      refine lv_aload_n hx hb (dk_at dkX11_courtBy 18 rfl) rfl (lv_at hl 1 rfl) ?_
      refine lv_iload_n hx hb (dk_at dkX11_courtBy 19 rfl) rfl (lv_at hl 0 rfl) ?_
      refine va_put (D := (dC, dI)) (ci := 11) (v := .int r_61) (ty := .int) (C := RX11) (T := TX11) (N := 16) hx hb hts (fun w h => List.mem_cons_of_mem _ (jnGA_X11 w h)) tyX11 tyX11_ok nmX11 hown hK hP hD hS 0 rfl rfl 13 (by decide) (hts _ (List.mem_cons_of_mem _ mGA_43)) (fun _ h9 => h9) rfl (by decide +kernel) rfl rfl (Nat.le_of_ble_eq_true rfl) (dk_at dkX11_courtBy 20 rfl) (fun H locs hP hD hS => ?_)
      obtain ⟨hP, hD⟩ := gz_both (w := [(h0, .inr (11, [.ref xr, .ref am, .ref xs, .ref xf, .ref co, .ref oc, .ref ta, .ref xq, .ref xh, .ref xk, .ref xo, .int x_outLength, .int x_courtStands, .int r_61, .int x_tallyStands, .int x_historyStands])), (co, .inr (1, [.ref fr, .ref ve, .ref qu, .ref tu, .ref cb, .int y_80, .int y_81])), (ve, .inl (kve, 24, .inl f_85)), (qu, .inl (kqu, 24, .inl f_86)), (tu, .inl (ktu, 24, .inr (.inl f_87))), (cb, .inl (kcb, 25, .inl f_88)), (fr, .inr (3, [.int y_82, .int y_83, .int y_84, .ref fal, .ref fon])), (fal, .inl (kfal, 25, .inl f_89)), (fon, .inl (kfon, 275, .inl f_90))]) hP hD
      refine lv_aload_n hx hb (dk_at dkX11_courtBy 21 rfl) rfl (lv_at hl 1 rfl) ?_
      refine lv_iconst (v := 1) hx hb (dk_at dkX11_courtBy 22 rfl) (by decide) ?_
      refine va_put (D := (dC, dI)) (ci := 11) (v := .int 1) (ty := .boolean) (C := RX11) (T := TX11) (N := 16) hx hb hts (fun w h => List.mem_cons_of_mem _ (jnGA_X11 w h)) tyX11 tyX11_ok nmX11 hown hK hP hD hS 0 rfl rfl 12 (by decide) (hts _ (List.mem_cons_of_mem _ mGA_42)) (fun _ h9 => h9) rfl (by decide +kernel) rfl rfl (Nat.le_of_ble_eq_true rfl) (dk_at dkX11_courtBy 23 rfl) (fun H locs hP hD hS => ?_)
      obtain ⟨hP, hD⟩ := gz_both (w := [(h0, .inr (11, [.ref xr, .ref am, .ref xs, .ref xf, .ref co, .ref oc, .ref ta, .ref xq, .ref xh, .ref xk, .ref xo, .int x_outLength, .int 1, .int r_61, .int x_tallyStands, .int x_historyStands])), (co, .inr (1, [.ref fr, .ref ve, .ref qu, .ref tu, .ref cb, .int y_80, .int y_81])), (ve, .inl (kve, 24, .inl f_85)), (qu, .inl (kqu, 24, .inl f_86)), (tu, .inl (ktu, 24, .inr (.inl f_87))), (cb, .inl (kcb, 25, .inl f_88)), (fr, .inr (3, [.int y_82, .int y_83, .int y_84, .ref fal, .ref fon])), (fal, .inl (kfal, 25, .inl f_89)), (fon, .inl (kfon, 275, .inl f_90))]) hP hD
      refine lv_aload_n hx hb (dk_at dkX11_courtBy 24 rfl) rfl (lv_at hl 1 rfl) ?_
      refine lv_iconst (v := 0) hx hb (dk_at dkX11_courtBy 25 rfl) (by decide) ?_
      refine va_put (D := (dC, dI)) (ci := 11) (v := .int 0) (ty := .boolean) (C := RX11) (T := TX11) (N := 16) hx hb hts (fun w h => List.mem_cons_of_mem _ (jnGA_X11 w h)) tyX11 tyX11_ok nmX11 hown hK hP hD hS 0 rfl rfl 14 (by decide) (hts _ (List.mem_cons_of_mem _ mGA_44)) (fun _ h9 => h9) rfl (by decide +kernel) rfl rfl (Nat.le_of_ble_eq_true rfl) (dk_at dkX11_courtBy 26 rfl) (fun H locs hP hD hS => ?_)
      obtain ⟨hP, hD⟩ := gz_both (w := [(h0, .inr (11, [.ref xr, .ref am, .ref xs, .ref xf, .ref co, .ref oc, .ref ta, .ref xq, .ref xh, .ref xk, .ref xo, .int x_outLength, .int 1, .int r_61, .int 0, .int x_historyStands])), (co, .inr (1, [.ref fr, .ref ve, .ref qu, .ref tu, .ref cb, .int y_80, .int y_81])), (ve, .inl (kve, 24, .inl f_85)), (qu, .inl (kqu, 24, .inl f_86)), (tu, .inl (ktu, 24, .inr (.inl f_87))), (cb, .inl (kcb, 25, .inl f_88)), (fr, .inr (3, [.int y_82, .int y_83, .int y_84, .ref fal, .ref fon])), (fal, .inl (kfal, 25, .inl f_89)), (fon, .inl (kfon, 275, .inl f_90))]) hP hD
      refine lv_aload_n hx hb (dk_at dkX11_courtBy 27 rfl) rfl (lv_at hl 1 rfl) ?_
      refine va_get (D := (dC, dI)) (ci := 11) (v := .ref co) (C := RX11) (T := TX11) (N := 16) hx hb hts (fun w h => List.mem_cons_of_mem _ (jnGA_X11 w h)) hown hK hP 0 rfl rfl 4 (by decide) (hts _ (List.mem_cons_of_mem _ mGA_23)) (fun _ h9 => h9) rfl (dk_at dkX11_courtBy 28 rfl) ?_
      exact W.aret (v := .ref co) hx hb hr (Or.inl ⟨_, rfl⟩) (Or.inr ⟨_, rfl⟩) (fun t ht hW => ⟨⟨(), co, rfl, trivial, rfl, 1, r_61, 0, y_80, y_81, y_82, y_83, y_84, f_85, f_86, f_87, f_88, f_89, f_90, (gi_w (gi_c 1 1 (by decide)) (by decide)), (gi_w (gi_c 0 0 (by decide)) (by decide)), gy_80, gy_82, gy_83, gy_84, gf_86, by rw [ht]; exact hP, hD⟩, hS.F ht⟩) hS.2.2 (dk_at dkX11_courtBy 29 rfl)
noncomputable def lsX11_tallyBy : List (Nat × Instr × Nat) := [(0, .aload_n 0, 1), (1, .iload_n 1, 1), (2, .invokevirtual 219, 3), (5, .astore_n 2, 1), (6, .aload_n 0, 1), (7, .getfield 83, 3), (10, .ifCond .ne 19, 3), (13, .aload_n 0, 1), (14, .getfield 46, 3), (17, .aload_n 2, 1), (18, .getfield 338, 3), (21, .invokevirtual 406, 3), (24, .aload_n 0, 1), (25, .iconst 1, 1), (26, .putfield 83, 3), (29, .aload_n 0, 1), (30, .getfield 46, 3), (33, .areturn, 1)]
theorem dkX11_tallyBy : dkAll cX11_tallyBy lsX11_tallyBy = true := by decide +kernel
abbrev pb_sX11_tallyBy (dC : Nat → ClassId) (dI : Nat → Nat → Nat) (A9 : Nat → Prop) (h0 : Nat) (co : Nat) (ve : Nat) (qu : Nat) (tu : Nat) (cb : Nat) (fr : Nat) (fal : Nat) (fon : Nat) (ta : Nat) (bf : Nat) (bh : Nat) (sa : Nat) (am : Nat) (pl : Nat) (re : Nat) (xr : Nat) (xs : Nat) (xf : Nat) (oc : Nat) (xq : Nat) (xh : Nat) (xk : Nat) (xo : Nat) (x_outLength : Int32) (x_courtStands : Int32) (x_courtNews : Int32) (x_tallyStands : Int32) (x_historyStands : Int32) (c_queueLength : Int32) (c_takenBits : Int32) (kve : ClassId) (fve : Nat → Int32) (kqu : ClassId) (fqu : Nat → Int32) (ktu : ClassId) (ftu : Nat → Int64) (kcb : ClassId) (fcb : Nat → Int32) (fmonths : Int32) (ffull : Int32) (flean : Int32) (kfal : ClassId) (ffal : Nat → Int32) (kfon : ClassId) (ffon : Nat → Int32) (t_months : Int32) (t_full : Int32) (t_lean : Int32) (kbf : ClassId) (fbf : Nat → Int32) (kbh : ClassId) (fbh : Nat → Int32) (ksa : ClassId) (fsa : Nat → Int32) (amonths : Int32) (afull : Int32) (alean : Int32) (alines : Int32) (ahasMoon : Int32) (amoonStart : Int32) (amoonStep : Int32) (aplaceCount : Int32) (areportCount : Int32) (adeedCount : Int32) (de : Nat) (kpl : ClassId) (kre : ClassId) (pa : Nat → Nat) (p_name : Nat → Int32) (p_trust : Nat → Int32) (ra : Nat → Nat) (r_place : Nat → Int32) (r_kind : Nat → Int32) (r_month : Nat → Int32) (r_day : Nat → Int32) (r_known : Nat → Int32) (r_struck : Nat → Int32) (p1 : Int32) (w0_12 : Int32) (w0_13 : Int32) (w0_14 : Int32) (w1_5 : Int32) (w1_6 : Int32) (w6_0 : Int32) (w6_1 : Int32) (w6_2 : Int32) (w9_3 : Int32) (w9_4 : Int32) (w9_5 : Int32) (z2 : Nat → Int32) (z3 : Nat → Int32) (z4 : Nat → Int64) (z5 : Nat → Int32) (z7 : Nat → Int32) (z8 : Nat → Int32) (z10 : Nat → Int32) (z11 : Nat → Int32) (z12 : Nat → Int32) (t : State) : Prop := gi w0_12 0 1 ∧ gi w0_14 0 1 ∧ gi w1_5 0 24 ∧ gi w6_0 0 24 ∧ gi w6_1 0 5 ∧ gi w6_2 0 5 ∧ gi w9_3 0 24 ∧ gi w9_4 0 5 ∧ gi w9_5 0 5 ∧ ga z3 24 0 23 ∧ va_P (dC, dI) vwCl [(h0, .inr (11, [.ref xr, .ref am, .ref xs, .ref xf, .ref co, .ref oc, .ref ta, .ref xq, .ref xh, .ref xk, .ref xo, .int x_outLength, .int w0_12, .int w0_13, .int w0_14, .int x_historyStands])), (co, .inr (1, [.ref fr, .ref ve, .ref qu, .ref tu, .ref cb, .int w1_5, .int w1_6])), (ve, .inl (kve, 24, .inl z2)), (qu, .inl (kqu, 24, .inl z3)), (tu, .inl (ktu, 24, .inr (.inl z4))), (cb, .inl (kcb, 25, .inl z5)), (fr, .inr (3, [.int w6_0, .int w6_1, .int w6_2, .ref fal, .ref fon])), (fal, .inl (kfal, 25, .inl z7)), (fon, .inl (kfon, 275, .inl z8)), (ta, .inr (9, [.ref bf, .ref bh, .ref sa, .int w9_3, .int w9_4, .int w9_5])), (bf, .inl (kbf, 3575, .inl z10)), (bh, .inl (kbh, 3575, .inl z11)), (sa, .inl (ksa, 325, .inl z12))] t.heap ∧ va_D A9 [(h0, .inr (11, [.ref xr, .ref am, .ref xs, .ref xf, .ref co, .ref oc, .ref ta, .ref xq, .ref xh, .ref xk, .ref xo, .int x_outLength, .int w0_12, .int w0_13, .int w0_14, .int x_historyStands])), (co, .inr (1, [.ref fr, .ref ve, .ref qu, .ref tu, .ref cb, .int w1_5, .int w1_6])), (ve, .inl (kve, 24, .inl z2)), (qu, .inl (kqu, 24, .inl z3)), (tu, .inl (ktu, 24, .inr (.inl z4))), (cb, .inl (kcb, 25, .inl z5)), (fr, .inr (3, [.int w6_0, .int w6_1, .int w6_2, .ref fal, .ref fon])), (fal, .inl (kfal, 25, .inl z7)), (fon, .inl (kfon, 275, .inl z8)), (ta, .inr (9, [.ref bf, .ref bh, .ref sa, .int w9_3, .int w9_4, .int w9_5])), (bf, .inl (kbf, 3575, .inl z10)), (bh, .inl (kbh, 3575, .inl z11)), (sa, .inl (ksa, 325, .inl z12))]
set_option maxHeartbeats 4000000 in
set_option maxRecDepth 100000 in
theorem sX11_tallyBy (l : Launch) (dC : Nat → ClassId) (dI : Nat → Nat → Nat) (sz : Nat) (h0 : Nat) (co : Nat) (ve : Nat) (qu : Nat) (tu : Nat) (cb : Nat) (fr : Nat) (fal : Nat) (fon : Nat) (ta : Nat) (bf : Nat) (bh : Nat) (sa : Nat) (am : Nat) (pl : Nat) (re : Nat) (xr : Nat) (xs : Nat) (xf : Nat) (oc : Nat) (xq : Nat) (xh : Nat) (xk : Nat) (xo : Nat) (x_outLength : Int32) (x_courtStands : Int32) (x_courtNews : Int32) (x_tallyStands : Int32) (x_historyStands : Int32) (c_queueLength : Int32) (c_takenBits : Int32) (kve : ClassId) (fve : Nat → Int32) (kqu : ClassId) (fqu : Nat → Int32) (ktu : ClassId) (ftu : Nat → Int64) (kcb : ClassId) (fcb : Nat → Int32) (fmonths : Int32) (ffull : Int32) (flean : Int32) (kfal : ClassId) (ffal : Nat → Int32) (kfon : ClassId) (ffon : Nat → Int32) (t_months : Int32) (t_full : Int32) (t_lean : Int32) (kbf : ClassId) (fbf : Nat → Int32) (kbh : ClassId) (fbh : Nat → Int32) (ksa : ClassId) (fsa : Nat → Int32) (amonths : Int32) (afull : Int32) (alean : Int32) (alines : Int32) (ahasMoon : Int32) (amoonStart : Int32) (amoonStep : Int32) (aplaceCount : Int32) (areportCount : Int32) (adeedCount : Int32) (de : Nat) (kpl : ClassId) (kre : ClassId) (pa : Nat → Nat) (p_name : Nat → Int32) (p_trust : Nat → Int32) (ra : Nat → Nat) (r_place : Nat → Int32) (r_kind : Nat → Int32) (r_month : Nat → Int32) (r_day : Nat → Int32) (r_known : Nat → Int32) (r_struck : Nat → Int32) (p1 : Int32) (gx_outLength : gi x_outLength 0 72) (gx_courtStands : gi x_courtStands 0 1) (gx_tallyStands : gi x_tallyStands 0 1) (gx_historyStands : gi x_historyStands 0 1) (gc_queueLength : gi c_queueLength 0 24) (gfqu : ga fqu 24 0 23) (gfmonths : gi fmonths 0 24) (gffull : gi ffull 0 5) (gflean : gi flean 0 5) (gt_months : gi t_months 0 24) (gt_full : gi t_full 0 5) (gt_lean : gi t_lean 0 5) (gamonths : gi amonths 0 24) (gafull : gi afull 0 5) (galean : gi alean 0 5) (gahasMoon : gi ahasMoon 0 1) (gaplaceCount : gi aplaceCount 0 6) (gareportCount : gi areportCount 0 24) (gadeedCount : gi adeedCount 0 8) (gr_place : ga r_place 24 0 5) (gr_month : ga r_month 24 0 23) (gr_struck : ga r_struck 24 0 1) : Met l yX11_tallyBy (.code yX11_tallyBy cX11_tallyBy 3 (some (.object "SightedMonths$Tally")) :: wsGA) ({ frames := 5, cells := 0, slots := 0, locals := 117 }) (va_Pc [.ref h0, .int p1] (fun U => U.heap.size = sz ∧ va_P (dC, dI) vwCl [(h0, .inr (11, [.ref xr, .ref am, .ref xs, .ref xf, .ref co, .ref oc, .ref ta, .ref xq, .ref xh, .ref xk, .ref xo, .int x_outLength, .int x_courtStands, .int x_courtNews, .int x_tallyStands, .int x_historyStands])), (co, .inr (1, [.ref fr, .ref ve, .ref qu, .ref tu, .ref cb, .int c_queueLength, .int c_takenBits])), (ve, .inl (kve, 24, .inl fve)), (qu, .inl (kqu, 24, .inl fqu)), (tu, .inl (ktu, 24, .inr (.inl ftu))), (cb, .inl (kcb, 25, .inl fcb)), (fr, .inr (3, [.int fmonths, .int ffull, .int flean, .ref fal, .ref fon])), (fal, .inl (kfal, 25, .inl ffal)), (fon, .inl (kfon, 275, .inl ffon)), (ta, .inr (9, [.ref bf, .ref bh, .ref sa, .int t_months, .int t_full, .int t_lean])), (bf, .inl (kbf, 3575, .inl fbf)), (bh, .inl (kbh, 3575, .inl fbh)), (sa, .inl (ksa, 325, .inl fsa))] U.heap ∧ va_K (dC, dI) vwCl [(kve, .int), (kqu, .int), (ktu, .long), (kcb, .int), (kfal, .int), (kfon, .int), (kbf, .int), (kbh, .int), (ksa, .int), (kpl, .object RX5), (kre, .object RX7)] U ∧ va_D (fun _ => True) [(h0, .inr (11, [.ref xr, .ref am, .ref xs, .ref xf, .ref co, .ref oc, .ref ta, .ref xq, .ref xh, .ref xk, .ref xo, .int x_outLength, .int x_courtStands, .int x_courtNews, .int x_tallyStands, .int x_historyStands])), (co, .inr (1, [.ref fr, .ref ve, .ref qu, .ref tu, .ref cb, .int c_queueLength, .int c_takenBits])), (ve, .inl (kve, 24, .inl fve)), (qu, .inl (kqu, 24, .inl fqu)), (tu, .inl (ktu, 24, .inr (.inl ftu))), (cb, .inl (kcb, 25, .inl fcb)), (fr, .inr (3, [.int fmonths, .int ffull, .int flean, .ref fal, .ref fon])), (fal, .inl (kfal, 25, .inl ffal)), (fon, .inl (kfon, 275, .inl ffon)), (ta, .inr (9, [.ref bf, .ref bh, .ref sa, .int t_months, .int t_full, .int t_lean])), (bf, .inl (kbf, 3575, .inl fbf)), (bh, .inl (kbh, 3575, .inl fbh)), (sa, .inl (ksa, 325, .inl fsa))] ∧ nzA U ∧ va_P (dC, dI) vwCl [(am, .inr (0, [.int amonths, .int afull, .int alean, .int alines, .int ahasMoon, .int amoonStart, .int amoonStep, .int aplaceCount, .int areportCount, .int adeedCount, .ref pl, .ref re, .ref de])), (pl, .inl (kpl, 6, .inr (.inr (.inr (.inr (fun i => some (pa i))))))), (re, .inl (kre, 24, .inr (.inr (.inr (.inr (fun i => some (ra i)))))))] U.heap ∧ gz_ap (va_A [(h0, .inr (11, [.ref xr, .ref am, .ref xs, .ref xf, .ref co, .ref oc, .ref ta, .ref xq, .ref xh, .ref xk, .ref xo, .int x_outLength, .int x_courtStands, .int x_courtNews, .int x_tallyStands, .int x_historyStands])), (co, .inr (1, [.ref fr, .ref ve, .ref qu, .ref tu, .ref cb, .int c_queueLength, .int c_takenBits])), (ve, .inl (kve, 24, .inl fve)), (qu, .inl (kqu, 24, .inl fqu)), (tu, .inl (ktu, 24, .inr (.inl ftu))), (cb, .inl (kcb, 25, .inl fcb)), (fr, .inr (3, [.int fmonths, .int ffull, .int flean, .ref fal, .ref fon])), (fal, .inl (kfal, 25, .inl ffal)), (fon, .inl (kfon, 275, .inl ffon)), (ta, .inr (9, [.ref bf, .ref bh, .ref sa, .int t_months, .int t_full, .int t_lean])), (bf, .inl (kbf, 3575, .inl fbf)), (bh, .inl (kbh, 3575, .inl fbh)), (sa, .inl (ksa, 325, .inl fsa))] sz) [(am, .inr (0, [.int amonths, .int afull, .int alean, .int alines, .int ahasMoon, .int amoonStart, .int amoonStep, .int aplaceCount, .int areportCount, .int adeedCount, .ref pl, .ref re, .ref de])), (pl, .inl (kpl, 6, .inr (.inr (.inr (.inr (fun i => some (pa i))))))), (re, .inl (kre, 24, .inr (.inr (.inr (.inr (fun i => some (ra i)))))))] ∧ va_P (dC, dI) vwCl (gz_fam 6 pa 5 (fun i => [.int (p_name i), .int (p_trust i)])) U.heap ∧ gz_ap (va_A [(h0, .inr (11, [.ref xr, .ref am, .ref xs, .ref xf, .ref co, .ref oc, .ref ta, .ref xq, .ref xh, .ref xk, .ref xo, .int x_outLength, .int x_courtStands, .int x_courtNews, .int x_tallyStands, .int x_historyStands])), (co, .inr (1, [.ref fr, .ref ve, .ref qu, .ref tu, .ref cb, .int c_queueLength, .int c_takenBits])), (ve, .inl (kve, 24, .inl fve)), (qu, .inl (kqu, 24, .inl fqu)), (tu, .inl (ktu, 24, .inr (.inl ftu))), (cb, .inl (kcb, 25, .inl fcb)), (fr, .inr (3, [.int fmonths, .int ffull, .int flean, .ref fal, .ref fon])), (fal, .inl (kfal, 25, .inl ffal)), (fon, .inl (kfon, 275, .inl ffon)), (ta, .inr (9, [.ref bf, .ref bh, .ref sa, .int t_months, .int t_full, .int t_lean])), (bf, .inl (kbf, 3575, .inl fbf)), (bh, .inl (kbh, 3575, .inl fbh)), (sa, .inl (ksa, 325, .inl fsa))] sz) (gz_fam 6 pa 5 (fun i => [.int (p_name i), .int (p_trust i)])) ∧ va_P (dC, dI) vwCl (gz_fam 24 ra 7 (fun i => [.int (r_place i), .int (r_kind i), .int (r_month i), .int (r_day i), .int (r_known i), .int (r_struck i)])) U.heap ∧ gz_ap (va_A [(h0, .inr (11, [.ref xr, .ref am, .ref xs, .ref xf, .ref co, .ref oc, .ref ta, .ref xq, .ref xh, .ref xk, .ref xo, .int x_outLength, .int x_courtStands, .int x_courtNews, .int x_tallyStands, .int x_historyStands])), (co, .inr (1, [.ref fr, .ref ve, .ref qu, .ref tu, .ref cb, .int c_queueLength, .int c_takenBits])), (ve, .inl (kve, 24, .inl fve)), (qu, .inl (kqu, 24, .inl fqu)), (tu, .inl (ktu, 24, .inr (.inl ftu))), (cb, .inl (kcb, 25, .inl fcb)), (fr, .inr (3, [.int fmonths, .int ffull, .int flean, .ref fal, .ref fon])), (fal, .inl (kfal, 25, .inl ffal)), (fon, .inl (kfon, 275, .inl ffon)), (ta, .inr (9, [.ref bf, .ref bh, .ref sa, .int t_months, .int t_full, .int t_lean])), (bf, .inl (kbf, 3575, .inl fbf)), (bh, .inl (kbh, 3575, .inl fbh)), (sa, .inl (ksa, 325, .inl fsa))] sz) (gz_fam 24 ra 7 (fun i => [.int (r_place i), .int (r_kind i), .int (r_month i), .int (r_day i), .int (r_known i), .int (r_struck i)])))) (va_Qr (fun (u : Unit) => True) (fun _ a t => a = ta ∧ (∃ (w0_12 : Int32) (w0_13 : Int32) (w0_14 : Int32) (w1_5 : Int32) (w1_6 : Int32) (w6_0 : Int32) (w6_1 : Int32) (w6_2 : Int32) (w9_3 : Int32) (w9_4 : Int32) (w9_5 : Int32) (z2 : Nat → Int32) (z3 : Nat → Int32) (z4 : Nat → Int64) (z5 : Nat → Int32) (z7 : Nat → Int32) (z8 : Nat → Int32) (z10 : Nat → Int32) (z11 : Nat → Int32) (z12 : Nat → Int32), pb_sX11_tallyBy dC dI (va_A [(h0, .inr (11, [.ref xr, .ref am, .ref xs, .ref xf, .ref co, .ref oc, .ref ta, .ref xq, .ref xh, .ref xk, .ref xo, .int x_outLength, .int x_courtStands, .int x_courtNews, .int x_tallyStands, .int x_historyStands])), (co, .inr (1, [.ref fr, .ref ve, .ref qu, .ref tu, .ref cb, .int c_queueLength, .int c_takenBits])), (ve, .inl (kve, 24, .inl fve)), (qu, .inl (kqu, 24, .inl fqu)), (tu, .inl (ktu, 24, .inr (.inl ftu))), (cb, .inl (kcb, 25, .inl fcb)), (fr, .inr (3, [.int fmonths, .int ffull, .int flean, .ref fal, .ref fon])), (fal, .inl (kfal, 25, .inl ffal)), (fon, .inl (kfon, 275, .inl ffon)), (ta, .inr (9, [.ref bf, .ref bh, .ref sa, .int t_months, .int t_full, .int t_lean])), (bf, .inl (kbf, 3575, .inl fbf)), (bh, .inl (kbh, 3575, .inl fbh)), (sa, .inl (ksa, 325, .inl fsa))] sz) h0 co ve qu tu cb fr fal fon ta bf bh sa am pl re xr xs xf oc xq xh xk xo x_outLength x_courtStands x_courtNews x_tallyStands x_historyStands c_queueLength c_takenBits kve fve kqu fqu ktu ftu kcb fcb fmonths ffull flean kfal ffal kfon ffon t_months t_full t_lean kbf fbf kbh fbh ksa fsa amonths afull alean alines ahasMoon amoonStart amoonStep aplaceCount areportCount adeedCount de kpl kre pa p_name p_trust ra r_place r_kind r_month r_day r_known r_struck p1 w0_12 w0_13 w0_14 w1_5 w1_6 w6_0 w6_1 w6_2 w9_3 w9_4 w9_5 z2 z3 z4 z5 z7 z8 z10 z11 z12 t)) (va_A [(h0, .inr (11, [.ref xr, .ref am, .ref xs, .ref xf, .ref co, .ref oc, .ref ta, .ref xq, .ref xh, .ref xk, .ref xo, .int x_outLength, .int x_courtStands, .int x_courtNews, .int x_tallyStands, .int x_historyStands])), (co, .inr (1, [.ref fr, .ref ve, .ref qu, .ref tu, .ref cb, .int c_queueLength, .int c_takenBits])), (ve, .inl (kve, 24, .inl fve)), (qu, .inl (kqu, 24, .inl fqu)), (tu, .inl (ktu, 24, .inr (.inl ftu))), (cb, .inl (kcb, 25, .inl fcb)), (fr, .inr (3, [.int fmonths, .int ffull, .int flean, .ref fal, .ref fon])), (fal, .inl (kfal, 25, .inl ffal)), (fon, .inl (kfon, 275, .inl ffon)), (ta, .inr (9, [.ref bf, .ref bh, .ref sa, .int t_months, .int t_full, .int t_lean])), (bf, .inl (kbf, 3575, .inl fbf)), (bh, .inl (kbh, 3575, .inl fbh)), (sa, .inl (ksa, 325, .inl fsa))] sz)) 0 0 (va_A [(h0, .inr (11, [.ref xr, .ref am, .ref xs, .ref xf, .ref co, .ref oc, .ref ta, .ref xq, .ref xh, .ref xk, .ref xo, .int x_outLength, .int x_courtStands, .int x_courtNews, .int x_tallyStands, .int x_historyStands])), (co, .inr (1, [.ref fr, .ref ve, .ref qu, .ref tu, .ref cb, .int c_queueLength, .int c_takenBits])), (ve, .inl (kve, 24, .inl fve)), (qu, .inl (kqu, 24, .inl fqu)), (tu, .inl (ktu, 24, .inr (.inl ftu))), (cb, .inl (kcb, 25, .inl fcb)), (fr, .inr (3, [.int fmonths, .int ffull, .int flean, .ref fal, .ref fon])), (fal, .inl (kfal, 25, .inl ffal)), (fon, .inl (kfon, 275, .inl ffon)), (ta, .inr (9, [.ref bf, .ref bh, .ref sa, .int t_months, .int t_full, .int t_lean])), (bf, .inl (kbf, 3575, .inl fbf)), (bh, .inl (kbh, 3575, .inl fbh)), (sa, .inl (ksa, 325, .inl fsa))] sz) := by
  refine Met.ofW (cc := cX11_tallyBy) (maxL := 3) (ret := (some (.object "SightedMonths$Tally"))) (by decide) rfl ?_
  intro p e s m args below meth c s₁ B hml hv
  obtain ⟨rfl, hsz, hP, hK, hD0, hz, hR, hRA, hF0, hFA0, hF1, hFA1⟩ := hv
  have hx := B.exec
  have hb := B.bytes
  have hr := B.returns
  have hts := atoms_spec (ws := (.code yX11_tallyBy cX11_tallyBy 3 (some (.object "SightedMonths$Tally")) :: wsGA)) B.pre
  have hown : s.vm.findClass RX11 = some m.cls := findClass_of_methodNamed B.named
  have hlocks := B.notSynchronized
  subst hsz
  have hD := hD0.self (sz := s.heap.size)
  generalize hAe : va_A [(h0, .inr (11, [.ref xr, .ref am, .ref xs, .ref xf, .ref co, .ref oc, .ref ta, .ref xq, .ref xh, .ref xk, .ref xo, .int x_outLength, .int x_courtStands, .int x_courtNews, .int x_tallyStands, .int x_historyStands])), (co, .inr (1, [.ref fr, .ref ve, .ref qu, .ref tu, .ref cb, .int c_queueLength, .int c_takenBits])), (ve, .inl (kve, 24, .inl fve)), (qu, .inl (kqu, 24, .inl fqu)), (tu, .inl (ktu, 24, .inr (.inl ftu))), (cb, .inl (kcb, 25, .inl fcb)), (fr, .inr (3, [.int fmonths, .int ffull, .int flean, .ref fal, .ref fon])), (fal, .inl (kfal, 25, .inl ffal)), (fon, .inl (kfon, 275, .inl ffon)), (ta, .inr (9, [.ref bf, .ref bh, .ref sa, .int t_months, .int t_full, .int t_lean])), (bf, .inl (kbf, 3575, .inl fbf)), (bh, .inl (kbh, 3575, .inl fbh)), (sa, .inl (ksa, 325, .inl fsa))] s.heap.size = A at hD hRA hFA0 hFA1 ⊢
  have hA : ∀ q : Nat, s.heap.size ≤ q → A q := fun q h => by rw [← hAe]; exact Or.inr h
  have hS : va_S A s.heap s.heap [] := va_S.rf
  have hl := lv_entry ([.ref h0, .int p1]) (n := 3) (Nat.le_of_ble_eq_true rfl)
  rw [lg_entry_eq]
  generalize (lg_sl ([.ref h0, .int p1]) ++ List.replicate (3 - (lg_sl ([.ref h0, .int p1])).length) Slot.unset).toArray = ls at hl ⊢
  have hl : lv_has ls 3 [(0, .ref h0), (1, .int p1)] := hl
  refine lv_aload_n hx hb (dk_at dkX11_tallyBy 0 rfl) rfl (lv_at hl 0 rfl) ?_
  refine lv_iload_n hx hb (dk_at dkX11_tallyBy 1 rfl) rfl (lv_at hl 1 rfl) ?_
  obtain ⟨hPc, hDc, hFc⟩ := gz_cut (wc := [(h0, .inr (11, [.ref xr, .ref am, .ref xs, .ref xf, .ref co, .ref oc, .ref ta, .ref xq, .ref xh, .ref xk, .ref xo, .int x_outLength, .int x_courtStands, .int x_courtNews, .int x_tallyStands, .int x_historyStands])), (co, .inr (1, [.ref fr, .ref ve, .ref qu, .ref tu, .ref cb, .int c_queueLength, .int c_takenBits])), (ve, .inl (kve, 24, .inl fve)), (qu, .inl (kqu, 24, .inl fqu)), (tu, .inl (ktu, 24, .inr (.inl ftu))), (cb, .inl (kcb, 25, .inl fcb)), (fr, .inr (3, [.int fmonths, .int ffull, .int flean, .ref fal, .ref fon])), (fal, .inl (kfal, 25, .inl ffal)), (fon, .inl (kfon, 275, .inl ffon))]) hP hD hS hA [0, 1, 2, 3, 4, 5, 6, 7, 8] (by decide) rfl
  have hKc := hK.sub (tys' := [(kve, .int), (kqu, .int), (ktu, .long), (kcb, .int), (kfal, .int), (kfon, .int), (kpl, .object RX5), (kre, .object RX7)]) [0, 1, 2, 3, 4, 5, 9, 10] rfl
  have hRc_ : va_P (dC, dI) vwCl [(am, .inr (0, [.int amonths, .int afull, .int alean, .int alines, .int ahasMoon, .int amoonStart, .int amoonStep, .int aplaceCount, .int areportCount, .int adeedCount, .ref pl, .ref re, .ref de])), (pl, .inl (kpl, 6, .inr (.inr (.inr (.inr (fun i => some (pa i))))))), (re, .inl (kre, 24, .inr (.inr (.inr (.inr (fun i => some (ra i)))))))] s.heap := (gz_cat ((gz_ro hR hRA hS).sub [0] rfl) (gz_cat ((gz_ro hR hRA hS).sub [1] rfl) ((gz_ro hR hRA hS).sub [2] rfl)))
  have hRa_ : gz_ap (va_A [(h0, .inr (11, [.ref xr, .ref am, .ref xs, .ref xf, .ref co, .ref oc, .ref ta, .ref xq, .ref xh, .ref xk, .ref xo, .int x_outLength, .int x_courtStands, .int x_courtNews, .int x_tallyStands, .int x_historyStands])), (co, .inr (1, [.ref fr, .ref ve, .ref qu, .ref tu, .ref cb, .int c_queueLength, .int c_takenBits])), (ve, .inl (kve, 24, .inl fve)), (qu, .inl (kqu, 24, .inl fqu)), (tu, .inl (ktu, 24, .inr (.inl ftu))), (cb, .inl (kcb, 25, .inl fcb)), (fr, .inr (3, [.int fmonths, .int ffull, .int flean, .ref fal, .ref fon])), (fal, .inl (kfal, 25, .inl ffal)), (fon, .inl (kfon, 275, .inl ffon))] s.heap.size) [(am, .inr (0, [.int amonths, .int afull, .int alean, .int alines, .int ahasMoon, .int amoonStart, .int amoonStep, .int aplaceCount, .int areportCount, .int adeedCount, .ref pl, .ref re, .ref de])), (pl, .inl (kpl, 6, .inr (.inr (.inr (.inr (fun i => some (pa i))))))), (re, .inl (kre, 24, .inr (.inr (.inr (.inr (fun i => some (ra i)))))))] := (gz_apc (gz_apR (gz_ap1 hRA 0 rfl) hFc) (gz_apc (gz_apR (gz_ap1 hRA 1 rfl) hFc) (gz_apR (gz_ap1 hRA 2 rfl) hFc)))
  refine va_callr (va_runV (As := [.int p1]) (rest := []) ⟨hx, hb, hml, hown, hts⟩ (sX11_courtBy l dC dI s.heap.size h0 co ve qu tu cb fr fal fon am pl re xr xs xf oc ta xq xh xk xo x_outLength x_courtStands x_courtNews x_tallyStands x_historyStands c_queueLength c_takenBits kve fve kqu fqu ktu ftu kcb fcb fmonths ffull flean kfal ffal kfon ffon amonths afull alean alines ahasMoon amoonStart amoonStep aplaceCount areportCount adeedCount de kpl kre pa p_name p_trust ra r_place r_kind r_month r_day r_known r_struck p1 gx_outLength gx_courtStands gx_tallyStands gx_historyStands gc_queueLength gfqu gfmonths gffull gflean gamonths gafull galean gahasMoon gaplaceCount gareportCount gadeedCount gr_place gr_month gr_struck) (cwV 1 hts (gz_gV mGA_428 mGA_429 mGA_430 mGA_1 mGA_431 goodGA) rfl rfl rfl (by decide +kernel) ⟨Nat.le_of_ble_eq_true rfl, Nat.le_of_ble_eq_true rfl⟩) ⟨bl_I (bl_a bl_sz (bl_a bl_P (bl_a bl_K (bl_a bl_c (bl_a bl_nz (bl_a bl_P (bl_a bl_c (bl_a bl_P (bl_a bl_c (bl_a bl_P bl_c)))))))))), va_recv hKc hPc (ci := 11) (q0 := 0) rfl rfl, fun U hU hW => ⟨rfl, by rw [hU], by rw [hU]; exact hPc, va_K.moved hW.alike hKc, hDc.weaken (fun _ _ _ _ => trivial), nzA_warm hW hz, by rw [hU]; exact hRc_, hRa_, by rw [hU]; exact gz_ro hF0 hFA0 hS, gz_apR hFA0 hFc, by rw [hU]; exact gz_ro hF1 hFA1 hS, gz_apR hFA1 hFc⟩⟩ rfl rfl hl.1 rfl (lv_room (Nat.le_of_ble_eq_true rfl)) (dk_at dkX11_tallyBy 2 rfl) ⟨Nat.zero_le _, Nat.zero_le _⟩) hS (fun q _ h => hFc q h) hFc (fun u r_51 t H1 locs ht hvm hw hB hz1 hk1 hS => ?_)
  obtain ⟨hra, hB⟩ := hB
  have hra := hra.symm
  subst hra
  obtain ⟨y_52, y_53, y_54, y_55, y_56, y_57, y_58, y_59, f_60, f_61, f_62, f_63, f_64, f_65, hB⟩ := hB
  obtain ⟨gy_52, gy_54, gy_55, gy_57, gy_58, gy_59, gf_61, hP1, hD1⟩ := hB
  rw [ht] at hP1
  obtain ⟨hP, hD⟩ := gz_back hP hD hk1 hFc hP1 hD1 [0, 1, 2, 3, 4, 5, 6, 7, 8] rfl rfl
  obtain ⟨hP, hD⟩ := gz_both (w := [(h0, .inr (11, [.ref xr, .ref am, .ref xs, .ref xf, .ref co, .ref oc, .ref ta, .ref xq, .ref xh, .ref xk, .ref xo, .int x_outLength, .int y_52, .int y_53, .int y_54, .int x_historyStands])), (co, .inr (1, [.ref fr, .ref ve, .ref qu, .ref tu, .ref cb, .int y_55, .int y_56])), (ve, .inl (kve, 24, .inl f_60)), (qu, .inl (kqu, 24, .inl f_61)), (tu, .inl (ktu, 24, .inr (.inl f_62))), (cb, .inl (kcb, 25, .inl f_63)), (fr, .inr (3, [.int y_57, .int y_58, .int y_59, .ref fal, .ref fon])), (fal, .inl (kfal, 25, .inl f_64)), (fon, .inl (kfon, 275, .inl f_65)), (ta, .inr (9, [.ref bf, .ref bh, .ref sa, .int t_months, .int t_full, .int t_lean])), (bf, .inl (kbf, 3575, .inl fbf)), (bh, .inl (kbh, 3575, .inl fbh)), (sa, .inl (ksa, 325, .inl fsa))]) hP hD
  generalize H1 = H at hP hS ⊢
  refine lv_astore_n (lv' := [(2, .ref co), (0, .ref h0), (1, .int p1)]) hx hb (dk_at dkX11_tallyBy 3 rfl) rfl hl (by decide) rfl (fun ls hl => ?_)
  refine lv_aload_n hx hb (dk_at dkX11_tallyBy 4 rfl) rfl (lv_at hl 1 rfl) ?_
  refine va_get (D := (dC, dI)) (ci := 11) (v := .int y_54) (C := RX11) (T := TX11) (N := 16) hx hb hts (fun w h => List.mem_cons_of_mem _ (jnGA_X11 w h)) hown hK hP 0 rfl rfl 14 (by decide) (hts _ (List.mem_cons_of_mem _ mGA_44)) (fun _ h9 => h9) rfl (dk_at dkX11_tallyBy 5 rfl) ?_
  refine lv_if_ne (tgt := 29) hx hb (dk_at dkX11_tallyBy 6 rfl) (by decide) (fun c_66 => ?_) (fun c_66 => ?_)
  · have g_67 : gi y_54 1 1 := gi_ne_lo c_66 gy_54 (gi_c 0 0 (by decide)) (by decide)
    refine lv_aload_n hx hb (dk_at dkX11_tallyBy 15 rfl) rfl (lv_at hl 1 rfl) ?_
    refine va_get (D := (dC, dI)) (ci := 11) (v := .ref ta) (C := RX11) (T := TX11) (N := 16) hx hb hts (fun w h => List.mem_cons_of_mem _ (jnGA_X11 w h)) hown hK hP 0 rfl rfl 6 (by decide) (hts _ (List.mem_cons_of_mem _ mGA_28)) (fun _ h9 => h9) rfl (dk_at dkX11_tallyBy 16 rfl) ?_
    exact W.aret (v := .ref ta) hx hb hr (Or.inl ⟨_, rfl⟩) (Or.inr ⟨_, rfl⟩) (fun t ht hW => ⟨⟨(), ta, rfl, trivial, rfl, y_52, y_53, y_54, y_55, y_56, y_57, y_58, y_59, t_months, t_full, t_lean, f_60, f_61, f_62, f_63, f_64, f_65, fbf, fbh, fsa, gy_52, (gi_w g_67 (by decide)), gy_55, gy_57, gy_58, gy_59, gt_months, gt_full, gt_lean, gf_61, by rw [ht]; exact hP, hD⟩, hS.F ht⟩) hS.2.2 (dk_at dkX11_tallyBy 17 rfl)
  · have g_68 : gi y_54 0 0 := gi_eq c_66 (gi_c 0 0 (by decide))
    refine lv_aload_n hx hb (dk_at dkX11_tallyBy 7 rfl) rfl (lv_at hl 1 rfl) ?_
    refine va_get (D := (dC, dI)) (ci := 11) (v := .ref ta) (C := RX11) (T := TX11) (N := 16) hx hb hts (fun w h => List.mem_cons_of_mem _ (jnGA_X11 w h)) hown hK hP 0 rfl rfl 6 (by decide) (hts _ (List.mem_cons_of_mem _ mGA_28)) (fun _ h9 => h9) rfl (dk_at dkX11_tallyBy 8 rfl) ?_
    refine lv_aload_n hx hb (dk_at dkX11_tallyBy 9 rfl) rfl (lv_at hl 0 rfl) ?_
    refine va_get (D := (dC, dI)) (ci := 1) (v := .ref fr) (C := RX1) (T := TX1) (N := 7) hx hb hts (fun w h => List.mem_cons_of_mem _ (jnGA_X1 w h)) hown hK hP 1 rfl rfl 0 (by decide) (hts _ (List.mem_cons_of_mem _ mGA_554)) (fun _ h9 => h9) rfl (dk_at dkX11_tallyBy 10 rfl) ?_
    obtain ⟨hPc, hDc, hFc⟩ := gz_cut (wc := [(ta, .inr (9, [.ref bf, .ref bh, .ref sa, .int t_months, .int t_full, .int t_lean])), (bf, .inl (kbf, 3575, .inl fbf)), (bh, .inl (kbh, 3575, .inl fbh)), (sa, .inl (ksa, 325, .inl fsa)), (fr, .inr (3, [.int y_57, .int y_58, .int y_59, .ref fal, .ref fon])), (fal, .inl (kfal, 25, .inl f_64))]) hP hD hS hA [9, 10, 11, 12, 6, 7] (by decide) rfl
    have hKc := hK.sub (tys' := [(kbf, .int), (kbh, .int), (ksa, .int), (kfal, .int)]) [6, 7, 8, 4] rfl
    refine va_callv (va_runV (As := [.ref fr]) (rest := []) ⟨hx, hb, hml, hown, hts⟩ (sX9_fill l dC dI H.size ta bf bh sa fr fal t_months t_full t_lean kbf fbf kbh fbh ksa fsa y_57 y_58 y_59 fon kfal f_64 gt_months gt_full gt_lean gy_57 gy_58 gy_59) (cwV 1 hts (gz_gV mGA_555 mGA_556 mGA_557 mGA_27 mGA_558 goodGA) rfl rfl rfl (by decide +kernel) ⟨Nat.le_of_ble_eq_true rfl, Nat.le_of_ble_eq_true rfl⟩) ⟨bl_I (bl_a bl_sz (bl_a bl_P (bl_a bl_K (bl_a bl_c bl_nz)))), va_recv hKc hPc (ci := 9) (q0 := 0) rfl rfl, fun U hU hW => ⟨rfl, by rw [hU], by rw [hU]; exact hPc, va_K.moved hW.alike hKc, hDc.weaken (fun _ _ _ _ => trivial), nzA_warm hW hz⟩⟩ rfl rfl hl.1 rfl (lv_room (Nat.le_of_ble_eq_true rfl)) (dk_at dkX11_tallyBy 11 rfl) ⟨Nat.zero_le _, Nat.zero_le _⟩) hS (fun q _ h => hFc q h) hFc (fun u t H1 locs ht hvm hw hB hz1 hk1 hS => ?_)
    obtain ⟨y_70, y_71, y_72, f_73, f_74, f_75, hB⟩ := hB
    obtain ⟨gy_70, gy_71, gy_72, hP1, hD1⟩ := hB
    rw [ht] at hP1
    obtain ⟨hP, hD⟩ := gz_back hP hD hk1 hFc hP1 hD1 [9, 10, 11, 12, 6, 7] rfl rfl
    obtain ⟨hP, hD⟩ := gz_both (w := [(h0, .inr (11, [.ref xr, .ref am, .ref xs, .ref xf, .ref co, .ref oc, .ref ta, .ref xq, .ref xh, .ref xk, .ref xo, .int x_outLength, .int y_52, .int y_53, .int y_54, .int x_historyStands])), (co, .inr (1, [.ref fr, .ref ve, .ref qu, .ref tu, .ref cb, .int y_55, .int y_56])), (ve, .inl (kve, 24, .inl f_60)), (qu, .inl (kqu, 24, .inl f_61)), (tu, .inl (ktu, 24, .inr (.inl f_62))), (cb, .inl (kcb, 25, .inl f_63)), (fr, .inr (3, [.int y_57, .int y_58, .int y_59, .ref fal, .ref fon])), (fal, .inl (kfal, 25, .inl f_64)), (fon, .inl (kfon, 275, .inl f_65)), (ta, .inr (9, [.ref bf, .ref bh, .ref sa, .int y_70, .int y_71, .int y_72])), (bf, .inl (kbf, 3575, .inl f_73)), (bh, .inl (kbh, 3575, .inl f_74)), (sa, .inl (ksa, 325, .inl f_75))]) hP hD
    generalize H1 = H at hP hS ⊢
    refine lv_aload_n hx hb (dk_at dkX11_tallyBy 12 rfl) rfl (lv_at hl 1 rfl) ?_
    refine lv_iconst (v := 1) hx hb (dk_at dkX11_tallyBy 13 rfl) (by decide) ?_
    refine va_put (D := (dC, dI)) (ci := 11) (v := .int 1) (ty := .boolean) (C := RX11) (T := TX11) (N := 16) hx hb hts (fun w h => List.mem_cons_of_mem _ (jnGA_X11 w h)) tyX11 tyX11_ok nmX11 hown hK hP hD hS 0 rfl rfl 14 (by decide) (hts _ (List.mem_cons_of_mem _ mGA_44)) (fun _ h9 => h9) rfl (by decide +kernel) rfl rfl (Nat.le_of_ble_eq_true rfl) (dk_at dkX11_tallyBy 14 rfl) (fun H locs hP hD hS => ?_)
    obtain ⟨hP, hD⟩ := gz_both (w := [(h0, .inr (11, [.ref xr, .ref am, .ref xs, .ref xf, .ref co, .ref oc, .ref ta, .ref xq, .ref xh, .ref xk, .ref xo, .int x_outLength, .int y_52, .int y_53, .int 1, .int x_historyStands])), (co, .inr (1, [.ref fr, .ref ve, .ref qu, .ref tu, .ref cb, .int y_55, .int y_56])), (ve, .inl (kve, 24, .inl f_60)), (qu, .inl (kqu, 24, .inl f_61)), (tu, .inl (ktu, 24, .inr (.inl f_62))), (cb, .inl (kcb, 25, .inl f_63)), (fr, .inr (3, [.int y_57, .int y_58, .int y_59, .ref fal, .ref fon])), (fal, .inl (kfal, 25, .inl f_64)), (fon, .inl (kfon, 275, .inl f_65)), (ta, .inr (9, [.ref bf, .ref bh, .ref sa, .int y_70, .int y_71, .int y_72])), (bf, .inl (kbf, 3575, .inl f_73)), (bh, .inl (kbh, 3575, .inl f_74)), (sa, .inl (ksa, 325, .inl f_75))]) hP hD
    refine lv_aload_n hx hb (dk_at dkX11_tallyBy 15 rfl) rfl (lv_at hl 1 rfl) ?_
    refine va_get (D := (dC, dI)) (ci := 11) (v := .ref ta) (C := RX11) (T := TX11) (N := 16) hx hb hts (fun w h => List.mem_cons_of_mem _ (jnGA_X11 w h)) hown hK hP 0 rfl rfl 6 (by decide) (hts _ (List.mem_cons_of_mem _ mGA_28)) (fun _ h9 => h9) rfl (dk_at dkX11_tallyBy 16 rfl) ?_
    exact W.aret (v := .ref ta) hx hb hr (Or.inl ⟨_, rfl⟩) (Or.inr ⟨_, rfl⟩) (fun t ht hW => ⟨⟨(), ta, rfl, trivial, rfl, y_52, y_53, 1, y_55, y_56, y_57, y_58, y_59, y_70, y_71, y_72, f_60, f_61, f_62, f_63, f_64, f_65, f_73, f_74, f_75, gy_52, (gi_w (gi_c 1 1 (by decide)) (by decide)), gy_55, gy_57, gy_58, gy_59, gy_70, gy_71, gy_72, gf_61, by rw [ht]; exact hP, hD⟩, hS.F ht⟩) hS.2.2 (dk_at dkX11_tallyBy 17 rfl)
noncomputable def lsX11_blind : List (Nat × Instr × Nat) := [(0, .aload_n 0, 1), (1, .iload_n 1, 1), (2, .invokevirtual 216, 3), (5, .ifCond .eq 21, 3), (8, .aload_n 0, 1), (9, .iload_n 2, 1), (10, .iconst 1, 1), (11, .aload_n 0, 1), (12, .getfield 19, 3), (15, .getfield 120, 3), (18, .iconst 1, 1), (19, .isub, 1), (20, .invokevirtual 209, 3), (23, .ifCond .ne 6, 3), (26, .bipush (-2), 2), (28, .ireturn, 1), (29, .iconst 0, 1), (30, .istore_n 3, 1), (31, .iconst 0, 1), (32, .istore 4, 2), (34, .iload 4, 2), (36, .aload_n 0, 1), (37, .getfield 19, 3), (40, .getfield 132, 3), (43, .if_icmp .ge 52, 3), (46, .aload_n 0, 1), (47, .getfield 19, 3), (50, .getfield 167, 3), (53, .iload 4, 2), (55, .aaload, 1), (56, .astore 5, 2), (58, .aload 5, 2), (60, .getfield 182, 3), (63, .iload_n 2, 1), (64, .if_icmp .ne 25, 3), (67, .aload 5, 2), (69, .iload_n 1, 1), (70, .invokevirtual 244, 3), (73, .ifCond .eq 16, 3), (76, .aload 5, 2), (78, .getfield 179, 3), (81, .iconst 2, 1), (82, .if_icmp .eq 5, 3), (85, .iconst 0, 1), (86, .ireturn, 1), (87, .iconst 1, 1), (88, .istore_n 3, 1), (89, .iinc 4 1, 3), (92, .goto (-58), 3), (95, .iload_n 3, 1), (96, .ireturn, 1)]
theorem dkX11_blind : dkAll cX11_blind lsX11_blind = true := by decide +kernel
noncomputable def bfX11_blind_26 (amonths : Int32) (areportCount : Int32) (r_kind : Nat → Int32) (r_month : Nat → Int32) (r_known : Nat → Int32) (r_struck : Nat → Int32) (p1 : Int32) (p2 : Int32) (K : (Int32 → Int32 → Int32)) : Int32 := (-2 : Int32)
noncomputable def bfX11_blind_89 (amonths : Int32) (areportCount : Int32) (r_kind : Nat → Int32) (r_month : Nat → Int32) (r_known : Nat → Int32) (r_struck : Nat → Int32) (p1 : Int32) (p2 : Int32) (K : (Int32 → Int32 → Int32)) (v3 : Int32) (v4 : Int32) : Int32 := K v3 (v4 + (1 : Int32))
noncomputable def dfX11_blind_34 (amonths : Int32) (areportCount : Int32) (r_kind : Nat → Int32) (r_month : Nat → Int32) (r_known : Nat → Int32) (r_struck : Nat → Int32) (p1 : Int32) (p2 : Int32) (K : (Int32 → Int32 → Int32)) (v3 : Int32) (v4 : Int32) : Int32 := if areportCount ≤ v4 then v3 else (if (r_month v4.toNatClampNeg) = p2 then (cal (fun o3 => if o3 = (0 : Int32) then (bfX11_blind_89 amonths areportCount r_kind r_month r_known r_struck p1 p2 K v3 v4) else (if (r_kind v4.toNatClampNeg) = (2 : Int32) then (bfX11_blind_89 amonths areportCount r_kind r_month r_known r_struck p1 p2 K (1 : Int32) v4) else (0 : Int32))) (fX7_isKnownBy (r_known v4.toNatClampNeg) (r_struck v4.toNatClampNeg) p1)) else (bfX11_blind_89 amonths areportCount r_kind r_month r_known r_struck p1 p2 K v3 v4))
noncomputable def lfX11_blind (amonths : Int32) (areportCount : Int32) (r_kind : Nat → Int32) (r_month : Nat → Int32) (r_known : Nat → Int32) (r_struck : Nat → Int32) (p1 : Int32) (p2 : Int32) (z : Nat) : (Int32 → Int32 → Int32) := Nat.rec (motive := fun _ => (Int32 → Int32 → Int32)) (fun _ _ => (0)) (fun _ K => dfX11_blind_34 amonths areportCount r_kind r_month r_known r_struck p1 p2 K) z
noncomputable def fX11_blind (amonths : Int32) (areportCount : Int32) (r_kind : Nat → Int32) (r_month : Nat → Int32) (r_known : Nat → Int32) (r_struck : Nat → Int32) (p1 : Int32) (p2 : Int32) : Int32 := cal (fun o1 => if o1 = (0 : Int32) then (bfX11_blind_26 amonths areportCount r_kind r_month r_known r_struck p1 p2 (lfX11_blind amonths areportCount r_kind r_month r_known r_struck p1 p2 1000000000)) else (cal (fun o2 => if o2 = (0 : Int32) then (bfX11_blind_26 amonths areportCount r_kind r_month r_known r_struck p1 p2 (lfX11_blind amonths areportCount r_kind r_month r_known r_struck p1 p2 1000000000)) else ((lfX11_blind amonths areportCount r_kind r_month r_known r_struck p1 p2 1000000000) (0 : Int32) (0 : Int32))) (fX11_hasMonth amonths p2 (1 : Int32) (amonths - (1 : Int32))))) (fX11_hasTime amonths p1)
set_option maxHeartbeats 4000000 in
set_option maxRecDepth 100000 in
theorem lp_sX11_blind {p : Program} {l : Launch} {e : Env} {R : Room} {s : State} {m : MethodId} {args : Array Value} {below : List Frame} {meth : Method} {c : Code} {Q : State → Prop} {A : Nat → Prop} {cells slots : Nat} {dC : Nat → ClassId} {dI : Nat → Nat → Nat} {RES : Int32} (h0 : Nat) (am : Nat) (re : Nat) (xr : Nat) (xs : Nat) (xf : Nat) (co : Nat) (oc : Nat) (ta : Nat) (xq : Nat) (xh : Nat) (xk : Nat) (xo : Nat) (x_outLength : Int32) (x_courtStands : Int32) (x_courtNews : Int32) (x_tallyStands : Int32) (x_historyStands : Int32) (amonths : Int32) (afull : Int32) (alean : Int32) (alines : Int32) (ahasMoon : Int32) (amoonStart : Int32) (amoonStep : Int32) (aplaceCount : Int32) (areportCount : Int32) (adeedCount : Int32) (pl : Nat) (de : Nat) (kre : ClassId) (ra : Nat → Nat) (r_place : Nat → Int32) (r_kind : Nat → Int32) (r_month : Nat → Int32) (r_day : Nat → Int32) (r_known : Nat → Int32) (r_struck : Nat → Int32) (p1 : Int32) (p2 : Int32) (gx_outLength : gi x_outLength 0 72) (gx_courtStands : gi x_courtStands 0 1) (gx_tallyStands : gi x_tallyStands 0 1) (gx_historyStands : gi x_historyStands 0 1) (gamonths : gi amonths 0 24) (gafull : gi afull 0 5) (galean : gi alean 0 5) (gahasMoon : gi ahasMoon 0 1) (gaplaceCount : gi aplaceCount 0 6) (gareportCount : gi areportCount 0 24) (gadeedCount : gi adeedCount 0 8) (gr_place : ga r_place 24 0 5) (gr_month : ga r_month 24 0 23) (gr_struck : ga r_struck 24 0 1) (hx : p.tables.exec = Jvm.exec) (hb : c.code = cX11_blind) (hml : c.maxLocals = 6) (hown : s.vm.findClass RX11 = some m.cls) (hts : ∀ w ∈ ((.code yX11_blind cX11_blind 6 (some .int) :: wsGA) : List Cond), w.before args s = true) (hK : va_K (dC, dI) vwCl [(kre, .object RX7)] s) (hz : nzA s) (hF0 : va_P (dC, dI) vwCl (gz_fam 24 ra 7 (fun i => [.int (r_place i), .int (r_kind i), .int (r_month i), .int (r_day i), .int (r_known i), .int (r_struck i)])) s.heap) (hFA0 : gz_ap A (gz_fam 24 ra 7 (fun i => [.int (r_place i), .int (r_kind i), .int (r_month i), .int (r_day i), .int (r_known i), .int (r_struck i)]))) (hRf : 2 ≤ R.frames) (hRl : 43 ≤ R.locals) (hRc : cells ≤ R.cells) (hRs : slots ≤ R.slots) (kr28 : ∀ (v : Int32) (H : Heap) (locs : List Loc) (ls : Array Slot), gi v (-2) (-2) → v = RES → va_P (dC, dI) vwCl [(h0, .inr (11, [.ref xr, .ref am, .ref xs, .ref xf, .ref co, .ref oc, .ref ta, .ref xq, .ref xh, .ref xk, .ref xo, .int x_outLength, .int x_courtStands, .int x_courtNews, .int x_tallyStands, .int x_historyStands])), (am, .inr (0, [.int amonths, .int afull, .int alean, .int alines, .int ahasMoon, .int amoonStart, .int amoonStep, .int aplaceCount, .int areportCount, .int adeedCount, .ref pl, .ref re, .ref de])), (re, .inl (kre, 24, .inr (.inr (.inr (.inr (fun i => some (ra i)))))))] H → va_S A s.heap H locs → lv_has ls 6 [] → W p l e R s m args below meth c H locs cells slots Q (F0 m 28 ls [.int v])) (kr96 : ∀ (v : Int32) (H : Heap) (locs : List Loc) (ls : Array Slot), gi v 0 1 → v = RES → va_P (dC, dI) vwCl [(h0, .inr (11, [.ref xr, .ref am, .ref xs, .ref xf, .ref co, .ref oc, .ref ta, .ref xq, .ref xh, .ref xk, .ref xo, .int x_outLength, .int x_courtStands, .int x_courtNews, .int x_tallyStands, .int x_historyStands])), (am, .inr (0, [.int amonths, .int afull, .int alean, .int alines, .int ahasMoon, .int amoonStart, .int amoonStep, .int aplaceCount, .int areportCount, .int adeedCount, .ref pl, .ref re, .ref de])), (re, .inl (kre, 24, .inr (.inr (.inr (.inr (fun i => some (ra i)))))))] H → va_S A s.heap H locs → lv_has ls 6 [] → W p l e R s m args below meth c H locs cells slots Q (F0 m 96 ls [.int v])) (kr86 : ∀ (v : Int32) (H : Heap) (locs : List Loc) (ls : Array Slot), gi v 0 0 → v = RES → va_P (dC, dI) vwCl [(h0, .inr (11, [.ref xr, .ref am, .ref xs, .ref xf, .ref co, .ref oc, .ref ta, .ref xq, .ref xh, .ref xk, .ref xo, .int x_outLength, .int x_courtStands, .int x_courtNews, .int x_tallyStands, .int x_historyStands])), (am, .inr (0, [.int amonths, .int afull, .int alean, .int alines, .int ahasMoon, .int amoonStart, .int amoonStep, .int aplaceCount, .int areportCount, .int adeedCount, .ref pl, .ref re, .ref de])), (re, .inl (kre, 24, .inr (.inr (.inr (.inr (fun i => some (ra i)))))))] H → va_S A s.heap H locs → lv_has ls 6 [] → W p l e R s m args below meth c H locs cells slots Q (F0 m 86 ls [.int v])) : ∀ z : Nat, (∀ (v3 : Int32) (v4 : Int32) (H : Heap) (locs : List Loc) (ls : Array Slot), gi p1 0 999 → gi p2 0 23 → gi v3 0 1 → gi v4 0 24 → (lfX11_blind amonths areportCount r_kind r_month r_known r_struck p1 p2 z) v3 v4 = RES → 49 + (-2) * v4.toInt < (z : Int) → va_P (dC, dI) vwCl [(h0, .inr (11, [.ref xr, .ref am, .ref xs, .ref xf, .ref co, .ref oc, .ref ta, .ref xq, .ref xh, .ref xk, .ref xo, .int x_outLength, .int x_courtStands, .int x_courtNews, .int x_tallyStands, .int x_historyStands])), (am, .inr (0, [.int amonths, .int afull, .int alean, .int alines, .int ahasMoon, .int amoonStart, .int amoonStep, .int aplaceCount, .int areportCount, .int adeedCount, .ref pl, .ref re, .ref de])), (re, .inl (kre, 24, .inr (.inr (.inr (.inr (fun i => some (ra i)))))))] H → va_S A s.heap H locs → lv_has ls 6 [(0, .ref h0), (1, .int p1), (2, .int p2), (3, .int v3), (4, .int v4)] → W p l e R s m args below meth c H locs cells slots Q (F0 m 34 ls [])) := by
  intro z
  induction z with
  | zero =>
    intro v3 v4 H locs ls gf_p1 gf_p2 gv3 gv4 hF hmu hP hS hl
    exact absurd hmu (by have hv41 := gv4.1; have hv42 := gv4.2; omega)
  | succ z ih =>
      intro v3 v4 H locs ls gf_p1 gf_p2 gv3 gv4 hF hmu hP hS hl
      have hF : dfX11_blind_34 amonths areportCount r_kind r_month r_known r_struck p1 p2 (lfX11_blind amonths areportCount r_kind r_month r_known r_struck p1 p2 z) v3 v4 = RES := hF
      refine lv_iload hx hb (dk_at dkX11_blind 20 rfl) (lv_at hl 4 rfl) ?_
      refine lv_aload_n hx hb (dk_at dkX11_blind 21 rfl) rfl (lv_at hl 0 rfl) ?_
      refine va_get (D := (dC, dI)) (ci := 11) (v := .ref am) (C := RX11) (T := TX11) (N := 16) hx hb hts (fun w h => List.mem_cons_of_mem _ (jnGA_X11 w h)) hown hK hP 0 rfl rfl 1 (by decide) (hts _ (List.mem_cons_of_mem _ mGA_14)) (fun _ h9 => h9) rfl (dk_at dkX11_blind 22 rfl) ?_
      refine va_get (D := (dC, dI)) (ci := 0) (v := .int areportCount) (C := RX0) (T := TX0) (N := 13) hx hb hts (fun w h => List.mem_cons_of_mem _ (jnGA_X0 w h)) hown hK hP 1 rfl rfl 8 (by decide) (hts _ (List.mem_cons_of_mem _ mGA_357)) (fun _ h9 => h9) rfl (dk_at dkX11_blind 23 rfl) ?_
      refine lv_icmp_ge (tgt := 95) hx hb (dk_at dkX11_blind 24 rfl) (by decide) (fun c_391 => ?_) (fun c_391 => ?_)
      · have hF := gf_pos c_391 hF
        refine lv_iload_n hx hb (dk_at dkX11_blind 49 rfl) rfl (lv_at hl 3 rfl) ?_
        exact kr96 v3 _ _ _ gv3 hF hP hS (lv_sub hl [] rfl)
      · have hF := gf_neg c_391 hF
        have g_392 : gi v4 0 23 := gi_lt_l (Int32.not_le.mp c_391) gv4 gareportCount (by decide)
        have g_393 : gi areportCount 1 24 := gi_lt_r (Int32.not_le.mp c_391) gv4 gareportCount (by decide)
        refine lv_aload_n hx hb (dk_at dkX11_blind 25 rfl) rfl (lv_at hl 0 rfl) ?_
        refine va_get (D := (dC, dI)) (ci := 11) (v := .ref am) (C := RX11) (T := TX11) (N := 16) hx hb hts (fun w h => List.mem_cons_of_mem _ (jnGA_X11 w h)) hown hK hP 0 rfl rfl 1 (by decide) (hts _ (List.mem_cons_of_mem _ mGA_14)) (fun _ h9 => h9) rfl (dk_at dkX11_blind 26 rfl) ?_
        refine va_get (D := (dC, dI)) (ci := 0) (v := .ref re) (C := RX0) (T := TX0) (N := 13) hx hb hts (fun w h => List.mem_cons_of_mem _ (jnGA_X0 w h)) hown hK hP 1 rfl rfl 11 (by decide) (hts _ (List.mem_cons_of_mem _ mGA_381)) (fun _ h9 => h9) rfl (dk_at dkX11_blind 27 rfl) ?_
        refine lv_iload hx hb (dk_at dkX11_blind 28 rfl) (lv_at hl 4 rfl) ?_
        refine va_aldq hx hb hK hP 2 0 rfl rfl (gi_in g_392 (by decide)) (dk_at dkX11_blind 29 rfl) ?_
        refine W.eq (g2 := F0 m 56 ls [.ref (ra v4.toNatClampNeg)]) rfl ?_
        refine lv_astore (lv' := [(5, .ref (ra v4.toNatClampNeg)), (0, .ref h0), (1, .int p1), (2, .int p2), (3, .int v3), (4, .int v4)]) hx hb (dk_at dkX11_blind 30 rfl) hl (by decide) rfl (fun ls hl => ?_)
        refine lv_aload hx hb (dk_at dkX11_blind 31 rfl) (lv_at hl 0 rfl) ?_
        refine va_get (D := (dC, dI)) (ci := 7) (v := .int (r_month v4.toNatClampNeg)) (C := RX7) (T := TX7) (N := 6) hx hb hts (fun w h => List.mem_cons_of_mem _ (jnGA_X7 w h)) hown hK (gz_ro hF0 hFA0 hS) (v4.toNatClampNeg) (gz_fam_at (gz_clt (gi_in (n := 24) g_392 (by decide)))) rfl 2 (by decide) (hts _ (List.mem_cons_of_mem _ mGA_385)) (fun _ h9 => h9) rfl (dk_at dkX11_blind 32 rfl) ?_
        refine lv_topi (fun x_394 ex_394 => ?_)
        have gx_394 : gi x_394 0 23 := ga_at gr_month (gi_in (n := 24) g_392 (by decide)) ex_394
        refine lv_iload_n hx hb (dk_at dkX11_blind 33 rfl) rfl (lv_at hl 3 rfl) ?_
        refine lv_icmp_ne (tgt := 89) hx hb (dk_at dkX11_blind 34 rfl) (by decide) (fun c_395 => ?_) (fun c_395 => ?_)
        · have hF := gf_neg (by rw [ex_394] at c_395; exact c_395) hF
          obtain ⟨x_396, ex_396⟩ : ∃ y : Int32, y = v4 + 1 := ⟨_, rfl⟩
          have gx_396 : gi x_396 1 24 := gi_add ex_396 g_392 (gi_c 1 1 (by decide)) (by decide)
          refine lv_iinc (v := x_396) (lv' := [(4, .int x_396), (5, .ref (ra v4.toNatClampNeg)), (0, .ref h0), (1, .int p1), (2, .int p2), (3, .int v3)]) hx hb (dk_at dkX11_blind 47 rfl) hl (k := 5) rfl (by rw [ex_396]; rfl) (by decide) rfl (fun ls hl => ?_)
          refine lv_goto (tgt := 34) hx hb (dk_at dkX11_blind 48 rfl) (by decide) ?_
          exact ih v3 x_396 _ _ _ gf_p1 gf_p2 gv3 (gi_w gx_396 (by decide)) (by rw [ex_396]; exact hF) (by have av4 := gv4.1; have bv4 := gv4.2; have qgx_396 := gx_396.1; have rgx_396 := gx_396.2; have igx_396 : x_396.toInt = v4.toInt + 1 := (by have hc1 : (1 : Int32).toInt = 1 := (by decide); have h9 := gi_addI ex_396 (by have h1 := g_392.1; have h2 := (gi_c 1 1 (by decide)).1; have h3 := g_392.2; have h4 := (gi_c 1 1 (by decide)).2; omega) (by have h1 := g_392.1; have h2 := (gi_c 1 1 (by decide)).1; have h3 := g_392.2; have h4 := (gi_c 1 1 (by decide)).2; omega); rw [hc1] at h9; exact h9); have qgv4 := g_392.1; have rgv4 := g_392.2; omega) hP hS (lv_sub hl [2, 3, 4, 5, 0] rfl)
        · have hF := gf_pos (by rw [ex_394] at c_395; exact c_395) hF
          refine lv_aload hx hb (dk_at dkX11_blind 35 rfl) (lv_at hl 0 rfl) ?_
          refine lv_iload_n hx hb (dk_at dkX11_blind 36 rfl) rfl (lv_at hl 2 rfl) ?_
          have hPc : va_P (dC, dI) vwCl [((ra v4.toNatClampNeg), .inr (7, [.int (r_place v4.toNatClampNeg), .int (r_kind v4.toNatClampNeg), .int (r_month v4.toNatClampNeg), .int (r_day v4.toNatClampNeg), .int (r_known v4.toNatClampNeg), .int (r_struck v4.toNatClampNeg)]))] H := (gz_fam1 (gz_ro hF0 hFA0 hS) (gz_clt (gi_in (n := 24) g_392 (by decide))))
          have hKc := hK.sub (tys' := []) [] rfl
          refine va_calli (va_runV (As := [.int p1]) (rest := []) ⟨hx, hb, hml, hown, hts⟩ (sX7_isKnownBy l dC dI (ra v4.toNatClampNeg) (r_place v4.toNatClampNeg) (r_kind v4.toNatClampNeg) (r_month v4.toNatClampNeg) (r_day v4.toNatClampNeg) (r_known v4.toNatClampNeg) (r_struck v4.toNatClampNeg) p1 (ga_ix gr_place (gi_in (n := 24) g_392 (by decide))) (ga_ix gr_month (gi_in (n := 24) g_392 (by decide))) (ga_ix gr_struck (gi_in (n := 24) g_392 (by decide)))) (cwV 1 hts (gz_gV mGA_546 mGA_438 mGA_439 mGA_78 mGA_440 goodGA) rfl rfl rfl (by decide +kernel) ⟨Nat.le_trans (Nat.le_of_ble_eq_true rfl) hRf, Nat.le_trans (Nat.le_of_ble_eq_true rfl) hRl⟩) ⟨bl_I (bl_a bl_P (bl_a bl_K bl_nz)), va_recv hKc hPc (ci := 7) (q0 := 0) rfl rfl, fun U hU hW => ⟨rfl, by rw [hU]; exact hPc, va_K.moved hW.alike hKc, nzA_warm hW hz⟩⟩ rfl rfl hl.1 rfl (lv_room (Nat.le_of_ble_eq_true rfl)) (dk_at dkX11_blind 37 rfl) ⟨hRc, hRs⟩) hS (fun q _ h => h.elim) (fun q h => h.elim) (fun r_397 u t H1 locs ht hvm hw hB hz1 hk1 hS => ?_)
          obtain ⟨hw, hE⟩ := hw
          have hP := gz_keep hP hk1
          have hF := gf_call (a := r_397) hE hF
          generalize H1 = H at hP hS ⊢
          have gr_397 : gi r_397 0 1 := hw
          refine lv_if_eq (tgt := 89) hx hb (dk_at dkX11_blind 38 rfl) (by decide) (fun c_398 => ?_) (fun c_398 => ?_)
          · have hF := gf_pos c_398 hF
            have g_399 : gi r_397 0 0 := gi_eq c_398 (gi_c 0 0 (by decide))
            obtain ⟨x_400, ex_400⟩ : ∃ y : Int32, y = v4 + 1 := ⟨_, rfl⟩
            have gx_400 : gi x_400 1 24 := gi_add ex_400 g_392 (gi_c 1 1 (by decide)) (by decide)
            refine lv_iinc (v := x_400) (lv' := [(4, .int x_400), (5, .ref (ra v4.toNatClampNeg)), (0, .ref h0), (1, .int p1), (2, .int p2), (3, .int v3)]) hx hb (dk_at dkX11_blind 47 rfl) hl (k := 5) rfl (by rw [ex_400]; rfl) (by decide) rfl (fun ls hl => ?_)
            refine lv_goto (tgt := 34) hx hb (dk_at dkX11_blind 48 rfl) (by decide) ?_
            exact ih v3 x_400 _ _ _ gf_p1 gf_p2 gv3 (gi_w gx_400 (by decide)) (by rw [ex_400]; exact hF) (by have av4 := gv4.1; have bv4 := gv4.2; have qgx_400 := gx_400.1; have rgx_400 := gx_400.2; have igx_400 : x_400.toInt = v4.toInt + 1 := (by have hc1 : (1 : Int32).toInt = 1 := (by decide); have h9 := gi_addI ex_400 (by have h1 := g_392.1; have h2 := (gi_c 1 1 (by decide)).1; have h3 := g_392.2; have h4 := (gi_c 1 1 (by decide)).2; omega) (by have h1 := g_392.1; have h2 := (gi_c 1 1 (by decide)).1; have h3 := g_392.2; have h4 := (gi_c 1 1 (by decide)).2; omega); rw [hc1] at h9; exact h9); have qgv4 := g_392.1; have rgv4 := g_392.2; omega) hP hS (lv_sub hl [2, 3, 4, 5, 0] rfl)
          · have hF := gf_neg c_398 hF
            have g_401 : gi r_397 1 1 := gi_ne_lo c_398 gr_397 (gi_c 0 0 (by decide)) (by decide)
            refine lv_aload hx hb (dk_at dkX11_blind 39 rfl) (lv_at hl 0 rfl) ?_
            refine va_get (D := (dC, dI)) (ci := 7) (v := .int (r_kind v4.toNatClampNeg)) (C := RX7) (T := TX7) (N := 6) hx hb hts (fun w h => List.mem_cons_of_mem _ (jnGA_X7 w h)) hown hK (gz_ro hF0 hFA0 hS) (v4.toNatClampNeg) (gz_fam_at (gz_clt (gi_in (n := 24) g_392 (by decide)))) rfl 1 (by decide) (hts _ (List.mem_cons_of_mem _ mGA_384)) (fun _ h9 => h9) rfl (dk_at dkX11_blind 40 rfl) ?_
            refine lv_topi (fun x_402 ex_402 => ?_)
            refine lv_iconst (v := 2) hx hb (dk_at dkX11_blind 41 rfl) (by decide) ?_
            refine lv_icmp_eq (tgt := 87) hx hb (dk_at dkX11_blind 42 rfl) (by decide) (fun c_403 => ?_) (fun c_403 => ?_)
            · have hF := gf_pos (by rw [ex_402] at c_403; exact c_403) hF
              have g_404 : gi x_402 2 2 := gi_eq c_403 (gi_c 2 2 (by decide))
              refine lv_iconst (v := 1) hx hb (dk_at dkX11_blind 45 rfl) (by decide) ?_
              refine lv_istore_n (lv' := [(3, .int 1), (5, .ref (ra v4.toNatClampNeg)), (0, .ref h0), (1, .int p1), (2, .int p2), (4, .int v4)]) hx hb (dk_at dkX11_blind 46 rfl) rfl hl (by decide) rfl (fun ls hl => ?_)
              obtain ⟨x_405, ex_405⟩ : ∃ y : Int32, y = v4 + 1 := ⟨_, rfl⟩
              have gx_405 : gi x_405 1 24 := gi_add ex_405 g_392 (gi_c 1 1 (by decide)) (by decide)
              refine lv_iinc (v := x_405) (lv' := [(4, .int x_405), (3, .int 1), (5, .ref (ra v4.toNatClampNeg)), (0, .ref h0), (1, .int p1), (2, .int p2)]) hx hb (dk_at dkX11_blind 47 rfl) hl (k := 5) rfl (by rw [ex_405]; rfl) (by decide) rfl (fun ls hl => ?_)
              refine lv_goto (tgt := 34) hx hb (dk_at dkX11_blind 48 rfl) (by decide) ?_
              exact ih 1 x_405 _ _ _ gf_p1 gf_p2 (gi_w (gi_c 1 1 (by decide)) (by decide)) (gi_w gx_405 (by decide)) (by rw [ex_405]; exact hF) (by have av4 := gv4.1; have bv4 := gv4.2; have qgx_405 := gx_405.1; have rgx_405 := gx_405.2; have igx_405 : x_405.toInt = v4.toInt + 1 := (by have hc1 : (1 : Int32).toInt = 1 := (by decide); have h9 := gi_addI ex_405 (by have h1 := g_392.1; have h2 := (gi_c 1 1 (by decide)).1; have h3 := g_392.2; have h4 := (gi_c 1 1 (by decide)).2; omega) (by have h1 := g_392.1; have h2 := (gi_c 1 1 (by decide)).1; have h3 := g_392.2; have h4 := (gi_c 1 1 (by decide)).2; omega); rw [hc1] at h9; exact h9); have qgv4 := g_392.1; have rgv4 := g_392.2; omega) hP hS (lv_sub hl [3, 4, 5, 1, 0] rfl)
            · have hF := gf_neg (by rw [ex_402] at c_403; exact c_403) hF
              refine lv_iconst (v := 0) hx hb (dk_at dkX11_blind 43 rfl) (by decide) ?_
              exact kr86 0 _ _ _ (gi_c 0 0 (by decide)) hF hP hS (lv_sub hl [] rfl)
set_option maxHeartbeats 4000000 in
set_option maxRecDepth 100000 in
theorem sX11_blind (l : Launch) (dC : Nat → ClassId) (dI : Nat → Nat → Nat) (h0 : Nat) (am : Nat) (re : Nat) (xr : Nat) (xs : Nat) (xf : Nat) (co : Nat) (oc : Nat) (ta : Nat) (xq : Nat) (xh : Nat) (xk : Nat) (xo : Nat) (x_outLength : Int32) (x_courtStands : Int32) (x_courtNews : Int32) (x_tallyStands : Int32) (x_historyStands : Int32) (amonths : Int32) (afull : Int32) (alean : Int32) (alines : Int32) (ahasMoon : Int32) (amoonStart : Int32) (amoonStep : Int32) (aplaceCount : Int32) (areportCount : Int32) (adeedCount : Int32) (pl : Nat) (de : Nat) (kre : ClassId) (ra : Nat → Nat) (r_place : Nat → Int32) (r_kind : Nat → Int32) (r_month : Nat → Int32) (r_day : Nat → Int32) (r_known : Nat → Int32) (r_struck : Nat → Int32) (p1 : Int32) (p2 : Int32) (gx_outLength : gi x_outLength 0 72) (gx_courtStands : gi x_courtStands 0 1) (gx_tallyStands : gi x_tallyStands 0 1) (gx_historyStands : gi x_historyStands 0 1) (gamonths : gi amonths 0 24) (gafull : gi afull 0 5) (galean : gi alean 0 5) (gahasMoon : gi ahasMoon 0 1) (gaplaceCount : gi aplaceCount 0 6) (gareportCount : gi areportCount 0 24) (gadeedCount : gi adeedCount 0 8) (gr_place : ga r_place 24 0 5) (gr_month : ga r_month 24 0 23) (gr_struck : ga r_struck 24 0 1) : Met l yX11_blind (.code yX11_blind cX11_blind 6 (some .int) :: wsGA) ({ frames := 2, cells := 0, slots := 0, locals := 43 }) (va_Pc [.ref h0, .int p1, .int p2] (fun U => va_P (dC, dI) vwCl [(h0, .inr (11, [.ref xr, .ref am, .ref xs, .ref xf, .ref co, .ref oc, .ref ta, .ref xq, .ref xh, .ref xk, .ref xo, .int x_outLength, .int x_courtStands, .int x_courtNews, .int x_tallyStands, .int x_historyStands])), (am, .inr (0, [.int amonths, .int afull, .int alean, .int alines, .int ahasMoon, .int amoonStart, .int amoonStep, .int aplaceCount, .int areportCount, .int adeedCount, .ref pl, .ref re, .ref de])), (re, .inl (kre, 24, .inr (.inr (.inr (.inr (fun i => some (ra i)))))))] U.heap ∧ va_K (dC, dI) vwCl [(kre, .object RX7)] U ∧ nzA U ∧ va_P (dC, dI) vwCl (gz_fam 24 ra 7 (fun i => [.int (r_place i), .int (r_kind i), .int (r_month i), .int (r_day i), .int (r_known i), .int (r_struck i)])) U.heap)) (va_Qi (fun (r : Int32) (u : Unit) => (gi r (-2) 1) ∧ r = fX11_blind amonths areportCount r_kind r_month r_known r_struck p1 p2) (fun _ _ => True) (fun _ => False)) 0 0 (fun _ => False) := by
  refine Met.ofW (cc := cX11_blind) (maxL := 6) (ret := (some .int)) (by decide) rfl ?_
  intro p e s m args below meth c s₁ B hml hv
  obtain ⟨rfl, hP, hK, hz, hF0⟩ := hv
  have hx := B.exec
  have hb := B.bytes
  have hr := B.returns
  have hts := atoms_spec (ws := (.code yX11_blind cX11_blind 6 (some .int) :: wsGA)) B.pre
  have hown : s.vm.findClass RX11 = some m.cls := findClass_of_methodNamed B.named
  have hlocks := B.notSynchronized
  have hS : va_S (fun _ => False) s.heap s.heap [] := va_S.rf
  have hFA0 : gz_ap (fun _ => False) (gz_fam 24 ra 7 (fun i => [.int (r_place i), .int (r_kind i), .int (r_month i), .int (r_day i), .int (r_known i), .int (r_struck i)])) := gz_ap0
  have hl := lv_entry ([.ref h0, .int p1, .int p2]) (n := 6) (Nat.le_of_ble_eq_true rfl)
  rw [lg_entry_eq]
  generalize (lg_sl ([.ref h0, .int p1, .int p2]) ++ List.replicate (6 - (lg_sl ([.ref h0, .int p1, .int p2])).length) Slot.unset).toArray = ls at hl ⊢
  have hl : lv_has ls 6 [(0, .ref h0), (1, .int p1), (2, .int p2)] := hl
  obtain ⟨RES, hF⟩ : ∃ R9, fX11_blind amonths areportCount r_kind r_month r_known r_struck p1 p2 = R9 := ⟨_, rfl⟩
  have hR9 := hF
  refine lv_aload_n hx hb (dk_at dkX11_blind 0 rfl) rfl (lv_at hl 0 rfl) ?_
  refine lv_iload_n hx hb (dk_at dkX11_blind 1 rfl) rfl (lv_at hl 1 rfl) ?_
  have hPc := hP.sub (ws' := [(h0, .inr (11, [.ref xr, .ref am, .ref xs, .ref xf, .ref co, .ref oc, .ref ta, .ref xq, .ref xh, .ref xk, .ref xo, .int x_outLength, .int x_courtStands, .int x_courtNews, .int x_tallyStands, .int x_historyStands])), (am, .inr (0, [.int amonths, .int afull, .int alean, .int alines, .int ahasMoon, .int amoonStart, .int amoonStep, .int aplaceCount, .int areportCount, .int adeedCount, .ref pl, .ref re, .ref de]))]) [0, 1] rfl
  have hKc := hK.sub (tys' := []) [] rfl
  refine va_calli (va_runV (As := [.int p1]) (rest := []) ⟨hx, hb, hml, hown, hts⟩ (sX11_hasTime l dC dI h0 am xr xs xf co oc ta xq xh xk xo x_outLength x_courtStands x_courtNews x_tallyStands x_historyStands amonths afull alean alines ahasMoon amoonStart amoonStep aplaceCount areportCount adeedCount pl re de p1 gx_outLength gx_courtStands gx_tallyStands gx_historyStands gamonths gafull galean gahasMoon gaplaceCount gareportCount gadeedCount) (cwV 1 hts (gz_gV mGA_424 mGA_425 mGA_426 mGA_1 mGA_427 goodGA) rfl rfl rfl (by decide +kernel) ⟨Nat.le_of_ble_eq_true rfl, Nat.le_of_ble_eq_true rfl⟩) ⟨bl_I (bl_a bl_P (bl_a bl_K bl_nz)), va_recv hKc hPc (ci := 11) (q0 := 0) rfl rfl, fun U hU hW => ⟨rfl, by rw [hU]; exact hPc, va_K.moved hW.alike hKc, nzA_warm hW hz⟩⟩ rfl rfl hl.1 rfl (lv_room (Nat.le_of_ble_eq_true rfl)) (dk_at dkX11_blind 2 rfl) ⟨Nat.zero_le _, Nat.zero_le _⟩) hS (fun q _ h => h.elim) (fun q h => h.elim) (fun r_406 u t H1 locs ht hvm hw hB hz1 hk1 hS => ?_)
  obtain ⟨hw, hE⟩ := hw
  have hP := gz_keep hP hk1
  have hF := gf_call (a := r_406) hE hF
  generalize H1 = H at hP hS ⊢
  have gr_406 : gi r_406 0 1 := hw.1
  have hqr_406 := hw.2
  refine lv_if_eq (tgt := 26) hx hb (dk_at dkX11_blind 3 rfl) (by decide) (fun c_407 => ?_) (fun c_407 => ?_)
  · have hF := gf_pos c_407 hF
    have g_408 : gi r_406 0 0 := gi_eq c_407 (gi_c 0 0 (by decide))
    refine lv_bipush (v := (-2)) hx hb (dk_at dkX11_blind 14 rfl) (by decide) ?_
    exact W.iret (v := (-2)) hx hb hr (fun t ht hW => ⟨⟨(-2), (), rfl, ⟨(gi_w (gi_c (-2) (-2) (by decide)) (by decide)), hF.trans hR9.symm⟩, trivial⟩, hS.F ht⟩) hS.2.2 (dk_at dkX11_blind 15 rfl)
  · have hF := gf_neg c_407 hF
    have g_409 : gi r_406 1 1 := gi_ne_lo c_407 gr_406 (gi_c 0 0 (by decide)) (by decide)
    have g_410 : gi p1 0 999 := gi_cap (gi_any p1) (hqr_406 (gz_one g_409)) (by decide)
    refine lv_aload_n hx hb (dk_at dkX11_blind 4 rfl) rfl (lv_at hl 0 rfl) ?_
    refine lv_iload_n hx hb (dk_at dkX11_blind 5 rfl) rfl (lv_at hl 2 rfl) ?_
    refine lv_iconst (v := 1) hx hb (dk_at dkX11_blind 6 rfl) (by decide) ?_
    refine lv_aload_n hx hb (dk_at dkX11_blind 7 rfl) rfl (lv_at hl 0 rfl) ?_
    refine va_get (D := (dC, dI)) (ci := 11) (v := .ref am) (C := RX11) (T := TX11) (N := 16) hx hb hts (fun w h => List.mem_cons_of_mem _ (jnGA_X11 w h)) hown hK hP 0 rfl rfl 1 (by decide) (hts _ (List.mem_cons_of_mem _ mGA_14)) (fun _ h9 => h9) rfl (dk_at dkX11_blind 8 rfl) ?_
    refine va_get (D := (dC, dI)) (ci := 0) (v := .int amonths) (C := RX0) (T := TX0) (N := 13) hx hb hts (fun w h => List.mem_cons_of_mem _ (jnGA_X0 w h)) hown hK hP 1 rfl rfl 0 (by decide) (hts _ (List.mem_cons_of_mem _ mGA_353)) (fun _ h9 => h9) rfl (dk_at dkX11_blind 9 rfl) ?_
    refine lv_iconst (v := 1) hx hb (dk_at dkX11_blind 10 rfl) (by decide) ?_
    refine lv_isub hx hb (dk_at dkX11_blind 11 rfl) ?_
    refine lv_topi (fun x_411 ex_411 => ?_)
    have gx_411 : gi x_411 (-1) 23 := gi_sub ex_411 gamonths (gi_c 1 1 (by decide)) (by decide)
    have hPc := hP.sub (ws' := [(h0, .inr (11, [.ref xr, .ref am, .ref xs, .ref xf, .ref co, .ref oc, .ref ta, .ref xq, .ref xh, .ref xk, .ref xo, .int x_outLength, .int x_courtStands, .int x_courtNews, .int x_tallyStands, .int x_historyStands])), (am, .inr (0, [.int amonths, .int afull, .int alean, .int alines, .int ahasMoon, .int amoonStart, .int amoonStep, .int aplaceCount, .int areportCount, .int adeedCount, .ref pl, .ref re, .ref de]))]) [0, 1] rfl
    have hKc := hK.sub (tys' := []) [] rfl
    refine va_calli (va_runV (As := [.int p2, .int 1, .int x_411]) (rest := []) ⟨hx, hb, hml, hown, hts⟩ (sX11_hasMonthA l dC dI h0 am xr xs xf co oc ta xq xh xk xo x_outLength x_courtStands x_courtNews x_tallyStands x_historyStands amonths afull alean alines ahasMoon amoonStart amoonStep aplaceCount areportCount adeedCount pl re de p2 1 x_411 gx_outLength gx_courtStands gx_tallyStands gx_historyStands gamonths gafull galean gahasMoon gaplaceCount gareportCount gadeedCount (gi_w (gi_c 1 1 (by decide)) (by decide)) gx_411) (cwV 3 hts (gz_gV mGA_408 mGA_409 mGA_410 mGA_1 mGA_411 goodGA) rfl rfl rfl (by decide +kernel) ⟨Nat.le_of_ble_eq_true rfl, Nat.le_of_ble_eq_true rfl⟩) ⟨bl_I (bl_a bl_P (bl_a bl_K bl_nz)), va_recv hKc hPc (ci := 11) (q0 := 0) rfl rfl, fun U hU hW => ⟨rfl, by rw [hU]; exact hPc, va_K.moved hW.alike hKc, nzA_warm hW hz⟩⟩ rfl rfl hl.1 rfl (lv_room (Nat.le_of_ble_eq_true rfl)) (dk_at dkX11_blind 12 rfl) ⟨Nat.zero_le _, Nat.zero_le _⟩) hS (fun q _ h => h.elim) (fun q h => h.elim) (fun r_412 u t H1 locs ht hvm hw hB hz1 hk1 hS => ?_)
    obtain ⟨hw, hE⟩ := hw
    have hP := gz_keep hP hk1
    have hF := gf_call (a := r_412) (by rw [ex_411] at hE; exact hE) hF
    generalize H1 = H at hP hS ⊢
    have gr_412 : gi r_412 0 1 := hw.1
    have hqr_412 := hw.2
    refine lv_if_ne (tgt := 29) hx hb (dk_at dkX11_blind 13 rfl) (by decide) (fun c_413 => ?_) (fun c_413 => ?_)
    · have hF := gf_neg c_413 hF
      have g_414 : gi r_412 1 1 := gi_ne_lo c_413 gr_412 (gi_c 0 0 (by decide)) (by decide)
      have g_415 : gi p2 0 23 := gi_cap (gi_any p2) (hqr_412 (gz_one g_414)) (by decide)
      refine lv_iconst (v := 0) hx hb (dk_at dkX11_blind 16 rfl) (by decide) ?_
      refine lv_istore_n (lv' := [(3, .int 0), (0, .ref h0), (1, .int p1), (2, .int p2)]) hx hb (dk_at dkX11_blind 17 rfl) rfl hl (by decide) rfl (fun ls hl => ?_)
      refine lv_iconst (v := 0) hx hb (dk_at dkX11_blind 18 rfl) (by decide) ?_
      refine lv_istore (lv' := [(4, .int 0), (3, .int 0), (0, .ref h0), (1, .int p1), (2, .int p2)]) hx hb (dk_at dkX11_blind 19 rfl) hl (by decide) rfl (fun ls hl => ?_)
      refine (lp_sX11_blind h0 am re xr xs xf co oc ta xq xh xk xo x_outLength x_courtStands x_courtNews x_tallyStands x_historyStands amonths afull alean alines ahasMoon amoonStart amoonStep aplaceCount areportCount adeedCount pl de kre ra r_place r_kind r_month r_day r_known r_struck p1 p2 gx_outLength gx_courtStands gx_tallyStands gx_historyStands gamonths gafull galean gahasMoon gaplaceCount gareportCount gadeedCount gr_place gr_month gr_struck hx hb hml hown hts hK hz hF0 hFA0 (Nat.le_of_ble_eq_true rfl) (Nat.le_of_ble_eq_true rfl) (Nat.zero_le _) (Nat.zero_le _) (fun v H locs ls gv hF hP hS hl => ?_) (fun v H locs ls gv hF hP hS hl => ?_) (fun v H locs ls gv hF hP hS hl => ?_) 1000000000) 0 0 _ _ _ g_410 g_415 (gi_w (gi_c 0 0 (by decide)) (by decide)) (gi_w (gi_c 0 0 (by decide)) (by decide)) hF (by have k0 : (0 : Int32).toInt = 0 := (by decide); omega) hP hS (lv_sub hl [2, 3, 4, 1, 0] rfl)
      · skip
        exact W.iret (v := v) hx hb hr (fun t ht hW => ⟨⟨v, (), rfl, ⟨(gi_w gv (by decide)), hF.trans hR9.symm⟩, trivial⟩, hS.F ht⟩) hS.2.2 (dk_at dkX11_blind 15 rfl)
      · skip
        exact W.iret (v := v) hx hb hr (fun t ht hW => ⟨⟨v, (), rfl, ⟨(gi_w gv (by decide)), hF.trans hR9.symm⟩, trivial⟩, hS.F ht⟩) hS.2.2 (dk_at dkX11_blind 50 rfl)
      · skip
        exact W.iret (v := v) hx hb hr (fun t ht hW => ⟨⟨v, (), rfl, ⟨(gi_w gv (by decide)), hF.trans hR9.symm⟩, trivial⟩, hS.F ht⟩) hS.2.2 (dk_at dkX11_blind 44 rfl)
    · have hF := gf_pos c_413 hF
      have g_416 : gi r_412 0 0 := gi_eq c_413 (gi_c 0 0 (by decide))
      refine lv_bipush (v := (-2)) hx hb (dk_at dkX11_blind 14 rfl) (by decide) ?_
      exact W.iret (v := (-2)) hx hb hr (fun t ht hW => ⟨⟨(-2), (), rfl, ⟨(gi_w (gi_c (-2) (-2) (by decide)) (by decide)), hF.trans hR9.symm⟩, trivial⟩, hS.F ht⟩) hS.2.2 (dk_at dkX11_blind 15 rfl)
noncomputable def lsX11_report : List (Nat × Instr × Nat) := [(0, .aload_n 0, 1), (1, .iload_n 1, 1), (2, .invokevirtual 164, 3), (5, .ifCond .ne 6, 3), (8, .bipush (-2), 2), (10, .ireturn, 1), (11, .aload_n 0, 1), (12, .getfield 19, 3), (15, .getfield 167, 3), (18, .iload_n 1, 1), (19, .aaload, 1), (20, .astore_n 3, 1), (21, .iload_n 2, 1), (22, .tableswitch 70 0 4 #[34, 39, 55, 60, 65], 34), (56, .aload_n 3, 1), (57, .getfield 171, 3), (60, .ireturn, 1), (61, .aload_n 3, 1), (62, .getfield 176, 3), (65, .ifCond .eq 7, 3), (68, .iconst 3, 1), (69, .goto 7, 3), (72, .aload_n 3, 1), (73, .getfield 179, 3), (76, .ireturn, 1), (77, .aload_n 3, 1), (78, .getfield 182, 3), (81, .ireturn, 1), (82, .aload_n 3, 1), (83, .getfield 185, 3), (86, .ireturn, 1), (87, .aload_n 3, 1), (88, .getfield 188, 3), (91, .ireturn, 1), (92, .bipush (-2), 2), (94, .ireturn, 1)]
theorem dkX11_report : dkAll cX11_report lsX11_report = true := by decide +kernel
noncomputable def bfX11_report_76 (areportCount : Int32) (r_place : Nat → Int32) (r_kind : Nat → Int32) (r_month : Nat → Int32) (r_day : Nat → Int32) (r_known : Nat → Int32) (r_struck : Nat → Int32) (p1 : Int32) (p2 : Int32) (s0 : Int32) : Int32 := s0
noncomputable def fX11_report (areportCount : Int32) (r_place : Nat → Int32) (r_kind : Nat → Int32) (r_month : Nat → Int32) (r_day : Nat → Int32) (r_known : Nat → Int32) (r_struck : Nat → Int32) (p1 : Int32) (p2 : Int32) : Int32 := cal (fun o1 => if o1 = (0 : Int32) then (-2 : Int32) else (if p2 = (0 : Int32) then (r_place p1.toNatClampNeg) else (if p2 = (1 : Int32) then (if (r_struck p1.toNatClampNeg) = (0 : Int32) then (bfX11_report_76 areportCount r_place r_kind r_month r_day r_known r_struck p1 p2 (r_kind p1.toNatClampNeg)) else (bfX11_report_76 areportCount r_place r_kind r_month r_day r_known r_struck p1 p2 (3 : Int32))) else (if p2 = (2 : Int32) then (r_month p1.toNatClampNeg) else (if p2 = (3 : Int32) then (r_day p1.toNatClampNeg) else (if p2 = (4 : Int32) then (r_known p1.toNatClampNeg) else (-2 : Int32))))))) (fX11_hasReport areportCount p1)
set_option maxHeartbeats 4000000 in
set_option maxRecDepth 100000 in
theorem sX11_report (l : Launch) (dC : Nat → ClassId) (dI : Nat → Nat → Nat) (h0 : Nat) (am : Nat) (re : Nat) (xr : Nat) (xs : Nat) (xf : Nat) (co : Nat) (oc : Nat) (ta : Nat) (xq : Nat) (xh : Nat) (xk : Nat) (xo : Nat) (x_outLength : Int32) (x_courtStands : Int32) (x_courtNews : Int32) (x_tallyStands : Int32) (x_historyStands : Int32) (amonths : Int32) (afull : Int32) (alean : Int32) (alines : Int32) (ahasMoon : Int32) (amoonStart : Int32) (amoonStep : Int32) (aplaceCount : Int32) (areportCount : Int32) (adeedCount : Int32) (pl : Nat) (de : Nat) (kre : ClassId) (ra : Nat → Nat) (r_place : Nat → Int32) (r_kind : Nat → Int32) (r_month : Nat → Int32) (r_day : Nat → Int32) (r_known : Nat → Int32) (r_struck : Nat → Int32) (p1 : Int32) (p2 : Int32) (gx_outLength : gi x_outLength 0 72) (gx_courtStands : gi x_courtStands 0 1) (gx_tallyStands : gi x_tallyStands 0 1) (gx_historyStands : gi x_historyStands 0 1) (gamonths : gi amonths 0 24) (gafull : gi afull 0 5) (galean : gi alean 0 5) (gahasMoon : gi ahasMoon 0 1) (gaplaceCount : gi aplaceCount 0 6) (gareportCount : gi areportCount 0 24) (gadeedCount : gi adeedCount 0 8) (gr_place : ga r_place 24 0 5) (gr_month : ga r_month 24 0 23) (gr_struck : ga r_struck 24 0 1) : Met l yX11_report (.code yX11_report cX11_report 4 (some .int) :: wsGA) ({ frames := 1, cells := 0, slots := 0, locals := 21 }) (va_Pc [.ref h0, .int p1, .int p2] (fun U => va_P (dC, dI) vwCl [(h0, .inr (11, [.ref xr, .ref am, .ref xs, .ref xf, .ref co, .ref oc, .ref ta, .ref xq, .ref xh, .ref xk, .ref xo, .int x_outLength, .int x_courtStands, .int x_courtNews, .int x_tallyStands, .int x_historyStands])), (am, .inr (0, [.int amonths, .int afull, .int alean, .int alines, .int ahasMoon, .int amoonStart, .int amoonStep, .int aplaceCount, .int areportCount, .int adeedCount, .ref pl, .ref re, .ref de])), (re, .inl (kre, 24, .inr (.inr (.inr (.inr (fun i => some (ra i)))))))] U.heap ∧ va_K (dC, dI) vwCl [(kre, .object RX7)] U ∧ nzA U ∧ va_P (dC, dI) vwCl (gz_fam 24 ra 7 (fun i => [.int (r_place i), .int (r_kind i), .int (r_month i), .int (r_day i), .int (r_known i), .int (r_struck i)])) U.heap)) (va_Qi (fun (r : Int32) (u : Unit) => (gi r (-2147483648) 2147483647) ∧ r = fX11_report areportCount r_place r_kind r_month r_day r_known r_struck p1 p2) (fun _ _ => True) (fun _ => False)) 0 0 (fun _ => False) := by
  refine Met.ofW (cc := cX11_report) (maxL := 4) (ret := (some .int)) (by decide) rfl ?_
  intro p e s m args below meth c s₁ B hml hv
  obtain ⟨rfl, hP, hK, hz, hF0⟩ := hv
  have hx := B.exec
  have hb := B.bytes
  have hr := B.returns
  have hts := atoms_spec (ws := (.code yX11_report cX11_report 4 (some .int) :: wsGA)) B.pre
  have hown : s.vm.findClass RX11 = some m.cls := findClass_of_methodNamed B.named
  have hlocks := B.notSynchronized
  have hS : va_S (fun _ => False) s.heap s.heap [] := va_S.rf
  have hFA0 : gz_ap (fun _ => False) (gz_fam 24 ra 7 (fun i => [.int (r_place i), .int (r_kind i), .int (r_month i), .int (r_day i), .int (r_known i), .int (r_struck i)])) := gz_ap0
  have hl := lv_entry ([.ref h0, .int p1, .int p2]) (n := 4) (Nat.le_of_ble_eq_true rfl)
  rw [lg_entry_eq]
  generalize (lg_sl ([.ref h0, .int p1, .int p2]) ++ List.replicate (4 - (lg_sl ([.ref h0, .int p1, .int p2])).length) Slot.unset).toArray = ls at hl ⊢
  have hl : lv_has ls 4 [(0, .ref h0), (1, .int p1), (2, .int p2)] := hl
  obtain ⟨RES, hF⟩ : ∃ R9, fX11_report areportCount r_place r_kind r_month r_day r_known r_struck p1 p2 = R9 := ⟨_, rfl⟩
  have hR9 := hF
  refine lv_aload_n hx hb (dk_at dkX11_report 0 rfl) rfl (lv_at hl 0 rfl) ?_
  refine lv_iload_n hx hb (dk_at dkX11_report 1 rfl) rfl (lv_at hl 1 rfl) ?_
  have hPc := hP.sub (ws' := [(h0, .inr (11, [.ref xr, .ref am, .ref xs, .ref xf, .ref co, .ref oc, .ref ta, .ref xq, .ref xh, .ref xk, .ref xo, .int x_outLength, .int x_courtStands, .int x_courtNews, .int x_tallyStands, .int x_historyStands])), (am, .inr (0, [.int amonths, .int afull, .int alean, .int alines, .int ahasMoon, .int amoonStart, .int amoonStep, .int aplaceCount, .int areportCount, .int adeedCount, .ref pl, .ref re, .ref de]))]) [0, 1] rfl
  have hKc := hK.sub (tys' := []) [] rfl
  refine va_calli (va_runV (As := [.int p1]) (rest := []) ⟨hx, hb, hml, hown, hts⟩ (sX11_hasReport l dC dI h0 am xr xs xf co oc ta xq xh xk xo x_outLength x_courtStands x_courtNews x_tallyStands x_historyStands amonths afull alean alines ahasMoon amoonStart amoonStep aplaceCount areportCount adeedCount pl re de p1 gx_outLength gx_courtStands gx_tallyStands gx_historyStands gamonths gafull galean gahasMoon gaplaceCount gareportCount gadeedCount) (cwV 1 hts (gz_gV mGA_388 mGA_389 mGA_390 mGA_1 mGA_391 goodGA) rfl rfl rfl (by decide +kernel) ⟨Nat.le_of_ble_eq_true rfl, Nat.le_of_ble_eq_true rfl⟩) ⟨bl_I (bl_a bl_P (bl_a bl_K bl_nz)), va_recv hKc hPc (ci := 11) (q0 := 0) rfl rfl, fun U hU hW => ⟨rfl, by rw [hU]; exact hPc, va_K.moved hW.alike hKc, nzA_warm hW hz⟩⟩ rfl rfl hl.1 rfl (lv_room (Nat.le_of_ble_eq_true rfl)) (dk_at dkX11_report 2 rfl) ⟨Nat.zero_le _, Nat.zero_le _⟩) hS (fun q _ h => h.elim) (fun q h => h.elim) (fun r_16 u t H1 locs ht hvm hw hB hz1 hk1 hS => ?_)
  obtain ⟨hw, hE⟩ := hw
  have hP := gz_keep hP hk1
  have hF := gf_call (a := r_16) hE hF
  generalize H1 = H at hP hS ⊢
  have gr_16 : gi r_16 0 1 := hw.1
  have hqr_16 := hw.2
  refine lv_if_ne (tgt := 11) hx hb (dk_at dkX11_report 3 rfl) (by decide) (fun c_17 => ?_) (fun c_17 => ?_)
  · have hF := gf_neg c_17 hF
    have g_18 : gi r_16 1 1 := gi_ne_lo c_17 gr_16 (gi_c 0 0 (by decide)) (by decide)
    have g_19 : gi p1 0 23 := gi_cap (gi_any p1) (hqr_16 (gz_one g_18)) (by decide)
    refine lv_aload_n hx hb (dk_at dkX11_report 6 rfl) rfl (lv_at hl 0 rfl) ?_
    refine va_get (D := (dC, dI)) (ci := 11) (v := .ref am) (C := RX11) (T := TX11) (N := 16) hx hb hts (fun w h => List.mem_cons_of_mem _ (jnGA_X11 w h)) hown hK hP 0 rfl rfl 1 (by decide) (hts _ (List.mem_cons_of_mem _ mGA_14)) (fun _ h9 => h9) rfl (dk_at dkX11_report 7 rfl) ?_
    refine va_get (D := (dC, dI)) (ci := 0) (v := .ref re) (C := RX0) (T := TX0) (N := 13) hx hb hts (fun w h => List.mem_cons_of_mem _ (jnGA_X0 w h)) hown hK hP 1 rfl rfl 11 (by decide) (hts _ (List.mem_cons_of_mem _ mGA_381)) (fun _ h9 => h9) rfl (dk_at dkX11_report 8 rfl) ?_
    refine lv_iload_n hx hb (dk_at dkX11_report 9 rfl) rfl (lv_at hl 1 rfl) ?_
    refine va_aldq hx hb hK hP 2 0 rfl rfl (gi_in g_19 (by decide)) (dk_at dkX11_report 10 rfl) ?_
    refine W.eq (g2 := F0 m 20 ls [.ref (ra p1.toNatClampNeg)]) rfl ?_
    refine lv_astore_n (lv' := [(3, .ref (ra p1.toNatClampNeg)), (0, .ref h0), (1, .int p1), (2, .int p2)]) hx hb (dk_at dkX11_report 11 rfl) rfl hl (by decide) rfl (fun ls hl => ?_)
    refine lv_iload_n hx hb (dk_at dkX11_report 12 rfl) rfl (lv_at hl 3 rfl) ?_
    rcases gz_sw p2 4 (Nat.le_of_ble_eq_true rfl) with hj_20 | ⟨j_20, hj_20, ej_20⟩
    · refine lv_tableOut (tgt := 92) hx hb (dk_at dkX11_report 13 rfl) hj_20 (by decide) ?_
      have hF := gf_neg (fun h9 => by have h8 := congrArg Int32.toInt h9; rw [show (0 : Int32).toInt = 0 from by decide] at h8; omega) hF
      have hF := gf_neg (fun h9 => by have h8 := congrArg Int32.toInt h9; rw [show (1 : Int32).toInt = 1 from by decide] at h8; omega) hF
      have hF := gf_neg (fun h9 => by have h8 := congrArg Int32.toInt h9; rw [show (2 : Int32).toInt = 2 from by decide] at h8; omega) hF
      have hF := gf_neg (fun h9 => by have h8 := congrArg Int32.toInt h9; rw [show (3 : Int32).toInt = 3 from by decide] at h8; omega) hF
      have hF := gf_neg (fun h9 => by have h8 := congrArg Int32.toInt h9; rw [show (4 : Int32).toInt = 4 from by decide] at h8; omega) hF
      refine lv_bipush (v := (-2)) hx hb (dk_at dkX11_report 34 rfl) (by decide) ?_
      exact W.iret (v := (-2)) hx hb hr (fun t ht hW => ⟨⟨(-2), (), rfl, ⟨(gi_any (-2)), hF.trans hR9.symm⟩, trivial⟩, hS.F ht⟩) hS.2.2 (dk_at dkX11_report 35 rfl)
    · rcases (show j_20 = 0 ∨ j_20 = 1 ∨ j_20 = 2 ∨ j_20 = 3 ∨ j_20 = 4 by omega) with rfl | rfl | rfl | rfl | rfl
      · refine lv_tableIn (off := 34) (tgt := 56) hx hb (dk_at dkX11_report 13 rfl) (by rw [ej_20]; decide +kernel) (by rw [ej_20]; decide +kernel) (by rw [ej_20]; decide +kernel) (by decide) ?_
        have hF := gf_pos (by rw [ej_20]; rfl) hF
        refine lv_aload_n hx hb (dk_at dkX11_report 14 rfl) rfl (lv_at hl 0 rfl) ?_
        refine va_get (D := (dC, dI)) (ci := 7) (v := .int (r_place p1.toNatClampNeg)) (C := RX7) (T := TX7) (N := 6) hx hb hts (fun w h => List.mem_cons_of_mem _ (jnGA_X7 w h)) hown hK (gz_ro hF0 hFA0 hS) (p1.toNatClampNeg) (gz_fam_at (gz_clt (gi_in (n := 24) g_19 (by decide)))) rfl 0 (by decide) (hts _ (List.mem_cons_of_mem _ mGA_382)) (fun _ h9 => h9) rfl (dk_at dkX11_report 15 rfl) ?_
        refine lv_topi (fun x_21 ex_21 => ?_)
        have gx_21 : gi x_21 0 5 := ga_at gr_place (gi_in (n := 24) g_19 (by decide)) ex_21
        exact W.iret (v := x_21) hx hb hr (fun t ht hW => ⟨⟨x_21, (), rfl, ⟨(gi_any x_21), by rw [ex_21]; exact hF.trans hR9.symm⟩, trivial⟩, hS.F ht⟩) hS.2.2 (dk_at dkX11_report 16 rfl)
      · refine lv_tableIn (off := 39) (tgt := 61) hx hb (dk_at dkX11_report 13 rfl) (by rw [ej_20]; decide +kernel) (by rw [ej_20]; decide +kernel) (by rw [ej_20]; decide +kernel) (by decide) ?_
        have hF := gf_neg (by rw [ej_20]; decide) hF
        have hF := gf_pos (by rw [ej_20]; rfl) hF
        refine lv_aload_n hx hb (dk_at dkX11_report 17 rfl) rfl (lv_at hl 0 rfl) ?_
        refine va_get (D := (dC, dI)) (ci := 7) (v := .int (r_struck p1.toNatClampNeg)) (C := RX7) (T := TX7) (N := 6) hx hb hts (fun w h => List.mem_cons_of_mem _ (jnGA_X7 w h)) hown hK (gz_ro hF0 hFA0 hS) (p1.toNatClampNeg) (gz_fam_at (gz_clt (gi_in (n := 24) g_19 (by decide)))) rfl 5 (by decide) (hts _ (List.mem_cons_of_mem _ mGA_383)) (fun _ h9 => h9) rfl (dk_at dkX11_report 18 rfl) ?_
        refine lv_topi (fun x_22 ex_22 => ?_)
        have gx_22 : gi x_22 0 1 := ga_at gr_struck (gi_in (n := 24) g_19 (by decide)) ex_22
        refine lv_if_eq (tgt := 72) hx hb (dk_at dkX11_report 19 rfl) (by decide) (fun c_23 => ?_) (fun c_23 => ?_)
        · have hF := gf_pos (by rw [ex_22] at c_23; exact c_23) hF
          have g_24 : gi x_22 0 0 := gi_eq c_23 (gi_c 0 0 (by decide))
          refine lv_aload_n hx hb (dk_at dkX11_report 22 rfl) rfl (lv_at hl 0 rfl) ?_
          refine va_get (D := (dC, dI)) (ci := 7) (v := .int (r_kind p1.toNatClampNeg)) (C := RX7) (T := TX7) (N := 6) hx hb hts (fun w h => List.mem_cons_of_mem _ (jnGA_X7 w h)) hown hK (gz_ro hF0 hFA0 hS) (p1.toNatClampNeg) (gz_fam_at (gz_clt (gi_in (n := 24) g_19 (by decide)))) rfl 1 (by decide) (hts _ (List.mem_cons_of_mem _ mGA_384)) (fun _ h9 => h9) rfl (dk_at dkX11_report 23 rfl) ?_
          refine lv_topi (fun x_25 ex_25 => ?_)
          exact W.iret (v := x_25) hx hb hr (fun t ht hW => ⟨⟨x_25, (), rfl, ⟨(gi_any x_25), by rw [ex_25]; exact hF.trans hR9.symm⟩, trivial⟩, hS.F ht⟩) hS.2.2 (dk_at dkX11_report 24 rfl)
        · have hF := gf_neg (by rw [ex_22] at c_23; exact c_23) hF
          have g_26 : gi x_22 1 1 := gi_ne_lo c_23 gx_22 (gi_c 0 0 (by decide)) (by decide)
          refine lv_iconst (v := 3) hx hb (dk_at dkX11_report 20 rfl) (by decide) ?_
          refine lv_goto (tgt := 76) hx hb (dk_at dkX11_report 21 rfl) (by decide) ?_
          exact W.iret (v := 3) hx hb hr (fun t ht hW => ⟨⟨3, (), rfl, ⟨(gi_any 3), hF.trans hR9.symm⟩, trivial⟩, hS.F ht⟩) hS.2.2 (dk_at dkX11_report 24 rfl)
      · refine lv_tableIn (off := 55) (tgt := 77) hx hb (dk_at dkX11_report 13 rfl) (by rw [ej_20]; decide +kernel) (by rw [ej_20]; decide +kernel) (by rw [ej_20]; decide +kernel) (by decide) ?_
        have hF := gf_neg (by rw [ej_20]; decide) hF
        have hF := gf_neg (by rw [ej_20]; decide) hF
        have hF := gf_pos (by rw [ej_20]; rfl) hF
        refine lv_aload_n hx hb (dk_at dkX11_report 25 rfl) rfl (lv_at hl 0 rfl) ?_
        refine va_get (D := (dC, dI)) (ci := 7) (v := .int (r_month p1.toNatClampNeg)) (C := RX7) (T := TX7) (N := 6) hx hb hts (fun w h => List.mem_cons_of_mem _ (jnGA_X7 w h)) hown hK (gz_ro hF0 hFA0 hS) (p1.toNatClampNeg) (gz_fam_at (gz_clt (gi_in (n := 24) g_19 (by decide)))) rfl 2 (by decide) (hts _ (List.mem_cons_of_mem _ mGA_385)) (fun _ h9 => h9) rfl (dk_at dkX11_report 26 rfl) ?_
        refine lv_topi (fun x_27 ex_27 => ?_)
        have gx_27 : gi x_27 0 23 := ga_at gr_month (gi_in (n := 24) g_19 (by decide)) ex_27
        exact W.iret (v := x_27) hx hb hr (fun t ht hW => ⟨⟨x_27, (), rfl, ⟨(gi_any x_27), by rw [ex_27]; exact hF.trans hR9.symm⟩, trivial⟩, hS.F ht⟩) hS.2.2 (dk_at dkX11_report 27 rfl)
      · refine lv_tableIn (off := 60) (tgt := 82) hx hb (dk_at dkX11_report 13 rfl) (by rw [ej_20]; decide +kernel) (by rw [ej_20]; decide +kernel) (by rw [ej_20]; decide +kernel) (by decide) ?_
        have hF := gf_neg (by rw [ej_20]; decide) hF
        have hF := gf_neg (by rw [ej_20]; decide) hF
        have hF := gf_neg (by rw [ej_20]; decide) hF
        have hF := gf_pos (by rw [ej_20]; rfl) hF
        refine lv_aload_n hx hb (dk_at dkX11_report 28 rfl) rfl (lv_at hl 0 rfl) ?_
        refine va_get (D := (dC, dI)) (ci := 7) (v := .int (r_day p1.toNatClampNeg)) (C := RX7) (T := TX7) (N := 6) hx hb hts (fun w h => List.mem_cons_of_mem _ (jnGA_X7 w h)) hown hK (gz_ro hF0 hFA0 hS) (p1.toNatClampNeg) (gz_fam_at (gz_clt (gi_in (n := 24) g_19 (by decide)))) rfl 3 (by decide) (hts _ (List.mem_cons_of_mem _ mGA_386)) (fun _ h9 => h9) rfl (dk_at dkX11_report 29 rfl) ?_
        refine lv_topi (fun x_28 ex_28 => ?_)
        exact W.iret (v := x_28) hx hb hr (fun t ht hW => ⟨⟨x_28, (), rfl, ⟨(gi_any x_28), by rw [ex_28]; exact hF.trans hR9.symm⟩, trivial⟩, hS.F ht⟩) hS.2.2 (dk_at dkX11_report 30 rfl)
      · refine lv_tableIn (off := 65) (tgt := 87) hx hb (dk_at dkX11_report 13 rfl) (by rw [ej_20]; decide +kernel) (by rw [ej_20]; decide +kernel) (by rw [ej_20]; decide +kernel) (by decide) ?_
        have hF := gf_neg (by rw [ej_20]; decide) hF
        have hF := gf_neg (by rw [ej_20]; decide) hF
        have hF := gf_neg (by rw [ej_20]; decide) hF
        have hF := gf_neg (by rw [ej_20]; decide) hF
        have hF := gf_pos (by rw [ej_20]; rfl) hF
        refine lv_aload_n hx hb (dk_at dkX11_report 31 rfl) rfl (lv_at hl 0 rfl) ?_
        refine va_get (D := (dC, dI)) (ci := 7) (v := .int (r_known p1.toNatClampNeg)) (C := RX7) (T := TX7) (N := 6) hx hb hts (fun w h => List.mem_cons_of_mem _ (jnGA_X7 w h)) hown hK (gz_ro hF0 hFA0 hS) (p1.toNatClampNeg) (gz_fam_at (gz_clt (gi_in (n := 24) g_19 (by decide)))) rfl 4 (by decide) (hts _ (List.mem_cons_of_mem _ mGA_387)) (fun _ h9 => h9) rfl (dk_at dkX11_report 32 rfl) ?_
        refine lv_topi (fun x_29 ex_29 => ?_)
        exact W.iret (v := x_29) hx hb hr (fun t ht hW => ⟨⟨x_29, (), rfl, ⟨(gi_any x_29), by rw [ex_29]; exact hF.trans hR9.symm⟩, trivial⟩, hS.F ht⟩) hS.2.2 (dk_at dkX11_report 33 rfl)
  · have hF := gf_pos c_17 hF
    have g_30 : gi r_16 0 0 := gi_eq c_17 (gi_c 0 0 (by decide))
    refine lv_bipush (v := (-2)) hx hb (dk_at dkX11_report 4 rfl) (by decide) ?_
    exact W.iret (v := (-2)) hx hb hr (fun t ht hW => ⟨⟨(-2), (), rfl, ⟨(gi_any (-2)), hF.trans hR9.symm⟩, trivial⟩, hS.F ht⟩) hS.2.2 (dk_at dkX11_report 5 rfl)
noncomputable def lsX11_place : List (Nat × Instr × Nat) := [(0, .aload_n 0, 1), (1, .iload_n 1, 1), (2, .invokevirtual 144, 3), (5, .ifCond .ne 6, 3), (8, .bipush (-2), 2), (10, .ireturn, 1), (11, .iload_n 2, 1), (12, .tableswitch 59 0 2 #[28, 41, 50], 28), (40, .aload_n 0, 1), (41, .getfield 19, 3), (44, .getfield 148, 3), (47, .iload_n 1, 1), (48, .aaload, 1), (49, .getfield 152, 3), (52, .ireturn, 1), (53, .aload_n 0, 1), (54, .getfield 19, 3), (57, .iload_n 1, 1), (58, .invokevirtual 157, 3), (61, .ireturn, 1), (62, .aload_n 0, 1), (63, .getfield 19, 3), (66, .iload_n 1, 1), (67, .invokevirtual 161, 3), (70, .ireturn, 1), (71, .bipush (-2), 2), (73, .ireturn, 1)]
theorem dkX11_place : dkAll cX11_place lsX11_place = true := by decide +kernel
noncomputable def fX11_place (aplaceCount : Int32) (areportCount : Int32) (p_name : Nat → Int32) (p_trust : Nat → Int32) (r_place : Nat → Int32) (r_struck : Nat → Int32) (p1 : Int32) (p2 : Int32) : Int32 := cal (fun o1 => if o1 = (0 : Int32) then (-2 : Int32) else (if p2 = (0 : Int32) then (p_trust p1.toNatClampNeg) else (if p2 = (1 : Int32) then (cal (fun o3 => o3) (fX0_namesAhead aplaceCount p_name p1)) else (if p2 = (2 : Int32) then (cal (fun o2 => o2) (fX0_standingOf areportCount r_place r_struck p1)) else (-2 : Int32))))) (fX11_hasPlace aplaceCount p1)
set_option maxHeartbeats 4000000 in
set_option maxRecDepth 100000 in
theorem sX11_place (l : Launch) (dC : Nat → ClassId) (dI : Nat → Nat → Nat) (h0 : Nat) (am : Nat) (pl : Nat) (re : Nat) (xr : Nat) (xs : Nat) (xf : Nat) (co : Nat) (oc : Nat) (ta : Nat) (xq : Nat) (xh : Nat) (xk : Nat) (xo : Nat) (x_outLength : Int32) (x_courtStands : Int32) (x_courtNews : Int32) (x_tallyStands : Int32) (x_historyStands : Int32) (amonths : Int32) (afull : Int32) (alean : Int32) (alines : Int32) (ahasMoon : Int32) (amoonStart : Int32) (amoonStep : Int32) (aplaceCount : Int32) (areportCount : Int32) (adeedCount : Int32) (de : Nat) (kpl : ClassId) (kre : ClassId) (pa : Nat → Nat) (p_name : Nat → Int32) (p_trust : Nat → Int32) (ra : Nat → Nat) (r_place : Nat → Int32) (r_kind : Nat → Int32) (r_month : Nat → Int32) (r_day : Nat → Int32) (r_known : Nat → Int32) (r_struck : Nat → Int32) (p1 : Int32) (p2 : Int32) (gx_outLength : gi x_outLength 0 72) (gx_courtStands : gi x_courtStands 0 1) (gx_tallyStands : gi x_tallyStands 0 1) (gx_historyStands : gi x_historyStands 0 1) (gamonths : gi amonths 0 24) (gafull : gi afull 0 5) (galean : gi alean 0 5) (gahasMoon : gi ahasMoon 0 1) (gaplaceCount : gi aplaceCount 0 6) (gareportCount : gi areportCount 0 24) (gadeedCount : gi adeedCount 0 8) (gr_place : ga r_place 24 0 5) (gr_month : ga r_month 24 0 23) (gr_struck : ga r_struck 24 0 1) : Met l yX11_place (.code yX11_place cX11_place 3 (some .int) :: wsGA) ({ frames := 1, cells := 0, slots := 0, locals := 23 }) (va_Pc [.ref h0, .int p1, .int p2] (fun U => va_P (dC, dI) vwCl [(h0, .inr (11, [.ref xr, .ref am, .ref xs, .ref xf, .ref co, .ref oc, .ref ta, .ref xq, .ref xh, .ref xk, .ref xo, .int x_outLength, .int x_courtStands, .int x_courtNews, .int x_tallyStands, .int x_historyStands])), (am, .inr (0, [.int amonths, .int afull, .int alean, .int alines, .int ahasMoon, .int amoonStart, .int amoonStep, .int aplaceCount, .int areportCount, .int adeedCount, .ref pl, .ref re, .ref de])), (pl, .inl (kpl, 6, .inr (.inr (.inr (.inr (fun i => some (pa i))))))), (re, .inl (kre, 24, .inr (.inr (.inr (.inr (fun i => some (ra i)))))))] U.heap ∧ va_K (dC, dI) vwCl [(kpl, .object RX5), (kre, .object RX7)] U ∧ nzA U ∧ va_P (dC, dI) vwCl (gz_fam 6 pa 5 (fun i => [.int (p_name i), .int (p_trust i)])) U.heap ∧ va_P (dC, dI) vwCl (gz_fam 24 ra 7 (fun i => [.int (r_place i), .int (r_kind i), .int (r_month i), .int (r_day i), .int (r_known i), .int (r_struck i)])) U.heap)) (va_Qi (fun (r : Int32) (u : Unit) => (gi r (-2147483648) 2147483647) ∧ r = fX11_place aplaceCount areportCount p_name p_trust r_place r_struck p1 p2) (fun _ _ => True) (fun _ => False)) 0 0 (fun _ => False) := by
  refine Met.ofW (cc := cX11_place) (maxL := 3) (ret := (some .int)) (by decide) rfl ?_
  intro p e s m args below meth c s₁ B hml hv
  obtain ⟨rfl, hP, hK, hz, hF0, hF1⟩ := hv
  have hx := B.exec
  have hb := B.bytes
  have hr := B.returns
  have hts := atoms_spec (ws := (.code yX11_place cX11_place 3 (some .int) :: wsGA)) B.pre
  have hown : s.vm.findClass RX11 = some m.cls := findClass_of_methodNamed B.named
  have hlocks := B.notSynchronized
  have hS : va_S (fun _ => False) s.heap s.heap [] := va_S.rf
  have hFA0 : gz_ap (fun _ => False) (gz_fam 6 pa 5 (fun i => [.int (p_name i), .int (p_trust i)])) := gz_ap0
  have hFA1 : gz_ap (fun _ => False) (gz_fam 24 ra 7 (fun i => [.int (r_place i), .int (r_kind i), .int (r_month i), .int (r_day i), .int (r_known i), .int (r_struck i)])) := gz_ap0
  have hl := lv_entry ([.ref h0, .int p1, .int p2]) (n := 3) (Nat.le_of_ble_eq_true rfl)
  rw [lg_entry_eq]
  generalize (lg_sl ([.ref h0, .int p1, .int p2]) ++ List.replicate (3 - (lg_sl ([.ref h0, .int p1, .int p2])).length) Slot.unset).toArray = ls at hl ⊢
  have hl : lv_has ls 3 [(0, .ref h0), (1, .int p1), (2, .int p2)] := hl
  obtain ⟨RES, hF⟩ : ∃ R9, fX11_place aplaceCount areportCount p_name p_trust r_place r_struck p1 p2 = R9 := ⟨_, rfl⟩
  have hR9 := hF
  refine lv_aload_n hx hb (dk_at dkX11_place 0 rfl) rfl (lv_at hl 0 rfl) ?_
  refine lv_iload_n hx hb (dk_at dkX11_place 1 rfl) rfl (lv_at hl 1 rfl) ?_
  have hPc := hP.sub (ws' := [(h0, .inr (11, [.ref xr, .ref am, .ref xs, .ref xf, .ref co, .ref oc, .ref ta, .ref xq, .ref xh, .ref xk, .ref xo, .int x_outLength, .int x_courtStands, .int x_courtNews, .int x_tallyStands, .int x_historyStands])), (am, .inr (0, [.int amonths, .int afull, .int alean, .int alines, .int ahasMoon, .int amoonStart, .int amoonStep, .int aplaceCount, .int areportCount, .int adeedCount, .ref pl, .ref re, .ref de]))]) [0, 1] rfl
  have hKc := hK.sub (tys' := []) [] rfl
  refine va_calli (va_runV (As := [.int p1]) (rest := []) ⟨hx, hb, hml, hown, hts⟩ (sX11_hasPlace l dC dI h0 am xr xs xf co oc ta xq xh xk xo x_outLength x_courtStands x_courtNews x_tallyStands x_historyStands amonths afull alean alines ahasMoon amoonStart amoonStep aplaceCount areportCount adeedCount pl re de p1 gx_outLength gx_courtStands gx_tallyStands gx_historyStands gamonths gafull galean gahasMoon gaplaceCount gareportCount gadeedCount) (cwV 1 hts (gz_gV mGA_366 mGA_367 mGA_368 mGA_1 mGA_369 goodGA) rfl rfl rfl (by decide +kernel) ⟨Nat.le_of_ble_eq_true rfl, Nat.le_of_ble_eq_true rfl⟩) ⟨bl_I (bl_a bl_P (bl_a bl_K bl_nz)), va_recv hKc hPc (ci := 11) (q0 := 0) rfl rfl, fun U hU hW => ⟨rfl, by rw [hU]; exact hPc, va_K.moved hW.alike hKc, nzA_warm hW hz⟩⟩ rfl rfl hl.1 rfl (lv_room (Nat.le_of_ble_eq_true rfl)) (dk_at dkX11_place 2 rfl) ⟨Nat.zero_le _, Nat.zero_le _⟩) hS (fun q _ h => h.elim) (fun q h => h.elim) (fun r_10 u t H1 locs ht hvm hw hB hz1 hk1 hS => ?_)
  obtain ⟨hw, hE⟩ := hw
  have hP := gz_keep hP hk1
  have hF := gf_call (a := r_10) hE hF
  generalize H1 = H at hP hS ⊢
  have gr_10 : gi r_10 0 1 := hw.1
  have hqr_10 := hw.2
  refine lv_if_ne (tgt := 11) hx hb (dk_at dkX11_place 3 rfl) (by decide) (fun c_11 => ?_) (fun c_11 => ?_)
  · have hF := gf_neg c_11 hF
    have g_12 : gi r_10 1 1 := gi_ne_lo c_11 gr_10 (gi_c 0 0 (by decide)) (by decide)
    have g_13 : gi p1 0 5 := gi_cap (gi_any p1) (hqr_10 (gz_one g_12)) (by decide)
    refine lv_iload_n hx hb (dk_at dkX11_place 6 rfl) rfl (lv_at hl 2 rfl) ?_
    rcases gz_sw p2 2 (Nat.le_of_ble_eq_true rfl) with hj_14 | ⟨j_14, hj_14, ej_14⟩
    · refine lv_tableOut (tgt := 71) hx hb (dk_at dkX11_place 7 rfl) hj_14 (by decide) ?_
      have hF := gf_neg (fun h9 => by have h8 := congrArg Int32.toInt h9; rw [show (0 : Int32).toInt = 0 from by decide] at h8; omega) hF
      have hF := gf_neg (fun h9 => by have h8 := congrArg Int32.toInt h9; rw [show (1 : Int32).toInt = 1 from by decide] at h8; omega) hF
      have hF := gf_neg (fun h9 => by have h8 := congrArg Int32.toInt h9; rw [show (2 : Int32).toInt = 2 from by decide] at h8; omega) hF
      refine lv_bipush (v := (-2)) hx hb (dk_at dkX11_place 25 rfl) (by decide) ?_
      exact W.iret (v := (-2)) hx hb hr (fun t ht hW => ⟨⟨(-2), (), rfl, ⟨(gi_any (-2)), hF.trans hR9.symm⟩, trivial⟩, hS.F ht⟩) hS.2.2 (dk_at dkX11_place 26 rfl)
    · rcases (show j_14 = 0 ∨ j_14 = 1 ∨ j_14 = 2 by omega) with rfl | rfl | rfl
      · refine lv_tableIn (off := 28) (tgt := 40) hx hb (dk_at dkX11_place 7 rfl) (by rw [ej_14]; decide +kernel) (by rw [ej_14]; decide +kernel) (by rw [ej_14]; decide +kernel) (by decide) ?_
        have hF := gf_pos (by rw [ej_14]; rfl) hF
        refine lv_aload_n hx hb (dk_at dkX11_place 8 rfl) rfl (lv_at hl 0 rfl) ?_
        refine va_get (D := (dC, dI)) (ci := 11) (v := .ref am) (C := RX11) (T := TX11) (N := 16) hx hb hts (fun w h => List.mem_cons_of_mem _ (jnGA_X11 w h)) hown hK hP 0 rfl rfl 1 (by decide) (hts _ (List.mem_cons_of_mem _ mGA_14)) (fun _ h9 => h9) rfl (dk_at dkX11_place 9 rfl) ?_
        refine va_get (D := (dC, dI)) (ci := 0) (v := .ref pl) (C := RX0) (T := TX0) (N := 13) hx hb hts (fun w h => List.mem_cons_of_mem _ (jnGA_X0 w h)) hown hK hP 1 rfl rfl 10 (by decide) (hts _ (List.mem_cons_of_mem _ mGA_364)) (fun _ h9 => h9) rfl (dk_at dkX11_place 10 rfl) ?_
        refine lv_iload_n hx hb (dk_at dkX11_place 11 rfl) rfl (lv_at hl 1 rfl) ?_
        refine va_aldq hx hb hK hP 2 0 rfl rfl (gi_in g_13 (by decide)) (dk_at dkX11_place 12 rfl) ?_
        refine W.eq (g2 := F0 m 49 ls [.ref (pa p1.toNatClampNeg)]) rfl ?_
        refine va_get (D := (dC, dI)) (ci := 5) (v := .int (p_trust p1.toNatClampNeg)) (C := RX5) (T := TX5) (N := 2) hx hb hts (fun w h => List.mem_cons_of_mem _ (jnGA_X5 w h)) hown hK (gz_ro hF0 hFA0 hS) (p1.toNatClampNeg) (gz_fam_at (gz_clt (gi_in (n := 6) g_13 (by decide)))) rfl 1 (by decide) (hts _ (List.mem_cons_of_mem _ mGA_365)) (fun _ h9 => h9) rfl (dk_at dkX11_place 13 rfl) ?_
        refine lv_topi (fun x_15 ex_15 => ?_)
        exact W.iret (v := x_15) hx hb hr (fun t ht hW => ⟨⟨x_15, (), rfl, ⟨(gi_any x_15), by rw [ex_15]; exact hF.trans hR9.symm⟩, trivial⟩, hS.F ht⟩) hS.2.2 (dk_at dkX11_place 14 rfl)
      · refine lv_tableIn (off := 41) (tgt := 53) hx hb (dk_at dkX11_place 7 rfl) (by rw [ej_14]; decide +kernel) (by rw [ej_14]; decide +kernel) (by rw [ej_14]; decide +kernel) (by decide) ?_
        have hF := gf_neg (by rw [ej_14]; decide) hF
        have hF := gf_pos (by rw [ej_14]; rfl) hF
        refine lv_aload_n hx hb (dk_at dkX11_place 15 rfl) rfl (lv_at hl 0 rfl) ?_
        refine va_get (D := (dC, dI)) (ci := 11) (v := .ref am) (C := RX11) (T := TX11) (N := 16) hx hb hts (fun w h => List.mem_cons_of_mem _ (jnGA_X11 w h)) hown hK hP 0 rfl rfl 1 (by decide) (hts _ (List.mem_cons_of_mem _ mGA_14)) (fun _ h9 => h9) rfl (dk_at dkX11_place 16 rfl) ?_
        refine lv_iload_n hx hb (dk_at dkX11_place 17 rfl) rfl (lv_at hl 1 rfl) ?_
        have hPc := hP.sub (ws' := [(am, .inr (0, [.int amonths, .int afull, .int alean, .int alines, .int ahasMoon, .int amoonStart, .int amoonStep, .int aplaceCount, .int areportCount, .int adeedCount, .ref pl, .ref re, .ref de])), (pl, .inl (kpl, 6, .inr (.inr (.inr (.inr (fun i => some (pa i)))))))]) [1, 2] rfl
        have hKc := hK.sub (tys' := [(kpl, .object RX5)]) [0] rfl
        refine va_calli (va_runV (As := [.int p1]) (rest := []) ⟨hx, hb, hml, hown, hts⟩ (sX0_namesAhead l dC dI am pl amonths afull alean alines ahasMoon amoonStart amoonStep aplaceCount areportCount adeedCount re de kpl pa p_name p_trust p1 gamonths gafull galean gahasMoon gaplaceCount gareportCount gadeedCount g_13) (cwV 1 hts (gz_gV mGA_370 mGA_371 mGA_372 mGA_13 mGA_373 goodGA) rfl rfl rfl (by decide +kernel) ⟨Nat.le_of_ble_eq_true rfl, Nat.le_of_ble_eq_true rfl⟩) ⟨bl_I (bl_a bl_P (bl_a bl_K (bl_a bl_nz bl_P))), va_recv hKc hPc (ci := 0) (q0 := 0) rfl rfl, fun U hU hW => ⟨rfl, by rw [hU]; exact hPc, va_K.moved hW.alike hKc, nzA_warm hW hz, by rw [hU]; exact gz_ro hF0 hFA0 hS⟩⟩ rfl rfl hl.1 rfl (lv_room (Nat.le_of_ble_eq_true rfl)) (dk_at dkX11_place 18 rfl) ⟨Nat.zero_le _, Nat.zero_le _⟩) hS (fun q _ h => h.elim) (fun q h => h.elim) (fun r_16 u t H1 locs ht hvm hw hB hz1 hk1 hS => ?_)
        obtain ⟨hw, hE⟩ := hw
        have hP := gz_keep hP hk1
        have hF := gf_call (a := r_16) hE hF
        generalize H1 = H at hP hS ⊢
        exact W.iret (v := r_16) hx hb hr (fun t ht hW => ⟨⟨r_16, (), rfl, ⟨(gi_any r_16), hF.trans hR9.symm⟩, trivial⟩, hS.F ht⟩) hS.2.2 (dk_at dkX11_place 19 rfl)
      · refine lv_tableIn (off := 50) (tgt := 62) hx hb (dk_at dkX11_place 7 rfl) (by rw [ej_14]; decide +kernel) (by rw [ej_14]; decide +kernel) (by rw [ej_14]; decide +kernel) (by decide) ?_
        have hF := gf_neg (by rw [ej_14]; decide) hF
        have hF := gf_neg (by rw [ej_14]; decide) hF
        have hF := gf_pos (by rw [ej_14]; rfl) hF
        refine lv_aload_n hx hb (dk_at dkX11_place 20 rfl) rfl (lv_at hl 0 rfl) ?_
        refine va_get (D := (dC, dI)) (ci := 11) (v := .ref am) (C := RX11) (T := TX11) (N := 16) hx hb hts (fun w h => List.mem_cons_of_mem _ (jnGA_X11 w h)) hown hK hP 0 rfl rfl 1 (by decide) (hts _ (List.mem_cons_of_mem _ mGA_14)) (fun _ h9 => h9) rfl (dk_at dkX11_place 21 rfl) ?_
        refine lv_iload_n hx hb (dk_at dkX11_place 22 rfl) rfl (lv_at hl 1 rfl) ?_
        have hPc := hP.sub (ws' := [(am, .inr (0, [.int amonths, .int afull, .int alean, .int alines, .int ahasMoon, .int amoonStart, .int amoonStep, .int aplaceCount, .int areportCount, .int adeedCount, .ref pl, .ref re, .ref de])), (re, .inl (kre, 24, .inr (.inr (.inr (.inr (fun i => some (ra i)))))))]) [1, 3] rfl
        have hKc := hK.sub (tys' := [(kre, .object RX7)]) [1] rfl
        refine va_calli (va_runV (As := [.int p1]) (rest := []) ⟨hx, hb, hml, hown, hts⟩ (sX0_standingOf l dC dI am re amonths afull alean alines ahasMoon amoonStart amoonStep aplaceCount areportCount adeedCount pl de kre ra r_place r_kind r_month r_day r_known r_struck p1 gamonths gafull galean gahasMoon gaplaceCount gareportCount gadeedCount gr_place gr_month gr_struck) (cwV 1 hts (gz_gV mGA_374 mGA_375 mGA_376 mGA_13 mGA_377 goodGA) rfl rfl rfl (by decide +kernel) ⟨Nat.le_of_ble_eq_true rfl, Nat.le_of_ble_eq_true rfl⟩) ⟨bl_I (bl_a bl_P (bl_a bl_K (bl_a bl_nz bl_P))), va_recv hKc hPc (ci := 0) (q0 := 0) rfl rfl, fun U hU hW => ⟨rfl, by rw [hU]; exact hPc, va_K.moved hW.alike hKc, nzA_warm hW hz, by rw [hU]; exact gz_ro hF1 hFA1 hS⟩⟩ rfl rfl hl.1 rfl (lv_room (Nat.le_of_ble_eq_true rfl)) (dk_at dkX11_place 23 rfl) ⟨Nat.zero_le _, Nat.zero_le _⟩) hS (fun q _ h => h.elim) (fun q h => h.elim) (fun r_17 u t H1 locs ht hvm hw hB hz1 hk1 hS => ?_)
        obtain ⟨hw, hE⟩ := hw
        have hP := gz_keep hP hk1
        have hF := gf_call (a := r_17) hE hF
        generalize H1 = H at hP hS ⊢
        exact W.iret (v := r_17) hx hb hr (fun t ht hW => ⟨⟨r_17, (), rfl, ⟨(gi_any r_17), hF.trans hR9.symm⟩, trivial⟩, hS.F ht⟩) hS.2.2 (dk_at dkX11_place 24 rfl)
  · have hF := gf_pos c_11 hF
    have g_18 : gi r_10 0 0 := gi_eq c_11 (gi_c 0 0 (by decide))
    refine lv_bipush (v := (-2)) hx hb (dk_at dkX11_place 4 rfl) (by decide) ?_
    exact W.iret (v := (-2)) hx hb hr (fun t ht hW => ⟨⟨(-2), (), rfl, ⟨(gi_any (-2)), hF.trans hR9.symm⟩, trivial⟩, hS.F ht⟩) hS.2.2 (dk_at dkX11_place 5 rfl)
noncomputable def lsX11_early : List (Nat × Instr × Nat) := [(0, .aload_n 0, 1), (1, .getfield 19, 3), (4, .getfield 206, 3), (7, .ifCond .eq 19, 3), (10, .aload_n 0, 1), (11, .iload_n 1, 1), (12, .iconst 1, 1), (13, .aload_n 0, 1), (14, .getfield 19, 3), (17, .getfield 120, 3), (20, .invokevirtual 209, 3), (23, .ifCond .ne 6, 3), (26, .bipush (-2), 2), (28, .ireturn, 1), (29, .aload_n 0, 1), (30, .getfield 19, 3), (33, .iload_n 1, 1), (34, .invokevirtual 213, 3), (37, .ireturn, 1)]
theorem dkX11_early : dkAll cX11_early lsX11_early = true := by decide +kernel
noncomputable def bfX11_early_26 (amonths : Int32) (ahasMoon : Int32) (amoonStart : Int32) (amoonStep : Int32) (p1 : Int32) : Int32 := (-2 : Int32)
noncomputable def fX11_early (amonths : Int32) (ahasMoon : Int32) (amoonStart : Int32) (amoonStep : Int32) (p1 : Int32) : Int32 := if ahasMoon = (0 : Int32) then (bfX11_early_26 amonths ahasMoon amoonStart amoonStep p1) else (cal (fun o1 => if o1 = (0 : Int32) then (bfX11_early_26 amonths ahasMoon amoonStart amoonStep p1) else (cal (fun o2 => o2) (fX0_earlyOf amoonStart amoonStep p1))) (fX11_hasMonth amonths p1 (1 : Int32) amonths))
set_option maxHeartbeats 4000000 in
set_option maxRecDepth 100000 in
theorem sX11_early (l : Launch) (dC : Nat → ClassId) (dI : Nat → Nat → Nat) (h0 : Nat) (am : Nat) (xr : Nat) (xs : Nat) (xf : Nat) (co : Nat) (oc : Nat) (ta : Nat) (xq : Nat) (xh : Nat) (xk : Nat) (xo : Nat) (x_outLength : Int32) (x_courtStands : Int32) (x_courtNews : Int32) (x_tallyStands : Int32) (x_historyStands : Int32) (amonths : Int32) (afull : Int32) (alean : Int32) (alines : Int32) (ahasMoon : Int32) (amoonStart : Int32) (amoonStep : Int32) (aplaceCount : Int32) (areportCount : Int32) (adeedCount : Int32) (pl : Nat) (re : Nat) (de : Nat) (p1 : Int32) (gx_outLength : gi x_outLength 0 72) (gx_courtStands : gi x_courtStands 0 1) (gx_tallyStands : gi x_tallyStands 0 1) (gx_historyStands : gi x_historyStands 0 1) (gamonths : gi amonths 0 24) (gafull : gi afull 0 5) (galean : gi alean 0 5) (gahasMoon : gi ahasMoon 0 1) (gaplaceCount : gi aplaceCount 0 6) (gareportCount : gi areportCount 0 24) (gadeedCount : gi adeedCount 0 8) : Met l yX11_early (.code yX11_early cX11_early 2 (some .int) :: wsGA) ({ frames := 2, cells := 0, slots := 0, locals := 43 }) (va_Pc [.ref h0, .int p1] (fun U => va_P (dC, dI) vwCl [(h0, .inr (11, [.ref xr, .ref am, .ref xs, .ref xf, .ref co, .ref oc, .ref ta, .ref xq, .ref xh, .ref xk, .ref xo, .int x_outLength, .int x_courtStands, .int x_courtNews, .int x_tallyStands, .int x_historyStands])), (am, .inr (0, [.int amonths, .int afull, .int alean, .int alines, .int ahasMoon, .int amoonStart, .int amoonStep, .int aplaceCount, .int areportCount, .int adeedCount, .ref pl, .ref re, .ref de]))] U.heap ∧ va_K (dC, dI) vwCl [] U ∧ nzA U)) (va_Qi (fun (r : Int32) (u : Unit) => (gi r (-2147483648) 2147483647) ∧ r = fX11_early amonths ahasMoon amoonStart amoonStep p1) (fun _ _ => True) (fun _ => False)) 0 0 (fun _ => False) := by
  refine Met.ofW (cc := cX11_early) (maxL := 2) (ret := (some .int)) (by decide) rfl ?_
  intro p e s m args below meth c s₁ B hml hv
  obtain ⟨rfl, hP, hK, hz⟩ := hv
  have hx := B.exec
  have hb := B.bytes
  have hr := B.returns
  have hts := atoms_spec (ws := (.code yX11_early cX11_early 2 (some .int) :: wsGA)) B.pre
  have hown : s.vm.findClass RX11 = some m.cls := findClass_of_methodNamed B.named
  have hlocks := B.notSynchronized
  have hS : va_S (fun _ => False) s.heap s.heap [] := va_S.rf
  have hl := lv_entry ([.ref h0, .int p1]) (n := 2) (Nat.le_of_ble_eq_true rfl)
  rw [lg_entry_eq]
  generalize (lg_sl ([.ref h0, .int p1]) ++ List.replicate (2 - (lg_sl ([.ref h0, .int p1])).length) Slot.unset).toArray = ls at hl ⊢
  have hl : lv_has ls 2 [(0, .ref h0), (1, .int p1)] := hl
  obtain ⟨RES, hF⟩ : ∃ R9, fX11_early amonths ahasMoon amoonStart amoonStep p1 = R9 := ⟨_, rfl⟩
  have hR9 := hF
  refine lv_aload_n hx hb (dk_at dkX11_early 0 rfl) rfl (lv_at hl 0 rfl) ?_
  refine va_get (D := (dC, dI)) (ci := 11) (v := .ref am) (C := RX11) (T := TX11) (N := 16) hx hb hts (fun w h => List.mem_cons_of_mem _ (jnGA_X11 w h)) hown hK hP 0 rfl rfl 1 (by decide) (hts _ (List.mem_cons_of_mem _ mGA_14)) (fun _ h9 => h9) rfl (dk_at dkX11_early 1 rfl) ?_
  refine va_get (D := (dC, dI)) (ci := 0) (v := .int ahasMoon) (C := RX0) (T := TX0) (N := 13) hx hb hts (fun w h => List.mem_cons_of_mem _ (jnGA_X0 w h)) hown hK hP 1 rfl rfl 4 (by decide) (hts _ (List.mem_cons_of_mem _ mGA_407)) (fun _ h9 => h9) rfl (dk_at dkX11_early 2 rfl) ?_
  refine lv_if_eq (tgt := 26) hx hb (dk_at dkX11_early 3 rfl) (by decide) (fun c_10 => ?_) (fun c_10 => ?_)
  · have hF := gf_pos c_10 hF
    have g_11 : gi ahasMoon 0 0 := gi_eq c_10 (gi_c 0 0 (by decide))
    refine lv_bipush (v := (-2)) hx hb (dk_at dkX11_early 12 rfl) (by decide) ?_
    exact W.iret (v := (-2)) hx hb hr (fun t ht hW => ⟨⟨(-2), (), rfl, ⟨(gi_any (-2)), hF.trans hR9.symm⟩, trivial⟩, hS.F ht⟩) hS.2.2 (dk_at dkX11_early 13 rfl)
  · have hF := gf_neg c_10 hF
    have g_12 : gi ahasMoon 1 1 := gi_ne_lo c_10 gahasMoon (gi_c 0 0 (by decide)) (by decide)
    refine lv_aload_n hx hb (dk_at dkX11_early 4 rfl) rfl (lv_at hl 0 rfl) ?_
    refine lv_iload_n hx hb (dk_at dkX11_early 5 rfl) rfl (lv_at hl 1 rfl) ?_
    refine lv_iconst (v := 1) hx hb (dk_at dkX11_early 6 rfl) (by decide) ?_
    refine lv_aload_n hx hb (dk_at dkX11_early 7 rfl) rfl (lv_at hl 0 rfl) ?_
    refine va_get (D := (dC, dI)) (ci := 11) (v := .ref am) (C := RX11) (T := TX11) (N := 16) hx hb hts (fun w h => List.mem_cons_of_mem _ (jnGA_X11 w h)) hown hK hP 0 rfl rfl 1 (by decide) (hts _ (List.mem_cons_of_mem _ mGA_14)) (fun _ h9 => h9) rfl (dk_at dkX11_early 8 rfl) ?_
    refine va_get (D := (dC, dI)) (ci := 0) (v := .int amonths) (C := RX0) (T := TX0) (N := 13) hx hb hts (fun w h => List.mem_cons_of_mem _ (jnGA_X0 w h)) hown hK hP 1 rfl rfl 0 (by decide) (hts _ (List.mem_cons_of_mem _ mGA_353)) (fun _ h9 => h9) rfl (dk_at dkX11_early 9 rfl) ?_
    have hPc := hP.sub (ws' := [(h0, .inr (11, [.ref xr, .ref am, .ref xs, .ref xf, .ref co, .ref oc, .ref ta, .ref xq, .ref xh, .ref xk, .ref xo, .int x_outLength, .int x_courtStands, .int x_courtNews, .int x_tallyStands, .int x_historyStands])), (am, .inr (0, [.int amonths, .int afull, .int alean, .int alines, .int ahasMoon, .int amoonStart, .int amoonStep, .int aplaceCount, .int areportCount, .int adeedCount, .ref pl, .ref re, .ref de]))]) [0, 1] rfl
    have hKc := hK.sub (tys' := []) [] rfl
    refine va_calli (va_runV (As := [.int p1, .int 1, .int amonths]) (rest := []) ⟨hx, hb, hml, hown, hts⟩ (sX11_hasMonthB l dC dI h0 am xr xs xf co oc ta xq xh xk xo x_outLength x_courtStands x_courtNews x_tallyStands x_historyStands amonths afull alean alines ahasMoon amoonStart amoonStep aplaceCount areportCount adeedCount pl re de p1 1 amonths gx_outLength gx_courtStands gx_tallyStands gx_historyStands gamonths gafull galean (gi_w g_12 (by decide)) gaplaceCount gareportCount gadeedCount (gi_w (gi_c 1 1 (by decide)) (by decide)) gamonths) (cwV 3 hts (gz_gV mGA_408 mGA_409 mGA_410 mGA_1 mGA_411 goodGA) rfl rfl rfl (by decide +kernel) ⟨Nat.le_of_ble_eq_true rfl, Nat.le_of_ble_eq_true rfl⟩) ⟨bl_I (bl_a bl_P (bl_a bl_K bl_nz)), va_recv hKc hPc (ci := 11) (q0 := 0) rfl rfl, fun U hU hW => ⟨rfl, by rw [hU]; exact hPc, va_K.moved hW.alike hKc, nzA_warm hW hz⟩⟩ rfl rfl hl.1 rfl (lv_room (Nat.le_of_ble_eq_true rfl)) (dk_at dkX11_early 10 rfl) ⟨Nat.zero_le _, Nat.zero_le _⟩) hS (fun q _ h => h.elim) (fun q h => h.elim) (fun r_13 u t H1 locs ht hvm hw hB hz1 hk1 hS => ?_)
    obtain ⟨hw, hE⟩ := hw
    have hP := gz_keep hP hk1
    have hF := gf_call (a := r_13) hE hF
    generalize H1 = H at hP hS ⊢
    have gr_13 : gi r_13 0 1 := hw.1
    have hqr_13 := hw.2
    refine lv_if_ne (tgt := 29) hx hb (dk_at dkX11_early 11 rfl) (by decide) (fun c_14 => ?_) (fun c_14 => ?_)
    · have hF := gf_neg c_14 hF
      have g_15 : gi r_13 1 1 := gi_ne_lo c_14 gr_13 (gi_c 0 0 (by decide)) (by decide)
      have g_16 : gi p1 0 24 := gi_cap (gi_any p1) (hqr_13 (gz_one g_15)) (by decide)
      refine lv_aload_n hx hb (dk_at dkX11_early 14 rfl) rfl (lv_at hl 0 rfl) ?_
      refine va_get (D := (dC, dI)) (ci := 11) (v := .ref am) (C := RX11) (T := TX11) (N := 16) hx hb hts (fun w h => List.mem_cons_of_mem _ (jnGA_X11 w h)) hown hK hP 0 rfl rfl 1 (by decide) (hts _ (List.mem_cons_of_mem _ mGA_14)) (fun _ h9 => h9) rfl (dk_at dkX11_early 15 rfl) ?_
      refine lv_iload_n hx hb (dk_at dkX11_early 16 rfl) rfl (lv_at hl 1 rfl) ?_
      have hPc := hP.sub (ws' := [(am, .inr (0, [.int amonths, .int afull, .int alean, .int alines, .int ahasMoon, .int amoonStart, .int amoonStep, .int aplaceCount, .int areportCount, .int adeedCount, .ref pl, .ref re, .ref de]))]) [1] rfl
      have hKc := hK.sub (tys' := []) [] rfl
      refine va_calli (va_runV (As := [.int p1]) (rest := []) ⟨hx, hb, hml, hown, hts⟩ (sX0_earlyOf l dC dI am amonths afull alean alines ahasMoon amoonStart amoonStep aplaceCount areportCount adeedCount pl re de p1 gamonths gafull galean (gi_w g_12 (by decide)) gaplaceCount gareportCount gadeedCount) (cwV 1 hts (gz_gV mGA_416 mGA_417 mGA_418 mGA_13 mGA_419 goodGA) rfl rfl rfl (by decide +kernel) ⟨Nat.le_of_ble_eq_true rfl, Nat.le_of_ble_eq_true rfl⟩) ⟨bl_I (bl_a bl_P (bl_a bl_K bl_nz)), va_recv hKc hPc (ci := 0) (q0 := 0) rfl rfl, fun U hU hW => ⟨rfl, by rw [hU]; exact hPc, va_K.moved hW.alike hKc, nzA_warm hW hz⟩⟩ rfl rfl hl.1 rfl (lv_room (Nat.le_of_ble_eq_true rfl)) (dk_at dkX11_early 17 rfl) ⟨Nat.zero_le _, Nat.zero_le _⟩) hS (fun q _ h => h.elim) (fun q h => h.elim) (fun r_17 u t H1 locs ht hvm hw hB hz1 hk1 hS => ?_)
      obtain ⟨hw, hE⟩ := hw
      have hP := gz_keep hP hk1
      have hF := gf_call (a := r_17) hE hF
      generalize H1 = H at hP hS ⊢
      exact W.iret (v := r_17) hx hb hr (fun t ht hW => ⟨⟨r_17, (), rfl, ⟨(gi_any r_17), hF.trans hR9.symm⟩, trivial⟩, hS.F ht⟩) hS.2.2 (dk_at dkX11_early 18 rfl)
    · have hF := gf_pos c_14 hF
      have g_18 : gi r_13 0 0 := gi_eq c_14 (gi_c 0 0 (by decide))
      refine lv_bipush (v := (-2)) hx hb (dk_at dkX11_early 12 rfl) (by decide) ?_
      exact W.iret (v := (-2)) hx hb hr (fun t ht hW => ⟨⟨(-2), (), rfl, ⟨(gi_any (-2)), hF.trans hR9.symm⟩, trivial⟩, hS.F ht⟩) hS.2.2 (dk_at dkX11_early 13 rfl)
