noncomputable def lsX6_passName : List (Nat × Instr × Nat) := [(0, .aload_n 0, 1), (1, .aload_n 0, 1), (2, .getfield 32, 3), (5, .iconst 2, 1), (6, .if_icmp .ne 7, 3), (9, .iconst 1, 1), (10, .goto 4, 3), (13, .iconst 0, 1), (14, .iconst 1, 1), (15, .invokevirtual 166, 3), (18, .aload_n 0, 1), (19, .aload_n 0, 1), (20, .getfield 38, 3), (23, .aload_n 0, 1), (24, .getfield 35, 3), (27, .isub, 1), (28, .bipush 6, 2), (30, .if_icmp .gt 7, 3), (33, .iconst 1, 1), (34, .goto 4, 3), (37, .iconst 0, 1), (38, .iconst 2, 1), (39, .invokevirtual 166, 3), (42, .aload_n 0, 1), (43, .invokevirtual 178, 3), (46, .istore_n 2, 1), (47, .aload_n 0, 1), (48, .aload_n 0, 1), (49, .getfield 21, 3), (52, .iload_n 2, 1), (53, .invokevirtual 148, 3), (56, .iconst (-1), 1), (57, .if_icmp .eq 7, 3), (60, .iconst 1, 1), (61, .goto 4, 3), (64, .iconst 0, 1), (65, .iload_n 1, 1), (66, .if_icmp .ne 7, 3), (69, .iconst 1, 1), (70, .goto 4, 3), (73, .iconst 0, 1), (74, .iconst 2, 1), (75, .invokevirtual 166, 3), (78, .aload_n 0, 1), (79, .invokevirtual 44, 3), (82, .iload_n 2, 1), (83, .ireturn, 1)]
theorem dkX6_passName : dkAll cX6_passName lsX6_passName = true := by decide +kernel
noncomputable def bfX6_passName_74 (q_faultKind : Int32) (q_faultPlace : Int32) (q_token : Int32) (q_start : Int32) (q_stop : Int32) (b_length : Int32) (fbt : Nat → Int32) (e_placeCount : Int32) (ep_name : Nat → Int32) (p1 : Int32) (v2 : Int32) (s0 : Int32) (w0_2 : Int32) (w0_3 : Int32) (w0_4 : Int32) (w0_5 : Int32) (w0_6 : Int32) : Int32 × Int32 × Int32 × Int32 × Int32 × Int32 := cal (fun o5 => cal (fun o6 => (v2, o5.1, o5.2, o6.1, o6.2.1, o6.2.2)) (fX6_step o5.1 w0_4 w0_5 w0_6 b_length fbt)) (fX6_expect w0_2 w0_3 w0_5 s0 (2 : Int32))
noncomputable def bfX6_passName_65 (q_faultKind : Int32) (q_faultPlace : Int32) (q_token : Int32) (q_start : Int32) (q_stop : Int32) (b_length : Int32) (fbt : Nat → Int32) (e_placeCount : Int32) (ep_name : Nat → Int32) (p1 : Int32) (v2 : Int32) (s0 : Int32) (w0_2 : Int32) (w0_3 : Int32) (w0_4 : Int32) (w0_5 : Int32) (w0_6 : Int32) : Int32 × Int32 × Int32 × Int32 × Int32 × Int32 := if s0 = p1 then (bfX6_passName_74 q_faultKind q_faultPlace q_token q_start q_stop b_length fbt e_placeCount ep_name p1 v2 (1 : Int32) w0_2 w0_3 w0_4 w0_5 w0_6) else (bfX6_passName_74 q_faultKind q_faultPlace q_token q_start q_stop b_length fbt e_placeCount ep_name p1 v2 (0 : Int32) w0_2 w0_3 w0_4 w0_5 w0_6)
noncomputable def bfX6_passName_38 (q_faultKind : Int32) (q_faultPlace : Int32) (q_token : Int32) (q_start : Int32) (q_stop : Int32) (b_length : Int32) (fbt : Nat → Int32) (e_placeCount : Int32) (ep_name : Nat → Int32) (p1 : Int32) (s0 : Int32) (w0_2 : Int32) (w0_3 : Int32) (w0_4 : Int32) (w0_5 : Int32) (w0_6 : Int32) : Int32 × Int32 × Int32 × Int32 × Int32 × Int32 := cal (fun o2 => cal (fun o3 => cal (fun o4 => if o4 = (-1 : Int32) then (bfX6_passName_65 q_faultKind q_faultPlace q_token q_start q_stop b_length fbt e_placeCount ep_name p1 o3 (0 : Int32) o2.1 o2.2 w0_4 w0_5 w0_6) else (bfX6_passName_65 q_faultKind q_faultPlace q_token q_start q_stop b_length fbt e_placeCount ep_name p1 o3 (1 : Int32) o2.1 o2.2 w0_4 w0_5 w0_6)) (fX0_placeNamed e_placeCount ep_name o3)) (fX6_nameHere w0_5 w0_6 b_length fbt)) (fX6_expect w0_2 w0_3 w0_5 s0 (2 : Int32))
noncomputable def bfX6_passName_14 (q_faultKind : Int32) (q_faultPlace : Int32) (q_token : Int32) (q_start : Int32) (q_stop : Int32) (b_length : Int32) (fbt : Nat → Int32) (e_placeCount : Int32) (ep_name : Nat → Int32) (p1 : Int32) (s0 : Int32) (w0_2 : Int32) (w0_3 : Int32) (w0_4 : Int32) (w0_5 : Int32) (w0_6 : Int32) : Int32 × Int32 × Int32 × Int32 × Int32 × Int32 := cal (fun o1 => if (6 : Int32) < (w0_6 - w0_5) then (bfX6_passName_38 q_faultKind q_faultPlace q_token q_start q_stop b_length fbt e_placeCount ep_name p1 (0 : Int32) o1.1 o1.2 w0_4 w0_5 w0_6) else (bfX6_passName_38 q_faultKind q_faultPlace q_token q_start q_stop b_length fbt e_placeCount ep_name p1 (1 : Int32) o1.1 o1.2 w0_4 w0_5 w0_6)) (fX6_expect w0_2 w0_3 w0_5 s0 (1 : Int32))
noncomputable def fX6_passName (q_faultKind : Int32) (q_faultPlace : Int32) (q_token : Int32) (q_start : Int32) (q_stop : Int32) (b_length : Int32) (fbt : Nat → Int32) (e_placeCount : Int32) (ep_name : Nat → Int32) (p1 : Int32) : Int32 × Int32 × Int32 × Int32 × Int32 × Int32 := if q_token = (2 : Int32) then (bfX6_passName_14 q_faultKind q_faultPlace q_token q_start q_stop b_length fbt e_placeCount ep_name p1 (1 : Int32) q_faultKind q_faultPlace q_token q_start q_stop) else (bfX6_passName_14 q_faultKind q_faultPlace q_token q_start q_stop b_length fbt e_placeCount ep_name p1 (0 : Int32) q_faultKind q_faultPlace q_token q_start q_stop)
abbrev pb_sX6_passName (dC : Nat → ClassId) (dI : Nat → Nat → Nat) (A9 : Nat → Prop) (h0 : Nat) (tp : Nat) (bt : Nat) (dr : Nat) (dpl : Nat) (q_faultKind : Int32) (q_faultPlace : Int32) (q_token : Int32) (q_start : Int32) (q_stop : Int32) (b_length : Int32) (kbt : ClassId) (fbt : Nat → Int32) (e_months : Int32) (e_full : Int32) (e_lean : Int32) (e_lines : Int32) (e_hasMoon : Int32) (e_moonStart : Int32) (e_moonStep : Int32) (e_placeCount : Int32) (e_reportCount : Int32) (e_deedCount : Int32) (dre : Nat) (dde : Nat) (kdpl : ClassId) (dpa : Nat → Nat) (ep_name : Nat → Int32) (ep_trust : Nat → Int32) (p1 : Int32) (r : Int32) (w0_2 : Int32) (w0_3 : Int32) (w0_4 : Int32) (w0_5 : Int32) (w0_6 : Int32) (t : State) : Prop := gi w0_2 0 3 ∧ gi w0_5 0 1600 ∧ gi w0_6 0 1600 ∧ q_faultKind.toInt ≤ w0_2.toInt ∧ (w0_2.toInt ≠ 0 ∨ p1.toInt = 0 ∨ pnF ep_name e_placeCount r ≠ -1) ∧ (r, w0_2, w0_3, w0_4, w0_5, w0_6) = fX6_passName q_faultKind q_faultPlace q_token q_start q_stop b_length fbt e_placeCount ep_name p1 ∧ va_P (dC, dI) vwCl [(h0, .inr (6, [.ref tp, .ref dr, .int w0_2, .int w0_3, .int w0_4, .int w0_5, .int w0_6])), (tp, .inr (10, [.ref bt, .int b_length])), (bt, .inl (kbt, 1600, .inl fbt))] t.heap ∧ va_D A9 [(h0, .inr (6, [.ref tp, .ref dr, .int w0_2, .int w0_3, .int w0_4, .int w0_5, .int w0_6])), (tp, .inr (10, [.ref bt, .int b_length])), (bt, .inl (kbt, 1600, .inl fbt))]
set_option maxHeartbeats 4000000 in
set_option maxRecDepth 100000 in
theorem sX6_passName (l : Launch) (dC : Nat → ClassId) (dI : Nat → Nat → Nat) (sz : Nat) (h0 : Nat) (tp : Nat) (bt : Nat) (dr : Nat) (dpl : Nat) (q_faultKind : Int32) (q_faultPlace : Int32) (q_token : Int32) (q_start : Int32) (q_stop : Int32) (b_length : Int32) (kbt : ClassId) (fbt : Nat → Int32) (e_months : Int32) (e_full : Int32) (e_lean : Int32) (e_lines : Int32) (e_hasMoon : Int32) (e_moonStart : Int32) (e_moonStep : Int32) (e_placeCount : Int32) (e_reportCount : Int32) (e_deedCount : Int32) (dre : Nat) (dde : Nat) (kdpl : ClassId) (dpa : Nat → Nat) (ep_name : Nat → Int32) (ep_trust : Nat → Int32) (p1 : Int32) (gq_faultKind : gi q_faultKind 0 3) (gq_start : gi q_start 0 1600) (gq_stop : gi q_stop 0 1600) (gb_length : gi b_length 0 1600) (ge_months : gi e_months 0 24) (ge_full : gi e_full 0 5) (ge_lean : gi e_lean 0 5) (ge_hasMoon : gi e_hasMoon 0 1) (ge_placeCount : gi e_placeCount 0 6) (ge_reportCount : gi e_reportCount 0 24) (ge_deedCount : gi e_deedCount 0 8) (gp1 : gi p1 0 1) : Met l yX6_passName (.code yX6_passName cX6_passName 3 (some .int) :: wsGA) ({ frames := 2, cells := 0, slots := 0, locals := 44 }) (va_Pc [.ref h0, .int p1] (fun U => U.heap.size = sz ∧ va_P (dC, dI) vwCl [(h0, .inr (6, [.ref tp, .ref dr, .int q_faultKind, .int q_faultPlace, .int q_token, .int q_start, .int q_stop])), (tp, .inr (10, [.ref bt, .int b_length])), (bt, .inl (kbt, 1600, .inl fbt))] U.heap ∧ va_K (dC, dI) vwCl [(kbt, .byte), (kdpl, .object RX5)] U ∧ va_D (fun _ => True) [(h0, .inr (6, [.ref tp, .ref dr, .int q_faultKind, .int q_faultPlace, .int q_token, .int q_start, .int q_stop])), (tp, .inr (10, [.ref bt, .int b_length])), (bt, .inl (kbt, 1600, .inl fbt))] ∧ nzA U ∧ va_P (dC, dI) vwCl [(dr, .inr (0, [.int e_months, .int e_full, .int e_lean, .int e_lines, .int e_hasMoon, .int e_moonStart, .int e_moonStep, .int e_placeCount, .int e_reportCount, .int e_deedCount, .ref dpl, .ref dre, .ref dde])), (dpl, .inl (kdpl, 6, .inr (.inr (.inr (.inr (fun i => some (dpa i)))))))] U.heap ∧ gz_ap (va_A [(h0, .inr (6, [.ref tp, .ref dr, .int q_faultKind, .int q_faultPlace, .int q_token, .int q_start, .int q_stop])), (tp, .inr (10, [.ref bt, .int b_length])), (bt, .inl (kbt, 1600, .inl fbt))] sz) [(dr, .inr (0, [.int e_months, .int e_full, .int e_lean, .int e_lines, .int e_hasMoon, .int e_moonStart, .int e_moonStep, .int e_placeCount, .int e_reportCount, .int e_deedCount, .ref dpl, .ref dre, .ref dde])), (dpl, .inl (kdpl, 6, .inr (.inr (.inr (.inr (fun i => some (dpa i)))))))] ∧ va_P (dC, dI) vwCl (gz_fam 6 dpa 5 (fun i => [.int (ep_name i), .int (ep_trust i)])) U.heap ∧ gz_ap (va_A [(h0, .inr (6, [.ref tp, .ref dr, .int q_faultKind, .int q_faultPlace, .int q_token, .int q_start, .int q_stop])), (tp, .inr (10, [.ref bt, .int b_length])), (bt, .inl (kbt, 1600, .inl fbt))] sz) (gz_fam 6 dpa 5 (fun i => [.int (ep_name i), .int (ep_trust i)])))) (va_Qi (fun (r : Int32) (u : Int32) => r = u ∧ gi r (-2147483648) 2147483647) (fun r t => ∃ (w0_2 : Int32) (w0_3 : Int32) (w0_4 : Int32) (w0_5 : Int32) (w0_6 : Int32), pb_sX6_passName dC dI (va_A [(h0, .inr (6, [.ref tp, .ref dr, .int q_faultKind, .int q_faultPlace, .int q_token, .int q_start, .int q_stop])), (tp, .inr (10, [.ref bt, .int b_length])), (bt, .inl (kbt, 1600, .inl fbt))] sz) h0 tp bt dr dpl q_faultKind q_faultPlace q_token q_start q_stop b_length kbt fbt e_months e_full e_lean e_lines e_hasMoon e_moonStart e_moonStep e_placeCount e_reportCount e_deedCount dre dde kdpl dpa ep_name ep_trust p1 r w0_2 w0_3 w0_4 w0_5 w0_6 t) (va_A [(h0, .inr (6, [.ref tp, .ref dr, .int q_faultKind, .int q_faultPlace, .int q_token, .int q_start, .int q_stop])), (tp, .inr (10, [.ref bt, .int b_length])), (bt, .inl (kbt, 1600, .inl fbt))] sz)) 0 0 (va_A [(h0, .inr (6, [.ref tp, .ref dr, .int q_faultKind, .int q_faultPlace, .int q_token, .int q_start, .int q_stop])), (tp, .inr (10, [.ref bt, .int b_length])), (bt, .inl (kbt, 1600, .inl fbt))] sz) := by
  refine Met.ofW (cc := cX6_passName) (maxL := 3) (ret := (some .int)) (by decide) rfl ?_
  intro p e s m args below meth c s₁ B hml hv
  obtain ⟨rfl, hsz, hP, hK, hD0, hz, hR, hRA, hF0, hFA0⟩ := hv
  have hx := B.exec
  have hb := B.bytes
  have hr := B.returns
  have hts := atoms_spec (ws := (.code yX6_passName cX6_passName 3 (some .int) :: wsGA)) B.pre
  have hown : s.vm.findClass RX6 = some m.cls := findClass_of_methodNamed B.named
  have hlocks := B.notSynchronized
  subst hsz
  have hD := hD0.self (sz := s.heap.size)
  generalize hAe : va_A [(h0, .inr (6, [.ref tp, .ref dr, .int q_faultKind, .int q_faultPlace, .int q_token, .int q_start, .int q_stop])), (tp, .inr (10, [.ref bt, .int b_length])), (bt, .inl (kbt, 1600, .inl fbt))] s.heap.size = A at hD hRA hFA0 ⊢
  have hA : ∀ q : Nat, s.heap.size ≤ q → A q := fun q h => by rw [← hAe]; exact Or.inr h
  have hS : va_S A s.heap s.heap [] := va_S.rf
  have hl := lv_entry ([.ref h0, .int p1]) (n := 3) (Nat.le_of_ble_eq_true rfl)
  rw [lg_entry_eq]
  generalize (lg_sl ([.ref h0, .int p1]) ++ List.replicate (3 - (lg_sl ([.ref h0, .int p1])).length) Slot.unset).toArray = ls at hl ⊢
  have hl : lv_has ls 3 [(0, .ref h0), (1, .int p1)] := hl
  obtain ⟨RES, hF⟩ : ∃ R9, fX6_passName q_faultKind q_faultPlace q_token q_start q_stop b_length fbt e_placeCount ep_name p1 = R9 := ⟨_, rfl⟩
  have hR9 := hF
  refine lv_aload_n hx hb (dk_at dkX6_passName 0 rfl) rfl (lv_at hl 0 rfl) ?_
  refine lv_aload_n hx hb (dk_at dkX6_passName 1 rfl) rfl (lv_at hl 0 rfl) ?_
  refine va_get (D := (dC, dI)) (ci := 6) (v := .int q_token) (C := RX6) (T := TX6) (N := 7) hx hb hts (fun w h => List.mem_cons_of_mem _ (jnGA_X6 w h)) hown hK hP 0 rfl rfl 4 (by decide) (hts _ (List.mem_cons_of_mem _ mGA_57)) (fun _ h9 => h9) rfl (dk_at dkX6_passName 2 rfl) ?_
  refine lv_iconst (v := 2) hx hb (dk_at dkX6_passName 3 rfl) (by decide) ?_
  refine lv_icmp_ne (tgt := 13) hx hb (dk_at dkX6_passName 4 rfl) (by decide) (fun c_471 => ?_) (fun c_471 => ?_)
  · have hF := gf_neg c_471 hF
    have hc_472 : q_token.toInt ≠ 2 := fun h9 => c_471 (Int32.toInt_inj.mp (by rw [show (2 : Int32).toInt = 2 from by decide]; exact h9))
    refine lv_iconst (v := 0) hx hb (dk_at dkX6_passName 7 rfl) (by decide) ?_
    refine lv_iconst (v := 1) hx hb (dk_at dkX6_passName 8 rfl) (by decide) ?_
    obtain ⟨hPc, hDc, hFc⟩ := gz_cut (wc := [(h0, .inr (6, [.ref tp, .ref dr, .int q_faultKind, .int q_faultPlace, .int q_token, .int q_start, .int q_stop]))]) hP hD hS hA [0] (by decide) rfl
    have hKc := hK.sub (tys' := []) [] rfl
    refine va_callv (va_runV (As := [.int 0, .int 1]) (rest := []) ⟨hx, hb, hml, hown, hts⟩ (sX6_expect l dC dI s.heap.size h0 tp dr q_faultKind q_faultPlace q_token q_start q_stop 0 1 gq_faultKind gq_start gq_stop (gi_w (gi_c 0 0 (by decide)) (by decide)) (gi_w (gi_c 1 1 (by decide)) (by decide))) (cwV 2 hts (gz_gV mGA_250 mGA_251 mGA_252 mGA_9 mGA_253 goodGA) rfl rfl rfl (by decide +kernel) ⟨Nat.le_of_ble_eq_true rfl, Nat.le_of_ble_eq_true rfl⟩) ⟨bl_I (bl_a bl_sz (bl_a bl_P (bl_a bl_K (bl_a bl_c bl_nz)))), va_recv hKc hPc (ci := 6) (q0 := 0) rfl rfl, fun U hU hW => ⟨rfl, by rw [hU], by rw [hU]; exact hPc, va_K.moved hW.alike hKc, hDc.weaken (fun _ _ _ _ => trivial), nzA_warm hW hz⟩⟩ rfl rfl hl.1 rfl (lv_room (Nat.le_of_ble_eq_true rfl)) (dk_at dkX6_passName 9 rfl) ⟨Nat.zero_le _, Nat.zero_le _⟩) hS (fun q _ h => hFc q h) hFc (fun u t H1 locs ht hvm hw hB hz1 hk1 hS => ?_)
    clear hz1
    obtain ⟨y_474, y_475, hB⟩ := hB
    obtain ⟨gy_474, hpr0_r_473, hpr1_r_473, hE, hP1, hD1⟩ := hB
    rw [ht] at hP1
    obtain ⟨hP, hD⟩ := gz_back hP hD hk1 hFc hP1 hD1 [0] rfl rfl
    have hpr0_r_473 : Hid (q_faultKind.toInt ≤ y_474.toInt) := hpr0_r_473
    have hpr1_r_473 : Hid (((0 : Int) = 1 ∨ 1 ≤ y_474.toInt)) := by have h9 : ((0 : Int32).toInt = 1 ∨ 1 ≤ y_474.toInt) := hpr1_r_473; rw [show (0 : Int32).toInt = 0 from by decide] at h9; exact h9
    have hf_476 : 1 ≤ y_474.toInt := Hid.resL hpr1_r_473 (by omega)
    have g_477 : gi y_474 1 3 := ⟨by omega, gy_474.2⟩
    obtain ⟨hP, hD⟩ := gz_both (w := [(h0, .inr (6, [.ref tp, .ref dr, .int y_474, .int y_475, .int q_token, .int q_start, .int q_stop])), (tp, .inr (10, [.ref bt, .int b_length])), (bt, .inl (kbt, 1600, .inl fbt))]) hP hD
    have hF := gf_call (a := (y_474, y_475)) hE hF
    generalize H1 = H at hP hS ⊢
    refine lv_aload_n hx hb (dk_at dkX6_passName 10 rfl) rfl (lv_at hl 0 rfl) ?_
    refine lv_aload_n hx hb (dk_at dkX6_passName 11 rfl) rfl (lv_at hl 0 rfl) ?_
    refine va_get (D := (dC, dI)) (ci := 6) (v := .int q_stop) (C := RX6) (T := TX6) (N := 7) hx hb hts (fun w h => List.mem_cons_of_mem _ (jnGA_X6 w h)) hown hK hP 0 rfl rfl 6 (by decide) (hts _ (List.mem_cons_of_mem _ mGA_59)) (fun _ h9 => h9) rfl (dk_at dkX6_passName 12 rfl) ?_
    refine lv_aload_n hx hb (dk_at dkX6_passName 13 rfl) rfl (lv_at hl 0 rfl) ?_
    refine va_get (D := (dC, dI)) (ci := 6) (v := .int q_start) (C := RX6) (T := TX6) (N := 7) hx hb hts (fun w h => List.mem_cons_of_mem _ (jnGA_X6 w h)) hown hK hP 0 rfl rfl 5 (by decide) (hts _ (List.mem_cons_of_mem _ mGA_58)) (fun _ h9 => h9) rfl (dk_at dkX6_passName 14 rfl) ?_
    refine lv_isub hx hb (dk_at dkX6_passName 15 rfl) ?_
    refine lv_topi (fun x_478 ex_478 => ?_)
    have gx_478 : gi x_478 (-1600) 1600 := gi_sub ex_478 gq_stop gq_start (by decide)
    refine lv_bipush (v := 6) hx hb (dk_at dkX6_passName 16 rfl) (by decide) ?_
    refine lv_icmp_gt (tgt := 37) hx hb (dk_at dkX6_passName 17 rfl) (by decide) (fun c_479 => ?_) (fun c_479 => ?_)
    · have hF := gf_pos (by rw [ex_478] at c_479; exact c_479) hF
      have hc_480 : 6 < x_478.toInt := by have h9 := Int32.lt_iff_toInt_lt.mp c_479; rw [show (6 : Int32).toInt = 6 from by decide] at h9; exact h9
      have g_481 : gi x_478 7 1600 := gi_lt_r c_479 (gi_c 6 6 (by decide)) gx_478 (by decide)
      refine lv_iconst (v := 0) hx hb (dk_at dkX6_passName 20 rfl) (by decide) ?_
      refine lv_iconst (v := 2) hx hb (dk_at dkX6_passName 21 rfl) (by decide) ?_
      obtain ⟨hPc, hDc, hFc⟩ := gz_cut (wc := [(h0, .inr (6, [.ref tp, .ref dr, .int y_474, .int y_475, .int q_token, .int q_start, .int q_stop]))]) hP hD hS hA [0] (by decide) rfl
      have hKc := hK.sub (tys' := []) [] rfl
      refine va_callv (va_runV (As := [.int 0, .int 2]) (rest := []) ⟨hx, hb, hml, hown, hts⟩ (sX6_expect l dC dI H.size h0 tp dr y_474 y_475 q_token q_start q_stop 0 2 (gi_w g_477 (by decide)) gq_start gq_stop (gi_w (gi_c 0 0 (by decide)) (by decide)) (gi_w (gi_c 2 2 (by decide)) (by decide))) (cwV 2 hts (gz_gV mGA_250 mGA_251 mGA_252 mGA_9 mGA_253 goodGA) rfl rfl rfl (by decide +kernel) ⟨Nat.le_of_ble_eq_true rfl, Nat.le_of_ble_eq_true rfl⟩) ⟨bl_I (bl_a bl_sz (bl_a bl_P (bl_a bl_K (bl_a bl_c bl_nz)))), va_recv hKc hPc (ci := 6) (q0 := 0) rfl rfl, fun U hU hW => ⟨rfl, by rw [hU], by rw [hU]; exact hPc, va_K.moved hW.alike hKc, hDc.weaken (fun _ _ _ _ => trivial), nzA_warm hW hz⟩⟩ rfl rfl hl.1 rfl (lv_room (Nat.le_of_ble_eq_true rfl)) (dk_at dkX6_passName 22 rfl) ⟨Nat.zero_le _, Nat.zero_le _⟩) hS (fun q _ h => hFc q h) hFc (fun u t H1 locs ht hvm hw hB hz1 hk1 hS => ?_)
      clear hz1
      obtain ⟨y_483, y_484, hB⟩ := hB
      obtain ⟨gy_483, hpr0_r_482, hpr1_r_482, hE, hP1, hD1⟩ := hB
      rw [ht] at hP1
      obtain ⟨hP, hD⟩ := gz_back hP hD hk1 hFc hP1 hD1 [0] rfl rfl
      have hpr0_r_482 : Hid (y_474.toInt ≤ y_483.toInt) := hpr0_r_482
      have g_485 : gi y_483 1 3 := gi_relL (Hid.un hpr0_r_482) g_477 gy_483
      have hpr1_r_482 : Hid (((0 : Int) = 1 ∨ 1 ≤ y_483.toInt)) := by have h9 : ((0 : Int32).toInt = 1 ∨ 1 ≤ y_483.toInt) := hpr1_r_482; rw [show (0 : Int32).toInt = 0 from by decide] at h9; exact h9
      have hf_486 : 1 ≤ y_483.toInt := Hid.resL hpr1_r_482 (by omega)
      obtain ⟨hP, hD⟩ := gz_both (w := [(h0, .inr (6, [.ref tp, .ref dr, .int y_483, .int y_484, .int q_token, .int q_start, .int q_stop])), (tp, .inr (10, [.ref bt, .int b_length])), (bt, .inl (kbt, 1600, .inl fbt))]) hP hD
      have hF := gf_call (a := (y_483, y_484)) hE hF
      generalize H1 = H at hP hS ⊢
      refine lv_aload_n hx hb (dk_at dkX6_passName 23 rfl) rfl (lv_at hl 0 rfl) ?_
      have hPc := hP.sub (ws' := [(h0, .inr (6, [.ref tp, .ref dr, .int y_483, .int y_484, .int q_token, .int q_start, .int q_stop])), (tp, .inr (10, [.ref bt, .int b_length])), (bt, .inl (kbt, 1600, .inl fbt))]) [0, 1, 2] rfl
      have hKc := hK.sub (tys' := [(kbt, .byte)]) [0] rfl
      refine va_calli (va_runV (As := []) (rest := []) ⟨hx, hb, hml, hown, hts⟩ (sX6_nameHere l dC dI h0 tp bt dr y_483 y_484 q_token q_start q_stop b_length kbt fbt (gi_w g_485 (by decide)) gq_start gq_stop gb_length) (cwV 0 hts (gz_gV mGA_294 mGA_295 mGA_296 mGA_9 mGA_297 goodGA) rfl rfl rfl (by decide +kernel) ⟨Nat.le_of_ble_eq_true rfl, Nat.le_of_ble_eq_true rfl⟩) ⟨bl_I (bl_a bl_P (bl_a bl_K bl_nz)), va_recv hKc hPc (ci := 6) (q0 := 0) rfl rfl, fun U hU hW => ⟨rfl, by rw [hU]; exact hPc, va_K.moved hW.alike hKc, nzA_warm hW hz⟩⟩ rfl rfl hl.1 rfl (lv_room (Nat.le_of_ble_eq_true rfl)) (dk_at dkX6_passName 24 rfl) ⟨Nat.zero_le _, Nat.zero_le _⟩) hS (fun q _ h => h.elim) (fun q h => h.elim) (fun r_487 u t H1 locs ht hvm hw hB hz1 hk1 hS => ?_)
      clear hz1
      obtain ⟨hw, hE⟩ := hw
      have hP := gz_keep hP hk1
      have hF := gf_call (a := r_487) hE hF
      generalize H1 = H at hP hS ⊢
      refine lv_istore_n (lv' := [(2, .int r_487), (0, .ref h0), (1, .int p1)]) hx hb (dk_at dkX6_passName 25 rfl) rfl hl (by decide) rfl (fun ls hl => ?_)
      refine lv_aload_n hx hb (dk_at dkX6_passName 26 rfl) rfl (lv_at hl 1 rfl) ?_
      refine lv_aload_n hx hb (dk_at dkX6_passName 27 rfl) rfl (lv_at hl 1 rfl) ?_
      refine va_get (D := (dC, dI)) (ci := 6) (v := .ref dr) (C := RX6) (T := TX6) (N := 7) hx hb hts (fun w h => List.mem_cons_of_mem _ (jnGA_X6 w h)) hown hK hP 0 rfl rfl 1 (by decide) (hts _ (List.mem_cons_of_mem _ mGA_54)) (fun _ h9 => h9) rfl (dk_at dkX6_passName 28 rfl) ?_
      refine lv_iload_n hx hb (dk_at dkX6_passName 29 rfl) rfl (lv_at hl 0 rfl) ?_
      have hPc : va_P (dC, dI) vwCl [(dr, .inr (0, [.int e_months, .int e_full, .int e_lean, .int e_lines, .int e_hasMoon, .int e_moonStart, .int e_moonStep, .int e_placeCount, .int e_reportCount, .int e_deedCount, .ref dpl, .ref dre, .ref dde])), (dpl, .inl (kdpl, 6, .inr (.inr (.inr (.inr (fun i => some (dpa i)))))))] H := (gz_cat ((gz_ro hR hRA hS).sub [0] rfl) ((gz_ro hR hRA hS).sub [1] rfl))
      have hKc := hK.sub (tys' := [(kdpl, .object RX5)]) [1] rfl
      refine va_calli (va_runV (As := [.int r_487]) (rest := [.ref h0]) ⟨hx, hb, hml, hown, hts⟩ (sX0_placeNamedF l dC dI dr dpl e_months e_full e_lean e_lines e_hasMoon e_moonStart e_moonStep e_placeCount e_reportCount e_deedCount dre dde kdpl dpa ep_name ep_trust r_487 ge_months ge_full ge_lean ge_hasMoon ge_placeCount ge_reportCount ge_deedCount) (cwV 1 hts (gz_gV mGA_298 mGA_299 mGA_300 mGA_13 mGA_301 goodGA) rfl rfl rfl (by decide +kernel) ⟨Nat.le_of_ble_eq_true rfl, Nat.le_of_ble_eq_true rfl⟩) ⟨bl_I (bl_a bl_P (bl_a bl_K (bl_a bl_nz bl_P))), va_recv hKc hPc (ci := 0) (q0 := 0) rfl rfl, fun U hU hW => ⟨rfl, by rw [hU]; exact hPc, va_K.moved hW.alike hKc, nzA_warm hW hz, by rw [hU]; exact gz_ro hF0 hFA0 hS⟩⟩ rfl rfl hl.1 rfl (lv_room (Nat.le_of_ble_eq_true rfl)) (dk_at dkX6_passName 30 rfl) ⟨Nat.zero_le _, Nat.zero_le _⟩) hS (fun q _ h => h.elim) (fun q h => h.elim) (fun r_488 u t H1 locs ht hvm hw hB hz1 hk1 hS => ?_)
      clear hz1
      obtain ⟨hw, hE⟩ := hw
      have hP := gz_keep hP hk1
      have hF := gf_call (a := r_488) hE hF
      generalize H1 = H at hP hS ⊢
      have gr_488 : gi r_488 (-1) 5 := hw.1
      have hqr_488 := hw.2
      have hqr_488 : Hid (r_488.toInt = pnF ep_name e_placeCount r_487) := hqr_488
      clear hw
      refine lv_iconst (v := (-1)) hx hb (dk_at dkX6_passName 31 rfl) (by decide) ?_
      refine lv_icmp_eq (tgt := 64) hx hb (dk_at dkX6_passName 32 rfl) (by decide) (fun c_489 => ?_) (fun c_489 => ?_)
      · have hF := gf_pos c_489 hF
        have hc_490 : r_488.toInt = (-1) := by have h9 := congrArg Int32.toInt c_489; rw [show ((-1) : Int32).toInt = (-1) from by decide] at h9; exact h9
        have g_491 : gi r_488 (-1) (-1) := gi_eq c_489 (gi_c (-1) (-1) (by decide))
        refine lv_iconst (v := 0) hx hb (dk_at dkX6_passName 35 rfl) (by decide) ?_
        refine lv_iload_n hx hb (dk_at dkX6_passName 36 rfl) rfl (lv_at hl 2 rfl) ?_
        refine lv_icmp_ne (tgt := 73) hx hb (dk_at dkX6_passName 37 rfl) (by decide) (fun c_492 => ?_) (fun c_492 => ?_)
        · have hF := gf_neg c_492 hF
          have hc_493 : 0 ≠ p1.toInt := fun h9 => c_492 (Int32.toInt_inj.mp (by rw [show (0 : Int32).toInt = 0 from by decide]; exact h9))
          refine lv_iconst (v := 0) hx hb (dk_at dkX6_passName 40 rfl) (by decide) ?_
          refine lv_iconst (v := 2) hx hb (dk_at dkX6_passName 41 rfl) (by decide) ?_
          obtain ⟨hPc, hDc, hFc⟩ := gz_cut (wc := [(h0, .inr (6, [.ref tp, .ref dr, .int y_483, .int y_484, .int q_token, .int q_start, .int q_stop]))]) hP hD hS hA [0] (by decide) rfl
          have hKc := hK.sub (tys' := []) [] rfl
          refine va_callv (va_runV (As := [.int 0, .int 2]) (rest := []) ⟨hx, hb, hml, hown, hts⟩ (sX6_expect l dC dI H.size h0 tp dr y_483 y_484 q_token q_start q_stop 0 2 (gi_w g_485 (by decide)) gq_start gq_stop (gi_w (gi_c 0 0 (by decide)) (by decide)) (gi_w (gi_c 2 2 (by decide)) (by decide))) (cwV 2 hts (gz_gV mGA_250 mGA_251 mGA_252 mGA_9 mGA_253 goodGA) rfl rfl rfl (by decide +kernel) ⟨Nat.le_of_ble_eq_true rfl, Nat.le_of_ble_eq_true rfl⟩) ⟨bl_I (bl_a bl_sz (bl_a bl_P (bl_a bl_K (bl_a bl_c bl_nz)))), va_recv hKc hPc (ci := 6) (q0 := 0) rfl rfl, fun U hU hW => ⟨rfl, by rw [hU], by rw [hU]; exact hPc, va_K.moved hW.alike hKc, hDc.weaken (fun _ _ _ _ => trivial), nzA_warm hW hz⟩⟩ rfl rfl hl.1 rfl (lv_room (Nat.le_of_ble_eq_true rfl)) (dk_at dkX6_passName 42 rfl) ⟨Nat.zero_le _, Nat.zero_le _⟩) hS (fun q _ h => hFc q h) hFc (fun u t H1 locs ht hvm hw hB hz1 hk1 hS => ?_)
          clear hz1
          obtain ⟨y_495, y_496, hB⟩ := hB
          obtain ⟨gy_495, hpr0_r_494, hpr1_r_494, hE, hP1, hD1⟩ := hB
          rw [ht] at hP1
          obtain ⟨hP, hD⟩ := gz_back hP hD hk1 hFc hP1 hD1 [0] rfl rfl
          have hpr0_r_494 : Hid (y_483.toInt ≤ y_495.toInt) := hpr0_r_494
          have g_497 : gi y_495 1 3 := gi_relL (Hid.un hpr0_r_494) g_485 gy_495
          have hpr1_r_494 : Hid (((0 : Int) = 1 ∨ 1 ≤ y_495.toInt)) := by have h9 : ((0 : Int32).toInt = 1 ∨ 1 ≤ y_495.toInt) := hpr1_r_494; rw [show (0 : Int32).toInt = 0 from by decide] at h9; exact h9
          have hf_498 : 1 ≤ y_495.toInt := Hid.resL hpr1_r_494 (by omega)
          obtain ⟨hP, hD⟩ := gz_both (w := [(h0, .inr (6, [.ref tp, .ref dr, .int y_495, .int y_496, .int q_token, .int q_start, .int q_stop])), (tp, .inr (10, [.ref bt, .int b_length])), (bt, .inl (kbt, 1600, .inl fbt))]) hP hD
          have hF := gf_call (a := (y_495, y_496)) hE hF
          generalize H1 = H at hP hS ⊢
          refine lv_aload_n hx hb (dk_at dkX6_passName 43 rfl) rfl (lv_at hl 1 rfl) ?_
          obtain ⟨hPc, hDc, hFc⟩ := gz_cut (wc := [(h0, .inr (6, [.ref tp, .ref dr, .int y_495, .int y_496, .int q_token, .int q_start, .int q_stop])), (tp, .inr (10, [.ref bt, .int b_length])), (bt, .inl (kbt, 1600, .inl fbt))]) hP hD hS hA [0, 1, 2] (by decide) rfl
          have hKc := hK.sub (tys' := [(kbt, .byte)]) [0] rfl
          refine va_callv (va_runV (As := []) (rest := []) ⟨hx, hb, hml, hown, hts⟩ (sX6_step l dC dI H.size h0 tp bt dr y_495 y_496 q_token q_start q_stop b_length kbt fbt (gi_w g_497 (by decide)) gq_start gq_stop gb_length) (cwV 0 hts (gz_gV mGA_162 mGA_163 mGA_164 mGA_9 mGA_165 goodGA) rfl rfl rfl (by decide +kernel) ⟨Nat.le_of_ble_eq_true rfl, Nat.le_of_ble_eq_true rfl⟩) ⟨bl_I (bl_a bl_sz (bl_a bl_P (bl_a bl_K (bl_a bl_c bl_nz)))), va_recv hKc hPc (ci := 6) (q0 := 0) rfl rfl, fun U hU hW => ⟨rfl, by rw [hU], by rw [hU]; exact hPc, va_K.moved hW.alike hKc, hDc.weaken (fun _ _ _ _ => trivial), nzA_warm hW hz⟩⟩ rfl rfl hl.1 rfl (lv_room (Nat.le_of_ble_eq_true rfl)) (dk_at dkX6_passName 44 rfl) ⟨Nat.zero_le _, Nat.zero_le _⟩) hS (fun q _ h => hFc q h) hFc (fun u t H1 locs ht hvm hw hB hz1 hk1 hS => ?_)
          clear hz1
          obtain ⟨y_500, y_501, y_502, hB⟩ := hB
          obtain ⟨gy_501, gy_502, hE, hP1, hD1⟩ := hB
          rw [ht] at hP1
          obtain ⟨hP, hD⟩ := gz_back hP hD hk1 hFc hP1 hD1 [0, 1, 2] rfl rfl
          obtain ⟨hP, hD⟩ := gz_both (w := [(h0, .inr (6, [.ref tp, .ref dr, .int y_495, .int y_496, .int y_500, .int y_501, .int y_502])), (tp, .inr (10, [.ref bt, .int b_length])), (bt, .inl (kbt, 1600, .inl fbt))]) hP hD
          have hF := gf_call (a := (y_500, y_501, y_502)) hE hF
          generalize H1 = H at hP hS ⊢
          refine lv_iload_n hx hb (dk_at dkX6_passName 45 rfl) rfl (lv_at hl 0 rfl) ?_
          exact W.iret (v := r_487) hx hb hr (fun t ht hW => ⟨⟨r_487, r_487, rfl, ⟨rfl, (gi_any r_487)⟩, y_495, y_496, y_500, y_501, y_502, (gi_w g_497 (by decide)), gy_501, gy_502, (show q_faultKind.toInt ≤ y_495.toInt from by have qgy_495 := g_497.1; have rgy_495 := g_497.2; have qgy_483 := g_485.1; have rgy_483 := g_485.2; have qgy_474 := g_477.1; have rgy_474 := g_477.2; have qgq_faultKind := gq_faultKind.1; have rgq_faultKind := gq_faultKind.2; have zhpr0_r_473 := Hid.un hpr0_r_473; have zhpr0_r_482 := Hid.un hpr0_r_482; have zhpr0_r_494 := Hid.un hpr0_r_494; omega), (show (y_495.toInt ≠ 0 ∨ p1.toInt = 0 ∨ pnF ep_name e_placeCount r_487 ≠ -1) from by have qgy_495 := g_497.1; have rgy_495 := g_497.2; have qgy_483 := g_485.1; have rgy_483 := g_485.2; have qgy_474 := g_477.1; have rgy_474 := g_477.2; have qgr_488 := g_491.1; have rgr_488 := g_491.2; have qgq_faultKind := gq_faultKind.1; have rgq_faultKind := gq_faultKind.2; have qgp1 := gp1.1; have rgp1 := gp1.2; have qge_placeCount := ge_placeCount.1; have rge_placeCount := ge_placeCount.2; have zhpr0_r_473 := Hid.un hpr0_r_473; have zhpr0_r_482 := Hid.un hpr0_r_482; have zhqr_488 := Hid.un hqr_488; have zhpr0_r_494 := Hid.un hpr0_r_494; omega), hF.trans hR9.symm, by rw [ht]; exact hP, hD⟩, hS.F ht⟩) hS.2.2 (dk_at dkX6_passName 46 rfl)
        · have hF := gf_pos c_492 hF
          have hc_503 : 0 = p1.toInt := by have h9 := congrArg Int32.toInt c_492; rw [show (0 : Int32).toInt = 0 from by decide] at h9; exact h9
          have g_504 : gi p1 0 0 := gi_eq c_492.symm (gi_c 0 0 (by decide))
          refine lv_iconst (v := 1) hx hb (dk_at dkX6_passName 38 rfl) (by decide) ?_
          refine lv_goto (tgt := 74) hx hb (dk_at dkX6_passName 39 rfl) (by decide) ?_
          refine lv_iconst (v := 2) hx hb (dk_at dkX6_passName 41 rfl) (by decide) ?_
          obtain ⟨hPc, hDc, hFc⟩ := gz_cut (wc := [(h0, .inr (6, [.ref tp, .ref dr, .int y_483, .int y_484, .int q_token, .int q_start, .int q_stop]))]) hP hD hS hA [0] (by decide) rfl
          have hKc := hK.sub (tys' := []) [] rfl
          refine va_callv (va_runV (As := [.int 1, .int 2]) (rest := []) ⟨hx, hb, hml, hown, hts⟩ (sX6_expect l dC dI H.size h0 tp dr y_483 y_484 q_token q_start q_stop 1 2 (gi_w g_485 (by decide)) gq_start gq_stop (gi_w (gi_c 1 1 (by decide)) (by decide)) (gi_w (gi_c 2 2 (by decide)) (by decide))) (cwV 2 hts (gz_gV mGA_250 mGA_251 mGA_252 mGA_9 mGA_253 goodGA) rfl rfl rfl (by decide +kernel) ⟨Nat.le_of_ble_eq_true rfl, Nat.le_of_ble_eq_true rfl⟩) ⟨bl_I (bl_a bl_sz (bl_a bl_P (bl_a bl_K (bl_a bl_c bl_nz)))), va_recv hKc hPc (ci := 6) (q0 := 0) rfl rfl, fun U hU hW => ⟨rfl, by rw [hU], by rw [hU]; exact hPc, va_K.moved hW.alike hKc, hDc.weaken (fun _ _ _ _ => trivial), nzA_warm hW hz⟩⟩ rfl rfl hl.1 rfl (lv_room (Nat.le_of_ble_eq_true rfl)) (dk_at dkX6_passName 42 rfl) ⟨Nat.zero_le _, Nat.zero_le _⟩) hS (fun q _ h => hFc q h) hFc (fun u t H1 locs ht hvm hw hB hz1 hk1 hS => ?_)
          clear hz1
          obtain ⟨y_506, y_507, hB⟩ := hB
          obtain ⟨gy_506, hpr0_r_505, hpr1_r_505, hE, hP1, hD1⟩ := hB
          rw [ht] at hP1
          obtain ⟨hP, hD⟩ := gz_back hP hD hk1 hFc hP1 hD1 [0] rfl rfl
          have hpr0_r_505 : Hid (y_483.toInt ≤ y_506.toInt) := hpr0_r_505
          have g_508 : gi y_506 1 3 := gi_relL (Hid.un hpr0_r_505) g_485 gy_506
          have hpr1_r_505 : Hid (((1 : Int) = 1 ∨ 1 ≤ y_506.toInt)) := by have h9 : ((1 : Int32).toInt = 1 ∨ 1 ≤ y_506.toInt) := hpr1_r_505; rw [show (1 : Int32).toInt = 1 from by decide] at h9; exact h9
          obtain ⟨hP, hD⟩ := gz_both (w := [(h0, .inr (6, [.ref tp, .ref dr, .int y_506, .int y_507, .int q_token, .int q_start, .int q_stop])), (tp, .inr (10, [.ref bt, .int b_length])), (bt, .inl (kbt, 1600, .inl fbt))]) hP hD
          have hF := gf_call (a := (y_506, y_507)) hE hF
          generalize H1 = H at hP hS ⊢
          refine lv_aload_n hx hb (dk_at dkX6_passName 43 rfl) rfl (lv_at hl 1 rfl) ?_
          obtain ⟨hPc, hDc, hFc⟩ := gz_cut (wc := [(h0, .inr (6, [.ref tp, .ref dr, .int y_506, .int y_507, .int q_token, .int q_start, .int q_stop])), (tp, .inr (10, [.ref bt, .int b_length])), (bt, .inl (kbt, 1600, .inl fbt))]) hP hD hS hA [0, 1, 2] (by decide) rfl
          have hKc := hK.sub (tys' := [(kbt, .byte)]) [0] rfl
          refine va_callv (va_runV (As := []) (rest := []) ⟨hx, hb, hml, hown, hts⟩ (sX6_step l dC dI H.size h0 tp bt dr y_506 y_507 q_token q_start q_stop b_length kbt fbt (gi_w g_508 (by decide)) gq_start gq_stop gb_length) (cwV 0 hts (gz_gV mGA_162 mGA_163 mGA_164 mGA_9 mGA_165 goodGA) rfl rfl rfl (by decide +kernel) ⟨Nat.le_of_ble_eq_true rfl, Nat.le_of_ble_eq_true rfl⟩) ⟨bl_I (bl_a bl_sz (bl_a bl_P (bl_a bl_K (bl_a bl_c bl_nz)))), va_recv hKc hPc (ci := 6) (q0 := 0) rfl rfl, fun U hU hW => ⟨rfl, by rw [hU], by rw [hU]; exact hPc, va_K.moved hW.alike hKc, hDc.weaken (fun _ _ _ _ => trivial), nzA_warm hW hz⟩⟩ rfl rfl hl.1 rfl (lv_room (Nat.le_of_ble_eq_true rfl)) (dk_at dkX6_passName 44 rfl) ⟨Nat.zero_le _, Nat.zero_le _⟩) hS (fun q _ h => hFc q h) hFc (fun u t H1 locs ht hvm hw hB hz1 hk1 hS => ?_)
          clear hz1
          obtain ⟨y_510, y_511, y_512, hB⟩ := hB
          obtain ⟨gy_511, gy_512, hE, hP1, hD1⟩ := hB
          rw [ht] at hP1
          obtain ⟨hP, hD⟩ := gz_back hP hD hk1 hFc hP1 hD1 [0, 1, 2] rfl rfl
          obtain ⟨hP, hD⟩ := gz_both (w := [(h0, .inr (6, [.ref tp, .ref dr, .int y_506, .int y_507, .int y_510, .int y_511, .int y_512])), (tp, .inr (10, [.ref bt, .int b_length])), (bt, .inl (kbt, 1600, .inl fbt))]) hP hD
          have hF := gf_call (a := (y_510, y_511, y_512)) hE hF
          generalize H1 = H at hP hS ⊢
          refine lv_iload_n hx hb (dk_at dkX6_passName 45 rfl) rfl (lv_at hl 0 rfl) ?_
          exact W.iret (v := r_487) hx hb hr (fun t ht hW => ⟨⟨r_487, r_487, rfl, ⟨rfl, (gi_any r_487)⟩, y_506, y_507, y_510, y_511, y_512, (gi_w g_508 (by decide)), gy_511, gy_512, (show q_faultKind.toInt ≤ y_506.toInt from by have qgy_506 := g_508.1; have rgy_506 := g_508.2; have qgy_483 := g_485.1; have rgy_483 := g_485.2; have qgy_474 := g_477.1; have rgy_474 := g_477.2; have qgq_faultKind := gq_faultKind.1; have rgq_faultKind := gq_faultKind.2; have zhpr0_r_473 := Hid.un hpr0_r_473; have zhpr0_r_482 := Hid.un hpr0_r_482; have zhpr0_r_505 := Hid.un hpr0_r_505; omega), (show (y_506.toInt ≠ 0 ∨ p1.toInt = 0 ∨ pnF ep_name e_placeCount r_487 ≠ -1) from by have qgy_506 := g_508.1; have rgy_506 := g_508.2; have qgy_483 := g_485.1; have rgy_483 := g_485.2; have qgy_474 := g_477.1; have rgy_474 := g_477.2; have qgr_488 := g_491.1; have rgr_488 := g_491.2; have qgq_faultKind := gq_faultKind.1; have rgq_faultKind := gq_faultKind.2; have qgp1 := g_504.1; have rgp1 := g_504.2; have qge_placeCount := ge_placeCount.1; have rge_placeCount := ge_placeCount.2; have zhpr0_r_473 := Hid.un hpr0_r_473; have zhpr0_r_482 := Hid.un hpr0_r_482; have zhqr_488 := Hid.un hqr_488; have zhpr0_r_505 := Hid.un hpr0_r_505; omega), hF.trans hR9.symm, by rw [ht]; exact hP, hD⟩, hS.F ht⟩) hS.2.2 (dk_at dkX6_passName 46 rfl)
      · have hF := gf_neg c_489 hF
        have hc_513 : r_488.toInt ≠ (-1) := fun h9 => c_489 (Int32.toInt_inj.mp (by rw [show ((-1) : Int32).toInt = (-1) from by decide]; exact h9))
        have g_514 : gi r_488 0 5 := gi_ne_lo c_489 gr_488 (gi_c (-1) (-1) (by decide)) (by decide)
        refine lv_iconst (v := 1) hx hb (dk_at dkX6_passName 33 rfl) (by decide) ?_
        refine lv_goto (tgt := 65) hx hb (dk_at dkX6_passName 34 rfl) (by decide) ?_
        refine lv_iload_n hx hb (dk_at dkX6_passName 36 rfl) rfl (lv_at hl 2 rfl) ?_
        refine lv_icmp_ne (tgt := 73) hx hb (dk_at dkX6_passName 37 rfl) (by decide) (fun c_515 => ?_) (fun c_515 => ?_)
        · have hF := gf_neg c_515 hF
          have hc_516 : 1 ≠ p1.toInt := fun h9 => c_515 (Int32.toInt_inj.mp (by rw [show (1 : Int32).toInt = 1 from by decide]; exact h9))
          refine lv_iconst (v := 0) hx hb (dk_at dkX6_passName 40 rfl) (by decide) ?_
          refine lv_iconst (v := 2) hx hb (dk_at dkX6_passName 41 rfl) (by decide) ?_
          obtain ⟨hPc, hDc, hFc⟩ := gz_cut (wc := [(h0, .inr (6, [.ref tp, .ref dr, .int y_483, .int y_484, .int q_token, .int q_start, .int q_stop]))]) hP hD hS hA [0] (by decide) rfl
          have hKc := hK.sub (tys' := []) [] rfl
          refine va_callv (va_runV (As := [.int 0, .int 2]) (rest := []) ⟨hx, hb, hml, hown, hts⟩ (sX6_expect l dC dI H.size h0 tp dr y_483 y_484 q_token q_start q_stop 0 2 (gi_w g_485 (by decide)) gq_start gq_stop (gi_w (gi_c 0 0 (by decide)) (by decide)) (gi_w (gi_c 2 2 (by decide)) (by decide))) (cwV 2 hts (gz_gV mGA_250 mGA_251 mGA_252 mGA_9 mGA_253 goodGA) rfl rfl rfl (by decide +kernel) ⟨Nat.le_of_ble_eq_true rfl, Nat.le_of_ble_eq_true rfl⟩) ⟨bl_I (bl_a bl_sz (bl_a bl_P (bl_a bl_K (bl_a bl_c bl_nz)))), va_recv hKc hPc (ci := 6) (q0 := 0) rfl rfl, fun U hU hW => ⟨rfl, by rw [hU], by rw [hU]; exact hPc, va_K.moved hW.alike hKc, hDc.weaken (fun _ _ _ _ => trivial), nzA_warm hW hz⟩⟩ rfl rfl hl.1 rfl (lv_room (Nat.le_of_ble_eq_true rfl)) (dk_at dkX6_passName 42 rfl) ⟨Nat.zero_le _, Nat.zero_le _⟩) hS (fun q _ h => hFc q h) hFc (fun u t H1 locs ht hvm hw hB hz1 hk1 hS => ?_)
          clear hz1
          obtain ⟨y_518, y_519, hB⟩ := hB
          obtain ⟨gy_518, hpr0_r_517, hpr1_r_517, hE, hP1, hD1⟩ := hB
          rw [ht] at hP1
          obtain ⟨hP, hD⟩ := gz_back hP hD hk1 hFc hP1 hD1 [0] rfl rfl
          have hpr0_r_517 : Hid (y_483.toInt ≤ y_518.toInt) := hpr0_r_517
          have g_520 : gi y_518 1 3 := gi_relL (Hid.un hpr0_r_517) g_485 gy_518
          have hpr1_r_517 : Hid (((0 : Int) = 1 ∨ 1 ≤ y_518.toInt)) := by have h9 : ((0 : Int32).toInt = 1 ∨ 1 ≤ y_518.toInt) := hpr1_r_517; rw [show (0 : Int32).toInt = 0 from by decide] at h9; exact h9
          have hf_521 : 1 ≤ y_518.toInt := Hid.resL hpr1_r_517 (by omega)
          obtain ⟨hP, hD⟩ := gz_both (w := [(h0, .inr (6, [.ref tp, .ref dr, .int y_518, .int y_519, .int q_token, .int q_start, .int q_stop])), (tp, .inr (10, [.ref bt, .int b_length])), (bt, .inl (kbt, 1600, .inl fbt))]) hP hD
          have hF := gf_call (a := (y_518, y_519)) hE hF
          generalize H1 = H at hP hS ⊢
          refine lv_aload_n hx hb (dk_at dkX6_passName 43 rfl) rfl (lv_at hl 1 rfl) ?_
          obtain ⟨hPc, hDc, hFc⟩ := gz_cut (wc := [(h0, .inr (6, [.ref tp, .ref dr, .int y_518, .int y_519, .int q_token, .int q_start, .int q_stop])), (tp, .inr (10, [.ref bt, .int b_length])), (bt, .inl (kbt, 1600, .inl fbt))]) hP hD hS hA [0, 1, 2] (by decide) rfl
          have hKc := hK.sub (tys' := [(kbt, .byte)]) [0] rfl
          refine va_callv (va_runV (As := []) (rest := []) ⟨hx, hb, hml, hown, hts⟩ (sX6_step l dC dI H.size h0 tp bt dr y_518 y_519 q_token q_start q_stop b_length kbt fbt (gi_w g_520 (by decide)) gq_start gq_stop gb_length) (cwV 0 hts (gz_gV mGA_162 mGA_163 mGA_164 mGA_9 mGA_165 goodGA) rfl rfl rfl (by decide +kernel) ⟨Nat.le_of_ble_eq_true rfl, Nat.le_of_ble_eq_true rfl⟩) ⟨bl_I (bl_a bl_sz (bl_a bl_P (bl_a bl_K (bl_a bl_c bl_nz)))), va_recv hKc hPc (ci := 6) (q0 := 0) rfl rfl, fun U hU hW => ⟨rfl, by rw [hU], by rw [hU]; exact hPc, va_K.moved hW.alike hKc, hDc.weaken (fun _ _ _ _ => trivial), nzA_warm hW hz⟩⟩ rfl rfl hl.1 rfl (lv_room (Nat.le_of_ble_eq_true rfl)) (dk_at dkX6_passName 44 rfl) ⟨Nat.zero_le _, Nat.zero_le _⟩) hS (fun q _ h => hFc q h) hFc (fun u t H1 locs ht hvm hw hB hz1 hk1 hS => ?_)
          clear hz1
          obtain ⟨y_523, y_524, y_525, hB⟩ := hB
          obtain ⟨gy_524, gy_525, hE, hP1, hD1⟩ := hB
          rw [ht] at hP1
          obtain ⟨hP, hD⟩ := gz_back hP hD hk1 hFc hP1 hD1 [0, 1, 2] rfl rfl
          obtain ⟨hP, hD⟩ := gz_both (w := [(h0, .inr (6, [.ref tp, .ref dr, .int y_518, .int y_519, .int y_523, .int y_524, .int y_525])), (tp, .inr (10, [.ref bt, .int b_length])), (bt, .inl (kbt, 1600, .inl fbt))]) hP hD
          have hF := gf_call (a := (y_523, y_524, y_525)) hE hF
          generalize H1 = H at hP hS ⊢
          refine lv_iload_n hx hb (dk_at dkX6_passName 45 rfl) rfl (lv_at hl 0 rfl) ?_
          exact W.iret (v := r_487) hx hb hr (fun t ht hW => ⟨⟨r_487, r_487, rfl, ⟨rfl, (gi_any r_487)⟩, y_518, y_519, y_523, y_524, y_525, (gi_w g_520 (by decide)), gy_524, gy_525, (show q_faultKind.toInt ≤ y_518.toInt from by have qgy_518 := g_520.1; have rgy_518 := g_520.2; have qgy_483 := g_485.1; have rgy_483 := g_485.2; have qgy_474 := g_477.1; have rgy_474 := g_477.2; have qgq_faultKind := gq_faultKind.1; have rgq_faultKind := gq_faultKind.2; have zhpr0_r_473 := Hid.un hpr0_r_473; have zhpr0_r_482 := Hid.un hpr0_r_482; have zhpr0_r_517 := Hid.un hpr0_r_517; omega), (show (y_518.toInt ≠ 0 ∨ p1.toInt = 0 ∨ pnF ep_name e_placeCount r_487 ≠ -1) from by have qgy_518 := g_520.1; have rgy_518 := g_520.2; have qgy_483 := g_485.1; have rgy_483 := g_485.2; have qgy_474 := g_477.1; have rgy_474 := g_477.2; have qgr_488 := g_514.1; have rgr_488 := g_514.2; have qgq_faultKind := gq_faultKind.1; have rgq_faultKind := gq_faultKind.2; have qgp1 := gp1.1; have rgp1 := gp1.2; have qge_placeCount := ge_placeCount.1; have rge_placeCount := ge_placeCount.2; have zhpr0_r_473 := Hid.un hpr0_r_473; have zhpr0_r_482 := Hid.un hpr0_r_482; have zhqr_488 := Hid.un hqr_488; have zhpr0_r_517 := Hid.un hpr0_r_517; omega), hF.trans hR9.symm, by rw [ht]; exact hP, hD⟩, hS.F ht⟩) hS.2.2 (dk_at dkX6_passName 46 rfl)
        · have hF := gf_pos c_515 hF
          have hc_526 : 1 = p1.toInt := by have h9 := congrArg Int32.toInt c_515; rw [show (1 : Int32).toInt = 1 from by decide] at h9; exact h9
          have g_527 : gi p1 1 1 := gi_eq c_515.symm (gi_c 1 1 (by decide))
          refine lv_iconst (v := 1) hx hb (dk_at dkX6_passName 38 rfl) (by decide) ?_
          refine lv_goto (tgt := 74) hx hb (dk_at dkX6_passName 39 rfl) (by decide) ?_
          refine lv_iconst (v := 2) hx hb (dk_at dkX6_passName 41 rfl) (by decide) ?_
          obtain ⟨hPc, hDc, hFc⟩ := gz_cut (wc := [(h0, .inr (6, [.ref tp, .ref dr, .int y_483, .int y_484, .int q_token, .int q_start, .int q_stop]))]) hP hD hS hA [0] (by decide) rfl
          have hKc := hK.sub (tys' := []) [] rfl
          refine va_callv (va_runV (As := [.int 1, .int 2]) (rest := []) ⟨hx, hb, hml, hown, hts⟩ (sX6_expect l dC dI H.size h0 tp dr y_483 y_484 q_token q_start q_stop 1 2 (gi_w g_485 (by decide)) gq_start gq_stop (gi_w (gi_c 1 1 (by decide)) (by decide)) (gi_w (gi_c 2 2 (by decide)) (by decide))) (cwV 2 hts (gz_gV mGA_250 mGA_251 mGA_252 mGA_9 mGA_253 goodGA) rfl rfl rfl (by decide +kernel) ⟨Nat.le_of_ble_eq_true rfl, Nat.le_of_ble_eq_true rfl⟩) ⟨bl_I (bl_a bl_sz (bl_a bl_P (bl_a bl_K (bl_a bl_c bl_nz)))), va_recv hKc hPc (ci := 6) (q0 := 0) rfl rfl, fun U hU hW => ⟨rfl, by rw [hU], by rw [hU]; exact hPc, va_K.moved hW.alike hKc, hDc.weaken (fun _ _ _ _ => trivial), nzA_warm hW hz⟩⟩ rfl rfl hl.1 rfl (lv_room (Nat.le_of_ble_eq_true rfl)) (dk_at dkX6_passName 42 rfl) ⟨Nat.zero_le _, Nat.zero_le _⟩) hS (fun q _ h => hFc q h) hFc (fun u t H1 locs ht hvm hw hB hz1 hk1 hS => ?_)
          clear hz1
          obtain ⟨y_529, y_530, hB⟩ := hB
          obtain ⟨gy_529, hpr0_r_528, hpr1_r_528, hE, hP1, hD1⟩ := hB
          rw [ht] at hP1
          obtain ⟨hP, hD⟩ := gz_back hP hD hk1 hFc hP1 hD1 [0] rfl rfl
          have hpr0_r_528 : Hid (y_483.toInt ≤ y_529.toInt) := hpr0_r_528
          have g_531 : gi y_529 1 3 := gi_relL (Hid.un hpr0_r_528) g_485 gy_529
          have hpr1_r_528 : Hid (((1 : Int) = 1 ∨ 1 ≤ y_529.toInt)) := by have h9 : ((1 : Int32).toInt = 1 ∨ 1 ≤ y_529.toInt) := hpr1_r_528; rw [show (1 : Int32).toInt = 1 from by decide] at h9; exact h9
          obtain ⟨hP, hD⟩ := gz_both (w := [(h0, .inr (6, [.ref tp, .ref dr, .int y_529, .int y_530, .int q_token, .int q_start, .int q_stop])), (tp, .inr (10, [.ref bt, .int b_length])), (bt, .inl (kbt, 1600, .inl fbt))]) hP hD
          have hF := gf_call (a := (y_529, y_530)) hE hF
          generalize H1 = H at hP hS ⊢
          refine lv_aload_n hx hb (dk_at dkX6_passName 43 rfl) rfl (lv_at hl 1 rfl) ?_
          obtain ⟨hPc, hDc, hFc⟩ := gz_cut (wc := [(h0, .inr (6, [.ref tp, .ref dr, .int y_529, .int y_530, .int q_token, .int q_start, .int q_stop])), (tp, .inr (10, [.ref bt, .int b_length])), (bt, .inl (kbt, 1600, .inl fbt))]) hP hD hS hA [0, 1, 2] (by decide) rfl
          have hKc := hK.sub (tys' := [(kbt, .byte)]) [0] rfl
          refine va_callv (va_runV (As := []) (rest := []) ⟨hx, hb, hml, hown, hts⟩ (sX6_step l dC dI H.size h0 tp bt dr y_529 y_530 q_token q_start q_stop b_length kbt fbt (gi_w g_531 (by decide)) gq_start gq_stop gb_length) (cwV 0 hts (gz_gV mGA_162 mGA_163 mGA_164 mGA_9 mGA_165 goodGA) rfl rfl rfl (by decide +kernel) ⟨Nat.le_of_ble_eq_true rfl, Nat.le_of_ble_eq_true rfl⟩) ⟨bl_I (bl_a bl_sz (bl_a bl_P (bl_a bl_K (bl_a bl_c bl_nz)))), va_recv hKc hPc (ci := 6) (q0 := 0) rfl rfl, fun U hU hW => ⟨rfl, by rw [hU], by rw [hU]; exact hPc, va_K.moved hW.alike hKc, hDc.weaken (fun _ _ _ _ => trivial), nzA_warm hW hz⟩⟩ rfl rfl hl.1 rfl (lv_room (Nat.le_of_ble_eq_true rfl)) (dk_at dkX6_passName 44 rfl) ⟨Nat.zero_le _, Nat.zero_le _⟩) hS (fun q _ h => hFc q h) hFc (fun u t H1 locs ht hvm hw hB hz1 hk1 hS => ?_)
          clear hz1
          obtain ⟨y_533, y_534, y_535, hB⟩ := hB
          obtain ⟨gy_534, gy_535, hE, hP1, hD1⟩ := hB
          rw [ht] at hP1
          obtain ⟨hP, hD⟩ := gz_back hP hD hk1 hFc hP1 hD1 [0, 1, 2] rfl rfl
          obtain ⟨hP, hD⟩ := gz_both (w := [(h0, .inr (6, [.ref tp, .ref dr, .int y_529, .int y_530, .int y_533, .int y_534, .int y_535])), (tp, .inr (10, [.ref bt, .int b_length])), (bt, .inl (kbt, 1600, .inl fbt))]) hP hD
          have hF := gf_call (a := (y_533, y_534, y_535)) hE hF
          generalize H1 = H at hP hS ⊢
          refine lv_iload_n hx hb (dk_at dkX6_passName 45 rfl) rfl (lv_at hl 0 rfl) ?_
          exact W.iret (v := r_487) hx hb hr (fun t ht hW => ⟨⟨r_487, r_487, rfl, ⟨rfl, (gi_any r_487)⟩, y_529, y_530, y_533, y_534, y_535, (gi_w g_531 (by decide)), gy_534, gy_535, (show q_faultKind.toInt ≤ y_529.toInt from by have qgy_529 := g_531.1; have rgy_529 := g_531.2; have qgy_483 := g_485.1; have rgy_483 := g_485.2; have qgy_474 := g_477.1; have rgy_474 := g_477.2; have qgq_faultKind := gq_faultKind.1; have rgq_faultKind := gq_faultKind.2; have zhpr0_r_473 := Hid.un hpr0_r_473; have zhpr0_r_482 := Hid.un hpr0_r_482; have zhpr0_r_528 := Hid.un hpr0_r_528; omega), (show (y_529.toInt ≠ 0 ∨ p1.toInt = 0 ∨ pnF ep_name e_placeCount r_487 ≠ -1) from by have qgy_529 := g_531.1; have rgy_529 := g_531.2; have qgy_483 := g_485.1; have rgy_483 := g_485.2; have qgy_474 := g_477.1; have rgy_474 := g_477.2; have qgr_488 := g_514.1; have rgr_488 := g_514.2; have qgq_faultKind := gq_faultKind.1; have rgq_faultKind := gq_faultKind.2; have qgp1 := g_527.1; have rgp1 := g_527.2; have qge_placeCount := ge_placeCount.1; have rge_placeCount := ge_placeCount.2; have zhpr0_r_473 := Hid.un hpr0_r_473; have zhpr0_r_482 := Hid.un hpr0_r_482; have zhqr_488 := Hid.un hqr_488; have zhpr0_r_528 := Hid.un hpr0_r_528; omega), hF.trans hR9.symm, by rw [ht]; exact hP, hD⟩, hS.F ht⟩) hS.2.2 (dk_at dkX6_passName 46 rfl)
    · have hF := gf_neg (by rw [ex_478] at c_479; exact c_479) hF
      have hc_536 : x_478.toInt ≤ 6 := by have h9 := Int32.le_iff_toInt_le.mp (Int32.not_lt.mp c_479); rw [show (6 : Int32).toInt = 6 from by decide] at h9; exact h9
      have g_537 : gi x_478 (-1600) 6 := gi_le_l (Int32.not_lt.mp c_479) gx_478 (gi_c 6 6 (by decide))
      refine lv_iconst (v := 1) hx hb (dk_at dkX6_passName 18 rfl) (by decide) ?_
      refine lv_goto (tgt := 38) hx hb (dk_at dkX6_passName 19 rfl) (by decide) ?_
      refine lv_iconst (v := 2) hx hb (dk_at dkX6_passName 21 rfl) (by decide) ?_
      obtain ⟨hPc, hDc, hFc⟩ := gz_cut (wc := [(h0, .inr (6, [.ref tp, .ref dr, .int y_474, .int y_475, .int q_token, .int q_start, .int q_stop]))]) hP hD hS hA [0] (by decide) rfl
      have hKc := hK.sub (tys' := []) [] rfl
      refine va_callv (va_runV (As := [.int 1, .int 2]) (rest := []) ⟨hx, hb, hml, hown, hts⟩ (sX6_expect l dC dI H.size h0 tp dr y_474 y_475 q_token q_start q_stop 1 2 (gi_w g_477 (by decide)) gq_start gq_stop (gi_w (gi_c 1 1 (by decide)) (by decide)) (gi_w (gi_c 2 2 (by decide)) (by decide))) (cwV 2 hts (gz_gV mGA_250 mGA_251 mGA_252 mGA_9 mGA_253 goodGA) rfl rfl rfl (by decide +kernel) ⟨Nat.le_of_ble_eq_true rfl, Nat.le_of_ble_eq_true rfl⟩) ⟨bl_I (bl_a bl_sz (bl_a bl_P (bl_a bl_K (bl_a bl_c bl_nz)))), va_recv hKc hPc (ci := 6) (q0 := 0) rfl rfl, fun U hU hW => ⟨rfl, by rw [hU], by rw [hU]; exact hPc, va_K.moved hW.alike hKc, hDc.weaken (fun _ _ _ _ => trivial), nzA_warm hW hz⟩⟩ rfl rfl hl.1 rfl (lv_room (Nat.le_of_ble_eq_true rfl)) (dk_at dkX6_passName 22 rfl) ⟨Nat.zero_le _, Nat.zero_le _⟩) hS (fun q _ h => hFc q h) hFc (fun u t H1 locs ht hvm hw hB hz1 hk1 hS => ?_)
      clear hz1
      obtain ⟨y_539, y_540, hB⟩ := hB
      obtain ⟨gy_539, hpr0_r_538, hpr1_r_538, hE, hP1, hD1⟩ := hB
      rw [ht] at hP1
      obtain ⟨hP, hD⟩ := gz_back hP hD hk1 hFc hP1 hD1 [0] rfl rfl
      have hpr0_r_538 : Hid (y_474.toInt ≤ y_539.toInt) := hpr0_r_538
      have g_541 : gi y_539 1 3 := gi_relL (Hid.un hpr0_r_538) g_477 gy_539
      have hpr1_r_538 : Hid (((1 : Int) = 1 ∨ 1 ≤ y_539.toInt)) := by have h9 : ((1 : Int32).toInt = 1 ∨ 1 ≤ y_539.toInt) := hpr1_r_538; rw [show (1 : Int32).toInt = 1 from by decide] at h9; exact h9
      obtain ⟨hP, hD⟩ := gz_both (w := [(h0, .inr (6, [.ref tp, .ref dr, .int y_539, .int y_540, .int q_token, .int q_start, .int q_stop])), (tp, .inr (10, [.ref bt, .int b_length])), (bt, .inl (kbt, 1600, .inl fbt))]) hP hD
      have hF := gf_call (a := (y_539, y_540)) hE hF
      generalize H1 = H at hP hS ⊢
      refine lv_aload_n hx hb (dk_at dkX6_passName 23 rfl) rfl (lv_at hl 0 rfl) ?_
      have hPc := hP.sub (ws' := [(h0, .inr (6, [.ref tp, .ref dr, .int y_539, .int y_540, .int q_token, .int q_start, .int q_stop])), (tp, .inr (10, [.ref bt, .int b_length])), (bt, .inl (kbt, 1600, .inl fbt))]) [0, 1, 2] rfl
      have hKc := hK.sub (tys' := [(kbt, .byte)]) [0] rfl
      refine va_calli (va_runV (As := []) (rest := []) ⟨hx, hb, hml, hown, hts⟩ (sX6_nameHere l dC dI h0 tp bt dr y_539 y_540 q_token q_start q_stop b_length kbt fbt (gi_w g_541 (by decide)) gq_start gq_stop gb_length) (cwV 0 hts (gz_gV mGA_294 mGA_295 mGA_296 mGA_9 mGA_297 goodGA) rfl rfl rfl (by decide +kernel) ⟨Nat.le_of_ble_eq_true rfl, Nat.le_of_ble_eq_true rfl⟩) ⟨bl_I (bl_a bl_P (bl_a bl_K bl_nz)), va_recv hKc hPc (ci := 6) (q0 := 0) rfl rfl, fun U hU hW => ⟨rfl, by rw [hU]; exact hPc, va_K.moved hW.alike hKc, nzA_warm hW hz⟩⟩ rfl rfl hl.1 rfl (lv_room (Nat.le_of_ble_eq_true rfl)) (dk_at dkX6_passName 24 rfl) ⟨Nat.zero_le _, Nat.zero_le _⟩) hS (fun q _ h => h.elim) (fun q h => h.elim) (fun r_542 u t H1 locs ht hvm hw hB hz1 hk1 hS => ?_)
      clear hz1
      obtain ⟨hw, hE⟩ := hw
      have hP := gz_keep hP hk1
      have hF := gf_call (a := r_542) hE hF
      generalize H1 = H at hP hS ⊢
      refine lv_istore_n (lv' := [(2, .int r_542), (0, .ref h0), (1, .int p1)]) hx hb (dk_at dkX6_passName 25 rfl) rfl hl (by decide) rfl (fun ls hl => ?_)
      refine lv_aload_n hx hb (dk_at dkX6_passName 26 rfl) rfl (lv_at hl 1 rfl) ?_
      refine lv_aload_n hx hb (dk_at dkX6_passName 27 rfl) rfl (lv_at hl 1 rfl) ?_
      refine va_get (D := (dC, dI)) (ci := 6) (v := .ref dr) (C := RX6) (T := TX6) (N := 7) hx hb hts (fun w h => List.mem_cons_of_mem _ (jnGA_X6 w h)) hown hK hP 0 rfl rfl 1 (by decide) (hts _ (List.mem_cons_of_mem _ mGA_54)) (fun _ h9 => h9) rfl (dk_at dkX6_passName 28 rfl) ?_
      refine lv_iload_n hx hb (dk_at dkX6_passName 29 rfl) rfl (lv_at hl 0 rfl) ?_
      have hPc : va_P (dC, dI) vwCl [(dr, .inr (0, [.int e_months, .int e_full, .int e_lean, .int e_lines, .int e_hasMoon, .int e_moonStart, .int e_moonStep, .int e_placeCount, .int e_reportCount, .int e_deedCount, .ref dpl, .ref dre, .ref dde])), (dpl, .inl (kdpl, 6, .inr (.inr (.inr (.inr (fun i => some (dpa i)))))))] H := (gz_cat ((gz_ro hR hRA hS).sub [0] rfl) ((gz_ro hR hRA hS).sub [1] rfl))
      have hKc := hK.sub (tys' := [(kdpl, .object RX5)]) [1] rfl
      refine va_calli (va_runV (As := [.int r_542]) (rest := [.ref h0]) ⟨hx, hb, hml, hown, hts⟩ (sX0_placeNamedF l dC dI dr dpl e_months e_full e_lean e_lines e_hasMoon e_moonStart e_moonStep e_placeCount e_reportCount e_deedCount dre dde kdpl dpa ep_name ep_trust r_542 ge_months ge_full ge_lean ge_hasMoon ge_placeCount ge_reportCount ge_deedCount) (cwV 1 hts (gz_gV mGA_298 mGA_299 mGA_300 mGA_13 mGA_301 goodGA) rfl rfl rfl (by decide +kernel) ⟨Nat.le_of_ble_eq_true rfl, Nat.le_of_ble_eq_true rfl⟩) ⟨bl_I (bl_a bl_P (bl_a bl_K (bl_a bl_nz bl_P))), va_recv hKc hPc (ci := 0) (q0 := 0) rfl rfl, fun U hU hW => ⟨rfl, by rw [hU]; exact hPc, va_K.moved hW.alike hKc, nzA_warm hW hz, by rw [hU]; exact gz_ro hF0 hFA0 hS⟩⟩ rfl rfl hl.1 rfl (lv_room (Nat.le_of_ble_eq_true rfl)) (dk_at dkX6_passName 30 rfl) ⟨Nat.zero_le _, Nat.zero_le _⟩) hS (fun q _ h => h.elim) (fun q h => h.elim) (fun r_543 u t H1 locs ht hvm hw hB hz1 hk1 hS => ?_)
      clear hz1
      obtain ⟨hw, hE⟩ := hw
      have hP := gz_keep hP hk1
      have hF := gf_call (a := r_543) hE hF
      generalize H1 = H at hP hS ⊢
      have gr_543 : gi r_543 (-1) 5 := hw.1
      have hqr_543 := hw.2
      have hqr_543 : Hid (r_543.toInt = pnF ep_name e_placeCount r_542) := hqr_543
      clear hw
      refine lv_iconst (v := (-1)) hx hb (dk_at dkX6_passName 31 rfl) (by decide) ?_
      refine lv_icmp_eq (tgt := 64) hx hb (dk_at dkX6_passName 32 rfl) (by decide) (fun c_544 => ?_) (fun c_544 => ?_)
      · have hF := gf_pos c_544 hF
        have hc_545 : r_543.toInt = (-1) := by have h9 := congrArg Int32.toInt c_544; rw [show ((-1) : Int32).toInt = (-1) from by decide] at h9; exact h9
        have g_546 : gi r_543 (-1) (-1) := gi_eq c_544 (gi_c (-1) (-1) (by decide))
        refine lv_iconst (v := 0) hx hb (dk_at dkX6_passName 35 rfl) (by decide) ?_
        refine lv_iload_n hx hb (dk_at dkX6_passName 36 rfl) rfl (lv_at hl 2 rfl) ?_
        refine lv_icmp_ne (tgt := 73) hx hb (dk_at dkX6_passName 37 rfl) (by decide) (fun c_547 => ?_) (fun c_547 => ?_)
        · have hF := gf_neg c_547 hF
          have hc_548 : 0 ≠ p1.toInt := fun h9 => c_547 (Int32.toInt_inj.mp (by rw [show (0 : Int32).toInt = 0 from by decide]; exact h9))
          refine lv_iconst (v := 0) hx hb (dk_at dkX6_passName 40 rfl) (by decide) ?_
          refine lv_iconst (v := 2) hx hb (dk_at dkX6_passName 41 rfl) (by decide) ?_
          obtain ⟨hPc, hDc, hFc⟩ := gz_cut (wc := [(h0, .inr (6, [.ref tp, .ref dr, .int y_539, .int y_540, .int q_token, .int q_start, .int q_stop]))]) hP hD hS hA [0] (by decide) rfl
          have hKc := hK.sub (tys' := []) [] rfl
          refine va_callv (va_runV (As := [.int 0, .int 2]) (rest := []) ⟨hx, hb, hml, hown, hts⟩ (sX6_expect l dC dI H.size h0 tp dr y_539 y_540 q_token q_start q_stop 0 2 (gi_w g_541 (by decide)) gq_start gq_stop (gi_w (gi_c 0 0 (by decide)) (by decide)) (gi_w (gi_c 2 2 (by decide)) (by decide))) (cwV 2 hts (gz_gV mGA_250 mGA_251 mGA_252 mGA_9 mGA_253 goodGA) rfl rfl rfl (by decide +kernel) ⟨Nat.le_of_ble_eq_true rfl, Nat.le_of_ble_eq_true rfl⟩) ⟨bl_I (bl_a bl_sz (bl_a bl_P (bl_a bl_K (bl_a bl_c bl_nz)))), va_recv hKc hPc (ci := 6) (q0 := 0) rfl rfl, fun U hU hW => ⟨rfl, by rw [hU], by rw [hU]; exact hPc, va_K.moved hW.alike hKc, hDc.weaken (fun _ _ _ _ => trivial), nzA_warm hW hz⟩⟩ rfl rfl hl.1 rfl (lv_room (Nat.le_of_ble_eq_true rfl)) (dk_at dkX6_passName 42 rfl) ⟨Nat.zero_le _, Nat.zero_le _⟩) hS (fun q _ h => hFc q h) hFc (fun u t H1 locs ht hvm hw hB hz1 hk1 hS => ?_)
          clear hz1
          obtain ⟨y_550, y_551, hB⟩ := hB
          obtain ⟨gy_550, hpr0_r_549, hpr1_r_549, hE, hP1, hD1⟩ := hB
          rw [ht] at hP1
          obtain ⟨hP, hD⟩ := gz_back hP hD hk1 hFc hP1 hD1 [0] rfl rfl
          have hpr0_r_549 : Hid (y_539.toInt ≤ y_550.toInt) := hpr0_r_549
          have g_552 : gi y_550 1 3 := gi_relL (Hid.un hpr0_r_549) g_541 gy_550
          have hpr1_r_549 : Hid (((0 : Int) = 1 ∨ 1 ≤ y_550.toInt)) := by have h9 : ((0 : Int32).toInt = 1 ∨ 1 ≤ y_550.toInt) := hpr1_r_549; rw [show (0 : Int32).toInt = 0 from by decide] at h9; exact h9
          have hf_553 : 1 ≤ y_550.toInt := Hid.resL hpr1_r_549 (by omega)
          obtain ⟨hP, hD⟩ := gz_both (w := [(h0, .inr (6, [.ref tp, .ref dr, .int y_550, .int y_551, .int q_token, .int q_start, .int q_stop])), (tp, .inr (10, [.ref bt, .int b_length])), (bt, .inl (kbt, 1600, .inl fbt))]) hP hD
          have hF := gf_call (a := (y_550, y_551)) hE hF
          generalize H1 = H at hP hS ⊢
          refine lv_aload_n hx hb (dk_at dkX6_passName 43 rfl) rfl (lv_at hl 1 rfl) ?_
          obtain ⟨hPc, hDc, hFc⟩ := gz_cut (wc := [(h0, .inr (6, [.ref tp, .ref dr, .int y_550, .int y_551, .int q_token, .int q_start, .int q_stop])), (tp, .inr (10, [.ref bt, .int b_length])), (bt, .inl (kbt, 1600, .inl fbt))]) hP hD hS hA [0, 1, 2] (by decide) rfl
          have hKc := hK.sub (tys' := [(kbt, .byte)]) [0] rfl
          refine va_callv (va_runV (As := []) (rest := []) ⟨hx, hb, hml, hown, hts⟩ (sX6_step l dC dI H.size h0 tp bt dr y_550 y_551 q_token q_start q_stop b_length kbt fbt (gi_w g_552 (by decide)) gq_start gq_stop gb_length) (cwV 0 hts (gz_gV mGA_162 mGA_163 mGA_164 mGA_9 mGA_165 goodGA) rfl rfl rfl (by decide +kernel) ⟨Nat.le_of_ble_eq_true rfl, Nat.le_of_ble_eq_true rfl⟩) ⟨bl_I (bl_a bl_sz (bl_a bl_P (bl_a bl_K (bl_a bl_c bl_nz)))), va_recv hKc hPc (ci := 6) (q0 := 0) rfl rfl, fun U hU hW => ⟨rfl, by rw [hU], by rw [hU]; exact hPc, va_K.moved hW.alike hKc, hDc.weaken (fun _ _ _ _ => trivial), nzA_warm hW hz⟩⟩ rfl rfl hl.1 rfl (lv_room (Nat.le_of_ble_eq_true rfl)) (dk_at dkX6_passName 44 rfl) ⟨Nat.zero_le _, Nat.zero_le _⟩) hS (fun q _ h => hFc q h) hFc (fun u t H1 locs ht hvm hw hB hz1 hk1 hS => ?_)
          clear hz1
          obtain ⟨y_555, y_556, y_557, hB⟩ := hB
          obtain ⟨gy_556, gy_557, hE, hP1, hD1⟩ := hB
          rw [ht] at hP1
          obtain ⟨hP, hD⟩ := gz_back hP hD hk1 hFc hP1 hD1 [0, 1, 2] rfl rfl
          obtain ⟨hP, hD⟩ := gz_both (w := [(h0, .inr (6, [.ref tp, .ref dr, .int y_550, .int y_551, .int y_555, .int y_556, .int y_557])), (tp, .inr (10, [.ref bt, .int b_length])), (bt, .inl (kbt, 1600, .inl fbt))]) hP hD
          have hF := gf_call (a := (y_555, y_556, y_557)) hE hF
          generalize H1 = H at hP hS ⊢
          refine lv_iload_n hx hb (dk_at dkX6_passName 45 rfl) rfl (lv_at hl 0 rfl) ?_
          exact W.iret (v := r_542) hx hb hr (fun t ht hW => ⟨⟨r_542, r_542, rfl, ⟨rfl, (gi_any r_542)⟩, y_550, y_551, y_555, y_556, y_557, (gi_w g_552 (by decide)), gy_556, gy_557, (show q_faultKind.toInt ≤ y_550.toInt from by have qgy_550 := g_552.1; have rgy_550 := g_552.2; have qgy_539 := g_541.1; have rgy_539 := g_541.2; have qgy_474 := g_477.1; have rgy_474 := g_477.2; have qgq_faultKind := gq_faultKind.1; have rgq_faultKind := gq_faultKind.2; have zhpr0_r_473 := Hid.un hpr0_r_473; have zhpr0_r_538 := Hid.un hpr0_r_538; have zhpr0_r_549 := Hid.un hpr0_r_549; omega), (show (y_550.toInt ≠ 0 ∨ p1.toInt = 0 ∨ pnF ep_name e_placeCount r_542 ≠ -1) from by have qgy_550 := g_552.1; have rgy_550 := g_552.2; have qgy_539 := g_541.1; have rgy_539 := g_541.2; have qgy_474 := g_477.1; have rgy_474 := g_477.2; have qgr_543 := g_546.1; have rgr_543 := g_546.2; have qgq_faultKind := gq_faultKind.1; have rgq_faultKind := gq_faultKind.2; have qgp1 := gp1.1; have rgp1 := gp1.2; have qge_placeCount := ge_placeCount.1; have rge_placeCount := ge_placeCount.2; have zhpr0_r_473 := Hid.un hpr0_r_473; have zhpr0_r_538 := Hid.un hpr0_r_538; have zhqr_543 := Hid.un hqr_543; have zhpr0_r_549 := Hid.un hpr0_r_549; omega), hF.trans hR9.symm, by rw [ht]; exact hP, hD⟩, hS.F ht⟩) hS.2.2 (dk_at dkX6_passName 46 rfl)
        · have hF := gf_pos c_547 hF
          have hc_558 : 0 = p1.toInt := by have h9 := congrArg Int32.toInt c_547; rw [show (0 : Int32).toInt = 0 from by decide] at h9; exact h9
          have g_559 : gi p1 0 0 := gi_eq c_547.symm (gi_c 0 0 (by decide))
          refine lv_iconst (v := 1) hx hb (dk_at dkX6_passName 38 rfl) (by decide) ?_
          refine lv_goto (tgt := 74) hx hb (dk_at dkX6_passName 39 rfl) (by decide) ?_
          refine lv_iconst (v := 2) hx hb (dk_at dkX6_passName 41 rfl) (by decide) ?_
          obtain ⟨hPc, hDc, hFc⟩ := gz_cut (wc := [(h0, .inr (6, [.ref tp, .ref dr, .int y_539, .int y_540, .int q_token, .int q_start, .int q_stop]))]) hP hD hS hA [0] (by decide) rfl
          have hKc := hK.sub (tys' := []) [] rfl
          refine va_callv (va_runV (As := [.int 1, .int 2]) (rest := []) ⟨hx, hb, hml, hown, hts⟩ (sX6_expect l dC dI H.size h0 tp dr y_539 y_540 q_token q_start q_stop 1 2 (gi_w g_541 (by decide)) gq_start gq_stop (gi_w (gi_c 1 1 (by decide)) (by decide)) (gi_w (gi_c 2 2 (by decide)) (by decide))) (cwV 2 hts (gz_gV mGA_250 mGA_251 mGA_252 mGA_9 mGA_253 goodGA) rfl rfl rfl (by decide +kernel) ⟨Nat.le_of_ble_eq_true rfl, Nat.le_of_ble_eq_true rfl⟩) ⟨bl_I (bl_a bl_sz (bl_a bl_P (bl_a bl_K (bl_a bl_c bl_nz)))), va_recv hKc hPc (ci := 6) (q0 := 0) rfl rfl, fun U hU hW => ⟨rfl, by rw [hU], by rw [hU]; exact hPc, va_K.moved hW.alike hKc, hDc.weaken (fun _ _ _ _ => trivial), nzA_warm hW hz⟩⟩ rfl rfl hl.1 rfl (lv_room (Nat.le_of_ble_eq_true rfl)) (dk_at dkX6_passName 42 rfl) ⟨Nat.zero_le _, Nat.zero_le _⟩) hS (fun q _ h => hFc q h) hFc (fun u t H1 locs ht hvm hw hB hz1 hk1 hS => ?_)
          clear hz1
          obtain ⟨y_561, y_562, hB⟩ := hB
          obtain ⟨gy_561, hpr0_r_560, hpr1_r_560, hE, hP1, hD1⟩ := hB
          rw [ht] at hP1
          obtain ⟨hP, hD⟩ := gz_back hP hD hk1 hFc hP1 hD1 [0] rfl rfl
          have hpr0_r_560 : Hid (y_539.toInt ≤ y_561.toInt) := hpr0_r_560
          have g_563 : gi y_561 1 3 := gi_relL (Hid.un hpr0_r_560) g_541 gy_561
          have hpr1_r_560 : Hid (((1 : Int) = 1 ∨ 1 ≤ y_561.toInt)) := by have h9 : ((1 : Int32).toInt = 1 ∨ 1 ≤ y_561.toInt) := hpr1_r_560; rw [show (1 : Int32).toInt = 1 from by decide] at h9; exact h9
          obtain ⟨hP, hD⟩ := gz_both (w := [(h0, .inr (6, [.ref tp, .ref dr, .int y_561, .int y_562, .int q_token, .int q_start, .int q_stop])), (tp, .inr (10, [.ref bt, .int b_length])), (bt, .inl (kbt, 1600, .inl fbt))]) hP hD
          have hF := gf_call (a := (y_561, y_562)) hE hF
          generalize H1 = H at hP hS ⊢
          refine lv_aload_n hx hb (dk_at dkX6_passName 43 rfl) rfl (lv_at hl 1 rfl) ?_
          obtain ⟨hPc, hDc, hFc⟩ := gz_cut (wc := [(h0, .inr (6, [.ref tp, .ref dr, .int y_561, .int y_562, .int q_token, .int q_start, .int q_stop])), (tp, .inr (10, [.ref bt, .int b_length])), (bt, .inl (kbt, 1600, .inl fbt))]) hP hD hS hA [0, 1, 2] (by decide) rfl
          have hKc := hK.sub (tys' := [(kbt, .byte)]) [0] rfl
          refine va_callv (va_runV (As := []) (rest := []) ⟨hx, hb, hml, hown, hts⟩ (sX6_step l dC dI H.size h0 tp bt dr y_561 y_562 q_token q_start q_stop b_length kbt fbt (gi_w g_563 (by decide)) gq_start gq_stop gb_length) (cwV 0 hts (gz_gV mGA_162 mGA_163 mGA_164 mGA_9 mGA_165 goodGA) rfl rfl rfl (by decide +kernel) ⟨Nat.le_of_ble_eq_true rfl, Nat.le_of_ble_eq_true rfl⟩) ⟨bl_I (bl_a bl_sz (bl_a bl_P (bl_a bl_K (bl_a bl_c bl_nz)))), va_recv hKc hPc (ci := 6) (q0 := 0) rfl rfl, fun U hU hW => ⟨rfl, by rw [hU], by rw [hU]; exact hPc, va_K.moved hW.alike hKc, hDc.weaken (fun _ _ _ _ => trivial), nzA_warm hW hz⟩⟩ rfl rfl hl.1 rfl (lv_room (Nat.le_of_ble_eq_true rfl)) (dk_at dkX6_passName 44 rfl) ⟨Nat.zero_le _, Nat.zero_le _⟩) hS (fun q _ h => hFc q h) hFc (fun u t H1 locs ht hvm hw hB hz1 hk1 hS => ?_)
          clear hz1
          obtain ⟨y_565, y_566, y_567, hB⟩ := hB
          obtain ⟨gy_566, gy_567, hE, hP1, hD1⟩ := hB
          rw [ht] at hP1
          obtain ⟨hP, hD⟩ := gz_back hP hD hk1 hFc hP1 hD1 [0, 1, 2] rfl rfl
          obtain ⟨hP, hD⟩ := gz_both (w := [(h0, .inr (6, [.ref tp, .ref dr, .int y_561, .int y_562, .int y_565, .int y_566, .int y_567])), (tp, .inr (10, [.ref bt, .int b_length])), (bt, .inl (kbt, 1600, .inl fbt))]) hP hD
          have hF := gf_call (a := (y_565, y_566, y_567)) hE hF
          generalize H1 = H at hP hS ⊢
          refine lv_iload_n hx hb (dk_at dkX6_passName 45 rfl) rfl (lv_at hl 0 rfl) ?_
          exact W.iret (v := r_542) hx hb hr (fun t ht hW => ⟨⟨r_542, r_542, rfl, ⟨rfl, (gi_any r_542)⟩, y_561, y_562, y_565, y_566, y_567, (gi_w g_563 (by decide)), gy_566, gy_567, (show q_faultKind.toInt ≤ y_561.toInt from by have qgy_561 := g_563.1; have rgy_561 := g_563.2; have qgy_539 := g_541.1; have rgy_539 := g_541.2; have qgy_474 := g_477.1; have rgy_474 := g_477.2; have qgq_faultKind := gq_faultKind.1; have rgq_faultKind := gq_faultKind.2; have zhpr0_r_473 := Hid.un hpr0_r_473; have zhpr0_r_538 := Hid.un hpr0_r_538; have zhpr0_r_560 := Hid.un hpr0_r_560; omega), (show (y_561.toInt ≠ 0 ∨ p1.toInt = 0 ∨ pnF ep_name e_placeCount r_542 ≠ -1) from by have qgy_561 := g_563.1; have rgy_561 := g_563.2; have qgy_539 := g_541.1; have rgy_539 := g_541.2; have qgy_474 := g_477.1; have rgy_474 := g_477.2; have qgr_543 := g_546.1; have rgr_543 := g_546.2; have qgq_faultKind := gq_faultKind.1; have rgq_faultKind := gq_faultKind.2; have qgp1 := g_559.1; have rgp1 := g_559.2; have qge_placeCount := ge_placeCount.1; have rge_placeCount := ge_placeCount.2; have zhpr0_r_473 := Hid.un hpr0_r_473; have zhpr0_r_538 := Hid.un hpr0_r_538; have zhqr_543 := Hid.un hqr_543; have zhpr0_r_560 := Hid.un hpr0_r_560; omega), hF.trans hR9.symm, by rw [ht]; exact hP, hD⟩, hS.F ht⟩) hS.2.2 (dk_at dkX6_passName 46 rfl)
      · have hF := gf_neg c_544 hF
        have hc_568 : r_543.toInt ≠ (-1) := fun h9 => c_544 (Int32.toInt_inj.mp (by rw [show ((-1) : Int32).toInt = (-1) from by decide]; exact h9))
        have g_569 : gi r_543 0 5 := gi_ne_lo c_544 gr_543 (gi_c (-1) (-1) (by decide)) (by decide)
        refine lv_iconst (v := 1) hx hb (dk_at dkX6_passName 33 rfl) (by decide) ?_
        refine lv_goto (tgt := 65) hx hb (dk_at dkX6_passName 34 rfl) (by decide) ?_
        refine lv_iload_n hx hb (dk_at dkX6_passName 36 rfl) rfl (lv_at hl 2 rfl) ?_
        refine lv_icmp_ne (tgt := 73) hx hb (dk_at dkX6_passName 37 rfl) (by decide) (fun c_570 => ?_) (fun c_570 => ?_)
        · have hF := gf_neg c_570 hF
          have hc_571 : 1 ≠ p1.toInt := fun h9 => c_570 (Int32.toInt_inj.mp (by rw [show (1 : Int32).toInt = 1 from by decide]; exact h9))
          refine lv_iconst (v := 0) hx hb (dk_at dkX6_passName 40 rfl) (by decide) ?_
          refine lv_iconst (v := 2) hx hb (dk_at dkX6_passName 41 rfl) (by decide) ?_
          obtain ⟨hPc, hDc, hFc⟩ := gz_cut (wc := [(h0, .inr (6, [.ref tp, .ref dr, .int y_539, .int y_540, .int q_token, .int q_start, .int q_stop]))]) hP hD hS hA [0] (by decide) rfl
          have hKc := hK.sub (tys' := []) [] rfl
          refine va_callv (va_runV (As := [.int 0, .int 2]) (rest := []) ⟨hx, hb, hml, hown, hts⟩ (sX6_expect l dC dI H.size h0 tp dr y_539 y_540 q_token q_start q_stop 0 2 (gi_w g_541 (by decide)) gq_start gq_stop (gi_w (gi_c 0 0 (by decide)) (by decide)) (gi_w (gi_c 2 2 (by decide)) (by decide))) (cwV 2 hts (gz_gV mGA_250 mGA_251 mGA_252 mGA_9 mGA_253 goodGA) rfl rfl rfl (by decide +kernel) ⟨Nat.le_of_ble_eq_true rfl, Nat.le_of_ble_eq_true rfl⟩) ⟨bl_I (bl_a bl_sz (bl_a bl_P (bl_a bl_K (bl_a bl_c bl_nz)))), va_recv hKc hPc (ci := 6) (q0 := 0) rfl rfl, fun U hU hW => ⟨rfl, by rw [hU], by rw [hU]; exact hPc, va_K.moved hW.alike hKc, hDc.weaken (fun _ _ _ _ => trivial), nzA_warm hW hz⟩⟩ rfl rfl hl.1 rfl (lv_room (Nat.le_of_ble_eq_true rfl)) (dk_at dkX6_passName 42 rfl) ⟨Nat.zero_le _, Nat.zero_le _⟩) hS (fun q _ h => hFc q h) hFc (fun u t H1 locs ht hvm hw hB hz1 hk1 hS => ?_)
          clear hz1
          obtain ⟨y_573, y_574, hB⟩ := hB
          obtain ⟨gy_573, hpr0_r_572, hpr1_r_572, hE, hP1, hD1⟩ := hB
          rw [ht] at hP1
          obtain ⟨hP, hD⟩ := gz_back hP hD hk1 hFc hP1 hD1 [0] rfl rfl
          have hpr0_r_572 : Hid (y_539.toInt ≤ y_573.toInt) := hpr0_r_572
          have g_575 : gi y_573 1 3 := gi_relL (Hid.un hpr0_r_572) g_541 gy_573
          have hpr1_r_572 : Hid (((0 : Int) = 1 ∨ 1 ≤ y_573.toInt)) := by have h9 : ((0 : Int32).toInt = 1 ∨ 1 ≤ y_573.toInt) := hpr1_r_572; rw [show (0 : Int32).toInt = 0 from by decide] at h9; exact h9
          have hf_576 : 1 ≤ y_573.toInt := Hid.resL hpr1_r_572 (by omega)
          obtain ⟨hP, hD⟩ := gz_both (w := [(h0, .inr (6, [.ref tp, .ref dr, .int y_573, .int y_574, .int q_token, .int q_start, .int q_stop])), (tp, .inr (10, [.ref bt, .int b_length])), (bt, .inl (kbt, 1600, .inl fbt))]) hP hD
          have hF := gf_call (a := (y_573, y_574)) hE hF
          generalize H1 = H at hP hS ⊢
          refine lv_aload_n hx hb (dk_at dkX6_passName 43 rfl) rfl (lv_at hl 1 rfl) ?_
          obtain ⟨hPc, hDc, hFc⟩ := gz_cut (wc := [(h0, .inr (6, [.ref tp, .ref dr, .int y_573, .int y_574, .int q_token, .int q_start, .int q_stop])), (tp, .inr (10, [.ref bt, .int b_length])), (bt, .inl (kbt, 1600, .inl fbt))]) hP hD hS hA [0, 1, 2] (by decide) rfl
          have hKc := hK.sub (tys' := [(kbt, .byte)]) [0] rfl
          refine va_callv (va_runV (As := []) (rest := []) ⟨hx, hb, hml, hown, hts⟩ (sX6_step l dC dI H.size h0 tp bt dr y_573 y_574 q_token q_start q_stop b_length kbt fbt (gi_w g_575 (by decide)) gq_start gq_stop gb_length) (cwV 0 hts (gz_gV mGA_162 mGA_163 mGA_164 mGA_9 mGA_165 goodGA) rfl rfl rfl (by decide +kernel) ⟨Nat.le_of_ble_eq_true rfl, Nat.le_of_ble_eq_true rfl⟩) ⟨bl_I (bl_a bl_sz (bl_a bl_P (bl_a bl_K (bl_a bl_c bl_nz)))), va_recv hKc hPc (ci := 6) (q0 := 0) rfl rfl, fun U hU hW => ⟨rfl, by rw [hU], by rw [hU]; exact hPc, va_K.moved hW.alike hKc, hDc.weaken (fun _ _ _ _ => trivial), nzA_warm hW hz⟩⟩ rfl rfl hl.1 rfl (lv_room (Nat.le_of_ble_eq_true rfl)) (dk_at dkX6_passName 44 rfl) ⟨Nat.zero_le _, Nat.zero_le _⟩) hS (fun q _ h => hFc q h) hFc (fun u t H1 locs ht hvm hw hB hz1 hk1 hS => ?_)
          clear hz1
          obtain ⟨y_578, y_579, y_580, hB⟩ := hB
          obtain ⟨gy_579, gy_580, hE, hP1, hD1⟩ := hB
          rw [ht] at hP1
          obtain ⟨hP, hD⟩ := gz_back hP hD hk1 hFc hP1 hD1 [0, 1, 2] rfl rfl
          obtain ⟨hP, hD⟩ := gz_both (w := [(h0, .inr (6, [.ref tp, .ref dr, .int y_573, .int y_574, .int y_578, .int y_579, .int y_580])), (tp, .inr (10, [.ref bt, .int b_length])), (bt, .inl (kbt, 1600, .inl fbt))]) hP hD
          have hF := gf_call (a := (y_578, y_579, y_580)) hE hF
          generalize H1 = H at hP hS ⊢
          refine lv_iload_n hx hb (dk_at dkX6_passName 45 rfl) rfl (lv_at hl 0 rfl) ?_
          exact W.iret (v := r_542) hx hb hr (fun t ht hW => ⟨⟨r_542, r_542, rfl, ⟨rfl, (gi_any r_542)⟩, y_573, y_574, y_578, y_579, y_580, (gi_w g_575 (by decide)), gy_579, gy_580, (show q_faultKind.toInt ≤ y_573.toInt from by have qgy_573 := g_575.1; have rgy_573 := g_575.2; have qgy_539 := g_541.1; have rgy_539 := g_541.2; have qgy_474 := g_477.1; have rgy_474 := g_477.2; have qgq_faultKind := gq_faultKind.1; have rgq_faultKind := gq_faultKind.2; have zhpr0_r_473 := Hid.un hpr0_r_473; have zhpr0_r_538 := Hid.un hpr0_r_538; have zhpr0_r_572 := Hid.un hpr0_r_572; omega), (show (y_573.toInt ≠ 0 ∨ p1.toInt = 0 ∨ pnF ep_name e_placeCount r_542 ≠ -1) from by have qgy_573 := g_575.1; have rgy_573 := g_575.2; have qgy_539 := g_541.1; have rgy_539 := g_541.2; have qgy_474 := g_477.1; have rgy_474 := g_477.2; have qgr_543 := g_569.1; have rgr_543 := g_569.2; have qgq_faultKind := gq_faultKind.1; have rgq_faultKind := gq_faultKind.2; have qgp1 := gp1.1; have rgp1 := gp1.2; have qge_placeCount := ge_placeCount.1; have rge_placeCount := ge_placeCount.2; have zhpr0_r_473 := Hid.un hpr0_r_473; have zhpr0_r_538 := Hid.un hpr0_r_538; have zhqr_543 := Hid.un hqr_543; have zhpr0_r_572 := Hid.un hpr0_r_572; omega), hF.trans hR9.symm, by rw [ht]; exact hP, hD⟩, hS.F ht⟩) hS.2.2 (dk_at dkX6_passName 46 rfl)
        · have hF := gf_pos c_570 hF
          have hc_581 : 1 = p1.toInt := by have h9 := congrArg Int32.toInt c_570; rw [show (1 : Int32).toInt = 1 from by decide] at h9; exact h9
          have g_582 : gi p1 1 1 := gi_eq c_570.symm (gi_c 1 1 (by decide))
          refine lv_iconst (v := 1) hx hb (dk_at dkX6_passName 38 rfl) (by decide) ?_
          refine lv_goto (tgt := 74) hx hb (dk_at dkX6_passName 39 rfl) (by decide) ?_
          refine lv_iconst (v := 2) hx hb (dk_at dkX6_passName 41 rfl) (by decide) ?_
          obtain ⟨hPc, hDc, hFc⟩ := gz_cut (wc := [(h0, .inr (6, [.ref tp, .ref dr, .int y_539, .int y_540, .int q_token, .int q_start, .int q_stop]))]) hP hD hS hA [0] (by decide) rfl
          have hKc := hK.sub (tys' := []) [] rfl
          refine va_callv (va_runV (As := [.int 1, .int 2]) (rest := []) ⟨hx, hb, hml, hown, hts⟩ (sX6_expect l dC dI H.size h0 tp dr y_539 y_540 q_token q_start q_stop 1 2 (gi_w g_541 (by decide)) gq_start gq_stop (gi_w (gi_c 1 1 (by decide)) (by decide)) (gi_w (gi_c 2 2 (by decide)) (by decide))) (cwV 2 hts (gz_gV mGA_250 mGA_251 mGA_252 mGA_9 mGA_253 goodGA) rfl rfl rfl (by decide +kernel) ⟨Nat.le_of_ble_eq_true rfl, Nat.le_of_ble_eq_true rfl⟩) ⟨bl_I (bl_a bl_sz (bl_a bl_P (bl_a bl_K (bl_a bl_c bl_nz)))), va_recv hKc hPc (ci := 6) (q0 := 0) rfl rfl, fun U hU hW => ⟨rfl, by rw [hU], by rw [hU]; exact hPc, va_K.moved hW.alike hKc, hDc.weaken (fun _ _ _ _ => trivial), nzA_warm hW hz⟩⟩ rfl rfl hl.1 rfl (lv_room (Nat.le_of_ble_eq_true rfl)) (dk_at dkX6_passName 42 rfl) ⟨Nat.zero_le _, Nat.zero_le _⟩) hS (fun q _ h => hFc q h) hFc (fun u t H1 locs ht hvm hw hB hz1 hk1 hS => ?_)
          clear hz1
          obtain ⟨y_584, y_585, hB⟩ := hB
          obtain ⟨gy_584, hpr0_r_583, hpr1_r_583, hE, hP1, hD1⟩ := hB
          rw [ht] at hP1
          obtain ⟨hP, hD⟩ := gz_back hP hD hk1 hFc hP1 hD1 [0] rfl rfl
          have hpr0_r_583 : Hid (y_539.toInt ≤ y_584.toInt) := hpr0_r_583
          have g_586 : gi y_584 1 3 := gi_relL (Hid.un hpr0_r_583) g_541 gy_584
          have hpr1_r_583 : Hid (((1 : Int) = 1 ∨ 1 ≤ y_584.toInt)) := by have h9 : ((1 : Int32).toInt = 1 ∨ 1 ≤ y_584.toInt) := hpr1_r_583; rw [show (1 : Int32).toInt = 1 from by decide] at h9; exact h9
          obtain ⟨hP, hD⟩ := gz_both (w := [(h0, .inr (6, [.ref tp, .ref dr, .int y_584, .int y_585, .int q_token, .int q_start, .int q_stop])), (tp, .inr (10, [.ref bt, .int b_length])), (bt, .inl (kbt, 1600, .inl fbt))]) hP hD
          have hF := gf_call (a := (y_584, y_585)) hE hF
          generalize H1 = H at hP hS ⊢
          refine lv_aload_n hx hb (dk_at dkX6_passName 43 rfl) rfl (lv_at hl 1 rfl) ?_
          obtain ⟨hPc, hDc, hFc⟩ := gz_cut (wc := [(h0, .inr (6, [.ref tp, .ref dr, .int y_584, .int y_585, .int q_token, .int q_start, .int q_stop])), (tp, .inr (10, [.ref bt, .int b_length])), (bt, .inl (kbt, 1600, .inl fbt))]) hP hD hS hA [0, 1, 2] (by decide) rfl
          have hKc := hK.sub (tys' := [(kbt, .byte)]) [0] rfl
          refine va_callv (va_runV (As := []) (rest := []) ⟨hx, hb, hml, hown, hts⟩ (sX6_step l dC dI H.size h0 tp bt dr y_584 y_585 q_token q_start q_stop b_length kbt fbt (gi_w g_586 (by decide)) gq_start gq_stop gb_length) (cwV 0 hts (gz_gV mGA_162 mGA_163 mGA_164 mGA_9 mGA_165 goodGA) rfl rfl rfl (by decide +kernel) ⟨Nat.le_of_ble_eq_true rfl, Nat.le_of_ble_eq_true rfl⟩) ⟨bl_I (bl_a bl_sz (bl_a bl_P (bl_a bl_K (bl_a bl_c bl_nz)))), va_recv hKc hPc (ci := 6) (q0 := 0) rfl rfl, fun U hU hW => ⟨rfl, by rw [hU], by rw [hU]; exact hPc, va_K.moved hW.alike hKc, hDc.weaken (fun _ _ _ _ => trivial), nzA_warm hW hz⟩⟩ rfl rfl hl.1 rfl (lv_room (Nat.le_of_ble_eq_true rfl)) (dk_at dkX6_passName 44 rfl) ⟨Nat.zero_le _, Nat.zero_le _⟩) hS (fun q _ h => hFc q h) hFc (fun u t H1 locs ht hvm hw hB hz1 hk1 hS => ?_)
          clear hz1
          obtain ⟨y_588, y_589, y_590, hB⟩ := hB
          obtain ⟨gy_589, gy_590, hE, hP1, hD1⟩ := hB
          rw [ht] at hP1
          obtain ⟨hP, hD⟩ := gz_back hP hD hk1 hFc hP1 hD1 [0, 1, 2] rfl rfl
          obtain ⟨hP, hD⟩ := gz_both (w := [(h0, .inr (6, [.ref tp, .ref dr, .int y_584, .int y_585, .int y_588, .int y_589, .int y_590])), (tp, .inr (10, [.ref bt, .int b_length])), (bt, .inl (kbt, 1600, .inl fbt))]) hP hD
          have hF := gf_call (a := (y_588, y_589, y_590)) hE hF
          generalize H1 = H at hP hS ⊢
          refine lv_iload_n hx hb (dk_at dkX6_passName 45 rfl) rfl (lv_at hl 0 rfl) ?_
          exact W.iret (v := r_542) hx hb hr (fun t ht hW => ⟨⟨r_542, r_542, rfl, ⟨rfl, (gi_any r_542)⟩, y_584, y_585, y_588, y_589, y_590, (gi_w g_586 (by decide)), gy_589, gy_590, (show q_faultKind.toInt ≤ y_584.toInt from by have qgy_584 := g_586.1; have rgy_584 := g_586.2; have qgy_539 := g_541.1; have rgy_539 := g_541.2; have qgy_474 := g_477.1; have rgy_474 := g_477.2; have qgq_faultKind := gq_faultKind.1; have rgq_faultKind := gq_faultKind.2; have zhpr0_r_473 := Hid.un hpr0_r_473; have zhpr0_r_538 := Hid.un hpr0_r_538; have zhpr0_r_583 := Hid.un hpr0_r_583; omega), (show (y_584.toInt ≠ 0 ∨ p1.toInt = 0 ∨ pnF ep_name e_placeCount r_542 ≠ -1) from by have qgy_584 := g_586.1; have rgy_584 := g_586.2; have qgy_539 := g_541.1; have rgy_539 := g_541.2; have qgy_474 := g_477.1; have rgy_474 := g_477.2; have qgr_543 := g_569.1; have rgr_543 := g_569.2; have qgq_faultKind := gq_faultKind.1; have rgq_faultKind := gq_faultKind.2; have qgp1 := g_582.1; have rgp1 := g_582.2; have qge_placeCount := ge_placeCount.1; have rge_placeCount := ge_placeCount.2; have zhpr0_r_473 := Hid.un hpr0_r_473; have zhpr0_r_538 := Hid.un hpr0_r_538; have zhqr_543 := Hid.un hqr_543; have zhpr0_r_583 := Hid.un hpr0_r_583; omega), hF.trans hR9.symm, by rw [ht]; exact hP, hD⟩, hS.F ht⟩) hS.2.2 (dk_at dkX6_passName 46 rfl)
  · have hF := gf_pos c_471 hF
    have hc_591 : q_token.toInt = 2 := by have h9 := congrArg Int32.toInt c_471; rw [show (2 : Int32).toInt = 2 from by decide] at h9; exact h9
    have g_592 : gi q_token 2 2 := gi_eq c_471 (gi_c 2 2 (by decide))
    refine lv_iconst (v := 1) hx hb (dk_at dkX6_passName 5 rfl) (by decide) ?_
    refine lv_goto (tgt := 14) hx hb (dk_at dkX6_passName 6 rfl) (by decide) ?_
    refine lv_iconst (v := 1) hx hb (dk_at dkX6_passName 8 rfl) (by decide) ?_
    obtain ⟨hPc, hDc, hFc⟩ := gz_cut (wc := [(h0, .inr (6, [.ref tp, .ref dr, .int q_faultKind, .int q_faultPlace, .int q_token, .int q_start, .int q_stop]))]) hP hD hS hA [0] (by decide) rfl
    have hKc := hK.sub (tys' := []) [] rfl
    refine va_callv (va_runV (As := [.int 1, .int 1]) (rest := []) ⟨hx, hb, hml, hown, hts⟩ (sX6_expect l dC dI s.heap.size h0 tp dr q_faultKind q_faultPlace q_token q_start q_stop 1 1 gq_faultKind gq_start gq_stop (gi_w (gi_c 1 1 (by decide)) (by decide)) (gi_w (gi_c 1 1 (by decide)) (by decide))) (cwV 2 hts (gz_gV mGA_250 mGA_251 mGA_252 mGA_9 mGA_253 goodGA) rfl rfl rfl (by decide +kernel) ⟨Nat.le_of_ble_eq_true rfl, Nat.le_of_ble_eq_true rfl⟩) ⟨bl_I (bl_a bl_sz (bl_a bl_P (bl_a bl_K (bl_a bl_c bl_nz)))), va_recv hKc hPc (ci := 6) (q0 := 0) rfl rfl, fun U hU hW => ⟨rfl, by rw [hU], by rw [hU]; exact hPc, va_K.moved hW.alike hKc, hDc.weaken (fun _ _ _ _ => trivial), nzA_warm hW hz⟩⟩ rfl rfl hl.1 rfl (lv_room (Nat.le_of_ble_eq_true rfl)) (dk_at dkX6_passName 9 rfl) ⟨Nat.zero_le _, Nat.zero_le _⟩) hS (fun q _ h => hFc q h) hFc (fun u t H1 locs ht hvm hw hB hz1 hk1 hS => ?_)
    clear hz1
    obtain ⟨y_594, y_595, hB⟩ := hB
    obtain ⟨gy_594, hpr0_r_593, hpr1_r_593, hE, hP1, hD1⟩ := hB
    rw [ht] at hP1
    obtain ⟨hP, hD⟩ := gz_back hP hD hk1 hFc hP1 hD1 [0] rfl rfl
    have hpr0_r_593 : Hid (q_faultKind.toInt ≤ y_594.toInt) := hpr0_r_593
    have hpr1_r_593 : Hid (((1 : Int) = 1 ∨ 1 ≤ y_594.toInt)) := by have h9 : ((1 : Int32).toInt = 1 ∨ 1 ≤ y_594.toInt) := hpr1_r_593; rw [show (1 : Int32).toInt = 1 from by decide] at h9; exact h9
    obtain ⟨hP, hD⟩ := gz_both (w := [(h0, .inr (6, [.ref tp, .ref dr, .int y_594, .int y_595, .int q_token, .int q_start, .int q_stop])), (tp, .inr (10, [.ref bt, .int b_length])), (bt, .inl (kbt, 1600, .inl fbt))]) hP hD
    have hF := gf_call (a := (y_594, y_595)) hE hF
    generalize H1 = H at hP hS ⊢
    refine lv_aload_n hx hb (dk_at dkX6_passName 10 rfl) rfl (lv_at hl 0 rfl) ?_
    refine lv_aload_n hx hb (dk_at dkX6_passName 11 rfl) rfl (lv_at hl 0 rfl) ?_
    refine va_get (D := (dC, dI)) (ci := 6) (v := .int q_stop) (C := RX6) (T := TX6) (N := 7) hx hb hts (fun w h => List.mem_cons_of_mem _ (jnGA_X6 w h)) hown hK hP 0 rfl rfl 6 (by decide) (hts _ (List.mem_cons_of_mem _ mGA_59)) (fun _ h9 => h9) rfl (dk_at dkX6_passName 12 rfl) ?_
    refine lv_aload_n hx hb (dk_at dkX6_passName 13 rfl) rfl (lv_at hl 0 rfl) ?_
    refine va_get (D := (dC, dI)) (ci := 6) (v := .int q_start) (C := RX6) (T := TX6) (N := 7) hx hb hts (fun w h => List.mem_cons_of_mem _ (jnGA_X6 w h)) hown hK hP 0 rfl rfl 5 (by decide) (hts _ (List.mem_cons_of_mem _ mGA_58)) (fun _ h9 => h9) rfl (dk_at dkX6_passName 14 rfl) ?_
    refine lv_isub hx hb (dk_at dkX6_passName 15 rfl) ?_
    refine lv_topi (fun x_596 ex_596 => ?_)
    have gx_596 : gi x_596 (-1600) 1600 := gi_sub ex_596 gq_stop gq_start (by decide)
    refine lv_bipush (v := 6) hx hb (dk_at dkX6_passName 16 rfl) (by decide) ?_
    refine lv_icmp_gt (tgt := 37) hx hb (dk_at dkX6_passName 17 rfl) (by decide) (fun c_597 => ?_) (fun c_597 => ?_)
    · have hF := gf_pos (by rw [ex_596] at c_597; exact c_597) hF
      have hc_598 : 6 < x_596.toInt := by have h9 := Int32.lt_iff_toInt_lt.mp c_597; rw [show (6 : Int32).toInt = 6 from by decide] at h9; exact h9
      have g_599 : gi x_596 7 1600 := gi_lt_r c_597 (gi_c 6 6 (by decide)) gx_596 (by decide)
      refine lv_iconst (v := 0) hx hb (dk_at dkX6_passName 20 rfl) (by decide) ?_
      refine lv_iconst (v := 2) hx hb (dk_at dkX6_passName 21 rfl) (by decide) ?_
      obtain ⟨hPc, hDc, hFc⟩ := gz_cut (wc := [(h0, .inr (6, [.ref tp, .ref dr, .int y_594, .int y_595, .int q_token, .int q_start, .int q_stop]))]) hP hD hS hA [0] (by decide) rfl
      have hKc := hK.sub (tys' := []) [] rfl
      refine va_callv (va_runV (As := [.int 0, .int 2]) (rest := []) ⟨hx, hb, hml, hown, hts⟩ (sX6_expect l dC dI H.size h0 tp dr y_594 y_595 q_token q_start q_stop 0 2 gy_594 gq_start gq_stop (gi_w (gi_c 0 0 (by decide)) (by decide)) (gi_w (gi_c 2 2 (by decide)) (by decide))) (cwV 2 hts (gz_gV mGA_250 mGA_251 mGA_252 mGA_9 mGA_253 goodGA) rfl rfl rfl (by decide +kernel) ⟨Nat.le_of_ble_eq_true rfl, Nat.le_of_ble_eq_true rfl⟩) ⟨bl_I (bl_a bl_sz (bl_a bl_P (bl_a bl_K (bl_a bl_c bl_nz)))), va_recv hKc hPc (ci := 6) (q0 := 0) rfl rfl, fun U hU hW => ⟨rfl, by rw [hU], by rw [hU]; exact hPc, va_K.moved hW.alike hKc, hDc.weaken (fun _ _ _ _ => trivial), nzA_warm hW hz⟩⟩ rfl rfl hl.1 rfl (lv_room (Nat.le_of_ble_eq_true rfl)) (dk_at dkX6_passName 22 rfl) ⟨Nat.zero_le _, Nat.zero_le _⟩) hS (fun q _ h => hFc q h) hFc (fun u t H1 locs ht hvm hw hB hz1 hk1 hS => ?_)
      clear hz1
      obtain ⟨y_601, y_602, hB⟩ := hB
      obtain ⟨gy_601, hpr0_r_600, hpr1_r_600, hE, hP1, hD1⟩ := hB
      rw [ht] at hP1
      obtain ⟨hP, hD⟩ := gz_back hP hD hk1 hFc hP1 hD1 [0] rfl rfl
      have hpr0_r_600 : Hid (y_594.toInt ≤ y_601.toInt) := hpr0_r_600
      have hpr1_r_600 : Hid (((0 : Int) = 1 ∨ 1 ≤ y_601.toInt)) := by have h9 : ((0 : Int32).toInt = 1 ∨ 1 ≤ y_601.toInt) := hpr1_r_600; rw [show (0 : Int32).toInt = 0 from by decide] at h9; exact h9
      have hf_603 : 1 ≤ y_601.toInt := Hid.resL hpr1_r_600 (by omega)
      have g_604 : gi y_601 1 3 := ⟨by omega, gy_601.2⟩
      obtain ⟨hP, hD⟩ := gz_both (w := [(h0, .inr (6, [.ref tp, .ref dr, .int y_601, .int y_602, .int q_token, .int q_start, .int q_stop])), (tp, .inr (10, [.ref bt, .int b_length])), (bt, .inl (kbt, 1600, .inl fbt))]) hP hD
      have hF := gf_call (a := (y_601, y_602)) hE hF
      generalize H1 = H at hP hS ⊢
      refine lv_aload_n hx hb (dk_at dkX6_passName 23 rfl) rfl (lv_at hl 0 rfl) ?_
      have hPc := hP.sub (ws' := [(h0, .inr (6, [.ref tp, .ref dr, .int y_601, .int y_602, .int q_token, .int q_start, .int q_stop])), (tp, .inr (10, [.ref bt, .int b_length])), (bt, .inl (kbt, 1600, .inl fbt))]) [0, 1, 2] rfl
      have hKc := hK.sub (tys' := [(kbt, .byte)]) [0] rfl
      refine va_calli (va_runV (As := []) (rest := []) ⟨hx, hb, hml, hown, hts⟩ (sX6_nameHere l dC dI h0 tp bt dr y_601 y_602 q_token q_start q_stop b_length kbt fbt (gi_w g_604 (by decide)) gq_start gq_stop gb_length) (cwV 0 hts (gz_gV mGA_294 mGA_295 mGA_296 mGA_9 mGA_297 goodGA) rfl rfl rfl (by decide +kernel) ⟨Nat.le_of_ble_eq_true rfl, Nat.le_of_ble_eq_true rfl⟩) ⟨bl_I (bl_a bl_P (bl_a bl_K bl_nz)), va_recv hKc hPc (ci := 6) (q0 := 0) rfl rfl, fun U hU hW => ⟨rfl, by rw [hU]; exact hPc, va_K.moved hW.alike hKc, nzA_warm hW hz⟩⟩ rfl rfl hl.1 rfl (lv_room (Nat.le_of_ble_eq_true rfl)) (dk_at dkX6_passName 24 rfl) ⟨Nat.zero_le _, Nat.zero_le _⟩) hS (fun q _ h => h.elim) (fun q h => h.elim) (fun r_605 u t H1 locs ht hvm hw hB hz1 hk1 hS => ?_)
      clear hz1
      obtain ⟨hw, hE⟩ := hw
      have hP := gz_keep hP hk1
      have hF := gf_call (a := r_605) hE hF
      generalize H1 = H at hP hS ⊢
      refine lv_istore_n (lv' := [(2, .int r_605), (0, .ref h0), (1, .int p1)]) hx hb (dk_at dkX6_passName 25 rfl) rfl hl (by decide) rfl (fun ls hl => ?_)
      refine lv_aload_n hx hb (dk_at dkX6_passName 26 rfl) rfl (lv_at hl 1 rfl) ?_
      refine lv_aload_n hx hb (dk_at dkX6_passName 27 rfl) rfl (lv_at hl 1 rfl) ?_
      refine va_get (D := (dC, dI)) (ci := 6) (v := .ref dr) (C := RX6) (T := TX6) (N := 7) hx hb hts (fun w h => List.mem_cons_of_mem _ (jnGA_X6 w h)) hown hK hP 0 rfl rfl 1 (by decide) (hts _ (List.mem_cons_of_mem _ mGA_54)) (fun _ h9 => h9) rfl (dk_at dkX6_passName 28 rfl) ?_
      refine lv_iload_n hx hb (dk_at dkX6_passName 29 rfl) rfl (lv_at hl 0 rfl) ?_
      have hPc : va_P (dC, dI) vwCl [(dr, .inr (0, [.int e_months, .int e_full, .int e_lean, .int e_lines, .int e_hasMoon, .int e_moonStart, .int e_moonStep, .int e_placeCount, .int e_reportCount, .int e_deedCount, .ref dpl, .ref dre, .ref dde])), (dpl, .inl (kdpl, 6, .inr (.inr (.inr (.inr (fun i => some (dpa i)))))))] H := (gz_cat ((gz_ro hR hRA hS).sub [0] rfl) ((gz_ro hR hRA hS).sub [1] rfl))
      have hKc := hK.sub (tys' := [(kdpl, .object RX5)]) [1] rfl
      refine va_calli (va_runV (As := [.int r_605]) (rest := [.ref h0]) ⟨hx, hb, hml, hown, hts⟩ (sX0_placeNamedF l dC dI dr dpl e_months e_full e_lean e_lines e_hasMoon e_moonStart e_moonStep e_placeCount e_reportCount e_deedCount dre dde kdpl dpa ep_name ep_trust r_605 ge_months ge_full ge_lean ge_hasMoon ge_placeCount ge_reportCount ge_deedCount) (cwV 1 hts (gz_gV mGA_298 mGA_299 mGA_300 mGA_13 mGA_301 goodGA) rfl rfl rfl (by decide +kernel) ⟨Nat.le_of_ble_eq_true rfl, Nat.le_of_ble_eq_true rfl⟩) ⟨bl_I (bl_a bl_P (bl_a bl_K (bl_a bl_nz bl_P))), va_recv hKc hPc (ci := 0) (q0 := 0) rfl rfl, fun U hU hW => ⟨rfl, by rw [hU]; exact hPc, va_K.moved hW.alike hKc, nzA_warm hW hz, by rw [hU]; exact gz_ro hF0 hFA0 hS⟩⟩ rfl rfl hl.1 rfl (lv_room (Nat.le_of_ble_eq_true rfl)) (dk_at dkX6_passName 30 rfl) ⟨Nat.zero_le _, Nat.zero_le _⟩) hS (fun q _ h => h.elim) (fun q h => h.elim) (fun r_606 u t H1 locs ht hvm hw hB hz1 hk1 hS => ?_)
      clear hz1
      obtain ⟨hw, hE⟩ := hw
      have hP := gz_keep hP hk1
      have hF := gf_call (a := r_606) hE hF
      generalize H1 = H at hP hS ⊢
      have gr_606 : gi r_606 (-1) 5 := hw.1
      have hqr_606 := hw.2
      have hqr_606 : Hid (r_606.toInt = pnF ep_name e_placeCount r_605) := hqr_606
      clear hw
      refine lv_iconst (v := (-1)) hx hb (dk_at dkX6_passName 31 rfl) (by decide) ?_
      refine lv_icmp_eq (tgt := 64) hx hb (dk_at dkX6_passName 32 rfl) (by decide) (fun c_607 => ?_) (fun c_607 => ?_)
      · have hF := gf_pos c_607 hF
        have hc_608 : r_606.toInt = (-1) := by have h9 := congrArg Int32.toInt c_607; rw [show ((-1) : Int32).toInt = (-1) from by decide] at h9; exact h9
        have g_609 : gi r_606 (-1) (-1) := gi_eq c_607 (gi_c (-1) (-1) (by decide))
        refine lv_iconst (v := 0) hx hb (dk_at dkX6_passName 35 rfl) (by decide) ?_
        refine lv_iload_n hx hb (dk_at dkX6_passName 36 rfl) rfl (lv_at hl 2 rfl) ?_
        refine lv_icmp_ne (tgt := 73) hx hb (dk_at dkX6_passName 37 rfl) (by decide) (fun c_610 => ?_) (fun c_610 => ?_)
        · have hF := gf_neg c_610 hF
          have hc_611 : 0 ≠ p1.toInt := fun h9 => c_610 (Int32.toInt_inj.mp (by rw [show (0 : Int32).toInt = 0 from by decide]; exact h9))
          refine lv_iconst (v := 0) hx hb (dk_at dkX6_passName 40 rfl) (by decide) ?_
          refine lv_iconst (v := 2) hx hb (dk_at dkX6_passName 41 rfl) (by decide) ?_
          obtain ⟨hPc, hDc, hFc⟩ := gz_cut (wc := [(h0, .inr (6, [.ref tp, .ref dr, .int y_601, .int y_602, .int q_token, .int q_start, .int q_stop]))]) hP hD hS hA [0] (by decide) rfl
          have hKc := hK.sub (tys' := []) [] rfl
          refine va_callv (va_runV (As := [.int 0, .int 2]) (rest := []) ⟨hx, hb, hml, hown, hts⟩ (sX6_expect l dC dI H.size h0 tp dr y_601 y_602 q_token q_start q_stop 0 2 (gi_w g_604 (by decide)) gq_start gq_stop (gi_w (gi_c 0 0 (by decide)) (by decide)) (gi_w (gi_c 2 2 (by decide)) (by decide))) (cwV 2 hts (gz_gV mGA_250 mGA_251 mGA_252 mGA_9 mGA_253 goodGA) rfl rfl rfl (by decide +kernel) ⟨Nat.le_of_ble_eq_true rfl, Nat.le_of_ble_eq_true rfl⟩) ⟨bl_I (bl_a bl_sz (bl_a bl_P (bl_a bl_K (bl_a bl_c bl_nz)))), va_recv hKc hPc (ci := 6) (q0 := 0) rfl rfl, fun U hU hW => ⟨rfl, by rw [hU], by rw [hU]; exact hPc, va_K.moved hW.alike hKc, hDc.weaken (fun _ _ _ _ => trivial), nzA_warm hW hz⟩⟩ rfl rfl hl.1 rfl (lv_room (Nat.le_of_ble_eq_true rfl)) (dk_at dkX6_passName 42 rfl) ⟨Nat.zero_le _, Nat.zero_le _⟩) hS (fun q _ h => hFc q h) hFc (fun u t H1 locs ht hvm hw hB hz1 hk1 hS => ?_)
          clear hz1
          obtain ⟨y_613, y_614, hB⟩ := hB
          obtain ⟨gy_613, hpr0_r_612, hpr1_r_612, hE, hP1, hD1⟩ := hB
          rw [ht] at hP1
          obtain ⟨hP, hD⟩ := gz_back hP hD hk1 hFc hP1 hD1 [0] rfl rfl
          have hpr0_r_612 : Hid (y_601.toInt ≤ y_613.toInt) := hpr0_r_612
          have g_615 : gi y_613 1 3 := gi_relL (Hid.un hpr0_r_612) g_604 gy_613
          have hpr1_r_612 : Hid (((0 : Int) = 1 ∨ 1 ≤ y_613.toInt)) := by have h9 : ((0 : Int32).toInt = 1 ∨ 1 ≤ y_613.toInt) := hpr1_r_612; rw [show (0 : Int32).toInt = 0 from by decide] at h9; exact h9
          have hf_616 : 1 ≤ y_613.toInt := Hid.resL hpr1_r_612 (by omega)
          obtain ⟨hP, hD⟩ := gz_both (w := [(h0, .inr (6, [.ref tp, .ref dr, .int y_613, .int y_614, .int q_token, .int q_start, .int q_stop])), (tp, .inr (10, [.ref bt, .int b_length])), (bt, .inl (kbt, 1600, .inl fbt))]) hP hD
          have hF := gf_call (a := (y_613, y_614)) hE hF
          generalize H1 = H at hP hS ⊢
          refine lv_aload_n hx hb (dk_at dkX6_passName 43 rfl) rfl (lv_at hl 1 rfl) ?_
          obtain ⟨hPc, hDc, hFc⟩ := gz_cut (wc := [(h0, .inr (6, [.ref tp, .ref dr, .int y_613, .int y_614, .int q_token, .int q_start, .int q_stop])), (tp, .inr (10, [.ref bt, .int b_length])), (bt, .inl (kbt, 1600, .inl fbt))]) hP hD hS hA [0, 1, 2] (by decide) rfl
          have hKc := hK.sub (tys' := [(kbt, .byte)]) [0] rfl
          refine va_callv (va_runV (As := []) (rest := []) ⟨hx, hb, hml, hown, hts⟩ (sX6_step l dC dI H.size h0 tp bt dr y_613 y_614 q_token q_start q_stop b_length kbt fbt (gi_w g_615 (by decide)) gq_start gq_stop gb_length) (cwV 0 hts (gz_gV mGA_162 mGA_163 mGA_164 mGA_9 mGA_165 goodGA) rfl rfl rfl (by decide +kernel) ⟨Nat.le_of_ble_eq_true rfl, Nat.le_of_ble_eq_true rfl⟩) ⟨bl_I (bl_a bl_sz (bl_a bl_P (bl_a bl_K (bl_a bl_c bl_nz)))), va_recv hKc hPc (ci := 6) (q0 := 0) rfl rfl, fun U hU hW => ⟨rfl, by rw [hU], by rw [hU]; exact hPc, va_K.moved hW.alike hKc, hDc.weaken (fun _ _ _ _ => trivial), nzA_warm hW hz⟩⟩ rfl rfl hl.1 rfl (lv_room (Nat.le_of_ble_eq_true rfl)) (dk_at dkX6_passName 44 rfl) ⟨Nat.zero_le _, Nat.zero_le _⟩) hS (fun q _ h => hFc q h) hFc (fun u t H1 locs ht hvm hw hB hz1 hk1 hS => ?_)
          clear hz1
          obtain ⟨y_618, y_619, y_620, hB⟩ := hB
          obtain ⟨gy_619, gy_620, hE, hP1, hD1⟩ := hB
          rw [ht] at hP1
          obtain ⟨hP, hD⟩ := gz_back hP hD hk1 hFc hP1 hD1 [0, 1, 2] rfl rfl
          obtain ⟨hP, hD⟩ := gz_both (w := [(h0, .inr (6, [.ref tp, .ref dr, .int y_613, .int y_614, .int y_618, .int y_619, .int y_620])), (tp, .inr (10, [.ref bt, .int b_length])), (bt, .inl (kbt, 1600, .inl fbt))]) hP hD
          have hF := gf_call (a := (y_618, y_619, y_620)) hE hF
          generalize H1 = H at hP hS ⊢
          refine lv_iload_n hx hb (dk_at dkX6_passName 45 rfl) rfl (lv_at hl 0 rfl) ?_
          exact W.iret (v := r_605) hx hb hr (fun t ht hW => ⟨⟨r_605, r_605, rfl, ⟨rfl, (gi_any r_605)⟩, y_613, y_614, y_618, y_619, y_620, (gi_w g_615 (by decide)), gy_619, gy_620, (show q_faultKind.toInt ≤ y_613.toInt from by have qgy_613 := g_615.1; have rgy_613 := g_615.2; have qgy_601 := g_604.1; have rgy_601 := g_604.2; have qgy_594 := gy_594.1; have rgy_594 := gy_594.2; have qgq_faultKind := gq_faultKind.1; have rgq_faultKind := gq_faultKind.2; have zhpr0_r_593 := Hid.un hpr0_r_593; have zhpr0_r_600 := Hid.un hpr0_r_600; have zhpr0_r_612 := Hid.un hpr0_r_612; omega), (show (y_613.toInt ≠ 0 ∨ p1.toInt = 0 ∨ pnF ep_name e_placeCount r_605 ≠ -1) from by have qgy_613 := g_615.1; have rgy_613 := g_615.2; have qgy_601 := g_604.1; have rgy_601 := g_604.2; have qgy_594 := gy_594.1; have rgy_594 := gy_594.2; have qgr_606 := g_609.1; have rgr_606 := g_609.2; have qgq_faultKind := gq_faultKind.1; have rgq_faultKind := gq_faultKind.2; have qgp1 := gp1.1; have rgp1 := gp1.2; have qge_placeCount := ge_placeCount.1; have rge_placeCount := ge_placeCount.2; have zhpr0_r_593 := Hid.un hpr0_r_593; have zhpr0_r_600 := Hid.un hpr0_r_600; have zhqr_606 := Hid.un hqr_606; have zhpr0_r_612 := Hid.un hpr0_r_612; omega), hF.trans hR9.symm, by rw [ht]; exact hP, hD⟩, hS.F ht⟩) hS.2.2 (dk_at dkX6_passName 46 rfl)
        · have hF := gf_pos c_610 hF
          have hc_621 : 0 = p1.toInt := by have h9 := congrArg Int32.toInt c_610; rw [show (0 : Int32).toInt = 0 from by decide] at h9; exact h9
          have g_622 : gi p1 0 0 := gi_eq c_610.symm (gi_c 0 0 (by decide))
          refine lv_iconst (v := 1) hx hb (dk_at dkX6_passName 38 rfl) (by decide) ?_
          refine lv_goto (tgt := 74) hx hb (dk_at dkX6_passName 39 rfl) (by decide) ?_
          refine lv_iconst (v := 2) hx hb (dk_at dkX6_passName 41 rfl) (by decide) ?_
          obtain ⟨hPc, hDc, hFc⟩ := gz_cut (wc := [(h0, .inr (6, [.ref tp, .ref dr, .int y_601, .int y_602, .int q_token, .int q_start, .int q_stop]))]) hP hD hS hA [0] (by decide) rfl
          have hKc := hK.sub (tys' := []) [] rfl
          refine va_callv (va_runV (As := [.int 1, .int 2]) (rest := []) ⟨hx, hb, hml, hown, hts⟩ (sX6_expect l dC dI H.size h0 tp dr y_601 y_602 q_token q_start q_stop 1 2 (gi_w g_604 (by decide)) gq_start gq_stop (gi_w (gi_c 1 1 (by decide)) (by decide)) (gi_w (gi_c 2 2 (by decide)) (by decide))) (cwV 2 hts (gz_gV mGA_250 mGA_251 mGA_252 mGA_9 mGA_253 goodGA) rfl rfl rfl (by decide +kernel) ⟨Nat.le_of_ble_eq_true rfl, Nat.le_of_ble_eq_true rfl⟩) ⟨bl_I (bl_a bl_sz (bl_a bl_P (bl_a bl_K (bl_a bl_c bl_nz)))), va_recv hKc hPc (ci := 6) (q0 := 0) rfl rfl, fun U hU hW => ⟨rfl, by rw [hU], by rw [hU]; exact hPc, va_K.moved hW.alike hKc, hDc.weaken (fun _ _ _ _ => trivial), nzA_warm hW hz⟩⟩ rfl rfl hl.1 rfl (lv_room (Nat.le_of_ble_eq_true rfl)) (dk_at dkX6_passName 42 rfl) ⟨Nat.zero_le _, Nat.zero_le _⟩) hS (fun q _ h => hFc q h) hFc (fun u t H1 locs ht hvm hw hB hz1 hk1 hS => ?_)
          clear hz1
          obtain ⟨y_624, y_625, hB⟩ := hB
          obtain ⟨gy_624, hpr0_r_623, hpr1_r_623, hE, hP1, hD1⟩ := hB
          rw [ht] at hP1
          obtain ⟨hP, hD⟩ := gz_back hP hD hk1 hFc hP1 hD1 [0] rfl rfl
          have hpr0_r_623 : Hid (y_601.toInt ≤ y_624.toInt) := hpr0_r_623
          have g_626 : gi y_624 1 3 := gi_relL (Hid.un hpr0_r_623) g_604 gy_624
          have hpr1_r_623 : Hid (((1 : Int) = 1 ∨ 1 ≤ y_624.toInt)) := by have h9 : ((1 : Int32).toInt = 1 ∨ 1 ≤ y_624.toInt) := hpr1_r_623; rw [show (1 : Int32).toInt = 1 from by decide] at h9; exact h9
          obtain ⟨hP, hD⟩ := gz_both (w := [(h0, .inr (6, [.ref tp, .ref dr, .int y_624, .int y_625, .int q_token, .int q_start, .int q_stop])), (tp, .inr (10, [.ref bt, .int b_length])), (bt, .inl (kbt, 1600, .inl fbt))]) hP hD
          have hF := gf_call (a := (y_624, y_625)) hE hF
          generalize H1 = H at hP hS ⊢
          refine lv_aload_n hx hb (dk_at dkX6_passName 43 rfl) rfl (lv_at hl 1 rfl) ?_
          obtain ⟨hPc, hDc, hFc⟩ := gz_cut (wc := [(h0, .inr (6, [.ref tp, .ref dr, .int y_624, .int y_625, .int q_token, .int q_start, .int q_stop])), (tp, .inr (10, [.ref bt, .int b_length])), (bt, .inl (kbt, 1600, .inl fbt))]) hP hD hS hA [0, 1, 2] (by decide) rfl
          have hKc := hK.sub (tys' := [(kbt, .byte)]) [0] rfl
          refine va_callv (va_runV (As := []) (rest := []) ⟨hx, hb, hml, hown, hts⟩ (sX6_step l dC dI H.size h0 tp bt dr y_624 y_625 q_token q_start q_stop b_length kbt fbt (gi_w g_626 (by decide)) gq_start gq_stop gb_length) (cwV 0 hts (gz_gV mGA_162 mGA_163 mGA_164 mGA_9 mGA_165 goodGA) rfl rfl rfl (by decide +kernel) ⟨Nat.le_of_ble_eq_true rfl, Nat.le_of_ble_eq_true rfl⟩) ⟨bl_I (bl_a bl_sz (bl_a bl_P (bl_a bl_K (bl_a bl_c bl_nz)))), va_recv hKc hPc (ci := 6) (q0 := 0) rfl rfl, fun U hU hW => ⟨rfl, by rw [hU], by rw [hU]; exact hPc, va_K.moved hW.alike hKc, hDc.weaken (fun _ _ _ _ => trivial), nzA_warm hW hz⟩⟩ rfl rfl hl.1 rfl (lv_room (Nat.le_of_ble_eq_true rfl)) (dk_at dkX6_passName 44 rfl) ⟨Nat.zero_le _, Nat.zero_le _⟩) hS (fun q _ h => hFc q h) hFc (fun u t H1 locs ht hvm hw hB hz1 hk1 hS => ?_)
          clear hz1
          obtain ⟨y_628, y_629, y_630, hB⟩ := hB
          obtain ⟨gy_629, gy_630, hE, hP1, hD1⟩ := hB
          rw [ht] at hP1
          obtain ⟨hP, hD⟩ := gz_back hP hD hk1 hFc hP1 hD1 [0, 1, 2] rfl rfl
          obtain ⟨hP, hD⟩ := gz_both (w := [(h0, .inr (6, [.ref tp, .ref dr, .int y_624, .int y_625, .int y_628, .int y_629, .int y_630])), (tp, .inr (10, [.ref bt, .int b_length])), (bt, .inl (kbt, 1600, .inl fbt))]) hP hD
          have hF := gf_call (a := (y_628, y_629, y_630)) hE hF
          generalize H1 = H at hP hS ⊢
          refine lv_iload_n hx hb (dk_at dkX6_passName 45 rfl) rfl (lv_at hl 0 rfl) ?_
          exact W.iret (v := r_605) hx hb hr (fun t ht hW => ⟨⟨r_605, r_605, rfl, ⟨rfl, (gi_any r_605)⟩, y_624, y_625, y_628, y_629, y_630, (gi_w g_626 (by decide)), gy_629, gy_630, (show q_faultKind.toInt ≤ y_624.toInt from by have qgy_624 := g_626.1; have rgy_624 := g_626.2; have qgy_601 := g_604.1; have rgy_601 := g_604.2; have qgy_594 := gy_594.1; have rgy_594 := gy_594.2; have qgq_faultKind := gq_faultKind.1; have rgq_faultKind := gq_faultKind.2; have zhpr0_r_593 := Hid.un hpr0_r_593; have zhpr0_r_600 := Hid.un hpr0_r_600; have zhpr0_r_623 := Hid.un hpr0_r_623; omega), (show (y_624.toInt ≠ 0 ∨ p1.toInt = 0 ∨ pnF ep_name e_placeCount r_605 ≠ -1) from by have qgy_624 := g_626.1; have rgy_624 := g_626.2; have qgy_601 := g_604.1; have rgy_601 := g_604.2; have qgy_594 := gy_594.1; have rgy_594 := gy_594.2; have qgr_606 := g_609.1; have rgr_606 := g_609.2; have qgq_faultKind := gq_faultKind.1; have rgq_faultKind := gq_faultKind.2; have qgp1 := g_622.1; have rgp1 := g_622.2; have qge_placeCount := ge_placeCount.1; have rge_placeCount := ge_placeCount.2; have zhpr0_r_593 := Hid.un hpr0_r_593; have zhpr0_r_600 := Hid.un hpr0_r_600; have zhqr_606 := Hid.un hqr_606; have zhpr0_r_623 := Hid.un hpr0_r_623; omega), hF.trans hR9.symm, by rw [ht]; exact hP, hD⟩, hS.F ht⟩) hS.2.2 (dk_at dkX6_passName 46 rfl)
      · have hF := gf_neg c_607 hF
        have hc_631 : r_606.toInt ≠ (-1) := fun h9 => c_607 (Int32.toInt_inj.mp (by rw [show ((-1) : Int32).toInt = (-1) from by decide]; exact h9))
        have g_632 : gi r_606 0 5 := gi_ne_lo c_607 gr_606 (gi_c (-1) (-1) (by decide)) (by decide)
        refine lv_iconst (v := 1) hx hb (dk_at dkX6_passName 33 rfl) (by decide) ?_
        refine lv_goto (tgt := 65) hx hb (dk_at dkX6_passName 34 rfl) (by decide) ?_
        refine lv_iload_n hx hb (dk_at dkX6_passName 36 rfl) rfl (lv_at hl 2 rfl) ?_
        refine lv_icmp_ne (tgt := 73) hx hb (dk_at dkX6_passName 37 rfl) (by decide) (fun c_633 => ?_) (fun c_633 => ?_)
        · have hF := gf_neg c_633 hF
          have hc_634 : 1 ≠ p1.toInt := fun h9 => c_633 (Int32.toInt_inj.mp (by rw [show (1 : Int32).toInt = 1 from by decide]; exact h9))
          refine lv_iconst (v := 0) hx hb (dk_at dkX6_passName 40 rfl) (by decide) ?_
          refine lv_iconst (v := 2) hx hb (dk_at dkX6_passName 41 rfl) (by decide) ?_
          obtain ⟨hPc, hDc, hFc⟩ := gz_cut (wc := [(h0, .inr (6, [.ref tp, .ref dr, .int y_601, .int y_602, .int q_token, .int q_start, .int q_stop]))]) hP hD hS hA [0] (by decide) rfl
          have hKc := hK.sub (tys' := []) [] rfl
          refine va_callv (va_runV (As := [.int 0, .int 2]) (rest := []) ⟨hx, hb, hml, hown, hts⟩ (sX6_expect l dC dI H.size h0 tp dr y_601 y_602 q_token q_start q_stop 0 2 (gi_w g_604 (by decide)) gq_start gq_stop (gi_w (gi_c 0 0 (by decide)) (by decide)) (gi_w (gi_c 2 2 (by decide)) (by decide))) (cwV 2 hts (gz_gV mGA_250 mGA_251 mGA_252 mGA_9 mGA_253 goodGA) rfl rfl rfl (by decide +kernel) ⟨Nat.le_of_ble_eq_true rfl, Nat.le_of_ble_eq_true rfl⟩) ⟨bl_I (bl_a bl_sz (bl_a bl_P (bl_a bl_K (bl_a bl_c bl_nz)))), va_recv hKc hPc (ci := 6) (q0 := 0) rfl rfl, fun U hU hW => ⟨rfl, by rw [hU], by rw [hU]; exact hPc, va_K.moved hW.alike hKc, hDc.weaken (fun _ _ _ _ => trivial), nzA_warm hW hz⟩⟩ rfl rfl hl.1 rfl (lv_room (Nat.le_of_ble_eq_true rfl)) (dk_at dkX6_passName 42 rfl) ⟨Nat.zero_le _, Nat.zero_le _⟩) hS (fun q _ h => hFc q h) hFc (fun u t H1 locs ht hvm hw hB hz1 hk1 hS => ?_)
          clear hz1
          obtain ⟨y_636, y_637, hB⟩ := hB
          obtain ⟨gy_636, hpr0_r_635, hpr1_r_635, hE, hP1, hD1⟩ := hB
          rw [ht] at hP1
          obtain ⟨hP, hD⟩ := gz_back hP hD hk1 hFc hP1 hD1 [0] rfl rfl
          have hpr0_r_635 : Hid (y_601.toInt ≤ y_636.toInt) := hpr0_r_635
          have g_638 : gi y_636 1 3 := gi_relL (Hid.un hpr0_r_635) g_604 gy_636
          have hpr1_r_635 : Hid (((0 : Int) = 1 ∨ 1 ≤ y_636.toInt)) := by have h9 : ((0 : Int32).toInt = 1 ∨ 1 ≤ y_636.toInt) := hpr1_r_635; rw [show (0 : Int32).toInt = 0 from by decide] at h9; exact h9
          have hf_639 : 1 ≤ y_636.toInt := Hid.resL hpr1_r_635 (by omega)
          obtain ⟨hP, hD⟩ := gz_both (w := [(h0, .inr (6, [.ref tp, .ref dr, .int y_636, .int y_637, .int q_token, .int q_start, .int q_stop])), (tp, .inr (10, [.ref bt, .int b_length])), (bt, .inl (kbt, 1600, .inl fbt))]) hP hD
          have hF := gf_call (a := (y_636, y_637)) hE hF
          generalize H1 = H at hP hS ⊢
          refine lv_aload_n hx hb (dk_at dkX6_passName 43 rfl) rfl (lv_at hl 1 rfl) ?_
          obtain ⟨hPc, hDc, hFc⟩ := gz_cut (wc := [(h0, .inr (6, [.ref tp, .ref dr, .int y_636, .int y_637, .int q_token, .int q_start, .int q_stop])), (tp, .inr (10, [.ref bt, .int b_length])), (bt, .inl (kbt, 1600, .inl fbt))]) hP hD hS hA [0, 1, 2] (by decide) rfl
          have hKc := hK.sub (tys' := [(kbt, .byte)]) [0] rfl
          refine va_callv (va_runV (As := []) (rest := []) ⟨hx, hb, hml, hown, hts⟩ (sX6_step l dC dI H.size h0 tp bt dr y_636 y_637 q_token q_start q_stop b_length kbt fbt (gi_w g_638 (by decide)) gq_start gq_stop gb_length) (cwV 0 hts (gz_gV mGA_162 mGA_163 mGA_164 mGA_9 mGA_165 goodGA) rfl rfl rfl (by decide +kernel) ⟨Nat.le_of_ble_eq_true rfl, Nat.le_of_ble_eq_true rfl⟩) ⟨bl_I (bl_a bl_sz (bl_a bl_P (bl_a bl_K (bl_a bl_c bl_nz)))), va_recv hKc hPc (ci := 6) (q0 := 0) rfl rfl, fun U hU hW => ⟨rfl, by rw [hU], by rw [hU]; exact hPc, va_K.moved hW.alike hKc, hDc.weaken (fun _ _ _ _ => trivial), nzA_warm hW hz⟩⟩ rfl rfl hl.1 rfl (lv_room (Nat.le_of_ble_eq_true rfl)) (dk_at dkX6_passName 44 rfl) ⟨Nat.zero_le _, Nat.zero_le _⟩) hS (fun q _ h => hFc q h) hFc (fun u t H1 locs ht hvm hw hB hz1 hk1 hS => ?_)
          clear hz1
          obtain ⟨y_641, y_642, y_643, hB⟩ := hB
          obtain ⟨gy_642, gy_643, hE, hP1, hD1⟩ := hB
          rw [ht] at hP1
          obtain ⟨hP, hD⟩ := gz_back hP hD hk1 hFc hP1 hD1 [0, 1, 2] rfl rfl
          obtain ⟨hP, hD⟩ := gz_both (w := [(h0, .inr (6, [.ref tp, .ref dr, .int y_636, .int y_637, .int y_641, .int y_642, .int y_643])), (tp, .inr (10, [.ref bt, .int b_length])), (bt, .inl (kbt, 1600, .inl fbt))]) hP hD
          have hF := gf_call (a := (y_641, y_642, y_643)) hE hF
          generalize H1 = H at hP hS ⊢
          refine lv_iload_n hx hb (dk_at dkX6_passName 45 rfl) rfl (lv_at hl 0 rfl) ?_
          exact W.iret (v := r_605) hx hb hr (fun t ht hW => ⟨⟨r_605, r_605, rfl, ⟨rfl, (gi_any r_605)⟩, y_636, y_637, y_641, y_642, y_643, (gi_w g_638 (by decide)), gy_642, gy_643, (show q_faultKind.toInt ≤ y_636.toInt from by have qgy_636 := g_638.1; have rgy_636 := g_638.2; have qgy_601 := g_604.1; have rgy_601 := g_604.2; have qgy_594 := gy_594.1; have rgy_594 := gy_594.2; have qgq_faultKind := gq_faultKind.1; have rgq_faultKind := gq_faultKind.2; have zhpr0_r_593 := Hid.un hpr0_r_593; have zhpr0_r_600 := Hid.un hpr0_r_600; have zhpr0_r_635 := Hid.un hpr0_r_635; omega), (show (y_636.toInt ≠ 0 ∨ p1.toInt = 0 ∨ pnF ep_name e_placeCount r_605 ≠ -1) from by have qgy_636 := g_638.1; have rgy_636 := g_638.2; have qgy_601 := g_604.1; have rgy_601 := g_604.2; have qgy_594 := gy_594.1; have rgy_594 := gy_594.2; have qgr_606 := g_632.1; have rgr_606 := g_632.2; have qgq_faultKind := gq_faultKind.1; have rgq_faultKind := gq_faultKind.2; have qgp1 := gp1.1; have rgp1 := gp1.2; have qge_placeCount := ge_placeCount.1; have rge_placeCount := ge_placeCount.2; have zhpr0_r_593 := Hid.un hpr0_r_593; have zhpr0_r_600 := Hid.un hpr0_r_600; have zhqr_606 := Hid.un hqr_606; have zhpr0_r_635 := Hid.un hpr0_r_635; omega), hF.trans hR9.symm, by rw [ht]; exact hP, hD⟩, hS.F ht⟩) hS.2.2 (dk_at dkX6_passName 46 rfl)
        · have hF := gf_pos c_633 hF
          have hc_644 : 1 = p1.toInt := by have h9 := congrArg Int32.toInt c_633; rw [show (1 : Int32).toInt = 1 from by decide] at h9; exact h9
          have g_645 : gi p1 1 1 := gi_eq c_633.symm (gi_c 1 1 (by decide))
          refine lv_iconst (v := 1) hx hb (dk_at dkX6_passName 38 rfl) (by decide) ?_
          refine lv_goto (tgt := 74) hx hb (dk_at dkX6_passName 39 rfl) (by decide) ?_
          refine lv_iconst (v := 2) hx hb (dk_at dkX6_passName 41 rfl) (by decide) ?_
          obtain ⟨hPc, hDc, hFc⟩ := gz_cut (wc := [(h0, .inr (6, [.ref tp, .ref dr, .int y_601, .int y_602, .int q_token, .int q_start, .int q_stop]))]) hP hD hS hA [0] (by decide) rfl
          have hKc := hK.sub (tys' := []) [] rfl
          refine va_callv (va_runV (As := [.int 1, .int 2]) (rest := []) ⟨hx, hb, hml, hown, hts⟩ (sX6_expect l dC dI H.size h0 tp dr y_601 y_602 q_token q_start q_stop 1 2 (gi_w g_604 (by decide)) gq_start gq_stop (gi_w (gi_c 1 1 (by decide)) (by decide)) (gi_w (gi_c 2 2 (by decide)) (by decide))) (cwV 2 hts (gz_gV mGA_250 mGA_251 mGA_252 mGA_9 mGA_253 goodGA) rfl rfl rfl (by decide +kernel) ⟨Nat.le_of_ble_eq_true rfl, Nat.le_of_ble_eq_true rfl⟩) ⟨bl_I (bl_a bl_sz (bl_a bl_P (bl_a bl_K (bl_a bl_c bl_nz)))), va_recv hKc hPc (ci := 6) (q0 := 0) rfl rfl, fun U hU hW => ⟨rfl, by rw [hU], by rw [hU]; exact hPc, va_K.moved hW.alike hKc, hDc.weaken (fun _ _ _ _ => trivial), nzA_warm hW hz⟩⟩ rfl rfl hl.1 rfl (lv_room (Nat.le_of_ble_eq_true rfl)) (dk_at dkX6_passName 42 rfl) ⟨Nat.zero_le _, Nat.zero_le _⟩) hS (fun q _ h => hFc q h) hFc (fun u t H1 locs ht hvm hw hB hz1 hk1 hS => ?_)
          clear hz1
          obtain ⟨y_647, y_648, hB⟩ := hB
          obtain ⟨gy_647, hpr0_r_646, hpr1_r_646, hE, hP1, hD1⟩ := hB
          rw [ht] at hP1
          obtain ⟨hP, hD⟩ := gz_back hP hD hk1 hFc hP1 hD1 [0] rfl rfl
          have hpr0_r_646 : Hid (y_601.toInt ≤ y_647.toInt) := hpr0_r_646
          have g_649 : gi y_647 1 3 := gi_relL (Hid.un hpr0_r_646) g_604 gy_647
          have hpr1_r_646 : Hid (((1 : Int) = 1 ∨ 1 ≤ y_647.toInt)) := by have h9 : ((1 : Int32).toInt = 1 ∨ 1 ≤ y_647.toInt) := hpr1_r_646; rw [show (1 : Int32).toInt = 1 from by decide] at h9; exact h9
          obtain ⟨hP, hD⟩ := gz_both (w := [(h0, .inr (6, [.ref tp, .ref dr, .int y_647, .int y_648, .int q_token, .int q_start, .int q_stop])), (tp, .inr (10, [.ref bt, .int b_length])), (bt, .inl (kbt, 1600, .inl fbt))]) hP hD
          have hF := gf_call (a := (y_647, y_648)) hE hF
          generalize H1 = H at hP hS ⊢
          refine lv_aload_n hx hb (dk_at dkX6_passName 43 rfl) rfl (lv_at hl 1 rfl) ?_
          obtain ⟨hPc, hDc, hFc⟩ := gz_cut (wc := [(h0, .inr (6, [.ref tp, .ref dr, .int y_647, .int y_648, .int q_token, .int q_start, .int q_stop])), (tp, .inr (10, [.ref bt, .int b_length])), (bt, .inl (kbt, 1600, .inl fbt))]) hP hD hS hA [0, 1, 2] (by decide) rfl
          have hKc := hK.sub (tys' := [(kbt, .byte)]) [0] rfl
          refine va_callv (va_runV (As := []) (rest := []) ⟨hx, hb, hml, hown, hts⟩ (sX6_step l dC dI H.size h0 tp bt dr y_647 y_648 q_token q_start q_stop b_length kbt fbt (gi_w g_649 (by decide)) gq_start gq_stop gb_length) (cwV 0 hts (gz_gV mGA_162 mGA_163 mGA_164 mGA_9 mGA_165 goodGA) rfl rfl rfl (by decide +kernel) ⟨Nat.le_of_ble_eq_true rfl, Nat.le_of_ble_eq_true rfl⟩) ⟨bl_I (bl_a bl_sz (bl_a bl_P (bl_a bl_K (bl_a bl_c bl_nz)))), va_recv hKc hPc (ci := 6) (q0 := 0) rfl rfl, fun U hU hW => ⟨rfl, by rw [hU], by rw [hU]; exact hPc, va_K.moved hW.alike hKc, hDc.weaken (fun _ _ _ _ => trivial), nzA_warm hW hz⟩⟩ rfl rfl hl.1 rfl (lv_room (Nat.le_of_ble_eq_true rfl)) (dk_at dkX6_passName 44 rfl) ⟨Nat.zero_le _, Nat.zero_le _⟩) hS (fun q _ h => hFc q h) hFc (fun u t H1 locs ht hvm hw hB hz1 hk1 hS => ?_)
          clear hz1
          obtain ⟨y_651, y_652, y_653, hB⟩ := hB
          obtain ⟨gy_652, gy_653, hE, hP1, hD1⟩ := hB
          rw [ht] at hP1
          obtain ⟨hP, hD⟩ := gz_back hP hD hk1 hFc hP1 hD1 [0, 1, 2] rfl rfl
          obtain ⟨hP, hD⟩ := gz_both (w := [(h0, .inr (6, [.ref tp, .ref dr, .int y_647, .int y_648, .int y_651, .int y_652, .int y_653])), (tp, .inr (10, [.ref bt, .int b_length])), (bt, .inl (kbt, 1600, .inl fbt))]) hP hD
          have hF := gf_call (a := (y_651, y_652, y_653)) hE hF
          generalize H1 = H at hP hS ⊢
          refine lv_iload_n hx hb (dk_at dkX6_passName 45 rfl) rfl (lv_at hl 0 rfl) ?_
          exact W.iret (v := r_605) hx hb hr (fun t ht hW => ⟨⟨r_605, r_605, rfl, ⟨rfl, (gi_any r_605)⟩, y_647, y_648, y_651, y_652, y_653, (gi_w g_649 (by decide)), gy_652, gy_653, (show q_faultKind.toInt ≤ y_647.toInt from by have qgy_647 := g_649.1; have rgy_647 := g_649.2; have qgy_601 := g_604.1; have rgy_601 := g_604.2; have qgy_594 := gy_594.1; have rgy_594 := gy_594.2; have qgq_faultKind := gq_faultKind.1; have rgq_faultKind := gq_faultKind.2; have zhpr0_r_593 := Hid.un hpr0_r_593; have zhpr0_r_600 := Hid.un hpr0_r_600; have zhpr0_r_646 := Hid.un hpr0_r_646; omega), (show (y_647.toInt ≠ 0 ∨ p1.toInt = 0 ∨ pnF ep_name e_placeCount r_605 ≠ -1) from by have qgy_647 := g_649.1; have rgy_647 := g_649.2; have qgy_601 := g_604.1; have rgy_601 := g_604.2; have qgy_594 := gy_594.1; have rgy_594 := gy_594.2; have qgr_606 := g_632.1; have rgr_606 := g_632.2; have qgq_faultKind := gq_faultKind.1; have rgq_faultKind := gq_faultKind.2; have qgp1 := g_645.1; have rgp1 := g_645.2; have qge_placeCount := ge_placeCount.1; have rge_placeCount := ge_placeCount.2; have zhpr0_r_593 := Hid.un hpr0_r_593; have zhpr0_r_600 := Hid.un hpr0_r_600; have zhqr_606 := Hid.un hqr_606; have zhpr0_r_646 := Hid.un hpr0_r_646; omega), hF.trans hR9.symm, by rw [ht]; exact hP, hD⟩, hS.F ht⟩) hS.2.2 (dk_at dkX6_passName 46 rfl)
    · have hF := gf_neg (by rw [ex_596] at c_597; exact c_597) hF
      have hc_654 : x_596.toInt ≤ 6 := by have h9 := Int32.le_iff_toInt_le.mp (Int32.not_lt.mp c_597); rw [show (6 : Int32).toInt = 6 from by decide] at h9; exact h9
      have g_655 : gi x_596 (-1600) 6 := gi_le_l (Int32.not_lt.mp c_597) gx_596 (gi_c 6 6 (by decide))
      refine lv_iconst (v := 1) hx hb (dk_at dkX6_passName 18 rfl) (by decide) ?_
      refine lv_goto (tgt := 38) hx hb (dk_at dkX6_passName 19 rfl) (by decide) ?_
      refine lv_iconst (v := 2) hx hb (dk_at dkX6_passName 21 rfl) (by decide) ?_
      obtain ⟨hPc, hDc, hFc⟩ := gz_cut (wc := [(h0, .inr (6, [.ref tp, .ref dr, .int y_594, .int y_595, .int q_token, .int q_start, .int q_stop]))]) hP hD hS hA [0] (by decide) rfl
      have hKc := hK.sub (tys' := []) [] rfl
      refine va_callv (va_runV (As := [.int 1, .int 2]) (rest := []) ⟨hx, hb, hml, hown, hts⟩ (sX6_expect l dC dI H.size h0 tp dr y_594 y_595 q_token q_start q_stop 1 2 gy_594 gq_start gq_stop (gi_w (gi_c 1 1 (by decide)) (by decide)) (gi_w (gi_c 2 2 (by decide)) (by decide))) (cwV 2 hts (gz_gV mGA_250 mGA_251 mGA_252 mGA_9 mGA_253 goodGA) rfl rfl rfl (by decide +kernel) ⟨Nat.le_of_ble_eq_true rfl, Nat.le_of_ble_eq_true rfl⟩) ⟨bl_I (bl_a bl_sz (bl_a bl_P (bl_a bl_K (bl_a bl_c bl_nz)))), va_recv hKc hPc (ci := 6) (q0 := 0) rfl rfl, fun U hU hW => ⟨rfl, by rw [hU], by rw [hU]; exact hPc, va_K.moved hW.alike hKc, hDc.weaken (fun _ _ _ _ => trivial), nzA_warm hW hz⟩⟩ rfl rfl hl.1 rfl (lv_room (Nat.le_of_ble_eq_true rfl)) (dk_at dkX6_passName 22 rfl) ⟨Nat.zero_le _, Nat.zero_le _⟩) hS (fun q _ h => hFc q h) hFc (fun u t H1 locs ht hvm hw hB hz1 hk1 hS => ?_)
      clear hz1
      obtain ⟨y_657, y_658, hB⟩ := hB
      obtain ⟨gy_657, hpr0_r_656, hpr1_r_656, hE, hP1, hD1⟩ := hB
      rw [ht] at hP1
      obtain ⟨hP, hD⟩ := gz_back hP hD hk1 hFc hP1 hD1 [0] rfl rfl
      have hpr0_r_656 : Hid (y_594.toInt ≤ y_657.toInt) := hpr0_r_656
      have hpr1_r_656 : Hid (((1 : Int) = 1 ∨ 1 ≤ y_657.toInt)) := by have h9 : ((1 : Int32).toInt = 1 ∨ 1 ≤ y_657.toInt) := hpr1_r_656; rw [show (1 : Int32).toInt = 1 from by decide] at h9; exact h9
      obtain ⟨hP, hD⟩ := gz_both (w := [(h0, .inr (6, [.ref tp, .ref dr, .int y_657, .int y_658, .int q_token, .int q_start, .int q_stop])), (tp, .inr (10, [.ref bt, .int b_length])), (bt, .inl (kbt, 1600, .inl fbt))]) hP hD
      have hF := gf_call (a := (y_657, y_658)) hE hF
      generalize H1 = H at hP hS ⊢
      refine lv_aload_n hx hb (dk_at dkX6_passName 23 rfl) rfl (lv_at hl 0 rfl) ?_
      have hPc := hP.sub (ws' := [(h0, .inr (6, [.ref tp, .ref dr, .int y_657, .int y_658, .int q_token, .int q_start, .int q_stop])), (tp, .inr (10, [.ref bt, .int b_length])), (bt, .inl (kbt, 1600, .inl fbt))]) [0, 1, 2] rfl
      have hKc := hK.sub (tys' := [(kbt, .byte)]) [0] rfl
      refine va_calli (va_runV (As := []) (rest := []) ⟨hx, hb, hml, hown, hts⟩ (sX6_nameHere l dC dI h0 tp bt dr y_657 y_658 q_token q_start q_stop b_length kbt fbt gy_657 gq_start gq_stop gb_length) (cwV 0 hts (gz_gV mGA_294 mGA_295 mGA_296 mGA_9 mGA_297 goodGA) rfl rfl rfl (by decide +kernel) ⟨Nat.le_of_ble_eq_true rfl, Nat.le_of_ble_eq_true rfl⟩) ⟨bl_I (bl_a bl_P (bl_a bl_K bl_nz)), va_recv hKc hPc (ci := 6) (q0 := 0) rfl rfl, fun U hU hW => ⟨rfl, by rw [hU]; exact hPc, va_K.moved hW.alike hKc, nzA_warm hW hz⟩⟩ rfl rfl hl.1 rfl (lv_room (Nat.le_of_ble_eq_true rfl)) (dk_at dkX6_passName 24 rfl) ⟨Nat.zero_le _, Nat.zero_le _⟩) hS (fun q _ h => h.elim) (fun q h => h.elim) (fun r_659 u t H1 locs ht hvm hw hB hz1 hk1 hS => ?_)
      clear hz1
      obtain ⟨hw, hE⟩ := hw
      have hP := gz_keep hP hk1
      have hF := gf_call (a := r_659) hE hF
      generalize H1 = H at hP hS ⊢
      refine lv_istore_n (lv' := [(2, .int r_659), (0, .ref h0), (1, .int p1)]) hx hb (dk_at dkX6_passName 25 rfl) rfl hl (by decide) rfl (fun ls hl => ?_)
      refine lv_aload_n hx hb (dk_at dkX6_passName 26 rfl) rfl (lv_at hl 1 rfl) ?_
      refine lv_aload_n hx hb (dk_at dkX6_passName 27 rfl) rfl (lv_at hl 1 rfl) ?_
      refine va_get (D := (dC, dI)) (ci := 6) (v := .ref dr) (C := RX6) (T := TX6) (N := 7) hx hb hts (fun w h => List.mem_cons_of_mem _ (jnGA_X6 w h)) hown hK hP 0 rfl rfl 1 (by decide) (hts _ (List.mem_cons_of_mem _ mGA_54)) (fun _ h9 => h9) rfl (dk_at dkX6_passName 28 rfl) ?_
      refine lv_iload_n hx hb (dk_at dkX6_passName 29 rfl) rfl (lv_at hl 0 rfl) ?_
      have hPc : va_P (dC, dI) vwCl [(dr, .inr (0, [.int e_months, .int e_full, .int e_lean, .int e_lines, .int e_hasMoon, .int e_moonStart, .int e_moonStep, .int e_placeCount, .int e_reportCount, .int e_deedCount, .ref dpl, .ref dre, .ref dde])), (dpl, .inl (kdpl, 6, .inr (.inr (.inr (.inr (fun i => some (dpa i)))))))] H := (gz_cat ((gz_ro hR hRA hS).sub [0] rfl) ((gz_ro hR hRA hS).sub [1] rfl))
      have hKc := hK.sub (tys' := [(kdpl, .object RX5)]) [1] rfl
      refine va_calli (va_runV (As := [.int r_659]) (rest := [.ref h0]) ⟨hx, hb, hml, hown, hts⟩ (sX0_placeNamedF l dC dI dr dpl e_months e_full e_lean e_lines e_hasMoon e_moonStart e_moonStep e_placeCount e_reportCount e_deedCount dre dde kdpl dpa ep_name ep_trust r_659 ge_months ge_full ge_lean ge_hasMoon ge_placeCount ge_reportCount ge_deedCount) (cwV 1 hts (gz_gV mGA_298 mGA_299 mGA_300 mGA_13 mGA_301 goodGA) rfl rfl rfl (by decide +kernel) ⟨Nat.le_of_ble_eq_true rfl, Nat.le_of_ble_eq_true rfl⟩) ⟨bl_I (bl_a bl_P (bl_a bl_K (bl_a bl_nz bl_P))), va_recv hKc hPc (ci := 0) (q0 := 0) rfl rfl, fun U hU hW => ⟨rfl, by rw [hU]; exact hPc, va_K.moved hW.alike hKc, nzA_warm hW hz, by rw [hU]; exact gz_ro hF0 hFA0 hS⟩⟩ rfl rfl hl.1 rfl (lv_room (Nat.le_of_ble_eq_true rfl)) (dk_at dkX6_passName 30 rfl) ⟨Nat.zero_le _, Nat.zero_le _⟩) hS (fun q _ h => h.elim) (fun q h => h.elim) (fun r_660 u t H1 locs ht hvm hw hB hz1 hk1 hS => ?_)
      clear hz1
      obtain ⟨hw, hE⟩ := hw
      have hP := gz_keep hP hk1
      have hF := gf_call (a := r_660) hE hF
      generalize H1 = H at hP hS ⊢
      have gr_660 : gi r_660 (-1) 5 := hw.1
      have hqr_660 := hw.2
      have hqr_660 : Hid (r_660.toInt = pnF ep_name e_placeCount r_659) := hqr_660
      clear hw
      refine lv_iconst (v := (-1)) hx hb (dk_at dkX6_passName 31 rfl) (by decide) ?_
      refine lv_icmp_eq (tgt := 64) hx hb (dk_at dkX6_passName 32 rfl) (by decide) (fun c_661 => ?_) (fun c_661 => ?_)
      · have hF := gf_pos c_661 hF
        have hc_662 : r_660.toInt = (-1) := by have h9 := congrArg Int32.toInt c_661; rw [show ((-1) : Int32).toInt = (-1) from by decide] at h9; exact h9
        have g_663 : gi r_660 (-1) (-1) := gi_eq c_661 (gi_c (-1) (-1) (by decide))
        refine lv_iconst (v := 0) hx hb (dk_at dkX6_passName 35 rfl) (by decide) ?_
        refine lv_iload_n hx hb (dk_at dkX6_passName 36 rfl) rfl (lv_at hl 2 rfl) ?_
        refine lv_icmp_ne (tgt := 73) hx hb (dk_at dkX6_passName 37 rfl) (by decide) (fun c_664 => ?_) (fun c_664 => ?_)
        · have hF := gf_neg c_664 hF
          have hc_665 : 0 ≠ p1.toInt := fun h9 => c_664 (Int32.toInt_inj.mp (by rw [show (0 : Int32).toInt = 0 from by decide]; exact h9))
          refine lv_iconst (v := 0) hx hb (dk_at dkX6_passName 40 rfl) (by decide) ?_
          refine lv_iconst (v := 2) hx hb (dk_at dkX6_passName 41 rfl) (by decide) ?_
          obtain ⟨hPc, hDc, hFc⟩ := gz_cut (wc := [(h0, .inr (6, [.ref tp, .ref dr, .int y_657, .int y_658, .int q_token, .int q_start, .int q_stop]))]) hP hD hS hA [0] (by decide) rfl
          have hKc := hK.sub (tys' := []) [] rfl
          refine va_callv (va_runV (As := [.int 0, .int 2]) (rest := []) ⟨hx, hb, hml, hown, hts⟩ (sX6_expect l dC dI H.size h0 tp dr y_657 y_658 q_token q_start q_stop 0 2 gy_657 gq_start gq_stop (gi_w (gi_c 0 0 (by decide)) (by decide)) (gi_w (gi_c 2 2 (by decide)) (by decide))) (cwV 2 hts (gz_gV mGA_250 mGA_251 mGA_252 mGA_9 mGA_253 goodGA) rfl rfl rfl (by decide +kernel) ⟨Nat.le_of_ble_eq_true rfl, Nat.le_of_ble_eq_true rfl⟩) ⟨bl_I (bl_a bl_sz (bl_a bl_P (bl_a bl_K (bl_a bl_c bl_nz)))), va_recv hKc hPc (ci := 6) (q0 := 0) rfl rfl, fun U hU hW => ⟨rfl, by rw [hU], by rw [hU]; exact hPc, va_K.moved hW.alike hKc, hDc.weaken (fun _ _ _ _ => trivial), nzA_warm hW hz⟩⟩ rfl rfl hl.1 rfl (lv_room (Nat.le_of_ble_eq_true rfl)) (dk_at dkX6_passName 42 rfl) ⟨Nat.zero_le _, Nat.zero_le _⟩) hS (fun q _ h => hFc q h) hFc (fun u t H1 locs ht hvm hw hB hz1 hk1 hS => ?_)
          clear hz1
          obtain ⟨y_667, y_668, hB⟩ := hB
          obtain ⟨gy_667, hpr0_r_666, hpr1_r_666, hE, hP1, hD1⟩ := hB
          rw [ht] at hP1
          obtain ⟨hP, hD⟩ := gz_back hP hD hk1 hFc hP1 hD1 [0] rfl rfl
          have hpr0_r_666 : Hid (y_657.toInt ≤ y_667.toInt) := hpr0_r_666
          have hpr1_r_666 : Hid (((0 : Int) = 1 ∨ 1 ≤ y_667.toInt)) := by have h9 : ((0 : Int32).toInt = 1 ∨ 1 ≤ y_667.toInt) := hpr1_r_666; rw [show (0 : Int32).toInt = 0 from by decide] at h9; exact h9
          have hf_669 : 1 ≤ y_667.toInt := Hid.resL hpr1_r_666 (by omega)
          have g_670 : gi y_667 1 3 := ⟨by omega, gy_667.2⟩
          obtain ⟨hP, hD⟩ := gz_both (w := [(h0, .inr (6, [.ref tp, .ref dr, .int y_667, .int y_668, .int q_token, .int q_start, .int q_stop])), (tp, .inr (10, [.ref bt, .int b_length])), (bt, .inl (kbt, 1600, .inl fbt))]) hP hD
          have hF := gf_call (a := (y_667, y_668)) hE hF
          generalize H1 = H at hP hS ⊢
          refine lv_aload_n hx hb (dk_at dkX6_passName 43 rfl) rfl (lv_at hl 1 rfl) ?_
          obtain ⟨hPc, hDc, hFc⟩ := gz_cut (wc := [(h0, .inr (6, [.ref tp, .ref dr, .int y_667, .int y_668, .int q_token, .int q_start, .int q_stop])), (tp, .inr (10, [.ref bt, .int b_length])), (bt, .inl (kbt, 1600, .inl fbt))]) hP hD hS hA [0, 1, 2] (by decide) rfl
          have hKc := hK.sub (tys' := [(kbt, .byte)]) [0] rfl
          refine va_callv (va_runV (As := []) (rest := []) ⟨hx, hb, hml, hown, hts⟩ (sX6_step l dC dI H.size h0 tp bt dr y_667 y_668 q_token q_start q_stop b_length kbt fbt (gi_w g_670 (by decide)) gq_start gq_stop gb_length) (cwV 0 hts (gz_gV mGA_162 mGA_163 mGA_164 mGA_9 mGA_165 goodGA) rfl rfl rfl (by decide +kernel) ⟨Nat.le_of_ble_eq_true rfl, Nat.le_of_ble_eq_true rfl⟩) ⟨bl_I (bl_a bl_sz (bl_a bl_P (bl_a bl_K (bl_a bl_c bl_nz)))), va_recv hKc hPc (ci := 6) (q0 := 0) rfl rfl, fun U hU hW => ⟨rfl, by rw [hU], by rw [hU]; exact hPc, va_K.moved hW.alike hKc, hDc.weaken (fun _ _ _ _ => trivial), nzA_warm hW hz⟩⟩ rfl rfl hl.1 rfl (lv_room (Nat.le_of_ble_eq_true rfl)) (dk_at dkX6_passName 44 rfl) ⟨Nat.zero_le _, Nat.zero_le _⟩) hS (fun q _ h => hFc q h) hFc (fun u t H1 locs ht hvm hw hB hz1 hk1 hS => ?_)
          clear hz1
          obtain ⟨y_672, y_673, y_674, hB⟩ := hB
          obtain ⟨gy_673, gy_674, hE, hP1, hD1⟩ := hB
          rw [ht] at hP1
          obtain ⟨hP, hD⟩ := gz_back hP hD hk1 hFc hP1 hD1 [0, 1, 2] rfl rfl
          obtain ⟨hP, hD⟩ := gz_both (w := [(h0, .inr (6, [.ref tp, .ref dr, .int y_667, .int y_668, .int y_672, .int y_673, .int y_674])), (tp, .inr (10, [.ref bt, .int b_length])), (bt, .inl (kbt, 1600, .inl fbt))]) hP hD
          have hF := gf_call (a := (y_672, y_673, y_674)) hE hF
          generalize H1 = H at hP hS ⊢
          refine lv_iload_n hx hb (dk_at dkX6_passName 45 rfl) rfl (lv_at hl 0 rfl) ?_
          exact W.iret (v := r_659) hx hb hr (fun t ht hW => ⟨⟨r_659, r_659, rfl, ⟨rfl, (gi_any r_659)⟩, y_667, y_668, y_672, y_673, y_674, (gi_w g_670 (by decide)), gy_673, gy_674, (show q_faultKind.toInt ≤ y_667.toInt from by have qgy_667 := g_670.1; have rgy_667 := g_670.2; have qgy_657 := gy_657.1; have rgy_657 := gy_657.2; have qgy_594 := gy_594.1; have rgy_594 := gy_594.2; have qgq_faultKind := gq_faultKind.1; have rgq_faultKind := gq_faultKind.2; have zhpr0_r_593 := Hid.un hpr0_r_593; have zhpr0_r_656 := Hid.un hpr0_r_656; have zhpr0_r_666 := Hid.un hpr0_r_666; omega), (show (y_667.toInt ≠ 0 ∨ p1.toInt = 0 ∨ pnF ep_name e_placeCount r_659 ≠ -1) from by have qgy_667 := g_670.1; have rgy_667 := g_670.2; have qgy_657 := gy_657.1; have rgy_657 := gy_657.2; have qgy_594 := gy_594.1; have rgy_594 := gy_594.2; have qgr_660 := g_663.1; have rgr_660 := g_663.2; have qgq_faultKind := gq_faultKind.1; have rgq_faultKind := gq_faultKind.2; have qgp1 := gp1.1; have rgp1 := gp1.2; have qge_placeCount := ge_placeCount.1; have rge_placeCount := ge_placeCount.2; have zhpr0_r_593 := Hid.un hpr0_r_593; have zhpr0_r_656 := Hid.un hpr0_r_656; have zhqr_660 := Hid.un hqr_660; have zhpr0_r_666 := Hid.un hpr0_r_666; omega), hF.trans hR9.symm, by rw [ht]; exact hP, hD⟩, hS.F ht⟩) hS.2.2 (dk_at dkX6_passName 46 rfl)
        · have hF := gf_pos c_664 hF
          have hc_675 : 0 = p1.toInt := by have h9 := congrArg Int32.toInt c_664; rw [show (0 : Int32).toInt = 0 from by decide] at h9; exact h9
          have g_676 : gi p1 0 0 := gi_eq c_664.symm (gi_c 0 0 (by decide))
          refine lv_iconst (v := 1) hx hb (dk_at dkX6_passName 38 rfl) (by decide) ?_
          refine lv_goto (tgt := 74) hx hb (dk_at dkX6_passName 39 rfl) (by decide) ?_
          refine lv_iconst (v := 2) hx hb (dk_at dkX6_passName 41 rfl) (by decide) ?_
          obtain ⟨hPc, hDc, hFc⟩ := gz_cut (wc := [(h0, .inr (6, [.ref tp, .ref dr, .int y_657, .int y_658, .int q_token, .int q_start, .int q_stop]))]) hP hD hS hA [0] (by decide) rfl
          have hKc := hK.sub (tys' := []) [] rfl
          refine va_callv (va_runV (As := [.int 1, .int 2]) (rest := []) ⟨hx, hb, hml, hown, hts⟩ (sX6_expect l dC dI H.size h0 tp dr y_657 y_658 q_token q_start q_stop 1 2 gy_657 gq_start gq_stop (gi_w (gi_c 1 1 (by decide)) (by decide)) (gi_w (gi_c 2 2 (by decide)) (by decide))) (cwV 2 hts (gz_gV mGA_250 mGA_251 mGA_252 mGA_9 mGA_253 goodGA) rfl rfl rfl (by decide +kernel) ⟨Nat.le_of_ble_eq_true rfl, Nat.le_of_ble_eq_true rfl⟩) ⟨bl_I (bl_a bl_sz (bl_a bl_P (bl_a bl_K (bl_a bl_c bl_nz)))), va_recv hKc hPc (ci := 6) (q0 := 0) rfl rfl, fun U hU hW => ⟨rfl, by rw [hU], by rw [hU]; exact hPc, va_K.moved hW.alike hKc, hDc.weaken (fun _ _ _ _ => trivial), nzA_warm hW hz⟩⟩ rfl rfl hl.1 rfl (lv_room (Nat.le_of_ble_eq_true rfl)) (dk_at dkX6_passName 42 rfl) ⟨Nat.zero_le _, Nat.zero_le _⟩) hS (fun q _ h => hFc q h) hFc (fun u t H1 locs ht hvm hw hB hz1 hk1 hS => ?_)
          clear hz1
          obtain ⟨y_678, y_679, hB⟩ := hB
          obtain ⟨gy_678, hpr0_r_677, hpr1_r_677, hE, hP1, hD1⟩ := hB
          rw [ht] at hP1
          obtain ⟨hP, hD⟩ := gz_back hP hD hk1 hFc hP1 hD1 [0] rfl rfl
          have hpr0_r_677 : Hid (y_657.toInt ≤ y_678.toInt) := hpr0_r_677
          have hpr1_r_677 : Hid (((1 : Int) = 1 ∨ 1 ≤ y_678.toInt)) := by have h9 : ((1 : Int32).toInt = 1 ∨ 1 ≤ y_678.toInt) := hpr1_r_677; rw [show (1 : Int32).toInt = 1 from by decide] at h9; exact h9
          obtain ⟨hP, hD⟩ := gz_both (w := [(h0, .inr (6, [.ref tp, .ref dr, .int y_678, .int y_679, .int q_token, .int q_start, .int q_stop])), (tp, .inr (10, [.ref bt, .int b_length])), (bt, .inl (kbt, 1600, .inl fbt))]) hP hD
          have hF := gf_call (a := (y_678, y_679)) hE hF
          generalize H1 = H at hP hS ⊢
          refine lv_aload_n hx hb (dk_at dkX6_passName 43 rfl) rfl (lv_at hl 1 rfl) ?_
          obtain ⟨hPc, hDc, hFc⟩ := gz_cut (wc := [(h0, .inr (6, [.ref tp, .ref dr, .int y_678, .int y_679, .int q_token, .int q_start, .int q_stop])), (tp, .inr (10, [.ref bt, .int b_length])), (bt, .inl (kbt, 1600, .inl fbt))]) hP hD hS hA [0, 1, 2] (by decide) rfl
          have hKc := hK.sub (tys' := [(kbt, .byte)]) [0] rfl
          refine va_callv (va_runV (As := []) (rest := []) ⟨hx, hb, hml, hown, hts⟩ (sX6_step l dC dI H.size h0 tp bt dr y_678 y_679 q_token q_start q_stop b_length kbt fbt gy_678 gq_start gq_stop gb_length) (cwV 0 hts (gz_gV mGA_162 mGA_163 mGA_164 mGA_9 mGA_165 goodGA) rfl rfl rfl (by decide +kernel) ⟨Nat.le_of_ble_eq_true rfl, Nat.le_of_ble_eq_true rfl⟩) ⟨bl_I (bl_a bl_sz (bl_a bl_P (bl_a bl_K (bl_a bl_c bl_nz)))), va_recv hKc hPc (ci := 6) (q0 := 0) rfl rfl, fun U hU hW => ⟨rfl, by rw [hU], by rw [hU]; exact hPc, va_K.moved hW.alike hKc, hDc.weaken (fun _ _ _ _ => trivial), nzA_warm hW hz⟩⟩ rfl rfl hl.1 rfl (lv_room (Nat.le_of_ble_eq_true rfl)) (dk_at dkX6_passName 44 rfl) ⟨Nat.zero_le _, Nat.zero_le _⟩) hS (fun q _ h => hFc q h) hFc (fun u t H1 locs ht hvm hw hB hz1 hk1 hS => ?_)
          clear hz1
          obtain ⟨y_681, y_682, y_683, hB⟩ := hB
          obtain ⟨gy_682, gy_683, hE, hP1, hD1⟩ := hB
          rw [ht] at hP1
          obtain ⟨hP, hD⟩ := gz_back hP hD hk1 hFc hP1 hD1 [0, 1, 2] rfl rfl
          obtain ⟨hP, hD⟩ := gz_both (w := [(h0, .inr (6, [.ref tp, .ref dr, .int y_678, .int y_679, .int y_681, .int y_682, .int y_683])), (tp, .inr (10, [.ref bt, .int b_length])), (bt, .inl (kbt, 1600, .inl fbt))]) hP hD
          have hF := gf_call (a := (y_681, y_682, y_683)) hE hF
          generalize H1 = H at hP hS ⊢
          refine lv_iload_n hx hb (dk_at dkX6_passName 45 rfl) rfl (lv_at hl 0 rfl) ?_
          exact W.iret (v := r_659) hx hb hr (fun t ht hW => ⟨⟨r_659, r_659, rfl, ⟨rfl, (gi_any r_659)⟩, y_678, y_679, y_681, y_682, y_683, gy_678, gy_682, gy_683, (show q_faultKind.toInt ≤ y_678.toInt from by have qgy_678 := gy_678.1; have rgy_678 := gy_678.2; have qgy_657 := gy_657.1; have rgy_657 := gy_657.2; have qgy_594 := gy_594.1; have rgy_594 := gy_594.2; have qgq_faultKind := gq_faultKind.1; have rgq_faultKind := gq_faultKind.2; have zhpr0_r_593 := Hid.un hpr0_r_593; have zhpr0_r_656 := Hid.un hpr0_r_656; have zhpr0_r_677 := Hid.un hpr0_r_677; omega), (show (y_678.toInt ≠ 0 ∨ p1.toInt = 0 ∨ pnF ep_name e_placeCount r_659 ≠ -1) from by by_cases h9 : y_678.toInt ≠ 0; exact Or.inl h9; refine Or.inr ?_; have w90 := (Hid.un hpr0_r_677); have w91 := (Hid.un hpr0_r_656); have w92 := (Hid.un hpr0_r_593); have lgq_faultKind := gq_faultKind.1; have mgq_faultKind := gq_faultKind.2; have lgy_594 := gy_594.1; have mgy_594 := gy_594.2; have lgy_657 := gy_657.1; have mgy_657 := gy_657.2; have lgy_678 := gy_678.1; have mgy_678 := gy_678.2; have qgy_678 := gy_678.1; have rgy_678 := gy_678.2; have qgy_657 := gy_657.1; have rgy_657 := gy_657.2; have qgy_594 := gy_594.1; have rgy_594 := gy_594.2; have qgr_660 := g_663.1; have rgr_660 := g_663.2; have qgq_faultKind := gq_faultKind.1; have rgq_faultKind := gq_faultKind.2; have qgp1 := g_676.1; have rgp1 := g_676.2; have qge_placeCount := ge_placeCount.1; have rge_placeCount := ge_placeCount.2; have zhpr0_r_593 := Hid.un hpr0_r_593; have zhpr0_r_656 := Hid.un hpr0_r_656; have zhqr_660 := Hid.un hqr_660; have zhpr0_r_677 := Hid.un hpr0_r_677; omega), hF.trans hR9.symm, by rw [ht]; exact hP, hD⟩, hS.F ht⟩) hS.2.2 (dk_at dkX6_passName 46 rfl)
      · have hF := gf_neg c_661 hF
        have hc_684 : r_660.toInt ≠ (-1) := fun h9 => c_661 (Int32.toInt_inj.mp (by rw [show ((-1) : Int32).toInt = (-1) from by decide]; exact h9))
        have g_685 : gi r_660 0 5 := gi_ne_lo c_661 gr_660 (gi_c (-1) (-1) (by decide)) (by decide)
        refine lv_iconst (v := 1) hx hb (dk_at dkX6_passName 33 rfl) (by decide) ?_
        refine lv_goto (tgt := 65) hx hb (dk_at dkX6_passName 34 rfl) (by decide) ?_
        refine lv_iload_n hx hb (dk_at dkX6_passName 36 rfl) rfl (lv_at hl 2 rfl) ?_
        refine lv_icmp_ne (tgt := 73) hx hb (dk_at dkX6_passName 37 rfl) (by decide) (fun c_686 => ?_) (fun c_686 => ?_)
        · have hF := gf_neg c_686 hF
          have hc_687 : 1 ≠ p1.toInt := fun h9 => c_686 (Int32.toInt_inj.mp (by rw [show (1 : Int32).toInt = 1 from by decide]; exact h9))
          refine lv_iconst (v := 0) hx hb (dk_at dkX6_passName 40 rfl) (by decide) ?_
          refine lv_iconst (v := 2) hx hb (dk_at dkX6_passName 41 rfl) (by decide) ?_
          obtain ⟨hPc, hDc, hFc⟩ := gz_cut (wc := [(h0, .inr (6, [.ref tp, .ref dr, .int y_657, .int y_658, .int q_token, .int q_start, .int q_stop]))]) hP hD hS hA [0] (by decide) rfl
          have hKc := hK.sub (tys' := []) [] rfl
          refine va_callv (va_runV (As := [.int 0, .int 2]) (rest := []) ⟨hx, hb, hml, hown, hts⟩ (sX6_expect l dC dI H.size h0 tp dr y_657 y_658 q_token q_start q_stop 0 2 gy_657 gq_start gq_stop (gi_w (gi_c 0 0 (by decide)) (by decide)) (gi_w (gi_c 2 2 (by decide)) (by decide))) (cwV 2 hts (gz_gV mGA_250 mGA_251 mGA_252 mGA_9 mGA_253 goodGA) rfl rfl rfl (by decide +kernel) ⟨Nat.le_of_ble_eq_true rfl, Nat.le_of_ble_eq_true rfl⟩) ⟨bl_I (bl_a bl_sz (bl_a bl_P (bl_a bl_K (bl_a bl_c bl_nz)))), va_recv hKc hPc (ci := 6) (q0 := 0) rfl rfl, fun U hU hW => ⟨rfl, by rw [hU], by rw [hU]; exact hPc, va_K.moved hW.alike hKc, hDc.weaken (fun _ _ _ _ => trivial), nzA_warm hW hz⟩⟩ rfl rfl hl.1 rfl (lv_room (Nat.le_of_ble_eq_true rfl)) (dk_at dkX6_passName 42 rfl) ⟨Nat.zero_le _, Nat.zero_le _⟩) hS (fun q _ h => hFc q h) hFc (fun u t H1 locs ht hvm hw hB hz1 hk1 hS => ?_)
          clear hz1
          obtain ⟨y_689, y_690, hB⟩ := hB
          obtain ⟨gy_689, hpr0_r_688, hpr1_r_688, hE, hP1, hD1⟩ := hB
          rw [ht] at hP1
          obtain ⟨hP, hD⟩ := gz_back hP hD hk1 hFc hP1 hD1 [0] rfl rfl
          have hpr0_r_688 : Hid (y_657.toInt ≤ y_689.toInt) := hpr0_r_688
          have hpr1_r_688 : Hid (((0 : Int) = 1 ∨ 1 ≤ y_689.toInt)) := by have h9 : ((0 : Int32).toInt = 1 ∨ 1 ≤ y_689.toInt) := hpr1_r_688; rw [show (0 : Int32).toInt = 0 from by decide] at h9; exact h9
          have hf_691 : 1 ≤ y_689.toInt := Hid.resL hpr1_r_688 (by omega)
          have g_692 : gi y_689 1 3 := ⟨by omega, gy_689.2⟩
          obtain ⟨hP, hD⟩ := gz_both (w := [(h0, .inr (6, [.ref tp, .ref dr, .int y_689, .int y_690, .int q_token, .int q_start, .int q_stop])), (tp, .inr (10, [.ref bt, .int b_length])), (bt, .inl (kbt, 1600, .inl fbt))]) hP hD
          have hF := gf_call (a := (y_689, y_690)) hE hF
          generalize H1 = H at hP hS ⊢
          refine lv_aload_n hx hb (dk_at dkX6_passName 43 rfl) rfl (lv_at hl 1 rfl) ?_
          obtain ⟨hPc, hDc, hFc⟩ := gz_cut (wc := [(h0, .inr (6, [.ref tp, .ref dr, .int y_689, .int y_690, .int q_token, .int q_start, .int q_stop])), (tp, .inr (10, [.ref bt, .int b_length])), (bt, .inl (kbt, 1600, .inl fbt))]) hP hD hS hA [0, 1, 2] (by decide) rfl
          have hKc := hK.sub (tys' := [(kbt, .byte)]) [0] rfl
          refine va_callv (va_runV (As := []) (rest := []) ⟨hx, hb, hml, hown, hts⟩ (sX6_step l dC dI H.size h0 tp bt dr y_689 y_690 q_token q_start q_stop b_length kbt fbt (gi_w g_692 (by decide)) gq_start gq_stop gb_length) (cwV 0 hts (gz_gV mGA_162 mGA_163 mGA_164 mGA_9 mGA_165 goodGA) rfl rfl rfl (by decide +kernel) ⟨Nat.le_of_ble_eq_true rfl, Nat.le_of_ble_eq_true rfl⟩) ⟨bl_I (bl_a bl_sz (bl_a bl_P (bl_a bl_K (bl_a bl_c bl_nz)))), va_recv hKc hPc (ci := 6) (q0 := 0) rfl rfl, fun U hU hW => ⟨rfl, by rw [hU], by rw [hU]; exact hPc, va_K.moved hW.alike hKc, hDc.weaken (fun _ _ _ _ => trivial), nzA_warm hW hz⟩⟩ rfl rfl hl.1 rfl (lv_room (Nat.le_of_ble_eq_true rfl)) (dk_at dkX6_passName 44 rfl) ⟨Nat.zero_le _, Nat.zero_le _⟩) hS (fun q _ h => hFc q h) hFc (fun u t H1 locs ht hvm hw hB hz1 hk1 hS => ?_)
          clear hz1
          obtain ⟨y_694, y_695, y_696, hB⟩ := hB
          obtain ⟨gy_695, gy_696, hE, hP1, hD1⟩ := hB
          rw [ht] at hP1
          obtain ⟨hP, hD⟩ := gz_back hP hD hk1 hFc hP1 hD1 [0, 1, 2] rfl rfl
          obtain ⟨hP, hD⟩ := gz_both (w := [(h0, .inr (6, [.ref tp, .ref dr, .int y_689, .int y_690, .int y_694, .int y_695, .int y_696])), (tp, .inr (10, [.ref bt, .int b_length])), (bt, .inl (kbt, 1600, .inl fbt))]) hP hD
          have hF := gf_call (a := (y_694, y_695, y_696)) hE hF
          generalize H1 = H at hP hS ⊢
          refine lv_iload_n hx hb (dk_at dkX6_passName 45 rfl) rfl (lv_at hl 0 rfl) ?_
          exact W.iret (v := r_659) hx hb hr (fun t ht hW => ⟨⟨r_659, r_659, rfl, ⟨rfl, (gi_any r_659)⟩, y_689, y_690, y_694, y_695, y_696, (gi_w g_692 (by decide)), gy_695, gy_696, (show q_faultKind.toInt ≤ y_689.toInt from by have qgy_689 := g_692.1; have rgy_689 := g_692.2; have qgy_657 := gy_657.1; have rgy_657 := gy_657.2; have qgy_594 := gy_594.1; have rgy_594 := gy_594.2; have qgq_faultKind := gq_faultKind.1; have rgq_faultKind := gq_faultKind.2; have zhpr0_r_593 := Hid.un hpr0_r_593; have zhpr0_r_656 := Hid.un hpr0_r_656; have zhpr0_r_688 := Hid.un hpr0_r_688; omega), (show (y_689.toInt ≠ 0 ∨ p1.toInt = 0 ∨ pnF ep_name e_placeCount r_659 ≠ -1) from by have qgy_689 := g_692.1; have rgy_689 := g_692.2; have qgy_657 := gy_657.1; have rgy_657 := gy_657.2; have qgy_594 := gy_594.1; have rgy_594 := gy_594.2; have qgr_660 := g_685.1; have rgr_660 := g_685.2; have qgq_faultKind := gq_faultKind.1; have rgq_faultKind := gq_faultKind.2; have qgp1 := gp1.1; have rgp1 := gp1.2; have qge_placeCount := ge_placeCount.1; have rge_placeCount := ge_placeCount.2; have zhpr0_r_593 := Hid.un hpr0_r_593; have zhpr0_r_656 := Hid.un hpr0_r_656; have zhqr_660 := Hid.un hqr_660; have zhpr0_r_688 := Hid.un hpr0_r_688; omega), hF.trans hR9.symm, by rw [ht]; exact hP, hD⟩, hS.F ht⟩) hS.2.2 (dk_at dkX6_passName 46 rfl)
        · have hF := gf_pos c_686 hF
          have hc_697 : 1 = p1.toInt := by have h9 := congrArg Int32.toInt c_686; rw [show (1 : Int32).toInt = 1 from by decide] at h9; exact h9
          have g_698 : gi p1 1 1 := gi_eq c_686.symm (gi_c 1 1 (by decide))
          refine lv_iconst (v := 1) hx hb (dk_at dkX6_passName 38 rfl) (by decide) ?_
          refine lv_goto (tgt := 74) hx hb (dk_at dkX6_passName 39 rfl) (by decide) ?_
          refine lv_iconst (v := 2) hx hb (dk_at dkX6_passName 41 rfl) (by decide) ?_
          obtain ⟨hPc, hDc, hFc⟩ := gz_cut (wc := [(h0, .inr (6, [.ref tp, .ref dr, .int y_657, .int y_658, .int q_token, .int q_start, .int q_stop]))]) hP hD hS hA [0] (by decide) rfl
          have hKc := hK.sub (tys' := []) [] rfl
          refine va_callv (va_runV (As := [.int 1, .int 2]) (rest := []) ⟨hx, hb, hml, hown, hts⟩ (sX6_expect l dC dI H.size h0 tp dr y_657 y_658 q_token q_start q_stop 1 2 gy_657 gq_start gq_stop (gi_w (gi_c 1 1 (by decide)) (by decide)) (gi_w (gi_c 2 2 (by decide)) (by decide))) (cwV 2 hts (gz_gV mGA_250 mGA_251 mGA_252 mGA_9 mGA_253 goodGA) rfl rfl rfl (by decide +kernel) ⟨Nat.le_of_ble_eq_true rfl, Nat.le_of_ble_eq_true rfl⟩) ⟨bl_I (bl_a bl_sz (bl_a bl_P (bl_a bl_K (bl_a bl_c bl_nz)))), va_recv hKc hPc (ci := 6) (q0 := 0) rfl rfl, fun U hU hW => ⟨rfl, by rw [hU], by rw [hU]; exact hPc, va_K.moved hW.alike hKc, hDc.weaken (fun _ _ _ _ => trivial), nzA_warm hW hz⟩⟩ rfl rfl hl.1 rfl (lv_room (Nat.le_of_ble_eq_true rfl)) (dk_at dkX6_passName 42 rfl) ⟨Nat.zero_le _, Nat.zero_le _⟩) hS (fun q _ h => hFc q h) hFc (fun u t H1 locs ht hvm hw hB hz1 hk1 hS => ?_)
          clear hz1
          obtain ⟨y_700, y_701, hB⟩ := hB
          obtain ⟨gy_700, hpr0_r_699, hpr1_r_699, hE, hP1, hD1⟩ := hB
          rw [ht] at hP1
          obtain ⟨hP, hD⟩ := gz_back hP hD hk1 hFc hP1 hD1 [0] rfl rfl
          have hpr0_r_699 : Hid (y_657.toInt ≤ y_700.toInt) := hpr0_r_699
          have hpr1_r_699 : Hid (((1 : Int) = 1 ∨ 1 ≤ y_700.toInt)) := by have h9 : ((1 : Int32).toInt = 1 ∨ 1 ≤ y_700.toInt) := hpr1_r_699; rw [show (1 : Int32).toInt = 1 from by decide] at h9; exact h9
          obtain ⟨hP, hD⟩ := gz_both (w := [(h0, .inr (6, [.ref tp, .ref dr, .int y_700, .int y_701, .int q_token, .int q_start, .int q_stop])), (tp, .inr (10, [.ref bt, .int b_length])), (bt, .inl (kbt, 1600, .inl fbt))]) hP hD
          have hF := gf_call (a := (y_700, y_701)) hE hF
          generalize H1 = H at hP hS ⊢
          refine lv_aload_n hx hb (dk_at dkX6_passName 43 rfl) rfl (lv_at hl 1 rfl) ?_
          obtain ⟨hPc, hDc, hFc⟩ := gz_cut (wc := [(h0, .inr (6, [.ref tp, .ref dr, .int y_700, .int y_701, .int q_token, .int q_start, .int q_stop])), (tp, .inr (10, [.ref bt, .int b_length])), (bt, .inl (kbt, 1600, .inl fbt))]) hP hD hS hA [0, 1, 2] (by decide) rfl
          have hKc := hK.sub (tys' := [(kbt, .byte)]) [0] rfl
          refine va_callv (va_runV (As := []) (rest := []) ⟨hx, hb, hml, hown, hts⟩ (sX6_step l dC dI H.size h0 tp bt dr y_700 y_701 q_token q_start q_stop b_length kbt fbt gy_700 gq_start gq_stop gb_length) (cwV 0 hts (gz_gV mGA_162 mGA_163 mGA_164 mGA_9 mGA_165 goodGA) rfl rfl rfl (by decide +kernel) ⟨Nat.le_of_ble_eq_true rfl, Nat.le_of_ble_eq_true rfl⟩) ⟨bl_I (bl_a bl_sz (bl_a bl_P (bl_a bl_K (bl_a bl_c bl_nz)))), va_recv hKc hPc (ci := 6) (q0 := 0) rfl rfl, fun U hU hW => ⟨rfl, by rw [hU], by rw [hU]; exact hPc, va_K.moved hW.alike hKc, hDc.weaken (fun _ _ _ _ => trivial), nzA_warm hW hz⟩⟩ rfl rfl hl.1 rfl (lv_room (Nat.le_of_ble_eq_true rfl)) (dk_at dkX6_passName 44 rfl) ⟨Nat.zero_le _, Nat.zero_le _⟩) hS (fun q _ h => hFc q h) hFc (fun u t H1 locs ht hvm hw hB hz1 hk1 hS => ?_)
          clear hz1
          obtain ⟨y_703, y_704, y_705, hB⟩ := hB
          obtain ⟨gy_704, gy_705, hE, hP1, hD1⟩ := hB
          rw [ht] at hP1
          obtain ⟨hP, hD⟩ := gz_back hP hD hk1 hFc hP1 hD1 [0, 1, 2] rfl rfl
          obtain ⟨hP, hD⟩ := gz_both (w := [(h0, .inr (6, [.ref tp, .ref dr, .int y_700, .int y_701, .int y_703, .int y_704, .int y_705])), (tp, .inr (10, [.ref bt, .int b_length])), (bt, .inl (kbt, 1600, .inl fbt))]) hP hD
          have hF := gf_call (a := (y_703, y_704, y_705)) hE hF
          generalize H1 = H at hP hS ⊢
          refine lv_iload_n hx hb (dk_at dkX6_passName 45 rfl) rfl (lv_at hl 0 rfl) ?_
          exact W.iret (v := r_659) hx hb hr (fun t ht hW => ⟨⟨r_659, r_659, rfl, ⟨rfl, (gi_any r_659)⟩, y_700, y_701, y_703, y_704, y_705, gy_700, gy_704, gy_705, (show q_faultKind.toInt ≤ y_700.toInt from by have qgy_700 := gy_700.1; have rgy_700 := gy_700.2; have qgy_657 := gy_657.1; have rgy_657 := gy_657.2; have qgy_594 := gy_594.1; have rgy_594 := gy_594.2; have qgq_faultKind := gq_faultKind.1; have rgq_faultKind := gq_faultKind.2; have zhpr0_r_593 := Hid.un hpr0_r_593; have zhpr0_r_656 := Hid.un hpr0_r_656; have zhpr0_r_699 := Hid.un hpr0_r_699; omega), (show (y_700.toInt ≠ 0 ∨ p1.toInt = 0 ∨ pnF ep_name e_placeCount r_659 ≠ -1) from by by_cases h9 : y_700.toInt ≠ 0; exact Or.inl h9; refine Or.inr ?_; have w90 := (Hid.un hpr0_r_699); have w91 := (Hid.un hpr0_r_656); have w92 := (Hid.un hpr0_r_593); have lgq_faultKind := gq_faultKind.1; have mgq_faultKind := gq_faultKind.2; have lgy_594 := gy_594.1; have mgy_594 := gy_594.2; have lgy_657 := gy_657.1; have mgy_657 := gy_657.2; have lgy_700 := gy_700.1; have mgy_700 := gy_700.2; have qgy_700 := gy_700.1; have rgy_700 := gy_700.2; have qgy_657 := gy_657.1; have rgy_657 := gy_657.2; have qgy_594 := gy_594.1; have rgy_594 := gy_594.2; have qgr_660 := g_685.1; have rgr_660 := g_685.2; have qgq_faultKind := gq_faultKind.1; have rgq_faultKind := gq_faultKind.2; have qgp1 := g_698.1; have rgp1 := g_698.2; have qge_placeCount := ge_placeCount.1; have rge_placeCount := ge_placeCount.2; have zhpr0_r_593 := Hid.un hpr0_r_593; have zhpr0_r_656 := Hid.un hpr0_r_656; have zhqr_660 := Hid.un hqr_660; have zhpr0_r_699 := Hid.un hpr0_r_699; omega), hF.trans hR9.symm, by rw [ht]; exact hP, hD⟩, hS.F ht⟩) hS.2.2 (dk_at dkX6_passName 46 rfl)
noncomputable def lsX6_readFirst : List (Nat × Instr × Nat) := [(0, .aload_n 0, 1), (1, .ldc 92, 2), (3, .invokevirtual 94, 3), (6, .aload_n 0, 1), (7, .ldc 98, 2), (9, .invokevirtual 94, 3), (12, .aload_n 0, 1), (13, .iconst 2, 1), (14, .bipush 24, 2), (16, .invokevirtual 100, 3), (19, .istore_n 1, 1), (20, .aload_n 0, 1), (21, .ldc 104, 2), (23, .invokevirtual 94, 3), (26, .aload_n 0, 1), (27, .iconst 1, 1), (28, .iconst 5, 1), (29, .invokevirtual 100, 3), (32, .istore_n 2, 1), (33, .aload_n 0, 1), (34, .ldc 106, 2), (36, .invokevirtual 94, 3), (39, .aload_n 0, 1), (40, .iconst 1, 1), (41, .iconst 5, 1), (42, .invokevirtual 100, 3), (45, .istore_n 3, 1), (46, .aload_n 0, 1), (47, .getfield 25, 3), (50, .ifCond .ne 27, 3), (53, .aload_n 0, 1), (54, .getfield 21, 3), (57, .iload_n 1, 1), (58, .putfield 108, 3), (61, .aload_n 0, 1), (62, .getfield 21, 3), (65, .iload_n 2, 1), (66, .putfield 110, 3), (69, .aload_n 0, 1), (70, .getfield 21, 3), (73, .iload_n 3, 1), (74, .putfield 112, 3), (77, .return_, 1)]
theorem dkX6_readFirst : dkAll cX6_readFirst lsX6_readFirst = true := by decide +kernel
noncomputable def bfX6_readFirst_77 (q_faultKind : Int32) (q_faultPlace : Int32) (q_token : Int32) (q_start : Int32) (q_stop : Int32) (b_length : Int32) (fbt : Nat → Int32) (e_months : Int32) (e_full : Int32) (e_lean : Int32) (w0_2 : Int32) (w0_3 : Int32) (w0_4 : Int32) (w0_5 : Int32) (w0_6 : Int32) (w3_0 : Int32) (w3_1 : Int32) (w3_2 : Int32) : Int32 × Int32 × Int32 × Int32 × Int32 × Int32 × Int32 × Int32 := (w0_2, w0_3, w0_4, w0_5, w0_6, w3_0, w3_1, w3_2)
noncomputable def fX6_readFirst (q_faultKind : Int32) (q_faultPlace : Int32) (q_token : Int32) (q_start : Int32) (q_stop : Int32) (b_length : Int32) (fbt : Nat → Int32) (e_months : Int32) (e_full : Int32) (e_lean : Int32) : Int32 × Int32 × Int32 × Int32 × Int32 × Int32 × Int32 × Int32 := cal (fun o1 => cal (fun o2 => cal (fun o3 => cal (fun o4 => cal (fun o5 => cal (fun o6 => cal (fun o7 => if o7.2.1 = (0 : Int32) then (bfX6_readFirst_77 q_faultKind q_faultPlace q_token q_start q_stop b_length fbt e_months e_full e_lean o7.2.1 o7.2.2.1 o7.2.2.2.1 o7.2.2.2.2.1 o7.2.2.2.2.2 o3.1 o5.1 o7.1) else (bfX6_readFirst_77 q_faultKind q_faultPlace q_token q_start q_stop b_length fbt e_months e_full e_lean o7.2.1 o7.2.2.1 o7.2.2.2.1 o7.2.2.2.2.1 o7.2.2.2.2.2 e_months e_full e_lean)) (fX6_passNumber o6.1 o6.2.1 o6.2.2.1 o6.2.2.2.1 o6.2.2.2.2 b_length fbt (1 : Int32) (5 : Int32))) (fX6_passWord o5.2.1 o5.2.2.1 o5.2.2.2.1 o5.2.2.2.2.1 o5.2.2.2.2.2 b_length fbt 9)) (fX6_passNumber o4.1 o4.2.1 o4.2.2.1 o4.2.2.2.1 o4.2.2.2.2 b_length fbt (1 : Int32) (5 : Int32))) (fX6_passWord o3.2.1 o3.2.2.1 o3.2.2.2.1 o3.2.2.2.2.1 o3.2.2.2.2.2 b_length fbt 7)) (fX6_passNumber o2.1 o2.2.1 o2.2.2.1 o2.2.2.2.1 o2.2.2.2.2 b_length fbt (2 : Int32) (24 : Int32))) (fX6_passWord o1.1 o1.2.1 o1.2.2.1 o1.2.2.2.1 o1.2.2.2.2 b_length fbt 11)) (fX6_passWord q_faultKind q_faultPlace q_token q_start q_stop b_length fbt 0)
abbrev pb_sX6_readFirst (dC : Nat → ClassId) (dI : Nat → Nat → Nat) (A9 : Nat → Prop) (h0 : Nat) (tp : Nat) (bt : Nat) (dr : Nat) (q_faultKind : Int32) (q_faultPlace : Int32) (q_token : Int32) (q_start : Int32) (q_stop : Int32) (b_length : Int32) (kbt : ClassId) (fbt : Nat → Int32) (e_months : Int32) (e_full : Int32) (e_lean : Int32) (e_lines : Int32) (e_hasMoon : Int32) (e_moonStart : Int32) (e_moonStep : Int32) (e_placeCount : Int32) (e_reportCount : Int32) (e_deedCount : Int32) (dpl : Nat) (dre : Nat) (dde : Nat) (sa : Nat → Nat) (sb : Nat → Nat) (zf : Value) (w0_2 : Int32) (w0_3 : Int32) (w0_4 : Int32) (w0_5 : Int32) (w0_6 : Int32) (w3_0 : Int32) (w3_1 : Int32) (w3_2 : Int32) (t : State) : Prop := gi w0_2 0 3 ∧ gi w0_5 0 1600 ∧ gi w0_6 0 1600 ∧ gi w3_0 0 24 ∧ gi w3_1 0 5 ∧ gi w3_2 0 5 ∧ q_faultKind.toInt ≤ w0_2.toInt ∧ (w0_2, w0_3, w0_4, w0_5, w0_6, w3_0, w3_1, w3_2) = fX6_readFirst q_faultKind q_faultPlace q_token q_start q_stop b_length fbt e_months e_full e_lean ∧ va_P (dC, dI) vwCl [(h0, .inr (6, [.ref tp, .ref dr, .int w0_2, .int w0_3, .int w0_4, .int w0_5, .int w0_6])), (tp, .inr (10, [.ref bt, .int b_length])), (bt, .inl (kbt, 1600, .inl fbt)), (dr, .inr (0, [.int w3_0, .int w3_1, .int w3_2, .int e_lines, .int e_hasMoon, .int e_moonStart, .int e_moonStep, .int e_placeCount, .int e_reportCount, .int e_deedCount, .ref dpl, .ref dre, .ref dde]))] t.heap ∧ va_D A9 [(h0, .inr (6, [.ref tp, .ref dr, .int w0_2, .int w0_3, .int w0_4, .int w0_5, .int w0_6])), (tp, .inr (10, [.ref bt, .int b_length])), (bt, .inl (kbt, 1600, .inl fbt)), (dr, .inr (0, [.int w3_0, .int w3_1, .int w3_2, .int e_lines, .int e_hasMoon, .int e_moonStart, .int e_moonStep, .int e_placeCount, .int e_reportCount, .int e_deedCount, .ref dpl, .ref dre, .ref dde]))]
set_option maxHeartbeats 4000000 in
set_option maxRecDepth 100000 in
theorem sX6_readFirst (l : Launch) (dC : Nat → ClassId) (dI : Nat → Nat → Nat) (sz : Nat) (h0 : Nat) (tp : Nat) (bt : Nat) (dr : Nat) (q_faultKind : Int32) (q_faultPlace : Int32) (q_token : Int32) (q_start : Int32) (q_stop : Int32) (b_length : Int32) (kbt : ClassId) (fbt : Nat → Int32) (e_months : Int32) (e_full : Int32) (e_lean : Int32) (e_lines : Int32) (e_hasMoon : Int32) (e_moonStart : Int32) (e_moonStep : Int32) (e_placeCount : Int32) (e_reportCount : Int32) (e_deedCount : Int32) (dpl : Nat) (dre : Nat) (dde : Nat) (sa : Nat → Nat) (sb : Nat → Nat) (zf : Value) (gq_faultKind : gi q_faultKind 0 3) (gq_start : gi q_start 0 1600) (gq_stop : gi q_stop 0 1600) (gb_length : gi b_length 0 1600) (ge_months : gi e_months 0 24) (ge_full : gi e_full 0 5) (ge_lean : gi e_lean 0 5) (ge_hasMoon : gi e_hasMoon 0 1) (ge_placeCount : gi e_placeCount 0 6) (ge_reportCount : gi e_reportCount 0 24) (ge_deedCount : gi e_deedCount 0 8) : Met l yX6_readFirst (.code yX6_readFirst cX6_readFirst 4 none :: wsGA) ({ frames := 6, cells := 0, slots := 0, locals := 128 }) (va_Pc [.ref h0] (fun U => U.heap.size = sz ∧ va_P (dC, dI) vwCl [(h0, .inr (6, [.ref tp, .ref dr, .int q_faultKind, .int q_faultPlace, .int q_token, .int q_start, .int q_stop])), (tp, .inr (10, [.ref bt, .int b_length])), (bt, .inl (kbt, 1600, .inl fbt)), (dr, .inr (0, [.int e_months, .int e_full, .int e_lean, .int e_lines, .int e_hasMoon, .int e_moonStart, .int e_moonStep, .int e_placeCount, .int e_reportCount, .int e_deedCount, .ref dpl, .ref dre, .ref dde]))] U.heap ∧ va_K (dC, dI) vwCl [(kbt, .byte)] U ∧ va_D (fun _ => True) [(h0, .inr (6, [.ref tp, .ref dr, .int q_faultKind, .int q_faultPlace, .int q_token, .int q_start, .int q_stop])), (tp, .inr (10, [.ref bt, .int b_length])), (bt, .inl (kbt, 1600, .inl fbt)), (dr, .inr (0, [.int e_months, .int e_full, .int e_lean, .int e_lines, .int e_hasMoon, .int e_moonStart, .int e_moonStep, .int e_placeCount, .int e_reportCount, .int e_deedCount, .ref dpl, .ref dre, .ref dde]))] ∧ nzA U ∧ gz_ST RX6 stIA sa sb zf (va_A [(h0, .inr (6, [.ref tp, .ref dr, .int q_faultKind, .int q_faultPlace, .int q_token, .int q_start, .int q_stop])), (tp, .inr (10, [.ref bt, .int b_length])), (bt, .inl (kbt, 1600, .inl fbt)), (dr, .inr (0, [.int e_months, .int e_full, .int e_lean, .int e_lines, .int e_hasMoon, .int e_moonStart, .int e_moonStep, .int e_placeCount, .int e_reportCount, .int e_deedCount, .ref dpl, .ref dre, .ref dde]))] sz) U U.heap)) (va_Qv (fun (u : Unit) => True) (fun _ t => ∃ (w0_2 : Int32) (w0_3 : Int32) (w0_4 : Int32) (w0_5 : Int32) (w0_6 : Int32) (w3_0 : Int32) (w3_1 : Int32) (w3_2 : Int32), pb_sX6_readFirst dC dI (va_A [(h0, .inr (6, [.ref tp, .ref dr, .int q_faultKind, .int q_faultPlace, .int q_token, .int q_start, .int q_stop])), (tp, .inr (10, [.ref bt, .int b_length])), (bt, .inl (kbt, 1600, .inl fbt)), (dr, .inr (0, [.int e_months, .int e_full, .int e_lean, .int e_lines, .int e_hasMoon, .int e_moonStart, .int e_moonStep, .int e_placeCount, .int e_reportCount, .int e_deedCount, .ref dpl, .ref dre, .ref dde]))] sz) h0 tp bt dr q_faultKind q_faultPlace q_token q_start q_stop b_length kbt fbt e_months e_full e_lean e_lines e_hasMoon e_moonStart e_moonStep e_placeCount e_reportCount e_deedCount dpl dre dde sa sb zf w0_2 w0_3 w0_4 w0_5 w0_6 w3_0 w3_1 w3_2 t) (va_A [(h0, .inr (6, [.ref tp, .ref dr, .int q_faultKind, .int q_faultPlace, .int q_token, .int q_start, .int q_stop])), (tp, .inr (10, [.ref bt, .int b_length])), (bt, .inl (kbt, 1600, .inl fbt)), (dr, .inr (0, [.int e_months, .int e_full, .int e_lean, .int e_lines, .int e_hasMoon, .int e_moonStart, .int e_moonStep, .int e_placeCount, .int e_reportCount, .int e_deedCount, .ref dpl, .ref dre, .ref dde]))] sz)) 0 0 (va_A [(h0, .inr (6, [.ref tp, .ref dr, .int q_faultKind, .int q_faultPlace, .int q_token, .int q_start, .int q_stop])), (tp, .inr (10, [.ref bt, .int b_length])), (bt, .inl (kbt, 1600, .inl fbt)), (dr, .inr (0, [.int e_months, .int e_full, .int e_lean, .int e_lines, .int e_hasMoon, .int e_moonStart, .int e_moonStep, .int e_placeCount, .int e_reportCount, .int e_deedCount, .ref dpl, .ref dre, .ref dde]))] sz) := by
  refine Met.ofW (cc := cX6_readFirst) (maxL := 4) (ret := none) (by decide) rfl ?_
  intro p e s m args below meth c s₁ B hml hv
  obtain ⟨rfl, hsz, hP, hK, hD0, hz, hT⟩ := hv
  have hx := B.exec
  have hb := B.bytes
  have hr := B.returns
  have hts := atoms_spec (ws := (.code yX6_readFirst cX6_readFirst 4 none :: wsGA)) B.pre
  have hown : s.vm.findClass RX6 = some m.cls := findClass_of_methodNamed B.named
  have hlocks := B.notSynchronized
  subst hsz
  have hD := hD0.self (sz := s.heap.size)
  generalize hAe : va_A [(h0, .inr (6, [.ref tp, .ref dr, .int q_faultKind, .int q_faultPlace, .int q_token, .int q_start, .int q_stop])), (tp, .inr (10, [.ref bt, .int b_length])), (bt, .inl (kbt, 1600, .inl fbt)), (dr, .inr (0, [.int e_months, .int e_full, .int e_lean, .int e_lines, .int e_hasMoon, .int e_moonStart, .int e_moonStep, .int e_placeCount, .int e_reportCount, .int e_deedCount, .ref dpl, .ref dre, .ref dde]))] s.heap.size = A at hD hT ⊢
  have hA : ∀ q : Nat, s.heap.size ≤ q → A q := fun q h => by rw [← hAe]; exact Or.inr h
  have hS : va_S A s.heap s.heap [] := va_S.rf
  have hl := lv_entry ([.ref h0]) (n := 4) (Nat.le_of_ble_eq_true rfl)
  rw [lg_entry_eq]
  generalize (lg_sl ([.ref h0]) ++ List.replicate (4 - (lg_sl ([.ref h0])).length) Slot.unset).toArray = ls at hl ⊢
  have hl : lv_has ls 4 [(0, .ref h0)] := hl
  obtain ⟨RES, hF⟩ : ∃ R9, fX6_readFirst q_faultKind q_faultPlace q_token q_start q_stop b_length fbt e_months e_full e_lean = R9 := ⟨_, rfl⟩
  have hR9 := hF
  refine lv_aload_n hx hb (dk_at dkX6_readFirst 0 rfl) rfl (lv_at hl 0 rfl) ?_
  refine va_ldcS hx hb hown (show vk_R RX6 92 "almanac" (sa 0) s from (hT.2 0 (by decide)).1) (dk_at dkX6_readFirst 1 rfl) ?_
  obtain ⟨hPc, hDc, hFc⟩ := gz_cut (wc := [(h0, .inr (6, [.ref tp, .ref dr, .int q_faultKind, .int q_faultPlace, .int q_token, .int q_start, .int q_stop])), (tp, .inr (10, [.ref bt, .int b_length])), (bt, .inl (kbt, 1600, .inl fbt))]) hP hD hS hA [0, 1, 2] (by decide) rfl
  have hKc := hK.sub (tys' := [(kbt, .byte)]) [0] rfl
  refine va_callv (va_runV (As := [.ref (sa 0)]) (rest := []) ⟨hx, hb, hml, hown, hts⟩ (sX6_passWord l dC dI s.heap.size h0 tp bt dr q_faultKind q_faultPlace q_token q_start q_stop b_length kbt fbt sa sb zf 0 gq_faultKind gq_start gq_stop gb_length (by decide)) (cwV 1 hts (gz_gV mGA_193 mGA_194 mGA_195 mGA_9 mGA_196 goodGA) rfl rfl rfl (by decide +kernel) ⟨Nat.le_of_ble_eq_true rfl, Nat.le_of_ble_eq_true rfl⟩) ⟨bl_I (bl_a bl_sz (bl_a bl_P (bl_a bl_K (bl_a bl_c (bl_a bl_nz bl_ST))))), va_recv hKc hPc (ci := 6) (q0 := 0) rfl rfl, fun U hU hW => ⟨rfl, by rw [hU], by rw [hU]; exact hPc, va_K.moved hW.alike hKc, hDc.weaken (fun _ _ _ _ => trivial), nzA_warm hW hz, by rw [hU]; exact ((hT.kept hS.2.1).narrow (fun q h => hFc q h)).warm hW⟩⟩ rfl rfl hl.1 rfl (lv_room (Nat.le_of_ble_eq_true rfl)) (dk_at dkX6_readFirst 2 rfl) ⟨Nat.zero_le _, Nat.zero_le _⟩) hS (fun q _ h => hFc q h) hFc (fun u t H1 locs ht hvm hw hB hz1 hk1 hS => ?_)
  clear hz1
  obtain ⟨y_128, y_129, y_130, y_131, y_132, hB⟩ := hB
  obtain ⟨gy_128, gy_131, gy_132, hpr0_r_127, hE, hP1, hD1⟩ := hB
  rw [ht] at hP1
  obtain ⟨hP, hD⟩ := gz_back hP hD hk1 hFc hP1 hD1 [0, 1, 2] rfl rfl
  have hpr0_r_127 : Hid (q_faultKind.toInt ≤ y_128.toInt) := hpr0_r_127
  obtain ⟨hP, hD⟩ := gz_both (w := [(h0, .inr (6, [.ref tp, .ref dr, .int y_128, .int y_129, .int y_130, .int y_131, .int y_132])), (tp, .inr (10, [.ref bt, .int b_length])), (bt, .inl (kbt, 1600, .inl fbt)), (dr, .inr (0, [.int e_months, .int e_full, .int e_lean, .int e_lines, .int e_hasMoon, .int e_moonStart, .int e_moonStep, .int e_placeCount, .int e_reportCount, .int e_deedCount, .ref dpl, .ref dre, .ref dde]))]) hP hD
  have hF := gf_callm (a := (y_128, y_129, y_130, y_131, y_132)) hE hF (by first | with_reducible rfl | dsimp only)
  generalize H1 = H at hP hS ⊢
  refine lv_aload_n hx hb (dk_at dkX6_readFirst 3 rfl) rfl (lv_at hl 0 rfl) ?_
  refine va_ldcS hx hb hown (show vk_R RX6 98 "months" (sa 11) s from (hT.2 11 (by decide)).1) (dk_at dkX6_readFirst 4 rfl) ?_
  obtain ⟨hPc, hDc, hFc⟩ := gz_cut (wc := [(h0, .inr (6, [.ref tp, .ref dr, .int y_128, .int y_129, .int y_130, .int y_131, .int y_132])), (tp, .inr (10, [.ref bt, .int b_length])), (bt, .inl (kbt, 1600, .inl fbt))]) hP hD hS hA [0, 1, 2] (by decide) rfl
  have hKc := hK.sub (tys' := [(kbt, .byte)]) [0] rfl
  refine va_callv (va_runV (As := [.ref (sa 11)]) (rest := []) ⟨hx, hb, hml, hown, hts⟩ (sX6_passWord l dC dI H.size h0 tp bt dr y_128 y_129 y_130 y_131 y_132 b_length kbt fbt sa sb zf 11 gy_128 gy_131 gy_132 gb_length (by decide)) (cwV 1 hts (gz_gV mGA_193 mGA_194 mGA_195 mGA_9 mGA_196 goodGA) rfl rfl rfl (by decide +kernel) ⟨Nat.le_of_ble_eq_true rfl, Nat.le_of_ble_eq_true rfl⟩) ⟨bl_I (bl_a bl_sz (bl_a bl_P (bl_a bl_K (bl_a bl_c (bl_a bl_nz bl_ST))))), va_recv hKc hPc (ci := 6) (q0 := 0) rfl rfl, fun U hU hW => ⟨rfl, by rw [hU], by rw [hU]; exact hPc, va_K.moved hW.alike hKc, hDc.weaken (fun _ _ _ _ => trivial), nzA_warm hW hz, by rw [hU]; exact ((hT.kept hS.2.1).narrow (fun q h => hFc q h)).warm hW⟩⟩ rfl rfl hl.1 rfl (lv_room (Nat.le_of_ble_eq_true rfl)) (dk_at dkX6_readFirst 5 rfl) ⟨Nat.zero_le _, Nat.zero_le _⟩) hS (fun q _ h => hFc q h) hFc (fun u t H1 locs ht hvm hw hB hz1 hk1 hS => ?_)
  clear hz1
  obtain ⟨y_134, y_135, y_136, y_137, y_138, hB⟩ := hB
  obtain ⟨gy_134, gy_137, gy_138, hpr0_r_133, hE, hP1, hD1⟩ := hB
  rw [ht] at hP1
  obtain ⟨hP, hD⟩ := gz_back hP hD hk1 hFc hP1 hD1 [0, 1, 2] rfl rfl
  have hpr0_r_133 : Hid (y_128.toInt ≤ y_134.toInt) := hpr0_r_133
  obtain ⟨hP, hD⟩ := gz_both (w := [(h0, .inr (6, [.ref tp, .ref dr, .int y_134, .int y_135, .int y_136, .int y_137, .int y_138])), (tp, .inr (10, [.ref bt, .int b_length])), (bt, .inl (kbt, 1600, .inl fbt)), (dr, .inr (0, [.int e_months, .int e_full, .int e_lean, .int e_lines, .int e_hasMoon, .int e_moonStart, .int e_moonStep, .int e_placeCount, .int e_reportCount, .int e_deedCount, .ref dpl, .ref dre, .ref dde]))]) hP hD
  have hF := gf_callm (a := (y_134, y_135, y_136, y_137, y_138)) hE hF (by first | with_reducible rfl | dsimp only)
  generalize H1 = H at hP hS ⊢
  refine lv_aload_n hx hb (dk_at dkX6_readFirst 6 rfl) rfl (lv_at hl 0 rfl) ?_
  refine lv_iconst (v := 2) hx hb (dk_at dkX6_readFirst 7 rfl) (by decide) ?_
  refine lv_bipush (v := 24) hx hb (dk_at dkX6_readFirst 8 rfl) (by decide) ?_
  obtain ⟨hPc, hDc, hFc⟩ := gz_cut (wc := [(h0, .inr (6, [.ref tp, .ref dr, .int y_134, .int y_135, .int y_136, .int y_137, .int y_138])), (tp, .inr (10, [.ref bt, .int b_length])), (bt, .inl (kbt, 1600, .inl fbt))]) hP hD hS hA [0, 1, 2] (by decide) rfl
  have hKc := hK.sub (tys' := [(kbt, .byte)]) [0] rfl
  refine va_calli (va_runV (As := [.int 2, .int 24]) (rest := []) ⟨hx, hb, hml, hown, hts⟩ (sX6_passNumber l dC dI H.size h0 tp bt dr y_134 y_135 y_136 y_137 y_138 b_length kbt fbt 2 24 gy_134 gy_137 gy_138 gb_length) (cwV 2 hts (gz_gV mGA_258 mGA_259 mGA_260 mGA_9 mGA_261 goodGA) rfl rfl rfl (by decide +kernel) ⟨Nat.le_of_ble_eq_true rfl, Nat.le_of_ble_eq_true rfl⟩) ⟨bl_I (bl_a bl_sz (bl_a bl_P (bl_a bl_K (bl_a bl_c bl_nz)))), va_recv hKc hPc (ci := 6) (q0 := 0) rfl rfl, fun U hU hW => ⟨rfl, by rw [hU], by rw [hU]; exact hPc, va_K.moved hW.alike hKc, hDc.weaken (fun _ _ _ _ => trivial), nzA_warm hW hz⟩⟩ rfl rfl hl.1 rfl (lv_room (Nat.le_of_ble_eq_true rfl)) (dk_at dkX6_readFirst 9 rfl) ⟨Nat.zero_le _, Nat.zero_le _⟩) hS (fun q _ h => hFc q h) hFc (fun r_139 u t H1 locs ht hvm hw hB hz1 hk1 hS => ?_)
  clear hz1
  obtain ⟨hu_, hw⟩ := hw
  subst hu_
  obtain ⟨y_140, y_141, y_142, y_143, y_144, hB⟩ := hB
  obtain ⟨gy_140, gy_143, gy_144, hpr0_r_139, hpr1_r_139, hE, hP1, hD1⟩ := hB
  rw [ht] at hP1
  obtain ⟨hP, hD⟩ := gz_back hP hD hk1 hFc hP1 hD1 [0, 1, 2] rfl rfl
  have hpr0_r_139 : Hid (y_134.toInt ≤ y_140.toInt) := hpr0_r_139
  have hpr1_r_139 : Hid ((y_140.toInt ≠ 0 ∨ ((2 : Int) ≤ r_139.toInt ∧ r_139.toInt ≤ (24 : Int)))) := by have h9 : (y_140.toInt ≠ 0 ∨ ((2 : Int32).toInt ≤ r_139.toInt ∧ r_139.toInt ≤ (24 : Int32).toInt)) := hpr1_r_139; rw [show (2 : Int32).toInt = 2 from by decide] at h9; rw [show (24 : Int32).toInt = 24 from by decide] at h9; exact h9
  obtain ⟨hP, hD⟩ := gz_both (w := [(h0, .inr (6, [.ref tp, .ref dr, .int y_140, .int y_141, .int y_142, .int y_143, .int y_144])), (tp, .inr (10, [.ref bt, .int b_length])), (bt, .inl (kbt, 1600, .inl fbt)), (dr, .inr (0, [.int e_months, .int e_full, .int e_lean, .int e_lines, .int e_hasMoon, .int e_moonStart, .int e_moonStep, .int e_placeCount, .int e_reportCount, .int e_deedCount, .ref dpl, .ref dre, .ref dde]))]) hP hD
  have hF := gf_callm (a := (r_139, y_140, y_141, y_142, y_143, y_144)) hE hF (by first | with_reducible rfl | dsimp only)
  generalize H1 = H at hP hS ⊢
  refine lv_istore_n (lv' := [(1, .int r_139), (0, .ref h0)]) hx hb (dk_at dkX6_readFirst 10 rfl) rfl hl (by decide) rfl (fun ls hl => ?_)
  refine lv_aload_n hx hb (dk_at dkX6_readFirst 11 rfl) rfl (lv_at hl 1 rfl) ?_
  refine va_ldcS hx hb hown (show vk_R RX6 104 "full" (sa 7) s from (hT.2 7 (by decide)).1) (dk_at dkX6_readFirst 12 rfl) ?_
  obtain ⟨hPc, hDc, hFc⟩ := gz_cut (wc := [(h0, .inr (6, [.ref tp, .ref dr, .int y_140, .int y_141, .int y_142, .int y_143, .int y_144])), (tp, .inr (10, [.ref bt, .int b_length])), (bt, .inl (kbt, 1600, .inl fbt))]) hP hD hS hA [0, 1, 2] (by decide) rfl
  have hKc := hK.sub (tys' := [(kbt, .byte)]) [0] rfl
  refine va_callv (va_runV (As := [.ref (sa 7)]) (rest := []) ⟨hx, hb, hml, hown, hts⟩ (sX6_passWord l dC dI H.size h0 tp bt dr y_140 y_141 y_142 y_143 y_144 b_length kbt fbt sa sb zf 7 gy_140 gy_143 gy_144 gb_length (by decide)) (cwV 1 hts (gz_gV mGA_193 mGA_194 mGA_195 mGA_9 mGA_196 goodGA) rfl rfl rfl (by decide +kernel) ⟨Nat.le_of_ble_eq_true rfl, Nat.le_of_ble_eq_true rfl⟩) ⟨bl_I (bl_a bl_sz (bl_a bl_P (bl_a bl_K (bl_a bl_c (bl_a bl_nz bl_ST))))), va_recv hKc hPc (ci := 6) (q0 := 0) rfl rfl, fun U hU hW => ⟨rfl, by rw [hU], by rw [hU]; exact hPc, va_K.moved hW.alike hKc, hDc.weaken (fun _ _ _ _ => trivial), nzA_warm hW hz, by rw [hU]; exact ((hT.kept hS.2.1).narrow (fun q h => hFc q h)).warm hW⟩⟩ rfl rfl hl.1 rfl (lv_room (Nat.le_of_ble_eq_true rfl)) (dk_at dkX6_readFirst 13 rfl) ⟨Nat.zero_le _, Nat.zero_le _⟩) hS (fun q _ h => hFc q h) hFc (fun u t H1 locs ht hvm hw hB hz1 hk1 hS => ?_)
  clear hz1
  obtain ⟨y_146, y_147, y_148, y_149, y_150, hB⟩ := hB
  obtain ⟨gy_146, gy_149, gy_150, hpr0_r_145, hE, hP1, hD1⟩ := hB
  rw [ht] at hP1
  obtain ⟨hP, hD⟩ := gz_back hP hD hk1 hFc hP1 hD1 [0, 1, 2] rfl rfl
  have hpr0_r_145 : Hid (y_140.toInt ≤ y_146.toInt) := hpr0_r_145
  obtain ⟨hP, hD⟩ := gz_both (w := [(h0, .inr (6, [.ref tp, .ref dr, .int y_146, .int y_147, .int y_148, .int y_149, .int y_150])), (tp, .inr (10, [.ref bt, .int b_length])), (bt, .inl (kbt, 1600, .inl fbt)), (dr, .inr (0, [.int e_months, .int e_full, .int e_lean, .int e_lines, .int e_hasMoon, .int e_moonStart, .int e_moonStep, .int e_placeCount, .int e_reportCount, .int e_deedCount, .ref dpl, .ref dre, .ref dde]))]) hP hD
  have hF := gf_callm (a := (y_146, y_147, y_148, y_149, y_150)) hE hF (by first | with_reducible rfl | dsimp only)
  generalize H1 = H at hP hS ⊢
  refine lv_aload_n hx hb (dk_at dkX6_readFirst 14 rfl) rfl (lv_at hl 1 rfl) ?_
  refine lv_iconst (v := 1) hx hb (dk_at dkX6_readFirst 15 rfl) (by decide) ?_
  refine lv_iconst (v := 5) hx hb (dk_at dkX6_readFirst 16 rfl) (by decide) ?_
  obtain ⟨hPc, hDc, hFc⟩ := gz_cut (wc := [(h0, .inr (6, [.ref tp, .ref dr, .int y_146, .int y_147, .int y_148, .int y_149, .int y_150])), (tp, .inr (10, [.ref bt, .int b_length])), (bt, .inl (kbt, 1600, .inl fbt))]) hP hD hS hA [0, 1, 2] (by decide) rfl
  have hKc := hK.sub (tys' := [(kbt, .byte)]) [0] rfl
  refine va_calli (va_runV (As := [.int 1, .int 5]) (rest := []) ⟨hx, hb, hml, hown, hts⟩ (sX6_passNumber l dC dI H.size h0 tp bt dr y_146 y_147 y_148 y_149 y_150 b_length kbt fbt 1 5 gy_146 gy_149 gy_150 gb_length) (cwV 2 hts (gz_gV mGA_258 mGA_259 mGA_260 mGA_9 mGA_261 goodGA) rfl rfl rfl (by decide +kernel) ⟨Nat.le_of_ble_eq_true rfl, Nat.le_of_ble_eq_true rfl⟩) ⟨bl_I (bl_a bl_sz (bl_a bl_P (bl_a bl_K (bl_a bl_c bl_nz)))), va_recv hKc hPc (ci := 6) (q0 := 0) rfl rfl, fun U hU hW => ⟨rfl, by rw [hU], by rw [hU]; exact hPc, va_K.moved hW.alike hKc, hDc.weaken (fun _ _ _ _ => trivial), nzA_warm hW hz⟩⟩ rfl rfl hl.1 rfl (lv_room (Nat.le_of_ble_eq_true rfl)) (dk_at dkX6_readFirst 17 rfl) ⟨Nat.zero_le _, Nat.zero_le _⟩) hS (fun q _ h => hFc q h) hFc (fun r_151 u t H1 locs ht hvm hw hB hz1 hk1 hS => ?_)
  clear hz1
  obtain ⟨hu_, hw⟩ := hw
  subst hu_
  obtain ⟨y_152, y_153, y_154, y_155, y_156, hB⟩ := hB
  obtain ⟨gy_152, gy_155, gy_156, hpr0_r_151, hpr1_r_151, hE, hP1, hD1⟩ := hB
  rw [ht] at hP1
  obtain ⟨hP, hD⟩ := gz_back hP hD hk1 hFc hP1 hD1 [0, 1, 2] rfl rfl
  have hpr0_r_151 : Hid (y_146.toInt ≤ y_152.toInt) := hpr0_r_151
  have hpr1_r_151 : Hid ((y_152.toInt ≠ 0 ∨ ((1 : Int) ≤ r_151.toInt ∧ r_151.toInt ≤ (5 : Int)))) := by have h9 : (y_152.toInt ≠ 0 ∨ ((1 : Int32).toInt ≤ r_151.toInt ∧ r_151.toInt ≤ (5 : Int32).toInt)) := hpr1_r_151; rw [show (1 : Int32).toInt = 1 from by decide] at h9; rw [show (5 : Int32).toInt = 5 from by decide] at h9; exact h9
  obtain ⟨hP, hD⟩ := gz_both (w := [(h0, .inr (6, [.ref tp, .ref dr, .int y_152, .int y_153, .int y_154, .int y_155, .int y_156])), (tp, .inr (10, [.ref bt, .int b_length])), (bt, .inl (kbt, 1600, .inl fbt)), (dr, .inr (0, [.int e_months, .int e_full, .int e_lean, .int e_lines, .int e_hasMoon, .int e_moonStart, .int e_moonStep, .int e_placeCount, .int e_reportCount, .int e_deedCount, .ref dpl, .ref dre, .ref dde]))]) hP hD
  have hF := gf_callm (a := (r_151, y_152, y_153, y_154, y_155, y_156)) hE hF (by first | with_reducible rfl | dsimp only)
  generalize H1 = H at hP hS ⊢
  refine lv_istore_n (lv' := [(2, .int r_151), (1, .int r_139), (0, .ref h0)]) hx hb (dk_at dkX6_readFirst 18 rfl) rfl hl (by decide) rfl (fun ls hl => ?_)
  refine lv_aload_n hx hb (dk_at dkX6_readFirst 19 rfl) rfl (lv_at hl 2 rfl) ?_
  refine va_ldcS hx hb hown (show vk_R RX6 106 "lean" (sa 9) s from (hT.2 9 (by decide)).1) (dk_at dkX6_readFirst 20 rfl) ?_
  obtain ⟨hPc, hDc, hFc⟩ := gz_cut (wc := [(h0, .inr (6, [.ref tp, .ref dr, .int y_152, .int y_153, .int y_154, .int y_155, .int y_156])), (tp, .inr (10, [.ref bt, .int b_length])), (bt, .inl (kbt, 1600, .inl fbt))]) hP hD hS hA [0, 1, 2] (by decide) rfl
  have hKc := hK.sub (tys' := [(kbt, .byte)]) [0] rfl
  refine va_callv (va_runV (As := [.ref (sa 9)]) (rest := []) ⟨hx, hb, hml, hown, hts⟩ (sX6_passWord l dC dI H.size h0 tp bt dr y_152 y_153 y_154 y_155 y_156 b_length kbt fbt sa sb zf 9 gy_152 gy_155 gy_156 gb_length (by decide)) (cwV 1 hts (gz_gV mGA_193 mGA_194 mGA_195 mGA_9 mGA_196 goodGA) rfl rfl rfl (by decide +kernel) ⟨Nat.le_of_ble_eq_true rfl, Nat.le_of_ble_eq_true rfl⟩) ⟨bl_I (bl_a bl_sz (bl_a bl_P (bl_a bl_K (bl_a bl_c (bl_a bl_nz bl_ST))))), va_recv hKc hPc (ci := 6) (q0 := 0) rfl rfl, fun U hU hW => ⟨rfl, by rw [hU], by rw [hU]; exact hPc, va_K.moved hW.alike hKc, hDc.weaken (fun _ _ _ _ => trivial), nzA_warm hW hz, by rw [hU]; exact ((hT.kept hS.2.1).narrow (fun q h => hFc q h)).warm hW⟩⟩ rfl rfl hl.1 rfl (lv_room (Nat.le_of_ble_eq_true rfl)) (dk_at dkX6_readFirst 21 rfl) ⟨Nat.zero_le _, Nat.zero_le _⟩) hS (fun q _ h => hFc q h) hFc (fun u t H1 locs ht hvm hw hB hz1 hk1 hS => ?_)
  clear hz1
  obtain ⟨y_158, y_159, y_160, y_161, y_162, hB⟩ := hB
  obtain ⟨gy_158, gy_161, gy_162, hpr0_r_157, hE, hP1, hD1⟩ := hB
  rw [ht] at hP1
  obtain ⟨hP, hD⟩ := gz_back hP hD hk1 hFc hP1 hD1 [0, 1, 2] rfl rfl
  have hpr0_r_157 : Hid (y_152.toInt ≤ y_158.toInt) := hpr0_r_157
  obtain ⟨hP, hD⟩ := gz_both (w := [(h0, .inr (6, [.ref tp, .ref dr, .int y_158, .int y_159, .int y_160, .int y_161, .int y_162])), (tp, .inr (10, [.ref bt, .int b_length])), (bt, .inl (kbt, 1600, .inl fbt)), (dr, .inr (0, [.int e_months, .int e_full, .int e_lean, .int e_lines, .int e_hasMoon, .int e_moonStart, .int e_moonStep, .int e_placeCount, .int e_reportCount, .int e_deedCount, .ref dpl, .ref dre, .ref dde]))]) hP hD
  have hF := gf_callm (a := (y_158, y_159, y_160, y_161, y_162)) hE hF (by first | with_reducible rfl | dsimp only)
  generalize H1 = H at hP hS ⊢
  refine lv_aload_n hx hb (dk_at dkX6_readFirst 22 rfl) rfl (lv_at hl 2 rfl) ?_
  refine lv_iconst (v := 1) hx hb (dk_at dkX6_readFirst 23 rfl) (by decide) ?_
  refine lv_iconst (v := 5) hx hb (dk_at dkX6_readFirst 24 rfl) (by decide) ?_
  obtain ⟨hPc, hDc, hFc⟩ := gz_cut (wc := [(h0, .inr (6, [.ref tp, .ref dr, .int y_158, .int y_159, .int y_160, .int y_161, .int y_162])), (tp, .inr (10, [.ref bt, .int b_length])), (bt, .inl (kbt, 1600, .inl fbt))]) hP hD hS hA [0, 1, 2] (by decide) rfl
  have hKc := hK.sub (tys' := [(kbt, .byte)]) [0] rfl
  refine va_calli (va_runV (As := [.int 1, .int 5]) (rest := []) ⟨hx, hb, hml, hown, hts⟩ (sX6_passNumber l dC dI H.size h0 tp bt dr y_158 y_159 y_160 y_161 y_162 b_length kbt fbt 1 5 gy_158 gy_161 gy_162 gb_length) (cwV 2 hts (gz_gV mGA_258 mGA_259 mGA_260 mGA_9 mGA_261 goodGA) rfl rfl rfl (by decide +kernel) ⟨Nat.le_of_ble_eq_true rfl, Nat.le_of_ble_eq_true rfl⟩) ⟨bl_I (bl_a bl_sz (bl_a bl_P (bl_a bl_K (bl_a bl_c bl_nz)))), va_recv hKc hPc (ci := 6) (q0 := 0) rfl rfl, fun U hU hW => ⟨rfl, by rw [hU], by rw [hU]; exact hPc, va_K.moved hW.alike hKc, hDc.weaken (fun _ _ _ _ => trivial), nzA_warm hW hz⟩⟩ rfl rfl hl.1 rfl (lv_room (Nat.le_of_ble_eq_true rfl)) (dk_at dkX6_readFirst 25 rfl) ⟨Nat.zero_le _, Nat.zero_le _⟩) hS (fun q _ h => hFc q h) hFc (fun r_163 u t H1 locs ht hvm hw hB hz1 hk1 hS => ?_)
  clear hz1
  obtain ⟨hu_, hw⟩ := hw
  subst hu_
  obtain ⟨y_164, y_165, y_166, y_167, y_168, hB⟩ := hB
  obtain ⟨gy_164, gy_167, gy_168, hpr0_r_163, hpr1_r_163, hE, hP1, hD1⟩ := hB
  rw [ht] at hP1
  obtain ⟨hP, hD⟩ := gz_back hP hD hk1 hFc hP1 hD1 [0, 1, 2] rfl rfl
  have hpr0_r_163 : Hid (y_158.toInt ≤ y_164.toInt) := hpr0_r_163
  have hpr1_r_163 : Hid ((y_164.toInt ≠ 0 ∨ ((1 : Int) ≤ r_163.toInt ∧ r_163.toInt ≤ (5 : Int)))) := by have h9 : (y_164.toInt ≠ 0 ∨ ((1 : Int32).toInt ≤ r_163.toInt ∧ r_163.toInt ≤ (5 : Int32).toInt)) := hpr1_r_163; rw [show (1 : Int32).toInt = 1 from by decide] at h9; rw [show (5 : Int32).toInt = 5 from by decide] at h9; exact h9
  obtain ⟨hP, hD⟩ := gz_both (w := [(h0, .inr (6, [.ref tp, .ref dr, .int y_164, .int y_165, .int y_166, .int y_167, .int y_168])), (tp, .inr (10, [.ref bt, .int b_length])), (bt, .inl (kbt, 1600, .inl fbt)), (dr, .inr (0, [.int e_months, .int e_full, .int e_lean, .int e_lines, .int e_hasMoon, .int e_moonStart, .int e_moonStep, .int e_placeCount, .int e_reportCount, .int e_deedCount, .ref dpl, .ref dre, .ref dde]))]) hP hD
  have hF := gf_callm (a := (r_163, y_164, y_165, y_166, y_167, y_168)) hE hF (by first | with_reducible rfl | dsimp only)
  generalize H1 = H at hP hS ⊢
  refine lv_istore_n (lv' := [(3, .int r_163), (2, .int r_151), (1, .int r_139), (0, .ref h0)]) hx hb (dk_at dkX6_readFirst 26 rfl) rfl hl (by decide) rfl (fun ls hl => ?_)
  refine lv_aload_n hx hb (dk_at dkX6_readFirst 27 rfl) rfl (lv_at hl 3 rfl) ?_
  refine va_get (D := (dC, dI)) (ci := 6) (v := .int y_164) (C := RX6) (T := TX6) (N := 7) hx hb hts (fun w h => List.mem_cons_of_mem _ (jnGA_X6 w h)) hown hK hP 0 rfl rfl 2 (by decide) (hts _ (List.mem_cons_of_mem _ mGA_55)) (fun _ h9 => h9) rfl (dk_at dkX6_readFirst 28 rfl) ?_
  refine lv_if_ne (tgt := 77) hx hb (dk_at dkX6_readFirst 29 rfl) (by decide) (fun c_169 => ?_) (fun c_169 => ?_)
  · have hF := gf_neg c_169 hF
    have hc_170 : y_164.toInt ≠ 0 := fun h9 => c_169 (Int32.toInt_inj.mp (by rw [show (0 : Int32).toInt = 0 from by decide]; exact h9))
    have g_171 : gi y_164 1 3 := gi_ne_lo c_169 gy_164 (gi_c 0 0 (by decide)) (by decide)
    exact W.vret hx hb hr (fun t ht hW => ⟨⟨(), rfl, trivial, y_164, y_165, y_166, y_167, y_168, e_months, e_full, e_lean, (gi_w g_171 (by decide)), gy_167, gy_168, ge_months, ge_full, ge_lean, (show q_faultKind.toInt ≤ y_164.toInt from by have qgy_164 := g_171.1; have rgy_164 := g_171.2; have qgy_158 := gy_158.1; have rgy_158 := gy_158.2; have qgy_152 := gy_152.1; have rgy_152 := gy_152.2; have qgy_146 := gy_146.1; have rgy_146 := gy_146.2; have qgy_140 := gy_140.1; have rgy_140 := gy_140.2; have qgy_134 := gy_134.1; have rgy_134 := gy_134.2; have qgy_128 := gy_128.1; have rgy_128 := gy_128.2; have qgq_faultKind := gq_faultKind.1; have rgq_faultKind := gq_faultKind.2; have zhpr0_r_127 := Hid.un hpr0_r_127; have zhpr0_r_133 := Hid.un hpr0_r_133; have zhpr0_r_139 := Hid.un hpr0_r_139; have zhpr0_r_145 := Hid.un hpr0_r_145; have zhpr0_r_151 := Hid.un hpr0_r_151; have zhpr0_r_157 := Hid.un hpr0_r_157; have zhpr0_r_163 := Hid.un hpr0_r_163; omega), hF.trans hR9.symm, by rw [ht]; exact hP, hD⟩, hS.F ht⟩) hS.2.2 (dk_at dkX6_readFirst 42 rfl)
  · have hF := gf_pos c_169 hF
    have hc_172 : y_164.toInt = 0 := by have h9 := congrArg Int32.toInt c_169; rw [show (0 : Int32).toInt = 0 from by decide] at h9; exact h9
    have g_173 : gi y_164 0 0 := gi_eq c_169 (gi_c 0 0 (by decide))
    have g_174 : gi y_158 0 0 := gi_rel (Hid.un hpr0_r_163) gy_158 g_173
    have g_175 : gi y_152 0 0 := gi_rel (Hid.un hpr0_r_157) gy_152 g_174
    have g_176 : gi y_146 0 0 := gi_rel (Hid.un hpr0_r_151) gy_146 g_175
    have g_177 : gi y_140 0 0 := gi_rel (Hid.un hpr0_r_145) gy_140 g_176
    have g_178 : gi y_134 0 0 := gi_rel (Hid.un hpr0_r_139) gy_134 g_177
    have g_179 : gi y_128 0 0 := gi_rel (Hid.un hpr0_r_133) gy_128 g_178
    have g_180 : gi q_faultKind 0 0 := gi_rel (Hid.un hpr0_r_127) gq_faultKind g_179
    have hf_181 : ((2 : Int) ≤ r_139.toInt ∧ r_139.toInt ≤ (24 : Int)) := Hid.resL hpr1_r_139 (by have u1 := g_177.1; have u2 := g_177.2; omega)
    have g_182 : gi r_139 2 2147483647 := ⟨by omega, (gi_any r_139).2⟩
    have hf_183 : ((1 : Int) ≤ r_151.toInt ∧ r_151.toInt ≤ (5 : Int)) := Hid.resL hpr1_r_151 (by have u1 := g_175.1; have u2 := g_175.2; omega)
    have g_184 : gi r_151 1 2147483647 := ⟨by omega, (gi_any r_151).2⟩
    have hf_185 : ((1 : Int) ≤ r_163.toInt ∧ r_163.toInt ≤ (5 : Int)) := Hid.resL hpr1_r_163 (by have u1 := g_173.1; have u2 := g_173.2; omega)
    have g_186 : gi r_163 1 2147483647 := ⟨by omega, (gi_any r_163).2⟩
    have g_187 : gi r_163 1 5 := ⟨g_186.1, by omega⟩
    have g_188 : gi r_151 1 5 := ⟨g_184.1, by omega⟩
    have g_189 : gi r_139 2 24 := ⟨g_182.1, by omega⟩
    refine lv_aload_n hx hb (dk_at dkX6_readFirst 30 rfl) rfl (lv_at hl 3 rfl) ?_
    refine va_get (D := (dC, dI)) (ci := 6) (v := .ref dr) (C := RX6) (T := TX6) (N := 7) hx hb hts (fun w h => List.mem_cons_of_mem _ (jnGA_X6 w h)) hown hK hP 0 rfl rfl 1 (by decide) (hts _ (List.mem_cons_of_mem _ mGA_54)) (fun _ h9 => h9) rfl (dk_at dkX6_readFirst 31 rfl) ?_
    refine lv_iload_n hx hb (dk_at dkX6_readFirst 32 rfl) rfl (lv_at hl 2 rfl) ?_
    refine va_put (D := (dC, dI)) (ci := 0) (v := .int r_139) (ty := .int) (C := RX0) (T := TX0) (N := 13) hx hb hts (fun w h => List.mem_cons_of_mem _ (jnGA_X0 w h)) tyX0 tyX0_ok nmX0 hown hK hP hD hS 3 rfl rfl 0 (by decide) (hts _ (List.mem_cons_of_mem _ mGA_190)) (fun _ h9 => h9) rfl (by decide +kernel) rfl rfl (Nat.le_of_ble_eq_true rfl) (dk_at dkX6_readFirst 33 rfl) (fun H locs hP hD hS => ?_)
    obtain ⟨hP, hD⟩ := gz_both (w := [(h0, .inr (6, [.ref tp, .ref dr, .int y_164, .int y_165, .int y_166, .int y_167, .int y_168])), (tp, .inr (10, [.ref bt, .int b_length])), (bt, .inl (kbt, 1600, .inl fbt)), (dr, .inr (0, [.int r_139, .int e_full, .int e_lean, .int e_lines, .int e_hasMoon, .int e_moonStart, .int e_moonStep, .int e_placeCount, .int e_reportCount, .int e_deedCount, .ref dpl, .ref dre, .ref dde]))]) hP hD
    refine lv_aload_n hx hb (dk_at dkX6_readFirst 34 rfl) rfl (lv_at hl 3 rfl) ?_
    refine va_get (D := (dC, dI)) (ci := 6) (v := .ref dr) (C := RX6) (T := TX6) (N := 7) hx hb hts (fun w h => List.mem_cons_of_mem _ (jnGA_X6 w h)) hown hK hP 0 rfl rfl 1 (by decide) (hts _ (List.mem_cons_of_mem _ mGA_54)) (fun _ h9 => h9) rfl (dk_at dkX6_readFirst 35 rfl) ?_
    refine lv_iload_n hx hb (dk_at dkX6_readFirst 36 rfl) rfl (lv_at hl 1 rfl) ?_
    refine va_put (D := (dC, dI)) (ci := 0) (v := .int r_151) (ty := .int) (C := RX0) (T := TX0) (N := 13) hx hb hts (fun w h => List.mem_cons_of_mem _ (jnGA_X0 w h)) tyX0 tyX0_ok nmX0 hown hK hP hD hS 3 rfl rfl 1 (by decide) (hts _ (List.mem_cons_of_mem _ mGA_191)) (fun _ h9 => h9) rfl (by decide +kernel) rfl rfl (Nat.le_of_ble_eq_true rfl) (dk_at dkX6_readFirst 37 rfl) (fun H locs hP hD hS => ?_)
    obtain ⟨hP, hD⟩ := gz_both (w := [(h0, .inr (6, [.ref tp, .ref dr, .int y_164, .int y_165, .int y_166, .int y_167, .int y_168])), (tp, .inr (10, [.ref bt, .int b_length])), (bt, .inl (kbt, 1600, .inl fbt)), (dr, .inr (0, [.int r_139, .int r_151, .int e_lean, .int e_lines, .int e_hasMoon, .int e_moonStart, .int e_moonStep, .int e_placeCount, .int e_reportCount, .int e_deedCount, .ref dpl, .ref dre, .ref dde]))]) hP hD
    refine lv_aload_n hx hb (dk_at dkX6_readFirst 38 rfl) rfl (lv_at hl 3 rfl) ?_
    refine va_get (D := (dC, dI)) (ci := 6) (v := .ref dr) (C := RX6) (T := TX6) (N := 7) hx hb hts (fun w h => List.mem_cons_of_mem _ (jnGA_X6 w h)) hown hK hP 0 rfl rfl 1 (by decide) (hts _ (List.mem_cons_of_mem _ mGA_54)) (fun _ h9 => h9) rfl (dk_at dkX6_readFirst 39 rfl) ?_
    refine lv_iload_n hx hb (dk_at dkX6_readFirst 40 rfl) rfl (lv_at hl 0 rfl) ?_
    refine va_put (D := (dC, dI)) (ci := 0) (v := .int r_163) (ty := .int) (C := RX0) (T := TX0) (N := 13) hx hb hts (fun w h => List.mem_cons_of_mem _ (jnGA_X0 w h)) tyX0 tyX0_ok nmX0 hown hK hP hD hS 3 rfl rfl 2 (by decide) (hts _ (List.mem_cons_of_mem _ mGA_192)) (fun _ h9 => h9) rfl (by decide +kernel) rfl rfl (Nat.le_of_ble_eq_true rfl) (dk_at dkX6_readFirst 41 rfl) (fun H locs hP hD hS => ?_)
    obtain ⟨hP, hD⟩ := gz_both (w := [(h0, .inr (6, [.ref tp, .ref dr, .int y_164, .int y_165, .int y_166, .int y_167, .int y_168])), (tp, .inr (10, [.ref bt, .int b_length])), (bt, .inl (kbt, 1600, .inl fbt)), (dr, .inr (0, [.int r_139, .int r_151, .int r_163, .int e_lines, .int e_hasMoon, .int e_moonStart, .int e_moonStep, .int e_placeCount, .int e_reportCount, .int e_deedCount, .ref dpl, .ref dre, .ref dde]))]) hP hD
    exact W.vret hx hb hr (fun t ht hW => ⟨⟨(), rfl, trivial, y_164, y_165, y_166, y_167, y_168, r_139, r_151, r_163, (gi_w g_173 (by decide)), gy_167, gy_168, (gi_w g_189 (by decide)), (gi_w g_188 (by decide)), (gi_w g_187 (by decide)), (show q_faultKind.toInt ≤ y_164.toInt from by have qgy_164 := g_173.1; have rgy_164 := g_173.2; have qgy_158 := g_174.1; have rgy_158 := g_174.2; have qgy_152 := g_175.1; have rgy_152 := g_175.2; have qgy_146 := g_176.1; have rgy_146 := g_176.2; have qgy_140 := g_177.1; have rgy_140 := g_177.2; have qgy_134 := g_178.1; have rgy_134 := g_178.2; have qgy_128 := g_179.1; have rgy_128 := g_179.2; have qgq_faultKind := g_180.1; have rgq_faultKind := g_180.2; have zhpr0_r_127 := Hid.un hpr0_r_127; have zhpr0_r_133 := Hid.un hpr0_r_133; have zhpr0_r_139 := Hid.un hpr0_r_139; have zhpr0_r_145 := Hid.un hpr0_r_145; have zhpr0_r_151 := Hid.un hpr0_r_151; have zhpr0_r_157 := Hid.un hpr0_r_157; have zhpr0_r_163 := Hid.un hpr0_r_163; omega), hF.trans hR9.symm, by rw [ht]; exact hP, hD⟩, hS.F ht⟩) hS.2.2 (dk_at dkX6_readFirst 42 rfl)
noncomputable def lsX6_readMoon : List (Nat × Instr × Nat) := [(0, .aload_n 0, 1), (1, .aload_n 0, 1), (2, .getfield 21, 3), (5, .getfield 114, 3), (8, .ifCond .ne 7, 3), (11, .iconst 1, 1), (12, .goto 4, 3), (15, .iconst 0, 1), (16, .invokevirtual 118, 3), (19, .aload_n 0, 1), (20, .iconst 0, 1), (21, .ldc 122, 2), (23, .invokevirtual 100, 3), (26, .istore_n 1, 1), (27, .aload_n 0, 1), (28, .ldc 123, 2), (30, .invokevirtual 94, 3), (33, .aload_n 0, 1), (34, .sipush 28000, 3), (37, .sipush 31000, 3), (40, .invokevirtual 100, 3), (43, .istore_n 2, 1), (44, .aload_n 0, 1), (45, .getfield 25, 3), (48, .ifCond .ne 12, 3), (51, .aload_n 0, 1), (52, .getfield 21, 3), (55, .iload_n 1, 1), (56, .iload_n 2, 1), (57, .invokevirtual 124, 3), (60, .return_, 1)]
theorem dkX6_readMoon : dkAll cX6_readMoon lsX6_readMoon = true := by decide +kernel
noncomputable def bfX6_readMoon_60 (q_faultKind : Int32) (q_faultPlace : Int32) (q_token : Int32) (q_start : Int32) (q_stop : Int32) (b_length : Int32) (fbt : Nat → Int32) (e_hasMoon : Int32) (e_moonStart : Int32) (e_moonStep : Int32) (w0_2 : Int32) (w0_3 : Int32) (w0_4 : Int32) (w0_5 : Int32) (w0_6 : Int32) (w3_4 : Int32) (w3_5 : Int32) (w3_6 : Int32) : Int32 × Int32 × Int32 × Int32 × Int32 × Int32 × Int32 × Int32 := (w0_2, w0_3, w0_4, w0_5, w0_6, w3_4, w3_5, w3_6)
noncomputable def bfX6_readMoon_16 (q_faultKind : Int32) (q_faultPlace : Int32) (q_token : Int32) (q_start : Int32) (q_stop : Int32) (b_length : Int32) (fbt : Nat → Int32) (e_hasMoon : Int32) (e_moonStart : Int32) (e_moonStep : Int32) (s0 : Int32) (w0_2 : Int32) (w0_3 : Int32) (w0_4 : Int32) (w0_5 : Int32) (w0_6 : Int32) (w3_4 : Int32) (w3_5 : Int32) (w3_6 : Int32) : Int32 × Int32 × Int32 × Int32 × Int32 × Int32 × Int32 × Int32 := cal (fun o1 => cal (fun o2 => cal (fun o3 => cal (fun o4 => if o4.2.1 = (0 : Int32) then (cal (fun o5 => bfX6_readMoon_60 q_faultKind q_faultPlace q_token q_start q_stop b_length fbt e_hasMoon e_moonStart e_moonStep o4.2.1 o4.2.2.1 o4.2.2.2.1 o4.2.2.2.2.1 o4.2.2.2.2.2 o5.1 o5.2.1 o5.2.2) (fX0_setMoon o2.1 o4.1)) else (bfX6_readMoon_60 q_faultKind q_faultPlace q_token q_start q_stop b_length fbt e_hasMoon e_moonStart e_moonStep o4.2.1 o4.2.2.1 o4.2.2.2.1 o4.2.2.2.2.1 o4.2.2.2.2.2 w3_4 w3_5 w3_6)) (fX6_passNumber o3.1 o3.2.1 o3.2.2.1 o3.2.2.2.1 o3.2.2.2.2 b_length fbt (28000 : Int32) (31000 : Int32))) (fX6_passWord o2.2.1 o2.2.2.1 o2.2.2.2.1 o2.2.2.2.2.1 o2.2.2.2.2.2 b_length fbt 16)) (fX6_passNumber o1.1 o1.2.1 o1.2.2.1 o1.2.2.2.1 o1.2.2.2.2 b_length fbt (0 : Int32) (99999 : Int32))) (fX6_passHead w0_2 w0_3 w0_4 w0_5 w0_6 b_length fbt s0)
noncomputable def fX6_readMoon (q_faultKind : Int32) (q_faultPlace : Int32) (q_token : Int32) (q_start : Int32) (q_stop : Int32) (b_length : Int32) (fbt : Nat → Int32) (e_hasMoon : Int32) (e_moonStart : Int32) (e_moonStep : Int32) : Int32 × Int32 × Int32 × Int32 × Int32 × Int32 × Int32 × Int32 := if e_hasMoon = (0 : Int32) then (bfX6_readMoon_16 q_faultKind q_faultPlace q_token q_start q_stop b_length fbt e_hasMoon e_moonStart e_moonStep (1 : Int32) q_faultKind q_faultPlace q_token q_start q_stop e_hasMoon e_moonStart e_moonStep) else (bfX6_readMoon_16 q_faultKind q_faultPlace q_token q_start q_stop b_length fbt e_hasMoon e_moonStart e_moonStep (0 : Int32) q_faultKind q_faultPlace q_token q_start q_stop e_hasMoon e_moonStart e_moonStep)
abbrev pb_sX6_readMoon (dC : Nat → ClassId) (dI : Nat → Nat → Nat) (A9 : Nat → Prop) (h0 : Nat) (tp : Nat) (bt : Nat) (dr : Nat) (q_faultKind : Int32) (q_faultPlace : Int32) (q_token : Int32) (q_start : Int32) (q_stop : Int32) (b_length : Int32) (kbt : ClassId) (fbt : Nat → Int32) (e_months : Int32) (e_full : Int32) (e_lean : Int32) (e_lines : Int32) (e_hasMoon : Int32) (e_moonStart : Int32) (e_moonStep : Int32) (e_placeCount : Int32) (e_reportCount : Int32) (e_deedCount : Int32) (dpl : Nat) (dre : Nat) (dde : Nat) (sa : Nat → Nat) (sb : Nat → Nat) (zf : Value) (w0_2 : Int32) (w0_3 : Int32) (w0_4 : Int32) (w0_5 : Int32) (w0_6 : Int32) (w3_4 : Int32) (w3_5 : Int32) (w3_6 : Int32) (t : State) : Prop := gi w0_2 0 3 ∧ gi w0_5 0 1600 ∧ gi w0_6 0 1600 ∧ gi w3_4 0 1 ∧ q_faultKind.toInt ≤ w0_2.toInt ∧ (w0_2, w0_3, w0_4, w0_5, w0_6, w3_4, w3_5, w3_6) = fX6_readMoon q_faultKind q_faultPlace q_token q_start q_stop b_length fbt e_hasMoon e_moonStart e_moonStep ∧ va_P (dC, dI) vwCl [(h0, .inr (6, [.ref tp, .ref dr, .int w0_2, .int w0_3, .int w0_4, .int w0_5, .int w0_6])), (tp, .inr (10, [.ref bt, .int b_length])), (bt, .inl (kbt, 1600, .inl fbt)), (dr, .inr (0, [.int e_months, .int e_full, .int e_lean, .int e_lines, .int w3_4, .int w3_5, .int w3_6, .int e_placeCount, .int e_reportCount, .int e_deedCount, .ref dpl, .ref dre, .ref dde]))] t.heap ∧ va_D A9 [(h0, .inr (6, [.ref tp, .ref dr, .int w0_2, .int w0_3, .int w0_4, .int w0_5, .int w0_6])), (tp, .inr (10, [.ref bt, .int b_length])), (bt, .inl (kbt, 1600, .inl fbt)), (dr, .inr (0, [.int e_months, .int e_full, .int e_lean, .int e_lines, .int w3_4, .int w3_5, .int w3_6, .int e_placeCount, .int e_reportCount, .int e_deedCount, .ref dpl, .ref dre, .ref dde]))]
set_option maxHeartbeats 4000000 in
set_option maxRecDepth 100000 in
theorem sX6_readMoon (l : Launch) (dC : Nat → ClassId) (dI : Nat → Nat → Nat) (sz : Nat) (h0 : Nat) (tp : Nat) (bt : Nat) (dr : Nat) (q_faultKind : Int32) (q_faultPlace : Int32) (q_token : Int32) (q_start : Int32) (q_stop : Int32) (b_length : Int32) (kbt : ClassId) (fbt : Nat → Int32) (e_months : Int32) (e_full : Int32) (e_lean : Int32) (e_lines : Int32) (e_hasMoon : Int32) (e_moonStart : Int32) (e_moonStep : Int32) (e_placeCount : Int32) (e_reportCount : Int32) (e_deedCount : Int32) (dpl : Nat) (dre : Nat) (dde : Nat) (sa : Nat → Nat) (sb : Nat → Nat) (zf : Value) (gq_faultKind : gi q_faultKind 0 3) (gq_start : gi q_start 0 1600) (gq_stop : gi q_stop 0 1600) (gb_length : gi b_length 0 1600) (ge_months : gi e_months 0 24) (ge_full : gi e_full 0 5) (ge_lean : gi e_lean 0 5) (ge_hasMoon : gi e_hasMoon 0 1) (ge_placeCount : gi e_placeCount 0 6) (ge_reportCount : gi e_reportCount 0 24) (ge_deedCount : gi e_deedCount 0 8) : Met l yX6_readMoon (.code yX6_readMoon cX6_readMoon 3 none :: wsGA) ({ frames := 6, cells := 0, slots := 0, locals := 128 }) (va_Pc [.ref h0] (fun U => U.heap.size = sz ∧ va_P (dC, dI) vwCl [(h0, .inr (6, [.ref tp, .ref dr, .int q_faultKind, .int q_faultPlace, .int q_token, .int q_start, .int q_stop])), (tp, .inr (10, [.ref bt, .int b_length])), (bt, .inl (kbt, 1600, .inl fbt)), (dr, .inr (0, [.int e_months, .int e_full, .int e_lean, .int e_lines, .int e_hasMoon, .int e_moonStart, .int e_moonStep, .int e_placeCount, .int e_reportCount, .int e_deedCount, .ref dpl, .ref dre, .ref dde]))] U.heap ∧ va_K (dC, dI) vwCl [(kbt, .byte)] U ∧ va_D (fun _ => True) [(h0, .inr (6, [.ref tp, .ref dr, .int q_faultKind, .int q_faultPlace, .int q_token, .int q_start, .int q_stop])), (tp, .inr (10, [.ref bt, .int b_length])), (bt, .inl (kbt, 1600, .inl fbt)), (dr, .inr (0, [.int e_months, .int e_full, .int e_lean, .int e_lines, .int e_hasMoon, .int e_moonStart, .int e_moonStep, .int e_placeCount, .int e_reportCount, .int e_deedCount, .ref dpl, .ref dre, .ref dde]))] ∧ nzA U ∧ gz_ST RX6 stIA sa sb zf (va_A [(h0, .inr (6, [.ref tp, .ref dr, .int q_faultKind, .int q_faultPlace, .int q_token, .int q_start, .int q_stop])), (tp, .inr (10, [.ref bt, .int b_length])), (bt, .inl (kbt, 1600, .inl fbt)), (dr, .inr (0, [.int e_months, .int e_full, .int e_lean, .int e_lines, .int e_hasMoon, .int e_moonStart, .int e_moonStep, .int e_placeCount, .int e_reportCount, .int e_deedCount, .ref dpl, .ref dre, .ref dde]))] sz) U U.heap)) (va_Qv (fun (u : Unit) => True) (fun _ t => ∃ (w0_2 : Int32) (w0_3 : Int32) (w0_4 : Int32) (w0_5 : Int32) (w0_6 : Int32) (w3_4 : Int32) (w3_5 : Int32) (w3_6 : Int32), pb_sX6_readMoon dC dI (va_A [(h0, .inr (6, [.ref tp, .ref dr, .int q_faultKind, .int q_faultPlace, .int q_token, .int q_start, .int q_stop])), (tp, .inr (10, [.ref bt, .int b_length])), (bt, .inl (kbt, 1600, .inl fbt)), (dr, .inr (0, [.int e_months, .int e_full, .int e_lean, .int e_lines, .int e_hasMoon, .int e_moonStart, .int e_moonStep, .int e_placeCount, .int e_reportCount, .int e_deedCount, .ref dpl, .ref dre, .ref dde]))] sz) h0 tp bt dr q_faultKind q_faultPlace q_token q_start q_stop b_length kbt fbt e_months e_full e_lean e_lines e_hasMoon e_moonStart e_moonStep e_placeCount e_reportCount e_deedCount dpl dre dde sa sb zf w0_2 w0_3 w0_4 w0_5 w0_6 w3_4 w3_5 w3_6 t) (va_A [(h0, .inr (6, [.ref tp, .ref dr, .int q_faultKind, .int q_faultPlace, .int q_token, .int q_start, .int q_stop])), (tp, .inr (10, [.ref bt, .int b_length])), (bt, .inl (kbt, 1600, .inl fbt)), (dr, .inr (0, [.int e_months, .int e_full, .int e_lean, .int e_lines, .int e_hasMoon, .int e_moonStart, .int e_moonStep, .int e_placeCount, .int e_reportCount, .int e_deedCount, .ref dpl, .ref dre, .ref dde]))] sz)) 0 0 (va_A [(h0, .inr (6, [.ref tp, .ref dr, .int q_faultKind, .int q_faultPlace, .int q_token, .int q_start, .int q_stop])), (tp, .inr (10, [.ref bt, .int b_length])), (bt, .inl (kbt, 1600, .inl fbt)), (dr, .inr (0, [.int e_months, .int e_full, .int e_lean, .int e_lines, .int e_hasMoon, .int e_moonStart, .int e_moonStep, .int e_placeCount, .int e_reportCount, .int e_deedCount, .ref dpl, .ref dre, .ref dde]))] sz) := by
  refine Met.ofW (cc := cX6_readMoon) (maxL := 3) (ret := none) (by decide) rfl ?_
  intro p e s m args below meth c s₁ B hml hv
  obtain ⟨rfl, hsz, hP, hK, hD0, hz, hT⟩ := hv
  have hx := B.exec
  have hb := B.bytes
  have hr := B.returns
  have hts := atoms_spec (ws := (.code yX6_readMoon cX6_readMoon 3 none :: wsGA)) B.pre
  have hown : s.vm.findClass RX6 = some m.cls := findClass_of_methodNamed B.named
  have hlocks := B.notSynchronized
  subst hsz
  have hD := hD0.self (sz := s.heap.size)
  generalize hAe : va_A [(h0, .inr (6, [.ref tp, .ref dr, .int q_faultKind, .int q_faultPlace, .int q_token, .int q_start, .int q_stop])), (tp, .inr (10, [.ref bt, .int b_length])), (bt, .inl (kbt, 1600, .inl fbt)), (dr, .inr (0, [.int e_months, .int e_full, .int e_lean, .int e_lines, .int e_hasMoon, .int e_moonStart, .int e_moonStep, .int e_placeCount, .int e_reportCount, .int e_deedCount, .ref dpl, .ref dre, .ref dde]))] s.heap.size = A at hD hT ⊢
  have hA : ∀ q : Nat, s.heap.size ≤ q → A q := fun q h => by rw [← hAe]; exact Or.inr h
  have hS : va_S A s.heap s.heap [] := va_S.rf
  have hl := lv_entry ([.ref h0]) (n := 3) (Nat.le_of_ble_eq_true rfl)
  rw [lg_entry_eq]
  generalize (lg_sl ([.ref h0]) ++ List.replicate (3 - (lg_sl ([.ref h0])).length) Slot.unset).toArray = ls at hl ⊢
  have hl : lv_has ls 3 [(0, .ref h0)] := hl
  obtain ⟨RES, hF⟩ : ∃ R9, fX6_readMoon q_faultKind q_faultPlace q_token q_start q_stop b_length fbt e_hasMoon e_moonStart e_moonStep = R9 := ⟨_, rfl⟩
  have hR9 := hF
  refine lv_aload_n hx hb (dk_at dkX6_readMoon 0 rfl) rfl (lv_at hl 0 rfl) ?_
  refine lv_aload_n hx hb (dk_at dkX6_readMoon 1 rfl) rfl (lv_at hl 0 rfl) ?_
  refine va_get (D := (dC, dI)) (ci := 6) (v := .ref dr) (C := RX6) (T := TX6) (N := 7) hx hb hts (fun w h => List.mem_cons_of_mem _ (jnGA_X6 w h)) hown hK hP 0 rfl rfl 1 (by decide) (hts _ (List.mem_cons_of_mem _ mGA_54)) (fun _ h9 => h9) rfl (dk_at dkX6_readMoon 2 rfl) ?_
  refine va_get (D := (dC, dI)) (ci := 0) (v := .int e_hasMoon) (C := RX0) (T := TX0) (N := 13) hx hb hts (fun w h => List.mem_cons_of_mem _ (jnGA_X0 w h)) hown hK hP 3 rfl rfl 4 (by decide) (hts _ (List.mem_cons_of_mem _ mGA_275)) (fun _ h9 => h9) rfl (dk_at dkX6_readMoon 3 rfl) ?_
  refine lv_if_ne (tgt := 15) hx hb (dk_at dkX6_readMoon 4 rfl) (by decide) (fun c_157 => ?_) (fun c_157 => ?_)
  · have hF := gf_neg c_157 hF
    have hc_158 : e_hasMoon.toInt ≠ 0 := fun h9 => c_157 (Int32.toInt_inj.mp (by rw [show (0 : Int32).toInt = 0 from by decide]; exact h9))
    have g_159 : gi e_hasMoon 1 1 := gi_ne_lo c_157 ge_hasMoon (gi_c 0 0 (by decide)) (by decide)
    refine lv_iconst (v := 0) hx hb (dk_at dkX6_readMoon 7 rfl) (by decide) ?_
    obtain ⟨hPc, hDc, hFc⟩ := gz_cut (wc := [(h0, .inr (6, [.ref tp, .ref dr, .int q_faultKind, .int q_faultPlace, .int q_token, .int q_start, .int q_stop])), (tp, .inr (10, [.ref bt, .int b_length])), (bt, .inl (kbt, 1600, .inl fbt))]) hP hD hS hA [0, 1, 2] (by decide) rfl
    have hKc := hK.sub (tys' := [(kbt, .byte)]) [0] rfl
    refine va_callv (va_runV (As := [.int 0]) (rest := []) ⟨hx, hb, hml, hown, hts⟩ (sX6_passHead l dC dI s.heap.size h0 tp bt dr q_faultKind q_faultPlace q_token q_start q_stop b_length kbt fbt 0 gq_faultKind gq_start gq_stop gb_length (gi_w (gi_c 0 0 (by decide)) (by decide))) (cwV 1 hts (gz_gV mGA_277 mGA_278 mGA_279 mGA_9 mGA_280 goodGA) rfl rfl rfl (by decide +kernel) ⟨Nat.le_of_ble_eq_true rfl, Nat.le_of_ble_eq_true rfl⟩) ⟨bl_I (bl_a bl_sz (bl_a bl_P (bl_a bl_K (bl_a bl_c bl_nz)))), va_recv hKc hPc (ci := 6) (q0 := 0) rfl rfl, fun U hU hW => ⟨rfl, by rw [hU], by rw [hU]; exact hPc, va_K.moved hW.alike hKc, hDc.weaken (fun _ _ _ _ => trivial), nzA_warm hW hz⟩⟩ rfl rfl hl.1 rfl (lv_room (Nat.le_of_ble_eq_true rfl)) (dk_at dkX6_readMoon 8 rfl) ⟨Nat.zero_le _, Nat.zero_le _⟩) hS (fun q _ h => hFc q h) hFc (fun u t H1 locs ht hvm hw hB hz1 hk1 hS => ?_)
    clear hz1
    obtain ⟨y_161, y_162, y_163, y_164, y_165, hB⟩ := hB
    obtain ⟨gy_161, gy_164, gy_165, hpr0_r_160, hpr1_r_160, hE, hP1, hD1⟩ := hB
    rw [ht] at hP1
    obtain ⟨hP, hD⟩ := gz_back hP hD hk1 hFc hP1 hD1 [0, 1, 2] rfl rfl
    have hpr0_r_160 : Hid (q_faultKind.toInt ≤ y_161.toInt) := hpr0_r_160
    have hpr1_r_160 : Hid (((0 : Int) = 1 ∨ 1 ≤ y_161.toInt)) := by have h9 : ((0 : Int32).toInt = 1 ∨ 1 ≤ y_161.toInt) := hpr1_r_160; rw [show (0 : Int32).toInt = 0 from by decide] at h9; exact h9
    have hf_166 : 1 ≤ y_161.toInt := Hid.resL hpr1_r_160 (by omega)
    have g_167 : gi y_161 1 3 := ⟨by omega, gy_161.2⟩
    obtain ⟨hP, hD⟩ := gz_both (w := [(h0, .inr (6, [.ref tp, .ref dr, .int y_161, .int y_162, .int y_163, .int y_164, .int y_165])), (tp, .inr (10, [.ref bt, .int b_length])), (bt, .inl (kbt, 1600, .inl fbt)), (dr, .inr (0, [.int e_months, .int e_full, .int e_lean, .int e_lines, .int e_hasMoon, .int e_moonStart, .int e_moonStep, .int e_placeCount, .int e_reportCount, .int e_deedCount, .ref dpl, .ref dre, .ref dde]))]) hP hD
    have hF := gf_callm (a := (y_161, y_162, y_163, y_164, y_165)) hE hF (by first | with_reducible rfl | dsimp only)
    generalize H1 = H at hP hS ⊢
    refine lv_aload_n hx hb (dk_at dkX6_readMoon 9 rfl) rfl (lv_at hl 0 rfl) ?_
    refine lv_iconst (v := 0) hx hb (dk_at dkX6_readMoon 10 rfl) (by decide) ?_
    refine lv_ldc (own := RX6) (v := 99999) hx hb hown (hts _ (List.mem_cons_of_mem _ mGA_276)) (dk_at dkX6_readMoon 11 rfl) ?_
    obtain ⟨hPc, hDc, hFc⟩ := gz_cut (wc := [(h0, .inr (6, [.ref tp, .ref dr, .int y_161, .int y_162, .int y_163, .int y_164, .int y_165])), (tp, .inr (10, [.ref bt, .int b_length])), (bt, .inl (kbt, 1600, .inl fbt))]) hP hD hS hA [0, 1, 2] (by decide) rfl
    have hKc := hK.sub (tys' := [(kbt, .byte)]) [0] rfl
    refine va_calli (va_runV (As := [.int 0, .int 99999]) (rest := []) ⟨hx, hb, hml, hown, hts⟩ (sX6_passNumber l dC dI H.size h0 tp bt dr y_161 y_162 y_163 y_164 y_165 b_length kbt fbt 0 99999 (gi_w g_167 (by decide)) gy_164 gy_165 gb_length) (cwV 2 hts (gz_gV mGA_258 mGA_259 mGA_260 mGA_9 mGA_261 goodGA) rfl rfl rfl (by decide +kernel) ⟨Nat.le_of_ble_eq_true rfl, Nat.le_of_ble_eq_true rfl⟩) ⟨bl_I (bl_a bl_sz (bl_a bl_P (bl_a bl_K (bl_a bl_c bl_nz)))), va_recv hKc hPc (ci := 6) (q0 := 0) rfl rfl, fun U hU hW => ⟨rfl, by rw [hU], by rw [hU]; exact hPc, va_K.moved hW.alike hKc, hDc.weaken (fun _ _ _ _ => trivial), nzA_warm hW hz⟩⟩ rfl rfl hl.1 rfl (lv_room (Nat.le_of_ble_eq_true rfl)) (dk_at dkX6_readMoon 12 rfl) ⟨Nat.zero_le _, Nat.zero_le _⟩) hS (fun q _ h => hFc q h) hFc (fun r_168 u t H1 locs ht hvm hw hB hz1 hk1 hS => ?_)
    clear hz1
    obtain ⟨hu_, hw⟩ := hw
    subst hu_
    obtain ⟨y_169, y_170, y_171, y_172, y_173, hB⟩ := hB
    obtain ⟨gy_169, gy_172, gy_173, hpr0_r_168, hpr1_r_168, hE, hP1, hD1⟩ := hB
    rw [ht] at hP1
    obtain ⟨hP, hD⟩ := gz_back hP hD hk1 hFc hP1 hD1 [0, 1, 2] rfl rfl
    have hpr0_r_168 : Hid (y_161.toInt ≤ y_169.toInt) := hpr0_r_168
    have g_174 : gi y_169 1 3 := gi_relL (Hid.un hpr0_r_168) g_167 gy_169
    have hpr1_r_168 : Hid ((y_169.toInt ≠ 0 ∨ ((0 : Int) ≤ r_168.toInt ∧ r_168.toInt ≤ (99999 : Int)))) := by have h9 : (y_169.toInt ≠ 0 ∨ ((0 : Int32).toInt ≤ r_168.toInt ∧ r_168.toInt ≤ (99999 : Int32).toInt)) := hpr1_r_168; rw [show (0 : Int32).toInt = 0 from by decide] at h9; rw [show (99999 : Int32).toInt = 99999 from by decide] at h9; exact h9
    obtain ⟨hP, hD⟩ := gz_both (w := [(h0, .inr (6, [.ref tp, .ref dr, .int y_169, .int y_170, .int y_171, .int y_172, .int y_173])), (tp, .inr (10, [.ref bt, .int b_length])), (bt, .inl (kbt, 1600, .inl fbt)), (dr, .inr (0, [.int e_months, .int e_full, .int e_lean, .int e_lines, .int e_hasMoon, .int e_moonStart, .int e_moonStep, .int e_placeCount, .int e_reportCount, .int e_deedCount, .ref dpl, .ref dre, .ref dde]))]) hP hD
    have hF := gf_callm (a := (r_168, y_169, y_170, y_171, y_172, y_173)) hE hF (by first | with_reducible rfl | dsimp only)
    generalize H1 = H at hP hS ⊢
    refine lv_istore_n (lv' := [(1, .int r_168), (0, .ref h0)]) hx hb (dk_at dkX6_readMoon 13 rfl) rfl hl (by decide) rfl (fun ls hl => ?_)
    refine lv_aload_n hx hb (dk_at dkX6_readMoon 14 rfl) rfl (lv_at hl 1 rfl) ?_
    refine va_ldcS hx hb hown (show vk_R RX6 123 "step" (sa 16) s from (hT.2 16 (by decide)).1) (dk_at dkX6_readMoon 15 rfl) ?_
    obtain ⟨hPc, hDc, hFc⟩ := gz_cut (wc := [(h0, .inr (6, [.ref tp, .ref dr, .int y_169, .int y_170, .int y_171, .int y_172, .int y_173])), (tp, .inr (10, [.ref bt, .int b_length])), (bt, .inl (kbt, 1600, .inl fbt))]) hP hD hS hA [0, 1, 2] (by decide) rfl
    have hKc := hK.sub (tys' := [(kbt, .byte)]) [0] rfl
    refine va_callv (va_runV (As := [.ref (sa 16)]) (rest := []) ⟨hx, hb, hml, hown, hts⟩ (sX6_passWord l dC dI H.size h0 tp bt dr y_169 y_170 y_171 y_172 y_173 b_length kbt fbt sa sb zf 16 (gi_w g_174 (by decide)) gy_172 gy_173 gb_length (by decide)) (cwV 1 hts (gz_gV mGA_193 mGA_194 mGA_195 mGA_9 mGA_196 goodGA) rfl rfl rfl (by decide +kernel) ⟨Nat.le_of_ble_eq_true rfl, Nat.le_of_ble_eq_true rfl⟩) ⟨bl_I (bl_a bl_sz (bl_a bl_P (bl_a bl_K (bl_a bl_c (bl_a bl_nz bl_ST))))), va_recv hKc hPc (ci := 6) (q0 := 0) rfl rfl, fun U hU hW => ⟨rfl, by rw [hU], by rw [hU]; exact hPc, va_K.moved hW.alike hKc, hDc.weaken (fun _ _ _ _ => trivial), nzA_warm hW hz, by rw [hU]; exact ((hT.kept hS.2.1).narrow (fun q h => hFc q h)).warm hW⟩⟩ rfl rfl hl.1 rfl (lv_room (Nat.le_of_ble_eq_true rfl)) (dk_at dkX6_readMoon 16 rfl) ⟨Nat.zero_le _, Nat.zero_le _⟩) hS (fun q _ h => hFc q h) hFc (fun u t H1 locs ht hvm hw hB hz1 hk1 hS => ?_)
    clear hz1
    obtain ⟨y_176, y_177, y_178, y_179, y_180, hB⟩ := hB
    obtain ⟨gy_176, gy_179, gy_180, hpr0_r_175, hE, hP1, hD1⟩ := hB
    rw [ht] at hP1
    obtain ⟨hP, hD⟩ := gz_back hP hD hk1 hFc hP1 hD1 [0, 1, 2] rfl rfl
    have hpr0_r_175 : Hid (y_169.toInt ≤ y_176.toInt) := hpr0_r_175
    have g_181 : gi y_176 1 3 := gi_relL (Hid.un hpr0_r_175) g_174 gy_176
    obtain ⟨hP, hD⟩ := gz_both (w := [(h0, .inr (6, [.ref tp, .ref dr, .int y_176, .int y_177, .int y_178, .int y_179, .int y_180])), (tp, .inr (10, [.ref bt, .int b_length])), (bt, .inl (kbt, 1600, .inl fbt)), (dr, .inr (0, [.int e_months, .int e_full, .int e_lean, .int e_lines, .int e_hasMoon, .int e_moonStart, .int e_moonStep, .int e_placeCount, .int e_reportCount, .int e_deedCount, .ref dpl, .ref dre, .ref dde]))]) hP hD
    have hF := gf_callm (a := (y_176, y_177, y_178, y_179, y_180)) hE hF (by first | with_reducible rfl | dsimp only)
    generalize H1 = H at hP hS ⊢
    refine lv_aload_n hx hb (dk_at dkX6_readMoon 17 rfl) rfl (lv_at hl 1 rfl) ?_
    refine lv_sipush (v := 28000) hx hb (dk_at dkX6_readMoon 18 rfl) (by decide) ?_
    refine lv_sipush (v := 31000) hx hb (dk_at dkX6_readMoon 19 rfl) (by decide) ?_
    obtain ⟨hPc, hDc, hFc⟩ := gz_cut (wc := [(h0, .inr (6, [.ref tp, .ref dr, .int y_176, .int y_177, .int y_178, .int y_179, .int y_180])), (tp, .inr (10, [.ref bt, .int b_length])), (bt, .inl (kbt, 1600, .inl fbt))]) hP hD hS hA [0, 1, 2] (by decide) rfl
    have hKc := hK.sub (tys' := [(kbt, .byte)]) [0] rfl
    refine va_calli (va_runV (As := [.int 28000, .int 31000]) (rest := []) ⟨hx, hb, hml, hown, hts⟩ (sX6_passNumber l dC dI H.size h0 tp bt dr y_176 y_177 y_178 y_179 y_180 b_length kbt fbt 28000 31000 (gi_w g_181 (by decide)) gy_179 gy_180 gb_length) (cwV 2 hts (gz_gV mGA_258 mGA_259 mGA_260 mGA_9 mGA_261 goodGA) rfl rfl rfl (by decide +kernel) ⟨Nat.le_of_ble_eq_true rfl, Nat.le_of_ble_eq_true rfl⟩) ⟨bl_I (bl_a bl_sz (bl_a bl_P (bl_a bl_K (bl_a bl_c bl_nz)))), va_recv hKc hPc (ci := 6) (q0 := 0) rfl rfl, fun U hU hW => ⟨rfl, by rw [hU], by rw [hU]; exact hPc, va_K.moved hW.alike hKc, hDc.weaken (fun _ _ _ _ => trivial), nzA_warm hW hz⟩⟩ rfl rfl hl.1 rfl (lv_room (Nat.le_of_ble_eq_true rfl)) (dk_at dkX6_readMoon 20 rfl) ⟨Nat.zero_le _, Nat.zero_le _⟩) hS (fun q _ h => hFc q h) hFc (fun r_182 u t H1 locs ht hvm hw hB hz1 hk1 hS => ?_)
    clear hz1
    obtain ⟨hu_, hw⟩ := hw
    subst hu_
    obtain ⟨y_183, y_184, y_185, y_186, y_187, hB⟩ := hB
    obtain ⟨gy_183, gy_186, gy_187, hpr0_r_182, hpr1_r_182, hE, hP1, hD1⟩ := hB
    rw [ht] at hP1
    obtain ⟨hP, hD⟩ := gz_back hP hD hk1 hFc hP1 hD1 [0, 1, 2] rfl rfl
    have hpr0_r_182 : Hid (y_176.toInt ≤ y_183.toInt) := hpr0_r_182
    have g_188 : gi y_183 1 3 := gi_relL (Hid.un hpr0_r_182) g_181 gy_183
    have hpr1_r_182 : Hid ((y_183.toInt ≠ 0 ∨ ((28000 : Int) ≤ r_182.toInt ∧ r_182.toInt ≤ (31000 : Int)))) := by have h9 : (y_183.toInt ≠ 0 ∨ ((28000 : Int32).toInt ≤ r_182.toInt ∧ r_182.toInt ≤ (31000 : Int32).toInt)) := hpr1_r_182; rw [show (28000 : Int32).toInt = 28000 from by decide] at h9; rw [show (31000 : Int32).toInt = 31000 from by decide] at h9; exact h9
    obtain ⟨hP, hD⟩ := gz_both (w := [(h0, .inr (6, [.ref tp, .ref dr, .int y_183, .int y_184, .int y_185, .int y_186, .int y_187])), (tp, .inr (10, [.ref bt, .int b_length])), (bt, .inl (kbt, 1600, .inl fbt)), (dr, .inr (0, [.int e_months, .int e_full, .int e_lean, .int e_lines, .int e_hasMoon, .int e_moonStart, .int e_moonStep, .int e_placeCount, .int e_reportCount, .int e_deedCount, .ref dpl, .ref dre, .ref dde]))]) hP hD
    have hF := gf_callm (a := (r_182, y_183, y_184, y_185, y_186, y_187)) hE hF (by first | with_reducible rfl | dsimp only)
    generalize H1 = H at hP hS ⊢
    refine lv_istore_n (lv' := [(2, .int r_182), (1, .int r_168), (0, .ref h0)]) hx hb (dk_at dkX6_readMoon 21 rfl) rfl hl (by decide) rfl (fun ls hl => ?_)
    refine lv_aload_n hx hb (dk_at dkX6_readMoon 22 rfl) rfl (lv_at hl 2 rfl) ?_
    refine va_get (D := (dC, dI)) (ci := 6) (v := .int y_183) (C := RX6) (T := TX6) (N := 7) hx hb hts (fun w h => List.mem_cons_of_mem _ (jnGA_X6 w h)) hown hK hP 0 rfl rfl 2 (by decide) (hts _ (List.mem_cons_of_mem _ mGA_55)) (fun _ h9 => h9) rfl (dk_at dkX6_readMoon 23 rfl) ?_
    refine lv_if_ne (tgt := 60) hx hb (dk_at dkX6_readMoon 24 rfl) (by decide) (fun c_189 => ?_) (fun c_189 => absurd c_189 (gi_no_eq g_188 (gi_c 0 0 (by decide)) (by decide)))
    have hF := gf_neg c_189 hF
    exact W.vret hx hb hr (fun t ht hW => ⟨⟨(), rfl, trivial, y_183, y_184, y_185, y_186, y_187, e_hasMoon, e_moonStart, e_moonStep, (gi_w g_188 (by decide)), gy_186, gy_187, (gi_w g_159 (by decide)), (show q_faultKind.toInt ≤ y_183.toInt from by have qgy_183 := g_188.1; have rgy_183 := g_188.2; have qgy_176 := g_181.1; have rgy_176 := g_181.2; have qgy_169 := g_174.1; have rgy_169 := g_174.2; have qgy_161 := g_167.1; have rgy_161 := g_167.2; have qgq_faultKind := gq_faultKind.1; have rgq_faultKind := gq_faultKind.2; have zhpr0_r_160 := Hid.un hpr0_r_160; have zhpr0_r_168 := Hid.un hpr0_r_168; have zhpr0_r_175 := Hid.un hpr0_r_175; have zhpr0_r_182 := Hid.un hpr0_r_182; omega), hF.trans hR9.symm, by rw [ht]; exact hP, hD⟩, hS.F ht⟩) hS.2.2 (dk_at dkX6_readMoon 30 rfl)
  · have hF := gf_pos c_157 hF
    have hc_190 : e_hasMoon.toInt = 0 := by have h9 := congrArg Int32.toInt c_157; rw [show (0 : Int32).toInt = 0 from by decide] at h9; exact h9
    have g_191 : gi e_hasMoon 0 0 := gi_eq c_157 (gi_c 0 0 (by decide))
    refine lv_iconst (v := 1) hx hb (dk_at dkX6_readMoon 5 rfl) (by decide) ?_
    refine lv_goto (tgt := 16) hx hb (dk_at dkX6_readMoon 6 rfl) (by decide) ?_
    obtain ⟨hPc, hDc, hFc⟩ := gz_cut (wc := [(h0, .inr (6, [.ref tp, .ref dr, .int q_faultKind, .int q_faultPlace, .int q_token, .int q_start, .int q_stop])), (tp, .inr (10, [.ref bt, .int b_length])), (bt, .inl (kbt, 1600, .inl fbt))]) hP hD hS hA [0, 1, 2] (by decide) rfl
    have hKc := hK.sub (tys' := [(kbt, .byte)]) [0] rfl
    refine va_callv (va_runV (As := [.int 1]) (rest := []) ⟨hx, hb, hml, hown, hts⟩ (sX6_passHead l dC dI s.heap.size h0 tp bt dr q_faultKind q_faultPlace q_token q_start q_stop b_length kbt fbt 1 gq_faultKind gq_start gq_stop gb_length (gi_w (gi_c 1 1 (by decide)) (by decide))) (cwV 1 hts (gz_gV mGA_277 mGA_278 mGA_279 mGA_9 mGA_280 goodGA) rfl rfl rfl (by decide +kernel) ⟨Nat.le_of_ble_eq_true rfl, Nat.le_of_ble_eq_true rfl⟩) ⟨bl_I (bl_a bl_sz (bl_a bl_P (bl_a bl_K (bl_a bl_c bl_nz)))), va_recv hKc hPc (ci := 6) (q0 := 0) rfl rfl, fun U hU hW => ⟨rfl, by rw [hU], by rw [hU]; exact hPc, va_K.moved hW.alike hKc, hDc.weaken (fun _ _ _ _ => trivial), nzA_warm hW hz⟩⟩ rfl rfl hl.1 rfl (lv_room (Nat.le_of_ble_eq_true rfl)) (dk_at dkX6_readMoon 8 rfl) ⟨Nat.zero_le _, Nat.zero_le _⟩) hS (fun q _ h => hFc q h) hFc (fun u t H1 locs ht hvm hw hB hz1 hk1 hS => ?_)
    clear hz1
    obtain ⟨y_193, y_194, y_195, y_196, y_197, hB⟩ := hB
    obtain ⟨gy_193, gy_196, gy_197, hpr0_r_192, hpr1_r_192, hE, hP1, hD1⟩ := hB
    rw [ht] at hP1
    obtain ⟨hP, hD⟩ := gz_back hP hD hk1 hFc hP1 hD1 [0, 1, 2] rfl rfl
    have hpr0_r_192 : Hid (q_faultKind.toInt ≤ y_193.toInt) := hpr0_r_192
    have hpr1_r_192 : Hid (((1 : Int) = 1 ∨ 1 ≤ y_193.toInt)) := by have h9 : ((1 : Int32).toInt = 1 ∨ 1 ≤ y_193.toInt) := hpr1_r_192; rw [show (1 : Int32).toInt = 1 from by decide] at h9; exact h9
    obtain ⟨hP, hD⟩ := gz_both (w := [(h0, .inr (6, [.ref tp, .ref dr, .int y_193, .int y_194, .int y_195, .int y_196, .int y_197])), (tp, .inr (10, [.ref bt, .int b_length])), (bt, .inl (kbt, 1600, .inl fbt)), (dr, .inr (0, [.int e_months, .int e_full, .int e_lean, .int e_lines, .int e_hasMoon, .int e_moonStart, .int e_moonStep, .int e_placeCount, .int e_reportCount, .int e_deedCount, .ref dpl, .ref dre, .ref dde]))]) hP hD
    have hF := gf_callm (a := (y_193, y_194, y_195, y_196, y_197)) hE hF (by first | with_reducible rfl | dsimp only)
    generalize H1 = H at hP hS ⊢
    refine lv_aload_n hx hb (dk_at dkX6_readMoon 9 rfl) rfl (lv_at hl 0 rfl) ?_
    refine lv_iconst (v := 0) hx hb (dk_at dkX6_readMoon 10 rfl) (by decide) ?_
    refine lv_ldc (own := RX6) (v := 99999) hx hb hown (hts _ (List.mem_cons_of_mem _ mGA_276)) (dk_at dkX6_readMoon 11 rfl) ?_
    obtain ⟨hPc, hDc, hFc⟩ := gz_cut (wc := [(h0, .inr (6, [.ref tp, .ref dr, .int y_193, .int y_194, .int y_195, .int y_196, .int y_197])), (tp, .inr (10, [.ref bt, .int b_length])), (bt, .inl (kbt, 1600, .inl fbt))]) hP hD hS hA [0, 1, 2] (by decide) rfl
    have hKc := hK.sub (tys' := [(kbt, .byte)]) [0] rfl
    refine va_calli (va_runV (As := [.int 0, .int 99999]) (rest := []) ⟨hx, hb, hml, hown, hts⟩ (sX6_passNumber l dC dI H.size h0 tp bt dr y_193 y_194 y_195 y_196 y_197 b_length kbt fbt 0 99999 gy_193 gy_196 gy_197 gb_length) (cwV 2 hts (gz_gV mGA_258 mGA_259 mGA_260 mGA_9 mGA_261 goodGA) rfl rfl rfl (by decide +kernel) ⟨Nat.le_of_ble_eq_true rfl, Nat.le_of_ble_eq_true rfl⟩) ⟨bl_I (bl_a bl_sz (bl_a bl_P (bl_a bl_K (bl_a bl_c bl_nz)))), va_recv hKc hPc (ci := 6) (q0 := 0) rfl rfl, fun U hU hW => ⟨rfl, by rw [hU], by rw [hU]; exact hPc, va_K.moved hW.alike hKc, hDc.weaken (fun _ _ _ _ => trivial), nzA_warm hW hz⟩⟩ rfl rfl hl.1 rfl (lv_room (Nat.le_of_ble_eq_true rfl)) (dk_at dkX6_readMoon 12 rfl) ⟨Nat.zero_le _, Nat.zero_le _⟩) hS (fun q _ h => hFc q h) hFc (fun r_198 u t H1 locs ht hvm hw hB hz1 hk1 hS => ?_)
    clear hz1
    obtain ⟨hu_, hw⟩ := hw
    subst hu_
    obtain ⟨y_199, y_200, y_201, y_202, y_203, hB⟩ := hB
    obtain ⟨gy_199, gy_202, gy_203, hpr0_r_198, hpr1_r_198, hE, hP1, hD1⟩ := hB
    rw [ht] at hP1
    obtain ⟨hP, hD⟩ := gz_back hP hD hk1 hFc hP1 hD1 [0, 1, 2] rfl rfl
    have hpr0_r_198 : Hid (y_193.toInt ≤ y_199.toInt) := hpr0_r_198
    have hpr1_r_198 : Hid ((y_199.toInt ≠ 0 ∨ ((0 : Int) ≤ r_198.toInt ∧ r_198.toInt ≤ (99999 : Int)))) := by have h9 : (y_199.toInt ≠ 0 ∨ ((0 : Int32).toInt ≤ r_198.toInt ∧ r_198.toInt ≤ (99999 : Int32).toInt)) := hpr1_r_198; rw [show (0 : Int32).toInt = 0 from by decide] at h9; rw [show (99999 : Int32).toInt = 99999 from by decide] at h9; exact h9
    obtain ⟨hP, hD⟩ := gz_both (w := [(h0, .inr (6, [.ref tp, .ref dr, .int y_199, .int y_200, .int y_201, .int y_202, .int y_203])), (tp, .inr (10, [.ref bt, .int b_length])), (bt, .inl (kbt, 1600, .inl fbt)), (dr, .inr (0, [.int e_months, .int e_full, .int e_lean, .int e_lines, .int e_hasMoon, .int e_moonStart, .int e_moonStep, .int e_placeCount, .int e_reportCount, .int e_deedCount, .ref dpl, .ref dre, .ref dde]))]) hP hD
    have hF := gf_callm (a := (r_198, y_199, y_200, y_201, y_202, y_203)) hE hF (by first | with_reducible rfl | dsimp only)
    generalize H1 = H at hP hS ⊢
    refine lv_istore_n (lv' := [(1, .int r_198), (0, .ref h0)]) hx hb (dk_at dkX6_readMoon 13 rfl) rfl hl (by decide) rfl (fun ls hl => ?_)
    refine lv_aload_n hx hb (dk_at dkX6_readMoon 14 rfl) rfl (lv_at hl 1 rfl) ?_
    refine va_ldcS hx hb hown (show vk_R RX6 123 "step" (sa 16) s from (hT.2 16 (by decide)).1) (dk_at dkX6_readMoon 15 rfl) ?_
    obtain ⟨hPc, hDc, hFc⟩ := gz_cut (wc := [(h0, .inr (6, [.ref tp, .ref dr, .int y_199, .int y_200, .int y_201, .int y_202, .int y_203])), (tp, .inr (10, [.ref bt, .int b_length])), (bt, .inl (kbt, 1600, .inl fbt))]) hP hD hS hA [0, 1, 2] (by decide) rfl
    have hKc := hK.sub (tys' := [(kbt, .byte)]) [0] rfl
    refine va_callv (va_runV (As := [.ref (sa 16)]) (rest := []) ⟨hx, hb, hml, hown, hts⟩ (sX6_passWord l dC dI H.size h0 tp bt dr y_199 y_200 y_201 y_202 y_203 b_length kbt fbt sa sb zf 16 gy_199 gy_202 gy_203 gb_length (by decide)) (cwV 1 hts (gz_gV mGA_193 mGA_194 mGA_195 mGA_9 mGA_196 goodGA) rfl rfl rfl (by decide +kernel) ⟨Nat.le_of_ble_eq_true rfl, Nat.le_of_ble_eq_true rfl⟩) ⟨bl_I (bl_a bl_sz (bl_a bl_P (bl_a bl_K (bl_a bl_c (bl_a bl_nz bl_ST))))), va_recv hKc hPc (ci := 6) (q0 := 0) rfl rfl, fun U hU hW => ⟨rfl, by rw [hU], by rw [hU]; exact hPc, va_K.moved hW.alike hKc, hDc.weaken (fun _ _ _ _ => trivial), nzA_warm hW hz, by rw [hU]; exact ((hT.kept hS.2.1).narrow (fun q h => hFc q h)).warm hW⟩⟩ rfl rfl hl.1 rfl (lv_room (Nat.le_of_ble_eq_true rfl)) (dk_at dkX6_readMoon 16 rfl) ⟨Nat.zero_le _, Nat.zero_le _⟩) hS (fun q _ h => hFc q h) hFc (fun u t H1 locs ht hvm hw hB hz1 hk1 hS => ?_)
    clear hz1
    obtain ⟨y_205, y_206, y_207, y_208, y_209, hB⟩ := hB
    obtain ⟨gy_205, gy_208, gy_209, hpr0_r_204, hE, hP1, hD1⟩ := hB
    rw [ht] at hP1
    obtain ⟨hP, hD⟩ := gz_back hP hD hk1 hFc hP1 hD1 [0, 1, 2] rfl rfl
    have hpr0_r_204 : Hid (y_199.toInt ≤ y_205.toInt) := hpr0_r_204
    obtain ⟨hP, hD⟩ := gz_both (w := [(h0, .inr (6, [.ref tp, .ref dr, .int y_205, .int y_206, .int y_207, .int y_208, .int y_209])), (tp, .inr (10, [.ref bt, .int b_length])), (bt, .inl (kbt, 1600, .inl fbt)), (dr, .inr (0, [.int e_months, .int e_full, .int e_lean, .int e_lines, .int e_hasMoon, .int e_moonStart, .int e_moonStep, .int e_placeCount, .int e_reportCount, .int e_deedCount, .ref dpl, .ref dre, .ref dde]))]) hP hD
    have hF := gf_callm (a := (y_205, y_206, y_207, y_208, y_209)) hE hF (by first | with_reducible rfl | dsimp only)
    generalize H1 = H at hP hS ⊢
    refine lv_aload_n hx hb (dk_at dkX6_readMoon 17 rfl) rfl (lv_at hl 1 rfl) ?_
    refine lv_sipush (v := 28000) hx hb (dk_at dkX6_readMoon 18 rfl) (by decide) ?_
    refine lv_sipush (v := 31000) hx hb (dk_at dkX6_readMoon 19 rfl) (by decide) ?_
    obtain ⟨hPc, hDc, hFc⟩ := gz_cut (wc := [(h0, .inr (6, [.ref tp, .ref dr, .int y_205, .int y_206, .int y_207, .int y_208, .int y_209])), (tp, .inr (10, [.ref bt, .int b_length])), (bt, .inl (kbt, 1600, .inl fbt))]) hP hD hS hA [0, 1, 2] (by decide) rfl
    have hKc := hK.sub (tys' := [(kbt, .byte)]) [0] rfl
    refine va_calli (va_runV (As := [.int 28000, .int 31000]) (rest := []) ⟨hx, hb, hml, hown, hts⟩ (sX6_passNumber l dC dI H.size h0 tp bt dr y_205 y_206 y_207 y_208 y_209 b_length kbt fbt 28000 31000 gy_205 gy_208 gy_209 gb_length) (cwV 2 hts (gz_gV mGA_258 mGA_259 mGA_260 mGA_9 mGA_261 goodGA) rfl rfl rfl (by decide +kernel) ⟨Nat.le_of_ble_eq_true rfl, Nat.le_of_ble_eq_true rfl⟩) ⟨bl_I (bl_a bl_sz (bl_a bl_P (bl_a bl_K (bl_a bl_c bl_nz)))), va_recv hKc hPc (ci := 6) (q0 := 0) rfl rfl, fun U hU hW => ⟨rfl, by rw [hU], by rw [hU]; exact hPc, va_K.moved hW.alike hKc, hDc.weaken (fun _ _ _ _ => trivial), nzA_warm hW hz⟩⟩ rfl rfl hl.1 rfl (lv_room (Nat.le_of_ble_eq_true rfl)) (dk_at dkX6_readMoon 20 rfl) ⟨Nat.zero_le _, Nat.zero_le _⟩) hS (fun q _ h => hFc q h) hFc (fun r_210 u t H1 locs ht hvm hw hB hz1 hk1 hS => ?_)
    clear hz1
    obtain ⟨hu_, hw⟩ := hw
    subst hu_
    obtain ⟨y_211, y_212, y_213, y_214, y_215, hB⟩ := hB
    obtain ⟨gy_211, gy_214, gy_215, hpr0_r_210, hpr1_r_210, hE, hP1, hD1⟩ := hB
    rw [ht] at hP1
    obtain ⟨hP, hD⟩ := gz_back hP hD hk1 hFc hP1 hD1 [0, 1, 2] rfl rfl
    have hpr0_r_210 : Hid (y_205.toInt ≤ y_211.toInt) := hpr0_r_210
    have hpr1_r_210 : Hid ((y_211.toInt ≠ 0 ∨ ((28000 : Int) ≤ r_210.toInt ∧ r_210.toInt ≤ (31000 : Int)))) := by have h9 : (y_211.toInt ≠ 0 ∨ ((28000 : Int32).toInt ≤ r_210.toInt ∧ r_210.toInt ≤ (31000 : Int32).toInt)) := hpr1_r_210; rw [show (28000 : Int32).toInt = 28000 from by decide] at h9; rw [show (31000 : Int32).toInt = 31000 from by decide] at h9; exact h9
    obtain ⟨hP, hD⟩ := gz_both (w := [(h0, .inr (6, [.ref tp, .ref dr, .int y_211, .int y_212, .int y_213, .int y_214, .int y_215])), (tp, .inr (10, [.ref bt, .int b_length])), (bt, .inl (kbt, 1600, .inl fbt)), (dr, .inr (0, [.int e_months, .int e_full, .int e_lean, .int e_lines, .int e_hasMoon, .int e_moonStart, .int e_moonStep, .int e_placeCount, .int e_reportCount, .int e_deedCount, .ref dpl, .ref dre, .ref dde]))]) hP hD
    have hF := gf_callm (a := (r_210, y_211, y_212, y_213, y_214, y_215)) hE hF (by first | with_reducible rfl | dsimp only)
    generalize H1 = H at hP hS ⊢
    refine lv_istore_n (lv' := [(2, .int r_210), (1, .int r_198), (0, .ref h0)]) hx hb (dk_at dkX6_readMoon 21 rfl) rfl hl (by decide) rfl (fun ls hl => ?_)
    refine lv_aload_n hx hb (dk_at dkX6_readMoon 22 rfl) rfl (lv_at hl 2 rfl) ?_
    refine va_get (D := (dC, dI)) (ci := 6) (v := .int y_211) (C := RX6) (T := TX6) (N := 7) hx hb hts (fun w h => List.mem_cons_of_mem _ (jnGA_X6 w h)) hown hK hP 0 rfl rfl 2 (by decide) (hts _ (List.mem_cons_of_mem _ mGA_55)) (fun _ h9 => h9) rfl (dk_at dkX6_readMoon 23 rfl) ?_
    refine lv_if_ne (tgt := 60) hx hb (dk_at dkX6_readMoon 24 rfl) (by decide) (fun c_216 => ?_) (fun c_216 => ?_)
    · have hF := gf_neg c_216 hF
      have hc_217 : y_211.toInt ≠ 0 := fun h9 => c_216 (Int32.toInt_inj.mp (by rw [show (0 : Int32).toInt = 0 from by decide]; exact h9))
      have g_218 : gi y_211 1 3 := gi_ne_lo c_216 gy_211 (gi_c 0 0 (by decide)) (by decide)
      exact W.vret hx hb hr (fun t ht hW => ⟨⟨(), rfl, trivial, y_211, y_212, y_213, y_214, y_215, e_hasMoon, e_moonStart, e_moonStep, (gi_w g_218 (by decide)), gy_214, gy_215, (gi_w g_191 (by decide)), (show q_faultKind.toInt ≤ y_211.toInt from by have qgy_211 := g_218.1; have rgy_211 := g_218.2; have qgy_205 := gy_205.1; have rgy_205 := gy_205.2; have qgy_199 := gy_199.1; have rgy_199 := gy_199.2; have qgy_193 := gy_193.1; have rgy_193 := gy_193.2; have qgq_faultKind := gq_faultKind.1; have rgq_faultKind := gq_faultKind.2; have zhpr0_r_192 := Hid.un hpr0_r_192; have zhpr0_r_198 := Hid.un hpr0_r_198; have zhpr0_r_204 := Hid.un hpr0_r_204; have zhpr0_r_210 := Hid.un hpr0_r_210; omega), hF.trans hR9.symm, by rw [ht]; exact hP, hD⟩, hS.F ht⟩) hS.2.2 (dk_at dkX6_readMoon 30 rfl)
    · have hF := gf_pos c_216 hF
      have hc_219 : y_211.toInt = 0 := by have h9 := congrArg Int32.toInt c_216; rw [show (0 : Int32).toInt = 0 from by decide] at h9; exact h9
      have g_220 : gi y_211 0 0 := gi_eq c_216 (gi_c 0 0 (by decide))
      have g_221 : gi y_205 0 0 := gi_rel (Hid.un hpr0_r_210) gy_205 g_220
      have g_222 : gi y_199 0 0 := gi_rel (Hid.un hpr0_r_204) gy_199 g_221
      have g_223 : gi y_193 0 0 := gi_rel (Hid.un hpr0_r_198) gy_193 g_222
      have g_224 : gi q_faultKind 0 0 := gi_rel (Hid.un hpr0_r_192) gq_faultKind g_223
      have hf_225 : ((0 : Int) ≤ r_198.toInt ∧ r_198.toInt ≤ (99999 : Int)) := Hid.resL hpr1_r_198 (by have u1 := g_222.1; have u2 := g_222.2; omega)
      have g_226 : gi r_198 0 2147483647 := ⟨by omega, (gi_any r_198).2⟩
      have hf_227 : ((28000 : Int) ≤ r_210.toInt ∧ r_210.toInt ≤ (31000 : Int)) := Hid.resL hpr1_r_210 (by have u1 := g_220.1; have u2 := g_220.2; omega)
      have g_228 : gi r_210 28000 2147483647 := ⟨by omega, (gi_any r_210).2⟩
      have g_229 : gi r_210 28000 31000 := ⟨g_228.1, by omega⟩
      have g_230 : gi r_198 0 99999 := ⟨g_226.1, by omega⟩
      refine lv_aload_n hx hb (dk_at dkX6_readMoon 25 rfl) rfl (lv_at hl 2 rfl) ?_
      refine va_get (D := (dC, dI)) (ci := 6) (v := .ref dr) (C := RX6) (T := TX6) (N := 7) hx hb hts (fun w h => List.mem_cons_of_mem _ (jnGA_X6 w h)) hown hK hP 0 rfl rfl 1 (by decide) (hts _ (List.mem_cons_of_mem _ mGA_54)) (fun _ h9 => h9) rfl (dk_at dkX6_readMoon 26 rfl) ?_
      refine lv_iload_n hx hb (dk_at dkX6_readMoon 27 rfl) rfl (lv_at hl 1 rfl) ?_
      refine lv_iload_n hx hb (dk_at dkX6_readMoon 28 rfl) rfl (lv_at hl 0 rfl) ?_
      obtain ⟨hPc, hDc, hFc⟩ := gz_cut (wc := [(dr, .inr (0, [.int e_months, .int e_full, .int e_lean, .int e_lines, .int e_hasMoon, .int e_moonStart, .int e_moonStep, .int e_placeCount, .int e_reportCount, .int e_deedCount, .ref dpl, .ref dre, .ref dde]))]) hP hD hS hA [3] (by decide) rfl
      have hKc := hK.sub (tys' := []) [] rfl
      refine va_callv (va_runV (As := [.int r_198, .int r_210]) (rest := []) ⟨hx, hb, hml, hown, hts⟩ (sX0_setMoon l dC dI H.size dr e_months e_full e_lean e_lines e_hasMoon e_moonStart e_moonStep e_placeCount e_reportCount e_deedCount dpl dre dde r_198 r_210 ge_months ge_full ge_lean (gi_w g_191 (by decide)) ge_placeCount ge_reportCount ge_deedCount) (cwV 2 hts (gz_gV mGA_281 mGA_282 mGA_283 mGA_13 mGA_284 goodGA) rfl rfl rfl (by decide +kernel) ⟨Nat.le_of_ble_eq_true rfl, Nat.le_of_ble_eq_true rfl⟩) ⟨bl_I (bl_a bl_sz (bl_a bl_P (bl_a bl_K (bl_a bl_c bl_nz)))), va_recv hKc hPc (ci := 0) (q0 := 0) rfl rfl, fun U hU hW => ⟨rfl, by rw [hU], by rw [hU]; exact hPc, va_K.moved hW.alike hKc, hDc.weaken (fun _ _ _ _ => trivial), nzA_warm hW hz⟩⟩ rfl rfl hl.1 rfl (lv_room (Nat.le_of_ble_eq_true rfl)) (dk_at dkX6_readMoon 29 rfl) ⟨Nat.zero_le _, Nat.zero_le _⟩) hS (fun q _ h => hFc q h) hFc (fun u t H1 locs ht hvm hw hB hz1 hk1 hS => ?_)
      clear hz1
      obtain ⟨y_232, y_233, y_234, hB⟩ := hB
      obtain ⟨gy_232, hE, hP1, hD1⟩ := hB
      rw [ht] at hP1
      obtain ⟨hP, hD⟩ := gz_back hP hD hk1 hFc hP1 hD1 [3] rfl rfl
      obtain ⟨hP, hD⟩ := gz_both (w := [(h0, .inr (6, [.ref tp, .ref dr, .int y_211, .int y_212, .int y_213, .int y_214, .int y_215])), (tp, .inr (10, [.ref bt, .int b_length])), (bt, .inl (kbt, 1600, .inl fbt)), (dr, .inr (0, [.int e_months, .int e_full, .int e_lean, .int e_lines, .int y_232, .int y_233, .int y_234, .int e_placeCount, .int e_reportCount, .int e_deedCount, .ref dpl, .ref dre, .ref dde]))]) hP hD
      have hF := gf_callm (a := (y_232, y_233, y_234)) hE hF (by first | with_reducible rfl | dsimp only)
      generalize H1 = H at hP hS ⊢
      exact W.vret hx hb hr (fun t ht hW => ⟨⟨(), rfl, trivial, y_211, y_212, y_213, y_214, y_215, y_232, y_233, y_234, (gi_w g_220 (by decide)), gy_214, gy_215, gy_232, (show q_faultKind.toInt ≤ y_211.toInt from by have qgy_211 := g_220.1; have rgy_211 := g_220.2; have qgy_205 := g_221.1; have rgy_205 := g_221.2; have qgy_199 := g_222.1; have rgy_199 := g_222.2; have qgy_193 := g_223.1; have rgy_193 := g_223.2; have qgq_faultKind := g_224.1; have rgq_faultKind := g_224.2; have zhpr0_r_192 := Hid.un hpr0_r_192; have zhpr0_r_198 := Hid.un hpr0_r_198; have zhpr0_r_204 := Hid.un hpr0_r_204; have zhpr0_r_210 := Hid.un hpr0_r_210; omega), hF.trans hR9.symm, by rw [ht]; exact hP, hD⟩, hS.F ht⟩) hS.2.2 (dk_at dkX6_readMoon 30 rfl)
