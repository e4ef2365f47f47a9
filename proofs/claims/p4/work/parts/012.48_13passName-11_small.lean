theorem dX6_passName_0 : decode cX6_passName 0 = .ok (.aload_n 0, 1) := by decide +kernel
theorem dX6_passName_1 : decode cX6_passName 1 = .ok (.aload_n 0, 1) := by decide +kernel
theorem dX6_passName_2 : decode cX6_passName 2 = .ok (.getfield 32, 3) := by decide +kernel
theorem dX6_passName_5 : decode cX6_passName 5 = .ok (.iconst 2, 1) := by decide +kernel
theorem dX6_passName_6 : decode cX6_passName 6 = .ok (.if_icmp .ne 7, 3) := by decide +kernel
theorem dX6_passName_9 : decode cX6_passName 9 = .ok (.iconst 1, 1) := by decide +kernel
theorem dX6_passName_10 : decode cX6_passName 10 = .ok (.goto 4, 3) := by decide +kernel
theorem dX6_passName_13 : decode cX6_passName 13 = .ok (.iconst 0, 1) := by decide +kernel
theorem dX6_passName_14 : decode cX6_passName 14 = .ok (.iconst 1, 1) := by decide +kernel
theorem dX6_passName_15 : decode cX6_passName 15 = .ok (.invokevirtual 166, 3) := by decide +kernel
theorem dX6_passName_18 : decode cX6_passName 18 = .ok (.aload_n 0, 1) := by decide +kernel
theorem dX6_passName_19 : decode cX6_passName 19 = .ok (.aload_n 0, 1) := by decide +kernel
theorem dX6_passName_20 : decode cX6_passName 20 = .ok (.getfield 38, 3) := by decide +kernel
theorem dX6_passName_23 : decode cX6_passName 23 = .ok (.aload_n 0, 1) := by decide +kernel
theorem dX6_passName_24 : decode cX6_passName 24 = .ok (.getfield 35, 3) := by decide +kernel
theorem dX6_passName_27 : decode cX6_passName 27 = .ok (.isub, 1) := by decide +kernel
theorem dX6_passName_28 : decode cX6_passName 28 = .ok (.bipush 6, 2) := by decide +kernel
theorem dX6_passName_30 : decode cX6_passName 30 = .ok (.if_icmp .gt 7, 3) := by decide +kernel
theorem dX6_passName_33 : decode cX6_passName 33 = .ok (.iconst 1, 1) := by decide +kernel
theorem dX6_passName_34 : decode cX6_passName 34 = .ok (.goto 4, 3) := by decide +kernel
theorem dX6_passName_37 : decode cX6_passName 37 = .ok (.iconst 0, 1) := by decide +kernel
theorem dX6_passName_38 : decode cX6_passName 38 = .ok (.iconst 2, 1) := by decide +kernel
theorem dX6_passName_39 : decode cX6_passName 39 = .ok (.invokevirtual 166, 3) := by decide +kernel
theorem dX6_passName_42 : decode cX6_passName 42 = .ok (.aload_n 0, 1) := by decide +kernel
theorem dX6_passName_43 : decode cX6_passName 43 = .ok (.invokevirtual 178, 3) := by decide +kernel
theorem dX6_passName_46 : decode cX6_passName 46 = .ok (.istore_n 2, 1) := by decide +kernel
theorem dX6_passName_47 : decode cX6_passName 47 = .ok (.aload_n 0, 1) := by decide +kernel
theorem dX6_passName_48 : decode cX6_passName 48 = .ok (.aload_n 0, 1) := by decide +kernel
theorem dX6_passName_49 : decode cX6_passName 49 = .ok (.getfield 21, 3) := by decide +kernel
theorem dX6_passName_52 : decode cX6_passName 52 = .ok (.iload_n 2, 1) := by decide +kernel
theorem dX6_passName_53 : decode cX6_passName 53 = .ok (.invokevirtual 148, 3) := by decide +kernel
theorem dX6_passName_56 : decode cX6_passName 56 = .ok (.iconst (-1), 1) := by decide +kernel
theorem dX6_passName_57 : decode cX6_passName 57 = .ok (.if_icmp .eq 7, 3) := by decide +kernel
theorem dX6_passName_60 : decode cX6_passName 60 = .ok (.iconst 1, 1) := by decide +kernel
theorem dX6_passName_61 : decode cX6_passName 61 = .ok (.goto 4, 3) := by decide +kernel
theorem dX6_passName_64 : decode cX6_passName 64 = .ok (.iconst 0, 1) := by decide +kernel
theorem dX6_passName_65 : decode cX6_passName 65 = .ok (.iload_n 1, 1) := by decide +kernel
theorem dX6_passName_66 : decode cX6_passName 66 = .ok (.if_icmp .ne 7, 3) := by decide +kernel
theorem dX6_passName_69 : decode cX6_passName 69 = .ok (.iconst 1, 1) := by decide +kernel
theorem dX6_passName_70 : decode cX6_passName 70 = .ok (.goto 4, 3) := by decide +kernel
theorem dX6_passName_73 : decode cX6_passName 73 = .ok (.iconst 0, 1) := by decide +kernel
theorem dX6_passName_74 : decode cX6_passName 74 = .ok (.iconst 2, 1) := by decide +kernel
theorem dX6_passName_75 : decode cX6_passName 75 = .ok (.invokevirtual 166, 3) := by decide +kernel
theorem dX6_passName_78 : decode cX6_passName 78 = .ok (.aload_n 0, 1) := by decide +kernel
theorem dX6_passName_79 : decode cX6_passName 79 = .ok (.invokevirtual 44, 3) := by decide +kernel
theorem dX6_passName_82 : decode cX6_passName 82 = .ok (.iload_n 2, 1) := by decide +kernel
theorem dX6_passName_83 : decode cX6_passName 83 = .ok (.ireturn, 1) := by decide +kernel
noncomputable def bfX6_passName_74 (q_faultKind : Int32) (q_faultPlace : Int32) (q_token : Int32) (q_start : Int32) (q_stop : Int32) (b_length : Int32) (fbt : Nat → Int32) (e_placeCount : Int32) (ep_name : Nat → Int32) (p1 : Int32) (v2 : Int32) (s0 : Int32) (w0_2 : Int32) (w0_3 : Int32) (w0_4 : Int32) (w0_5 : Int32) (w0_6 : Int32) : Int32 × Int32 × Int32 × Int32 × Int32 × Int32 := cal (fun o5 => cal (fun o6 => (v2, o5.1, o5.2, o6.1, o6.2.1, o6.2.2)) (fX6_step o5.1 w0_4 w0_5 w0_6 b_length fbt)) (fX6_expect w0_2 w0_3 w0_5 s0 (2 : Int32))
noncomputable def bfX6_passName_65 (q_faultKind : Int32) (q_faultPlace : Int32) (q_token : Int32) (q_start : Int32) (q_stop : Int32) (b_length : Int32) (fbt : Nat → Int32) (e_placeCount : Int32) (ep_name : Nat → Int32) (p1 : Int32) (v2 : Int32) (s0 : Int32) (w0_2 : Int32) (w0_3 : Int32) (w0_4 : Int32) (w0_5 : Int32) (w0_6 : Int32) : Int32 × Int32 × Int32 × Int32 × Int32 × Int32 := if s0 = p1 then (bfX6_passName_74 q_faultKind q_faultPlace q_token q_start q_stop b_length fbt e_placeCount ep_name p1 v2 (1 : Int32) w0_2 w0_3 w0_4 w0_5 w0_6) else (bfX6_passName_74 q_faultKind q_faultPlace q_token q_start q_stop b_length fbt e_placeCount ep_name p1 v2 (0 : Int32) w0_2 w0_3 w0_4 w0_5 w0_6)
noncomputable def bfX6_passName_38 (q_faultKind : Int32) (q_faultPlace : Int32) (q_token : Int32) (q_start : Int32) (q_stop : Int32) (b_length : Int32) (fbt : Nat → Int32) (e_placeCount : Int32) (ep_name : Nat → Int32) (p1 : Int32) (s0 : Int32) (w0_2 : Int32) (w0_3 : Int32) (w0_4 : Int32) (w0_5 : Int32) (w0_6 : Int32) : Int32 × Int32 × Int32 × Int32 × Int32 × Int32 := cal (fun o2 => cal (fun o3 => cal (fun o4 => if o4 = (-1 : Int32) then (bfX6_passName_65 q_faultKind q_faultPlace q_token q_start q_stop b_length fbt e_placeCount ep_name p1 o3 (0 : Int32) o2.1 o2.2 w0_4 w0_5 w0_6) else (bfX6_passName_65 q_faultKind q_faultPlace q_token q_start q_stop b_length fbt e_placeCount ep_name p1 o3 (1 : Int32) o2.1 o2.2 w0_4 w0_5 w0_6)) (fX0_placeNamed e_placeCount ep_name o3)) (fX6_nameHere w0_5 w0_6 b_length fbt)) (fX6_expect w0_2 w0_3 w0_5 s0 (2 : Int32))
noncomputable def bfX6_passName_14 (q_faultKind : Int32) (q_faultPlace : Int32) (q_token : Int32) (q_start : Int32) (q_stop : Int32) (b_length : Int32) (fbt : Nat → Int32) (e_placeCount : Int32) (ep_name : Nat → Int32) (p1 : Int32) (s0 : Int32) (w0_2 : Int32) (w0_3 : Int32) (w0_4 : Int32) (w0_5 : Int32) (w0_6 : Int32) : Int32 × Int32 × Int32 × Int32 × Int32 × Int32 := cal (fun o1 => if (6 : Int32) < (w0_6 - w0_5) then (bfX6_passName_38 q_faultKind q_faultPlace q_token q_start q_stop b_length fbt e_placeCount ep_name p1 (0 : Int32) o1.1 o1.2 w0_4 w0_5 w0_6) else (bfX6_passName_38 q_faultKind q_faultPlace q_token q_start q_stop b_length fbt e_placeCount ep_name p1 (1 : Int32) o1.1 o1.2 w0_4 w0_5 w0_6)) (fX6_expect w0_2 w0_3 w0_5 s0 (1 : Int32))
noncomputable def fX6_passName (q_faultKind : Int32) (q_faultPlace : Int32) (q_token : Int32) (q_start : Int32) (q_stop : Int32) (b_length : Int32) (fbt : Nat → Int32) (e_placeCount : Int32) (ep_name : Nat → Int32) (p1 : Int32) : Int32 × Int32 × Int32 × Int32 × Int32 × Int32 := if q_token = (2 : Int32) then (bfX6_passName_14 q_faultKind q_faultPlace q_token q_start q_stop b_length fbt e_placeCount ep_name p1 (1 : Int32) q_faultKind q_faultPlace q_token q_start q_stop) else (bfX6_passName_14 q_faultKind q_faultPlace q_token q_start q_stop b_length fbt e_placeCount ep_name p1 (0 : Int32) q_faultKind q_faultPlace q_token q_start q_stop)
set_option maxHeartbeats 4000000 in
set_option maxRecDepth 100000 in
theorem sX6_passName (l : Launch) (dC : Nat → ClassId) (dI : Nat → Nat → Nat) (sz : Nat) (h0 : Nat) (tp : Nat) (bt : Nat) (dr : Nat) (dpl : Nat) (q_faultKind : Int32) (q_faultPlace : Int32) (q_token : Int32) (q_start : Int32) (q_stop : Int32) (b_length : Int32) (kbt : ClassId) (fbt : Nat → Int32) (e_months : Int32) (e_full : Int32) (e_lean : Int32) (e_lines : Int32) (e_hasMoon : Int32) (e_moonStart : Int32) (e_moonStep : Int32) (e_placeCount : Int32) (e_reportCount : Int32) (e_deedCount : Int32) (dre : Nat) (dde : Nat) (kdpl : ClassId) (dpa : Nat → Nat) (ep_name : Nat → Int32) (ep_trust : Nat → Int32) (p1 : Int32) (gq_faultKind : gi q_faultKind 0 3) (gq_start : gi q_start 0 1600) (gq_stop : gi q_stop 0 1600) (gb_length : gi b_length 0 1600) (ge_months : gi e_months 0 24) (ge_full : gi e_full 0 5) (ge_lean : gi e_lean 0 5) (ge_hasMoon : gi e_hasMoon 0 1) (ge_placeCount : gi e_placeCount 0 6) (ge_reportCount : gi e_reportCount 0 24) (ge_deedCount : gi e_deedCount 0 8) (gp1 : gi p1 0 1) : Met l yX6_passName (.code yX6_passName cX6_passName 3 (some .int) :: wsGA) ({ frames := 2, cells := 0, slots := 0, locals := 44 }) (va_Pc [.ref h0, .int p1] (fun U => U.heap.size = sz ∧ va_P (dC, dI) vwCl [(h0, .inr (6, [.ref tp, .ref dr, .int q_faultKind, .int q_faultPlace, .int q_token, .int q_start, .int q_stop])), (tp, .inr (10, [.ref bt, .int b_length])), (bt, .inl (kbt, 1600, .inl fbt))] U.heap ∧ va_K (dC, dI) vwCl [(kbt, .byte), (kdpl, .object RX5)] U ∧ va_D (fun _ => True) [(h0, .inr (6, [.ref tp, .ref dr, .int q_faultKind, .int q_faultPlace, .int q_token, .int q_start, .int q_stop])), (tp, .inr (10, [.ref bt, .int b_length])), (bt, .inl (kbt, 1600, .inl fbt))] ∧ nzA U ∧ va_P (dC, dI) vwCl [(dr, .inr (0, [.int e_months, .int e_full, .int e_lean, .int e_lines, .int e_hasMoon, .int e_moonStart, .int e_moonStep, .int e_placeCount, .int e_reportCount, .int e_deedCount, .ref dpl, .ref dre, .ref dde])), (dpl, .inl (kdpl, 6, .inr (.inr (.inr (.inr (fun i => some (dpa i)))))))] U.heap ∧ gz_ap (va_A [(h0, .inr (6, [.ref tp, .ref dr, .int q_faultKind, .int q_faultPlace, .int q_token, .int q_start, .int q_stop])), (tp, .inr (10, [.ref bt, .int b_length])), (bt, .inl (kbt, 1600, .inl fbt))] sz) [(dr, .inr (0, [.int e_months, .int e_full, .int e_lean, .int e_lines, .int e_hasMoon, .int e_moonStart, .int e_moonStep, .int e_placeCount, .int e_reportCount, .int e_deedCount, .ref dpl, .ref dre, .ref dde])), (dpl, .inl (kdpl, 6, .inr (.inr (.inr (.inr (fun i => some (dpa i)))))))] ∧ va_P (dC, dI) vwCl (gz_fam 6 dpa 5 (fun i => [.int (ep_name i), .int (ep_trust i)])) U.heap ∧ gz_ap (va_A [(h0, .inr (6, [.ref tp, .ref dr, .int q_faultKind, .int q_faultPlace, .int q_token, .int q_start, .int q_stop])), (tp, .inr (10, [.ref bt, .int b_length])), (bt, .inl (kbt, 1600, .inl fbt))] sz) (gz_fam 6 dpa 5 (fun i => [.int (ep_name i), .int (ep_trust i)])))) (va_Qi (fun (r : Int32) (u : Int32) => r = u ∧ gi r (-2147483648) 2147483647) (fun r t => ∃ (w0_2 : Int32) (w0_3 : Int32) (w0_4 : Int32) (w0_5 : Int32) (w0_6 : Int32), gi w0_2 0 3 ∧ gi w0_5 0 1600 ∧ gi w0_6 0 1600 ∧ q_faultKind.toInt ≤ w0_2.toInt ∧ (w0_2.toInt ≠ 0 ∨ p1.toInt = 0 ∨ pnF ep_name e_placeCount r ≠ -1) ∧ (r, w0_2, w0_3, w0_4, w0_5, w0_6) = fX6_passName q_faultKind q_faultPlace q_token q_start q_stop b_length fbt e_placeCount ep_name p1 ∧ va_P (dC, dI) vwCl [(h0, .inr (6, [.ref tp, .ref dr, .int w0_2, .int w0_3, .int w0_4, .int w0_5, .int w0_6])), (tp, .inr (10, [.ref bt, .int b_length])), (bt, .inl (kbt, 1600, .inl fbt))] t.heap ∧ va_D (va_A [(h0, .inr (6, [.ref tp, .ref dr, .int q_faultKind, .int q_faultPlace, .int q_token, .int q_start, .int q_stop])), (tp, .inr (10, [.ref bt, .int b_length])), (bt, .inl (kbt, 1600, .inl fbt))] sz) [(h0, .inr (6, [.ref tp, .ref dr, .int w0_2, .int w0_3, .int w0_4, .int w0_5, .int w0_6])), (tp, .inr (10, [.ref bt, .int b_length])), (bt, .inl (kbt, 1600, .inl fbt))]) (va_A [(h0, .inr (6, [.ref tp, .ref dr, .int q_faultKind, .int q_faultPlace, .int q_token, .int q_start, .int q_stop])), (tp, .inr (10, [.ref bt, .int b_length])), (bt, .inl (kbt, 1600, .inl fbt))] sz)) 0 0 (va_A [(h0, .inr (6, [.ref tp, .ref dr, .int q_faultKind, .int q_faultPlace, .int q_token, .int q_start, .int q_stop])), (tp, .inr (10, [.ref bt, .int b_length])), (bt, .inl (kbt, 1600, .inl fbt))] sz) := by
  refine Met.ofW (cc := cX6_passName) (maxL := 3) (ret := (some .int)) (by decide) rfl ?_
  intro p e s m args below meth c s₁ B hml hv
  obtain ⟨rfl, hsz, hP, hK, hD0, hz, hR, hRA, hF0, hFA0⟩ := hv
  have hx := B.exec
  have hb := B.bytes
  have hr := B.returns
  have hts := atoms_spec (ws := (.code yX6_passName cX6_passName 3 (some .int) :: wsGA)) B.pre
  have hown : s.vm.findClass RX6 = some m.cls := findClass_of_methodNamed B.named
  have hlocks := B.notSynchronized
  subst hsz
  have hD := hD0.self (sz := s.heap.size)
  generalize hAe : va_A [(h0, .inr (6, [.ref tp, .ref dr, .int q_faultKind, .int q_faultPlace, .int q_token, .int q_start, .int q_stop])), (tp, .inr (10, [.ref bt, .int b_length])), (bt, .inl (kbt, 1600, .inl fbt))] s.heap.size = A at hD hRA hFA0 ⊢
  have hA : ∀ q : Nat, s.heap.size ≤ q → A q := fun q h => by rw [← hAe]; exact Or.inr h
  have hS : va_S A s.heap s.heap [] := va_S.rf
  have hl := lv_entry ([.ref h0, .int p1]) (n := 3) (Nat.le_of_ble_eq_true rfl)
  rw [lg_entry_eq]
  generalize (lg_sl ([.ref h0, .int p1]) ++ List.replicate (3 - (lg_sl ([.ref h0, .int p1])).length) Slot.unset).toArray = ls at hl ⊢
  have hl : lv_has ls 3 [(0, .ref h0), (1, .int p1)] := hl
  obtain ⟨RES, hF⟩ : ∃ R9, fX6_passName q_faultKind q_faultPlace q_token q_start q_stop b_length fbt e_placeCount ep_name p1 = R9 := ⟨_, rfl⟩
  have hR9 := hF
  refine lv_aload_n hx hb dX6_passName_0 rfl (lv_at hl 0 rfl) ?_
  refine lv_aload_n hx hb dX6_passName_1 rfl (lv_at hl 0 rfl) ?_
  refine va_get (D := (dC, dI)) (ci := 6) (v := .int q_token) (C := RX6) (T := TX6) (N := 7) hx hb hts (fun w h => List.mem_cons_of_mem _ (jnGA_X6 w h)) hown hK hP 0 rfl rfl 4 (by decide) (hts _ (List.mem_cons_of_mem _ mGA_57)) (fun _ h9 => h9) rfl dX6_passName_2 ?_
  refine lv_iconst (v := 2) hx hb dX6_passName_5 (by decide) ?_
  refine lv_icmp_ne (tgt := 13) hx hb dX6_passName_6 (by decide) (fun c_471 => ?_) (fun c_471 => ?_)
  · have hF := gf_neg c_471 hF
    have hc_472 : q_token.toInt ≠ 2 := fun h9 => c_471 (Int32.toInt_inj.mp (by rw [show (2 : Int32).toInt = 2 from by decide]; exact h9))
    refine lv_iconst (v := 0) hx hb dX6_passName_13 (by decide) ?_
    refine lv_iconst (v := 1) hx hb dX6_passName_14 (by decide) ?_
    have hPc := hP.sub (ws' := [(h0, .inr (6, [.ref tp, .ref dr, .int q_faultKind, .int q_faultPlace, .int q_token, .int q_start, .int q_stop]))]) [0] rfl
    have hKc := hK.sub (tys' := []) [] rfl
    have hDc := hD.sub (ws' := [(h0, .inr (6, [.ref tp, .ref dr, .int q_faultKind, .int q_faultPlace, .int q_token, .int q_start, .int q_stop]))]) [0] (by decide) rfl
    have hFc := va_free (wc := [(h0, .inr (6, [.ref tp, .ref dr, .int q_faultKind, .int q_faultPlace, .int q_token, .int q_start, .int q_stop]))]) hD hS hA [0] rfl
    refine va_callv (va_runV (As := [.int 0, .int 1]) (rest := []) ⟨hx, hb, hml, hown, hts⟩ (sX6_expect l dC dI s.heap.size h0 tp dr q_faultKind q_faultPlace q_token q_start q_stop 0 1 gq_faultKind gq_start gq_stop (gi_w (gi_c 0 0 (by decide)) (by decide)) (gi_w (gi_c 1 1 (by decide)) (by decide))) (cwV 2 hts (gz_gV mGA_250 mGA_251 mGA_252 mGA_9 mGA_253 goodGA) rfl rfl rfl (by decide +kernel) ⟨Nat.le_of_ble_eq_true rfl, Nat.le_of_ble_eq_true rfl⟩) ⟨fun a U g mk q => by obtain ⟨q0, q1, qP, qK, qD, qZ⟩ := q; exact ⟨q0, q1, qP, va_K.moved (u := U) (U := U.calling g mk a) (Vm.Alike.refl U.vm) qK, qD, nzA_same (u := U) (U := U.calling g mk a) rfl qZ⟩, va_recv hKc hPc (ci := 6) (q0 := 0) rfl rfl, fun U hU hW => ⟨rfl, by rw [hU], by rw [hU]; exact hPc, va_K.moved hW.alike hKc, hDc.weaken (fun _ _ _ _ => trivial), nzA_warm hW hz⟩⟩ rfl rfl hl.1 rfl (lv_room (Nat.le_of_ble_eq_true rfl)) dX6_passName_15 ⟨Nat.zero_le _, Nat.zero_le _⟩) hS (fun q _ h => hFc q h) hFc (fun u t H1 locs ht hvm hw hB hz1 hk1 hS => ?_)
    obtain ⟨y_474, y_475, gy_474, hpr0_r_473, hpr1_r_473, hE, hP1, hD1⟩ := hB
    rw [ht] at hP1
    obtain ⟨hP, hD⟩ := va_join (wr := [(tp, .inr (10, [.ref bt, .int b_length])), (bt, .inl (kbt, 1600, .inl fbt))]) (w1 := [(h0, .inr (6, [.ref tp, .ref dr, .int y_474, .int y_475, .int q_token, .int q_start, .int q_stop]))]) hP hD [0] [1, 2] rfl rfl (by decide) (by decide) hk1 hFc hP1 hD1
    have hpr0_r_473 : q_faultKind.toInt ≤ y_474.toInt := hpr0_r_473
    have hpr1_r_473 : Hid (((0 : Int) = 1 ∨ 1 ≤ y_474.toInt)) := by have h9 : ((0 : Int32).toInt = 1 ∨ 1 ≤ y_474.toInt) := hpr1_r_473; rw [show (0 : Int32).toInt = 0 from by decide] at h9; exact h9
    have hf_476 : 1 ≤ y_474.toInt := Hid.resL hpr1_r_473 (by omega)
    have g_477 : gi y_474 1 3 := ⟨by omega, gy_474.2⟩
    have hP := hP.sub (ws' := [(h0, .inr (6, [.ref tp, .ref dr, .int y_474, .int y_475, .int q_token, .int q_start, .int q_stop])), (tp, .inr (10, [.ref bt, .int b_length])), (bt, .inl (kbt, 1600, .inl fbt))]) [2, 0, 1] rfl
    have hD := hD.sub (ws' := [(h0, .inr (6, [.ref tp, .ref dr, .int y_474, .int y_475, .int q_token, .int q_start, .int q_stop])), (tp, .inr (10, [.ref bt, .int b_length])), (bt, .inl (kbt, 1600, .inl fbt))]) [2, 0, 1] (by decide) rfl
    have hF := gf_call (a := (y_474, y_475)) hE hF
    generalize H1 = H at hP hS ⊢
    refine lv_aload_n hx hb dX6_passName_18 rfl (lv_at hl 0 rfl) ?_
    refine lv_aload_n hx hb dX6_passName_19 rfl (lv_at hl 0 rfl) ?_
    refine va_get (D := (dC, dI)) (ci := 6) (v := .int q_stop) (C := RX6) (T := TX6) (N := 7) hx hb hts (fun w h => List.mem_cons_of_mem _ (jnGA_X6 w h)) hown hK hP 0 rfl rfl 6 (by decide) (hts _ (List.mem_cons_of_mem _ mGA_59)) (fun _ h9 => h9) rfl dX6_passName_20 ?_
    refine lv_aload_n hx hb dX6_passName_23 rfl (lv_at hl 0 rfl) ?_
    refine va_get (D := (dC, dI)) (ci := 6) (v := .int q_start) (C := RX6) (T := TX6) (N := 7) hx hb hts (fun w h => List.mem_cons_of_mem _ (jnGA_X6 w h)) hown hK hP 0 rfl rfl 5 (by decide) (hts _ (List.mem_cons_of_mem _ mGA_58)) (fun _ h9 => h9) rfl dX6_passName_24 ?_
    refine lv_isub hx hb dX6_passName_27 ?_
    refine lv_topi (fun x_478 ex_478 => ?_)
    have gx_478 : gi x_478 (-1600) 1600 := gi_sub ex_478 gq_stop gq_start (by decide)
    refine lv_bipush (v := 6) hx hb dX6_passName_28 (by decide) ?_
    refine lv_icmp_gt (tgt := 37) hx hb dX6_passName_30 (by decide) (fun c_479 => ?_) (fun c_479 => ?_)
    · have hF := gf_pos (by rw [ex_478] at c_479; exact c_479) hF
      have hc_480 : 6 < x_478.toInt := by have h9 := Int32.lt_iff_toInt_lt.mp c_479; rw [show (6 : Int32).toInt = 6 from by decide] at h9; exact h9
      have g_481 : gi x_478 7 1600 := gi_lt_r c_479 (gi_c 6 6 (by decide)) gx_478 (by decide)
      refine lv_iconst (v := 0) hx hb dX6_passName_37 (by decide) ?_
      refine lv_iconst (v := 2) hx hb dX6_passName_38 (by decide) ?_
      have hPc := hP.sub (ws' := [(h0, .inr (6, [.ref tp, .ref dr, .int y_474, .int y_475, .int q_token, .int q_start, .int q_stop]))]) [0] rfl
      have hKc := hK.sub (tys' := []) [] rfl
      have hDc := hD.sub (ws' := [(h0, .inr (6, [.ref tp, .ref dr, .int y_474, .int y_475, .int q_token, .int q_start, .int q_stop]))]) [0] (by decide) rfl
      have hFc := va_free (wc := [(h0, .inr (6, [.ref tp, .ref dr, .int y_474, .int y_475, .int q_token, .int q_start, .int q_stop]))]) hD hS hA [0] rfl
      refine va_callv (va_runV (As := [.int 0, .int 2]) (rest := []) ⟨hx, hb, hml, hown, hts⟩ (sX6_expect l dC dI H.size h0 tp dr y_474 y_475 q_token q_start q_stop 0 2 (gi_w g_477 (by decide)) gq_start gq_stop (gi_w (gi_c 0 0 (by decide)) (by decide)) (gi_w (gi_c 2 2 (by decide)) (by decide))) (cwV 2 hts (gz_gV mGA_250 mGA_251 mGA_252 mGA_9 mGA_253 goodGA) rfl rfl rfl (by decide +kernel) ⟨Nat.le_of_ble_eq_true rfl, Nat.le_of_ble_eq_true rfl⟩) ⟨fun a U g mk q => by obtain ⟨q0, q1, qP, qK, qD, qZ⟩ := q; exact ⟨q0, q1, qP, va_K.moved (u := U) (U := U.calling g mk a) (Vm.Alike.refl U.vm) qK, qD, nzA_same (u := U) (U := U.calling g mk a) rfl qZ⟩, va_recv hKc hPc (ci := 6) (q0 := 0) rfl rfl, fun U hU hW => ⟨rfl, by rw [hU], by rw [hU]; exact hPc, va_K.moved hW.alike hKc, hDc.weaken (fun _ _ _ _ => trivial), nzA_warm hW hz⟩⟩ rfl rfl hl.1 rfl (lv_room (Nat.le_of_ble_eq_true rfl)) dX6_passName_39 ⟨Nat.zero_le _, Nat.zero_le _⟩) hS (fun q _ h => hFc q h) hFc (fun u t H1 locs ht hvm hw hB hz1 hk1 hS => ?_)
      obtain ⟨y_483, y_484, gy_483, hpr0_r_482, hpr1_r_482, hE, hP1, hD1⟩ := hB
      rw [ht] at hP1
      obtain ⟨hP, hD⟩ := va_join (wr := [(tp, .inr (10, [.ref bt, .int b_length])), (bt, .inl (kbt, 1600, .inl fbt))]) (w1 := [(h0, .inr (6, [.ref tp, .ref dr, .int y_483, .int y_484, .int q_token, .int q_start, .int q_stop]))]) hP hD [0] [1, 2] rfl rfl (by decide) (by decide) hk1 hFc hP1 hD1
      have hpr0_r_482 : y_474.toInt ≤ y_483.toInt := hpr0_r_482
      have g_485 : gi y_483 1 3 := gi_relL (show y_474.toInt ≤ y_483.toInt from by omega) g_477 gy_483
      have hpr1_r_482 : Hid (((0 : Int) = 1 ∨ 1 ≤ y_483.toInt)) := by have h9 : ((0 : Int32).toInt = 1 ∨ 1 ≤ y_483.toInt) := hpr1_r_482; rw [show (0 : Int32).toInt = 0 from by decide] at h9; exact h9
      have hf_486 : 1 ≤ y_483.toInt := Hid.resL hpr1_r_482 (by omega)
      have hP := hP.sub (ws' := [(h0, .inr (6, [.ref tp, .ref dr, .int y_483, .int y_484, .int q_token, .int q_start, .int q_stop])), (tp, .inr (10, [.ref bt, .int b_length])), (bt, .inl (kbt, 1600, .inl fbt))]) [2, 0, 1] rfl
      have hD := hD.sub (ws' := [(h0, .inr (6, [.ref tp, .ref dr, .int y_483, .int y_484, .int q_token, .int q_start, .int q_stop])), (tp, .inr (10, [.ref bt, .int b_length])), (bt, .inl (kbt, 1600, .inl fbt))]) [2, 0, 1] (by decide) rfl
      have hF := gf_call (a := (y_483, y_484)) hE hF
      generalize H1 = H at hP hS ⊢
      refine lv_aload_n hx hb dX6_passName_42 rfl (lv_at hl 0 rfl) ?_
      have hPc := hP.sub (ws' := [(h0, .inr (6, [.ref tp, .ref dr, .int y_483, .int y_484, .int q_token, .int q_start, .int q_stop])), (tp, .inr (10, [.ref bt, .int b_length])), (bt, .inl (kbt, 1600, .inl fbt))]) [0, 1, 2] rfl
      have hKc := hK.sub (tys' := [(kbt, .byte)]) [0] rfl
      refine va_calli (va_runV (As := []) (rest := []) ⟨hx, hb, hml, hown, hts⟩ (sX6_nameHere l dC dI h0 tp bt dr y_483 y_484 q_token q_start q_stop b_length kbt fbt (gi_w g_485 (by decide)) gq_start gq_stop gb_length) (cwV 0 hts (gz_gV mGA_294 mGA_295 mGA_296 mGA_9 mGA_297 goodGA) rfl rfl rfl (by decide +kernel) ⟨Nat.le_of_ble_eq_true rfl, Nat.le_of_ble_eq_true rfl⟩) ⟨fun a U g mk q => by obtain ⟨q0, qP, qK, qZ⟩ := q; exact ⟨q0, qP, va_K.moved (u := U) (U := U.calling g mk a) (Vm.Alike.refl U.vm) qK, nzA_same (u := U) (U := U.calling g mk a) rfl qZ⟩, va_recv hKc hPc (ci := 6) (q0 := 0) rfl rfl, fun U hU hW => ⟨rfl, by rw [hU]; exact hPc, va_K.moved hW.alike hKc, nzA_warm hW hz⟩⟩ rfl rfl hl.1 rfl (lv_room (Nat.le_of_ble_eq_true rfl)) dX6_passName_43 ⟨Nat.zero_le _, Nat.zero_le _⟩) hS (fun q _ h => h.elim) (fun q h => h.elim) (fun r_487 u t H1 locs ht hvm hw hB hz1 hk1 hS => ?_)
      obtain ⟨hw, hE⟩ := hw
      have hP := gz_keep hP hk1
      have hF := gf_call (a := r_487) hE hF
      generalize H1 = H at hP hS ⊢
      refine lv_istore_n (lv' := [(2, .int r_487), (0, .ref h0), (1, .int p1)]) hx hb dX6_passName_46 rfl hl (by decide) rfl (fun ls hl => ?_)
      refine lv_aload_n hx hb dX6_passName_47 rfl (lv_at hl 1 rfl) ?_
      refine lv_aload_n hx hb dX6_passName_48 rfl (lv_at hl 1 rfl) ?_
      refine va_get (D := (dC, dI)) (ci := 6) (v := .ref dr) (C := RX6) (T := TX6) (N := 7) hx hb hts (fun w h => List.mem_cons_of_mem _ (jnGA_X6 w h)) hown hK hP 0 rfl rfl 1 (by decide) (hts _ (List.mem_cons_of_mem _ mGA_54)) (fun _ h9 => h9) rfl dX6_passName_49 ?_
      refine lv_iload_n hx hb dX6_passName_52 rfl (lv_at hl 0 rfl) ?_
      have hPc : va_P (dC, dI) vwCl [(dr, .inr (0, [.int e_months, .int e_full, .int e_lean, .int e_lines, .int e_hasMoon, .int e_moonStart, .int e_moonStep, .int e_placeCount, .int e_reportCount, .int e_deedCount, .ref dpl, .ref dre, .ref dde])), (dpl, .inl (kdpl, 6, .inr (.inr (.inr (.inr (fun i => some (dpa i)))))))] H := (gz_cat ((gz_ro hR hRA hS).sub [0] rfl) ((gz_ro hR hRA hS).sub [1] rfl))
      have hKc := hK.sub (tys' := [(kdpl, .object RX5)]) [1] rfl
      refine va_calli (va_runV (As := [.int r_487]) (rest := [.ref h0]) ⟨hx, hb, hml, hown, hts⟩ (sX0_placeNamedF l dC dI dr dpl e_months e_full e_lean e_lines e_hasMoon e_moonStart e_moonStep e_placeCount e_reportCount e_deedCount dre dde kdpl dpa ep_name ep_trust r_487 ge_months ge_full ge_lean ge_hasMoon ge_placeCount ge_reportCount ge_deedCount) (cwV 1 hts (gz_gV mGA_298 mGA_299 mGA_300 mGA_13 mGA_301 goodGA) rfl rfl rfl (by decide +kernel) ⟨Nat.le_of_ble_eq_true rfl, Nat.le_of_ble_eq_true rfl⟩) ⟨fun a U g mk q => by obtain ⟨q0, qP, qK, qZ, qF0⟩ := q; exact ⟨q0, qP, va_K.moved (u := U) (U := U.calling g mk a) (Vm.Alike.refl U.vm) qK, nzA_same (u := U) (U := U.calling g mk a) rfl qZ, qF0⟩, va_recv hKc hPc (ci := 0) (q0 := 0) rfl rfl, fun U hU hW => ⟨rfl, by rw [hU]; exact hPc, va_K.moved hW.alike hKc, nzA_warm hW hz, by rw [hU]; exact gz_ro hF0 hFA0 hS⟩⟩ rfl rfl hl.1 rfl (lv_room (Nat.le_of_ble_eq_true rfl)) dX6_passName_53 ⟨Nat.zero_le _, Nat.zero_le _⟩) hS (fun q _ h => h.elim) (fun q h => h.elim) (fun r_488 u t H1 locs ht hvm hw hB hz1 hk1 hS => ?_)
      obtain ⟨hw, hE⟩ := hw
      have hP := gz_keep hP hk1
      have hF := gf_call (a := r_488) hE hF
      generalize H1 = H at hP hS ⊢
      have gr_488 : gi r_488 (-1) 5 := hw.1
      have hqr_488 := hw.2
      have hqr_488 : r_488.toInt = pnF ep_name e_placeCount r_487 := hqr_488
      clear hw
      refine lv_iconst (v := (-1)) hx hb dX6_passName_56 (by decide) ?_
      refine lv_icmp_eq (tgt := 64) hx hb dX6_passName_57 (by decide) (fun c_489 => ?_) (fun c_489 => ?_)
      · have hF := gf_pos c_489 hF
        have hc_490 : r_488.toInt = (-1) := by have h9 := congrArg Int32.toInt c_489; rw [show ((-1) : Int32).toInt = (-1) from by decide] at h9; exact h9
        have g_491 : gi r_488 (-1) (-1) := gi_eq c_489 (gi_c (-1) (-1) (by decide))
        refine lv_iconst (v := 0) hx hb dX6_passName_64 (by decide) ?_
        refine lv_iload_n hx hb dX6_passName_65 rfl (lv_at hl 2 rfl) ?_
        refine lv_icmp_ne (tgt := 73) hx hb dX6_passName_66 (by decide) (fun c_492 => ?_) (fun c_492 => ?_)
        · have hF := gf_neg c_492 hF
          have hc_493 : 0 ≠ p1.toInt := fun h9 => c_492 (Int32.toInt_inj.mp (by rw [show (0 : Int32).toInt = 0 from by decide]; exact h9))
          refine lv_iconst (v := 0) hx hb dX6_passName_73 (by decide) ?_
          refine lv_iconst (v := 2) hx hb dX6_passName_74 (by decide) ?_
          have hPc := hP.sub (ws' := [(h0, .inr (6, [.ref tp, .ref dr, .int y_483, .int y_484, .int q_token, .int q_start, .int q_stop]))]) [0] rfl
          have hKc := hK.sub (tys' := []) [] rfl
          have hDc := hD.sub (ws' := [(h0, .inr (6, [.ref tp, .ref dr, .int y_483, .int y_484, .int q_token, .int q_start, .int q_stop]))]) [0] (by decide) rfl
          have hFc := va_free (wc := [(h0, .inr (6, [.ref tp, .ref dr, .int y_483, .int y_484, .int q_token, .int q_start, .int q_stop]))]) hD hS hA [0] rfl
          refine va_callv (va_runV (As := [.int 0, .int 2]) (rest := []) ⟨hx, hb, hml, hown, hts⟩ (sX6_expect l dC dI H.size h0 tp dr y_483 y_484 q_token q_start q_stop 0 2 (gi_w g_485 (by decide)) gq_start gq_stop (gi_w (gi_c 0 0 (by decide)) (by decide)) (gi_w (gi_c 2 2 (by decide)) (by decide))) (cwV 2 hts (gz_gV mGA_250 mGA_251 mGA_252 mGA_9 mGA_253 goodGA) rfl rfl rfl (by decide +kernel) ⟨Nat.le_of_ble_eq_true rfl, Nat.le_of_ble_eq_true rfl⟩) ⟨fun a U g mk q => by obtain ⟨q0, q1, qP, qK, qD, qZ⟩ := q; exact ⟨q0, q1, qP, va_K.moved (u := U) (U := U.calling g mk a) (Vm.Alike.refl U.vm) qK, qD, nzA_same (u := U) (U := U.calling g mk a) rfl qZ⟩, va_recv hKc hPc (ci := 6) (q0 := 0) rfl rfl, fun U hU hW => ⟨rfl, by rw [hU], by rw [hU]; exact hPc, va_K.moved hW.alike hKc, hDc.weaken (fun _ _ _ _ => trivial), nzA_warm hW hz⟩⟩ rfl rfl hl.1 rfl (lv_room (Nat.le_of_ble_eq_true rfl)) dX6_passName_75 ⟨Nat.zero_le _, Nat.zero_le _⟩) hS (fun q _ h => hFc q h) hFc (fun u t H1 locs ht hvm hw hB hz1 hk1 hS => ?_)
          obtain ⟨y_495, y_496, gy_495, hpr0_r_494, hpr1_r_494, hE, hP1, hD1⟩ := hB
          rw [ht] at hP1
          obtain ⟨hP, hD⟩ := va_join (wr := [(tp, .inr (10, [.ref bt, .int b_length])), (bt, .inl (kbt, 1600, .inl fbt))]) (w1 := [(h0, .inr (6, [.ref tp, .ref dr, .int y_495, .int y_496, .int q_token, .int q_start, .int q_stop]))]) hP hD [0] [1, 2] rfl rfl (by decide) (by decide) hk1 hFc hP1 hD1
          have hpr0_r_494 : y_483.toInt ≤ y_495.toInt := hpr0_r_494
          have g_497 : gi y_495 1 3 := gi_relL (show y_483.toInt ≤ y_495.toInt from by omega) g_485 gy_495
          have hpr1_r_494 : Hid (((0 : Int) = 1 ∨ 1 ≤ y_495.toInt)) := by have h9 : ((0 : Int32).toInt = 1 ∨ 1 ≤ y_495.toInt) := hpr1_r_494; rw [show (0 : Int32).toInt = 0 from by decide] at h9; exact h9
          have hf_498 : 1 ≤ y_495.toInt := Hid.resL hpr1_r_494 (by omega)
          have hP := hP.sub (ws' := [(h0, .inr (6, [.ref tp, .ref dr, .int y_495, .int y_496, .int q_token, .int q_start, .int q_stop])), (tp, .inr (10, [.ref bt, .int b_length])), (bt, .inl (kbt, 1600, .inl fbt))]) [2, 0, 1] rfl
          have hD := hD.sub (ws' := [(h0, .inr (6, [.ref tp, .ref dr, .int y_495, .int y_496, .int q_token, .int q_start, .int q_stop])), (tp, .inr (10, [.ref bt, .int b_length])), (bt, .inl (kbt, 1600, .inl fbt))]) [2, 0, 1] (by decide) rfl
          have hF := gf_call (a := (y_495, y_496)) hE hF
          generalize H1 = H at hP hS ⊢
          refine lv_aload_n hx hb dX6_passName_78 rfl (lv_at hl 1 rfl) ?_
          have hPc := hP.sub (ws' := [(h0, .inr (6, [.ref tp, .ref dr, .int y_495, .int y_496, .int q_token, .int q_start, .int q_stop])), (tp, .inr (10, [.ref bt, .int b_length])), (bt, .inl (kbt, 1600, .inl fbt))]) [0, 1, 2] rfl
          have hKc := hK.sub (tys' := [(kbt, .byte)]) [0] rfl
          have hDc := hD.sub (ws' := [(h0, .inr (6, [.ref tp, .ref dr, .int y_495, .int y_496, .int q_token, .int q_start, .int q_stop])), (tp, .inr (10, [.ref bt, .int b_length])), (bt, .inl (kbt, 1600, .inl fbt))]) [0, 1, 2] (by decide) rfl
          have hFc := va_free (wc := [(h0, .inr (6, [.ref tp, .ref dr, .int y_495, .int y_496, .int q_token, .int q_start, .int q_stop])), (tp, .inr (10, [.ref bt, .int b_length])), (bt, .inl (kbt, 1600, .inl fbt))]) hD hS hA [0, 1, 2] rfl
          refine va_callv (va_runV (As := []) (rest := []) ⟨hx, hb, hml, hown, hts⟩ (sX6_step l dC dI H.size h0 tp bt dr y_495 y_496 q_token q_start q_stop b_length kbt fbt (gi_w g_497 (by decide)) gq_start gq_stop gb_length) (cwV 0 hts (gz_gV mGA_162 mGA_163 mGA_164 mGA_9 mGA_165 goodGA) rfl rfl rfl (by decide +kernel) ⟨Nat.le_of_ble_eq_true rfl, Nat.le_of_ble_eq_true rfl⟩) ⟨fun a U g mk q => by obtain ⟨q0, q1, qP, qK, qD, qZ⟩ := q; exact ⟨q0, q1, qP, va_K.moved (u := U) (U := U.calling g mk a) (Vm.Alike.refl U.vm) qK, qD, nzA_same (u := U) (U := U.calling g mk a) rfl qZ⟩, va_recv hKc hPc (ci := 6) (q0 := 0) rfl rfl, fun U hU hW => ⟨rfl, by rw [hU], by rw [hU]; exact hPc, va_K.moved hW.alike hKc, hDc.weaken (fun _ _ _ _ => trivial), nzA_warm hW hz⟩⟩ rfl rfl hl.1 rfl (lv_room (Nat.le_of_ble_eq_true rfl)) dX6_passName_79 ⟨Nat.zero_le _, Nat.zero_le _⟩) hS (fun q _ h => hFc q h) hFc (fun u t H1 locs ht hvm hw hB hz1 hk1 hS => ?_)
          obtain ⟨y_500, y_501, y_502, gy_501, gy_502, hE, hP1, hD1⟩ := hB
          rw [ht] at hP1
          obtain ⟨hP, hD⟩ := va_join (wr := []) (w1 := [(h0, .inr (6, [.ref tp, .ref dr, .int y_495, .int y_496, .int y_500, .int y_501, .int y_502])), (tp, .inr (10, [.ref bt, .int b_length])), (bt, .inl (kbt, 1600, .inl fbt))]) hP hD [0, 1, 2] [] rfl rfl (by decide) (by decide) hk1 hFc hP1 hD1
          have hP := hP.sub (ws' := [(h0, .inr (6, [.ref tp, .ref dr, .int y_495, .int y_496, .int y_500, .int y_501, .int y_502])), (tp, .inr (10, [.ref bt, .int b_length])), (bt, .inl (kbt, 1600, .inl fbt))]) [0, 1, 2] rfl
          have hD := hD.sub (ws' := [(h0, .inr (6, [.ref tp, .ref dr, .int y_495, .int y_496, .int y_500, .int y_501, .int y_502])), (tp, .inr (10, [.ref bt, .int b_length])), (bt, .inl (kbt, 1600, .inl fbt))]) [0, 1, 2] (by decide) rfl
          have hF := gf_call (a := (y_500, y_501, y_502)) hE hF
          generalize H1 = H at hP hS ⊢
          refine lv_iload_n hx hb dX6_passName_82 rfl (lv_at hl 0 rfl) ?_
          exact W.iret (v := r_487) hx hb hr (fun t ht hW => ⟨⟨r_487, r_487, rfl, ⟨rfl, (gi_any r_487)⟩, y_495, y_496, y_500, y_501, y_502, (gi_w g_497 (by decide)), gy_501, gy_502, (show q_faultKind.toInt ≤ y_495.toInt from by have qgy_495 := g_497.1; have rgy_495 := g_497.2; have qgy_483 := g_485.1; have rgy_483 := g_485.2; have qgy_474 := g_477.1; have rgy_474 := g_477.2; have qgx_478 := g_481.1; have rgx_478 := g_481.2; have igx_478 : x_478.toInt = q_stop.toInt - q_start.toInt := (by have h9 := gi_subI ex_478 (by have h1 := gq_stop.1; have h2 := gq_start.1; have h3 := gq_stop.2; have h4 := gq_start.2; omega) (by have h1 := gq_stop.1; have h2 := gq_start.1; have h3 := gq_stop.2; have h4 := gq_start.2; omega); exact h9); have qgq_start := gq_start.1; have rgq_start := gq_start.2; have qgq_stop := gq_stop.1; have rgq_stop := gq_stop.2; have qgr_488 := g_491.1; have rgr_488 := g_491.2; have qgq_faultKind := gq_faultKind.1; have rgq_faultKind := gq_faultKind.2; have qgp1 := gp1.1; have rgp1 := gp1.2; have qge_placeCount := ge_placeCount.1; have rge_placeCount := ge_placeCount.2; omega), (show (y_495.toInt ≠ 0 ∨ p1.toInt = 0 ∨ pnF ep_name e_placeCount r_487 ≠ -1) from by have qgy_495 := g_497.1; have rgy_495 := g_497.2; have qgy_483 := g_485.1; have rgy_483 := g_485.2; have qgy_474 := g_477.1; have rgy_474 := g_477.2; have qgx_478 := g_481.1; have rgx_478 := g_481.2; have igx_478 : x_478.toInt = q_stop.toInt - q_start.toInt := (by have h9 := gi_subI ex_478 (by have h1 := gq_stop.1; have h2 := gq_start.1; have h3 := gq_stop.2; have h4 := gq_start.2; omega) (by have h1 := gq_stop.1; have h2 := gq_start.1; have h3 := gq_stop.2; have h4 := gq_start.2; omega); exact h9); have qgq_start := gq_start.1; have rgq_start := gq_start.2; have qgq_stop := gq_stop.1; have rgq_stop := gq_stop.2; have qgr_488 := g_491.1; have rgr_488 := g_491.2; have qgq_faultKind := gq_faultKind.1; have rgq_faultKind := gq_faultKind.2; have qgp1 := gp1.1; have rgp1 := gp1.2; have qge_placeCount := ge_placeCount.1; have rge_placeCount := ge_placeCount.2; omega), hF.trans hR9.symm, by rw [ht]; exact hP, hD⟩, hS.F ht⟩) hS.2.2 dX6_passName_83
        · have hF := gf_pos c_492 hF
          have hc_503 : 0 = p1.toInt := by have h9 := congrArg Int32.toInt c_492; rw [show (0 : Int32).toInt = 0 from by decide] at h9; exact h9
          have g_504 : gi p1 0 0 := gi_eq c_492.symm (gi_c 0 0 (by decide))
          refine lv_iconst (v := 1) hx hb dX6_passName_69 (by decide) ?_
          refine lv_goto (tgt := 74) hx hb dX6_passName_70 (by decide) ?_
          refine lv_iconst (v := 2) hx hb dX6_passName_74 (by decide) ?_
          have hPc := hP.sub (ws' := [(h0, .inr (6, [.ref tp, .ref dr, .int y_483, .int y_484, .int q_token, .int q_start, .int q_stop]))]) [0] rfl
          have hKc := hK.sub (tys' := []) [] rfl
          have hDc := hD.sub (ws' := [(h0, .inr (6, [.ref tp, .ref dr, .int y_483, .int y_484, .int q_token, .int q_start, .int q_stop]))]) [0] (by decide) rfl
          have hFc := va_free (wc := [(h0, .inr (6, [.ref tp, .ref dr, .int y_483, .int y_484, .int q_token, .int q_start, .int q_stop]))]) hD hS hA [0] rfl
          refine va_callv (va_runV (As := [.int 1, .int 2]) (rest := []) ⟨hx, hb, hml, hown, hts⟩ (sX6_expect l dC dI H.size h0 tp dr y_483 y_484 q_token q_start q_stop 1 2 (gi_w g_485 (by decide)) gq_start gq_stop (gi_w (gi_c 1 1 (by decide)) (by decide)) (gi_w (gi_c 2 2 (by decide)) (by decide))) (cwV 2 hts (gz_gV mGA_250 mGA_251 mGA_252 mGA_9 mGA_253 goodGA) rfl rfl rfl (by decide +kernel) ⟨Nat.le_of_ble_eq_true rfl, Nat.le_of_ble_eq_true rfl⟩) ⟨fun a U g mk q => by obtain ⟨q0, q1, qP, qK, qD, qZ⟩ := q; exact ⟨q0, q1, qP, va_K.moved (u := U) (U := U.calling g mk a) (Vm.Alike.refl U.vm) qK, qD, nzA_same (u := U) (U := U.calling g mk a) rfl qZ⟩, va_recv hKc hPc (ci := 6) (q0 := 0) rfl rfl, fun U hU hW => ⟨rfl, by rw [hU], by rw [hU]; exact hPc, va_K.moved hW.alike hKc, hDc.weaken (fun _ _ _ _ => trivial), nzA_warm hW hz⟩⟩ rfl rfl hl.1 rfl (lv_room (Nat.le_of_ble_eq_true rfl)) dX6_passName_75 ⟨Nat.zero_le _, Nat.zero_le _⟩) hS (fun q _ h => hFc q h) hFc (fun u t H1 locs ht hvm hw hB hz1 hk1 hS => ?_)
          obtain ⟨y_506, y_507, gy_506, hpr0_r_505, hpr1_r_505, hE, hP1, hD1⟩ := hB
          rw [ht] at hP1
          obtain ⟨hP, hD⟩ := va_join (wr := [(tp, .inr (10, [.ref bt, .int b_length])), (bt, .inl (kbt, 1600, .inl fbt))]) (w1 := [(h0, .inr (6, [.ref tp, .ref dr, .int y_506, .int y_507, .int q_token, .int q_start, .int q_stop]))]) hP hD [0] [1, 2] rfl rfl (by decide) (by decide) hk1 hFc hP1 hD1
          have hpr0_r_505 : y_483.toInt ≤ y_506.toInt := hpr0_r_505
          have g_508 : gi y_506 1 3 := gi_relL (show y_483.toInt ≤ y_506.toInt from by omega) g_485 gy_506
          have hpr1_r_505 : Hid (((1 : Int) = 1 ∨ 1 ≤ y_506.toInt)) := by have h9 : ((1 : Int32).toInt = 1 ∨ 1 ≤ y_506.toInt) := hpr1_r_505; rw [show (1 : Int32).toInt = 1 from by decide] at h9; exact h9
          have hP := hP.sub (ws' := [(h0, .inr (6, [.ref tp, .ref dr, .int y_506, .int y_507, .int q_token, .int q_start, .int q_stop])), (tp, .inr (10, [.ref bt, .int b_length])), (bt, .inl (kbt, 1600, .inl fbt))]) [2, 0, 1] rfl
          have hD := hD.sub (ws' := [(h0, .inr (6, [.ref tp, .ref dr, .int y_506, .int y_507, .int q_token, .int q_start, .int q_stop])), (tp, .inr (10, [.ref bt, .int b_length])), (bt, .inl (kbt, 1600, .inl fbt))]) [2, 0, 1] (by decide) rfl
          have hF := gf_call (a := (y_506, y_507)) hE hF
          generalize H1 = H at hP hS ⊢
          refine lv_aload_n hx hb dX6_passName_78 rfl (lv_at hl 1 rfl) ?_
          have hPc := hP.sub (ws' := [(h0, .inr (6, [.ref tp, .ref dr, .int y_506, .int y_507, .int q_token, .int q_start, .int q_stop])), (tp, .inr (10, [.ref bt, .int b_length])), (bt, .inl (kbt, 1600, .inl fbt))]) [0, 1, 2] rfl
          have hKc := hK.sub (tys' := [(kbt, .byte)]) [0] rfl
          have hDc := hD.sub (ws' := [(h0, .inr (6, [.ref tp, .ref dr, .int y_506, .int y_507, .int q_token, .int q_start, .int q_stop])), (tp, .inr (10, [.ref bt, .int b_length])), (bt, .inl (kbt, 1600, .inl fbt))]) [0, 1, 2] (by decide) rfl
          have hFc := va_free (wc := [(h0, .inr (6, [.ref tp, .ref dr, .int y_506, .int y_507, .int q_token, .int q_start, .int q_stop])), (tp, .inr (10, [.ref bt, .int b_length])), (bt, .inl (kbt, 1600, .inl fbt))]) hD hS hA [0, 1, 2] rfl
          refine va_callv (va_runV (As := []) (rest := []) ⟨hx, hb, hml, hown, hts⟩ (sX6_step l dC dI H.size h0 tp bt dr y_506 y_507 q_token q_start q_stop b_length kbt fbt (gi_w g_508 (by decide)) gq_start gq_stop gb_length) (cwV 0 hts (gz_gV mGA_162 mGA_163 mGA_164 mGA_9 mGA_165 goodGA) rfl rfl rfl (by decide +kernel) ⟨Nat.le_of_ble_eq_true rfl, Nat.le_of_ble_eq_true rfl⟩) ⟨fun a U g mk q => by obtain ⟨q0, q1, qP, qK, qD, qZ⟩ := q; exact ⟨q0, q1, qP, va_K.moved (u := U) (U := U.calling g mk a) (Vm.Alike.refl U.vm) qK, qD, nzA_same (u := U) (U := U.calling g mk a) rfl qZ⟩, va_recv hKc hPc (ci := 6) (q0 := 0) rfl rfl, fun U hU hW => ⟨rfl, by rw [hU], by rw [hU]; exact hPc, va_K.moved hW.alike hKc, hDc.weaken (fun _ _ _ _ => trivial), nzA_warm hW hz⟩⟩ rfl rfl hl.1 rfl (lv_room (Nat.le_of_ble_eq_true rfl)) dX6_passName_79 ⟨Nat.zero_le _, Nat.zero_le _⟩) hS (fun q _ h => hFc q h) hFc (fun u t H1 locs ht hvm hw hB hz1 hk1 hS => ?_)
          obtain ⟨y_510, y_511, y_512, gy_511, gy_512, hE, hP1, hD1⟩ := hB
          rw [ht] at hP1
          obtain ⟨hP, hD⟩ := va_join (wr := []) (w1 := [(h0, .inr (6, [.ref tp, .ref dr, .int y_506, .int y_507, .int y_510, .int y_511, .int y_512])), (tp, .inr (10, [.ref bt, .int b_length])), (bt, .inl (kbt, 1600, .inl fbt))]) hP hD [0, 1, 2] [] rfl rfl (by decide) (by decide) hk1 hFc hP1 hD1
          have hP := hP.sub (ws' := [(h0, .inr (6, [.ref tp, .ref dr, .int y_506, .int y_507, .int y_510, .int y_511, .int y_512])), (tp, .inr (10, [.ref bt, .int b_length])), (bt, .inl (kbt, 1600, .inl fbt))]) [0, 1, 2] rfl
          have hD := hD.sub (ws' := [(h0, .inr (6, [.ref tp, .ref dr, .int y_506, .int y_507, .int y_510, .int y_511, .int y_512])), (tp, .inr (10, [.ref bt, .int b_length])), (bt, .inl (kbt, 1600, .inl fbt))]) [0, 1, 2] (by decide) rfl
          have hF := gf_call (a := (y_510, y_511, y_512)) hE hF
          generalize H1 = H at hP hS ⊢
          refine lv_iload_n hx hb dX6_passName_82 rfl (lv_at hl 0 rfl) ?_
          exact W.iret (v := r_487) hx hb hr (fun t ht hW => ⟨⟨r_487, r_487, rfl, ⟨rfl, (gi_any r_487)⟩, y_506, y_507, y_510, y_511, y_512, (gi_w g_508 (by decide)), gy_511, gy_512, (show q_faultKind.toInt ≤ y_506.toInt from by have qgy_506 := g_508.1; have rgy_506 := g_508.2; have qgy_483 := g_485.1; have rgy_483 := g_485.2; have qgy_474 := g_477.1; have rgy_474 := g_477.2; have qgx_478 := g_481.1; have rgx_478 := g_481.2; have igx_478 : x_478.toInt = q_stop.toInt - q_start.toInt := (by have h9 := gi_subI ex_478 (by have h1 := gq_stop.1; have h2 := gq_start.1; have h3 := gq_stop.2; have h4 := gq_start.2; omega) (by have h1 := gq_stop.1; have h2 := gq_start.1; have h3 := gq_stop.2; have h4 := gq_start.2; omega); exact h9); have qgq_start := gq_start.1; have rgq_start := gq_start.2; have qgq_stop := gq_stop.1; have rgq_stop := gq_stop.2; have qgr_488 := g_491.1; have rgr_488 := g_491.2; have qgq_faultKind := gq_faultKind.1; have rgq_faultKind := gq_faultKind.2; have qgp1 := g_504.1; have rgp1 := g_504.2; have qge_placeCount := ge_placeCount.1; have rge_placeCount := ge_placeCount.2; omega), (show (y_506.toInt ≠ 0 ∨ p1.toInt = 0 ∨ pnF ep_name e_placeCount r_487 ≠ -1) from by have qgy_506 := g_508.1; have rgy_506 := g_508.2; have qgy_483 := g_485.1; have rgy_483 := g_485.2; have qgy_474 := g_477.1; have rgy_474 := g_477.2; have qgx_478 := g_481.1; have rgx_478 := g_481.2; have igx_478 : x_478.toInt = q_stop.toInt - q_start.toInt := (by have h9 := gi_subI ex_478 (by have h1 := gq_stop.1; have h2 := gq_start.1; have h3 := gq_stop.2; have h4 := gq_start.2; omega) (by have h1 := gq_stop.1; have h2 := gq_start.1; have h3 := gq_stop.2; have h4 := gq_start.2; omega); exact h9); have qgq_start := gq_start.1; have rgq_start := gq_start.2; have qgq_stop := gq_stop.1; have rgq_stop := gq_stop.2; have qgr_488 := g_491.1; have rgr_488 := g_491.2; have qgq_faultKind := gq_faultKind.1; have rgq_faultKind := gq_faultKind.2; have qgp1 := g_504.1; have rgp1 := g_504.2; have qge_placeCount := ge_placeCount.1; have rge_placeCount := ge_placeCount.2; omega), hF.trans hR9.symm, by rw [ht]; exact hP, hD⟩, hS.F ht⟩) hS.2.2 dX6_passName_83
      · have hF := gf_neg c_489 hF
        have hc_513 : r_488.toInt ≠ (-1) := fun h9 => c_489 (Int32.toInt_inj.mp (by rw [show ((-1) : Int32).toInt = (-1) from by decide]; exact h9))
        have g_514 : gi r_488 0 5 := gi_ne_lo c_489 gr_488 (gi_c (-1) (-1) (by decide)) (by decide)
        refine lv_iconst (v := 1) hx hb dX6_passName_60 (by decide) ?_
        refine lv_goto (tgt := 65) hx hb dX6_passName_61 (by decide) ?_
        refine lv_iload_n hx hb dX6_passName_65 rfl (lv_at hl 2 rfl) ?_
        refine lv_icmp_ne (tgt := 73) hx hb dX6_passName_66 (by decide) (fun c_515 => ?_) (fun c_515 => ?_)
        · have hF := gf_neg c_515 hF
          have hc_516 : 1 ≠ p1.toInt := fun h9 => c_515 (Int32.toInt_inj.mp (by rw [show (1 : Int32).toInt = 1 from by decide]; exact h9))
          refine lv_iconst (v := 0) hx hb dX6_passName_73 (by decide) ?_
          refine lv_iconst (v := 2) hx hb dX6_passName_74 (by decide) ?_
          have hPc := hP.sub (ws' := [(h0, .inr (6, [.ref tp, .ref dr, .int y_483, .int y_484, .int q_token, .int q_start, .int q_stop]))]) [0] rfl
          have hKc := hK.sub (tys' := []) [] rfl
          have hDc := hD.sub (ws' := [(h0, .inr (6, [.ref tp, .ref dr, .int y_483, .int y_484, .int q_token, .int q_start, .int q_stop]))]) [0] (by decide) rfl
          have hFc := va_free (wc := [(h0, .inr (6, [.ref tp, .ref dr, .int y_483, .int y_484, .int q_token, .int q_start, .int q_stop]))]) hD hS hA [0] rfl
          refine va_callv (va_runV (As := [.int 0, .int 2]) (rest := []) ⟨hx, hb, hml, hown, hts⟩ (sX6_expect l dC dI H.size h0 tp dr y_483 y_484 q_token q_start q_stop 0 2 (gi_w g_485 (by decide)) gq_start gq_stop (gi_w (gi_c 0 0 (by decide)) (by decide)) (gi_w (gi_c 2 2 (by decide)) (by decide))) (cwV 2 hts (gz_gV mGA_250 mGA_251 mGA_252 mGA_9 mGA_253 goodGA) rfl rfl rfl (by decide +kernel) ⟨Nat.le_of_ble_eq_true rfl, Nat.le_of_ble_eq_true rfl⟩) ⟨fun a U g mk q => by obtain ⟨q0, q1, qP, qK, qD, qZ⟩ := q; exact ⟨q0, q1, qP, va_K.moved (u := U) (U := U.calling g mk a) (Vm.Alike.refl U.vm) qK, qD, nzA_same (u := U) (U := U.calling g mk a) rfl qZ⟩, va_recv hKc hPc (ci := 6) (q0 := 0) rfl rfl, fun U hU hW => ⟨rfl, by rw [hU], by rw [hU]; exact hPc, va_K.moved hW.alike hKc, hDc.weaken (fun _ _ _ _ => trivial), nzA_warm hW hz⟩⟩ rfl rfl hl.1 rfl (lv_room (Nat.le_of_ble_eq_true rfl)) dX6_passName_75 ⟨Nat.zero_le _, Nat.zero_le _⟩) hS (fun q _ h => hFc q h) hFc (fun u t H1 locs ht hvm hw hB hz1 hk1 hS => ?_)
          obtain ⟨y_518, y_519, gy_518, hpr0_r_517, hpr1_r_517, hE, hP1, hD1⟩ := hB
          rw [ht] at hP1
          obtain ⟨hP, hD⟩ := va_join (wr := [(tp, .inr (10, [.ref bt, .int b_length])), (bt, .inl (kbt, 1600, .inl fbt))]) (w1 := [(h0, .inr (6, [.ref tp, .ref dr, .int y_518, .int y_519, .int q_token, .int q_start, .int q_stop]))]) hP hD [0] [1, 2] rfl rfl (by decide) (by decide) hk1 hFc hP1 hD1
          have hpr0_r_517 : y_483.toInt ≤ y_518.toInt := hpr0_r_517
          have g_520 : gi y_518 1 3 := gi_relL (show y_483.toInt ≤ y_518.toInt from by omega) g_485 gy_518
          have hpr1_r_517 : Hid (((0 : Int) = 1 ∨ 1 ≤ y_518.toInt)) := by have h9 : ((0 : Int32).toInt = 1 ∨ 1 ≤ y_518.toInt) := hpr1_r_517; rw [show (0 : Int32).toInt = 0 from by decide] at h9; exact h9
          have hf_521 : 1 ≤ y_518.toInt := Hid.resL hpr1_r_517 (by omega)
          have hP := hP.sub (ws' := [(h0, .inr (6, [.ref tp, .ref dr, .int y_518, .int y_519, .int q_token, .int q_start, .int q_stop])), (tp, .inr (10, [.ref bt, .int b_length])), (bt, .inl (kbt, 1600, .inl fbt))]) [2, 0, 1] rfl
          have hD := hD.sub (ws' := [(h0, .inr (6, [.ref tp, .ref dr, .int y_518, .int y_519, .int q_token, .int q_start, .int q_stop])), (tp, .inr (10, [.ref bt, .int b_length])), (bt, .inl (kbt, 1600, .inl fbt))]) [2, 0, 1] (by decide) rfl
          have hF := gf_call (a := (y_518, y_519)) hE hF
          generalize H1 = H at hP hS ⊢
          refine lv_aload_n hx hb dX6_passName_78 rfl (lv_at hl 1 rfl) ?_
          have hPc := hP.sub (ws' := [(h0, .inr (6, [.ref tp, .ref dr, .int y_518, .int y_519, .int q_token, .int q_start, .int q_stop])), (tp, .inr (10, [.ref bt, .int b_length])), (bt, .inl (kbt, 1600, .inl fbt))]) [0, 1, 2] rfl
          have hKc := hK.sub (tys' := [(kbt, .byte)]) [0] rfl
          have hDc := hD.sub (ws' := [(h0, .inr (6, [.ref tp, .ref dr, .int y_518, .int y_519, .int q_token, .int q_start, .int q_stop])), (tp, .inr (10, [.ref bt, .int b_length])), (bt, .inl (kbt, 1600, .inl fbt))]) [0, 1, 2] (by decide) rfl
          have hFc := va_free (wc := [(h0, .inr (6, [.ref tp, .ref dr, .int y_518, .int y_519, .int q_token, .int q_start, .int q_stop])), (tp, .inr (10, [.ref bt, .int b_length])), (bt, .inl (kbt, 1600, .inl fbt))]) hD hS hA [0, 1, 2] rfl
          refine va_callv (va_runV (As := []) (rest := []) ⟨hx, hb, hml, hown, hts⟩ (sX6_step l dC dI H.size h0 tp bt dr y_518 y_519 q_token q_start q_stop b_length kbt fbt (gi_w g_520 (by decide)) gq_start gq_stop gb_length) (cwV 0 hts (gz_gV mGA_162 mGA_163 mGA_164 mGA_9 mGA_165 goodGA) rfl rfl rfl (by decide +kernel) ⟨Nat.le_of_ble_eq_true rfl, Nat.le_of_ble_eq_true rfl⟩) ⟨fun a U g mk q => by obtain ⟨q0, q1, qP, qK, qD, qZ⟩ := q; exact ⟨q0, q1, qP, va_K.moved (u := U) (U := U.calling g mk a) (Vm.Alike.refl U.vm) qK, qD, nzA_same (u := U) (U := U.calling g mk a) rfl qZ⟩, va_recv hKc hPc (ci := 6) (q0 := 0) rfl rfl, fun U hU hW => ⟨rfl, by rw [hU], by rw [hU]; exact hPc, va_K.moved hW.alike hKc, hDc.weaken (fun _ _ _ _ => trivial), nzA_warm hW hz⟩⟩ rfl rfl hl.1 rfl (lv_room (Nat.le_of_ble_eq_true rfl)) dX6_passName_79 ⟨Nat.zero_le _, Nat.zero_le _⟩) hS (fun q _ h => hFc q h) hFc (fun u t H1 locs ht hvm hw hB hz1 hk1 hS => ?_)
          obtain ⟨y_523, y_524, y_525, gy_524, gy_525, hE, hP1, hD1⟩ := hB
          rw [ht] at hP1
          obtain ⟨hP, hD⟩ := va_join (wr := []) (w1 := [(h0, .inr (6, [.ref tp, .ref dr, .int y_518, .int y_519, .int y_523, .int y_524, .int y_525])), (tp, .inr (10, [.ref bt, .int b_length])), (bt, .inl (kbt, 1600, .inl fbt))]) hP hD [0, 1, 2] [] rfl rfl (by decide) (by decide) hk1 hFc hP1 hD1
          have hP := hP.sub (ws' := [(h0, .inr (6, [.ref tp, .ref dr, .int y_518, .int y_519, .int y_523, .int y_524, .int y_525])), (tp, .inr (10, [.ref bt, .int b_length])), (bt, .inl (kbt, 1600, .inl fbt))]) [0, 1, 2] rfl
          have hD := hD.sub (ws' := [(h0, .inr (6, [.ref tp, .ref dr, .int y_518, .int y_519, .int y_523, .int y_524, .int y_525])), (tp, .inr (10, [.ref bt, .int b_length])), (bt, .inl (kbt, 1600, .inl fbt))]) [0, 1, 2] (by decide) rfl
          have hF := gf_call (a := (y_523, y_524, y_525)) hE hF
          generalize H1 = H at hP hS ⊢
          refine lv_iload_n hx hb dX6_passName_82 rfl (lv_at hl 0 rfl) ?_
          exact W.iret (v := r_487) hx hb hr (fun t ht hW => ⟨⟨r_487, r_487, rfl, ⟨rfl, (gi_any r_487)⟩, y_518, y_519, y_523, y_524, y_525, (gi_w g_520 (by decide)), gy_524, gy_525, (show q_faultKind.toInt ≤ y_518.toInt from by have qgy_518 := g_520.1; have rgy_518 := g_520.2; have qgy_483 := g_485.1; have rgy_483 := g_485.2; have qgy_474 := g_477.1; have rgy_474 := g_477.2; have qgx_478 := g_481.1; have rgx_478 := g_481.2; have igx_478 : x_478.toInt = q_stop.toInt - q_start.toInt := (by have h9 := gi_subI ex_478 (by have h1 := gq_stop.1; have h2 := gq_start.1; have h3 := gq_stop.2; have h4 := gq_start.2; omega) (by have h1 := gq_stop.1; have h2 := gq_start.1; have h3 := gq_stop.2; have h4 := gq_start.2; omega); exact h9); have qgq_start := gq_start.1; have rgq_start := gq_start.2; have qgq_stop := gq_stop.1; have rgq_stop := gq_stop.2; have qgr_488 := g_514.1; have rgr_488 := g_514.2; have qgq_faultKind := gq_faultKind.1; have rgq_faultKind := gq_faultKind.2; have qgp1 := gp1.1; have rgp1 := gp1.2; have qge_placeCount := ge_placeCount.1; have rge_placeCount := ge_placeCount.2; omega), (show (y_518.toInt ≠ 0 ∨ p1.toInt = 0 ∨ pnF ep_name e_placeCount r_487 ≠ -1) from by have qgy_518 := g_520.1; have rgy_518 := g_520.2; have qgy_483 := g_485.1; have rgy_483 := g_485.2; have qgy_474 := g_477.1; have rgy_474 := g_477.2; have qgx_478 := g_481.1; have rgx_478 := g_481.2; have igx_478 : x_478.toInt = q_stop.toInt - q_start.toInt := (by have h9 := gi_subI ex_478 (by have h1 := gq_stop.1; have h2 := gq_start.1; have h3 := gq_stop.2; have h4 := gq_start.2; omega) (by have h1 := gq_stop.1; have h2 := gq_start.1; have h3 := gq_stop.2; have h4 := gq_start.2; omega); exact h9); have qgq_start := gq_start.1; have rgq_start := gq_start.2; have qgq_stop := gq_stop.1; have rgq_stop := gq_stop.2; have qgr_488 := g_514.1; have rgr_488 := g_514.2; have qgq_faultKind := gq_faultKind.1; have rgq_faultKind := gq_faultKind.2; have qgp1 := gp1.1; have rgp1 := gp1.2; have qge_placeCount := ge_placeCount.1; have rge_placeCount := ge_placeCount.2; omega), hF.trans hR9.symm, by rw [ht]; exact hP, hD⟩, hS.F ht⟩) hS.2.2 dX6_passName_83
        · have hF := gf_pos c_515 hF
          have hc_526 : 1 = p1.toInt := by have h9 := congrArg Int32.toInt c_515; rw [show (1 : Int32).toInt = 1 from by decide] at h9; exact h9
          have g_527 : gi p1 1 1 := gi_eq c_515.symm (gi_c 1 1 (by decide))
          refine lv_iconst (v := 1) hx hb dX6_passName_69 (by decide) ?_
          refine lv_goto (tgt := 74) hx hb dX6_passName_70 (by decide) ?_
          refine lv_iconst (v := 2) hx hb dX6_passName_74 (by decide) ?_
          have hPc := hP.sub (ws' := [(h0, .inr (6, [.ref tp, .ref dr, .int y_483, .int y_484, .int q_token, .int q_start, .int q_stop]))]) [0] rfl
          have hKc := hK.sub (tys' := []) [] rfl
          have hDc := hD.sub (ws' := [(h0, .inr (6, [.ref tp, .ref dr, .int y_483, .int y_484, .int q_token, .int q_start, .int q_stop]))]) [0] (by decide) rfl
          have hFc := va_free (wc := [(h0, .inr (6, [.ref tp, .ref dr, .int y_483, .int y_484, .int q_token, .int q_start, .int q_stop]))]) hD hS hA [0] rfl
          refine va_callv (va_runV (As := [.int 1, .int 2]) (rest := []) ⟨hx, hb, hml, hown, hts⟩ (sX6_expect l dC dI H.size h0 tp dr y_483 y_484 q_token q_start q_stop 1 2 (gi_w g_485 (by decide)) gq_start gq_stop (gi_w (gi_c 1 1 (by decide)) (by decide)) (gi_w (gi_c 2 2 (by decide)) (by decide))) (cwV 2 hts (gz_gV mGA_250 mGA_251 mGA_252 mGA_9 mGA_253 goodGA) rfl rfl rfl (by decide +kernel) ⟨Nat.le_of_ble_eq_true rfl, Nat.le_of_ble_eq_true rfl⟩) ⟨fun a U g mk q => by obtain ⟨q0, q1, qP, qK, qD, qZ⟩ := q; exact ⟨q0, q1, qP, va_K.moved (u := U) (U := U.calling g mk a) (Vm.Alike.refl U.vm) qK, qD, nzA_same (u := U) (U := U.calling g mk a) rfl qZ⟩, va_recv hKc hPc (ci := 6) (q0 := 0) rfl rfl, fun U hU hW => ⟨rfl, by rw [hU], by rw [hU]; exact hPc, va_K.moved hW.alike hKc, hDc.weaken (fun _ _ _ _ => trivial), nzA_warm hW hz⟩⟩ rfl rfl hl.1 rfl (lv_room (Nat.le_of_ble_eq_true rfl)) dX6_passName_75 ⟨Nat.zero_le _, Nat.zero_le _⟩) hS (fun q _ h => hFc q h) hFc (fun u t H1 locs ht hvm hw hB hz1 hk1 hS => ?_)
          obtain ⟨y_529, y_530, gy_529, hpr0_r_528, hpr1_r_528, hE, hP1, hD1⟩ := hB
          rw [ht] at hP1
          obtain ⟨hP, hD⟩ := va_join (wr := [(tp, .inr (10, [.ref bt, .int b_length])), (bt, .inl (kbt, 1600, .inl fbt))]) (w1 := [(h0, .inr (6, [.ref tp, .ref dr, .int y_529, .int y_530, .int q_token, .int q_start, .int q_stop]))]) hP hD [0] [1, 2] rfl rfl (by decide) (by decide) hk1 hFc hP1 hD1
          have hpr0_r_528 : y_483.toInt ≤ y_529.toInt := hpr0_r_528
          have g_531 : gi y_529 1 3 := gi_relL (show y_483.toInt ≤ y_529.toInt from by omega) g_485 gy_529
          have hpr1_r_528 : Hid (((1 : Int) = 1 ∨ 1 ≤ y_529.toInt)) := by have h9 : ((1 : Int32).toInt = 1 ∨ 1 ≤ y_529.toInt) := hpr1_r_528; rw [show (1 : Int32).toInt = 1 from by decide] at h9; exact h9
          have hP := hP.sub (ws' := [(h0, .inr (6, [.ref tp, .ref dr, .int y_529, .int y_530, .int q_token, .int q_start, .int q_stop])), (tp, .inr (10, [.ref bt, .int b_length])), (bt, .inl (kbt, 1600, .inl fbt))]) [2, 0, 1] rfl
          have hD := hD.sub (ws' := [(h0, .inr (6, [.ref tp, .ref dr, .int y_529, .int y_530, .int q_token, .int q_start, .int q_stop])), (tp, .inr (10, [.ref bt, .int b_length])), (bt, .inl (kbt, 1600, .inl fbt))]) [2, 0, 1] (by decide) rfl
          have hF := gf_call (a := (y_529, y_530)) hE hF
          generalize H1 = H at hP hS ⊢
          refine lv_aload_n hx hb dX6_passName_78 rfl (lv_at hl 1 rfl) ?_
          have hPc := hP.sub (ws' := [(h0, .inr (6, [.ref tp, .ref dr, .int y_529, .int y_530, .int q_token, .int q_start, .int q_stop])), (tp, .inr (10, [.ref bt, .int b_length])), (bt, .inl (kbt, 1600, .inl fbt))]) [0, 1, 2] rfl
          have hKc := hK.sub (tys' := [(kbt, .byte)]) [0] rfl
          have hDc := hD.sub (ws' := [(h0, .inr (6, [.ref tp, .ref dr, .int y_529, .int y_530, .int q_token, .int q_start, .int q_stop])), (tp, .inr (10, [.ref bt, .int b_length])), (bt, .inl (kbt, 1600, .inl fbt))]) [0, 1, 2] (by decide) rfl
          have hFc := va_free (wc := [(h0, .inr (6, [.ref tp, .ref dr, .int y_529, .int y_530, .int q_token, .int q_start, .int q_stop])), (tp, .inr (10, [.ref bt, .int b_length])), (bt, .inl (kbt, 1600, .inl fbt))]) hD hS hA [0, 1, 2] rfl
          refine va_callv (va_runV (As := []) (rest := []) ⟨hx, hb, hml, hown, hts⟩ (sX6_step l dC dI H.size h0 tp bt dr y_529 y_530 q_token q_start q_stop b_length kbt fbt (gi_w g_531 (by decide)) gq_start gq_stop gb_length) (cwV 0 hts (gz_gV mGA_162 mGA_163 mGA_164 mGA_9 mGA_165 goodGA) rfl rfl rfl (by decide +kernel) ⟨Nat.le_of_ble_eq_true rfl, Nat.le_of_ble_eq_true rfl⟩) ⟨fun a U g mk q => by obtain ⟨q0, q1, qP, qK, qD, qZ⟩ := q; exact ⟨q0, q1, qP, va_K.moved (u := U) (U := U.calling g mk a) (Vm.Alike.refl U.vm) qK, qD, nzA_same (u := U) (U := U.calling g mk a) rfl qZ⟩, va_recv hKc hPc (ci := 6) (q0 := 0) rfl rfl, fun U hU hW => ⟨rfl, by rw [hU], by rw [hU]; exact hPc, va_K.moved hW.alike hKc, hDc.weaken (fun _ _ _ _ => trivial), nzA_warm hW hz⟩⟩ rfl rfl hl.1 rfl (lv_room (Nat.le_of_ble_eq_true rfl)) dX6_passName_79 ⟨Nat.zero_le _, Nat.zero_le _⟩) hS (fun q _ h => hFc q h) hFc (fun u t H1 locs ht hvm hw hB hz1 hk1 hS => ?_)
          obtain ⟨y_533, y_534, y_535, gy_534, gy_535, hE, hP1, hD1⟩ := hB
          rw [ht] at hP1
          obtain ⟨hP, hD⟩ := va_join (wr := []) (w1 := [(h0, .inr (6, [.ref tp, .ref dr, .int y_529, .int y_530, .int y_533, .int y_534, .int y_535])), (tp, .inr (10, [.ref bt, .int b_length])), (bt, .inl (kbt, 1600, .inl fbt))]) hP hD [0, 1, 2] [] rfl rfl (by decide) (by decide) hk1 hFc hP1 hD1
          have hP := hP.sub (ws' := [(h0, .inr (6, [.ref tp, .ref dr, .int y_529, .int y_530, .int y_533, .int y_534, .int y_535])), (tp, .inr (10, [.ref bt, .int b_length])), (bt, .inl (kbt, 1600, .inl fbt))]) [0, 1, 2] rfl
          have hD := hD.sub (ws' := [(h0, .inr (6, [.ref tp, .ref dr, .int y_529, .int y_530, .int y_533, .int y_534, .int y_535])), (tp, .inr (10, [.ref bt, .int b_length])), (bt, .inl (kbt, 1600, .inl fbt))]) [0, 1, 2] (by decide) rfl
          have hF := gf_call (a := (y_533, y_534, y_535)) hE hF
          generalize H1 = H at hP hS ⊢
          refine lv_iload_n hx hb dX6_passName_82 rfl (lv_at hl 0 rfl) ?_
          exact W.iret (v := r_487) hx hb hr (fun t ht hW => ⟨⟨r_487, r_487, rfl, ⟨rfl, (gi_any r_487)⟩, y_529, y_530, y_533, y_534, y_535, (gi_w g_531 (by decide)), gy_534, gy_535, (show q_faultKind.toInt ≤ y_529.toInt from by have qgy_529 := g_531.1; have rgy_529 := g_531.2; have qgy_483 := g_485.1; have rgy_483 := g_485.2; have qgy_474 := g_477.1; have rgy_474 := g_477.2; have qgx_478 := g_481.1; have rgx_478 := g_481.2; have igx_478 : x_478.toInt = q_stop.toInt - q_start.toInt := (by have h9 := gi_subI ex_478 (by have h1 := gq_stop.1; have h2 := gq_start.1; have h3 := gq_stop.2; have h4 := gq_start.2; omega) (by have h1 := gq_stop.1; have h2 := gq_start.1; have h3 := gq_stop.2; have h4 := gq_start.2; omega); exact h9); have qgq_start := gq_start.1; have rgq_start := gq_start.2; have qgq_stop := gq_stop.1; have rgq_stop := gq_stop.2; have qgr_488 := g_514.1; have rgr_488 := g_514.2; have qgq_faultKind := gq_faultKind.1; have rgq_faultKind := gq_faultKind.2; have qgp1 := g_527.1; have rgp1 := g_527.2; have qge_placeCount := ge_placeCount.1; have rge_placeCount := ge_placeCount.2; omega), (show (y_529.toInt ≠ 0 ∨ p1.toInt = 0 ∨ pnF ep_name e_placeCount r_487 ≠ -1) from by have qgy_529 := g_531.1; have rgy_529 := g_531.2; have qgy_483 := g_485.1; have rgy_483 := g_485.2; have qgy_474 := g_477.1; have rgy_474 := g_477.2; have qgx_478 := g_481.1; have rgx_478 := g_481.2; have igx_478 : x_478.toInt = q_stop.toInt - q_start.toInt := (by have h9 := gi_subI ex_478 (by have h1 := gq_stop.1; have h2 := gq_start.1; have h3 := gq_stop.2; have h4 := gq_start.2; omega) (by have h1 := gq_stop.1; have h2 := gq_start.1; have h3 := gq_stop.2; have h4 := gq_start.2; omega); exact h9); have qgq_start := gq_start.1; have rgq_start := gq_start.2; have qgq_stop := gq_stop.1; have rgq_stop := gq_stop.2; have qgr_488 := g_514.1; have rgr_488 := g_514.2; have qgq_faultKind := gq_faultKind.1; have rgq_faultKind := gq_faultKind.2; have qgp1 := g_527.1; have rgp1 := g_527.2; have qge_placeCount := ge_placeCount.1; have rge_placeCount := ge_placeCount.2; omega), hF.trans hR9.symm, by rw [ht]; exact hP, hD⟩, hS.F ht⟩) hS.2.2 dX6_passName_83
    · have hF := gf_neg (by rw [ex_478] at c_479; exact c_479) hF
      have hc_536 : x_478.toInt ≤ 6 := by have h9 := Int32.le_iff_toInt_le.mp (Int32.not_lt.mp c_479); rw [show (6 : Int32).toInt = 6 from by decide] at h9; exact h9
      have g_537 : gi x_478 (-1600) 6 := gi_le_l (Int32.not_lt.mp c_479) gx_478 (gi_c 6 6 (by decide))
      refine lv_iconst (v := 1) hx hb dX6_passName_33 (by decide) ?_
      refine lv_goto (tgt := 38) hx hb dX6_passName_34 (by decide) ?_
      refine lv_iconst (v := 2) hx hb dX6_passName_38 (by decide) ?_
      have hPc := hP.sub (ws' := [(h0, .inr (6, [.ref tp, .ref dr, .int y_474, .int y_475, .int q_token, .int q_start, .int q_stop]))]) [0] rfl
      have hKc := hK.sub (tys' := []) [] rfl
      have hDc := hD.sub (ws' := [(h0, .inr (6, [.ref tp, .ref dr, .int y_474, .int y_475, .int q_token, .int q_start, .int q_stop]))]) [0] (by decide) rfl
      have hFc := va_free (wc := [(h0, .inr (6, [.ref tp, .ref dr, .int y_474, .int y_475, .int q_token, .int q_start, .int q_stop]))]) hD hS hA [0] rfl
      refine va_callv (va_runV (As := [.int 1, .int 2]) (rest := []) ⟨hx, hb, hml, hown, hts⟩ (sX6_expect l dC dI H.size h0 tp dr y_474 y_475 q_token q_start q_stop 1 2 (gi_w g_477 (by decide)) gq_start gq_stop (gi_w (gi_c 1 1 (by decide)) (by decide)) (gi_w (gi_c 2 2 (by decide)) (by decide))) (cwV 2 hts (gz_gV mGA_250 mGA_251 mGA_252 mGA_9 mGA_253 goodGA) rfl rfl rfl (by decide +kernel) ⟨Nat.le_of_ble_eq_true rfl, Nat.le_of_ble_eq_true rfl⟩) ⟨fun a U g mk q => by obtain ⟨q0, q1, qP, qK, qD, qZ⟩ := q; exact ⟨q0, q1, qP, va_K.moved (u := U) (U := U.calling g mk a) (Vm.Alike.refl U.vm) qK, qD, nzA_same (u := U) (U := U.calling g mk a) rfl qZ⟩, va_recv hKc hPc (ci := 6) (q0 := 0) rfl rfl, fun U hU hW => ⟨rfl, by rw [hU], by rw [hU]; exact hPc, va_K.moved hW.alike hKc, hDc.weaken (fun _ _ _ _ => trivial), nzA_warm hW hz⟩⟩ rfl rfl hl.1 rfl (lv_room (Nat.le_of_ble_eq_true rfl)) dX6_passName_39 ⟨Nat.zero_le _, Nat.zero_le _⟩) hS (fun q _ h => hFc q h) hFc (fun u t H1 locs ht hvm hw hB hz1 hk1 hS => ?_)
      obtain ⟨y_539, y_540, gy_539, hpr0_r_538, hpr1_r_538, hE, hP1, hD1⟩ := hB
      rw [ht] at hP1
      obtain ⟨hP, hD⟩ := va_join (wr := [(tp, .inr (10, [.ref bt, .int b_length])), (bt, .inl (kbt, 1600, .inl fbt))]) (w1 := [(h0, .inr (6, [.ref tp, .ref dr, .int y_539, .int y_540, .int q_token, .int q_start, .int q_stop]))]) hP hD [0] [1, 2] rfl rfl (by decide) (by decide) hk1 hFc hP1 hD1
      have hpr0_r_538 : y_474.toInt ≤ y_539.toInt := hpr0_r_538
      have g_541 : gi y_539 1 3 := gi_relL (show y_474.toInt ≤ y_539.toInt from by omega) g_477 gy_539
      have hpr1_r_538 : Hid (((1 : Int) = 1 ∨ 1 ≤ y_539.toInt)) := by have h9 : ((1 : Int32).toInt = 1 ∨ 1 ≤ y_539.toInt) := hpr1_r_538; rw [show (1 : Int32).toInt = 1 from by decide] at h9; exact h9
      have hP := hP.sub (ws' := [(h0, .inr (6, [.ref tp, .ref dr, .int y_539, .int y_540, .int q_token, .int q_start, .int q_stop])), (tp, .inr (10, [.ref bt, .int b_length])), (bt, .inl (kbt, 1600, .inl fbt))]) [2, 0, 1] rfl
      have hD := hD.sub (ws' := [(h0, .inr (6, [.ref tp, .ref dr, .int y_539, .int y_540, .int q_token, .int q_start, .int q_stop])), (tp, .inr (10, [.ref bt, .int b_length])), (bt, .inl (kbt, 1600, .inl fbt))]) [2, 0, 1] (by decide) rfl
      have hF := gf_call (a := (y_539, y_540)) hE hF
      generalize H1 = H at hP hS ⊢
      refine lv_aload_n hx hb dX6_passName_42 rfl (lv_at hl 0 rfl) ?_
      have hPc := hP.sub (ws' := [(h0, .inr (6, [.ref tp, .ref dr, .int y_539, .int y_540, .int q_token, .int q_start, .int q_stop])), (tp, .inr (10, [.ref bt, .int b_length])), (bt, .inl (kbt, 1600, .inl fbt))]) [0, 1, 2] rfl
      have hKc := hK.sub (tys' := [(kbt, .byte)]) [0] rfl
      refine va_calli (va_runV (As := []) (rest := []) ⟨hx, hb, hml, hown, hts⟩ (sX6_nameHere l dC dI h0 tp bt dr y_539 y_540 q_token q_start q_stop b_length kbt fbt (gi_w g_541 (by decide)) gq_start gq_stop gb_length) (cwV 0 hts (gz_gV mGA_294 mGA_295 mGA_296 mGA_9 mGA_297 goodGA) rfl rfl rfl (by decide +kernel) ⟨Nat.le_of_ble_eq_true rfl, Nat.le_of_ble_eq_true rfl⟩) ⟨fun a U g mk q => by obtain ⟨q0, qP, qK, qZ⟩ := q; exact ⟨q0, qP, va_K.moved (u := U) (U := U.calling g mk a) (Vm.Alike.refl U.vm) qK, nzA_same (u := U) (U := U.calling g mk a) rfl qZ⟩, va_recv hKc hPc (ci := 6) (q0 := 0) rfl rfl, fun U hU hW => ⟨rfl, by rw [hU]; exact hPc, va_K.moved hW.alike hKc, nzA_warm hW hz⟩⟩ rfl rfl hl.1 rfl (lv_room (Nat.le_of_ble_eq_true rfl)) dX6_passName_43 ⟨Nat.zero_le _, Nat.zero_le _⟩) hS (fun q _ h => h.elim) (fun q h => h.elim) (fun r_542 u t H1 locs ht hvm hw hB hz1 hk1 hS => ?_)
      obtain ⟨hw, hE⟩ := hw
      have hP := gz_keep hP hk1
      have hF := gf_call (a := r_542) hE hF
      generalize H1 = H at hP hS ⊢
      refine lv_istore_n (lv' := [(2, .int r_542), (0, .ref h0), (1, .int p1)]) hx hb dX6_passName_46 rfl hl (by decide) rfl (fun ls hl => ?_)
      refine lv_aload_n hx hb dX6_passName_47 rfl (lv_at hl 1 rfl) ?_
      refine lv_aload_n hx hb dX6_passName_48 rfl (lv_at hl 1 rfl) ?_
      refine va_get (D := (dC, dI)) (ci := 6) (v := .ref dr) (C := RX6) (T := TX6) (N := 7) hx hb hts (fun w h => List.mem_cons_of_mem _ (jnGA_X6 w h)) hown hK hP 0 rfl rfl 1 (by decide) (hts _ (List.mem_cons_of_mem _ mGA_54)) (fun _ h9 => h9) rfl dX6_passName_49 ?_
      refine lv_iload_n hx hb dX6_passName_52 rfl (lv_at hl 0 rfl) ?_
      have hPc : va_P (dC, dI) vwCl [(dr, .inr (0, [.int e_months, .int e_full, .int e_lean, .int e_lines, .int e_hasMoon, .int e_moonStart, .int e_moonStep, .int e_placeCount, .int e_reportCount, .int e_deedCount, .ref dpl, .ref dre, .ref dde])), (dpl, .inl (kdpl, 6, .inr (.inr (.inr (.inr (fun i => some (dpa i)))))))] H := (gz_cat ((gz_ro hR hRA hS).sub [0] rfl) ((gz_ro hR hRA hS).sub [1] rfl))
      have hKc := hK.sub (tys' := [(kdpl, .object RX5)]) [1] rfl
      refine va_calli (va_runV (As := [.int r_542]) (rest := [.ref h0]) ⟨hx, hb, hml, hown, hts⟩ (sX0_placeNamedF l dC dI dr dpl e_months e_full e_lean e_lines e_hasMoon e_moonStart e_moonStep e_placeCount e_reportCount e_deedCount dre dde kdpl dpa ep_name ep_trust r_542 ge_months ge_full ge_lean ge_hasMoon ge_placeCount ge_reportCount ge_deedCount) (cwV 1 hts (gz_gV mGA_298 mGA_299 mGA_300 mGA_13 mGA_301 goodGA) rfl rfl rfl (by decide +kernel) ⟨Nat.le_of_ble_eq_true rfl, Nat.le_of_ble_eq_true rfl⟩) ⟨fun a U g mk q => by obtain ⟨q0, qP, qK, qZ, qF0⟩ := q; exact ⟨q0, qP, va_K.moved (u := U) (U := U.calling g mk a) (Vm.Alike.refl U.vm) qK, nzA_same (u := U) (U := U.calling g mk a) rfl qZ, qF0⟩, va_recv hKc hPc (ci := 0) (q0 := 0) rfl rfl, fun U hU hW => ⟨rfl, by rw [hU]; exact hPc, va_K.moved hW.alike hKc, nzA_warm hW hz, by rw [hU]; exact gz_ro hF0 hFA0 hS⟩⟩ rfl rfl hl.1 rfl (lv_room (Nat.le_of_ble_eq_true rfl)) dX6_passName_53 ⟨Nat.zero_le _, Nat.zero_le _⟩) hS (fun q _ h => h.elim) (fun q h => h.elim) (fun r_543 u t H1 locs ht hvm hw hB hz1 hk1 hS => ?_)
      obtain ⟨hw, hE⟩ := hw
      have hP := gz_keep hP hk1
      have hF := gf_call (a := r_543) hE hF
      generalize H1 = H at hP hS ⊢
      have gr_543 : gi r_543 (-1) 5 := hw.1
      have hqr_543 := hw.2
      have hqr_543 : r_543.toInt = pnF ep_name e_placeCount r_542 := hqr_543
      clear hw
      refine lv_iconst (v := (-1)) hx hb dX6_passName_56 (by decide) ?_
      refine lv_icmp_eq (tgt := 64) hx hb dX6_passName_57 (by decide) (fun c_544 => ?_) (fun c_544 => ?_)
      · have hF := gf_pos c_544 hF
        have hc_545 : r_543.toInt = (-1) := by have h9 := congrArg Int32.toInt c_544; rw [show ((-1) : Int32).toInt = (-1) from by decide] at h9; exact h9
        have g_546 : gi r_543 (-1) (-1) := gi_eq c_544 (gi_c (-1) (-1) (by decide))
        refine lv_iconst (v := 0) hx hb dX6_passName_64 (by decide) ?_
        refine lv_iload_n hx hb dX6_passName_65 rfl (lv_at hl 2 rfl) ?_
        refine lv_icmp_ne (tgt := 73) hx hb dX6_passName_66 (by decide) (fun c_547 => ?_) (fun c_547 => ?_)
        · have hF := gf_neg c_547 hF
          have hc_548 : 0 ≠ p1.toInt := fun h9 => c_547 (Int32.toInt_inj.mp (by rw [show (0 : Int32).toInt = 0 from by decide]; exact h9))
          refine lv_iconst (v := 0) hx hb dX6_passName_73 (by decide) ?_
          refine lv_iconst (v := 2) hx hb dX6_passName_74 (by decide) ?_
          have hPc := hP.sub (ws' := [(h0, .inr (6, [.ref tp, .ref dr, .int y_539, .int y_540, .int q_token, .int q_start, .int q_stop]))]) [0] rfl
          have hKc := hK.sub (tys' := []) [] rfl
          have hDc := hD.sub (ws' := [(h0, .inr (6, [.ref tp, .ref dr, .int y_539, .int y_540, .int q_token, .int q_start, .int q_stop]))]) [0] (by decide) rfl
          have hFc := va_free (wc := [(h0, .inr (6, [.ref tp, .ref dr, .int y_539, .int y_540, .int q_token, .int q_start, .int q_stop]))]) hD hS hA [0] rfl
          refine va_callv (va_runV (As := [.int 0, .int 2]) (rest := []) ⟨hx, hb, hml, hown, hts⟩ (sX6_expect l dC dI H.size h0 tp dr y_539 y_540 q_token q_start q_stop 0 2 (gi_w g_541 (by decide)) gq_start gq_stop (gi_w (gi_c 0 0 (by decide)) (by decide)) (gi_w (gi_c 2 2 (by decide)) (by decide))) (cwV 2 hts (gz_gV mGA_250 mGA_251 mGA_252 mGA_9 mGA_253 goodGA) rfl rfl rfl (by decide +kernel) ⟨Nat.le_of_ble_eq_true rfl, Nat.le_of_ble_eq_true rfl⟩) ⟨fun a U g mk q => by obtain ⟨q0, q1, qP, qK, qD, qZ⟩ := q; exact ⟨q0, q1, qP, va_K.moved (u := U) (U := U.calling g mk a) (Vm.Alike.refl U.vm) qK, qD, nzA_same (u := U) (U := U.calling g mk a) rfl qZ⟩, va_recv hKc hPc (ci := 6) (q0 := 0) rfl rfl, fun U hU hW => ⟨rfl, by rw [hU], by rw [hU]; exact hPc, va_K.moved hW.alike hKc, hDc.weaken (fun _ _ _ _ => trivial), nzA_warm hW hz⟩⟩ rfl rfl hl.1 rfl (lv_room (Nat.le_of_ble_eq_true rfl)) dX6_passName_75 ⟨Nat.zero_le _, Nat.zero_le _⟩) hS (fun q _ h => hFc q h) hFc (fun u t H1 locs ht hvm hw hB hz1 hk1 hS => ?_)
          obtain ⟨y_550, y_551, gy_550, hpr0_r_549, hpr1_r_549, hE, hP1, hD1⟩ := hB
          rw [ht] at hP1
          obtain ⟨hP, hD⟩ := va_join (wr := [(tp, .inr (10, [.ref bt, .int b_length])), (bt, .inl (kbt, 1600, .inl fbt))]) (w1 := [(h0, .inr (6, [.ref tp, .ref dr, .int y_550, .int y_551, .int q_token, .int q_start, .int q_stop]))]) hP hD [0] [1, 2] rfl rfl (by decide) (by decide) hk1 hFc hP1 hD1
          have hpr0_r_549 : y_539.toInt ≤ y_550.toInt := hpr0_r_549
          have g_552 : gi y_550 1 3 := gi_relL (show y_539.toInt ≤ y_550.toInt from by omega) g_541 gy_550
          have hpr1_r_549 : Hid (((0 : Int) = 1 ∨ 1 ≤ y_550.toInt)) := by have h9 : ((0 : Int32).toInt = 1 ∨ 1 ≤ y_550.toInt) := hpr1_r_549; rw [show (0 : Int32).toInt = 0 from by decide] at h9; exact h9
          have hf_553 : 1 ≤ y_550.toInt := Hid.resL hpr1_r_549 (by omega)
          have hP := hP.sub (ws' := [(h0, .inr (6, [.ref tp, .ref dr, .int y_550, .int y_551, .int q_token, .int q_start, .int q_stop])), (tp, .inr (10, [.ref bt, .int b_length])), (bt, .inl (kbt, 1600, .inl fbt))]) [2, 0, 1] rfl
          have hD := hD.sub (ws' := [(h0, .inr (6, [.ref tp, .ref dr, .int y_550, .int y_551, .int q_token, .int q_start, .int q_stop])), (tp, .inr (10, [.ref bt, .int b_length])), (bt, .inl (kbt, 1600, .inl fbt))]) [2, 0, 1] (by decide) rfl
          have hF := gf_call (a := (y_550, y_551)) hE hF
          generalize H1 = H at hP hS ⊢
          refine lv_aload_n hx hb dX6_passName_78 rfl (lv_at hl 1 rfl) ?_
          have hPc := hP.sub (ws' := [(h0, .inr (6, [.ref tp, .ref dr, .int y_550, .int y_551, .int q_token, .int q_start, .int q_stop])), (tp, .inr (10, [.ref bt, .int b_length])), (bt, .inl (kbt, 1600, .inl fbt))]) [0, 1, 2] rfl
          have hKc := hK.sub (tys' := [(kbt, .byte)]) [0] rfl
          have hDc := hD.sub (ws' := [(h0, .inr (6, [.ref tp, .ref dr, .int y_550, .int y_551, .int q_token, .int q_start, .int q_stop])), (tp, .inr (10, [.ref bt, .int b_length])), (bt, .inl (kbt, 1600, .inl fbt))]) [0, 1, 2] (by decide) rfl
          have hFc := va_free (wc := [(h0, .inr (6, [.ref tp, .ref dr, .int y_550, .int y_551, .int q_token, .int q_start, .int q_stop])), (tp, .inr (10, [.ref bt, .int b_length])), (bt, .inl (kbt, 1600, .inl fbt))]) hD hS hA [0, 1, 2] rfl
          refine va_callv (va_runV (As := []) (rest := []) ⟨hx, hb, hml, hown, hts⟩ (sX6_step l dC dI H.size h0 tp bt dr y_550 y_551 q_token q_start q_stop b_length kbt fbt (gi_w g_552 (by decide)) gq_start gq_stop gb_length) (cwV 0 hts (gz_gV mGA_162 mGA_163 mGA_164 mGA_9 mGA_165 goodGA) rfl rfl rfl (by decide +kernel) ⟨Nat.le_of_ble_eq_true rfl, Nat.le_of_ble_eq_true rfl⟩) ⟨fun a U g mk q => by obtain ⟨q0, q1, qP, qK, qD, qZ⟩ := q; exact ⟨q0, q1, qP, va_K.moved (u := U) (U := U.calling g mk a) (Vm.Alike.refl U.vm) qK, qD, nzA_same (u := U) (U := U.calling g mk a) rfl qZ⟩, va_recv hKc hPc (ci := 6) (q0 := 0) rfl rfl, fun U hU hW => ⟨rfl, by rw [hU], by rw [hU]; exact hPc, va_K.moved hW.alike hKc, hDc.weaken (fun _ _ _ _ => trivial), nzA_warm hW hz⟩⟩ rfl rfl hl.1 rfl (lv_room (Nat.le_of_ble_eq_true rfl)) dX6_passName_79 ⟨Nat.zero_le _, Nat.zero_le _⟩) hS (fun q _ h => hFc q h) hFc (fun u t H1 locs ht hvm hw hB hz1 hk1 hS => ?_)
          obtain ⟨y_555, y_556, y_557, gy_556, gy_557, hE, hP1, hD1⟩ := hB
          rw [ht] at hP1
          obtain ⟨hP, hD⟩ := va_join (wr := []) (w1 := [(h0, .inr (6, [.ref tp, .ref dr, .int y_550, .int y_551, .int y_555, .int y_556, .int y_557])), (tp, .inr (10, [.ref bt, .int b_length])), (bt, .inl (kbt, 1600, .inl fbt))]) hP hD [0, 1, 2] [] rfl rfl (by decide) (by decide) hk1 hFc hP1 hD1
          have hP := hP.sub (ws' := [(h0, .inr (6, [.ref tp, .ref dr, .int y_550, .int y_551, .int y_555, .int y_556, .int y_557])), (tp, .inr (10, [.ref bt, .int b_length])), (bt, .inl (kbt, 1600, .inl fbt))]) [0, 1, 2] rfl
          have hD := hD.sub (ws' := [(h0, .inr (6, [.ref tp, .ref dr, .int y_550, .int y_551, .int y_555, .int y_556, .int y_557])), (tp, .inr (10, [.ref bt, .int b_length])), (bt, .inl (kbt, 1600, .inl fbt))]) [0, 1, 2] (by decide) rfl
          have hF := gf_call (a := (y_555, y_556, y_557)) hE hF
          generalize H1 = H at hP hS ⊢
          refine lv_iload_n hx hb dX6_passName_82 rfl (lv_at hl 0 rfl) ?_
          exact W.iret (v := r_542) hx hb hr (fun t ht hW => ⟨⟨r_542, r_542, rfl, ⟨rfl, (gi_any r_542)⟩, y_550, y_551, y_555, y_556, y_557, (gi_w g_552 (by decide)), gy_556, gy_557, (show q_faultKind.toInt ≤ y_550.toInt from by have qgy_550 := g_552.1; have rgy_550 := g_552.2; have qgy_539 := g_541.1; have rgy_539 := g_541.2; have qgy_474 := g_477.1; have rgy_474 := g_477.2; have qgx_478 := g_537.1; have rgx_478 := g_537.2; have igx_478 : x_478.toInt = q_stop.toInt - q_start.toInt := (by have h9 := gi_subI ex_478 (by have h1 := gq_stop.1; have h2 := gq_start.1; have h3 := gq_stop.2; have h4 := gq_start.2; omega) (by have h1 := gq_stop.1; have h2 := gq_start.1; have h3 := gq_stop.2; have h4 := gq_start.2; omega); exact h9); have qgq_start := gq_start.1; have rgq_start := gq_start.2; have qgq_stop := gq_stop.1; have rgq_stop := gq_stop.2; have qgr_543 := g_546.1; have rgr_543 := g_546.2; have qgq_faultKind := gq_faultKind.1; have rgq_faultKind := gq_faultKind.2; have qgp1 := gp1.1; have rgp1 := gp1.2; have qge_placeCount := ge_placeCount.1; have rge_placeCount := ge_placeCount.2; omega), (show (y_550.toInt ≠ 0 ∨ p1.toInt = 0 ∨ pnF ep_name e_placeCount r_542 ≠ -1) from by have qgy_550 := g_552.1; have rgy_550 := g_552.2; have qgy_539 := g_541.1; have rgy_539 := g_541.2; have qgy_474 := g_477.1; have rgy_474 := g_477.2; have qgx_478 := g_537.1; have rgx_478 := g_537.2; have igx_478 : x_478.toInt = q_stop.toInt - q_start.toInt := (by have h9 := gi_subI ex_478 (by have h1 := gq_stop.1; have h2 := gq_start.1; have h3 := gq_stop.2; have h4 := gq_start.2; omega) (by have h1 := gq_stop.1; have h2 := gq_start.1; have h3 := gq_stop.2; have h4 := gq_start.2; omega); exact h9); have qgq_start := gq_start.1; have rgq_start := gq_start.2; have qgq_stop := gq_stop.1; have rgq_stop := gq_stop.2; have qgr_543 := g_546.1; have rgr_543 := g_546.2; have qgq_faultKind := gq_faultKind.1; have rgq_faultKind := gq_faultKind.2; have qgp1 := gp1.1; have rgp1 := gp1.2; have qge_placeCount := ge_placeCount.1; have rge_placeCount := ge_placeCount.2; omega), hF.trans hR9.symm, by rw [ht]; exact hP, hD⟩, hS.F ht⟩) hS.2.2 dX6_passName_83
        · have hF := gf_pos c_547 hF
          have hc_558 : 0 = p1.toInt := by have h9 := congrArg Int32.toInt c_547; rw [show (0 : Int32).toInt = 0 from by decide] at h9; exact h9
          have g_559 : gi p1 0 0 := gi_eq c_547.symm (gi_c 0 0 (by decide))
          refine lv_iconst (v := 1) hx hb dX6_passName_69 (by decide) ?_
          refine lv_goto (tgt := 74) hx hb dX6_passName_70 (by decide) ?_
          refine lv_iconst (v := 2) hx hb dX6_passName_74 (by decide) ?_
          have hPc := hP.sub (ws' := [(h0, .inr (6, [.ref tp, .ref dr, .int y_539, .int y_540, .int q_token, .int q_start, .int q_stop]))]) [0] rfl
          have hKc := hK.sub (tys' := []) [] rfl
          have hDc := hD.sub (ws' := [(h0, .inr (6, [.ref tp, .ref dr, .int y_539, .int y_540, .int q_token, .int q_start, .int q_stop]))]) [0] (by decide) rfl
          have hFc := va_free (wc := [(h0, .inr (6, [.ref tp, .ref dr, .int y_539, .int y_540, .int q_token, .int q_start, .int q_stop]))]) hD hS hA [0] rfl
          refine va_callv (va_runV (As := [.int 1, .int 2]) (rest := []) ⟨hx, hb, hml, hown, hts⟩ (sX6_expect l dC dI H.size h0 tp dr y_539 y_540 q_token q_start q_stop 1 2 (gi_w g_541 (by decide)) gq_start gq_stop (gi_w (gi_c 1 1 (by decide)) (by decide)) (gi_w (gi_c 2 2 (by decide)) (by decide))) (cwV 2 hts (gz_gV mGA_250 mGA_251 mGA_252 mGA_9 mGA_253 goodGA) rfl rfl rfl (by decide +kernel) ⟨Nat.le_of_ble_eq_true rfl, Nat.le_of_ble_eq_true rfl⟩) ⟨fun a U g mk q => by obtain ⟨q0, q1, qP, qK, qD, qZ⟩ := q; exact ⟨q0, q1, qP, va_K.moved (u := U) (U := U.calling g mk a) (Vm.Alike.refl U.vm) qK, qD, nzA_same (u := U) (U := U.calling g mk a) rfl qZ⟩, va_recv hKc hPc (ci := 6) (q0 := 0) rfl rfl, fun U hU hW => ⟨rfl, by rw [hU], by rw [hU]; exact hPc, va_K.moved hW.alike hKc, hDc.weaken (fun _ _ _ _ => trivial), nzA_warm hW hz⟩⟩ rfl rfl hl.1 rfl (lv_room (Nat.le_of_ble_eq_true rfl)) dX6_passName_75 ⟨Nat.zero_le _, Nat.zero_le _⟩) hS (fun q _ h => hFc q h) hFc (fun u t H1 locs ht hvm hw hB hz1 hk1 hS => ?_)
          obtain ⟨y_561, y_562, gy_561, hpr0_r_560, hpr1_r_560, hE, hP1, hD1⟩ := hB
          rw [ht] at hP1
          obtain ⟨hP, hD⟩ := va_join (wr := [(tp, .inr (10, [.ref bt, .int b_length])), (bt, .inl (kbt, 1600, .inl fbt))]) (w1 := [(h0, .inr (6, [.ref tp, .ref dr, .int y_561, .int y_562, .int q_token, .int q_start, .int q_stop]))]) hP hD [0] [1, 2] rfl rfl (by decide) (by decide) hk1 hFc hP1 hD1
          have hpr0_r_560 : y_539.toInt ≤ y_561.toInt := hpr0_r_560
          have g_563 : gi y_561 1 3 := gi_relL (show y_539.toInt ≤ y_561.toInt from by omega) g_541 gy_561
          have hpr1_r_560 : Hid (((1 : Int) = 1 ∨ 1 ≤ y_561.toInt)) := by have h9 : ((1 : Int32).toInt = 1 ∨ 1 ≤ y_561.toInt) := hpr1_r_560; rw [show (1 : Int32).toInt = 1 from by decide] at h9; exact h9
          have hP := hP.sub (ws' := [(h0, .inr (6, [.ref tp, .ref dr, .int y_561, .int y_562, .int q_token, .int q_start, .int q_stop])), (tp, .inr (10, [.ref bt, .int b_length])), (bt, .inl (kbt, 1600, .inl fbt))]) [2, 0, 1] rfl
          have hD := hD.sub (ws' := [(h0, .inr (6, [.ref tp, .ref dr, .int y_561, .int y_562, .int q_token, .int q_start, .int q_stop])), (tp, .inr (10, [.ref bt, .int b_length])), (bt, .inl (kbt, 1600, .inl fbt))]) [2, 0, 1] (by decide) rfl
          have hF := gf_call (a := (y_561, y_562)) hE hF
          generalize H1 = H at hP hS ⊢
          refine lv_aload_n hx hb dX6_passName_78 rfl (lv_at hl 1 rfl) ?_
          have hPc := hP.sub (ws' := [(h0, .inr (6, [.ref tp, .ref dr, .int y_561, .int y_562, .int q_token, .int q_start, .int q_stop])), (tp, .inr (10, [.ref bt, .int b_length])), (bt, .inl (kbt, 1600, .inl fbt))]) [0, 1, 2] rfl
          have hKc := hK.sub (tys' := [(kbt, .byte)]) [0] rfl
          have hDc := hD.sub (ws' := [(h0, .inr (6, [.ref tp, .ref dr, .int y_561, .int y_562, .int q_token, .int q_start, .int q_stop])), (tp, .inr (10, [.ref bt, .int b_length])), (bt, .inl (kbt, 1600, .inl fbt))]) [0, 1, 2] (by decide) rfl
          have hFc := va_free (wc := [(h0, .inr (6, [.ref tp, .ref dr, .int y_561, .int y_562, .int q_token, .int q_start, .int q_stop])), (tp, .inr (10, [.ref bt, .int b_length])), (bt, .inl (kbt, 1600, .inl fbt))]) hD hS hA [0, 1, 2] rfl
          refine va_callv (va_runV (As := []) (rest := []) ⟨hx, hb, hml, hown, hts⟩ (sX6_step l dC dI H.size h0 tp bt dr y_561 y_562 q_token q_start q_stop b_length kbt fbt (gi_w g_563 (by decide)) gq_start gq_stop gb_length) (cwV 0 hts (gz_gV mGA_162 mGA_163 mGA_164 mGA_9 mGA_165 goodGA) rfl rfl rfl (by decide +kernel) ⟨Nat.le_of_ble_eq_true rfl, Nat.le_of_ble_eq_true rfl⟩) ⟨fun a U g mk q => by obtain ⟨q0, q1, qP, qK, qD, qZ⟩ := q; exact ⟨q0, q1, qP, va_K.moved (u := U) (U := U.calling g mk a) (Vm.Alike.refl U.vm) qK, qD, nzA_same (u := U) (U := U.calling g mk a) rfl qZ⟩, va_recv hKc hPc (ci := 6) (q0 := 0) rfl rfl, fun U hU hW => ⟨rfl, by rw [hU], by rw [hU]; exact hPc, va_K.moved hW.alike hKc, hDc.weaken (fun _ _ _ _ => trivial), nzA_warm hW hz⟩⟩ rfl rfl hl.1 rfl (lv_room (Nat.le_of_ble_eq_true rfl)) dX6_passName_79 ⟨Nat.zero_le _, Nat.zero_le _⟩) hS (fun q _ h => hFc q h) hFc (fun u t H1 locs ht hvm hw hB hz1 hk1 hS => ?_)
          obtain ⟨y_565, y_566, y_567, gy_566, gy_567, hE, hP1, hD1⟩ := hB
          rw [ht] at hP1
          obtain ⟨hP, hD⟩ := va_join (wr := []) (w1 := [(h0, .inr (6, [.ref tp, .ref dr, .int y_561, .int y_562, .int y_565, .int y_566, .int y_567])), (tp, .inr (10, [.ref bt, .int b_length])), (bt, .inl (kbt, 1600, .inl fbt))]) hP hD [0, 1, 2] [] rfl rfl (by decide) (by decide) hk1 hFc hP1 hD1
          have hP := hP.sub (ws' := [(h0, .inr (6, [.ref tp, .ref dr, .int y_561, .int y_562, .int y_565, .int y_566, .int y_567])), (tp, .inr (10, [.ref bt, .int b_length])), (bt, .inl (kbt, 1600, .inl fbt))]) [0, 1, 2] rfl
          have hD := hD.sub (ws' := [(h0, .inr (6, [.ref tp, .ref dr, .int y_561, .int y_562, .int y_565, .int y_566, .int y_567])), (tp, .inr (10, [.ref bt, .int b_length])), (bt, .inl (kbt, 1600, .inl fbt))]) [0, 1, 2] (by decide) rfl
          have hF := gf_call (a := (y_565, y_566, y_567)) hE hF
          generalize H1 = H at hP hS ⊢
          refine lv_iload_n hx hb dX6_passName_82 rfl (lv_at hl 0 rfl) ?_
          exact W.iret (v := r_542) hx hb hr (fun t ht hW => ⟨⟨r_542, r_542, rfl, ⟨rfl, (gi_any r_542)⟩, y_561, y_562, y_565, y_566, y_567, (gi_w g_563 (by decide)), gy_566, gy_567, (show q_faultKind.toInt ≤ y_561.toInt from by have qgy_561 := g_563.1; have rgy_561 := g_563.2; have qgy_539 := g_541.1; have rgy_539 := g_541.2; have qgy_474 := g_477.1; have rgy_474 := g_477.2; have qgx_478 := g_537.1; have rgx_478 := g_537.2; have igx_478 : x_478.toInt = q_stop.toInt - q_start.toInt := (by have h9 := gi_subI ex_478 (by have h1 := gq_stop.1; have h2 := gq_start.1; have h3 := gq_stop.2; have h4 := gq_start.2; omega) (by have h1 := gq_stop.1; have h2 := gq_start.1; have h3 := gq_stop.2; have h4 := gq_start.2; omega); exact h9); have qgq_start := gq_start.1; have rgq_start := gq_start.2; have qgq_stop := gq_stop.1; have rgq_stop := gq_stop.2; have qgr_543 := g_546.1; have rgr_543 := g_546.2; have qgq_faultKind := gq_faultKind.1; have rgq_faultKind := gq_faultKind.2; have qgp1 := g_559.1; have rgp1 := g_559.2; have qge_placeCount := ge_placeCount.1; have rge_placeCount := ge_placeCount.2; omega), (show (y_561.toInt ≠ 0 ∨ p1.toInt = 0 ∨ pnF ep_name e_placeCount r_542 ≠ -1) from by have qgy_561 := g_563.1; have rgy_561 := g_563.2; have qgy_539 := g_541.1; have rgy_539 := g_541.2; have qgy_474 := g_477.1; have rgy_474 := g_477.2; have qgx_478 := g_537.1; have rgx_478 := g_537.2; have igx_478 : x_478.toInt = q_stop.toInt - q_start.toInt := (by have h9 := gi_subI ex_478 (by have h1 := gq_stop.1; have h2 := gq_start.1; have h3 := gq_stop.2; have h4 := gq_start.2; omega) (by have h1 := gq_stop.1; have h2 := gq_start.1; have h3 := gq_stop.2; have h4 := gq_start.2; omega); exact h9); have qgq_start := gq_start.1; have rgq_start := gq_start.2; have qgq_stop := gq_stop.1; have rgq_stop := gq_stop.2; have qgr_543 := g_546.1; have rgr_543 := g_546.2; have qgq_faultKind := gq_faultKind.1; have rgq_faultKind := gq_faultKind.2; have qgp1 := g_559.1; have rgp1 := g_559.2; have qge_placeCount := ge_placeCount.1; have rge_placeCount := ge_placeCount.2; omega), hF.trans hR9.symm, by rw [ht]; exact hP, hD⟩, hS.F ht⟩) hS.2.2 dX6_passName_83
      · have hF := gf_neg c_544 hF
        have hc_568 : r_543.toInt ≠ (-1) := fun h9 => c_544 (Int32.toInt_inj.mp (by rw [show ((-1) : Int32).toInt = (-1) from by decide]; exact h9))
        have g_569 : gi r_543 0 5 := gi_ne_lo c_544 gr_543 (gi_c (-1) (-1) (by decide)) (by decide)
        refine lv_iconst (v := 1) hx hb dX6_passName_60 (by decide) ?_
        refine lv_goto (tgt := 65) hx hb dX6_passName_61 (by decide) ?_
        refine lv_iload_n hx hb dX6_passName_65 rfl (lv_at hl 2 rfl) ?_
        refine lv_icmp_ne (tgt := 73) hx hb dX6_passName_66 (by decide) (fun c_570 => ?_) (fun c_570 => ?_)
        · have hF := gf_neg c_570 hF
          have hc_571 : 1 ≠ p1.toInt := fun h9 => c_570 (Int32.toInt_inj.mp (by rw [show (1 : Int32).toInt = 1 from by decide]; exact h9))
          refine lv_iconst (v := 0) hx hb dX6_passName_73 (by decide) ?_
          refine lv_iconst (v := 2) hx hb dX6_passName_74 (by decide) ?_
          have hPc := hP.sub (ws' := [(h0, .inr (6, [.ref tp, .ref dr, .int y_539, .int y_540, .int q_token, .int q_start, .int q_stop]))]) [0] rfl
          have hKc := hK.sub (tys' := []) [] rfl
          have hDc := hD.sub (ws' := [(h0, .inr (6, [.ref tp, .ref dr, .int y_539, .int y_540, .int q_token, .int q_start, .int q_stop]))]) [0] (by decide) rfl
          have hFc := va_free (wc := [(h0, .inr (6, [.ref tp, .ref dr, .int y_539, .int y_540, .int q_token, .int q_start, .int q_stop]))]) hD hS hA [0] rfl
          refine va_callv (va_runV (As := [.int 0, .int 2]) (rest := []) ⟨hx, hb, hml, hown, hts⟩ (sX6_expect l dC dI H.size h0 tp dr y_539 y_540 q_token q_start q_stop 0 2 (gi_w g_541 (by decide)) gq_start gq_stop (gi_w (gi_c 0 0 (by decide)) (by decide)) (gi_w (gi_c 2 2 (by decide)) (by decide))) (cwV 2 hts (gz_gV mGA_250 mGA_251 mGA_252 mGA_9 mGA_253 goodGA) rfl rfl rfl (by decide +kernel) ⟨Nat.le_of_ble_eq_true rfl, Nat.le_of_ble_eq_true rfl⟩) ⟨fun a U g mk q => by obtain ⟨q0, q1, qP, qK, qD, qZ⟩ := q; exact ⟨q0, q1, qP, va_K.moved (u := U) (U := U.calling g mk a) (Vm.Alike.refl U.vm) qK, qD, nzA_same (u := U) (U := U.calling g mk a) rfl qZ⟩, va_recv hKc hPc (ci := 6) (q0 := 0) rfl rfl, fun U hU hW => ⟨rfl, by rw [hU], by rw [hU]; exact hPc, va_K.moved hW.alike hKc, hDc.weaken (fun _ _ _ _ => trivial), nzA_warm hW hz⟩⟩ rfl rfl hl.1 rfl (lv_room (Nat.le_of_ble_eq_true rfl)) dX6_passName_75 ⟨Nat.zero_le _, Nat.zero_le _⟩) hS (fun q _ h => hFc q h) hFc (fun u t H1 locs ht hvm hw hB hz1 hk1 hS => ?_)
          obtain ⟨y_573, y_574, gy_573, hpr0_r_572, hpr1_r_572, hE, hP1, hD1⟩ := hB
          rw [ht] at hP1
          obtain ⟨hP, hD⟩ := va_join (wr := [(tp, .inr (10, [.ref bt, .int b_length])), (bt, .inl (kbt, 1600, .inl fbt))]) (w1 := [(h0, .inr (6, [.ref tp, .ref dr, .int y_573, .int y_574, .int q_token, .int q_start, .int q_stop]))]) hP hD [0] [1, 2] rfl rfl (by decide) (by decide) hk1 hFc hP1 hD1
          have hpr0_r_572 : y_539.toInt ≤ y_573.toInt := hpr0_r_572
          have g_575 : gi y_573 1 3 := gi_relL (show y_539.toInt ≤ y_573.toInt from by omega) g_541 gy_573
          have hpr1_r_572 : Hid (((0 : Int) = 1 ∨ 1 ≤ y_573.toInt)) := by have h9 : ((0 : Int32).toInt = 1 ∨ 1 ≤ y_573.toInt) := hpr1_r_572; rw [show (0 : Int32).toInt = 0 from by decide] at h9; exact h9
          have hf_576 : 1 ≤ y_573.toInt := Hid.resL hpr1_r_572 (by omega)
          have hP := hP.sub (ws' := [(h0, .inr (6, [.ref tp, .ref dr, .int y_573, .int y_574, .int q_token, .int q_start, .int q_stop])), (tp, .inr (10, [.ref bt, .int b_length])), (bt, .inl (kbt, 1600, .inl fbt))]) [2, 0, 1] rfl
          have hD := hD.sub (ws' := [(h0, .inr (6, [.ref tp, .ref dr, .int y_573, .int y_574, .int q_token, .int q_start, .int q_stop])), (tp, .inr (10, [.ref bt, .int b_length])), (bt, .inl (kbt, 1600, .inl fbt))]) [2, 0, 1] (by decide) rfl
          have hF := gf_call (a := (y_573, y_574)) hE hF
          generalize H1 = H at hP hS ⊢
          refine lv_aload_n hx hb dX6_passName_78 rfl (lv_at hl 1 rfl) ?_
          have hPc := hP.sub (ws' := [(h0, .inr (6, [.ref tp, .ref dr, .int y_573, .int y_574, .int q_token, .int q_start, .int q_stop])), (tp, .inr (10, [.ref bt, .int b_length])), (bt, .inl (kbt, 1600, .inl fbt))]) [0, 1, 2] rfl
          have hKc := hK.sub (tys' := [(kbt, .byte)]) [0] rfl
          have hDc := hD.sub (ws' := [(h0, .inr (6, [.ref tp, .ref dr, .int y_573, .int y_574, .int q_token, .int q_start, .int q_stop])), (tp, .inr (10, [.ref bt, .int b_length])), (bt, .inl (kbt, 1600, .inl fbt))]) [0, 1, 2] (by decide) rfl
          have hFc := va_free (wc := [(h0, .inr (6, [.ref tp, .ref dr, .int y_573, .int y_574, .int q_token, .int q_start, .int q_stop])), (tp, .inr (10, [.ref bt, .int b_length])), (bt, .inl (kbt, 1600, .inl fbt))]) hD hS hA [0, 1, 2] rfl
          refine va_callv (va_runV (As := []) (rest := []) ⟨hx, hb, hml, hown, hts⟩ (sX6_step l dC dI H.size h0 tp bt dr y_573 y_574 q_token q_start q_stop b_length kbt fbt (gi_w g_575 (by decide)) gq_start gq_stop gb_length) (cwV 0 hts (gz_gV mGA_162 mGA_163 mGA_164 mGA_9 mGA_165 goodGA) rfl rfl rfl (by decide +kernel) ⟨Nat.le_of_ble_eq_true rfl, Nat.le_of_ble_eq_true rfl⟩) ⟨fun a U g mk q => by obtain ⟨q0, q1, qP, qK, qD, qZ⟩ := q; exact ⟨q0, q1, qP, va_K.moved (u := U) (U := U.calling g mk a) (Vm.Alike.refl U.vm) qK, qD, nzA_same (u := U) (U := U.calling g mk a) rfl qZ⟩, va_recv hKc hPc (ci := 6) (q0 := 0) rfl rfl, fun U hU hW => ⟨rfl, by rw [hU], by rw [hU]; exact hPc, va_K.moved hW.alike hKc, hDc.weaken (fun _ _ _ _ => trivial), nzA_warm hW hz⟩⟩ rfl rfl hl.1 rfl (lv_room (Nat.le_of_ble_eq_true rfl)) dX6_passName_79 ⟨Nat.zero_le _, Nat.zero_le _⟩) hS (fun q _ h => hFc q h) hFc (fun u t H1 locs ht hvm hw hB hz1 hk1 hS => ?_)
          obtain ⟨y_578, y_579, y_580, gy_579, gy_580, hE, hP1, hD1⟩ := hB
          rw [ht] at hP1
          obtain ⟨hP, hD⟩ := va_join (wr := []) (w1 := [(h0, .inr (6, [.ref tp, .ref dr, .int y_573, .int y_574, .int y_578, .int y_579, .int y_580])), (tp, .inr (10, [.ref bt, .int b_length])), (bt, .inl (kbt, 1600, .inl fbt))]) hP hD [0, 1, 2] [] rfl rfl (by decide) (by decide) hk1 hFc hP1 hD1
          have hP := hP.sub (ws' := [(h0, .inr (6, [.ref tp, .ref dr, .int y_573, .int y_574, .int y_578, .int y_579, .int y_580])), (tp, .inr (10, [.ref bt, .int b_length])), (bt, .inl (kbt, 1600, .inl fbt))]) [0, 1, 2] rfl
          have hD := hD.sub (ws' := [(h0, .inr (6, [.ref tp, .ref dr, .int y_573, .int y_574, .int y_578, .int y_579, .int y_580])), (tp, .inr (10, [.ref bt, .int b_length])), (bt, .inl (kbt, 1600, .inl fbt))]) [0, 1, 2] (by decide) rfl
          have hF := gf_call (a := (y_578, y_579, y_580)) hE hF
          generalize H1 = H at hP hS ⊢
          refine lv_iload_n hx hb dX6_passName_82 rfl (lv_at hl 0 rfl) ?_
          exact W.iret (v := r_542) hx hb hr (fun t ht hW => ⟨⟨r_542, r_542, rfl, ⟨rfl, (gi_any r_542)⟩, y_573, y_574, y_578, y_579, y_580, (gi_w g_575 (by decide)), gy_579, gy_580, (show q_faultKind.toInt ≤ y_573.toInt from by have qgy_573 := g_575.1; have rgy_573 := g_575.2; have qgy_539 := g_541.1; have rgy_539 := g_541.2; have qgy_474 := g_477.1; have rgy_474 := g_477.2; have qgx_478 := g_537.1; have rgx_478 := g_537.2; have igx_478 : x_478.toInt = q_stop.toInt - q_start.toInt := (by have h9 := gi_subI ex_478 (by have h1 := gq_stop.1; have h2 := gq_start.1; have h3 := gq_stop.2; have h4 := gq_start.2; omega) (by have h1 := gq_stop.1; have h2 := gq_start.1; have h3 := gq_stop.2; have h4 := gq_start.2; omega); exact h9); have qgq_start := gq_start.1; have rgq_start := gq_start.2; have qgq_stop := gq_stop.1; have rgq_stop := gq_stop.2; have qgr_543 := g_569.1; have rgr_543 := g_569.2; have qgq_faultKind := gq_faultKind.1; have rgq_faultKind := gq_faultKind.2; have qgp1 := gp1.1; have rgp1 := gp1.2; have qge_placeCount := ge_placeCount.1; have rge_placeCount := ge_placeCount.2; omega), (show (y_573.toInt ≠ 0 ∨ p1.toInt = 0 ∨ pnF ep_name e_placeCount r_542 ≠ -1) from by have qgy_573 := g_575.1; have rgy_573 := g_575.2; have qgy_539 := g_541.1; have rgy_539 := g_541.2; have qgy_474 := g_477.1; have rgy_474 := g_477.2; have qgx_478 := g_537.1; have rgx_478 := g_537.2; have igx_478 : x_478.toInt = q_stop.toInt - q_start.toInt := (by have h9 := gi_subI ex_478 (by have h1 := gq_stop.1; have h2 := gq_start.1; have h3 := gq_stop.2; have h4 := gq_start.2; omega) (by have h1 := gq_stop.1; have h2 := gq_start.1; have h3 := gq_stop.2; have h4 := gq_start.2; omega); exact h9); have qgq_start := gq_start.1; have rgq_start := gq_start.2; have qgq_stop := gq_stop.1; have rgq_stop := gq_stop.2; have qgr_543 := g_569.1; have rgr_543 := g_569.2; have qgq_faultKind := gq_faultKind.1; have rgq_faultKind := gq_faultKind.2; have qgp1 := gp1.1; have rgp1 := gp1.2; have qge_placeCount := ge_placeCount.1; have rge_placeCount := ge_placeCount.2; omega), hF.trans hR9.symm, by rw [ht]; exact hP, hD⟩, hS.F ht⟩) hS.2.2 dX6_passName_83
        · have hF := gf_pos c_570 hF
          have hc_581 : 1 = p1.toInt := by have h9 := congrArg Int32.toInt c_570; rw [show (1 : Int32).toInt = 1 from by decide] at h9; exact h9
          have g_582 : gi p1 1 1 := gi_eq c_570.symm (gi_c 1 1 (by decide))
          refine lv_iconst (v := 1) hx hb dX6_passName_69 (by decide) ?_
          refine lv_goto (tgt := 74) hx hb dX6_passName_70 (by decide) ?_
          refine lv_iconst (v := 2) hx hb dX6_passName_74 (by decide) ?_
          have hPc := hP.sub (ws' := [(h0, .inr (6, [.ref tp, .ref dr, .int y_539, .int y_540, .int q_token, .int q_start, .int q_stop]))]) [0] rfl
          have hKc := hK.sub (tys' := []) [] rfl
          have hDc := hD.sub (ws' := [(h0, .inr (6, [.ref tp, .ref dr, .int y_539, .int y_540, .int q_token, .int q_start, .int q_stop]))]) [0] (by decide) rfl
          have hFc := va_free (wc := [(h0, .inr (6, [.ref tp, .ref dr, .int y_539, .int y_540, .int q_token, .int q_start, .int q_stop]))]) hD hS hA [0] rfl
          refine va_callv (va_runV (As := [.int 1, .int 2]) (rest := []) ⟨hx, hb, hml, hown, hts⟩ (sX6_expect l dC dI H.size h0 tp dr y_539 y_540 q_token q_start q_stop 1 2 (gi_w g_541 (by decide)) gq_start gq_stop (gi_w (gi_c 1 1 (by decide)) (by decide)) (gi_w (gi_c 2 2 (by decide)) (by decide))) (cwV 2 hts (gz_gV mGA_250 mGA_251 mGA_252 mGA_9 mGA_253 goodGA) rfl rfl rfl (by decide +kernel) ⟨Nat.le_of_ble_eq_true rfl, Nat.le_of_ble_eq_true rfl⟩) ⟨fun a U g mk q => by obtain ⟨q0, q1, qP, qK, qD, qZ⟩ := q; exact ⟨q0, q1, qP, va_K.moved (u := U) (U := U.calling g mk a) (Vm.Alike.refl U.vm) qK, qD, nzA_same (u := U) (U := U.calling g mk a) rfl qZ⟩, va_recv hKc hPc (ci := 6) (q0 := 0) rfl rfl, fun U hU hW => ⟨rfl, by rw [hU], by rw [hU]; exact hPc, va_K.moved hW.alike hKc, hDc.weaken (fun _ _ _ _ => trivial), nzA_warm hW hz⟩⟩ rfl rfl hl.1 rfl (lv_room (Nat.le_of_ble_eq_true rfl)) dX6_passName_75 ⟨Nat.zero_le _, Nat.zero_le _⟩) hS (fun q _ h => hFc q h) hFc (fun u t H1 locs ht hvm hw hB hz1 hk1 hS => ?_)
          obtain ⟨y_584, y_585, gy_584, hpr0_r_583, hpr1_r_583, hE, hP1, hD1⟩ := hB
          rw [ht] at hP1
          obtain ⟨hP, hD⟩ := va_join (wr := [(tp, .inr (10, [.ref bt, .int b_length])), (bt, .inl (kbt, 1600, .inl fbt))]) (w1 := [(h0, .inr (6, [.ref tp, .ref dr, .int y_584, .int y_585, .int q_token, .int q_start, .int q_stop]))]) hP hD [0] [1, 2] rfl rfl (by decide) (by decide) hk1 hFc hP1 hD1
          have hpr0_r_583 : y_539.toInt ≤ y_584.toInt := hpr0_r_583
          have g_586 : gi y_584 1 3 := gi_relL (show y_539.toInt ≤ y_584.toInt from by omega) g_541 gy_584
          have hpr1_r_583 : Hid (((1 : Int) = 1 ∨ 1 ≤ y_584.toInt)) := by have h9 : ((1 : Int32).toInt = 1 ∨ 1 ≤ y_584.toInt) := hpr1_r_583; rw [show (1 : Int32).toInt = 1 from by decide] at h9; exact h9
          have hP := hP.sub (ws' := [(h0, .inr (6, [.ref tp, .ref dr, .int y_584, .int y_585, .int q_token, .int q_start, .int q_stop])), (tp, .inr (10, [.ref bt, .int b_length])), (bt, .inl (kbt, 1600, .inl fbt))]) [2, 0, 1] rfl
          have hD := hD.sub (ws' := [(h0, .inr (6, [.ref tp, .ref dr, .int y_584, .int y_585, .int q_token, .int q_start, .int q_stop])), (tp, .inr (10, [.ref bt, .int b_length])), (bt, .inl (kbt, 1600, .inl fbt))]) [2, 0, 1] (by decide) rfl
          have hF := gf_call (a := (y_584, y_585)) hE hF
          generalize H1 = H at hP hS ⊢
          refine lv_aload_n hx hb dX6_passName_78 rfl (lv_at hl 1 rfl) ?_
          have hPc := hP.sub (ws' := [(h0, .inr (6, [.ref tp, .ref dr, .int y_584, .int y_585, .int q_token, .int q_start, .int q_stop])), (tp, .inr (10, [.ref bt, .int b_length])), (bt, .inl (kbt, 1600, .inl fbt))]) [0, 1, 2] rfl
          have hKc := hK.sub (tys' := [(kbt, .byte)]) [0] rfl
          have hDc := hD.sub (ws' := [(h0, .inr (6, [.ref tp, .ref dr, .int y_584, .int y_585, .int q_token, .int q_start, .int q_stop])), (tp, .inr (10, [.ref bt, .int b_length])), (bt, .inl (kbt, 1600, .inl fbt))]) [0, 1, 2] (by decide) rfl
          have hFc := va_free (wc := [(h0, .inr (6, [.ref tp, .ref dr, .int y_584, .int y_585, .int q_token, .int q_start, .int q_stop])), (tp, .inr (10, [.ref bt, .int b_length])), (bt, .inl (kbt, 1600, .inl fbt))]) hD hS hA [0, 1, 2] rfl
          refine va_callv (va_runV (As := []) (rest := []) ⟨hx, hb, hml, hown, hts⟩ (sX6_step l dC dI H.size h0 tp bt dr y_584 y_585 q_token q_start q_stop b_length kbt fbt (gi_w g_586 (by decide)) gq_start gq_stop gb_length) (cwV 0 hts (gz_gV mGA_162 mGA_163 mGA_164 mGA_9 mGA_165 goodGA) rfl rfl rfl (by decide +kernel) ⟨Nat.le_of_ble_eq_true rfl, Nat.le_of_ble_eq_true rfl⟩) ⟨fun a U g mk q => by obtain ⟨q0, q1, qP, qK, qD, qZ⟩ := q; exact ⟨q0, q1, qP, va_K.moved (u := U) (U := U.calling g mk a) (Vm.Alike.refl U.vm) qK, qD, nzA_same (u := U) (U := U.calling g mk a) rfl qZ⟩, va_recv hKc hPc (ci := 6) (q0 := 0) rfl rfl, fun U hU hW => ⟨rfl, by rw [hU], by rw [hU]; exact hPc, va_K.moved hW.alike hKc, hDc.weaken (fun _ _ _ _ => trivial), nzA_warm hW hz⟩⟩ rfl rfl hl.1 rfl (lv_room (Nat.le_of_ble_eq_true rfl)) dX6_passName_79 ⟨Nat.zero_le _, Nat.zero_le _⟩) hS (fun q _ h => hFc q h) hFc (fun u t H1 locs ht hvm hw hB hz1 hk1 hS => ?_)
          obtain ⟨y_588, y_589, y_590, gy_589, gy_590, hE, hP1, hD1⟩ := hB
          rw [ht] at hP1
          obtain ⟨hP, hD⟩ := va_join (wr := []) (w1 := [(h0, .inr (6, [.ref tp, .ref dr, .int y_584, .int y_585, .int y_588, .int y_589, .int y_590])), (tp, .inr (10, [.ref bt, .int b_length])), (bt, .inl (kbt, 1600, .inl fbt))]) hP hD [0, 1, 2] [] rfl rfl (by decide) (by decide) hk1 hFc hP1 hD1
          have hP := hP.sub (ws' := [(h0, .inr (6, [.ref tp, .ref dr, .int y_584, .int y_585, .int y_588, .int y_589, .int y_590])), (tp, .inr (10, [.ref bt, .int b_length])), (bt, .inl (kbt, 1600, .inl fbt))]) [0, 1, 2] rfl
          have hD := hD.sub (ws' := [(h0, .inr (6, [.ref tp, .ref dr, .int y_584, .int y_585, .int y_588, .int y_589, .int y_590])), (tp, .inr (10, [.ref bt, .int b_length])), (bt, .inl (kbt, 1600, .inl fbt))]) [0, 1, 2] (by decide) rfl
          have hF := gf_call (a := (y_588, y_589, y_590)) hE hF
          generalize H1 = H at hP hS ⊢
          refine lv_iload_n hx hb dX6_passName_82 rfl (lv_at hl 0 rfl) ?_
          exact W.iret (v := r_542) hx hb hr (fun t ht hW => ⟨⟨r_542, r_542, rfl, ⟨rfl, (gi_any r_542)⟩, y_584, y_585, y_588, y_589, y_590, (gi_w g_586 (by decide)), gy_589, gy_590, (show q_faultKind.toInt ≤ y_584.toInt from by have qgy_584 := g_586.1; have rgy_584 := g_586.2; have qgy_539 := g_541.1; have rgy_539 := g_541.2; have qgy_474 := g_477.1; have rgy_474 := g_477.2; have qgx_478 := g_537.1; have rgx_478 := g_537.2; have igx_478 : x_478.toInt = q_stop.toInt - q_start.toInt := (by have h9 := gi_subI ex_478 (by have h1 := gq_stop.1; have h2 := gq_start.1; have h3 := gq_stop.2; have h4 := gq_start.2; omega) (by have h1 := gq_stop.1; have h2 := gq_start.1; have h3 := gq_stop.2; have h4 := gq_start.2; omega); exact h9); have qgq_start := gq_start.1; have rgq_start := gq_start.2; have qgq_stop := gq_stop.1; have rgq_stop := gq_stop.2; have qgr_543 := g_569.1; have rgr_543 := g_569.2; have qgq_faultKind := gq_faultKind.1; have rgq_faultKind := gq_faultKind.2; have qgp1 := g_582.1; have rgp1 := g_582.2; have qge_placeCount := ge_placeCount.1; have rge_placeCount := ge_placeCount.2; omega), (show (y_584.toInt ≠ 0 ∨ p1.toInt = 0 ∨ pnF ep_name e_placeCount r_542 ≠ -1) from by have qgy_584 := g_586.1; have rgy_584 := g_586.2; have qgy_539 := g_541.1; have rgy_539 := g_541.2; have qgy_474 := g_477.1; have rgy_474 := g_477.2; have qgx_478 := g_537.1; have rgx_478 := g_537.2; have igx_478 : x_478.toInt = q_stop.toInt - q_start.toInt := (by have h9 := gi_subI ex_478 (by have h1 := gq_stop.1; have h2 := gq_start.1; have h3 := gq_stop.2; have h4 := gq_start.2; omega) (by have h1 := gq_stop.1; have h2 := gq_start.1; have h3 := gq_stop.2; have h4 := gq_start.2; omega); exact h9); have qgq_start := gq_start.1; have rgq_start := gq_start.2; have qgq_stop := gq_stop.1; have rgq_stop := gq_stop.2; have qgr_543 := g_569.1; have rgr_543 := g_569.2; have qgq_faultKind := gq_faultKind.1; have rgq_faultKind := gq_faultKind.2; have qgp1 := g_582.1; have rgp1 := g_582.2; have qge_placeCount := ge_placeCount.1; have rge_placeCount := ge_placeCount.2; omega), hF.trans hR9.symm, by rw [ht]; exact hP, hD⟩, hS.F ht⟩) hS.2.2 dX6_passName_83
  · have hF := gf_pos c_471 hF
    have hc_591 : q_token.toInt = 2 := by have h9 := congrArg Int32.toInt c_471; rw [show (2 : Int32).toInt = 2 from by decide] at h9; exact h9
    have g_592 : gi q_token 2 2 := gi_eq c_471 (gi_c 2 2 (by decide))
    refine lv_iconst (v := 1) hx hb dX6_passName_9 (by decide) ?_
    refine lv_goto (tgt := 14) hx hb dX6_passName_10 (by decide) ?_
    refine lv_iconst (v := 1) hx hb dX6_passName_14 (by decide) ?_
    have hPc := hP.sub (ws' := [(h0, .inr (6, [.ref tp, .ref dr, .int q_faultKind, .int q_faultPlace, .int q_token, .int q_start, .int q_stop]))]) [0] rfl
    have hKc := hK.sub (tys' := []) [] rfl
    have hDc := hD.sub (ws' := [(h0, .inr (6, [.ref tp, .ref dr, .int q_faultKind, .int q_faultPlace, .int q_token, .int q_start, .int q_stop]))]) [0] (by decide) rfl
    have hFc := va_free (wc := [(h0, .inr (6, [.ref tp, .ref dr, .int q_faultKind, .int q_faultPlace, .int q_token, .int q_start, .int q_stop]))]) hD hS hA [0] rfl
    refine va_callv (va_runV (As := [.int 1, .int 1]) (rest := []) ⟨hx, hb, hml, hown, hts⟩ (sX6_expect l dC dI s.heap.size h0 tp dr q_faultKind q_faultPlace q_token q_start q_stop 1 1 gq_faultKind gq_start gq_stop (gi_w (gi_c 1 1 (by decide)) (by decide)) (gi_w (gi_c 1 1 (by decide)) (by decide))) (cwV 2 hts (gz_gV mGA_250 mGA_251 mGA_252 mGA_9 mGA_253 goodGA) rfl rfl rfl (by decide +kernel) ⟨Nat.le_of_ble_eq_true rfl, Nat.le_of_ble_eq_true rfl⟩) ⟨fun a U g mk q => by obtain ⟨q0, q1, qP, qK, qD, qZ⟩ := q; exact ⟨q0, q1, qP, va_K.moved (u := U) (U := U.calling g mk a) (Vm.Alike.refl U.vm) qK, qD, nzA_same (u := U) (U := U.calling g mk a) rfl qZ⟩, va_recv hKc hPc (ci := 6) (q0 := 0) rfl rfl, fun U hU hW => ⟨rfl, by rw [hU], by rw [hU]; exact hPc, va_K.moved hW.alike hKc, hDc.weaken (fun _ _ _ _ => trivial), nzA_warm hW hz⟩⟩ rfl rfl hl.1 rfl (lv_room (Nat.le_of_ble_eq_true rfl)) dX6_passName_15 ⟨Nat.zero_le _, Nat.zero_le _⟩) hS (fun q _ h => hFc q h) hFc (fun u t H1 locs ht hvm hw hB hz1 hk1 hS => ?_)
    obtain ⟨y_594, y_595, gy_594, hpr0_r_593, hpr1_r_593, hE, hP1, hD1⟩ := hB
    rw [ht] at hP1
    obtain ⟨hP, hD⟩ := va_join (wr := [(tp, .inr (10, [.ref bt, .int b_length])), (bt, .inl (kbt, 1600, .inl fbt))]) (w1 := [(h0, .inr (6, [.ref tp, .ref dr, .int y_594, .int y_595, .int q_token, .int q_start, .int q_stop]))]) hP hD [0] [1, 2] rfl rfl (by decide) (by decide) hk1 hFc hP1 hD1
    have hpr0_r_593 : q_faultKind.toInt ≤ y_594.toInt := hpr0_r_593
    have hpr1_r_593 : Hid (((1 : Int) = 1 ∨ 1 ≤ y_594.toInt)) := by have h9 : ((1 : Int32).toInt = 1 ∨ 1 ≤ y_594.toInt) := hpr1_r_593; rw [show (1 : Int32).toInt = 1 from by decide] at h9; exact h9
    have hP := hP.sub (ws' := [(h0, .inr (6, [.ref tp, .ref dr, .int y_594, .int y_595, .int q_token, .int q_start, .int q_stop])), (tp, .inr (10, [.ref bt, .int b_length])), (bt, .inl (kbt, 1600, .inl fbt))]) [2, 0, 1] rfl
    have hD := hD.sub (ws' := [(h0, .inr (6, [.ref tp, .ref dr, .int y_594, .int y_595, .int q_token, .int q_start, .int q_stop])), (tp, .inr (10, [.ref bt, .int b_length])), (bt, .inl (kbt, 1600, .inl fbt))]) [2, 0, 1] (by decide) rfl
    have hF := gf_call (a := (y_594, y_595)) hE hF
    generalize H1 = H at hP hS ⊢
    refine lv_aload_n hx hb dX6_passName_18 rfl (lv_at hl 0 rfl) ?_
    refine lv_aload_n hx hb dX6_passName_19 rfl (lv_at hl 0 rfl) ?_
    refine va_get (D := (dC, dI)) (ci := 6) (v := .int q_stop) (C := RX6) (T := TX6) (N := 7) hx hb hts (fun w h => List.mem_cons_of_mem _ (jnGA_X6 w h)) hown hK hP 0 rfl rfl 6 (by decide) (hts _ (List.mem_cons_of_mem _ mGA_59)) (fun _ h9 => h9) rfl dX6_passName_20 ?_
    refine lv_aload_n hx hb dX6_passName_23 rfl (lv_at hl 0 rfl) ?_
    refine va_get (D := (dC, dI)) (ci := 6) (v := .int q_start) (C := RX6) (T := TX6) (N := 7) hx hb hts (fun w h => List.mem_cons_of_mem _ (jnGA_X6 w h)) hown hK hP 0 rfl rfl 5 (by decide) (hts _ (List.mem_cons_of_mem _ mGA_58)) (fun _ h9 => h9) rfl dX6_passName_24 ?_
    refine lv_isub hx hb dX6_passName_27 ?_
    refine lv_topi (fun x_596 ex_596 => ?_)
    have gx_596 : gi x_596 (-1600) 1600 := gi_sub ex_596 gq_stop gq_start (by decide)
    refine lv_bipush (v := 6) hx hb dX6_passName_28 (by decide) ?_
    refine lv_icmp_gt (tgt := 37) hx hb dX6_passName_30 (by decide) (fun c_597 => ?_) (fun c_597 => ?_)
    · have hF := gf_pos (by rw [ex_596] at c_597; exact c_597) hF
      have hc_598 : 6 < x_596.toInt := by have h9 := Int32.lt_iff_toInt_lt.mp c_597; rw [show (6 : Int32).toInt = 6 from by decide] at h9; exact h9
      have g_599 : gi x_596 7 1600 := gi_lt_r c_597 (gi_c 6 6 (by decide)) gx_596 (by decide)
      refine lv_iconst (v := 0) hx hb dX6_passName_37 (by decide) ?_
      refine lv_iconst (v := 2) hx hb dX6_passName_38 (by decide) ?_
      have hPc := hP.sub (ws' := [(h0, .inr (6, [.ref tp, .ref dr, .int y_594, .int y_595, .int q_token, .int q_start, .int q_stop]))]) [0] rfl
      have hKc := hK.sub (tys' := []) [] rfl
      have hDc := hD.sub (ws' := [(h0, .inr (6, [.ref tp, .ref dr, .int y_594, .int y_595, .int q_token, .int q_start, .int q_stop]))]) [0] (by decide) rfl
      have hFc := va_free (wc := [(h0, .inr (6, [.ref tp, .ref dr, .int y_594, .int y_595, .int q_token, .int q_start, .int q_stop]))]) hD hS hA [0] rfl
      refine va_callv (va_runV (As := [.int 0, .int 2]) (rest := []) ⟨hx, hb, hml, hown, hts⟩ (sX6_expect l dC dI H.size h0 tp dr y_594 y_595 q_token q_start q_stop 0 2 gy_594 gq_start gq_stop (gi_w (gi_c 0 0 (by decide)) (by decide)) (gi_w (gi_c 2 2 (by decide)) (by decide))) (cwV 2 hts (gz_gV mGA_250 mGA_251 mGA_252 mGA_9 mGA_253 goodGA) rfl rfl rfl (by decide +kernel) ⟨Nat.le_of_ble_eq_true rfl, Nat.le_of_ble_eq_true rfl⟩) ⟨fun a U g mk q => by obtain ⟨q0, q1, qP, qK, qD, qZ⟩ := q; exact ⟨q0, q1, qP, va_K.moved (u := U) (U := U.calling g mk a) (Vm.Alike.refl U.vm) qK, qD, nzA_same (u := U) (U := U.calling g mk a) rfl qZ⟩, va_recv hKc hPc (ci := 6) (q0 := 0) rfl rfl, fun U hU hW => ⟨rfl, by rw [hU], by rw [hU]; exact hPc, va_K.moved hW.alike hKc, hDc.weaken (fun _ _ _ _ => trivial), nzA_warm hW hz⟩⟩ rfl rfl hl.1 rfl (lv_room (Nat.le_of_ble_eq_true rfl)) dX6_passName_39 ⟨Nat.zero_le _, Nat.zero_le _⟩) hS (fun q _ h => hFc q h) hFc (fun u t H1 locs ht hvm hw hB hz1 hk1 hS => ?_)
      obtain ⟨y_601, y_602, gy_601, hpr0_r_600, hpr1_r_600, hE, hP1, hD1⟩ := hB
      rw [ht] at hP1
      obtain ⟨hP, hD⟩ := va_join (wr := [(tp, .inr (10, [.ref bt, .int b_length])), (bt, .inl (kbt, 1600, .inl fbt))]) (w1 := [(h0, .inr (6, [.ref tp, .ref dr, .int y_601, .int y_602, .int q_token, .int q_start, .int q_stop]))]) hP hD [0] [1, 2] rfl rfl (by decide) (by decide) hk1 hFc hP1 hD1
      have hpr0_r_600 : y_594.toInt ≤ y_601.toInt := hpr0_r_600
      have hpr1_r_600 : Hid (((0 : Int) = 1 ∨ 1 ≤ y_601.toInt)) := by have h9 : ((0 : Int32).toInt = 1 ∨ 1 ≤ y_601.toInt) := hpr1_r_600; rw [show (0 : Int32).toInt = 0 from by decide] at h9; exact h9
      have hf_603 : 1 ≤ y_601.toInt := Hid.resL hpr1_r_600 (by omega)
      have g_604 : gi y_601 1 3 := ⟨by omega, gy_601.2⟩
      have hP := hP.sub (ws' := [(h0, .inr (6, [.ref tp, .ref dr, .int y_601, .int y_602, .int q_token, .int q_start, .int q_stop])), (tp, .inr (10, [.ref bt, .int b_length])), (bt, .inl (kbt, 1600, .inl fbt))]) [2, 0, 1] rfl
      have hD := hD.sub (ws' := [(h0, .inr (6, [.ref tp, .ref dr, .int y_601, .int y_602, .int q_token, .int q_start, .int q_stop])), (tp, .inr (10, [.ref bt, .int b_length])), (bt, .inl (kbt, 1600, .inl fbt))]) [2, 0, 1] (by decide) rfl
      have hF := gf_call (a := (y_601, y_602)) hE hF
      generalize H1 = H at hP hS ⊢
      refine lv_aload_n hx hb dX6_passName_42 rfl (lv_at hl 0 rfl) ?_
      have hPc := hP.sub (ws' := [(h0, .inr (6, [.ref tp, .ref dr, .int y_601, .int y_602, .int q_token, .int q_start, .int q_stop])), (tp, .inr (10, [.ref bt, .int b_length])), (bt, .inl (kbt, 1600, .inl fbt))]) [0, 1, 2] rfl
      have hKc := hK.sub (tys' := [(kbt, .byte)]) [0] rfl
      refine va_calli (va_runV (As := []) (rest := []) ⟨hx, hb, hml, hown, hts⟩ (sX6_nameHere l dC dI h0 tp bt dr y_601 y_602 q_token q_start q_stop b_length kbt fbt (gi_w g_604 (by decide)) gq_start gq_stop gb_length) (cwV 0 hts (gz_gV mGA_294 mGA_295 mGA_296 mGA_9 mGA_297 goodGA) rfl rfl rfl (by decide +kernel) ⟨Nat.le_of_ble_eq_true rfl, Nat.le_of_ble_eq_true rfl⟩) ⟨fun a U g mk q => by obtain ⟨q0, qP, qK, qZ⟩ := q; exact ⟨q0, qP, va_K.moved (u := U) (U := U.calling g mk a) (Vm.Alike.refl U.vm) qK, nzA_same (u := U) (U := U.calling g mk a) rfl qZ⟩, va_recv hKc hPc (ci := 6) (q0 := 0) rfl rfl, fun U hU hW => ⟨rfl, by rw [hU]; exact hPc, va_K.moved hW.alike hKc, nzA_warm hW hz⟩⟩ rfl rfl hl.1 rfl (lv_room (Nat.le_of_ble_eq_true rfl)) dX6_passName_43 ⟨Nat.zero_le _, Nat.zero_le _⟩) hS (fun q _ h => h.elim) (fun q h => h.elim) (fun r_605 u t H1 locs ht hvm hw hB hz1 hk1 hS => ?_)
      obtain ⟨hw, hE⟩ := hw
      have hP := gz_keep hP hk1
      have hF := gf_call (a := r_605) hE hF
      generalize H1 = H at hP hS ⊢
      refine lv_istore_n (lv' := [(2, .int r_605), (0, .ref h0), (1, .int p1)]) hx hb dX6_passName_46 rfl hl (by decide) rfl (fun ls hl => ?_)
      refine lv_aload_n hx hb dX6_passName_47 rfl (lv_at hl 1 rfl) ?_
      refine lv_aload_n hx hb dX6_passName_48 rfl (lv_at hl 1 rfl) ?_
      refine va_get (D := (dC, dI)) (ci := 6) (v := .ref dr) (C := RX6) (T := TX6) (N := 7) hx hb hts (fun w h => List.mem_cons_of_mem _ (jnGA_X6 w h)) hown hK hP 0 rfl rfl 1 (by decide) (hts _ (List.mem_cons_of_mem _ mGA_54)) (fun _ h9 => h9) rfl dX6_passName_49 ?_
      refine lv_iload_n hx hb dX6_passName_52 rfl (lv_at hl 0 rfl) ?_
      have hPc : va_P (dC, dI) vwCl [(dr, .inr (0, [.int e_months, .int e_full, .int e_lean, .int e_lines, .int e_hasMoon, .int e_moonStart, .int e_moonStep, .int e_placeCount, .int e_reportCount, .int e_deedCount, .ref dpl, .ref dre, .ref dde])), (dpl, .inl (kdpl, 6, .inr (.inr (.inr (.inr (fun i => some (dpa i)))))))] H := (gz_cat ((gz_ro hR hRA hS).sub [0] rfl) ((gz_ro hR hRA hS).sub [1] rfl))
      have hKc := hK.sub (tys' := [(kdpl, .object RX5)]) [1] rfl
      refine va_calli (va_runV (As := [.int r_605]) (rest := [.ref h0]) ⟨hx, hb, hml, hown, hts⟩ (sX0_placeNamedF l dC dI dr dpl e_months e_full e_lean e_lines e_hasMoon e_moonStart e_moonStep e_placeCount e_reportCount e_deedCount dre dde kdpl dpa ep_name ep_trust r_605 ge_months ge_full ge_lean ge_hasMoon ge_placeCount ge_reportCount ge_deedCount) (cwV 1 hts (gz_gV mGA_298 mGA_299 mGA_300 mGA_13 mGA_301 goodGA) rfl rfl rfl (by decide +kernel) ⟨Nat.le_of_ble_eq_true rfl, Nat.le_of_ble_eq_true rfl⟩) ⟨fun a U g mk q => by obtain ⟨q0, qP, qK, qZ, qF0⟩ := q; exact ⟨q0, qP, va_K.moved (u := U) (U := U.calling g mk a) (Vm.Alike.refl U.vm) qK, nzA_same (u := U) (U := U.calling g mk a) rfl qZ, qF0⟩, va_recv hKc hPc (ci := 0) (q0 := 0) rfl rfl, fun U hU hW => ⟨rfl, by rw [hU]; exact hPc, va_K.moved hW.alike hKc, nzA_warm hW hz, by rw [hU]; exact gz_ro hF0 hFA0 hS⟩⟩ rfl rfl hl.1 rfl (lv_room (Nat.le_of_ble_eq_true rfl)) dX6_passName_53 ⟨Nat.zero_le _, Nat.zero_le _⟩) hS (fun q _ h => h.elim) (fun q h => h.elim) (fun r_606 u t H1 locs ht hvm hw hB hz1 hk1 hS => ?_)
      obtain ⟨hw, hE⟩ := hw
      have hP := gz_keep hP hk1
      have hF := gf_call (a := r_606) hE hF
      generalize H1 = H at hP hS ⊢
      have gr_606 : gi r_606 (-1) 5 := hw.1
      have hqr_606 := hw.2
      have hqr_606 : r_606.toInt = pnF ep_name e_placeCount r_605 := hqr_606
      clear hw
      refine lv_iconst (v := (-1)) hx hb dX6_passName_56 (by decide) ?_
      refine lv_icmp_eq (tgt := 64) hx hb dX6_passName_57 (by decide) (fun c_607 => ?_) (fun c_607 => ?_)
      · have hF := gf_pos c_607 hF
        have hc_608 : r_606.toInt = (-1) := by have h9 := congrArg Int32.toInt c_607; rw [show ((-1) : Int32).toInt = (-1) from by decide] at h9; exact h9
        have g_609 : gi r_606 (-1) (-1) := gi_eq c_607 (gi_c (-1) (-1) (by decide))
        refine lv_iconst (v := 0) hx hb dX6_passName_64 (by decide) ?_
        refine lv_iload_n hx hb dX6_passName_65 rfl (lv_at hl 2 rfl) ?_
        refine lv_icmp_ne (tgt := 73) hx hb dX6_passName_66 (by decide) (fun c_610 => ?_) (fun c_610 => ?_)
        · have hF := gf_neg c_610 hF
          have hc_611 : 0 ≠ p1.toInt := fun h9 => c_610 (Int32.toInt_inj.mp (by rw [show (0 : Int32).toInt = 0 from by decide]; exact h9))
          refine lv_iconst (v := 0) hx hb dX6_passName_73 (by decide) ?_
          refine lv_iconst (v := 2) hx hb dX6_passName_74 (by decide) ?_
          have hPc := hP.sub (ws' := [(h0, .inr (6, [.ref tp, .ref dr, .int y_601, .int y_602, .int q_token, .int q_start, .int q_stop]))]) [0] rfl
          have hKc := hK.sub (tys' := []) [] rfl
          have hDc := hD.sub (ws' := [(h0, .inr (6, [.ref tp, .ref dr, .int y_601, .int y_602, .int q_token, .int q_start, .int q_stop]))]) [0] (by decide) rfl
          have hFc := va_free (wc := [(h0, .inr (6, [.ref tp, .ref dr, .int y_601, .int y_602, .int q_token, .int q_start, .int q_stop]))]) hD hS hA [0] rfl
          refine va_callv (va_runV (As := [.int 0, .int 2]) (rest := []) ⟨hx, hb, hml, hown, hts⟩ (sX6_expect l dC dI H.size h0 tp dr y_601 y_602 q_token q_start q_stop 0 2 (gi_w g_604 (by decide)) gq_start gq_stop (gi_w (gi_c 0 0 (by decide)) (by decide)) (gi_w (gi_c 2 2 (by decide)) (by decide))) (cwV 2 hts (gz_gV mGA_250 mGA_251 mGA_252 mGA_9 mGA_253 goodGA) rfl rfl rfl (by decide +kernel) ⟨Nat.le_of_ble_eq_true rfl, Nat.le_of_ble_eq_true rfl⟩) ⟨fun a U g mk q => by obtain ⟨q0, q1, qP, qK, qD, qZ⟩ := q; exact ⟨q0, q1, qP, va_K.moved (u := U) (U := U.calling g mk a) (Vm.Alike.refl U.vm) qK, qD, nzA_same (u := U) (U := U.calling g mk a) rfl qZ⟩, va_recv hKc hPc (ci := 6) (q0 := 0) rfl rfl, fun U hU hW => ⟨rfl, by rw [hU], by rw [hU]; exact hPc, va_K.moved hW.alike hKc, hDc.weaken (fun _ _ _ _ => trivial), nzA_warm hW hz⟩⟩ rfl rfl hl.1 rfl (lv_room (Nat.le_of_ble_eq_true rfl)) dX6_passName_75 ⟨Nat.zero_le _, Nat.zero_le _⟩) hS (fun q _ h => hFc q h) hFc (fun u t H1 locs ht hvm hw hB hz1 hk1 hS => ?_)
          obtain ⟨y_613, y_614, gy_613, hpr0_r_612, hpr1_r_612, hE, hP1, hD1⟩ := hB
          rw [ht] at hP1
          obtain ⟨hP, hD⟩ := va_join (wr := [(tp, .inr (10, [.ref bt, .int b_length])), (bt, .inl (kbt, 1600, .inl fbt))]) (w1 := [(h0, .inr (6, [.ref tp, .ref dr, .int y_613, .int y_614, .int q_token, .int q_start, .int q_stop]))]) hP hD [0] [1, 2] rfl rfl (by decide) (by decide) hk1 hFc hP1 hD1
          have hpr0_r_612 : y_601.toInt ≤ y_613.toInt := hpr0_r_612
          have g_615 : gi y_613 1 3 := gi_relL (show y_601.toInt ≤ y_613.toInt from by omega) g_604 gy_613
          have hpr1_r_612 : Hid (((0 : Int) = 1 ∨ 1 ≤ y_613.toInt)) := by have h9 : ((0 : Int32).toInt = 1 ∨ 1 ≤ y_613.toInt) := hpr1_r_612; rw [show (0 : Int32).toInt = 0 from by decide] at h9; exact h9
          have hf_616 : 1 ≤ y_613.toInt := Hid.resL hpr1_r_612 (by omega)
          have hP := hP.sub (ws' := [(h0, .inr (6, [.ref tp, .ref dr, .int y_613, .int y_614, .int q_token, .int q_start, .int q_stop])), (tp, .inr (10, [.ref bt, .int b_length])), (bt, .inl (kbt, 1600, .inl fbt))]) [2, 0, 1] rfl
          have hD := hD.sub (ws' := [(h0, .inr (6, [.ref tp, .ref dr, .int y_613, .int y_614, .int q_token, .int q_start, .int q_stop])), (tp, .inr (10, [.ref bt, .int b_length])), (bt, .inl (kbt, 1600, .inl fbt))]) [2, 0, 1] (by decide) rfl
          have hF := gf_call (a := (y_613, y_614)) hE hF
          generalize H1 = H at hP hS ⊢
          refine lv_aload_n hx hb dX6_passName_78 rfl (lv_at hl 1 rfl) ?_
          have hPc := hP.sub (ws' := [(h0, .inr (6, [.ref tp, .ref dr, .int y_613, .int y_614, .int q_token, .int q_start, .int q_stop])), (tp, .inr (10, [.ref bt, .int b_length])), (bt, .inl (kbt, 1600, .inl fbt))]) [0, 1, 2] rfl
          have hKc := hK.sub (tys' := [(kbt, .byte)]) [0] rfl
          have hDc := hD.sub (ws' := [(h0, .inr (6, [.ref tp, .ref dr, .int y_613, .int y_614, .int q_token, .int q_start, .int q_stop])), (tp, .inr (10, [.ref bt, .int b_length])), (bt, .inl (kbt, 1600, .inl fbt))]) [0, 1, 2] (by decide) rfl
          have hFc := va_free (wc := [(h0, .inr (6, [.ref tp, .ref dr, .int y_613, .int y_614, .int q_token, .int q_start, .int q_stop])), (tp, .inr (10, [.ref bt, .int b_length])), (bt, .inl (kbt, 1600, .inl fbt))]) hD hS hA [0, 1, 2] rfl
          refine va_callv (va_runV (As := []) (rest := []) ⟨hx, hb, hml, hown, hts⟩ (sX6_step l dC dI H.size h0 tp bt dr y_613 y_614 q_token q_start q_stop b_length kbt fbt (gi_w g_615 (by decide)) gq_start gq_stop gb_length) (cwV 0 hts (gz_gV mGA_162 mGA_163 mGA_164 mGA_9 mGA_165 goodGA) rfl rfl rfl (by decide +kernel) ⟨Nat.le_of_ble_eq_true rfl, Nat.le_of_ble_eq_true rfl⟩) ⟨fun a U g mk q => by obtain ⟨q0, q1, qP, qK, qD, qZ⟩ := q; exact ⟨q0, q1, qP, va_K.moved (u := U) (U := U.calling g mk a) (Vm.Alike.refl U.vm) qK, qD, nzA_same (u := U) (U := U.calling g mk a) rfl qZ⟩, va_recv hKc hPc (ci := 6) (q0 := 0) rfl rfl, fun U hU hW => ⟨rfl, by rw [hU], by rw [hU]; exact hPc, va_K.moved hW.alike hKc, hDc.weaken (fun _ _ _ _ => trivial), nzA_warm hW hz⟩⟩ rfl rfl hl.1 rfl (lv_room (Nat.le_of_ble_eq_true rfl)) dX6_passName_79 ⟨Nat.zero_le _, Nat.zero_le _⟩) hS (fun q _ h => hFc q h) hFc (fun u t H1 locs ht hvm hw hB hz1 hk1 hS => ?_)
          obtain ⟨y_618, y_619, y_620, gy_619, gy_620, hE, hP1, hD1⟩ := hB
          rw [ht] at hP1
          obtain ⟨hP, hD⟩ := va_join (wr := []) (w1 := [(h0, .inr (6, [.ref tp, .ref dr, .int y_613, .int y_614, .int y_618, .int y_619, .int y_620])), (tp, .inr (10, [.ref bt, .int b_length])), (bt, .inl (kbt, 1600, .inl fbt))]) hP hD [0, 1, 2] [] rfl rfl (by decide) (by decide) hk1 hFc hP1 hD1
          have hP := hP.sub (ws' := [(h0, .inr (6, [.ref tp, .ref dr, .int y_613, .int y_614, .int y_618, .int y_619, .int y_620])), (tp, .inr (10, [.ref bt, .int b_length])), (bt, .inl (kbt, 1600, .inl fbt))]) [0, 1, 2] rfl
          have hD := hD.sub (ws' := [(h0, .inr (6, [.ref tp, .ref dr, .int y_613, .int y_614, .int y_618, .int y_619, .int y_620])), (tp, .inr (10, [.ref bt, .int b_length])), (bt, .inl (kbt, 1600, .inl fbt))]) [0, 1, 2] (by decide) rfl
          have hF := gf_call (a := (y_618, y_619, y_620)) hE hF
          generalize H1 = H at hP hS ⊢
          refine lv_iload_n hx hb dX6_passName_82 rfl (lv_at hl 0 rfl) ?_
          exact W.iret (v := r_605) hx hb hr (fun t ht hW => ⟨⟨r_605, r_605, rfl, ⟨rfl, (gi_any r_605)⟩, y_613, y_614, y_618, y_619, y_620, (gi_w g_615 (by decide)), gy_619, gy_620, (show q_faultKind.toInt ≤ y_613.toInt from by have qgy_613 := g_615.1; have rgy_613 := g_615.2; have qgy_601 := g_604.1; have rgy_601 := g_604.2; have qgy_594 := gy_594.1; have rgy_594 := gy_594.2; have qgx_596 := g_599.1; have rgx_596 := g_599.2; have igx_596 : x_596.toInt = q_stop.toInt - q_start.toInt := (by have h9 := gi_subI ex_596 (by have h1 := gq_stop.1; have h2 := gq_start.1; have h3 := gq_stop.2; have h4 := gq_start.2; omega) (by have h1 := gq_stop.1; have h2 := gq_start.1; have h3 := gq_stop.2; have h4 := gq_start.2; omega); exact h9); have qgq_start := gq_start.1; have rgq_start := gq_start.2; have qgq_stop := gq_stop.1; have rgq_stop := gq_stop.2; have qgr_606 := g_609.1; have rgr_606 := g_609.2; have qgq_token := g_592.1; have rgq_token := g_592.2; have qgq_faultKind := gq_faultKind.1; have rgq_faultKind := gq_faultKind.2; have qgp1 := gp1.1; have rgp1 := gp1.2; have qge_placeCount := ge_placeCount.1; have rge_placeCount := ge_placeCount.2; omega), (show (y_613.toInt ≠ 0 ∨ p1.toInt = 0 ∨ pnF ep_name e_placeCount r_605 ≠ -1) from by have qgy_613 := g_615.1; have rgy_613 := g_615.2; have qgy_601 := g_604.1; have rgy_601 := g_604.2; have qgy_594 := gy_594.1; have rgy_594 := gy_594.2; have qgx_596 := g_599.1; have rgx_596 := g_599.2; have igx_596 : x_596.toInt = q_stop.toInt - q_start.toInt := (by have h9 := gi_subI ex_596 (by have h1 := gq_stop.1; have h2 := gq_start.1; have h3 := gq_stop.2; have h4 := gq_start.2; omega) (by have h1 := gq_stop.1; have h2 := gq_start.1; have h3 := gq_stop.2; have h4 := gq_start.2; omega); exact h9); have qgq_start := gq_start.1; have rgq_start := gq_start.2; have qgq_stop := gq_stop.1; have rgq_stop := gq_stop.2; have qgr_606 := g_609.1; have rgr_606 := g_609.2; have qgq_token := g_592.1; have rgq_token := g_592.2; have qgq_faultKind := gq_faultKind.1; have rgq_faultKind := gq_faultKind.2; have qgp1 := gp1.1; have rgp1 := gp1.2; have qge_placeCount := ge_placeCount.1; have rge_placeCount := ge_placeCount.2; omega), hF.trans hR9.symm, by rw [ht]; exact hP, hD⟩, hS.F ht⟩) hS.2.2 dX6_passName_83
        · have hF := gf_pos c_610 hF
          have hc_621 : 0 = p1.toInt := by have h9 := congrArg Int32.toInt c_610; rw [show (0 : Int32).toInt = 0 from by decide] at h9; exact h9
          have g_622 : gi p1 0 0 := gi_eq c_610.symm (gi_c 0 0 (by decide))
          refine lv_iconst (v := 1) hx hb dX6_passName_69 (by decide) ?_
          refine lv_goto (tgt := 74) hx hb dX6_passName_70 (by decide) ?_
          refine lv_iconst (v := 2) hx hb dX6_passName_74 (by decide) ?_
          have hPc := hP.sub (ws' := [(h0, .inr (6, [.ref tp, .ref dr, .int y_601, .int y_602, .int q_token, .int q_start, .int q_stop]))]) [0] rfl
          have hKc := hK.sub (tys' := []) [] rfl
          have hDc := hD.sub (ws' := [(h0, .inr (6, [.ref tp, .ref dr, .int y_601, .int y_602, .int q_token, .int q_start, .int q_stop]))]) [0] (by decide) rfl
          have hFc := va_free (wc := [(h0, .inr (6, [.ref tp, .ref dr, .int y_601, .int y_602, .int q_token, .int q_start, .int q_stop]))]) hD hS hA [0] rfl
          refine va_callv (va_runV (As := [.int 1, .int 2]) (rest := []) ⟨hx, hb, hml, hown, hts⟩ (sX6_expect l dC dI H.size h0 tp dr y_601 y_602 q_token q_start q_stop 1 2 (gi_w g_604 (by decide)) gq_start gq_stop (gi_w (gi_c 1 1 (by decide)) (by decide)) (gi_w (gi_c 2 2 (by decide)) (by decide))) (cwV 2 hts (gz_gV mGA_250 mGA_251 mGA_252 mGA_9 mGA_253 goodGA) rfl rfl rfl (by decide +kernel) ⟨Nat.le_of_ble_eq_true rfl, Nat.le_of_ble_eq_true rfl⟩) ⟨fun a U g mk q => by obtain ⟨q0, q1, qP, qK, qD, qZ⟩ := q; exact ⟨q0, q1, qP, va_K.moved (u := U) (U := U.calling g mk a) (Vm.Alike.refl U.vm) qK, qD, nzA_same (u := U) (U := U.calling g mk a) rfl qZ⟩, va_recv hKc hPc (ci := 6) (q0 := 0) rfl rfl, fun U hU hW => ⟨rfl, by rw [hU], by rw [hU]; exact hPc, va_K.moved hW.alike hKc, hDc.weaken (fun _ _ _ _ => trivial), nzA_warm hW hz⟩⟩ rfl rfl hl.1 rfl (lv_room (Nat.le_of_ble_eq_true rfl)) dX6_passName_75 ⟨Nat.zero_le _, Nat.zero_le _⟩) hS (fun q _ h => hFc q h) hFc (fun u t H1 locs ht hvm hw hB hz1 hk1 hS => ?_)
          obtain ⟨y_624, y_625, gy_624, hpr0_r_623, hpr1_r_623, hE, hP1, hD1⟩ := hB
          rw [ht] at hP1
          obtain ⟨hP, hD⟩ := va_join (wr := [(tp, .inr (10, [.ref bt, .int b_length])), (bt, .inl (kbt, 1600, .inl fbt))]) (w1 := [(h0, .inr (6, [.ref tp, .ref dr, .int y_624, .int y_625, .int q_token, .int q_start, .int q_stop]))]) hP hD [0] [1, 2] rfl rfl (by decide) (by decide) hk1 hFc hP1 hD1
          have hpr0_r_623 : y_601.toInt ≤ y_624.toInt := hpr0_r_623
          have g_626 : gi y_624 1 3 := gi_relL (show y_601.toInt ≤ y_624.toInt from by omega) g_604 gy_624
          have hpr1_r_623 : Hid (((1 : Int) = 1 ∨ 1 ≤ y_624.toInt)) := by have h9 : ((1 : Int32).toInt = 1 ∨ 1 ≤ y_624.toInt) := hpr1_r_623; rw [show (1 : Int32).toInt = 1 from by decide] at h9; exact h9
          have hP := hP.sub (ws' := [(h0, .inr (6, [.ref tp, .ref dr, .int y_624, .int y_625, .int q_token, .int q_start, .int q_stop])), (tp, .inr (10, [.ref bt, .int b_length])), (bt, .inl (kbt, 1600, .inl fbt))]) [2, 0, 1] rfl
          have hD := hD.sub (ws' := [(h0, .inr (6, [.ref tp, .ref dr, .int y_624, .int y_625, .int q_token, .int q_start, .int q_stop])), (tp, .inr (10, [.ref bt, .int b_length])), (bt, .inl (kbt, 1600, .inl fbt))]) [2, 0, 1] (by decide) rfl
          have hF := gf_call (a := (y_624, y_625)) hE hF
          generalize H1 = H at hP hS ⊢
          refine lv_aload_n hx hb dX6_passName_78 rfl (lv_at hl 1 rfl) ?_
          have hPc := hP.sub (ws' := [(h0, .inr (6, [.ref tp, .ref dr, .int y_624, .int y_625, .int q_token, .int q_start, .int q_stop])), (tp, .inr (10, [.ref bt, .int b_length])), (bt, .inl (kbt, 1600, .inl fbt))]) [0, 1, 2] rfl
          have hKc := hK.sub (tys' := [(kbt, .byte)]) [0] rfl
          have hDc := hD.sub (ws' := [(h0, .inr (6, [.ref tp, .ref dr, .int y_624, .int y_625, .int q_token, .int q_start, .int q_stop])), (tp, .inr (10, [.ref bt, .int b_length])), (bt, .inl (kbt, 1600, .inl fbt))]) [0, 1, 2] (by decide) rfl
          have hFc := va_free (wc := [(h0, .inr (6, [.ref tp, .ref dr, .int y_624, .int y_625, .int q_token, .int q_start, .int q_stop])), (tp, .inr (10, [.ref bt, .int b_length])), (bt, .inl (kbt, 1600, .inl fbt))]) hD hS hA [0, 1, 2] rfl
          refine va_callv (va_runV (As := []) (rest := []) ⟨hx, hb, hml, hown, hts⟩ (sX6_step l dC dI H.size h0 tp bt dr y_624 y_625 q_token q_start q_stop b_length kbt fbt (gi_w g_626 (by decide)) gq_start gq_stop gb_length) (cwV 0 hts (gz_gV mGA_162 mGA_163 mGA_164 mGA_9 mGA_165 goodGA) rfl rfl rfl (by decide +kernel) ⟨Nat.le_of_ble_eq_true rfl, Nat.le_of_ble_eq_true rfl⟩) ⟨fun a U g mk q => by obtain ⟨q0, q1, qP, qK, qD, qZ⟩ := q; exact ⟨q0, q1, qP, va_K.moved (u := U) (U := U.calling g mk a) (Vm.Alike.refl U.vm) qK, qD, nzA_same (u := U) (U := U.calling g mk a) rfl qZ⟩, va_recv hKc hPc (ci := 6) (q0 := 0) rfl rfl, fun U hU hW => ⟨rfl, by rw [hU], by rw [hU]; exact hPc, va_K.moved hW.alike hKc, hDc.weaken (fun _ _ _ _ => trivial), nzA_warm hW hz⟩⟩ rfl rfl hl.1 rfl (lv_room (Nat.le_of_ble_eq_true rfl)) dX6_passName_79 ⟨Nat.zero_le _, Nat.zero_le _⟩) hS (fun q _ h => hFc q h) hFc (fun u t H1 locs ht hvm hw hB hz1 hk1 hS => ?_)
          obtain ⟨y_628, y_629, y_630, gy_629, gy_630, hE, hP1, hD1⟩ := hB
          rw [ht] at hP1
          obtain ⟨hP, hD⟩ := va_join (wr := []) (w1 := [(h0, .inr (6, [.ref tp, .ref dr, .int y_624, .int y_625, .int y_628, .int y_629, .int y_630])), (tp, .inr (10, [.ref bt, .int b_length])), (bt, .inl (kbt, 1600, .inl fbt))]) hP hD [0, 1, 2] [] rfl rfl (by decide) (by decide) hk1 hFc hP1 hD1
          have hP := hP.sub (ws' := [(h0, .inr (6, [.ref tp, .ref dr, .int y_624, .int y_625, .int y_628, .int y_629, .int y_630])), (tp, .inr (10, [.ref bt, .int b_length])), (bt, .inl (kbt, 1600, .inl fbt))]) [0, 1, 2] rfl
          have hD := hD.sub (ws' := [(h0, .inr (6, [.ref tp, .ref dr, .int y_624, .int y_625, .int y_628, .int y_629, .int y_630])), (tp, .inr (10, [.ref bt, .int b_length])), (bt, .inl (kbt, 1600, .inl fbt))]) [0, 1, 2] (by decide) rfl
          have hF := gf_call (a := (y_628, y_629, y_630)) hE hF
          generalize H1 = H at hP hS ⊢
          refine lv_iload_n hx hb dX6_passName_82 rfl (lv_at hl 0 rfl) ?_
          exact W.iret (v := r_605) hx hb hr (fun t ht hW => ⟨⟨r_605, r_605, rfl, ⟨rfl, (gi_any r_605)⟩, y_624, y_625, y_628, y_629, y_630, (gi_w g_626 (by decide)), gy_629, gy_630, (show q_faultKind.toInt ≤ y_624.toInt from by have qgy_624 := g_626.1; have rgy_624 := g_626.2; have qgy_601 := g_604.1; have rgy_601 := g_604.2; have qgy_594 := gy_594.1; have rgy_594 := gy_594.2; have qgx_596 := g_599.1; have rgx_596 := g_599.2; have igx_596 : x_596.toInt = q_stop.toInt - q_start.toInt := (by have h9 := gi_subI ex_596 (by have h1 := gq_stop.1; have h2 := gq_start.1; have h3 := gq_stop.2; have h4 := gq_start.2; omega) (by have h1 := gq_stop.1; have h2 := gq_start.1; have h3 := gq_stop.2; have h4 := gq_start.2; omega); exact h9); have qgq_start := gq_start.1; have rgq_start := gq_start.2; have qgq_stop := gq_stop.1; have rgq_stop := gq_stop.2; have qgr_606 := g_609.1; have rgr_606 := g_609.2; have qgq_token := g_592.1; have rgq_token := g_592.2; have qgq_faultKind := gq_faultKind.1; have rgq_faultKind := gq_faultKind.2; have qgp1 := g_622.1; have rgp1 := g_622.2; have qge_placeCount := ge_placeCount.1; have rge_placeCount := ge_placeCount.2; omega), (show (y_624.toInt ≠ 0 ∨ p1.toInt = 0 ∨ pnF ep_name e_placeCount r_605 ≠ -1) from by have qgy_624 := g_626.1; have rgy_624 := g_626.2; have qgy_601 := g_604.1; have rgy_601 := g_604.2; have qgy_594 := gy_594.1; have rgy_594 := gy_594.2; have qgx_596 := g_599.1; have rgx_596 := g_599.2; have igx_596 : x_596.toInt = q_stop.toInt - q_start.toInt := (by have h9 := gi_subI ex_596 (by have h1 := gq_stop.1; have h2 := gq_start.1; have h3 := gq_stop.2; have h4 := gq_start.2; omega) (by have h1 := gq_stop.1; have h2 := gq_start.1; have h3 := gq_stop.2; have h4 := gq_start.2; omega); exact h9); have qgq_start := gq_start.1; have rgq_start := gq_start.2; have qgq_stop := gq_stop.1; have rgq_stop := gq_stop.2; have qgr_606 := g_609.1; have rgr_606 := g_609.2; have qgq_token := g_592.1; have rgq_token := g_592.2; have qgq_faultKind := gq_faultKind.1; have rgq_faultKind := gq_faultKind.2; have qgp1 := g_622.1; have rgp1 := g_622.2; have qge_placeCount := ge_placeCount.1; have rge_placeCount := ge_placeCount.2; omega), hF.trans hR9.symm, by rw [ht]; exact hP, hD⟩, hS.F ht⟩) hS.2.2 dX6_passName_83
      · have hF := gf_neg c_607 hF
        have hc_631 : r_606.toInt ≠ (-1) := fun h9 => c_607 (Int32.toInt_inj.mp (by rw [show ((-1) : Int32).toInt = (-1) from by decide]; exact h9))
        have g_632 : gi r_606 0 5 := gi_ne_lo c_607 gr_606 (gi_c (-1) (-1) (by decide)) (by decide)
        refine lv_iconst (v := 1) hx hb dX6_passName_60 (by decide) ?_
        refine lv_goto (tgt := 65) hx hb dX6_passName_61 (by decide) ?_
        refine lv_iload_n hx hb dX6_passName_65 rfl (lv_at hl 2 rfl) ?_
        refine lv_icmp_ne (tgt := 73) hx hb dX6_passName_66 (by decide) (fun c_633 => ?_) (fun c_633 => ?_)
        · have hF := gf_neg c_633 hF
          have hc_634 : 1 ≠ p1.toInt := fun h9 => c_633 (Int32.toInt_inj.mp (by rw [show (1 : Int32).toInt = 1 from by decide]; exact h9))
          refine lv_iconst (v := 0) hx hb dX6_passName_73 (by decide) ?_
          refine lv_iconst (v := 2) hx hb dX6_passName_74 (by decide) ?_
          have hPc := hP.sub (ws' := [(h0, .inr (6, [.ref tp, .ref dr, .int y_601, .int y_602, .int q_token, .int q_start, .int q_stop]))]) [0] rfl
          have hKc := hK.sub (tys' := []) [] rfl
          have hDc := hD.sub (ws' := [(h0, .inr (6, [.ref tp, .ref dr, .int y_601, .int y_602, .int q_token, .int q_start, .int q_stop]))]) [0] (by decide) rfl
          have hFc := va_free (wc := [(h0, .inr (6, [.ref tp, .ref dr, .int y_601, .int y_602, .int q_token, .int q_start, .int q_stop]))]) hD hS hA [0] rfl
          refine va_callv (va_runV (As := [.int 0, .int 2]) (rest := []) ⟨hx, hb, hml, hown, hts⟩ (sX6_expect l dC dI H.size h0 tp dr y_601 y_602 q_token q_start q_stop 0 2 (gi_w g_604 (by decide)) gq_start gq_stop (gi_w (gi_c 0 0 (by decide)) (by decide)) (gi_w (gi_c 2 2 (by decide)) (by decide))) (cwV 2 hts (gz_gV mGA_250 mGA_251 mGA_252 mGA_9 mGA_253 goodGA) rfl rfl rfl (by decide +kernel) ⟨Nat.le_of_ble_eq_true rfl, Nat.le_of_ble_eq_true rfl⟩) ⟨fun a U g mk q => by obtain ⟨q0, q1, qP, qK, qD, qZ⟩ := q; exact ⟨q0, q1, qP, va_K.moved (u := U) (U := U.calling g mk a) (Vm.Alike.refl U.vm) qK, qD, nzA_same (u := U) (U := U.calling g mk a) rfl qZ⟩, va_recv hKc hPc (ci := 6) (q0 := 0) rfl rfl, fun U hU hW => ⟨rfl, by rw [hU], by rw [hU]; exact hPc, va_K.moved hW.alike hKc, hDc.weaken (fun _ _ _ _ => trivial), nzA_warm hW hz⟩⟩ rfl rfl hl.1 rfl (lv_room (Nat.le_of_ble_eq_true rfl)) dX6_passName_75 ⟨Nat.zero_le _, Nat.zero_le _⟩) hS (fun q _ h => hFc q h) hFc (fun u t H1 locs ht hvm hw hB hz1 hk1 hS => ?_)
          obtain ⟨y_636, y_637, gy_636, hpr0_r_635, hpr1_r_635, hE, hP1, hD1⟩ := hB
          rw [ht] at hP1
          obtain ⟨hP, hD⟩ := va_join (wr := [(tp, .inr (10, [.ref bt, .int b_length])), (bt, .inl (kbt, 1600, .inl fbt))]) (w1 := [(h0, .inr (6, [.ref tp, .ref dr, .int y_636, .int y_637, .int q_token, .int q_start, .int q_stop]))]) hP hD [0] [1, 2] rfl rfl (by decide) (by decide) hk1 hFc hP1 hD1
          have hpr0_r_635 : y_601.toInt ≤ y_636.toInt := hpr0_r_635
          have g_638 : gi y_636 1 3 := gi_relL (show y_601.toInt ≤ y_636.toInt from by omega) g_604 gy_636
          have hpr1_r_635 : Hid (((0 : Int) = 1 ∨ 1 ≤ y_636.toInt)) := by have h9 : ((0 : Int32).toInt = 1 ∨ 1 ≤ y_636.toInt) := hpr1_r_635; rw [show (0 : Int32).toInt = 0 from by decide] at h9; exact h9
          have hf_639 : 1 ≤ y_636.toInt := Hid.resL hpr1_r_635 (by omega)
          have hP := hP.sub (ws' := [(h0, .inr (6, [.ref tp, .ref dr, .int y_636, .int y_637, .int q_token, .int q_start, .int q_stop])), (tp, .inr (10, [.ref bt, .int b_length])), (bt, .inl (kbt, 1600, .inl fbt))]) [2, 0, 1] rfl
          have hD := hD.sub (ws' := [(h0, .inr (6, [.ref tp, .ref dr, .int y_636, .int y_637, .int q_token, .int q_start, .int q_stop])), (tp, .inr (10, [.ref bt, .int b_length])), (bt, .inl (kbt, 1600, .inl fbt))]) [2, 0, 1] (by decide) rfl
          have hF := gf_call (a := (y_636, y_637)) hE hF
          generalize H1 = H at hP hS ⊢
          refine lv_aload_n hx hb dX6_passName_78 rfl (lv_at hl 1 rfl) ?_
          have hPc := hP.sub (ws' := [(h0, .inr (6, [.ref tp, .ref dr, .int y_636, .int y_637, .int q_token, .int q_start, .int q_stop])), (tp, .inr (10, [.ref bt, .int b_length])), (bt, .inl (kbt, 1600, .inl fbt))]) [0, 1, 2] rfl
          have hKc := hK.sub (tys' := [(kbt, .byte)]) [0] rfl
          have hDc := hD.sub (ws' := [(h0, .inr (6, [.ref tp, .ref dr, .int y_636, .int y_637, .int q_token, .int q_start, .int q_stop])), (tp, .inr (10, [.ref bt, .int b_length])), (bt, .inl (kbt, 1600, .inl fbt))]) [0, 1, 2] (by decide) rfl
          have hFc := va_free (wc := [(h0, .inr (6, [.ref tp, .ref dr, .int y_636, .int y_637, .int q_token, .int q_start, .int q_stop])), (tp, .inr (10, [.ref bt, .int b_length])), (bt, .inl (kbt, 1600, .inl fbt))]) hD hS hA [0, 1, 2] rfl
          refine va_callv (va_runV (As := []) (rest := []) ⟨hx, hb, hml, hown, hts⟩ (sX6_step l dC dI H.size h0 tp bt dr y_636 y_637 q_token q_start q_stop b_length kbt fbt (gi_w g_638 (by decide)) gq_start gq_stop gb_length) (cwV 0 hts (gz_gV mGA_162 mGA_163 mGA_164 mGA_9 mGA_165 goodGA) rfl rfl rfl (by decide +kernel) ⟨Nat.le_of_ble_eq_true rfl, Nat.le_of_ble_eq_true rfl⟩) ⟨fun a U g mk q => by obtain ⟨q0, q1, qP, qK, qD, qZ⟩ := q; exact ⟨q0, q1, qP, va_K.moved (u := U) (U := U.calling g mk a) (Vm.Alike.refl U.vm) qK, qD, nzA_same (u := U) (U := U.calling g mk a) rfl qZ⟩, va_recv hKc hPc (ci := 6) (q0 := 0) rfl rfl, fun U hU hW => ⟨rfl, by rw [hU], by rw [hU]; exact hPc, va_K.moved hW.alike hKc, hDc.weaken (fun _ _ _ _ => trivial), nzA_warm hW hz⟩⟩ rfl rfl hl.1 rfl (lv_room (Nat.le_of_ble_eq_true rfl)) dX6_passName_79 ⟨Nat.zero_le _, Nat.zero_le _⟩) hS (fun q _ h => hFc q h) hFc (fun u t H1 locs ht hvm hw hB hz1 hk1 hS => ?_)
          obtain ⟨y_641, y_642, y_643, gy_642, gy_643, hE, hP1, hD1⟩ := hB
          rw [ht] at hP1
          obtain ⟨hP, hD⟩ := va_join (wr := []) (w1 := [(h0, .inr (6, [.ref tp, .ref dr, .int y_636, .int y_637, .int y_641, .int y_642, .int y_643])), (tp, .inr (10, [.ref bt, .int b_length])), (bt, .inl (kbt, 1600, .inl fbt))]) hP hD [0, 1, 2] [] rfl rfl (by decide) (by decide) hk1 hFc hP1 hD1
          have hP := hP.sub (ws' := [(h0, .inr (6, [.ref tp, .ref dr, .int y_636, .int y_637, .int y_641, .int y_642, .int y_643])), (tp, .inr (10, [.ref bt, .int b_length])), (bt, .inl (kbt, 1600, .inl fbt))]) [0, 1, 2] rfl
          have hD := hD.sub (ws' := [(h0, .inr (6, [.ref tp, .ref dr, .int y_636, .int y_637, .int y_641, .int y_642, .int y_643])), (tp, .inr (10, [.ref bt, .int b_length])), (bt, .inl (kbt, 1600, .inl fbt))]) [0, 1, 2] (by decide) rfl
          have hF := gf_call (a := (y_641, y_642, y_643)) hE hF
          generalize H1 = H at hP hS ⊢
          refine lv_iload_n hx hb dX6_passName_82 rfl (lv_at hl 0 rfl) ?_
          exact W.iret (v := r_605) hx hb hr (fun t ht hW => ⟨⟨r_605, r_605, rfl, ⟨rfl, (gi_any r_605)⟩, y_636, y_637, y_641, y_642, y_643, (gi_w g_638 (by decide)), gy_642, gy_643, (show q_faultKind.toInt ≤ y_636.toInt from by have qgy_636 := g_638.1; have rgy_636 := g_638.2; have qgy_601 := g_604.1; have rgy_601 := g_604.2; have qgy_594 := gy_594.1; have rgy_594 := gy_594.2; have qgx_596 := g_599.1; have rgx_596 := g_599.2; have igx_596 : x_596.toInt = q_stop.toInt - q_start.toInt := (by have h9 := gi_subI ex_596 (by have h1 := gq_stop.1; have h2 := gq_start.1; have h3 := gq_stop.2; have h4 := gq_start.2; omega) (by have h1 := gq_stop.1; have h2 := gq_start.1; have h3 := gq_stop.2; have h4 := gq_start.2; omega); exact h9); have qgq_start := gq_start.1; have rgq_start := gq_start.2; have qgq_stop := gq_stop.1; have rgq_stop := gq_stop.2; have qgr_606 := g_632.1; have rgr_606 := g_632.2; have qgq_token := g_592.1; have rgq_token := g_592.2; have qgq_faultKind := gq_faultKind.1; have rgq_faultKind := gq_faultKind.2; have qgp1 := gp1.1; have rgp1 := gp1.2; have qge_placeCount := ge_placeCount.1; have rge_placeCount := ge_placeCount.2; omega), (show (y_636.toInt ≠ 0 ∨ p1.toInt = 0 ∨ pnF ep_name e_placeCount r_605 ≠ -1) from by have qgy_636 := g_638.1; have rgy_636 := g_638.2; have qgy_601 := g_604.1; have rgy_601 := g_604.2; have qgy_594 := gy_594.1; have rgy_594 := gy_594.2; have qgx_596 := g_599.1; have rgx_596 := g_599.2; have igx_596 : x_596.toInt = q_stop.toInt - q_start.toInt := (by have h9 := gi_subI ex_596 (by have h1 := gq_stop.1; have h2 := gq_start.1; have h3 := gq_stop.2; have h4 := gq_start.2; omega) (by have h1 := gq_stop.1; have h2 := gq_start.1; have h3 := gq_stop.2; have h4 := gq_start.2; omega); exact h9); have qgq_start := gq_start.1; have rgq_start := gq_start.2; have qgq_stop := gq_stop.1; have rgq_stop := gq_stop.2; have qgr_606 := g_632.1; have rgr_606 := g_632.2; have qgq_token := g_592.1; have rgq_token := g_592.2; have qgq_faultKind := gq_faultKind.1; have rgq_faultKind := gq_faultKind.2; have qgp1 := gp1.1; have rgp1 := gp1.2; have qge_placeCount := ge_placeCount.1; have rge_placeCount := ge_placeCount.2; omega), hF.trans hR9.symm, by rw [ht]; exact hP, hD⟩, hS.F ht⟩) hS.2.2 dX6_passName_83
        · have hF := gf_pos c_633 hF
          have hc_644 : 1 = p1.toInt := by have h9 := congrArg Int32.toInt c_633; rw [show (1 : Int32).toInt = 1 from by decide] at h9; exact h9
          have g_645 : gi p1 1 1 := gi_eq c_633.symm (gi_c 1 1 (by decide))
          refine lv_iconst (v := 1) hx hb dX6_passName_69 (by decide) ?_
          refine lv_goto (tgt := 74) hx hb dX6_passName_70 (by decide) ?_
          refine lv_iconst (v := 2) hx hb dX6_passName_74 (by decide) ?_
          have hPc := hP.sub (ws' := [(h0, .inr (6, [.ref tp, .ref dr, .int y_601, .int y_602, .int q_token, .int q_start, .int q_stop]))]) [0] rfl
          have hKc := hK.sub (tys' := []) [] rfl
          have hDc := hD.sub (ws' := [(h0, .inr (6, [.ref tp, .ref dr, .int y_601, .int y_602, .int q_token, .int q_start, .int q_stop]))]) [0] (by decide) rfl
          have hFc := va_free (wc := [(h0, .inr (6, [.ref tp, .ref dr, .int y_601, .int y_602, .int q_token, .int q_start, .int q_stop]))]) hD hS hA [0] rfl
          refine va_callv (va_runV (As := [.int 1, .int 2]) (rest := []) ⟨hx, hb, hml, hown, hts⟩ (sX6_expect l dC dI H.size h0 tp dr y_601 y_602 q_token q_start q_stop 1 2 (gi_w g_604 (by decide)) gq_start gq_stop (gi_w (gi_c 1 1 (by decide)) (by decide)) (gi_w (gi_c 2 2 (by decide)) (by decide))) (cwV 2 hts (gz_gV mGA_250 mGA_251 mGA_252 mGA_9 mGA_253 goodGA) rfl rfl rfl (by decide +kernel) ⟨Nat.le_of_ble_eq_true rfl, Nat.le_of_ble_eq_true rfl⟩) ⟨fun a U g mk q => by obtain ⟨q0, q1, qP, qK, qD, qZ⟩ := q; exact ⟨q0, q1, qP, va_K.moved (u := U) (U := U.calling g mk a) (Vm.Alike.refl U.vm) qK, qD, nzA_same (u := U) (U := U.calling g mk a) rfl qZ⟩, va_recv hKc hPc (ci := 6) (q0 := 0) rfl rfl, fun U hU hW => ⟨rfl, by rw [hU], by rw [hU]; exact hPc, va_K.moved hW.alike hKc, hDc.weaken (fun _ _ _ _ => trivial), nzA_warm hW hz⟩⟩ rfl rfl hl.1 rfl (lv_room (Nat.le_of_ble_eq_true rfl)) dX6_passName_75 ⟨Nat.zero_le _, Nat.zero_le _⟩) hS (fun q _ h => hFc q h) hFc (fun u t H1 locs ht hvm hw hB hz1 hk1 hS => ?_)
          obtain ⟨y_647, y_648, gy_647, hpr0_r_646, hpr1_r_646, hE, hP1, hD1⟩ := hB
          rw [ht] at hP1
          obtain ⟨hP, hD⟩ := va_join (wr := [(tp, .inr (10, [.ref bt, .int b_length])), (bt, .inl (kbt, 1600, .inl fbt))]) (w1 := [(h0, .inr (6, [.ref tp, .ref dr, .int y_647, .int y_648, .int q_token, .int q_start, .int q_stop]))]) hP hD [0] [1, 2] rfl rfl (by decide) (by decide) hk1 hFc hP1 hD1
          have hpr0_r_646 : y_601.toInt ≤ y_647.toInt := hpr0_r_646
          have g_649 : gi y_647 1 3 := gi_relL (show y_601.toInt ≤ y_647.toInt from by omega) g_604 gy_647
          have hpr1_r_646 : Hid (((1 : Int) = 1 ∨ 1 ≤ y_647.toInt)) := by have h9 : ((1 : Int32).toInt = 1 ∨ 1 ≤ y_647.toInt) := hpr1_r_646; rw [show (1 : Int32).toInt = 1 from by decide] at h9; exact h9
          have hP := hP.sub (ws' := [(h0, .inr (6, [.ref tp, .ref dr, .int y_647, .int y_648, .int q_token, .int q_start, .int q_stop])), (tp, .inr (10, [.ref bt, .int b_length])), (bt, .inl (kbt, 1600, .inl fbt))]) [2, 0, 1] rfl
          have hD := hD.sub (ws' := [(h0, .inr (6, [.ref tp, .ref dr, .int y_647, .int y_648, .int q_token, .int q_start, .int q_stop])), (tp, .inr (10, [.ref bt, .int b_length])), (bt, .inl (kbt, 1600, .inl fbt))]) [2, 0, 1] (by decide) rfl
          have hF := gf_call (a := (y_647, y_648)) hE hF
          generalize H1 = H at hP hS ⊢
          refine lv_aload_n hx hb dX6_passName_78 rfl (lv_at hl 1 rfl) ?_
          have hPc := hP.sub (ws' := [(h0, .inr (6, [.ref tp, .ref dr, .int y_647, .int y_648, .int q_token, .int q_start, .int q_stop])), (tp, .inr (10, [.ref bt, .int b_length])), (bt, .inl (kbt, 1600, .inl fbt))]) [0, 1, 2] rfl
          have hKc := hK.sub (tys' := [(kbt, .byte)]) [0] rfl
          have hDc := hD.sub (ws' := [(h0, .inr (6, [.ref tp, .ref dr, .int y_647, .int y_648, .int q_token, .int q_start, .int q_stop])), (tp, .inr (10, [.ref bt, .int b_length])), (bt, .inl (kbt, 1600, .inl fbt))]) [0, 1, 2] (by decide) rfl
          have hFc := va_free (wc := [(h0, .inr (6, [.ref tp, .ref dr, .int y_647, .int y_648, .int q_token, .int q_start, .int q_stop])), (tp, .inr (10, [.ref bt, .int b_length])), (bt, .inl (kbt, 1600, .inl fbt))]) hD hS hA [0, 1, 2] rfl
          refine va_callv (va_runV (As := []) (rest := []) ⟨hx, hb, hml, hown, hts⟩ (sX6_step l dC dI H.size h0 tp bt dr y_647 y_648 q_token q_start q_stop b_length kbt fbt (gi_w g_649 (by decide)) gq_start gq_stop gb_length) (cwV 0 hts (gz_gV mGA_162 mGA_163 mGA_164 mGA_9 mGA_165 goodGA) rfl rfl rfl (by decide +kernel) ⟨Nat.le_of_ble_eq_true rfl, Nat.le_of_ble_eq_true rfl⟩) ⟨fun a U g mk q => by obtain ⟨q0, q1, qP, qK, qD, qZ⟩ := q; exact ⟨q0, q1, qP, va_K.moved (u := U) (U := U.calling g mk a) (Vm.Alike.refl U.vm) qK, qD, nzA_same (u := U) (U := U.calling g mk a) rfl qZ⟩, va_recv hKc hPc (ci := 6) (q0 := 0) rfl rfl, fun U hU hW => ⟨rfl, by rw [hU], by rw [hU]; exact hPc, va_K.moved hW.alike hKc, hDc.weaken (fun _ _ _ _ => trivial), nzA_warm hW hz⟩⟩ rfl rfl hl.1 rfl (lv_room (Nat.le_of_ble_eq_true rfl)) dX6_passName_79 ⟨Nat.zero_le _, Nat.zero_le _⟩) hS (fun q _ h => hFc q h) hFc (fun u t H1 locs ht hvm hw hB hz1 hk1 hS => ?_)
          obtain ⟨y_651, y_652, y_653, gy_652, gy_653, hE, hP1, hD1⟩ := hB
          rw [ht] at hP1
          obtain ⟨hP, hD⟩ := va_join (wr := []) (w1 := [(h0, .inr (6, [.ref tp, .ref dr, .int y_647, .int y_648, .int y_651, .int y_652, .int y_653])), (tp, .inr (10, [.ref bt, .int b_length])), (bt, .inl (kbt, 1600, .inl fbt))]) hP hD [0, 1, 2] [] rfl rfl (by decide) (by decide) hk1 hFc hP1 hD1
          have hP := hP.sub (ws' := [(h0, .inr (6, [.ref tp, .ref dr, .int y_647, .int y_648, .int y_651, .int y_652, .int y_653])), (tp, .inr (10, [.ref bt, .int b_length])), (bt, .inl (kbt, 1600, .inl fbt))]) [0, 1, 2] rfl
          have hD := hD.sub (ws' := [(h0, .inr (6, [.ref tp, .ref dr, .int y_647, .int y_648, .int y_651, .int y_652, .int y_653])), (tp, .inr (10, [.ref bt, .int b_length])), (bt, .inl (kbt, 1600, .inl fbt))]) [0, 1, 2] (by decide) rfl
          have hF := gf_call (a := (y_651, y_652, y_653)) hE hF
          generalize H1 = H at hP hS ⊢
          refine lv_iload_n hx hb dX6_passName_82 rfl (lv_at hl 0 rfl) ?_
          exact W.iret (v := r_605) hx hb hr (fun t ht hW => ⟨⟨r_605, r_605, rfl, ⟨rfl, (gi_any r_605)⟩, y_647, y_648, y_651, y_652, y_653, (gi_w g_649 (by decide)), gy_652, gy_653, (show q_faultKind.toInt ≤ y_647.toInt from by have qgy_647 := g_649.1; have rgy_647 := g_649.2; have qgy_601 := g_604.1; have rgy_601 := g_604.2; have qgy_594 := gy_594.1; have rgy_594 := gy_594.2; have qgx_596 := g_599.1; have rgx_596 := g_599.2; have igx_596 : x_596.toInt = q_stop.toInt - q_start.toInt := (by have h9 := gi_subI ex_596 (by have h1 := gq_stop.1; have h2 := gq_start.1; have h3 := gq_stop.2; have h4 := gq_start.2; omega) (by have h1 := gq_stop.1; have h2 := gq_start.1; have h3 := gq_stop.2; have h4 := gq_start.2; omega); exact h9); have qgq_start := gq_start.1; have rgq_start := gq_start.2; have qgq_stop := gq_stop.1; have rgq_stop := gq_stop.2; have qgr_606 := g_632.1; have rgr_606 := g_632.2; have qgq_token := g_592.1; have rgq_token := g_592.2; have qgq_faultKind := gq_faultKind.1; have rgq_faultKind := gq_faultKind.2; have qgp1 := g_645.1; have rgp1 := g_645.2; have qge_placeCount := ge_placeCount.1; have rge_placeCount := ge_placeCount.2; omega), (show (y_647.toInt ≠ 0 ∨ p1.toInt = 0 ∨ pnF ep_name e_placeCount r_605 ≠ -1) from by have qgy_647 := g_649.1; have rgy_647 := g_649.2; have qgy_601 := g_604.1; have rgy_601 := g_604.2; have qgy_594 := gy_594.1; have rgy_594 := gy_594.2; have qgx_596 := g_599.1; have rgx_596 := g_599.2; have igx_596 : x_596.toInt = q_stop.toInt - q_start.toInt := (by have h9 := gi_subI ex_596 (by have h1 := gq_stop.1; have h2 := gq_start.1; have h3 := gq_stop.2; have h4 := gq_start.2; omega) (by have h1 := gq_stop.1; have h2 := gq_start.1; have h3 := gq_stop.2; have h4 := gq_start.2; omega); exact h9); have qgq_start := gq_start.1; have rgq_start := gq_start.2; have qgq_stop := gq_stop.1; have rgq_stop := gq_stop.2; have qgr_606 := g_632.1; have rgr_606 := g_632.2; have qgq_token := g_592.1; have rgq_token := g_592.2; have qgq_faultKind := gq_faultKind.1; have rgq_faultKind := gq_faultKind.2; have qgp1 := g_645.1; have rgp1 := g_645.2; have qge_placeCount := ge_placeCount.1; have rge_placeCount := ge_placeCount.2; omega), hF.trans hR9.symm, by rw [ht]; exact hP, hD⟩, hS.F ht⟩) hS.2.2 dX6_passName_83
    · have hF := gf_neg (by rw [ex_596] at c_597; exact c_597) hF
      have hc_654 : x_596.toInt ≤ 6 := by have h9 := Int32.le_iff_toInt_le.mp (Int32.not_lt.mp c_597); rw [show (6 : Int32).toInt = 6 from by decide] at h9; exact h9
      have g_655 : gi x_596 (-1600) 6 := gi_le_l (Int32.not_lt.mp c_597) gx_596 (gi_c 6 6 (by decide))
      refine lv_iconst (v := 1) hx hb dX6_passName_33 (by decide) ?_
      refine lv_goto (tgt := 38) hx hb dX6_passName_34 (by decide) ?_
      refine lv_iconst (v := 2) hx hb dX6_passName_38 (by decide) ?_
      have hPc := hP.sub (ws' := [(h0, .inr (6, [.ref tp, .ref dr, .int y_594, .int y_595, .int q_token, .int q_start, .int q_stop]))]) [0] rfl
      have hKc := hK.sub (tys' := []) [] rfl
      have hDc := hD.sub (ws' := [(h0, .inr (6, [.ref tp, .ref dr, .int y_594, .int y_595, .int q_token, .int q_start, .int q_stop]))]) [0] (by decide) rfl
      have hFc := va_free (wc := [(h0, .inr (6, [.ref tp, .ref dr, .int y_594, .int y_595, .int q_token, .int q_start, .int q_stop]))]) hD hS hA [0] rfl
      refine va_callv (va_runV (As := [.int 1, .int 2]) (rest := []) ⟨hx, hb, hml, hown, hts⟩ (sX6_expect l dC dI H.size h0 tp dr y_594 y_595 q_token q_start q_stop 1 2 gy_594 gq_start gq_stop (gi_w (gi_c 1 1 (by decide)) (by decide)) (gi_w (gi_c 2 2 (by decide)) (by decide))) (cwV 2 hts (gz_gV mGA_250 mGA_251 mGA_252 mGA_9 mGA_253 goodGA) rfl rfl rfl (by decide +kernel) ⟨Nat.le_of_ble_eq_true rfl, Nat.le_of_ble_eq_true rfl⟩) ⟨fun a U g mk q => by obtain ⟨q0, q1, qP, qK, qD, qZ⟩ := q; exact ⟨q0, q1, qP, va_K.moved (u := U) (U := U.calling g mk a) (Vm.Alike.refl U.vm) qK, qD, nzA_same (u := U) (U := U.calling g mk a) rfl qZ⟩, va_recv hKc hPc (ci := 6) (q0 := 0) rfl rfl, fun U hU hW => ⟨rfl, by rw [hU], by rw [hU]; exact hPc, va_K.moved hW.alike hKc, hDc.weaken (fun _ _ _ _ => trivial), nzA_warm hW hz⟩⟩ rfl rfl hl.1 rfl (lv_room (Nat.le_of_ble_eq_true rfl)) dX6_passName_39 ⟨Nat.zero_le _, Nat.zero_le _⟩) hS (fun q _ h => hFc q h) hFc (fun u t H1 locs ht hvm hw hB hz1 hk1 hS => ?_)
      obtain ⟨y_657, y_658, gy_657, hpr0_r_656, hpr1_r_656, hE, hP1, hD1⟩ := hB
      rw [ht] at hP1
      obtain ⟨hP, hD⟩ := va_join (wr := [(tp, .inr (10, [.ref bt, .int b_length])), (bt, .inl (kbt, 1600, .inl fbt))]) (w1 := [(h0, .inr (6, [.ref tp, .ref dr, .int y_657, .int y_658, .int q_token, .int q_start, .int q_stop]))]) hP hD [0] [1, 2] rfl rfl (by decide) (by decide) hk1 hFc hP1 hD1
      have hpr0_r_656 : y_594.toInt ≤ y_657.toInt := hpr0_r_656
      have hpr1_r_656 : Hid (((1 : Int) = 1 ∨ 1 ≤ y_657.toInt)) := by have h9 : ((1 : Int32).toInt = 1 ∨ 1 ≤ y_657.toInt) := hpr1_r_656; rw [show (1 : Int32).toInt = 1 from by decide] at h9; exact h9
      have hP := hP.sub (ws' := [(h0, .inr (6, [.ref tp, .ref dr, .int y_657, .int y_658, .int q_token, .int q_start, .int q_stop])), (tp, .inr (10, [.ref bt, .int b_length])), (bt, .inl (kbt, 1600, .inl fbt))]) [2, 0, 1] rfl
      have hD := hD.sub (ws' := [(h0, .inr (6, [.ref tp, .ref dr, .int y_657, .int y_658, .int q_token, .int q_start, .int q_stop])), (tp, .inr (10, [.ref bt, .int b_length])), (bt, .inl (kbt, 1600, .inl fbt))]) [2, 0, 1] (by decide) rfl
      have hF := gf_call (a := (y_657, y_658)) hE hF
      generalize H1 = H at hP hS ⊢
      refine lv_aload_n hx hb dX6_passName_42 rfl (lv_at hl 0 rfl) ?_
      have hPc := hP.sub (ws' := [(h0, .inr (6, [.ref tp, .ref dr, .int y_657, .int y_658, .int q_token, .int q_start, .int q_stop])), (tp, .inr (10, [.ref bt, .int b_length])), (bt, .inl (kbt, 1600, .inl fbt))]) [0, 1, 2] rfl
      have hKc := hK.sub (tys' := [(kbt, .byte)]) [0] rfl
      refine va_calli (va_runV (As := []) (rest := []) ⟨hx, hb, hml, hown, hts⟩ (sX6_nameHere l dC dI h0 tp bt dr y_657 y_658 q_token q_start q_stop b_length kbt fbt gy_657 gq_start gq_stop gb_length) (cwV 0 hts (gz_gV mGA_294 mGA_295 mGA_296 mGA_9 mGA_297 goodGA) rfl rfl rfl (by decide +kernel) ⟨Nat.le_of_ble_eq_true rfl, Nat.le_of_ble_eq_true rfl⟩) ⟨fun a U g mk q => by obtain ⟨q0, qP, qK, qZ⟩ := q; exact ⟨q0, qP, va_K.moved (u := U) (U := U.calling g mk a) (Vm.Alike.refl U.vm) qK, nzA_same (u := U) (U := U.calling g mk a) rfl qZ⟩, va_recv hKc hPc (ci := 6) (q0 := 0) rfl rfl, fun U hU hW => ⟨rfl, by rw [hU]; exact hPc, va_K.moved hW.alike hKc, nzA_warm hW hz⟩⟩ rfl rfl hl.1 rfl (lv_room (Nat.le_of_ble_eq_true rfl)) dX6_passName_43 ⟨Nat.zero_le _, Nat.zero_le _⟩) hS (fun q _ h => h.elim) (fun q h => h.elim) (fun r_659 u t H1 locs ht hvm hw hB hz1 hk1 hS => ?_)
      obtain ⟨hw, hE⟩ := hw
      have hP := gz_keep hP hk1
      have hF := gf_call (a := r_659) hE hF
      generalize H1 = H at hP hS ⊢
      refine lv_istore_n (lv' := [(2, .int r_659), (0, .ref h0), (1, .int p1)]) hx hb dX6_passName_46 rfl hl (by decide) rfl (fun ls hl => ?_)
      refine lv_aload_n hx hb dX6_passName_47 rfl (lv_at hl 1 rfl) ?_
      refine lv_aload_n hx hb dX6_passName_48 rfl (lv_at hl 1 rfl) ?_
      refine va_get (D := (dC, dI)) (ci := 6) (v := .ref dr) (C := RX6) (T := TX6) (N := 7) hx hb hts (fun w h => List.mem_cons_of_mem _ (jnGA_X6 w h)) hown hK hP 0 rfl rfl 1 (by decide) (hts _ (List.mem_cons_of_mem _ mGA_54)) (fun _ h9 => h9) rfl dX6_passName_49 ?_
      refine lv_iload_n hx hb dX6_passName_52 rfl (lv_at hl 0 rfl) ?_
      have hPc : va_P (dC, dI) vwCl [(dr, .inr (0, [.int e_months, .int e_full, .int e_lean, .int e_lines, .int e_hasMoon, .int e_moonStart, .int e_moonStep, .int e_placeCount, .int e_reportCount, .int e_deedCount, .ref dpl, .ref dre, .ref dde])), (dpl, .inl (kdpl, 6, .inr (.inr (.inr (.inr (fun i => some (dpa i)))))))] H := (gz_cat ((gz_ro hR hRA hS).sub [0] rfl) ((gz_ro hR hRA hS).sub [1] rfl))
      have hKc := hK.sub (tys' := [(kdpl, .object RX5)]) [1] rfl
      refine va_calli (va_runV (As := [.int r_659]) (rest := [.ref h0]) ⟨hx, hb, hml, hown, hts⟩ (sX0_placeNamedF l dC dI dr dpl e_months e_full e_lean e_lines e_hasMoon e_moonStart e_moonStep e_placeCount e_reportCount e_deedCount dre dde kdpl dpa ep_name ep_trust r_659 ge_months ge_full ge_lean ge_hasMoon ge_placeCount ge_reportCount ge_deedCount) (cwV 1 hts (gz_gV mGA_298 mGA_299 mGA_300 mGA_13 mGA_301 goodGA) rfl rfl rfl (by decide +kernel) ⟨Nat.le_of_ble_eq_true rfl, Nat.le_of_ble_eq_true rfl⟩) ⟨fun a U g mk q => by obtain ⟨q0, qP, qK, qZ, qF0⟩ := q; exact ⟨q0, qP, va_K.moved (u := U) (U := U.calling g mk a) (Vm.Alike.refl U.vm) qK, nzA_same (u := U) (U := U.calling g mk a) rfl qZ, qF0⟩, va_recv hKc hPc (ci := 0) (q0 := 0) rfl rfl, fun U hU hW => ⟨rfl, by rw [hU]; exact hPc, va_K.moved hW.alike hKc, nzA_warm hW hz, by rw [hU]; exact gz_ro hF0 hFA0 hS⟩⟩ rfl rfl hl.1 rfl (lv_room (Nat.le_of_ble_eq_true rfl)) dX6_passName_53 ⟨Nat.zero_le _, Nat.zero_le _⟩) hS (fun q _ h => h.elim) (fun q h => h.elim) (fun r_660 u t H1 locs ht hvm hw hB hz1 hk1 hS => ?_)
      obtain ⟨hw, hE⟩ := hw
      have hP := gz_keep hP hk1
      have hF := gf_call (a := r_660) hE hF
      generalize H1 = H at hP hS ⊢
      have gr_660 : gi r_660 (-1) 5 := hw.1
      have hqr_660 := hw.2
      have hqr_660 : r_660.toInt = pnF ep_name e_placeCount r_659 := hqr_660
      clear hw
      refine lv_iconst (v := (-1)) hx hb dX6_passName_56 (by decide) ?_
      refine lv_icmp_eq (tgt := 64) hx hb dX6_passName_57 (by decide) (fun c_661 => ?_) (fun c_661 => ?_)
      · have hF := gf_pos c_661 hF
        have hc_662 : r_660.toInt = (-1) := by have h9 := congrArg Int32.toInt c_661; rw [show ((-1) : Int32).toInt = (-1) from by decide] at h9; exact h9
        have g_663 : gi r_660 (-1) (-1) := gi_eq c_661 (gi_c (-1) (-1) (by decide))
        refine lv_iconst (v := 0) hx hb dX6_passName_64 (by decide) ?_
        refine lv_iload_n hx hb dX6_passName_65 rfl (lv_at hl 2 rfl) ?_
        refine lv_icmp_ne (tgt := 73) hx hb dX6_passName_66 (by decide) (fun c_664 => ?_) (fun c_664 => ?_)
        · have hF := gf_neg c_664 hF
          have hc_665 : 0 ≠ p1.toInt := fun h9 => c_664 (Int32.toInt_inj.mp (by rw [show (0 : Int32).toInt = 0 from by decide]; exact h9))
          refine lv_iconst (v := 0) hx hb dX6_passName_73 (by decide) ?_
          refine lv_iconst (v := 2) hx hb dX6_passName_74 (by decide) ?_
          have hPc := hP.sub (ws' := [(h0, .inr (6, [.ref tp, .ref dr, .int y_657, .int y_658, .int q_token, .int q_start, .int q_stop]))]) [0] rfl
          have hKc := hK.sub (tys' := []) [] rfl
          have hDc := hD.sub (ws' := [(h0, .inr (6, [.ref tp, .ref dr, .int y_657, .int y_658, .int q_token, .int q_start, .int q_stop]))]) [0] (by decide) rfl
          have hFc := va_free (wc := [(h0, .inr (6, [.ref tp, .ref dr, .int y_657, .int y_658, .int q_token, .int q_start, .int q_stop]))]) hD hS hA [0] rfl
          refine va_callv (va_runV (As := [.int 0, .int 2]) (rest := []) ⟨hx, hb, hml, hown, hts⟩ (sX6_expect l dC dI H.size h0 tp dr y_657 y_658 q_token q_start q_stop 0 2 gy_657 gq_start gq_stop (gi_w (gi_c 0 0 (by decide)) (by decide)) (gi_w (gi_c 2 2 (by decide)) (by decide))) (cwV 2 hts (gz_gV mGA_250 mGA_251 mGA_252 mGA_9 mGA_253 goodGA) rfl rfl rfl (by decide +kernel) ⟨Nat.le_of_ble_eq_true rfl, Nat.le_of_ble_eq_true rfl⟩) ⟨fun a U g mk q => by obtain ⟨q0, q1, qP, qK, qD, qZ⟩ := q; exact ⟨q0, q1, qP, va_K.moved (u := U) (U := U.calling g mk a) (Vm.Alike.refl U.vm) qK, qD, nzA_same (u := U) (U := U.calling g mk a) rfl qZ⟩, va_recv hKc hPc (ci := 6) (q0 := 0) rfl rfl, fun U hU hW => ⟨rfl, by rw [hU], by rw [hU]; exact hPc, va_K.moved hW.alike hKc, hDc.weaken (fun _ _ _ _ => trivial), nzA_warm hW hz⟩⟩ rfl rfl hl.1 rfl (lv_room (Nat.le_of_ble_eq_true rfl)) dX6_passName_75 ⟨Nat.zero_le _, Nat.zero_le _⟩) hS (fun q _ h => hFc q h) hFc (fun u t H1 locs ht hvm hw hB hz1 hk1 hS => ?_)
          obtain ⟨y_667, y_668, gy_667, hpr0_r_666, hpr1_r_666, hE, hP1, hD1⟩ := hB
          rw [ht] at hP1
          obtain ⟨hP, hD⟩ := va_join (wr := [(tp, .inr (10, [.ref bt, .int b_length])), (bt, .inl (kbt, 1600, .inl fbt))]) (w1 := [(h0, .inr (6, [.ref tp, .ref dr, .int y_667, .int y_668, .int q_token, .int q_start, .int q_stop]))]) hP hD [0] [1, 2] rfl rfl (by decide) (by decide) hk1 hFc hP1 hD1
          have hpr0_r_666 : y_657.toInt ≤ y_667.toInt := hpr0_r_666
          have hpr1_r_666 : Hid (((0 : Int) = 1 ∨ 1 ≤ y_667.toInt)) := by have h9 : ((0 : Int32).toInt = 1 ∨ 1 ≤ y_667.toInt) := hpr1_r_666; rw [show (0 : Int32).toInt = 0 from by decide] at h9; exact h9
          have hf_669 : 1 ≤ y_667.toInt := Hid.resL hpr1_r_666 (by omega)
          have g_670 : gi y_667 1 3 := ⟨by omega, gy_667.2⟩
          have hP := hP.sub (ws' := [(h0, .inr (6, [.ref tp, .ref dr, .int y_667, .int y_668, .int q_token, .int q_start, .int q_stop])), (tp, .inr (10, [.ref bt, .int b_length])), (bt, .inl (kbt, 1600, .inl fbt))]) [2, 0, 1] rfl
          have hD := hD.sub (ws' := [(h0, .inr (6, [.ref tp, .ref dr, .int y_667, .int y_668, .int q_token, .int q_start, .int q_stop])), (tp, .inr (10, [.ref bt, .int b_length])), (bt, .inl (kbt, 1600, .inl fbt))]) [2, 0, 1] (by decide) rfl
          have hF := gf_call (a := (y_667, y_668)) hE hF
          generalize H1 = H at hP hS ⊢
          refine lv_aload_n hx hb dX6_passName_78 rfl (lv_at hl 1 rfl) ?_
          have hPc := hP.sub (ws' := [(h0, .inr (6, [.ref tp, .ref dr, .int y_667, .int y_668, .int q_token, .int q_start, .int q_stop])), (tp, .inr (10, [.ref bt, .int b_length])), (bt, .inl (kbt, 1600, .inl fbt))]) [0, 1, 2] rfl
          have hKc := hK.sub (tys' := [(kbt, .byte)]) [0] rfl
          have hDc := hD.sub (ws' := [(h0, .inr (6, [.ref tp, .ref dr, .int y_667, .int y_668, .int q_token, .int q_start, .int q_stop])), (tp, .inr (10, [.ref bt, .int b_length])), (bt, .inl (kbt, 1600, .inl fbt))]) [0, 1, 2] (by decide) rfl
          have hFc := va_free (wc := [(h0, .inr (6, [.ref tp, .ref dr, .int y_667, .int y_668, .int q_token, .int q_start, .int q_stop])), (tp, .inr (10, [.ref bt, .int b_length])), (bt, .inl (kbt, 1600, .inl fbt))]) hD hS hA [0, 1, 2] rfl
          refine va_callv (va_runV (As := []) (rest := []) ⟨hx, hb, hml, hown, hts⟩ (sX6_step l dC dI H.size h0 tp bt dr y_667 y_668 q_token q_start q_stop b_length kbt fbt (gi_w g_670 (by decide)) gq_start gq_stop gb_length) (cwV 0 hts (gz_gV mGA_162 mGA_163 mGA_164 mGA_9 mGA_165 goodGA) rfl rfl rfl (by decide +kernel) ⟨Nat.le_of_ble_eq_true rfl, Nat.le_of_ble_eq_true rfl⟩) ⟨fun a U g mk q => by obtain ⟨q0, q1, qP, qK, qD, qZ⟩ := q; exact ⟨q0, q1, qP, va_K.moved (u := U) (U := U.calling g mk a) (Vm.Alike.refl U.vm) qK, qD, nzA_same (u := U) (U := U.calling g mk a) rfl qZ⟩, va_recv hKc hPc (ci := 6) (q0 := 0) rfl rfl, fun U hU hW => ⟨rfl, by rw [hU], by rw [hU]; exact hPc, va_K.moved hW.alike hKc, hDc.weaken (fun _ _ _ _ => trivial), nzA_warm hW hz⟩⟩ rfl rfl hl.1 rfl (lv_room (Nat.le_of_ble_eq_true rfl)) dX6_passName_79 ⟨Nat.zero_le _, Nat.zero_le _⟩) hS (fun q _ h => hFc q h) hFc (fun u t H1 locs ht hvm hw hB hz1 hk1 hS => ?_)
          obtain ⟨y_672, y_673, y_674, gy_673, gy_674, hE, hP1, hD1⟩ := hB
          rw [ht] at hP1
          obtain ⟨hP, hD⟩ := va_join (wr := []) (w1 := [(h0, .inr (6, [.ref tp, .ref dr, .int y_667, .int y_668, .int y_672, .int y_673, .int y_674])), (tp, .inr (10, [.ref bt, .int b_length])), (bt, .inl (kbt, 1600, .inl fbt))]) hP hD [0, 1, 2] [] rfl rfl (by decide) (by decide) hk1 hFc hP1 hD1
          have hP := hP.sub (ws' := [(h0, .inr (6, [.ref tp, .ref dr, .int y_667, .int y_668, .int y_672, .int y_673, .int y_674])), (tp, .inr (10, [.ref bt, .int b_length])), (bt, .inl (kbt, 1600, .inl fbt))]) [0, 1, 2] rfl
          have hD := hD.sub (ws' := [(h0, .inr (6, [.ref tp, .ref dr, .int y_667, .int y_668, .int y_672, .int y_673, .int y_674])), (tp, .inr (10, [.ref bt, .int b_length])), (bt, .inl (kbt, 1600, .inl fbt))]) [0, 1, 2] (by decide) rfl
          have hF := gf_call (a := (y_672, y_673, y_674)) hE hF
          generalize H1 = H at hP hS ⊢
          refine lv_iload_n hx hb dX6_passName_82 rfl (lv_at hl 0 rfl) ?_
          exact W.iret (v := r_659) hx hb hr (fun t ht hW => ⟨⟨r_659, r_659, rfl, ⟨rfl, (gi_any r_659)⟩, y_667, y_668, y_672, y_673, y_674, (gi_w g_670 (by decide)), gy_673, gy_674, (show q_faultKind.toInt ≤ y_667.toInt from by have qgy_667 := g_670.1; have rgy_667 := g_670.2; have qgy_657 := gy_657.1; have rgy_657 := gy_657.2; have qgy_594 := gy_594.1; have rgy_594 := gy_594.2; have qgx_596 := g_655.1; have rgx_596 := g_655.2; have igx_596 : x_596.toInt = q_stop.toInt - q_start.toInt := (by have h9 := gi_subI ex_596 (by have h1 := gq_stop.1; have h2 := gq_start.1; have h3 := gq_stop.2; have h4 := gq_start.2; omega) (by have h1 := gq_stop.1; have h2 := gq_start.1; have h3 := gq_stop.2; have h4 := gq_start.2; omega); exact h9); have qgq_start := gq_start.1; have rgq_start := gq_start.2; have qgq_stop := gq_stop.1; have rgq_stop := gq_stop.2; have qgr_660 := g_663.1; have rgr_660 := g_663.2; have qgq_token := g_592.1; have rgq_token := g_592.2; have qgq_faultKind := gq_faultKind.1; have rgq_faultKind := gq_faultKind.2; have qgp1 := gp1.1; have rgp1 := gp1.2; have qge_placeCount := ge_placeCount.1; have rge_placeCount := ge_placeCount.2; omega), (show (y_667.toInt ≠ 0 ∨ p1.toInt = 0 ∨ pnF ep_name e_placeCount r_659 ≠ -1) from by have qgy_667 := g_670.1; have rgy_667 := g_670.2; have qgy_657 := gy_657.1; have rgy_657 := gy_657.2; have qgy_594 := gy_594.1; have rgy_594 := gy_594.2; have qgx_596 := g_655.1; have rgx_596 := g_655.2; have igx_596 : x_596.toInt = q_stop.toInt - q_start.toInt := (by have h9 := gi_subI ex_596 (by have h1 := gq_stop.1; have h2 := gq_start.1; have h3 := gq_stop.2; have h4 := gq_start.2; omega) (by have h1 := gq_stop.1; have h2 := gq_start.1; have h3 := gq_stop.2; have h4 := gq_start.2; omega); exact h9); have qgq_start := gq_start.1; have rgq_start := gq_start.2; have qgq_stop := gq_stop.1; have rgq_stop := gq_stop.2; have qgr_660 := g_663.1; have rgr_660 := g_663.2; have qgq_token := g_592.1; have rgq_token := g_592.2; have qgq_faultKind := gq_faultKind.1; have rgq_faultKind := gq_faultKind.2; have qgp1 := gp1.1; have rgp1 := gp1.2; have qge_placeCount := ge_placeCount.1; have rge_placeCount := ge_placeCount.2; omega), hF.trans hR9.symm, by rw [ht]; exact hP, hD⟩, hS.F ht⟩) hS.2.2 dX6_passName_83
        · have hF := gf_pos c_664 hF
          have hc_675 : 0 = p1.toInt := by have h9 := congrArg Int32.toInt c_664; rw [show (0 : Int32).toInt = 0 from by decide] at h9; exact h9
          have g_676 : gi p1 0 0 := gi_eq c_664.symm (gi_c 0 0 (by decide))
          refine lv_iconst (v := 1) hx hb dX6_passName_69 (by decide) ?_
          refine lv_goto (tgt := 74) hx hb dX6_passName_70 (by decide) ?_
          refine lv_iconst (v := 2) hx hb dX6_passName_74 (by decide) ?_
          have hPc := hP.sub (ws' := [(h0, .inr (6, [.ref tp, .ref dr, .int y_657, .int y_658, .int q_token, .int q_start, .int q_stop]))]) [0] rfl
          have hKc := hK.sub (tys' := []) [] rfl
          have hDc := hD.sub (ws' := [(h0, .inr (6, [.ref tp, .ref dr, .int y_657, .int y_658, .int q_token, .int q_start, .int q_stop]))]) [0] (by decide) rfl
          have hFc := va_free (wc := [(h0, .inr (6, [.ref tp, .ref dr, .int y_657, .int y_658, .int q_token, .int q_start, .int q_stop]))]) hD hS hA [0] rfl
          refine va_callv (va_runV (As := [.int 1, .int 2]) (rest := []) ⟨hx, hb, hml, hown, hts⟩ (sX6_expect l dC dI H.size h0 tp dr y_657 y_658 q_token q_start q_stop 1 2 gy_657 gq_start gq_stop (gi_w (gi_c 1 1 (by decide)) (by decide)) (gi_w (gi_c 2 2 (by decide)) (by decide))) (cwV 2 hts (gz_gV mGA_250 mGA_251 mGA_252 mGA_9 mGA_253 goodGA) rfl rfl rfl (by decide +kernel) ⟨Nat.le_of_ble_eq_true rfl, Nat.le_of_ble_eq_true rfl⟩) ⟨fun a U g mk q => by obtain ⟨q0, q1, qP, qK, qD, qZ⟩ := q; exact ⟨q0, q1, qP, va_K.moved (u := U) (U := U.calling g mk a) (Vm.Alike.refl U.vm) qK, qD, nzA_same (u := U) (U := U.calling g mk a) rfl qZ⟩, va_recv hKc hPc (ci := 6) (q0 := 0) rfl rfl, fun U hU hW => ⟨rfl, by rw [hU], by rw [hU]; exact hPc, va_K.moved hW.alike hKc, hDc.weaken (fun _ _ _ _ => trivial), nzA_warm hW hz⟩⟩ rfl rfl hl.1 rfl (lv_room (Nat.le_of_ble_eq_true rfl)) dX6_passName_75 ⟨Nat.zero_le _, Nat.zero_le _⟩) hS (fun q _ h => hFc q h) hFc (fun u t H1 locs ht hvm hw hB hz1 hk1 hS => ?_)
          obtain ⟨y_678, y_679, gy_678, hpr0_r_677, hpr1_r_677, hE, hP1, hD1⟩ := hB
          rw [ht] at hP1
          obtain ⟨hP, hD⟩ := va_join (wr := [(tp, .inr (10, [.ref bt, .int b_length])), (bt, .inl (kbt, 1600, .inl fbt))]) (w1 := [(h0, .inr (6, [.ref tp, .ref dr, .int y_678, .int y_679, .int q_token, .int q_start, .int q_stop]))]) hP hD [0] [1, 2] rfl rfl (by decide) (by decide) hk1 hFc hP1 hD1
          have hpr0_r_677 : y_657.toInt ≤ y_678.toInt := hpr0_r_677
          have hpr1_r_677 : Hid (((1 : Int) = 1 ∨ 1 ≤ y_678.toInt)) := by have h9 : ((1 : Int32).toInt = 1 ∨ 1 ≤ y_678.toInt) := hpr1_r_677; rw [show (1 : Int32).toInt = 1 from by decide] at h9; exact h9
          have hP := hP.sub (ws' := [(h0, .inr (6, [.ref tp, .ref dr, .int y_678, .int y_679, .int q_token, .int q_start, .int q_stop])), (tp, .inr (10, [.ref bt, .int b_length])), (bt, .inl (kbt, 1600, .inl fbt))]) [2, 0, 1] rfl
          have hD := hD.sub (ws' := [(h0, .inr (6, [.ref tp, .ref dr, .int y_678, .int y_679, .int q_token, .int q_start, .int q_stop])), (tp, .inr (10, [.ref bt, .int b_length])), (bt, .inl (kbt, 1600, .inl fbt))]) [2, 0, 1] (by decide) rfl
          have hF := gf_call (a := (y_678, y_679)) hE hF
          generalize H1 = H at hP hS ⊢
          refine lv_aload_n hx hb dX6_passName_78 rfl (lv_at hl 1 rfl) ?_
          have hPc := hP.sub (ws' := [(h0, .inr (6, [.ref tp, .ref dr, .int y_678, .int y_679, .int q_token, .int q_start, .int q_stop])), (tp, .inr (10, [.ref bt, .int b_length])), (bt, .inl (kbt, 1600, .inl fbt))]) [0, 1, 2] rfl
          have hKc := hK.sub (tys' := [(kbt, .byte)]) [0] rfl
          have hDc := hD.sub (ws' := [(h0, .inr (6, [.ref tp, .ref dr, .int y_678, .int y_679, .int q_token, .int q_start, .int q_stop])), (tp, .inr (10, [.ref bt, .int b_length])), (bt, .inl (kbt, 1600, .inl fbt))]) [0, 1, 2] (by decide) rfl
          have hFc := va_free (wc := [(h0, .inr (6, [.ref tp, .ref dr, .int y_678, .int y_679, .int q_token, .int q_start, .int q_stop])), (tp, .inr (10, [.ref bt, .int b_length])), (bt, .inl (kbt, 1600, .inl fbt))]) hD hS hA [0, 1, 2] rfl
          refine va_callv (va_runV (As := []) (rest := []) ⟨hx, hb, hml, hown, hts⟩ (sX6_step l dC dI H.size h0 tp bt dr y_678 y_679 q_token q_start q_stop b_length kbt fbt gy_678 gq_start gq_stop gb_length) (cwV 0 hts (gz_gV mGA_162 mGA_163 mGA_164 mGA_9 mGA_165 goodGA) rfl rfl rfl (by decide +kernel) ⟨Nat.le_of_ble_eq_true rfl, Nat.le_of_ble_eq_true rfl⟩) ⟨fun a U g mk q => by obtain ⟨q0, q1, qP, qK, qD, qZ⟩ := q; exact ⟨q0, q1, qP, va_K.moved (u := U) (U := U.calling g mk a) (Vm.Alike.refl U.vm) qK, qD, nzA_same (u := U) (U := U.calling g mk a) rfl qZ⟩, va_recv hKc hPc (ci := 6) (q0 := 0) rfl rfl, fun U hU hW => ⟨rfl, by rw [hU], by rw [hU]; exact hPc, va_K.moved hW.alike hKc, hDc.weaken (fun _ _ _ _ => trivial), nzA_warm hW hz⟩⟩ rfl rfl hl.1 rfl (lv_room (Nat.le_of_ble_eq_true rfl)) dX6_passName_79 ⟨Nat.zero_le _, Nat.zero_le _⟩) hS (fun q _ h => hFc q h) hFc (fun u t H1 locs ht hvm hw hB hz1 hk1 hS => ?_)
          obtain ⟨y_681, y_682, y_683, gy_682, gy_683, hE, hP1, hD1⟩ := hB
          rw [ht] at hP1
          obtain ⟨hP, hD⟩ := va_join (wr := []) (w1 := [(h0, .inr (6, [.ref tp, .ref dr, .int y_678, .int y_679, .int y_681, .int y_682, .int y_683])), (tp, .inr (10, [.ref bt, .int b_length])), (bt, .inl (kbt, 1600, .inl fbt))]) hP hD [0, 1, 2] [] rfl rfl (by decide) (by decide) hk1 hFc hP1 hD1
          have hP := hP.sub (ws' := [(h0, .inr (6, [.ref tp, .ref dr, .int y_678, .int y_679, .int y_681, .int y_682, .int y_683])), (tp, .inr (10, [.ref bt, .int b_length])), (bt, .inl (kbt, 1600, .inl fbt))]) [0, 1, 2] rfl
          have hD := hD.sub (ws' := [(h0, .inr (6, [.ref tp, .ref dr, .int y_678, .int y_679, .int y_681, .int y_682, .int y_683])), (tp, .inr (10, [.ref bt, .int b_length])), (bt, .inl (kbt, 1600, .inl fbt))]) [0, 1, 2] (by decide) rfl
          have hF := gf_call (a := (y_681, y_682, y_683)) hE hF
          generalize H1 = H at hP hS ⊢
          refine lv_iload_n hx hb dX6_passName_82 rfl (lv_at hl 0 rfl) ?_
          exact W.iret (v := r_659) hx hb hr (fun t ht hW => ⟨⟨r_659, r_659, rfl, ⟨rfl, (gi_any r_659)⟩, y_678, y_679, y_681, y_682, y_683, gy_678, gy_682, gy_683, (show q_faultKind.toInt ≤ y_678.toInt from by have qgy_678 := gy_678.1; have rgy_678 := gy_678.2; have qgy_657 := gy_657.1; have rgy_657 := gy_657.2; have qgy_594 := gy_594.1; have rgy_594 := gy_594.2; have qgx_596 := g_655.1; have rgx_596 := g_655.2; have igx_596 : x_596.toInt = q_stop.toInt - q_start.toInt := (by have h9 := gi_subI ex_596 (by have h1 := gq_stop.1; have h2 := gq_start.1; have h3 := gq_stop.2; have h4 := gq_start.2; omega) (by have h1 := gq_stop.1; have h2 := gq_start.1; have h3 := gq_stop.2; have h4 := gq_start.2; omega); exact h9); have qgq_start := gq_start.1; have rgq_start := gq_start.2; have qgq_stop := gq_stop.1; have rgq_stop := gq_stop.2; have qgr_660 := g_663.1; have rgr_660 := g_663.2; have qgq_token := g_592.1; have rgq_token := g_592.2; have qgq_faultKind := gq_faultKind.1; have rgq_faultKind := gq_faultKind.2; have qgp1 := g_676.1; have rgp1 := g_676.2; have qge_placeCount := ge_placeCount.1; have rge_placeCount := ge_placeCount.2; omega), (show (y_678.toInt ≠ 0 ∨ p1.toInt = 0 ∨ pnF ep_name e_placeCount r_659 ≠ -1) from by by_cases h9 : y_678.toInt ≠ 0; exact Or.inl h9; refine Or.inr ?_; have lgq_faultKind := gq_faultKind.1; have mgq_faultKind := gq_faultKind.2; have lgy_594 := gy_594.1; have mgy_594 := gy_594.2; have lgy_657 := gy_657.1; have mgy_657 := gy_657.2; have lgy_678 := gy_678.1; have mgy_678 := gy_678.2; have qgy_678 := gy_678.1; have rgy_678 := gy_678.2; have qgy_657 := gy_657.1; have rgy_657 := gy_657.2; have qgy_594 := gy_594.1; have rgy_594 := gy_594.2; have qgx_596 := g_655.1; have rgx_596 := g_655.2; have igx_596 : x_596.toInt = q_stop.toInt - q_start.toInt := (by have h9 := gi_subI ex_596 (by have h1 := gq_stop.1; have h2 := gq_start.1; have h3 := gq_stop.2; have h4 := gq_start.2; omega) (by have h1 := gq_stop.1; have h2 := gq_start.1; have h3 := gq_stop.2; have h4 := gq_start.2; omega); exact h9); have qgq_start := gq_start.1; have rgq_start := gq_start.2; have qgq_stop := gq_stop.1; have rgq_stop := gq_stop.2; have qgr_660 := g_663.1; have rgr_660 := g_663.2; have qgq_token := g_592.1; have rgq_token := g_592.2; have qgq_faultKind := gq_faultKind.1; have rgq_faultKind := gq_faultKind.2; have qgp1 := g_676.1; have rgp1 := g_676.2; have qge_placeCount := ge_placeCount.1; have rge_placeCount := ge_placeCount.2; omega), hF.trans hR9.symm, by rw [ht]; exact hP, hD⟩, hS.F ht⟩) hS.2.2 dX6_passName_83
      · have hF := gf_neg c_661 hF
        have hc_684 : r_660.toInt ≠ (-1) := fun h9 => c_661 (Int32.toInt_inj.mp (by rw [show ((-1) : Int32).toInt = (-1) from by decide]; exact h9))
        have g_685 : gi r_660 0 5 := gi_ne_lo c_661 gr_660 (gi_c (-1) (-1) (by decide)) (by decide)
        refine lv_iconst (v := 1) hx hb dX6_passName_60 (by decide) ?_
        refine lv_goto (tgt := 65) hx hb dX6_passName_61 (by decide) ?_
        refine lv_iload_n hx hb dX6_passName_65 rfl (lv_at hl 2 rfl) ?_
        refine lv_icmp_ne (tgt := 73) hx hb dX6_passName_66 (by decide) (fun c_686 => ?_) (fun c_686 => ?_)
        · have hF := gf_neg c_686 hF
          have hc_687 : 1 ≠ p1.toInt := fun h9 => c_686 (Int32.toInt_inj.mp (by rw [show (1 : Int32).toInt = 1 from by decide]; exact h9))
          refine lv_iconst (v := 0) hx hb dX6_passName_73 (by decide) ?_
          refine lv_iconst (v := 2) hx hb dX6_passName_74 (by decide) ?_
          have hPc := hP.sub (ws' := [(h0, .inr (6, [.ref tp, .ref dr, .int y_657, .int y_658, .int q_token, .int q_start, .int q_stop]))]) [0] rfl
          have hKc := hK.sub (tys' := []) [] rfl
          have hDc := hD.sub (ws' := [(h0, .inr (6, [.ref tp, .ref dr, .int y_657, .int y_658, .int q_token, .int q_start, .int q_stop]))]) [0] (by decide) rfl
          have hFc := va_free (wc := [(h0, .inr (6, [.ref tp, .ref dr, .int y_657, .int y_658, .int q_token, .int q_start, .int q_stop]))]) hD hS hA [0] rfl
          refine va_callv (va_runV (As := [.int 0, .int 2]) (rest := []) ⟨hx, hb, hml, hown, hts⟩ (sX6_expect l dC dI H.size h0 tp dr y_657 y_658 q_token q_start q_stop 0 2 gy_657 gq_start gq_stop (gi_w (gi_c 0 0 (by decide)) (by decide)) (gi_w (gi_c 2 2 (by decide)) (by decide))) (cwV 2 hts (gz_gV mGA_250 mGA_251 mGA_252 mGA_9 mGA_253 goodGA) rfl rfl rfl (by decide +kernel) ⟨Nat.le_of_ble_eq_true rfl, Nat.le_of_ble_eq_true rfl⟩) ⟨fun a U g mk q => by obtain ⟨q0, q1, qP, qK, qD, qZ⟩ := q; exact ⟨q0, q1, qP, va_K.moved (u := U) (U := U.calling g mk a) (Vm.Alike.refl U.vm) qK, qD, nzA_same (u := U) (U := U.calling g mk a) rfl qZ⟩, va_recv hKc hPc (ci := 6) (q0 := 0) rfl rfl, fun U hU hW => ⟨rfl, by rw [hU], by rw [hU]; exact hPc, va_K.moved hW.alike hKc, hDc.weaken (fun _ _ _ _ => trivial), nzA_warm hW hz⟩⟩ rfl rfl hl.1 rfl (lv_room (Nat.le_of_ble_eq_true rfl)) dX6_passName_75 ⟨Nat.zero_le _, Nat.zero_le _⟩) hS (fun q _ h => hFc q h) hFc (fun u t H1 locs ht hvm hw hB hz1 hk1 hS => ?_)
          obtain ⟨y_689, y_690, gy_689, hpr0_r_688, hpr1_r_688, hE, hP1, hD1⟩ := hB
          rw [ht] at hP1
          obtain ⟨hP, hD⟩ := va_join (wr := [(tp, .inr (10, [.ref bt, .int b_length])), (bt, .inl (kbt, 1600, .inl fbt))]) (w1 := [(h0, .inr (6, [.ref tp, .ref dr, .int y_689, .int y_690, .int q_token, .int q_start, .int q_stop]))]) hP hD [0] [1, 2] rfl rfl (by decide) (by decide) hk1 hFc hP1 hD1
          have hpr0_r_688 : y_657.toInt ≤ y_689.toInt := hpr0_r_688
          have hpr1_r_688 : Hid (((0 : Int) = 1 ∨ 1 ≤ y_689.toInt)) := by have h9 : ((0 : Int32).toInt = 1 ∨ 1 ≤ y_689.toInt) := hpr1_r_688; rw [show (0 : Int32).toInt = 0 from by decide] at h9; exact h9
          have hf_691 : 1 ≤ y_689.toInt := Hid.resL hpr1_r_688 (by omega)
          have g_692 : gi y_689 1 3 := ⟨by omega, gy_689.2⟩
          have hP := hP.sub (ws' := [(h0, .inr (6, [.ref tp, .ref dr, .int y_689, .int y_690, .int q_token, .int q_start, .int q_stop])), (tp, .inr (10, [.ref bt, .int b_length])), (bt, .inl (kbt, 1600, .inl fbt))]) [2, 0, 1] rfl
          have hD := hD.sub (ws' := [(h0, .inr (6, [.ref tp, .ref dr, .int y_689, .int y_690, .int q_token, .int q_start, .int q_stop])), (tp, .inr (10, [.ref bt, .int b_length])), (bt, .inl (kbt, 1600, .inl fbt))]) [2, 0, 1] (by decide) rfl
          have hF := gf_call (a := (y_689, y_690)) hE hF
          generalize H1 = H at hP hS ⊢
          refine lv_aload_n hx hb dX6_passName_78 rfl (lv_at hl 1 rfl) ?_
          have hPc := hP.sub (ws' := [(h0, .inr (6, [.ref tp, .ref dr, .int y_689, .int y_690, .int q_token, .int q_start, .int q_stop])), (tp, .inr (10, [.ref bt, .int b_length])), (bt, .inl (kbt, 1600, .inl fbt))]) [0, 1, 2] rfl
          have hKc := hK.sub (tys' := [(kbt, .byte)]) [0] rfl
          have hDc := hD.sub (ws' := [(h0, .inr (6, [.ref tp, .ref dr, .int y_689, .int y_690, .int q_token, .int q_start, .int q_stop])), (tp, .inr (10, [.ref bt, .int b_length])), (bt, .inl (kbt, 1600, .inl fbt))]) [0, 1, 2] (by decide) rfl
          have hFc := va_free (wc := [(h0, .inr (6, [.ref tp, .ref dr, .int y_689, .int y_690, .int q_token, .int q_start, .int q_stop])), (tp, .inr (10, [.ref bt, .int b_length])), (bt, .inl (kbt, 1600, .inl fbt))]) hD hS hA [0, 1, 2] rfl
          refine va_callv (va_runV (As := []) (rest := []) ⟨hx, hb, hml, hown, hts⟩ (sX6_step l dC dI H.size h0 tp bt dr y_689 y_690 q_token q_start q_stop b_length kbt fbt (gi_w g_692 (by decide)) gq_start gq_stop gb_length) (cwV 0 hts (gz_gV mGA_162 mGA_163 mGA_164 mGA_9 mGA_165 goodGA) rfl rfl rfl (by decide +kernel) ⟨Nat.le_of_ble_eq_true rfl, Nat.le_of_ble_eq_true rfl⟩) ⟨fun a U g mk q => by obtain ⟨q0, q1, qP, qK, qD, qZ⟩ := q; exact ⟨q0, q1, qP, va_K.moved (u := U) (U := U.calling g mk a) (Vm.Alike.refl U.vm) qK, qD, nzA_same (u := U) (U := U.calling g mk a) rfl qZ⟩, va_recv hKc hPc (ci := 6) (q0 := 0) rfl rfl, fun U hU hW => ⟨rfl, by rw [hU], by rw [hU]; exact hPc, va_K.moved hW.alike hKc, hDc.weaken (fun _ _ _ _ => trivial), nzA_warm hW hz⟩⟩ rfl rfl hl.1 rfl (lv_room (Nat.le_of_ble_eq_true rfl)) dX6_passName_79 ⟨Nat.zero_le _, Nat.zero_le _⟩) hS (fun q _ h => hFc q h) hFc (fun u t H1 locs ht hvm hw hB hz1 hk1 hS => ?_)
          obtain ⟨y_694, y_695, y_696, gy_695, gy_696, hE, hP1, hD1⟩ := hB
          rw [ht] at hP1
          obtain ⟨hP, hD⟩ := va_join (wr := []) (w1 := [(h0, .inr (6, [.ref tp, .ref dr, .int y_689, .int y_690, .int y_694, .int y_695, .int y_696])), (tp, .inr (10, [.ref bt, .int b_length])), (bt, .inl (kbt, 1600, .inl fbt))]) hP hD [0, 1, 2] [] rfl rfl (by decide) (by decide) hk1 hFc hP1 hD1
          have hP := hP.sub (ws' := [(h0, .inr (6, [.ref tp, .ref dr, .int y_689, .int y_690, .int y_694, .int y_695, .int y_696])), (tp, .inr (10, [.ref bt, .int b_length])), (bt, .inl (kbt, 1600, .inl fbt))]) [0, 1, 2] rfl
          have hD := hD.sub (ws' := [(h0, .inr (6, [.ref tp, .ref dr, .int y_689, .int y_690, .int y_694, .int y_695, .int y_696])), (tp, .inr (10, [.ref bt, .int b_length])), (bt, .inl (kbt, 1600, .inl fbt))]) [0, 1, 2] (by decide) rfl
          have hF := gf_call (a := (y_694, y_695, y_696)) hE hF
          generalize H1 = H at hP hS ⊢
          refine lv_iload_n hx hb dX6_passName_82 rfl (lv_at hl 0 rfl) ?_
          exact W.iret (v := r_659) hx hb hr (fun t ht hW => ⟨⟨r_659, r_659, rfl, ⟨rfl, (gi_any r_659)⟩, y_689, y_690, y_694, y_695, y_696, (gi_w g_692 (by decide)), gy_695, gy_696, (show q_faultKind.toInt ≤ y_689.toInt from by have qgy_689 := g_692.1; have rgy_689 := g_692.2; have qgy_657 := gy_657.1; have rgy_657 := gy_657.2; have qgy_594 := gy_594.1; have rgy_594 := gy_594.2; have qgx_596 := g_655.1; have rgx_596 := g_655.2; have igx_596 : x_596.toInt = q_stop.toInt - q_start.toInt := (by have h9 := gi_subI ex_596 (by have h1 := gq_stop.1; have h2 := gq_start.1; have h3 := gq_stop.2; have h4 := gq_start.2; omega) (by have h1 := gq_stop.1; have h2 := gq_start.1; have h3 := gq_stop.2; have h4 := gq_start.2; omega); exact h9); have qgq_start := gq_start.1; have rgq_start := gq_start.2; have qgq_stop := gq_stop.1; have rgq_stop := gq_stop.2; have qgr_660 := g_685.1; have rgr_660 := g_685.2; have qgq_token := g_592.1; have rgq_token := g_592.2; have qgq_faultKind := gq_faultKind.1; have rgq_faultKind := gq_faultKind.2; have qgp1 := gp1.1; have rgp1 := gp1.2; have qge_placeCount := ge_placeCount.1; have rge_placeCount := ge_placeCount.2; omega), (show (y_689.toInt ≠ 0 ∨ p1.toInt = 0 ∨ pnF ep_name e_placeCount r_659 ≠ -1) from by have qgy_689 := g_692.1; have rgy_689 := g_692.2; have qgy_657 := gy_657.1; have rgy_657 := gy_657.2; have qgy_594 := gy_594.1; have rgy_594 := gy_594.2; have qgx_596 := g_655.1; have rgx_596 := g_655.2; have igx_596 : x_596.toInt = q_stop.toInt - q_start.toInt := (by have h9 := gi_subI ex_596 (by have h1 := gq_stop.1; have h2 := gq_start.1; have h3 := gq_stop.2; have h4 := gq_start.2; omega) (by have h1 := gq_stop.1; have h2 := gq_start.1; have h3 := gq_stop.2; have h4 := gq_start.2; omega); exact h9); have qgq_start := gq_start.1; have rgq_start := gq_start.2; have qgq_stop := gq_stop.1; have rgq_stop := gq_stop.2; have qgr_660 := g_685.1; have rgr_660 := g_685.2; have qgq_token := g_592.1; have rgq_token := g_592.2; have qgq_faultKind := gq_faultKind.1; have rgq_faultKind := gq_faultKind.2; have qgp1 := gp1.1; have rgp1 := gp1.2; have qge_placeCount := ge_placeCount.1; have rge_placeCount := ge_placeCount.2; omega), hF.trans hR9.symm, by rw [ht]; exact hP, hD⟩, hS.F ht⟩) hS.2.2 dX6_passName_83
        · have hF := gf_pos c_686 hF
          have hc_697 : 1 = p1.toInt := by have h9 := congrArg Int32.toInt c_686; rw [show (1 : Int32).toInt = 1 from by decide] at h9; exact h9
          have g_698 : gi p1 1 1 := gi_eq c_686.symm (gi_c 1 1 (by decide))
          refine lv_iconst (v := 1) hx hb dX6_passName_69 (by decide) ?_
          refine lv_goto (tgt := 74) hx hb dX6_passName_70 (by decide) ?_
          refine lv_iconst (v := 2) hx hb dX6_passName_74 (by decide) ?_
          have hPc := hP.sub (ws' := [(h0, .inr (6, [.ref tp, .ref dr, .int y_657, .int y_658, .int q_token, .int q_start, .int q_stop]))]) [0] rfl
          have hKc := hK.sub (tys' := []) [] rfl
          have hDc := hD.sub (ws' := [(h0, .inr (6, [.ref tp, .ref dr, .int y_657, .int y_658, .int q_token, .int q_start, .int q_stop]))]) [0] (by decide) rfl
          have hFc := va_free (wc := [(h0, .inr (6, [.ref tp, .ref dr, .int y_657, .int y_658, .int q_token, .int q_start, .int q_stop]))]) hD hS hA [0] rfl
          refine va_callv (va_runV (As := [.int 1, .int 2]) (rest := []) ⟨hx, hb, hml, hown, hts⟩ (sX6_expect l dC dI H.size h0 tp dr y_657 y_658 q_token q_start q_stop 1 2 gy_657 gq_start gq_stop (gi_w (gi_c 1 1 (by decide)) (by decide)) (gi_w (gi_c 2 2 (by decide)) (by decide))) (cwV 2 hts (gz_gV mGA_250 mGA_251 mGA_252 mGA_9 mGA_253 goodGA) rfl rfl rfl (by decide +kernel) ⟨Nat.le_of_ble_eq_true rfl, Nat.le_of_ble_eq_true rfl⟩) ⟨fun a U g mk q => by obtain ⟨q0, q1, qP, qK, qD, qZ⟩ := q; exact ⟨q0, q1, qP, va_K.moved (u := U) (U := U.calling g mk a) (Vm.Alike.refl U.vm) qK, qD, nzA_same (u := U) (U := U.calling g mk a) rfl qZ⟩, va_recv hKc hPc (ci := 6) (q0 := 0) rfl rfl, fun U hU hW => ⟨rfl, by rw [hU], by rw [hU]; exact hPc, va_K.moved hW.alike hKc, hDc.weaken (fun _ _ _ _ => trivial), nzA_warm hW hz⟩⟩ rfl rfl hl.1 rfl (lv_room (Nat.le_of_ble_eq_true rfl)) dX6_passName_75 ⟨Nat.zero_le _, Nat.zero_le _⟩) hS (fun q _ h => hFc q h) hFc (fun u t H1 locs ht hvm hw hB hz1 hk1 hS => ?_)
          obtain ⟨y_700, y_701, gy_700, hpr0_r_699, hpr1_r_699, hE, hP1, hD1⟩ := hB
          rw [ht] at hP1
          obtain ⟨hP, hD⟩ := va_join (wr := [(tp, .inr (10, [.ref bt, .int b_length])), (bt, .inl (kbt, 1600, .inl fbt))]) (w1 := [(h0, .inr (6, [.ref tp, .ref dr, .int y_700, .int y_701, .int q_token, .int q_start, .int q_stop]))]) hP hD [0] [1, 2] rfl rfl (by decide) (by decide) hk1 hFc hP1 hD1
          have hpr0_r_699 : y_657.toInt ≤ y_700.toInt := hpr0_r_699
          have hpr1_r_699 : Hid (((1 : Int) = 1 ∨ 1 ≤ y_700.toInt)) := by have h9 : ((1 : Int32).toInt = 1 ∨ 1 ≤ y_700.toInt) := hpr1_r_699; rw [show (1 : Int32).toInt = 1 from by decide] at h9; exact h9
          have hP := hP.sub (ws' := [(h0, .inr (6, [.ref tp, .ref dr, .int y_700, .int y_701, .int q_token, .int q_start, .int q_stop])), (tp, .inr (10, [.ref bt, .int b_length])), (bt, .inl (kbt, 1600, .inl fbt))]) [2, 0, 1] rfl
          have hD := hD.sub (ws' := [(h0, .inr (6, [.ref tp, .ref dr, .int y_700, .int y_701, .int q_token, .int q_start, .int q_stop])), (tp, .inr (10, [.ref bt, .int b_length])), (bt, .inl (kbt, 1600, .inl fbt))]) [2, 0, 1] (by decide) rfl
          have hF := gf_call (a := (y_700, y_701)) hE hF
          generalize H1 = H at hP hS ⊢
          refine lv_aload_n hx hb dX6_passName_78 rfl (lv_at hl 1 rfl) ?_
          have hPc := hP.sub (ws' := [(h0, .inr (6, [.ref tp, .ref dr, .int y_700, .int y_701, .int q_token, .int q_start, .int q_stop])), (tp, .inr (10, [.ref bt, .int b_length])), (bt, .inl (kbt, 1600, .inl fbt))]) [0, 1, 2] rfl
          have hKc := hK.sub (tys' := [(kbt, .byte)]) [0] rfl
          have hDc := hD.sub (ws' := [(h0, .inr (6, [.ref tp, .ref dr, .int y_700, .int y_701, .int q_token, .int q_start, .int q_stop])), (tp, .inr (10, [.ref bt, .int b_length])), (bt, .inl (kbt, 1600, .inl fbt))]) [0, 1, 2] (by decide) rfl
          have hFc := va_free (wc := [(h0, .inr (6, [.ref tp, .ref dr, .int y_700, .int y_701, .int q_token, .int q_start, .int q_stop])), (tp, .inr (10, [.ref bt, .int b_length])), (bt, .inl (kbt, 1600, .inl fbt))]) hD hS hA [0, 1, 2] rfl
          refine va_callv (va_runV (As := []) (rest := []) ⟨hx, hb, hml, hown, hts⟩ (sX6_step l dC dI H.size h0 tp bt dr y_700 y_701 q_token q_start q_stop b_length kbt fbt gy_700 gq_start gq_stop gb_length) (cwV 0 hts (gz_gV mGA_162 mGA_163 mGA_164 mGA_9 mGA_165 goodGA) rfl rfl rfl (by decide +kernel) ⟨Nat.le_of_ble_eq_true rfl, Nat.le_of_ble_eq_true rfl⟩) ⟨fun a U g mk q => by obtain ⟨q0, q1, qP, qK, qD, qZ⟩ := q; exact ⟨q0, q1, qP, va_K.moved (u := U) (U := U.calling g mk a) (Vm.Alike.refl U.vm) qK, qD, nzA_same (u := U) (U := U.calling g mk a) rfl qZ⟩, va_recv hKc hPc (ci := 6) (q0 := 0) rfl rfl, fun U hU hW => ⟨rfl, by rw [hU], by rw [hU]; exact hPc, va_K.moved hW.alike hKc, hDc.weaken (fun _ _ _ _ => trivial), nzA_warm hW hz⟩⟩ rfl rfl hl.1 rfl (lv_room (Nat.le_of_ble_eq_true rfl)) dX6_passName_79 ⟨Nat.zero_le _, Nat.zero_le _⟩) hS (fun q _ h => hFc q h) hFc (fun u t H1 locs ht hvm hw hB hz1 hk1 hS => ?_)
          obtain ⟨y_703, y_704, y_705, gy_704, gy_705, hE, hP1, hD1⟩ := hB
          rw [ht] at hP1
          obtain ⟨hP, hD⟩ := va_join (wr := []) (w1 := [(h0, .inr (6, [.ref tp, .ref dr, .int y_700, .int y_701, .int y_703, .int y_704, .int y_705])), (tp, .inr (10, [.ref bt, .int b_length])), (bt, .inl (kbt, 1600, .inl fbt))]) hP hD [0, 1, 2] [] rfl rfl (by decide) (by decide) hk1 hFc hP1 hD1
          have hP := hP.sub (ws' := [(h0, .inr (6, [.ref tp, .ref dr, .int y_700, .int y_701, .int y_703, .int y_704, .int y_705])), (tp, .inr (10, [.ref bt, .int b_length])), (bt, .inl (kbt, 1600, .inl fbt))]) [0, 1, 2] rfl
          have hD := hD.sub (ws' := [(h0, .inr (6, [.ref tp, .ref dr, .int y_700, .int y_701, .int y_703, .int y_704, .int y_705])), (tp, .inr (10, [.ref bt, .int b_length])), (bt, .inl (kbt, 1600, .inl fbt))]) [0, 1, 2] (by decide) rfl
          have hF := gf_call (a := (y_703, y_704, y_705)) hE hF
          generalize H1 = H at hP hS ⊢
          refine lv_iload_n hx hb dX6_passName_82 rfl (lv_at hl 0 rfl) ?_
          exact W.iret (v := r_659) hx hb hr (fun t ht hW => ⟨⟨r_659, r_659, rfl, ⟨rfl, (gi_any r_659)⟩, y_700, y_701, y_703, y_704, y_705, gy_700, gy_704, gy_705, (show q_faultKind.toInt ≤ y_700.toInt from by have qgy_700 := gy_700.1; have rgy_700 := gy_700.2; have qgy_657 := gy_657.1; have rgy_657 := gy_657.2; have qgy_594 := gy_594.1; have rgy_594 := gy_594.2; have qgx_596 := g_655.1; have rgx_596 := g_655.2; have igx_596 : x_596.toInt = q_stop.toInt - q_start.toInt := (by have h9 := gi_subI ex_596 (by have h1 := gq_stop.1; have h2 := gq_start.1; have h3 := gq_stop.2; have h4 := gq_start.2; omega) (by have h1 := gq_stop.1; have h2 := gq_start.1; have h3 := gq_stop.2; have h4 := gq_start.2; omega); exact h9); have qgq_start := gq_start.1; have rgq_start := gq_start.2; have qgq_stop := gq_stop.1; have rgq_stop := gq_stop.2; have qgr_660 := g_685.1; have rgr_660 := g_685.2; have qgq_token := g_592.1; have rgq_token := g_592.2; have qgq_faultKind := gq_faultKind.1; have rgq_faultKind := gq_faultKind.2; have qgp1 := g_698.1; have rgp1 := g_698.2; have qge_placeCount := ge_placeCount.1; have rge_placeCount := ge_placeCount.2; omega), (show (y_700.toInt ≠ 0 ∨ p1.toInt = 0 ∨ pnF ep_name e_placeCount r_659 ≠ -1) from by by_cases h9 : y_700.toInt ≠ 0; exact Or.inl h9; refine Or.inr ?_; have lgq_faultKind := gq_faultKind.1; have mgq_faultKind := gq_faultKind.2; have lgy_594 := gy_594.1; have mgy_594 := gy_594.2; have lgy_657 := gy_657.1; have mgy_657 := gy_657.2; have lgy_700 := gy_700.1; have mgy_700 := gy_700.2; have qgy_700 := gy_700.1; have rgy_700 := gy_700.2; have qgy_657 := gy_657.1; have rgy_657 := gy_657.2; have qgy_594 := gy_594.1; have rgy_594 := gy_594.2; have qgx_596 := g_655.1; have rgx_596 := g_655.2; have igx_596 : x_596.toInt = q_stop.toInt - q_start.toInt := (by have h9 := gi_subI ex_596 (by have h1 := gq_stop.1; have h2 := gq_start.1; have h3 := gq_stop.2; have h4 := gq_start.2; omega) (by have h1 := gq_stop.1; have h2 := gq_start.1; have h3 := gq_stop.2; have h4 := gq_start.2; omega); exact h9); have qgq_start := gq_start.1; have rgq_start := gq_start.2; have qgq_stop := gq_stop.1; have rgq_stop := gq_stop.2; have qgr_660 := g_685.1; have rgr_660 := g_685.2; have qgq_token := g_592.1; have rgq_token := g_592.2; have qgq_faultKind := gq_faultKind.1; have rgq_faultKind := gq_faultKind.2; have qgp1 := g_698.1; have rgp1 := g_698.2; have qge_placeCount := ge_placeCount.1; have rge_placeCount := ge_placeCount.2; omega), hF.trans hR9.symm, by rw [ht]; exact hP, hD⟩, hS.F ht⟩) hS.2.2 dX6_passName_83
theorem dX6_readFirst_0 : decode cX6_readFirst 0 = .ok (.aload_n 0, 1) := by decide +kernel
theorem dX6_readFirst_1 : decode cX6_readFirst 1 = .ok (.ldc 92, 2) := by decide +kernel
theorem dX6_readFirst_3 : decode cX6_readFirst 3 = .ok (.invokevirtual 94, 3) := by decide +kernel
theorem dX6_readFirst_6 : decode cX6_readFirst 6 = .ok (.aload_n 0, 1) := by decide +kernel
theorem dX6_readFirst_7 : decode cX6_readFirst 7 = .ok (.ldc 98, 2) := by decide +kernel
theorem dX6_readFirst_9 : decode cX6_readFirst 9 = .ok (.invokevirtual 94, 3) := by decide +kernel
theorem dX6_readFirst_12 : decode cX6_readFirst 12 = .ok (.aload_n 0, 1) := by decide +kernel
theorem dX6_readFirst_13 : decode cX6_readFirst 13 = .ok (.iconst 2, 1) := by decide +kernel
theorem dX6_readFirst_14 : decode cX6_readFirst 14 = .ok (.bipush 24, 2) := by decide +kernel
theorem dX6_readFirst_16 : decode cX6_readFirst 16 = .ok (.invokevirtual 100, 3) := by decide +kernel
theorem dX6_readFirst_19 : decode cX6_readFirst 19 = .ok (.istore_n 1, 1) := by decide +kernel
theorem dX6_readFirst_20 : decode cX6_readFirst 20 = .ok (.aload_n 0, 1) := by decide +kernel
theorem dX6_readFirst_21 : decode cX6_readFirst 21 = .ok (.ldc 104, 2) := by decide +kernel
theorem dX6_readFirst_23 : decode cX6_readFirst 23 = .ok (.invokevirtual 94, 3) := by decide +kernel
theorem dX6_readFirst_26 : decode cX6_readFirst 26 = .ok (.aload_n 0, 1) := by decide +kernel
theorem dX6_readFirst_27 : decode cX6_readFirst 27 = .ok (.iconst 1, 1) := by decide +kernel
theorem dX6_readFirst_28 : decode cX6_readFirst 28 = .ok (.iconst 5, 1) := by decide +kernel
theorem dX6_readFirst_29 : decode cX6_readFirst 29 = .ok (.invokevirtual 100, 3) := by decide +kernel
theorem dX6_readFirst_32 : decode cX6_readFirst 32 = .ok (.istore_n 2, 1) := by decide +kernel
theorem dX6_readFirst_33 : decode cX6_readFirst 33 = .ok (.aload_n 0, 1) := by decide +kernel
theorem dX6_readFirst_34 : decode cX6_readFirst 34 = .ok (.ldc 106, 2) := by decide +kernel
theorem dX6_readFirst_36 : decode cX6_readFirst 36 = .ok (.invokevirtual 94, 3) := by decide +kernel
theorem dX6_readFirst_39 : decode cX6_readFirst 39 = .ok (.aload_n 0, 1) := by decide +kernel
theorem dX6_readFirst_40 : decode cX6_readFirst 40 = .ok (.iconst 1, 1) := by decide +kernel
theorem dX6_readFirst_41 : decode cX6_readFirst 41 = .ok (.iconst 5, 1) := by decide +kernel
theorem dX6_readFirst_42 : decode cX6_readFirst 42 = .ok (.invokevirtual 100, 3) := by decide +kernel
theorem dX6_readFirst_45 : decode cX6_readFirst 45 = .ok (.istore_n 3, 1) := by decide +kernel
theorem dX6_readFirst_46 : decode cX6_readFirst 46 = .ok (.aload_n 0, 1) := by decide +kernel
theorem dX6_readFirst_47 : decode cX6_readFirst 47 = .ok (.getfield 25, 3) := by decide +kernel
theorem dX6_readFirst_50 : decode cX6_readFirst 50 = .ok (.ifCond .ne 27, 3) := by decide +kernel
theorem dX6_readFirst_53 : decode cX6_readFirst 53 = .ok (.aload_n 0, 1) := by decide +kernel
theorem dX6_readFirst_54 : decode cX6_readFirst 54 = .ok (.getfield 21, 3) := by decide +kernel
theorem dX6_readFirst_57 : decode cX6_readFirst 57 = .ok (.iload_n 1, 1) := by decide +kernel
theorem dX6_readFirst_58 : decode cX6_readFirst 58 = .ok (.putfield 108, 3) := by decide +kernel
theorem dX6_readFirst_61 : decode cX6_readFirst 61 = .ok (.aload_n 0, 1) := by decide +kernel
theorem dX6_readFirst_62 : decode cX6_readFirst 62 = .ok (.getfield 21, 3) := by decide +kernel
theorem dX6_readFirst_65 : decode cX6_readFirst 65 = .ok (.iload_n 2, 1) := by decide +kernel
theorem dX6_readFirst_66 : decode cX6_readFirst 66 = .ok (.putfield 110, 3) := by decide +kernel
theorem dX6_readFirst_69 : decode cX6_readFirst 69 = .ok (.aload_n 0, 1) := by decide +kernel
theorem dX6_readFirst_70 : decode cX6_readFirst 70 = .ok (.getfield 21, 3) := by decide +kernel
theorem dX6_readFirst_73 : decode cX6_readFirst 73 = .ok (.iload_n 3, 1) := by decide +kernel
theorem dX6_readFirst_74 : decode cX6_readFirst 74 = .ok (.putfield 112, 3) := by decide +kernel
theorem dX6_readFirst_77 : decode cX6_readFirst 77 = .ok (.return_, 1) := by decide +kernel
noncomputable def bfX6_readFirst_77 (q_faultKind : Int32) (q_faultPlace : Int32) (q_token : Int32) (q_start : Int32) (q_stop : Int32) (b_length : Int32) (fbt : Nat → Int32) (e_months : Int32) (e_full : Int32) (e_lean : Int32) (w0_2 : Int32) (w0_3 : Int32) (w0_4 : Int32) (w0_5 : Int32) (w0_6 : Int32) (w3_0 : Int32) (w3_1 : Int32) (w3_2 : Int32) : Int32 × Int32 × Int32 × Int32 × Int32 × Int32 × Int32 × Int32 := (w0_2, w0_3, w0_4, w0_5, w0_6, w3_0, w3_1, w3_2)
noncomputable def fX6_readFirst (q_faultKind : Int32) (q_faultPlace : Int32) (q_token : Int32) (q_start : Int32) (q_stop : Int32) (b_length : Int32) (fbt : Nat → Int32) (e_months : Int32) (e_full : Int32) (e_lean : Int32) : Int32 × Int32 × Int32 × Int32 × Int32 × Int32 × Int32 × Int32 := cal (fun o1 => cal (fun o2 => cal (fun o3 => cal (fun o4 => cal (fun o5 => cal (fun o6 => cal (fun o7 => if o7.2.1 = (0 : Int32) then (bfX6_readFirst_77 q_faultKind q_faultPlace q_token q_start q_stop b_length fbt e_months e_full e_lean o7.2.1 o7.2.2.1 o7.2.2.2.1 o7.2.2.2.2.1 o7.2.2.2.2.2 o3.1 o5.1 o7.1) else (bfX6_readFirst_77 q_faultKind q_faultPlace q_token q_start q_stop b_length fbt e_months e_full e_lean o7.2.1 o7.2.2.1 o7.2.2.2.1 o7.2.2.2.2.1 o7.2.2.2.2.2 e_months e_full e_lean)) (fX6_passNumber o6.1 o6.2.1 o6.2.2.1 o6.2.2.2.1 o6.2.2.2.2 b_length fbt (1 : Int32) (5 : Int32))) (fX6_passWord o5.2.1 o5.2.2.1 o5.2.2.2.1 o5.2.2.2.2.1 o5.2.2.2.2.2 b_length fbt 9)) (fX6_passNumber o4.1 o4.2.1 o4.2.2.1 o4.2.2.2.1 o4.2.2.2.2 b_length fbt (1 : Int32) (5 : Int32))) (fX6_passWord o3.2.1 o3.2.2.1 o3.2.2.2.1 o3.2.2.2.2.1 o3.2.2.2.2.2 b_length fbt 7)) (fX6_passNumber o2.1 o2.2.1 o2.2.2.1 o2.2.2.2.1 o2.2.2.2.2 b_length fbt (2 : Int32) (24 : Int32))) (fX6_passWord o1.1 o1.2.1 o1.2.2.1 o1.2.2.2.1 o1.2.2.2.2 b_length fbt 11)) (fX6_passWord q_faultKind q_faultPlace q_token q_start q_stop b_length fbt 0)
set_option maxHeartbeats 4000000 in
set_option maxRecDepth 100000 in
theorem sX6_readFirst (l : Launch) (dC : Nat → ClassId) (dI : Nat → Nat → Nat) (sz : Nat) (h0 : Nat) (tp : Nat) (bt : Nat) (dr : Nat) (q_faultKind : Int32) (q_faultPlace : Int32) (q_token : Int32) (q_start : Int32) (q_stop : Int32) (b_length : Int32) (kbt : ClassId) (fbt : Nat → Int32) (e_months : Int32) (e_full : Int32) (e_lean : Int32) (e_lines : Int32) (e_hasMoon : Int32) (e_moonStart : Int32) (e_moonStep : Int32) (e_placeCount : Int32) (e_reportCount : Int32) (e_deedCount : Int32) (dpl : Nat) (dre : Nat) (dde : Nat) (sa : Nat → Nat) (sb : Nat → Nat) (zf : Value) (gq_faultKind : gi q_faultKind 0 3) (gq_start : gi q_start 0 1600) (gq_stop : gi q_stop 0 1600) (gb_length : gi b_length 0 1600) (ge_months : gi e_months 0 24) (ge_full : gi e_full 0 5) (ge_lean : gi e_lean 0 5) (ge_hasMoon : gi e_hasMoon 0 1) (ge_placeCount : gi e_placeCount 0 6) (ge_reportCount : gi e_reportCount 0 24) (ge_deedCount : gi e_deedCount 0 8) : Met l yX6_readFirst (.code yX6_readFirst cX6_readFirst 4 none :: wsGA) ({ frames := 6, cells := 0, slots := 0, locals := 128 }) (va_Pc [.ref h0] (fun U => U.heap.size = sz ∧ va_P (dC, dI) vwCl [(h0, .inr (6, [.ref tp, .ref dr, .int q_faultKind, .int q_faultPlace, .int q_token, .int q_start, .int q_stop])), (tp, .inr (10, [.ref bt, .int b_length])), (bt, .inl (kbt, 1600, .inl fbt)), (dr, .inr (0, [.int e_months, .int e_full, .int e_lean, .int e_lines, .int e_hasMoon, .int e_moonStart, .int e_moonStep, .int e_placeCount, .int e_reportCount, .int e_deedCount, .ref dpl, .ref dre, .ref dde]))] U.heap ∧ va_K (dC, dI) vwCl [(kbt, .byte)] U ∧ va_D (fun _ => True) [(h0, .inr (6, [.ref tp, .ref dr, .int q_faultKind, .int q_faultPlace, .int q_token, .int q_start, .int q_stop])), (tp, .inr (10, [.ref bt, .int b_length])), (bt, .inl (kbt, 1600, .inl fbt)), (dr, .inr (0, [.int e_months, .int e_full, .int e_lean, .int e_lines, .int e_hasMoon, .int e_moonStart, .int e_moonStep, .int e_placeCount, .int e_reportCount, .int e_deedCount, .ref dpl, .ref dre, .ref dde]))] ∧ nzA U ∧ gz_ST RX6 stIA sa sb zf (va_A [(h0, .inr (6, [.ref tp, .ref dr, .int q_faultKind, .int q_faultPlace, .int q_token, .int q_start, .int q_stop])), (tp, .inr (10, [.ref bt, .int b_length])), (bt, .inl (kbt, 1600, .inl fbt)), (dr, .inr (0, [.int e_months, .int e_full, .int e_lean, .int e_lines, .int e_hasMoon, .int e_moonStart, .int e_moonStep, .int e_placeCount, .int e_reportCount, .int e_deedCount, .ref dpl, .ref dre, .ref dde]))] sz) U U.heap)) (va_Qv (fun (u : Unit) => True) (fun _ t => ∃ (w0_2 : Int32) (w0_3 : Int32) (w0_4 : Int32) (w0_5 : Int32) (w0_6 : Int32) (w3_0 : Int32) (w3_1 : Int32) (w3_2 : Int32), gi w0_2 0 3 ∧ gi w0_5 0 1600 ∧ gi w0_6 0 1600 ∧ gi w3_0 0 24 ∧ gi w3_1 0 5 ∧ gi w3_2 0 5 ∧ q_faultKind.toInt ≤ w0_2.toInt ∧ (w0_2, w0_3, w0_4, w0_5, w0_6, w3_0, w3_1, w3_2) = fX6_readFirst q_faultKind q_faultPlace q_token q_start q_stop b_length fbt e_months e_full e_lean ∧ va_P (dC, dI) vwCl [(h0, .inr (6, [.ref tp, .ref dr, .int w0_2, .int w0_3, .int w0_4, .int w0_5, .int w0_6])), (tp, .inr (10, [.ref bt, .int b_length])), (bt, .inl (kbt, 1600, .inl fbt)), (dr, .inr (0, [.int w3_0, .int w3_1, .int w3_2, .int e_lines, .int e_hasMoon, .int e_moonStart, .int e_moonStep, .int e_placeCount, .int e_reportCount, .int e_deedCount, .ref dpl, .ref dre, .ref dde]))] t.heap ∧ va_D (va_A [(h0, .inr (6, [.ref tp, .ref dr, .int q_faultKind, .int q_faultPlace, .int q_token, .int q_start, .int q_stop])), (tp, .inr (10, [.ref bt, .int b_length])), (bt, .inl (kbt, 1600, .inl fbt)), (dr, .inr (0, [.int e_months, .int e_full, .int e_lean, .int e_lines, .int e_hasMoon, .int e_moonStart, .int e_moonStep, .int e_placeCount, .int e_reportCount, .int e_deedCount, .ref dpl, .ref dre, .ref dde]))] sz) [(h0, .inr (6, [.ref tp, .ref dr, .int w0_2, .int w0_3, .int w0_4, .int w0_5, .int w0_6])), (tp, .inr (10, [.ref bt, .int b_length])), (bt, .inl (kbt, 1600, .inl fbt)), (dr, .inr (0, [.int w3_0, .int w3_1, .int w3_2, .int e_lines, .int e_hasMoon, .int e_moonStart, .int e_moonStep, .int e_placeCount, .int e_reportCount, .int e_deedCount, .ref dpl, .ref dre, .ref dde]))]) (va_A [(h0, .inr (6, [.ref tp, .ref dr, .int q_faultKind, .int q_faultPlace, .int q_token, .int q_start, .int q_stop])), (tp, .inr (10, [.ref bt, .int b_length])), (bt, .inl (kbt, 1600, .inl fbt)), (dr, .inr (0, [.int e_months, .int e_full, .int e_lean, .int e_lines, .int e_hasMoon, .int e_moonStart, .int e_moonStep, .int e_placeCount, .int e_reportCount, .int e_deedCount, .ref dpl, .ref dre, .ref dde]))] sz)) 0 0 (va_A [(h0, .inr (6, [.ref tp, .ref dr, .int q_faultKind, .int q_faultPlace, .int q_token, .int q_start, .int q_stop])), (tp, .inr (10, [.ref bt, .int b_length])), (bt, .inl (kbt, 1600, .inl fbt)), (dr, .inr (0, [.int e_months, .int e_full, .int e_lean, .int e_lines, .int e_hasMoon, .int e_moonStart, .int e_moonStep, .int e_placeCount, .int e_reportCount, .int e_deedCount, .ref dpl, .ref dre, .ref dde]))] sz) := by
  refine Met.ofW (cc := cX6_readFirst) (maxL := 4) (ret := none) (by decide) rfl ?_
  intro p e s m args below meth c s₁ B hml hv
  obtain ⟨rfl, hsz, hP, hK, hD0, hz, hT⟩ := hv
  have hx := B.exec
  have hb := B.bytes
  have hr := B.returns
  have hts := atoms_spec (ws := (.code yX6_readFirst cX6_readFirst 4 none :: wsGA)) B.pre
  have hown : s.vm.findClass RX6 = some m.cls := findClass_of_methodNamed B.named
  have hlocks := B.notSynchronized
  subst hsz
  have hD := hD0.self (sz := s.heap.size)
  generalize hAe : va_A [(h0, .inr (6, [.ref tp, .ref dr, .int q_faultKind, .int q_faultPlace, .int q_token, .int q_start, .int q_stop])), (tp, .inr (10, [.ref bt, .int b_length])), (bt, .inl (kbt, 1600, .inl fbt)), (dr, .inr (0, [.int e_months, .int e_full, .int e_lean, .int e_lines, .int e_hasMoon, .int e_moonStart, .int e_moonStep, .int e_placeCount, .int e_reportCount, .int e_deedCount, .ref dpl, .ref dre, .ref dde]))] s.heap.size = A at hD hT ⊢
  have hA : ∀ q : Nat, s.heap.size ≤ q → A q := fun q h => by rw [← hAe]; exact Or.inr h
  have hS : va_S A s.heap s.heap [] := va_S.rf
  have hl := lv_entry ([.ref h0]) (n := 4) (Nat.le_of_ble_eq_true rfl)
  rw [lg_entry_eq]
  generalize (lg_sl ([.ref h0]) ++ List.replicate (4 - (lg_sl ([.ref h0])).length) Slot.unset).toArray = ls at hl ⊢
  have hl : lv_has ls 4 [(0, .ref h0)] := hl
  obtain ⟨RES, hF⟩ : ∃ R9, fX6_readFirst q_faultKind q_faultPlace q_token q_start q_stop b_length fbt e_months e_full e_lean = R9 := ⟨_, rfl⟩
  have hR9 := hF
  refine lv_aload_n hx hb dX6_readFirst_0 rfl (lv_at hl 0 rfl) ?_
  refine va_ldcS hx hb hown (show vk_R RX6 92 "almanac" (sa 0) s from (hT.2 0 (by decide)).1) dX6_readFirst_1 ?_
  have hPc := hP.sub (ws' := [(h0, .inr (6, [.ref tp, .ref dr, .int q_faultKind, .int q_faultPlace, .int q_token, .int q_start, .int q_stop])), (tp, .inr (10, [.ref bt, .int b_length])), (bt, .inl (kbt, 1600, .inl fbt))]) [0, 1, 2] rfl
  have hKc := hK.sub (tys' := [(kbt, .byte)]) [0] rfl
  have hDc := hD.sub (ws' := [(h0, .inr (6, [.ref tp, .ref dr, .int q_faultKind, .int q_faultPlace, .int q_token, .int q_start, .int q_stop])), (tp, .inr (10, [.ref bt, .int b_length])), (bt, .inl (kbt, 1600, .inl fbt))]) [0, 1, 2] (by decide) rfl
  have hFc := va_free (wc := [(h0, .inr (6, [.ref tp, .ref dr, .int q_faultKind, .int q_faultPlace, .int q_token, .int q_start, .int q_stop])), (tp, .inr (10, [.ref bt, .int b_length])), (bt, .inl (kbt, 1600, .inl fbt))]) hD hS hA [0, 1, 2] rfl
  refine va_callv (va_runV (As := [.ref (sa 0)]) (rest := []) ⟨hx, hb, hml, hown, hts⟩ (sX6_passWord l dC dI s.heap.size h0 tp bt dr q_faultKind q_faultPlace q_token q_start q_stop b_length kbt fbt sa sb zf 0 gq_faultKind gq_start gq_stop gb_length (by decide)) (cwV 1 hts (gz_gV mGA_193 mGA_194 mGA_195 mGA_9 mGA_196 goodGA) rfl rfl rfl (by decide +kernel) ⟨Nat.le_of_ble_eq_true rfl, Nat.le_of_ble_eq_true rfl⟩) ⟨fun a U g mk q => by obtain ⟨q0, q1, qP, qK, qD, qZ, qT⟩ := q; exact ⟨q0, q1, qP, va_K.moved (u := U) (U := U.calling g mk a) (Vm.Alike.refl U.vm) qK, qD, nzA_same (u := U) (U := U.calling g mk a) rfl qZ, gz_ST.same rfl qT⟩, va_recv hKc hPc (ci := 6) (q0 := 0) rfl rfl, fun U hU hW => ⟨rfl, by rw [hU], by rw [hU]; exact hPc, va_K.moved hW.alike hKc, hDc.weaken (fun _ _ _ _ => trivial), nzA_warm hW hz, by rw [hU]; exact ((hT.kept hS.2.1).narrow (fun q h => hFc q h)).warm hW⟩⟩ rfl rfl hl.1 rfl (lv_room (Nat.le_of_ble_eq_true rfl)) dX6_readFirst_3 ⟨Nat.zero_le _, Nat.zero_le _⟩) hS (fun q _ h => hFc q h) hFc (fun u t H1 locs ht hvm hw hB hz1 hk1 hS => ?_)
  obtain ⟨y_128, y_129, y_130, y_131, y_132, gy_128, gy_131, gy_132, hpr0_r_127, hE, hP1, hD1⟩ := hB
  rw [ht] at hP1
  obtain ⟨hP, hD⟩ := va_join (wr := [(dr, .inr (0, [.int e_months, .int e_full, .int e_lean, .int e_lines, .int e_hasMoon, .int e_moonStart, .int e_moonStep, .int e_placeCount, .int e_reportCount, .int e_deedCount, .ref dpl, .ref dre, .ref dde]))]) (w1 := [(h0, .inr (6, [.ref tp, .ref dr, .int y_128, .int y_129, .int y_130, .int y_131, .int y_132])), (tp, .inr (10, [.ref bt, .int b_length])), (bt, .inl (kbt, 1600, .inl fbt))]) hP hD [0, 1, 2] [3] rfl rfl (by decide) (by decide) hk1 hFc hP1 hD1
  have hpr0_r_127 : q_faultKind.toInt ≤ y_128.toInt := hpr0_r_127
  have hP := hP.sub (ws' := [(h0, .inr (6, [.ref tp, .ref dr, .int y_128, .int y_129, .int y_130, .int y_131, .int y_132])), (tp, .inr (10, [.ref bt, .int b_length])), (bt, .inl (kbt, 1600, .inl fbt)), (dr, .inr (0, [.int e_months, .int e_full, .int e_lean, .int e_lines, .int e_hasMoon, .int e_moonStart, .int e_moonStep, .int e_placeCount, .int e_reportCount, .int e_deedCount, .ref dpl, .ref dre, .ref dde]))]) [1, 2, 3, 0] rfl
  have hD := hD.sub (ws' := [(h0, .inr (6, [.ref tp, .ref dr, .int y_128, .int y_129, .int y_130, .int y_131, .int y_132])), (tp, .inr (10, [.ref bt, .int b_length])), (bt, .inl (kbt, 1600, .inl fbt)), (dr, .inr (0, [.int e_months, .int e_full, .int e_lean, .int e_lines, .int e_hasMoon, .int e_moonStart, .int e_moonStep, .int e_placeCount, .int e_reportCount, .int e_deedCount, .ref dpl, .ref dre, .ref dde]))]) [1, 2, 3, 0] (by decide) rfl
  have hF := gf_callm (a := (y_128, y_129, y_130, y_131, y_132)) hE hF (by first | with_reducible rfl | dsimp only)
  generalize H1 = H at hP hS ⊢
  refine lv_aload_n hx hb dX6_readFirst_6 rfl (lv_at hl 0 rfl) ?_
  refine va_ldcS hx hb hown (show vk_R RX6 98 "months" (sa 11) s from (hT.2 11 (by decide)).1) dX6_readFirst_7 ?_
  have hPc := hP.sub (ws' := [(h0, .inr (6, [.ref tp, .ref dr, .int y_128, .int y_129, .int y_130, .int y_131, .int y_132])), (tp, .inr (10, [.ref bt, .int b_length])), (bt, .inl (kbt, 1600, .inl fbt))]) [0, 1, 2] rfl
  have hKc := hK.sub (tys' := [(kbt, .byte)]) [0] rfl
  have hDc := hD.sub (ws' := [(h0, .inr (6, [.ref tp, .ref dr, .int y_128, .int y_129, .int y_130, .int y_131, .int y_132])), (tp, .inr (10, [.ref bt, .int b_length])), (bt, .inl (kbt, 1600, .inl fbt))]) [0, 1, 2] (by decide) rfl
  have hFc := va_free (wc := [(h0, .inr (6, [.ref tp, .ref dr, .int y_128, .int y_129, .int y_130, .int y_131, .int y_132])), (tp, .inr (10, [.ref bt, .int b_length])), (bt, .inl (kbt, 1600, .inl fbt))]) hD hS hA [0, 1, 2] rfl
  refine va_callv (va_runV (As := [.ref (sa 11)]) (rest := []) ⟨hx, hb, hml, hown, hts⟩ (sX6_passWord l dC dI H.size h0 tp bt dr y_128 y_129 y_130 y_131 y_132 b_length kbt fbt sa sb zf 11 gy_128 gy_131 gy_132 gb_length (by decide)) (cwV 1 hts (gz_gV mGA_193 mGA_194 mGA_195 mGA_9 mGA_196 goodGA) rfl rfl rfl (by decide +kernel) ⟨Nat.le_of_ble_eq_true rfl, Nat.le_of_ble_eq_true rfl⟩) ⟨fun a U g mk q => by obtain ⟨q0, q1, qP, qK, qD, qZ, qT⟩ := q; exact ⟨q0, q1, qP, va_K.moved (u := U) (U := U.calling g mk a) (Vm.Alike.refl U.vm) qK, qD, nzA_same (u := U) (U := U.calling g mk a) rfl qZ, gz_ST.same rfl qT⟩, va_recv hKc hPc (ci := 6) (q0 := 0) rfl rfl, fun U hU hW => ⟨rfl, by rw [hU], by rw [hU]; exact hPc, va_K.moved hW.alike hKc, hDc.weaken (fun _ _ _ _ => trivial), nzA_warm hW hz, by rw [hU]; exact ((hT.kept hS.2.1).narrow (fun q h => hFc q h)).warm hW⟩⟩ rfl rfl hl.1 rfl (lv_room (Nat.le_of_ble_eq_true rfl)) dX6_readFirst_9 ⟨Nat.zero_le _, Nat.zero_le _⟩) hS (fun q _ h => hFc q h) hFc (fun u t H1 locs ht hvm hw hB hz1 hk1 hS => ?_)
  obtain ⟨y_134, y_135, y_136, y_137, y_138, gy_134, gy_137, gy_138, hpr0_r_133, hE, hP1, hD1⟩ := hB
  rw [ht] at hP1
  obtain ⟨hP, hD⟩ := va_join (wr := [(dr, .inr (0, [.int e_months, .int e_full, .int e_lean, .int e_lines, .int e_hasMoon, .int e_moonStart, .int e_moonStep, .int e_placeCount, .int e_reportCount, .int e_deedCount, .ref dpl, .ref dre, .ref dde]))]) (w1 := [(h0, .inr (6, [.ref tp, .ref dr, .int y_134, .int y_135, .int y_136, .int y_137, .int y_138])), (tp, .inr (10, [.ref bt, .int b_length])), (bt, .inl (kbt, 1600, .inl fbt))]) hP hD [0, 1, 2] [3] rfl rfl (by decide) (by decide) hk1 hFc hP1 hD1
  have hpr0_r_133 : y_128.toInt ≤ y_134.toInt := hpr0_r_133
  have hP := hP.sub (ws' := [(h0, .inr (6, [.ref tp, .ref dr, .int y_134, .int y_135, .int y_136, .int y_137, .int y_138])), (tp, .inr (10, [.ref bt, .int b_length])), (bt, .inl (kbt, 1600, .inl fbt)), (dr, .inr (0, [.int e_months, .int e_full, .int e_lean, .int e_lines, .int e_hasMoon, .int e_moonStart, .int e_moonStep, .int e_placeCount, .int e_reportCount, .int e_deedCount, .ref dpl, .ref dre, .ref dde]))]) [1, 2, 3, 0] rfl
  have hD := hD.sub (ws' := [(h0, .inr (6, [.ref tp, .ref dr, .int y_134, .int y_135, .int y_136, .int y_137, .int y_138])), (tp, .inr (10, [.ref bt, .int b_length])), (bt, .inl (kbt, 1600, .inl fbt)), (dr, .inr (0, [.int e_months, .int e_full, .int e_lean, .int e_lines, .int e_hasMoon, .int e_moonStart, .int e_moonStep, .int e_placeCount, .int e_reportCount, .int e_deedCount, .ref dpl, .ref dre, .ref dde]))]) [1, 2, 3, 0] (by decide) rfl
  have hF := gf_callm (a := (y_134, y_135, y_136, y_137, y_138)) hE hF (by first | with_reducible rfl | dsimp only)
  generalize H1 = H at hP hS ⊢
  refine lv_aload_n hx hb dX6_readFirst_12 rfl (lv_at hl 0 rfl) ?_
  refine lv_iconst (v := 2) hx hb dX6_readFirst_13 (by decide) ?_
  refine lv_bipush (v := 24) hx hb dX6_readFirst_14 (by decide) ?_
  have hPc := hP.sub (ws' := [(h0, .inr (6, [.ref tp, .ref dr, .int y_134, .int y_135, .int y_136, .int y_137, .int y_138])), (tp, .inr (10, [.ref bt, .int b_length])), (bt, .inl (kbt, 1600, .inl fbt))]) [0, 1, 2] rfl
  have hKc := hK.sub (tys' := [(kbt, .byte)]) [0] rfl
  have hDc := hD.sub (ws' := [(h0, .inr (6, [.ref tp, .ref dr, .int y_134, .int y_135, .int y_136, .int y_137, .int y_138])), (tp, .inr (10, [.ref bt, .int b_length])), (bt, .inl (kbt, 1600, .inl fbt))]) [0, 1, 2] (by decide) rfl
  have hFc := va_free (wc := [(h0, .inr (6, [.ref tp, .ref dr, .int y_134, .int y_135, .int y_136, .int y_137, .int y_138])), (tp, .inr (10, [.ref bt, .int b_length])), (bt, .inl (kbt, 1600, .inl fbt))]) hD hS hA [0, 1, 2] rfl
  refine va_calli (va_runV (As := [.int 2, .int 24]) (rest := []) ⟨hx, hb, hml, hown, hts⟩ (sX6_passNumber l dC dI H.size h0 tp bt dr y_134 y_135 y_136 y_137 y_138 b_length kbt fbt 2 24 gy_134 gy_137 gy_138 gb_length) (cwV 2 hts (gz_gV mGA_258 mGA_259 mGA_260 mGA_9 mGA_261 goodGA) rfl rfl rfl (by decide +kernel) ⟨Nat.le_of_ble_eq_true rfl, Nat.le_of_ble_eq_true rfl⟩) ⟨fun a U g mk q => by obtain ⟨q0, q1, qP, qK, qD, qZ⟩ := q; exact ⟨q0, q1, qP, va_K.moved (u := U) (U := U.calling g mk a) (Vm.Alike.refl U.vm) qK, qD, nzA_same (u := U) (U := U.calling g mk a) rfl qZ⟩, va_recv hKc hPc (ci := 6) (q0 := 0) rfl rfl, fun U hU hW => ⟨rfl, by rw [hU], by rw [hU]; exact hPc, va_K.moved hW.alike hKc, hDc.weaken (fun _ _ _ _ => trivial), nzA_warm hW hz⟩⟩ rfl rfl hl.1 rfl (lv_room (Nat.le_of_ble_eq_true rfl)) dX6_readFirst_16 ⟨Nat.zero_le _, Nat.zero_le _⟩) hS (fun q _ h => hFc q h) hFc (fun r_139 u t H1 locs ht hvm hw hB hz1 hk1 hS => ?_)
  obtain ⟨hu_, hw⟩ := hw
  subst hu_
  obtain ⟨y_140, y_141, y_142, y_143, y_144, gy_140, gy_143, gy_144, hpr0_r_139, hpr1_r_139, hE, hP1, hD1⟩ := hB
  rw [ht] at hP1
  obtain ⟨hP, hD⟩ := va_join (wr := [(dr, .inr (0, [.int e_months, .int e_full, .int e_lean, .int e_lines, .int e_hasMoon, .int e_moonStart, .int e_moonStep, .int e_placeCount, .int e_reportCount, .int e_deedCount, .ref dpl, .ref dre, .ref dde]))]) (w1 := [(h0, .inr (6, [.ref tp, .ref dr, .int y_140, .int y_141, .int y_142, .int y_143, .int y_144])), (tp, .inr (10, [.ref bt, .int b_length])), (bt, .inl (kbt, 1600, .inl fbt))]) hP hD [0, 1, 2] [3] rfl rfl (by decide) (by decide) hk1 hFc hP1 hD1
  have hpr0_r_139 : y_134.toInt ≤ y_140.toInt := hpr0_r_139
  have hpr1_r_139 : Hid ((y_140.toInt ≠ 0 ∨ ((2 : Int) ≤ r_139.toInt ∧ r_139.toInt ≤ (24 : Int)))) := by have h9 : (y_140.toInt ≠ 0 ∨ ((2 : Int32).toInt ≤ r_139.toInt ∧ r_139.toInt ≤ (24 : Int32).toInt)) := hpr1_r_139; rw [show (2 : Int32).toInt = 2 from by decide] at h9; rw [show (24 : Int32).toInt = 24 from by decide] at h9; exact h9
  have hP := hP.sub (ws' := [(h0, .inr (6, [.ref tp, .ref dr, .int y_140, .int y_141, .int y_142, .int y_143, .int y_144])), (tp, .inr (10, [.ref bt, .int b_length])), (bt, .inl (kbt, 1600, .inl fbt)), (dr, .inr (0, [.int e_months, .int e_full, .int e_lean, .int e_lines, .int e_hasMoon, .int e_moonStart, .int e_moonStep, .int e_placeCount, .int e_reportCount, .int e_deedCount, .ref dpl, .ref dre, .ref dde]))]) [1, 2, 3, 0] rfl
  have hD := hD.sub (ws' := [(h0, .inr (6, [.ref tp, .ref dr, .int y_140, .int y_141, .int y_142, .int y_143, .int y_144])), (tp, .inr (10, [.ref bt, .int b_length])), (bt, .inl (kbt, 1600, .inl fbt)), (dr, .inr (0, [.int e_months, .int e_full, .int e_lean, .int e_lines, .int e_hasMoon, .int e_moonStart, .int e_moonStep, .int e_placeCount, .int e_reportCount, .int e_deedCount, .ref dpl, .ref dre, .ref dde]))]) [1, 2, 3, 0] (by decide) rfl
  have hF := gf_callm (a := (r_139, y_140, y_141, y_142, y_143, y_144)) hE hF (by first | with_reducible rfl | dsimp only)
  generalize H1 = H at hP hS ⊢
  refine lv_istore_n (lv' := [(1, .int r_139), (0, .ref h0)]) hx hb dX6_readFirst_19 rfl hl (by decide) rfl (fun ls hl => ?_)
  refine lv_aload_n hx hb dX6_readFirst_20 rfl (lv_at hl 1 rfl) ?_
  refine va_ldcS hx hb hown (show vk_R RX6 104 "full" (sa 7) s from (hT.2 7 (by decide)).1) dX6_readFirst_21 ?_
  have hPc := hP.sub (ws' := [(h0, .inr (6, [.ref tp, .ref dr, .int y_140, .int y_141, .int y_142, .int y_143, .int y_144])), (tp, .inr (10, [.ref bt, .int b_length])), (bt, .inl (kbt, 1600, .inl fbt))]) [0, 1, 2] rfl
  have hKc := hK.sub (tys' := [(kbt, .byte)]) [0] rfl
  have hDc := hD.sub (ws' := [(h0, .inr (6, [.ref tp, .ref dr, .int y_140, .int y_141, .int y_142, .int y_143, .int y_144])), (tp, .inr (10, [.ref bt, .int b_length])), (bt, .inl (kbt, 1600, .inl fbt))]) [0, 1, 2] (by decide) rfl
  have hFc := va_free (wc := [(h0, .inr (6, [.ref tp, .ref dr, .int y_140, .int y_141, .int y_142, .int y_143, .int y_144])), (tp, .inr (10, [.ref bt, .int b_length])), (bt, .inl (kbt, 1600, .inl fbt))]) hD hS hA [0, 1, 2] rfl
  refine va_callv (va_runV (As := [.ref (sa 7)]) (rest := []) ⟨hx, hb, hml, hown, hts⟩ (sX6_passWord l dC dI H.size h0 tp bt dr y_140 y_141 y_142 y_143 y_144 b_length kbt fbt sa sb zf 7 gy_140 gy_143 gy_144 gb_length (by decide)) (cwV 1 hts (gz_gV mGA_193 mGA_194 mGA_195 mGA_9 mGA_196 goodGA) rfl rfl rfl (by decide +kernel) ⟨Nat.le_of_ble_eq_true rfl, Nat.le_of_ble_eq_true rfl⟩) ⟨fun a U g mk q => by obtain ⟨q0, q1, qP, qK, qD, qZ, qT⟩ := q; exact ⟨q0, q1, qP, va_K.moved (u := U) (U := U.calling g mk a) (Vm.Alike.refl U.vm) qK, qD, nzA_same (u := U) (U := U.calling g mk a) rfl qZ, gz_ST.same rfl qT⟩, va_recv hKc hPc (ci := 6) (q0 := 0) rfl rfl, fun U hU hW => ⟨rfl, by rw [hU], by rw [hU]; exact hPc, va_K.moved hW.alike hKc, hDc.weaken (fun _ _ _ _ => trivial), nzA_warm hW hz, by rw [hU]; exact ((hT.kept hS.2.1).narrow (fun q h => hFc q h)).warm hW⟩⟩ rfl rfl hl.1 rfl (lv_room (Nat.le_of_ble_eq_true rfl)) dX6_readFirst_23 ⟨Nat.zero_le _, Nat.zero_le _⟩) hS (fun q _ h => hFc q h) hFc (fun u t H1 locs ht hvm hw hB hz1 hk1 hS => ?_)
  obtain ⟨y_146, y_147, y_148, y_149, y_150, gy_146, gy_149, gy_150, hpr0_r_145, hE, hP1, hD1⟩ := hB
  rw [ht] at hP1
  obtain ⟨hP, hD⟩ := va_join (wr := [(dr, .inr (0, [.int e_months, .int e_full, .int e_lean, .int e_lines, .int e_hasMoon, .int e_moonStart, .int e_moonStep, .int e_placeCount, .int e_reportCount, .int e_deedCount, .ref dpl, .ref dre, .ref dde]))]) (w1 := [(h0, .inr (6, [.ref tp, .ref dr, .int y_146, .int y_147, .int y_148, .int y_149, .int y_150])), (tp, .inr (10, [.ref bt, .int b_length])), (bt, .inl (kbt, 1600, .inl fbt))]) hP hD [0, 1, 2] [3] rfl rfl (by decide) (by decide) hk1 hFc hP1 hD1
  have hpr0_r_145 : y_140.toInt ≤ y_146.toInt := hpr0_r_145
  have hP := hP.sub (ws' := [(h0, .inr (6, [.ref tp, .ref dr, .int y_146, .int y_147, .int y_148, .int y_149, .int y_150])), (tp, .inr (10, [.ref bt, .int b_length])), (bt, .inl (kbt, 1600, .inl fbt)), (dr, .inr (0, [.int e_months, .int e_full, .int e_lean, .int e_lines, .int e_hasMoon, .int e_moonStart, .int e_moonStep, .int e_placeCount, .int e_reportCount, .int e_deedCount, .ref dpl, .ref dre, .ref dde]))]) [1, 2, 3, 0] rfl
  have hD := hD.sub (ws' := [(h0, .inr (6, [.ref tp, .ref dr, .int y_146, .int y_147, .int y_148, .int y_149, .int y_150])), (tp, .inr (10, [.ref bt, .int b_length])), (bt, .inl (kbt, 1600, .inl fbt)), (dr, .inr (0, [.int e_months, .int e_full, .int e_lean, .int e_lines, .int e_hasMoon, .int e_moonStart, .int e_moonStep, .int e_placeCount, .int e_reportCount, .int e_deedCount, .ref dpl, .ref dre, .ref dde]))]) [1, 2, 3, 0] (by decide) rfl
  have hF := gf_callm (a := (y_146, y_147, y_148, y_149, y_150)) hE hF (by first | with_reducible rfl | dsimp only)
  generalize H1 = H at hP hS ⊢
  refine lv_aload_n hx hb dX6_readFirst_26 rfl (lv_at hl 1 rfl) ?_
  refine lv_iconst (v := 1) hx hb dX6_readFirst_27 (by decide) ?_
  refine lv_iconst (v := 5) hx hb dX6_readFirst_28 (by decide) ?_
  have hPc := hP.sub (ws' := [(h0, .inr (6, [.ref tp, .ref dr, .int y_146, .int y_147, .int y_148, .int y_149, .int y_150])), (tp, .inr (10, [.ref bt, .int b_length])), (bt, .inl (kbt, 1600, .inl fbt))]) [0, 1, 2] rfl
  have hKc := hK.sub (tys' := [(kbt, .byte)]) [0] rfl
  have hDc := hD.sub (ws' := [(h0, .inr (6, [.ref tp, .ref dr, .int y_146, .int y_147, .int y_148, .int y_149, .int y_150])), (tp, .inr (10, [.ref bt, .int b_length])), (bt, .inl (kbt, 1600, .inl fbt))]) [0, 1, 2] (by decide) rfl
  have hFc := va_free (wc := [(h0, .inr (6, [.ref tp, .ref dr, .int y_146, .int y_147, .int y_148, .int y_149, .int y_150])), (tp, .inr (10, [.ref bt, .int b_length])), (bt, .inl (kbt, 1600, .inl fbt))]) hD hS hA [0, 1, 2] rfl
  refine va_calli (va_runV (As := [.int 1, .int 5]) (rest := []) ⟨hx, hb, hml, hown, hts⟩ (sX6_passNumber l dC dI H.size h0 tp bt dr y_146 y_147 y_148 y_149 y_150 b_length kbt fbt 1 5 gy_146 gy_149 gy_150 gb_length) (cwV 2 hts (gz_gV mGA_258 mGA_259 mGA_260 mGA_9 mGA_261 goodGA) rfl rfl rfl (by decide +kernel) ⟨Nat.le_of_ble_eq_true rfl, Nat.le_of_ble_eq_true rfl⟩) ⟨fun a U g mk q => by obtain ⟨q0, q1, qP, qK, qD, qZ⟩ := q; exact ⟨q0, q1, qP, va_K.moved (u := U) (U := U.calling g mk a) (Vm.Alike.refl U.vm) qK, qD, nzA_same (u := U) (U := U.calling g mk a) rfl qZ⟩, va_recv hKc hPc (ci := 6) (q0 := 0) rfl rfl, fun U hU hW => ⟨rfl, by rw [hU], by rw [hU]; exact hPc, va_K.moved hW.alike hKc, hDc.weaken (fun _ _ _ _ => trivial), nzA_warm hW hz⟩⟩ rfl rfl hl.1 rfl (lv_room (Nat.le_of_ble_eq_true rfl)) dX6_readFirst_29 ⟨Nat.zero_le _, Nat.zero_le _⟩) hS (fun q _ h => hFc q h) hFc (fun r_151 u t H1 locs ht hvm hw hB hz1 hk1 hS => ?_)
  obtain ⟨hu_, hw⟩ := hw
  subst hu_
  obtain ⟨y_152, y_153, y_154, y_155, y_156, gy_152, gy_155, gy_156, hpr0_r_151, hpr1_r_151, hE, hP1, hD1⟩ := hB
  rw [ht] at hP1
  obtain ⟨hP, hD⟩ := va_join (wr := [(dr, .inr (0, [.int e_months, .int e_full, .int e_lean, .int e_lines, .int e_hasMoon, .int e_moonStart, .int e_moonStep, .int e_placeCount, .int e_reportCount, .int e_deedCount, .ref dpl, .ref dre, .ref dde]))]) (w1 := [(h0, .inr (6, [.ref tp, .ref dr, .int y_152, .int y_153, .int y_154, .int y_155, .int y_156])), (tp, .inr (10, [.ref bt, .int b_length])), (bt, .inl (kbt, 1600, .inl fbt))]) hP hD [0, 1, 2] [3] rfl rfl (by decide) (by decide) hk1 hFc hP1 hD1
  have hpr0_r_151 : y_146.toInt ≤ y_152.toInt := hpr0_r_151
  have hpr1_r_151 : Hid ((y_152.toInt ≠ 0 ∨ ((1 : Int) ≤ r_151.toInt ∧ r_151.toInt ≤ (5 : Int)))) := by have h9 : (y_152.toInt ≠ 0 ∨ ((1 : Int32).toInt ≤ r_151.toInt ∧ r_151.toInt ≤ (5 : Int32).toInt)) := hpr1_r_151; rw [show (1 : Int32).toInt = 1 from by decide] at h9; rw [show (5 : Int32).toInt = 5 from by decide] at h9; exact h9
  have hP := hP.sub (ws' := [(h0, .inr (6, [.ref tp, .ref dr, .int y_152, .int y_153, .int y_154, .int y_155, .int y_156])), (tp, .inr (10, [.ref bt, .int b_length])), (bt, .inl (kbt, 1600, .inl fbt)), (dr, .inr (0, [.int e_months, .int e_full, .int e_lean, .int e_lines, .int e_hasMoon, .int e_moonStart, .int e_moonStep, .int e_placeCount, .int e_reportCount, .int e_deedCount, .ref dpl, .ref dre, .ref dde]))]) [1, 2, 3, 0] rfl
  have hD := hD.sub (ws' := [(h0, .inr (6, [.ref tp, .ref dr, .int y_152, .int y_153, .int y_154, .int y_155, .int y_156])), (tp, .inr (10, [.ref bt, .int b_length])), (bt, .inl (kbt, 1600, .inl fbt)), (dr, .inr (0, [.int e_months, .int e_full, .int e_lean, .int e_lines, .int e_hasMoon, .int e_moonStart, .int e_moonStep, .int e_placeCount, .int e_reportCount, .int e_deedCount, .ref dpl, .ref dre, .ref dde]))]) [1, 2, 3, 0] (by decide) rfl
  have hF := gf_callm (a := (r_151, y_152, y_153, y_154, y_155, y_156)) hE hF (by first | with_reducible rfl | dsimp only)
  generalize H1 = H at hP hS ⊢
  refine lv_istore_n (lv' := [(2, .int r_151), (1, .int r_139), (0, .ref h0)]) hx hb dX6_readFirst_32 rfl hl (by decide) rfl (fun ls hl => ?_)
  refine lv_aload_n hx hb dX6_readFirst_33 rfl (lv_at hl 2 rfl) ?_
  refine va_ldcS hx hb hown (show vk_R RX6 106 "lean" (sa 9) s from (hT.2 9 (by decide)).1) dX6_readFirst_34 ?_
  have hPc := hP.sub (ws' := [(h0, .inr (6, [.ref tp, .ref dr, .int y_152, .int y_153, .int y_154, .int y_155, .int y_156])), (tp, .inr (10, [.ref bt, .int b_length])), (bt, .inl (kbt, 1600, .inl fbt))]) [0, 1, 2] rfl
  have hKc := hK.sub (tys' := [(kbt, .byte)]) [0] rfl
  have hDc := hD.sub (ws' := [(h0, .inr (6, [.ref tp, .ref dr, .int y_152, .int y_153, .int y_154, .int y_155, .int y_156])), (tp, .inr (10, [.ref bt, .int b_length])), (bt, .inl (kbt, 1600, .inl fbt))]) [0, 1, 2] (by decide) rfl
  have hFc := va_free (wc := [(h0, .inr (6, [.ref tp, .ref dr, .int y_152, .int y_153, .int y_154, .int y_155, .int y_156])), (tp, .inr (10, [.ref bt, .int b_length])), (bt, .inl (kbt, 1600, .inl fbt))]) hD hS hA [0, 1, 2] rfl
  refine va_callv (va_runV (As := [.ref (sa 9)]) (rest := []) ⟨hx, hb, hml, hown, hts⟩ (sX6_passWord l dC dI H.size h0 tp bt dr y_152 y_153 y_154 y_155 y_156 b_length kbt fbt sa sb zf 9 gy_152 gy_155 gy_156 gb_length (by decide)) (cwV 1 hts (gz_gV mGA_193 mGA_194 mGA_195 mGA_9 mGA_196 goodGA) rfl rfl rfl (by decide +kernel) ⟨Nat.le_of_ble_eq_true rfl, Nat.le_of_ble_eq_true rfl⟩) ⟨fun a U g mk q => by obtain ⟨q0, q1, qP, qK, qD, qZ, qT⟩ := q; exact ⟨q0, q1, qP, va_K.moved (u := U) (U := U.calling g mk a) (Vm.Alike.refl U.vm) qK, qD, nzA_same (u := U) (U := U.calling g mk a) rfl qZ, gz_ST.same rfl qT⟩, va_recv hKc hPc (ci := 6) (q0 := 0) rfl rfl, fun U hU hW => ⟨rfl, by rw [hU], by rw [hU]; exact hPc, va_K.moved hW.alike hKc, hDc.weaken (fun _ _ _ _ => trivial), nzA_warm hW hz, by rw [hU]; exact ((hT.kept hS.2.1).narrow (fun q h => hFc q h)).warm hW⟩⟩ rfl rfl hl.1 rfl (lv_room (Nat.le_of_ble_eq_true rfl)) dX6_readFirst_36 ⟨Nat.zero_le _, Nat.zero_le _⟩) hS (fun q _ h => hFc q h) hFc (fun u t H1 locs ht hvm hw hB hz1 hk1 hS => ?_)
  obtain ⟨y_158, y_159, y_160, y_161, y_162, gy_158, gy_161, gy_162, hpr0_r_157, hE, hP1, hD1⟩ := hB
  rw [ht] at hP1
  obtain ⟨hP, hD⟩ := va_join (wr := [(dr, .inr (0, [.int e_months, .int e_full, .int e_lean, .int e_lines, .int e_hasMoon, .int e_moonStart, .int e_moonStep, .int e_placeCount, .int e_reportCount, .int e_deedCount, .ref dpl, .ref dre, .ref dde]))]) (w1 := [(h0, .inr (6, [.ref tp, .ref dr, .int y_158, .int y_159, .int y_160, .int y_161, .int y_162])), (tp, .inr (10, [.ref bt, .int b_length])), (bt, .inl (kbt, 1600, .inl fbt))]) hP hD [0, 1, 2] [3] rfl rfl (by decide) (by decide) hk1 hFc hP1 hD1
  have hpr0_r_157 : y_152.toInt ≤ y_158.toInt := hpr0_r_157
  have hP := hP.sub (ws' := [(h0, .inr (6, [.ref tp, .ref dr, .int y_158, .int y_159, .int y_160, .int y_161, .int y_162])), (tp, .inr (10, [.ref bt, .int b_length])), (bt, .inl (kbt, 1600, .inl fbt)), (dr, .inr (0, [.int e_months, .int e_full, .int e_lean, .int e_lines, .int e_hasMoon, .int e_moonStart, .int e_moonStep, .int e_placeCount, .int e_reportCount, .int e_deedCount, .ref dpl, .ref dre, .ref dde]))]) [1, 2, 3, 0] rfl
  have hD := hD.sub (ws' := [(h0, .inr (6, [.ref tp, .ref dr, .int y_158, .int y_159, .int y_160, .int y_161, .int y_162])), (tp, .inr (10, [.ref bt, .int b_length])), (bt, .inl (kbt, 1600, .inl fbt)), (dr, .inr (0, [.int e_months, .int e_full, .int e_lean, .int e_lines, .int e_hasMoon, .int e_moonStart, .int e_moonStep, .int e_placeCount, .int e_reportCount, .int e_deedCount, .ref dpl, .ref dre, .ref dde]))]) [1, 2, 3, 0] (by decide) rfl
  have hF := gf_callm (a := (y_158, y_159, y_160, y_161, y_162)) hE hF (by first | with_reducible rfl | dsimp only)
  generalize H1 = H at hP hS ⊢
  refine lv_aload_n hx hb dX6_readFirst_39 rfl (lv_at hl 2 rfl) ?_
  refine lv_iconst (v := 1) hx hb dX6_readFirst_40 (by decide) ?_
  refine lv_iconst (v := 5) hx hb dX6_readFirst_41 (by decide) ?_
  have hPc := hP.sub (ws' := [(h0, .inr (6, [.ref tp, .ref dr, .int y_158, .int y_159, .int y_160, .int y_161, .int y_162])), (tp, .inr (10, [.ref bt, .int b_length])), (bt, .inl (kbt, 1600, .inl fbt))]) [0, 1, 2] rfl
  have hKc := hK.sub (tys' := [(kbt, .byte)]) [0] rfl
  have hDc := hD.sub (ws' := [(h0, .inr (6, [.ref tp, .ref dr, .int y_158, .int y_159, .int y_160, .int y_161, .int y_162])), (tp, .inr (10, [.ref bt, .int b_length])), (bt, .inl (kbt, 1600, .inl fbt))]) [0, 1, 2] (by decide) rfl
  have hFc := va_free (wc := [(h0, .inr (6, [.ref tp, .ref dr, .int y_158, .int y_159, .int y_160, .int y_161, .int y_162])), (tp, .inr (10, [.ref bt, .int b_length])), (bt, .inl (kbt, 1600, .inl fbt))]) hD hS hA [0, 1, 2] rfl
  refine va_calli (va_runV (As := [.int 1, .int 5]) (rest := []) ⟨hx, hb, hml, hown, hts⟩ (sX6_passNumber l dC dI H.size h0 tp bt dr y_158 y_159 y_160 y_161 y_162 b_length kbt fbt 1 5 gy_158 gy_161 gy_162 gb_length) (cwV 2 hts (gz_gV mGA_258 mGA_259 mGA_260 mGA_9 mGA_261 goodGA) rfl rfl rfl (by decide +kernel) ⟨Nat.le_of_ble_eq_true rfl, Nat.le_of_ble_eq_true rfl⟩) ⟨fun a U g mk q => by obtain ⟨q0, q1, qP, qK, qD, qZ⟩ := q; exact ⟨q0, q1, qP, va_K.moved (u := U) (U := U.calling g mk a) (Vm.Alike.refl U.vm) qK, qD, nzA_same (u := U) (U := U.calling g mk a) rfl qZ⟩, va_recv hKc hPc (ci := 6) (q0 := 0) rfl rfl, fun U hU hW => ⟨rfl, by rw [hU], by rw [hU]; exact hPc, va_K.moved hW.alike hKc, hDc.weaken (fun _ _ _ _ => trivial), nzA_warm hW hz⟩⟩ rfl rfl hl.1 rfl (lv_room (Nat.le_of_ble_eq_true rfl)) dX6_readFirst_42 ⟨Nat.zero_le _, Nat.zero_le _⟩) hS (fun q _ h => hFc q h) hFc (fun r_163 u t H1 locs ht hvm hw hB hz1 hk1 hS => ?_)
  obtain ⟨hu_, hw⟩ := hw
  subst hu_
  obtain ⟨y_164, y_165, y_166, y_167, y_168, gy_164, gy_167, gy_168, hpr0_r_163, hpr1_r_163, hE, hP1, hD1⟩ := hB
  rw [ht] at hP1
  obtain ⟨hP, hD⟩ := va_join (wr := [(dr, .inr (0, [.int e_months, .int e_full, .int e_lean, .int e_lines, .int e_hasMoon, .int e_moonStart, .int e_moonStep, .int e_placeCount, .int e_reportCount, .int e_deedCount, .ref dpl, .ref dre, .ref dde]))]) (w1 := [(h0, .inr (6, [.ref tp, .ref dr, .int y_164, .int y_165, .int y_166, .int y_167, .int y_168])), (tp, .inr (10, [.ref bt, .int b_length])), (bt, .inl (kbt, 1600, .inl fbt))]) hP hD [0, 1, 2] [3] rfl rfl (by decide) (by decide) hk1 hFc hP1 hD1
  have hpr0_r_163 : y_158.toInt ≤ y_164.toInt := hpr0_r_163
  have hpr1_r_163 : Hid ((y_164.toInt ≠ 0 ∨ ((1 : Int) ≤ r_163.toInt ∧ r_163.toInt ≤ (5 : Int)))) := by have h9 : (y_164.toInt ≠ 0 ∨ ((1 : Int32).toInt ≤ r_163.toInt ∧ r_163.toInt ≤ (5 : Int32).toInt)) := hpr1_r_163; rw [show (1 : Int32).toInt = 1 from by decide] at h9; rw [show (5 : Int32).toInt = 5 from by decide] at h9; exact h9
  have hP := hP.sub (ws' := [(h0, .inr (6, [.ref tp, .ref dr, .int y_164, .int y_165, .int y_166, .int y_167, .int y_168])), (tp, .inr (10, [.ref bt, .int b_length])), (bt, .inl (kbt, 1600, .inl fbt)), (dr, .inr (0, [.int e_months, .int e_full, .int e_lean, .int e_lines, .int e_hasMoon, .int e_moonStart, .int e_moonStep, .int e_placeCount, .int e_reportCount, .int e_deedCount, .ref dpl, .ref dre, .ref dde]))]) [1, 2, 3, 0] rfl
  have hD := hD.sub (ws' := [(h0, .inr (6, [.ref tp, .ref dr, .int y_164, .int y_165, .int y_166, .int y_167, .int y_168])), (tp, .inr (10, [.ref bt, .int b_length])), (bt, .inl (kbt, 1600, .inl fbt)), (dr, .inr (0, [.int e_months, .int e_full, .int e_lean, .int e_lines, .int e_hasMoon, .int e_moonStart, .int e_moonStep, .int e_placeCount, .int e_reportCount, .int e_deedCount, .ref dpl, .ref dre, .ref dde]))]) [1, 2, 3, 0] (by decide) rfl
  have hF := gf_callm (a := (r_163, y_164, y_165, y_166, y_167, y_168)) hE hF (by first | with_reducible rfl | dsimp only)
  generalize H1 = H at hP hS ⊢
  refine lv_istore_n (lv' := [(3, .int r_163), (2, .int r_151), (1, .int r_139), (0, .ref h0)]) hx hb dX6_readFirst_45 rfl hl (by decide) rfl (fun ls hl => ?_)
  refine lv_aload_n hx hb dX6_readFirst_46 rfl (lv_at hl 3 rfl) ?_
  refine va_get (D := (dC, dI)) (ci := 6) (v := .int y_164) (C := RX6) (T := TX6) (N := 7) hx hb hts (fun w h => List.mem_cons_of_mem _ (jnGA_X6 w h)) hown hK hP 0 rfl rfl 2 (by decide) (hts _ (List.mem_cons_of_mem _ mGA_55)) (fun _ h9 => h9) rfl dX6_readFirst_47 ?_
  refine lv_if_ne (tgt := 77) hx hb dX6_readFirst_50 (by decide) (fun c_169 => ?_) (fun c_169 => ?_)
  · have hF := gf_neg c_169 hF
    have hc_170 : y_164.toInt ≠ 0 := fun h9 => c_169 (Int32.toInt_inj.mp (by rw [show (0 : Int32).toInt = 0 from by decide]; exact h9))
    have g_171 : gi y_164 1 3 := gi_ne_lo c_169 gy_164 (gi_c 0 0 (by decide)) (by decide)
    exact W.vret hx hb hr (fun t ht hW => ⟨⟨(), rfl, trivial, y_164, y_165, y_166, y_167, y_168, e_months, e_full, e_lean, (gi_w g_171 (by decide)), gy_167, gy_168, ge_months, ge_full, ge_lean, (show q_faultKind.toInt ≤ y_164.toInt from by have qgy_164 := g_171.1; have rgy_164 := g_171.2; have qgy_158 := gy_158.1; have rgy_158 := gy_158.2; have qgy_152 := gy_152.1; have rgy_152 := gy_152.2; have qgy_146 := gy_146.1; have rgy_146 := gy_146.2; have qgy_140 := gy_140.1; have rgy_140 := gy_140.2; have qgy_134 := gy_134.1; have rgy_134 := gy_134.2; have qgy_128 := gy_128.1; have rgy_128 := gy_128.2; have qgq_faultKind := gq_faultKind.1; have rgq_faultKind := gq_faultKind.2; omega), hF.trans hR9.symm, by rw [ht]; exact hP, hD⟩, hS.F ht⟩) hS.2.2 dX6_readFirst_77
  · have hF := gf_pos c_169 hF
    have hc_172 : y_164.toInt = 0 := by have h9 := congrArg Int32.toInt c_169; rw [show (0 : Int32).toInt = 0 from by decide] at h9; exact h9
    have g_173 : gi y_164 0 0 := gi_eq c_169 (gi_c 0 0 (by decide))
    have g_174 : gi y_158 0 0 := gi_rel (show y_158.toInt ≤ y_164.toInt from by omega) gy_158 g_173
    have g_175 : gi y_152 0 0 := gi_rel (show y_152.toInt ≤ y_158.toInt from by omega) gy_152 g_174
    have g_176 : gi y_146 0 0 := gi_rel (show y_146.toInt ≤ y_152.toInt from by omega) gy_146 g_175
    have g_177 : gi y_140 0 0 := gi_rel (show y_140.toInt ≤ y_146.toInt from by omega) gy_140 g_176
    have g_178 : gi y_134 0 0 := gi_rel (show y_134.toInt ≤ y_140.toInt from by omega) gy_134 g_177
    have g_179 : gi y_128 0 0 := gi_rel (show y_128.toInt ≤ y_134.toInt from by omega) gy_128 g_178
    have g_180 : gi q_faultKind 0 0 := gi_rel (show q_faultKind.toInt ≤ y_128.toInt from by omega) gq_faultKind g_179
    have hf_181 : ((2 : Int) ≤ r_139.toInt ∧ r_139.toInt ≤ (24 : Int)) := Hid.resL hpr1_r_139 (by have u1 := g_177.1; have u2 := g_177.2; omega)
    have g_182 : gi r_139 2 2147483647 := ⟨by omega, (gi_any r_139).2⟩
    have hf_183 : ((1 : Int) ≤ r_151.toInt ∧ r_151.toInt ≤ (5 : Int)) := Hid.resL hpr1_r_151 (by have u1 := g_175.1; have u2 := g_175.2; omega)
    have g_184 : gi r_151 1 2147483647 := ⟨by omega, (gi_any r_151).2⟩
    have hf_185 : ((1 : Int) ≤ r_163.toInt ∧ r_163.toInt ≤ (5 : Int)) := Hid.resL hpr1_r_163 (by have u1 := g_173.1; have u2 := g_173.2; omega)
    have g_186 : gi r_163 1 2147483647 := ⟨by omega, (gi_any r_163).2⟩
    have g_187 : gi r_163 1 5 := ⟨g_186.1, by omega⟩
    have g_188 : gi r_151 1 5 := ⟨g_184.1, by omega⟩
    have g_189 : gi r_139 2 24 := ⟨g_182.1, by omega⟩
    refine lv_aload_n hx hb dX6_readFirst_53 rfl (lv_at hl 3 rfl) ?_
    refine va_get (D := (dC, dI)) (ci := 6) (v := .ref dr) (C := RX6) (T := TX6) (N := 7) hx hb hts (fun w h => List.mem_cons_of_mem _ (jnGA_X6 w h)) hown hK hP 0 rfl rfl 1 (by decide) (hts _ (List.mem_cons_of_mem _ mGA_54)) (fun _ h9 => h9) rfl dX6_readFirst_54 ?_
    refine lv_iload_n hx hb dX6_readFirst_57 rfl (lv_at hl 2 rfl) ?_
    refine va_put (D := (dC, dI)) (ci := 0) (v := .int r_139) (ty := .int) (C := RX0) (T := TX0) (N := 13) hx hb hts (fun w h => List.mem_cons_of_mem _ (jnGA_X0 w h)) tyX0 tyX0_ok nmX0 hown hK hP hD hS 3 rfl rfl 0 (by decide) (hts _ (List.mem_cons_of_mem _ mGA_190)) (fun _ h9 => h9) rfl (by decide +kernel) rfl rfl (Nat.le_of_ble_eq_true rfl) dX6_readFirst_58 (fun H locs hP hD hS => ?_)
    have hP : va_P (dC, dI) vwCl [(h0, .inr (6, [.ref tp, .ref dr, .int y_164, .int y_165, .int y_166, .int y_167, .int y_168])), (tp, .inr (10, [.ref bt, .int b_length])), (bt, .inl (kbt, 1600, .inl fbt)), (dr, .inr (0, [.int r_139, .int e_full, .int e_lean, .int e_lines, .int e_hasMoon, .int e_moonStart, .int e_moonStep, .int e_placeCount, .int e_reportCount, .int e_deedCount, .ref dpl, .ref dre, .ref dde]))] H := hP
    have hD : va_D A [(h0, .inr (6, [.ref tp, .ref dr, .int y_164, .int y_165, .int y_166, .int y_167, .int y_168])), (tp, .inr (10, [.ref bt, .int b_length])), (bt, .inl (kbt, 1600, .inl fbt)), (dr, .inr (0, [.int r_139, .int e_full, .int e_lean, .int e_lines, .int e_hasMoon, .int e_moonStart, .int e_moonStep, .int e_placeCount, .int e_reportCount, .int e_deedCount, .ref dpl, .ref dre, .ref dde]))] := hD
    refine lv_aload_n hx hb dX6_readFirst_61 rfl (lv_at hl 3 rfl) ?_
    refine va_get (D := (dC, dI)) (ci := 6) (v := .ref dr) (C := RX6) (T := TX6) (N := 7) hx hb hts (fun w h => List.mem_cons_of_mem _ (jnGA_X6 w h)) hown hK hP 0 rfl rfl 1 (by decide) (hts _ (List.mem_cons_of_mem _ mGA_54)) (fun _ h9 => h9) rfl dX6_readFirst_62 ?_
    refine lv_iload_n hx hb dX6_readFirst_65 rfl (lv_at hl 1 rfl) ?_
    refine va_put (D := (dC, dI)) (ci := 0) (v := .int r_151) (ty := .int) (C := RX0) (T := TX0) (N := 13) hx hb hts (fun w h => List.mem_cons_of_mem _ (jnGA_X0 w h)) tyX0 tyX0_ok nmX0 hown hK hP hD hS 3 rfl rfl 1 (by decide) (hts _ (List.mem_cons_of_mem _ mGA_191)) (fun _ h9 => h9) rfl (by decide +kernel) rfl rfl (Nat.le_of_ble_eq_true rfl) dX6_readFirst_66 (fun H locs hP hD hS => ?_)
    have hP : va_P (dC, dI) vwCl [(h0, .inr (6, [.ref tp, .ref dr, .int y_164, .int y_165, .int y_166, .int y_167, .int y_168])), (tp, .inr (10, [.ref bt, .int b_length])), (bt, .inl (kbt, 1600, .inl fbt)), (dr, .inr (0, [.int r_139, .int r_151, .int e_lean, .int e_lines, .int e_hasMoon, .int e_moonStart, .int e_moonStep, .int e_placeCount, .int e_reportCount, .int e_deedCount, .ref dpl, .ref dre, .ref dde]))] H := hP
    have hD : va_D A [(h0, .inr (6, [.ref tp, .ref dr, .int y_164, .int y_165, .int y_166, .int y_167, .int y_168])), (tp, .inr (10, [.ref bt, .int b_length])), (bt, .inl (kbt, 1600, .inl fbt)), (dr, .inr (0, [.int r_139, .int r_151, .int e_lean, .int e_lines, .int e_hasMoon, .int e_moonStart, .int e_moonStep, .int e_placeCount, .int e_reportCount, .int e_deedCount, .ref dpl, .ref dre, .ref dde]))] := hD
    refine lv_aload_n hx hb dX6_readFirst_69 rfl (lv_at hl 3 rfl) ?_
    refine va_get (D := (dC, dI)) (ci := 6) (v := .ref dr) (C := RX6) (T := TX6) (N := 7) hx hb hts (fun w h => List.mem_cons_of_mem _ (jnGA_X6 w h)) hown hK hP 0 rfl rfl 1 (by decide) (hts _ (List.mem_cons_of_mem _ mGA_54)) (fun _ h9 => h9) rfl dX6_readFirst_70 ?_
    refine lv_iload_n hx hb dX6_readFirst_73 rfl (lv_at hl 0 rfl) ?_
    refine va_put (D := (dC, dI)) (ci := 0) (v := .int r_163) (ty := .int) (C := RX0) (T := TX0) (N := 13) hx hb hts (fun w h => List.mem_cons_of_mem _ (jnGA_X0 w h)) tyX0 tyX0_ok nmX0 hown hK hP hD hS 3 rfl rfl 2 (by decide) (hts _ (List.mem_cons_of_mem _ mGA_192)) (fun _ h9 => h9) rfl (by decide +kernel) rfl rfl (Nat.le_of_ble_eq_true rfl) dX6_readFirst_74 (fun H locs hP hD hS => ?_)
    have hP : va_P (dC, dI) vwCl [(h0, .inr (6, [.ref tp, .ref dr, .int y_164, .int y_165, .int y_166, .int y_167, .int y_168])), (tp, .inr (10, [.ref bt, .int b_length])), (bt, .inl (kbt, 1600, .inl fbt)), (dr, .inr (0, [.int r_139, .int r_151, .int r_163, .int e_lines, .int e_hasMoon, .int e_moonStart, .int e_moonStep, .int e_placeCount, .int e_reportCount, .int e_deedCount, .ref dpl, .ref dre, .ref dde]))] H := hP
    have hD : va_D A [(h0, .inr (6, [.ref tp, .ref dr, .int y_164, .int y_165, .int y_166, .int y_167, .int y_168])), (tp, .inr (10, [.ref bt, .int b_length])), (bt, .inl (kbt, 1600, .inl fbt)), (dr, .inr (0, [.int r_139, .int r_151, .int r_163, .int e_lines, .int e_hasMoon, .int e_moonStart, .int e_moonStep, .int e_placeCount, .int e_reportCount, .int e_deedCount, .ref dpl, .ref dre, .ref dde]))] := hD
    exact W.vret hx hb hr (fun t ht hW => ⟨⟨(), rfl, trivial, y_164, y_165, y_166, y_167, y_168, r_139, r_151, r_163, (gi_w g_173 (by decide)), gy_167, gy_168, (gi_w g_189 (by decide)), (gi_w g_188 (by decide)), (gi_w g_187 (by decide)), (show q_faultKind.toInt ≤ y_164.toInt from by have qgy_164 := g_173.1; have rgy_164 := g_173.2; have qgy_158 := g_174.1; have rgy_158 := g_174.2; have qgy_152 := g_175.1; have rgy_152 := g_175.2; have qgy_146 := g_176.1; have rgy_146 := g_176.2; have qgy_140 := g_177.1; have rgy_140 := g_177.2; have qgy_134 := g_178.1; have rgy_134 := g_178.2; have qgy_128 := g_179.1; have rgy_128 := g_179.2; have qgr_163 := g_187.1; have rgr_163 := g_187.2; have qgr_151 := g_188.1; have rgr_151 := g_188.2; have qgr_139 := g_189.1; have rgr_139 := g_189.2; have qgq_faultKind := g_180.1; have rgq_faultKind := g_180.2; omega), hF.trans hR9.symm, by rw [ht]; exact hP, hD⟩, hS.F ht⟩) hS.2.2 dX6_readFirst_77
theorem dX4_changesAt_0 : decode cX4_changesAt 0 = .ok (.aload_n 0, 1) := by decide +kernel
theorem dX4_changesAt_1 : decode cX4_changesAt 1 = .ok (.getfield 15, 3) := by decide +kernel
theorem dX4_changesAt_4 : decode cX4_changesAt 4 = .ok (.iload_n 1, 1) := by decide +kernel
theorem dX4_changesAt_5 : decode cX4_changesAt 5 = .ok (.bipush 25, 2) := by decide +kernel
theorem dX4_changesAt_7 : decode cX4_changesAt 7 = .ok (.imul, 1) := by decide +kernel
theorem dX4_changesAt_8 : decode cX4_changesAt 8 = .ok (.iload_n 2, 1) := by decide +kernel
theorem dX4_changesAt_9 : decode cX4_changesAt 9 = .ok (.iadd, 1) := by decide +kernel
theorem dX4_changesAt_10 : decode cX4_changesAt 10 = .ok (.iaload, 1) := by decide +kernel
theorem dX4_changesAt_11 : decode cX4_changesAt 11 = .ok (.aload_n 0, 1) := by decide +kernel
theorem dX4_changesAt_12 : decode cX4_changesAt 12 = .ok (.getfield 15, 3) := by decide +kernel
theorem dX4_changesAt_15 : decode cX4_changesAt 15 = .ok (.iload_n 1, 1) := by decide +kernel
theorem dX4_changesAt_16 : decode cX4_changesAt 16 = .ok (.iconst 1, 1) := by decide +kernel
theorem dX4_changesAt_17 : decode cX4_changesAt 17 = .ok (.isub, 1) := by decide +kernel
theorem dX4_changesAt_18 : decode cX4_changesAt 18 = .ok (.bipush 25, 2) := by decide +kernel
theorem dX4_changesAt_20 : decode cX4_changesAt 20 = .ok (.imul, 1) := by decide +kernel
theorem dX4_changesAt_21 : decode cX4_changesAt 21 = .ok (.iload_n 2, 1) := by decide +kernel
theorem dX4_changesAt_22 : decode cX4_changesAt 22 = .ok (.iadd, 1) := by decide +kernel
theorem dX4_changesAt_23 : decode cX4_changesAt 23 = .ok (.iaload, 1) := by decide +kernel
theorem dX4_changesAt_24 : decode cX4_changesAt 24 = .ok (.if_icmp .eq 7, 3) := by decide +kernel
theorem dX4_changesAt_27 : decode cX4_changesAt 27 = .ok (.iconst 1, 1) := by decide +kernel
theorem dX4_changesAt_28 : decode cX4_changesAt 28 = .ok (.goto 4, 3) := by decide +kernel
theorem dX4_changesAt_31 : decode cX4_changesAt 31 = .ok (.iconst 0, 1) := by decide +kernel
theorem dX4_changesAt_32 : decode cX4_changesAt 32 = .ok (.ireturn, 1) := by decide +kernel
set_option maxHeartbeats 4000000 in
set_option maxRecDepth 100000 in
theorem sX4_changesAt (l : Launch) (dC : Nat → ClassId) (dI : Nat → Nat → Nat) (h0 : Nat) (hb_ : Nat) (si : Nat) (eras : Int32) (khb_ : ClassId) (fhb_ : Nat → Int32) (p0 : Int32) (p1 : Int32) (geras : gi eras 0 25) (gp0 : gi p0 1 24) (gp1 : gi p1 0 24) : Met l yX4_changesAt (.code yX4_changesAt cX4_changesAt 3 (some .boolean) :: wsGA) ({ frames := 0, cells := 0, slots := 0, locals := 0 }) (va_Pc [.ref h0, .int p0, .int p1] (fun U => va_P (dC, dI) vwCl [(h0, .inr (4, [.ref si, .ref hb_, .int eras])), (hb_, .inl (khb_, 625, .inl fhb_))] U.heap ∧ va_K (dC, dI) vwCl [(khb_, .int)] U ∧ nzA U)) (va_Qi (fun (r : Int32) (u : Unit) => gi r 0 1) (fun _ _ => True) (fun _ => False)) 0 0 (fun _ => False) := by
  refine Met.ofW (cc := cX4_changesAt) (maxL := 3) (ret := (some .boolean)) (by decide) rfl ?_
  intro p e s m args below meth c s₁ B hml hv
  obtain ⟨rfl, hP, hK, hz⟩ := hv
  have hx := B.exec
  have hb := B.bytes
  have hr := B.returns
  have hts := atoms_spec (ws := (.code yX4_changesAt cX4_changesAt 3 (some .boolean) :: wsGA)) B.pre
  have hown : s.vm.findClass RX4 = some m.cls := findClass_of_methodNamed B.named
  have hlocks := B.notSynchronized
  have hS : va_S (fun _ => False) s.heap s.heap [] := va_S.rf
  have hl := lv_entry ([.ref h0, .int p0, .int p1]) (n := 3) (Nat.le_of_ble_eq_true rfl)
  rw [lg_entry_eq]
  generalize (lg_sl ([.ref h0, .int p0, .int p1]) ++ List.replicate (3 - (lg_sl ([.ref h0, .int p0, .int p1])).length) Slot.unset).toArray = ls at hl ⊢
  have hl : lv_has ls 3 [(0, .ref h0), (1, .int p0), (2, .int p1)] := hl
  refine lv_aload_n hx hb dX4_changesAt_0 rfl (lv_at hl 0 rfl) ?_
  refine va_get (D := (dC, dI)) (ci := 4) (v := .ref hb_) (C := RX4) (T := TX4) (N := 3) hx hb hts (fun w h => List.mem_cons_of_mem _ (jnGA_X4 w h)) hown hK hP 0 rfl rfl 1 (by decide) (hts _ (List.mem_cons_of_mem _ mGA_123)) (fun _ h9 => h9) rfl dX4_changesAt_1 ?_
  refine lv_iload_n hx hb dX4_changesAt_4 rfl (lv_at hl 1 rfl) ?_
  refine lv_bipush (v := 25) hx hb dX4_changesAt_5 (by decide) ?_
  refine lv_imul hx hb dX4_changesAt_7 ?_
  refine lv_topi (fun x_9 ex_9 => ?_)
  have gx_9 : gi x_9 25 600 := gi_mul ex_9 gp0 (gi_c 25 25 (by decide)) (by decide)
  refine lv_iload_n hx hb dX4_changesAt_8 rfl (lv_at hl 2 rfl) ?_
  refine lv_iadd hx hb dX4_changesAt_9 ?_
  refine lv_topi (fun x_10 ex_10 => ?_)
  have gx_10 : gi x_10 25 624 := gi_add ex_10 gx_9 gp1 (by decide)
  refine va_iald hx hb hK hP 1 0 rfl rfl (gi_in gx_10 (by decide)) dX4_changesAt_10 ?_
  refine lv_topi (fun x_11 ex_11 => ?_)
  refine lv_aload_n hx hb dX4_changesAt_11 rfl (lv_at hl 0 rfl) ?_
  refine va_get (D := (dC, dI)) (ci := 4) (v := .ref hb_) (C := RX4) (T := TX4) (N := 3) hx hb hts (fun w h => List.mem_cons_of_mem _ (jnGA_X4 w h)) hown hK hP 0 rfl rfl 1 (by decide) (hts _ (List.mem_cons_of_mem _ mGA_123)) (fun _ h9 => h9) rfl dX4_changesAt_12 ?_
  refine lv_iload_n hx hb dX4_changesAt_15 rfl (lv_at hl 1 rfl) ?_
  refine lv_iconst (v := 1) hx hb dX4_changesAt_16 (by decide) ?_
  refine lv_isub hx hb dX4_changesAt_17 ?_
  refine lv_topi (fun x_12 ex_12 => ?_)
  have gx_12 : gi x_12 0 23 := gi_sub ex_12 gp0 (gi_c 1 1 (by decide)) (by decide)
  refine lv_bipush (v := 25) hx hb dX4_changesAt_18 (by decide) ?_
  refine lv_imul hx hb dX4_changesAt_20 ?_
  refine lv_topi (fun x_13 ex_13 => ?_)
  have gx_13 : gi x_13 0 575 := gi_mul ex_13 gx_12 (gi_c 25 25 (by decide)) (by decide)
  refine lv_iload_n hx hb dX4_changesAt_21 rfl (lv_at hl 2 rfl) ?_
  refine lv_iadd hx hb dX4_changesAt_22 ?_
  refine lv_topi (fun x_14 ex_14 => ?_)
  have gx_14 : gi x_14 0 599 := gi_add ex_14 gx_13 gp1 (by decide)
  refine va_iald hx hb hK hP 1 0 rfl rfl (gi_in gx_14 (by decide)) dX4_changesAt_23 ?_
  refine lv_topi (fun x_15 ex_15 => ?_)
  refine lv_icmp_eq (tgt := 31) hx hb dX4_changesAt_24 (by decide) (fun c_16 => ?_) (fun c_16 => ?_)
  · refine lv_iconst (v := 0) hx hb dX4_changesAt_31 (by decide) ?_
    exact W.zret (v := 0) hx hb hr (by decide) (fun t ht hW => ⟨⟨0, (), rfl, (gi_w (gi_c 0 0 (by decide)) (by decide)), trivial⟩, hS.F ht⟩) hS.2.2 dX4_changesAt_32
  · refine lv_iconst (v := 1) hx hb dX4_changesAt_27 (by decide) ?_
    refine lv_goto (tgt := 32) hx hb dX4_changesAt_28 (by decide) ?_
    exact W.zret (v := 1) hx hb hr (by decide) (fun t ht hW => ⟨⟨1, (), rfl, (gi_w (gi_c 1 1 (by decide)) (by decide)), trivial⟩, hS.F ht⟩) hS.2.2 dX4_changesAt_32
theorem dX4_changesOf_0 : decode cX4_changesOf 0 = .ok (.iconst 0, 1) := by decide +kernel
theorem dX4_changesOf_1 : decode cX4_changesOf 1 = .ok (.istore_n 2, 1) := by decide +kernel
theorem dX4_changesOf_2 : decode cX4_changesOf 2 = .ok (.iconst 1, 1) := by decide +kernel
theorem dX4_changesOf_3 : decode cX4_changesOf 3 = .ok (.istore_n 3, 1) := by decide +kernel
theorem dX4_changesOf_4 : decode cX4_changesOf 4 = .ok (.iload_n 3, 1) := by decide +kernel
theorem dX4_changesOf_5 : decode cX4_changesOf 5 = .ok (.aload_n 0, 1) := by decide +kernel
theorem dX4_changesOf_6 : decode cX4_changesOf 6 = .ok (.getfield 18, 3) := by decide +kernel
theorem dX4_changesOf_9 : decode cX4_changesOf 9 = .ok (.if_icmp .ge 21, 3) := by decide +kernel
theorem dX4_changesOf_12 : decode cX4_changesOf 12 = .ok (.aload_n 0, 1) := by decide +kernel
theorem dX4_changesOf_13 : decode cX4_changesOf 13 = .ok (.iload_n 3, 1) := by decide +kernel
theorem dX4_changesOf_14 : decode cX4_changesOf 14 = .ok (.iload_n 1, 1) := by decide +kernel
theorem dX4_changesOf_15 : decode cX4_changesOf 15 = .ok (.invokevirtual 41, 3) := by decide +kernel
theorem dX4_changesOf_18 : decode cX4_changesOf 18 = .ok (.ifCond .eq 6, 3) := by decide +kernel
theorem dX4_changesOf_21 : decode cX4_changesOf 21 = .ok (.iinc 2 1, 3) := by decide +kernel
theorem dX4_changesOf_24 : decode cX4_changesOf 24 = .ok (.iinc 3 1, 3) := by decide +kernel
theorem dX4_changesOf_27 : decode cX4_changesOf 27 = .ok (.goto (-23), 3) := by decide +kernel
theorem dX4_changesOf_30 : decode cX4_changesOf 30 = .ok (.iload_n 2, 1) := by decide +kernel
theorem dX4_changesOf_31 : decode cX4_changesOf 31 = .ok (.ireturn, 1) := by decide +kernel
set_option maxHeartbeats 4000000 in
set_option maxRecDepth 100000 in
theorem lp_sX4_changesOf {p : Program} {l : Launch} {e : Env} {R : Room} {s : State} {m : MethodId} {args : Array Value} {below : List Frame} {meth : Method} {c : Code} {Q : State → Prop} {A : Nat → Prop} {cells slots : Nat} {dC : Nat → ClassId} {dI : Nat → Nat → Nat} (h0 : Nat) (hb_ : Nat) (si : Nat) (eras : Int32) (khb_ : ClassId) (fhb_ : Nat → Int32) (p0 : Int32) (geras : gi eras 0 25) (gp0 : gi p0 0 24) (hx : p.tables.exec = Jvm.exec) (hb : c.code = cX4_changesOf) (hml : c.maxLocals = 4) (hown : s.vm.findClass RX4 = some m.cls) (hts : ∀ w ∈ ((.code yX4_changesOf cX4_changesOf 4 (some .int) :: wsGA) : List Cond), w.before args s = true) (hK : va_K (dC, dI) vwCl [(khb_, .int)] s) (hz : nzA s) (hRf : 1 ≤ R.frames) (hRl : 22 ≤ R.locals) (hRc : cells ≤ R.cells) (hRs : slots ≤ R.slots) (kr31 : ∀ (v : Int32) (H : Heap) (locs : List Loc) (ls : Array Slot), va_P (dC, dI) vwCl [(h0, .inr (4, [.ref si, .ref hb_, .int eras])), (hb_, .inl (khb_, 625, .inl fhb_))] H → va_S A s.heap H locs → lv_has ls 4 [] → W p l e R s m args below meth c H locs cells slots Q (F0 m 31 ls [.int v])) : ∀ z : Nat, (∀ (v2 : Int32) (v3 : Int32) (H : Heap) (locs : List Loc) (ls : Array Slot), gi v3 1 25 → 51 + (-2) * v3.toInt < (z : Int) → va_P (dC, dI) vwCl [(h0, .inr (4, [.ref si, .ref hb_, .int eras])), (hb_, .inl (khb_, 625, .inl fhb_))] H → va_S A s.heap H locs → lv_has ls 4 [(0, .ref h0), (1, .int p0), (2, .int v2), (3, .int v3)] → W p l e R s m args below meth c H locs cells slots Q (F0 m 4 ls [])) := by
  intro z
  induction z with
  | zero =>
    intro v2 v3 H locs ls gv3 hmu hP hS hl
    exact absurd hmu (by have hv31 := gv3.1; have hv32 := gv3.2; omega)
  | succ z ih =>
      intro v2 v3 H locs ls gv3 hmu hP hS hl
      refine lv_iload_n hx hb dX4_changesOf_4 rfl (lv_at hl 3 rfl) ?_
      refine lv_aload_n hx hb dX4_changesOf_5 rfl (lv_at hl 0 rfl) ?_
      refine va_get (D := (dC, dI)) (ci := 4) (v := .int eras) (C := RX4) (T := TX4) (N := 3) hx hb hts (fun w h => List.mem_cons_of_mem _ (jnGA_X4 w h)) hown hK hP 0 rfl rfl 2 (by decide) (hts _ (List.mem_cons_of_mem _ mGA_124)) (fun _ h9 => h9) rfl dX4_changesOf_6 ?_
      refine lv_icmp_ge (tgt := 30) hx hb dX4_changesOf_9 (by decide) (fun c_391 => ?_) (fun c_391 => ?_)
      · refine lv_iload_n hx hb dX4_changesOf_30 rfl (lv_at hl 2 rfl) ?_
        exact kr31 v2 _ _ _ hP hS (lv_sub hl [] rfl)
      · have g_392 : gi v3 1 24 := gi_lt_l (Int32.not_le.mp c_391) gv3 geras (by decide)
        have g_393 : gi eras 2 25 := gi_lt_r (Int32.not_le.mp c_391) gv3 geras (by decide)
        refine lv_aload_n hx hb dX4_changesOf_12 rfl (lv_at hl 0 rfl) ?_
        refine lv_iload_n hx hb dX4_changesOf_13 rfl (lv_at hl 3 rfl) ?_
        refine lv_iload_n hx hb dX4_changesOf_14 rfl (lv_at hl 1 rfl) ?_
        have hPc := hP.sub (ws' := [(h0, .inr (4, [.ref si, .ref hb_, .int eras])), (hb_, .inl (khb_, 625, .inl fhb_))]) [0, 1] rfl
        have hKc := hK.sub (tys' := [(khb_, .int)]) [0] rfl
        refine va_calli (va_runV (As := [.int v3, .int p0]) (rest := []) ⟨hx, hb, hml, hown, hts⟩ (sX4_changesAt l dC dI h0 hb_ si eras khb_ fhb_ v3 p0 (gi_w g_393 (by decide)) g_392 gp0) (cwV 2 hts (gz_gV mGA_723 mGA_724 mGA_725 mGA_35 mGA_726 goodGA) rfl rfl rfl (by decide +kernel) ⟨Nat.le_trans (Nat.le_of_ble_eq_true rfl) hRf, Nat.le_trans (Nat.le_of_ble_eq_true rfl) hRl⟩) ⟨fun a U g mk q => by obtain ⟨q0, qP, qK, qZ⟩ := q; exact ⟨q0, qP, va_K.moved (u := U) (U := U.calling g mk a) (Vm.Alike.refl U.vm) qK, nzA_same (u := U) (U := U.calling g mk a) rfl qZ⟩, va_recv hKc hPc (ci := 4) (q0 := 0) rfl rfl, fun U hU hW => ⟨rfl, by rw [hU]; exact hPc, va_K.moved hW.alike hKc, nzA_warm hW hz⟩⟩ rfl rfl hl.1 rfl (lv_room (Nat.le_of_ble_eq_true rfl)) dX4_changesOf_15 ⟨hRc, hRs⟩) hS (fun q _ h => h.elim) (fun q h => h.elim) (fun r_394 u t H1 locs ht hvm hw hB hz1 hk1 hS => ?_)
        have hP := gz_keep hP hk1
        generalize H1 = H at hP hS ⊢
        have gr_394 : gi r_394 0 1 := hw
        refine lv_if_eq (tgt := 24) hx hb dX4_changesOf_18 (by decide) (fun c_395 => ?_) (fun c_395 => ?_)
        · have g_396 : gi r_394 0 0 := gi_eq c_395 (gi_c 0 0 (by decide))
          obtain ⟨x_397, ex_397⟩ : ∃ y : Int32, y = v3 + 1 := ⟨_, rfl⟩
          have gx_397 : gi x_397 2 25 := gi_add ex_397 g_392 (gi_c 1 1 (by decide)) (by decide)
          refine lv_iinc (v := x_397) (lv' := [(3, .int x_397), (0, .ref h0), (1, .int p0), (2, .int v2)]) hx hb dX4_changesOf_24 hl (k := 3) rfl (by rw [ex_397]; rfl) (by decide) rfl (fun ls hl => ?_)
          refine lv_goto (tgt := 4) hx hb dX4_changesOf_27 (by decide) ?_
          exact ih v2 x_397 _ _ _ (gi_w gx_397 (by decide)) (by have av3 := gv3.1; have bv3 := gv3.2; have qgx_397 := gx_397.1; have rgx_397 := gx_397.2; have igx_397 : x_397.toInt = v3.toInt + 1 := (by have hc1 : (1 : Int32).toInt = 1 := (by decide); have h9 := gi_addI ex_397 (by have h1 := g_392.1; have h2 := (gi_c 1 1 (by decide)).1; have h3 := g_392.2; have h4 := (gi_c 1 1 (by decide)).2; omega) (by have h1 := g_392.1; have h2 := (gi_c 1 1 (by decide)).1; have h3 := g_392.2; have h4 := (gi_c 1 1 (by decide)).2; omega); rw [hc1] at h9; exact h9); have qgv3 := g_392.1; have rgv3 := g_392.2; omega) hP hS (lv_sub hl [1, 2, 3, 0] rfl)
        · have g_398 : gi r_394 1 1 := gi_ne_lo c_395 gr_394 (gi_c 0 0 (by decide)) (by decide)
          obtain ⟨x_399, ex_399⟩ : ∃ y : Int32, y = v2 + 1 := ⟨_, rfl⟩
          refine lv_iinc (v := x_399) (lv' := [(2, .int x_399), (0, .ref h0), (1, .int p0), (3, .int v3)]) hx hb dX4_changesOf_21 hl (k := 2) rfl (by rw [ex_399]; rfl) (by decide) rfl (fun ls hl => ?_)
          obtain ⟨x_400, ex_400⟩ : ∃ y : Int32, y = v3 + 1 := ⟨_, rfl⟩
          have gx_400 : gi x_400 2 25 := gi_add ex_400 g_392 (gi_c 1 1 (by decide)) (by decide)
          refine lv_iinc (v := x_400) (lv' := [(3, .int x_400), (2, .int x_399), (0, .ref h0), (1, .int p0)]) hx hb dX4_changesOf_24 hl (k := 3) rfl (by rw [ex_400]; rfl) (by decide) rfl (fun ls hl => ?_)
          refine lv_goto (tgt := 4) hx hb dX4_changesOf_27 (by decide) ?_
          exact ih x_399 x_400 _ _ _ (gi_w gx_400 (by decide)) (by have av3 := gv3.1; have bv3 := gv3.2; have qgx_400 := gx_400.1; have rgx_400 := gx_400.2; have igx_400 : x_400.toInt = v3.toInt + 1 := (by have hc1 : (1 : Int32).toInt = 1 := (by decide); have h9 := gi_addI ex_400 (by have h1 := g_392.1; have h2 := (gi_c 1 1 (by decide)).1; have h3 := g_392.2; have h4 := (gi_c 1 1 (by decide)).2; omega) (by have h1 := g_392.1; have h2 := (gi_c 1 1 (by decide)).1; have h3 := g_392.2; have h4 := (gi_c 1 1 (by decide)).2; omega); rw [hc1] at h9; exact h9); have qgv3 := g_392.1; have rgv3 := g_392.2; omega) hP hS (lv_sub hl [2, 3, 1, 0] rfl)
set_option maxHeartbeats 4000000 in
set_option maxRecDepth 100000 in
theorem sX4_changesOf (l : Launch) (dC : Nat → ClassId) (dI : Nat → Nat → Nat) (h0 : Nat) (hb_ : Nat) (si : Nat) (eras : Int32) (khb_ : ClassId) (fhb_ : Nat → Int32) (p0 : Int32) (geras : gi eras 0 25) (gp0 : gi p0 0 24) : Met l yX4_changesOf (.code yX4_changesOf cX4_changesOf 4 (some .int) :: wsGA) ({ frames := 1, cells := 0, slots := 0, locals := 22 }) (va_Pc [.ref h0, .int p0] (fun U => va_P (dC, dI) vwCl [(h0, .inr (4, [.ref si, .ref hb_, .int eras])), (hb_, .inl (khb_, 625, .inl fhb_))] U.heap ∧ va_K (dC, dI) vwCl [(khb_, .int)] U ∧ nzA U)) (va_Qi (fun (r : Int32) (u : Unit) => gi r (-2147483648) 2147483647) (fun _ _ => True) (fun _ => False)) 0 0 (fun _ => False) := by
  refine Met.ofW (cc := cX4_changesOf) (maxL := 4) (ret := (some .int)) (by decide) rfl ?_
  intro p e s m args below meth c s₁ B hml hv
  obtain ⟨rfl, hP, hK, hz⟩ := hv
  have hx := B.exec
  have hb := B.bytes
  have hr := B.returns
  have hts := atoms_spec (ws := (.code yX4_changesOf cX4_changesOf 4 (some .int) :: wsGA)) B.pre
  have hown : s.vm.findClass RX4 = some m.cls := findClass_of_methodNamed B.named
  have hlocks := B.notSynchronized
  have hS : va_S (fun _ => False) s.heap s.heap [] := va_S.rf
  have hl := lv_entry ([.ref h0, .int p0]) (n := 4) (Nat.le_of_ble_eq_true rfl)
  rw [lg_entry_eq]
  generalize (lg_sl ([.ref h0, .int p0]) ++ List.replicate (4 - (lg_sl ([.ref h0, .int p0])).length) Slot.unset).toArray = ls at hl ⊢
  have hl : lv_has ls 4 [(0, .ref h0), (1, .int p0)] := hl
  refine lv_iconst (v := 0) hx hb dX4_changesOf_0 (by decide) ?_
  refine lv_istore_n (lv' := [(2, .int 0), (0, .ref h0), (1, .int p0)]) hx hb dX4_changesOf_1 rfl hl (by decide) rfl (fun ls hl => ?_)
  refine lv_iconst (v := 1) hx hb dX4_changesOf_2 (by decide) ?_
  refine lv_istore_n (lv' := [(3, .int 1), (2, .int 0), (0, .ref h0), (1, .int p0)]) hx hb dX4_changesOf_3 rfl hl (by decide) rfl (fun ls hl => ?_)
  refine (lp_sX4_changesOf h0 hb_ si eras khb_ fhb_ p0 geras gp0 hx hb hml hown hts hK hz (Nat.le_of_ble_eq_true rfl) (Nat.le_of_ble_eq_true rfl) (Nat.zero_le _) (Nat.zero_le _) (fun v H locs ls hP hS hl => ?_) 62) 0 1 _ _ _ (gi_w (gi_c 1 1 (by decide)) (by decide)) (by have k1 : (1 : Int32).toInt = 1 := (by decide); omega) hP hS (lv_sub hl [2, 3, 1, 0] rfl)
  · skip
    exact W.iret (v := v) hx hb hr (fun t ht hW => ⟨⟨v, (), rfl, (gi_any v), trivial⟩, hS.F ht⟩) hS.2.2 dX4_changesOf_31
theorem dX4_lastChangeOf_0 : decode cX4_lastChangeOf 0 = .ok (.aload_n 0, 1) := by decide +kernel
theorem dX4_lastChangeOf_1 : decode cX4_lastChangeOf 1 = .ok (.getfield 18, 3) := by decide +kernel
theorem dX4_lastChangeOf_4 : decode cX4_lastChangeOf 4 = .ok (.iconst 1, 1) := by decide +kernel
theorem dX4_lastChangeOf_5 : decode cX4_lastChangeOf 5 = .ok (.isub, 1) := by decide +kernel
theorem dX4_lastChangeOf_6 : decode cX4_lastChangeOf 6 = .ok (.istore_n 2, 1) := by decide +kernel
theorem dX4_lastChangeOf_7 : decode cX4_lastChangeOf 7 = .ok (.iload_n 2, 1) := by decide +kernel
theorem dX4_lastChangeOf_8 : decode cX4_lastChangeOf 8 = .ok (.iconst 1, 1) := by decide +kernel
theorem dX4_lastChangeOf_9 : decode cX4_lastChangeOf 9 = .ok (.if_icmp .lt 25, 3) := by decide +kernel
theorem dX4_lastChangeOf_12 : decode cX4_lastChangeOf 12 = .ok (.aload_n 0, 1) := by decide +kernel
theorem dX4_lastChangeOf_13 : decode cX4_lastChangeOf 13 = .ok (.iload_n 2, 1) := by decide +kernel
theorem dX4_lastChangeOf_14 : decode cX4_lastChangeOf 14 = .ok (.iload_n 1, 1) := by decide +kernel
theorem dX4_lastChangeOf_15 : decode cX4_lastChangeOf 15 = .ok (.invokevirtual 41, 3) := by decide +kernel
theorem dX4_lastChangeOf_18 : decode cX4_lastChangeOf 18 = .ok (.ifCond .eq 10, 3) := by decide +kernel
theorem dX4_lastChangeOf_21 : decode cX4_lastChangeOf 21 = .ok (.aload_n 0, 1) := by decide +kernel
theorem dX4_lastChangeOf_22 : decode cX4_lastChangeOf 22 = .ok (.getfield 11, 3) := by decide +kernel
theorem dX4_lastChangeOf_25 : decode cX4_lastChangeOf 25 = .ok (.iload_n 2, 1) := by decide +kernel
theorem dX4_lastChangeOf_26 : decode cX4_lastChangeOf 26 = .ok (.iaload, 1) := by decide +kernel
theorem dX4_lastChangeOf_27 : decode cX4_lastChangeOf 27 = .ok (.ireturn, 1) := by decide +kernel
theorem dX4_lastChangeOf_28 : decode cX4_lastChangeOf 28 = .ok (.iinc 2 (-1), 3) := by decide +kernel
theorem dX4_lastChangeOf_31 : decode cX4_lastChangeOf 31 = .ok (.goto (-24), 3) := by decide +kernel
theorem dX4_lastChangeOf_34 : decode cX4_lastChangeOf 34 = .ok (.iconst 0, 1) := by decide +kernel
theorem dX4_lastChangeOf_35 : decode cX4_lastChangeOf 35 = .ok (.ireturn, 1) := by decide +kernel
set_option maxHeartbeats 4000000 in
set_option maxRecDepth 100000 in
theorem lp_sX4_lastChangeOf {p : Program} {l : Launch} {e : Env} {R : Room} {s : State} {m : MethodId} {args : Array Value} {below : List Frame} {meth : Method} {c : Code} {Q : State → Prop} {A : Nat → Prop} {cells slots : Nat} {dC : Nat → ClassId} {dI : Nat → Nat → Nat} (h0 : Nat) (si : Nat) (hb_ : Nat) (eras : Int32) (ksi : ClassId) (fsi : Nat → Int32) (khb_ : ClassId) (fhb_ : Nat → Int32) (p0 : Int32) (geras : gi eras 0 25) (gp0 : gi p0 0 24) (hx : p.tables.exec = Jvm.exec) (hb : c.code = cX4_lastChangeOf) (hml : c.maxLocals = 3) (hown : s.vm.findClass RX4 = some m.cls) (hts : ∀ w ∈ ((.code yX4_lastChangeOf cX4_lastChangeOf 3 (some .int) :: wsGA) : List Cond), w.before args s = true) (hK : va_K (dC, dI) vwCl [(ksi, .int), (khb_, .int)] s) (hz : nzA s) (hRf : 1 ≤ R.frames) (hRl : 22 ≤ R.locals) (hRc : cells ≤ R.cells) (hRs : slots ≤ R.slots) (kr35 : ∀ (v : Int32) (H : Heap) (locs : List Loc) (ls : Array Slot), gi v 0 0 → va_P (dC, dI) vwCl [(h0, .inr (4, [.ref si, .ref hb_, .int eras])), (si, .inl (ksi, 25, .inl fsi)), (hb_, .inl (khb_, 625, .inl fhb_))] H → va_S A s.heap H locs → lv_has ls 3 [] → W p l e R s m args below meth c H locs cells slots Q (F0 m 35 ls [.int v])) (kr27 : ∀ (v : Int32) (H : Heap) (locs : List Loc) (ls : Array Slot), va_P (dC, dI) vwCl [(h0, .inr (4, [.ref si, .ref hb_, .int eras])), (si, .inl (ksi, 25, .inl fsi)), (hb_, .inl (khb_, 625, .inl fhb_))] H → va_S A s.heap H locs → lv_has ls 3 [] → W p l e R s m args below meth c H locs cells slots Q (F0 m 27 ls [.int v])) : ∀ z : Nat, (∀ (v2 : Int32) (H : Heap) (locs : List Loc) (ls : Array Slot), gi v2 (-1) 24 → 3 + 2 * v2.toInt < (z : Int) → va_P (dC, dI) vwCl [(h0, .inr (4, [.ref si, .ref hb_, .int eras])), (si, .inl (ksi, 25, .inl fsi)), (hb_, .inl (khb_, 625, .inl fhb_))] H → va_S A s.heap H locs → lv_has ls 3 [(0, .ref h0), (1, .int p0), (2, .int v2)] → W p l e R s m args below meth c H locs cells slots Q (F0 m 7 ls [])) := by
  intro z
  induction z with
  | zero =>
    intro v2 H locs ls gv2 hmu hP hS hl
    exact absurd hmu (by have hv21 := gv2.1; have hv22 := gv2.2; omega)
  | succ z ih =>
      intro v2 H locs ls gv2 hmu hP hS hl
      refine lv_iload_n hx hb dX4_lastChangeOf_7 rfl (lv_at hl 2 rfl) ?_
      refine lv_iconst (v := 1) hx hb dX4_lastChangeOf_8 (by decide) ?_
      refine lv_icmp_lt (tgt := 34) hx hb dX4_lastChangeOf_9 (by decide) (fun c_21 => ?_) (fun c_21 => ?_)
      · have g_22 : gi v2 (-1) 0 := gi_lt_l c_21 gv2 (gi_c 1 1 (by decide)) (by decide)
        refine lv_iconst (v := 0) hx hb dX4_lastChangeOf_34 (by decide) ?_
        exact kr35 0 _ _ _ (gi_c 0 0 (by decide)) hP hS (lv_sub hl [] rfl)
      · have g_23 : gi v2 1 24 := gi_le_r (Int32.not_lt.mp c_21) (gi_c 1 1 (by decide)) gv2
        refine lv_aload_n hx hb dX4_lastChangeOf_12 rfl (lv_at hl 0 rfl) ?_
        refine lv_iload_n hx hb dX4_lastChangeOf_13 rfl (lv_at hl 2 rfl) ?_
        refine lv_iload_n hx hb dX4_lastChangeOf_14 rfl (lv_at hl 1 rfl) ?_
        have hPc := hP.sub (ws' := [(h0, .inr (4, [.ref si, .ref hb_, .int eras])), (hb_, .inl (khb_, 625, .inl fhb_))]) [0, 2] rfl
        have hKc := hK.sub (tys' := [(khb_, .int)]) [1] rfl
        refine va_calli (va_runV (As := [.int v2, .int p0]) (rest := []) ⟨hx, hb, hml, hown, hts⟩ (sX4_changesAt l dC dI h0 hb_ si eras khb_ fhb_ v2 p0 geras g_23 gp0) (cwV 2 hts (gz_gV mGA_723 mGA_724 mGA_725 mGA_35 mGA_726 goodGA) rfl rfl rfl (by decide +kernel) ⟨Nat.le_trans (Nat.le_of_ble_eq_true rfl) hRf, Nat.le_trans (Nat.le_of_ble_eq_true rfl) hRl⟩) ⟨fun a U g mk q => by obtain ⟨q0, qP, qK, qZ⟩ := q; exact ⟨q0, qP, va_K.moved (u := U) (U := U.calling g mk a) (Vm.Alike.refl U.vm) qK, nzA_same (u := U) (U := U.calling g mk a) rfl qZ⟩, va_recv hKc hPc (ci := 4) (q0 := 0) rfl rfl, fun U hU hW => ⟨rfl, by rw [hU]; exact hPc, va_K.moved hW.alike hKc, nzA_warm hW hz⟩⟩ rfl rfl hl.1 rfl (lv_room (Nat.le_of_ble_eq_true rfl)) dX4_lastChangeOf_15 ⟨hRc, hRs⟩) hS (fun q _ h => h.elim) (fun q h => h.elim) (fun r_24 u t H1 locs ht hvm hw hB hz1 hk1 hS => ?_)
        have hP := gz_keep hP hk1
        generalize H1 = H at hP hS ⊢
        have gr_24 : gi r_24 0 1 := hw
        refine lv_if_eq (tgt := 28) hx hb dX4_lastChangeOf_18 (by decide) (fun c_25 => ?_) (fun c_25 => ?_)
        · have g_26 : gi r_24 0 0 := gi_eq c_25 (gi_c 0 0 (by decide))
          obtain ⟨x_27, ex_27⟩ : ∃ y : Int32, y = v2 + (-1) := ⟨_, rfl⟩
          have gx_27 : gi x_27 0 23 := gi_add ex_27 g_23 (gi_c (-1) (-1) (by decide)) (by decide)
          refine lv_iinc (v := x_27) (lv' := [(2, .int x_27), (0, .ref h0), (1, .int p0)]) hx hb dX4_lastChangeOf_28 hl (k := 2) rfl (by rw [ex_27]; rfl) (by decide) rfl (fun ls hl => ?_)
          refine lv_goto (tgt := 7) hx hb dX4_lastChangeOf_31 (by decide) ?_
          exact ih x_27 _ _ _ (gi_w gx_27 (by decide)) (by have av2 := gv2.1; have bv2 := gv2.2; have qgx_27 := gx_27.1; have rgx_27 := gx_27.2; have igx_27 : x_27.toInt = v2.toInt + (-1) := (by have hcm1 : ((-1) : Int32).toInt = (-1) := (by decide); have h9 := gi_addI ex_27 (by have h1 := g_23.1; have h2 := (gi_c (-1) (-1) (by decide)).1; have h3 := g_23.2; have h4 := (gi_c (-1) (-1) (by decide)).2; omega) (by have h1 := g_23.1; have h2 := (gi_c (-1) (-1) (by decide)).1; have h3 := g_23.2; have h4 := (gi_c (-1) (-1) (by decide)).2; omega); rw [hcm1] at h9; exact h9); have qgv2 := g_23.1; have rgv2 := g_23.2; omega) hP hS (lv_sub hl [1, 2, 0] rfl)
        · have g_28 : gi r_24 1 1 := gi_ne_lo c_25 gr_24 (gi_c 0 0 (by decide)) (by decide)
          refine lv_aload_n hx hb dX4_lastChangeOf_21 rfl (lv_at hl 0 rfl) ?_
          refine va_get (D := (dC, dI)) (ci := 4) (v := .ref si) (C := RX4) (T := TX4) (N := 3) hx hb hts (fun w h => List.mem_cons_of_mem _ (jnGA_X4 w h)) hown hK hP 0 rfl rfl 0 (by decide) (hts _ (List.mem_cons_of_mem _ mGA_122)) (fun _ h9 => h9) rfl dX4_lastChangeOf_22 ?_
          refine lv_iload_n hx hb dX4_lastChangeOf_25 rfl (lv_at hl 2 rfl) ?_
          refine va_iald hx hb hK hP 1 0 rfl rfl (gi_in g_23 (by decide)) dX4_lastChangeOf_26 ?_
          refine lv_topi (fun x_29 ex_29 => ?_)
          exact kr27 x_29 _ _ _ hP hS (lv_sub hl [] rfl)
set_option maxHeartbeats 4000000 in
set_option maxRecDepth 100000 in
theorem sX4_lastChangeOf (l : Launch) (dC : Nat → ClassId) (dI : Nat → Nat → Nat) (h0 : Nat) (si : Nat) (hb_ : Nat) (eras : Int32) (ksi : ClassId) (fsi : Nat → Int32) (khb_ : ClassId) (fhb_ : Nat → Int32) (p0 : Int32) (geras : gi eras 0 25) (gp0 : gi p0 0 24) : Met l yX4_lastChangeOf (.code yX4_lastChangeOf cX4_lastChangeOf 3 (some .int) :: wsGA) ({ frames := 1, cells := 0, slots := 0, locals := 22 }) (va_Pc [.ref h0, .int p0] (fun U => va_P (dC, dI) vwCl [(h0, .inr (4, [.ref si, .ref hb_, .int eras])), (si, .inl (ksi, 25, .inl fsi)), (hb_, .inl (khb_, 625, .inl fhb_))] U.heap ∧ va_K (dC, dI) vwCl [(ksi, .int), (khb_, .int)] U ∧ nzA U)) (va_Qi (fun (r : Int32) (u : Unit) => gi r (-2147483648) 2147483647) (fun _ _ => True) (fun _ => False)) 0 0 (fun _ => False) := by
  refine Met.ofW (cc := cX4_lastChangeOf) (maxL := 3) (ret := (some .int)) (by decide) rfl ?_
  intro p e s m args below meth c s₁ B hml hv
  obtain ⟨rfl, hP, hK, hz⟩ := hv
  have hx := B.exec
  have hb := B.bytes
  have hr := B.returns
  have hts := atoms_spec (ws := (.code yX4_lastChangeOf cX4_lastChangeOf 3 (some .int) :: wsGA)) B.pre
  have hown : s.vm.findClass RX4 = some m.cls := findClass_of_methodNamed B.named
  have hlocks := B.notSynchronized
  have hS : va_S (fun _ => False) s.heap s.heap [] := va_S.rf
  have hl := lv_entry ([.ref h0, .int p0]) (n := 3) (Nat.le_of_ble_eq_true rfl)
  rw [lg_entry_eq]
  generalize (lg_sl ([.ref h0, .int p0]) ++ List.replicate (3 - (lg_sl ([.ref h0, .int p0])).length) Slot.unset).toArray = ls at hl ⊢
  have hl : lv_has ls 3 [(0, .ref h0), (1, .int p0)] := hl
  refine lv_aload_n hx hb dX4_lastChangeOf_0 rfl (lv_at hl 0 rfl) ?_
  refine va_get (D := (dC, dI)) (ci := 4) (v := .int eras) (C := RX4) (T := TX4) (N := 3) hx hb hts (fun w h => List.mem_cons_of_mem _ (jnGA_X4 w h)) hown hK hP 0 rfl rfl 2 (by decide) (hts _ (List.mem_cons_of_mem _ mGA_124)) (fun _ h9 => h9) rfl dX4_lastChangeOf_1 ?_
  refine lv_iconst (v := 1) hx hb dX4_lastChangeOf_4 (by decide) ?_
  refine lv_isub hx hb dX4_lastChangeOf_5 ?_
  refine lv_topi (fun x_30 ex_30 => ?_)
  have gx_30 : gi x_30 (-1) 24 := gi_sub ex_30 geras (gi_c 1 1 (by decide)) (by decide)
  refine lv_istore_n (lv' := [(2, .int x_30), (0, .ref h0), (1, .int p0)]) hx hb dX4_lastChangeOf_6 rfl hl (by decide) rfl (fun ls hl => ?_)
  refine (lp_sX4_lastChangeOf h0 si hb_ eras ksi fsi khb_ fhb_ p0 geras gp0 hx hb hml hown hts hK hz (Nat.le_of_ble_eq_true rfl) (Nat.le_of_ble_eq_true rfl) (Nat.zero_le _) (Nat.zero_le _) (fun v H locs ls gv hP hS hl => ?_) (fun v H locs ls hP hS hl => ?_) 64) x_30 _ _ _ gx_30 (by have qgx_30 := gx_30.1; have rgx_30 := gx_30.2; have igx_30 : x_30.toInt = eras.toInt - 1 := (by have hc1 : (1 : Int32).toInt = 1 := (by decide); have h9 := gi_subI ex_30 (by have h1 := geras.1; have h2 := (gi_c 1 1 (by decide)).1; have h3 := geras.2; have h4 := (gi_c 1 1 (by decide)).2; omega) (by have h1 := geras.1; have h2 := (gi_c 1 1 (by decide)).1; have h3 := geras.2; have h4 := (gi_c 1 1 (by decide)).2; omega); rw [hc1] at h9; exact h9); have qgeras := geras.1; have rgeras := geras.2; omega) hP hS (lv_sub hl [1, 2, 0] rfl)
  · skip
    exact W.iret (v := v) hx hb hr (fun t ht hW => ⟨⟨v, (), rfl, (gi_any v), trivial⟩, hS.F ht⟩) hS.2.2 dX4_lastChangeOf_35
  · skip
    exact W.iret (v := v) hx hb hr (fun t ht hW => ⟨⟨v, (), rfl, (gi_any v), trivial⟩, hS.F ht⟩) hS.2.2 dX4_lastChangeOf_27
theorem dX1_lengthOf_0 : decode cX1_lengthOf 0 = .ok (.aload_n 0, 1) := by decide +kernel
theorem dX1_lengthOf_1 : decode cX1_lengthOf 1 = .ok (.getfield 29, 3) := by decide +kernel
theorem dX1_lengthOf_4 : decode cX1_lengthOf 4 = .ok (.iload_n 1, 1) := by decide +kernel
theorem dX1_lengthOf_5 : decode cX1_lengthOf 5 = .ok (.iconst 1, 1) := by decide +kernel
theorem dX1_lengthOf_6 : decode cX1_lengthOf 6 = .ok (.iadd, 1) := by decide +kernel
theorem dX1_lengthOf_7 : decode cX1_lengthOf 7 = .ok (.iaload, 1) := by decide +kernel
theorem dX1_lengthOf_8 : decode cX1_lengthOf 8 = .ok (.aload_n 0, 1) := by decide +kernel
theorem dX1_lengthOf_9 : decode cX1_lengthOf 9 = .ok (.getfield 29, 3) := by decide +kernel
theorem dX1_lengthOf_12 : decode cX1_lengthOf 12 = .ok (.iload_n 1, 1) := by decide +kernel
theorem dX1_lengthOf_13 : decode cX1_lengthOf 13 = .ok (.iaload, 1) := by decide +kernel
theorem dX1_lengthOf_14 : decode cX1_lengthOf 14 = .ok (.isub, 1) := by decide +kernel
theorem dX1_lengthOf_15 : decode cX1_lengthOf 15 = .ok (.ireturn, 1) := by decide +kernel
set_option maxHeartbeats 4000000 in
set_option maxRecDepth 100000 in
theorem sX1_lengthOf (l : Launch) (dC : Nat → ClassId) (dI : Nat → Nat → Nat) (h0 : Nat) (cb : Nat) (frame : Nat) (verdicts : Nat) (queue : Nat) (turns : Nat) (queueLength : Int32) (takenBits : Int32) (kcb : ClassId) (fcb : Nat → Int32) (p0 : Int32) (gqueueLength : gi queueLength 0 24) (gp0 : gi p0 0 23) : Met l yX1_lengthOf (.code yX1_lengthOf cX1_lengthOf 2 (some .int) :: wsGA) ({ frames := 0, cells := 0, slots := 0, locals := 0 }) (va_Pc [.ref h0, .int p0] (fun U => va_P (dC, dI) vwCl [(h0, .inr (1, [.ref frame, .ref verdicts, .ref queue, .ref turns, .ref cb, .int queueLength, .int takenBits])), (cb, .inl (kcb, 25, .inl fcb))] U.heap ∧ va_K (dC, dI) vwCl [(kcb, .int)] U ∧ nzA U)) (va_Qi (fun (r : Int32) (u : Unit) => gi r (-2147483648) 2147483647) (fun _ _ => True) (fun _ => False)) 0 0 (fun _ => False) := by
  refine Met.ofW (cc := cX1_lengthOf) (maxL := 2) (ret := (some .int)) (by decide) rfl ?_
  intro p e s m args below meth c s₁ B hml hv
  obtain ⟨rfl, hP, hK, hz⟩ := hv
  have hx := B.exec
  have hb := B.bytes
  have hr := B.returns
  have hts := atoms_spec (ws := (.code yX1_lengthOf cX1_lengthOf 2 (some .int) :: wsGA)) B.pre
  have hown : s.vm.findClass RX1 = some m.cls := findClass_of_methodNamed B.named
  have hlocks := B.notSynchronized
  have hS : va_S (fun _ => False) s.heap s.heap [] := va_S.rf
  have hl := lv_entry ([.ref h0, .int p0]) (n := 2) (Nat.le_of_ble_eq_true rfl)
  rw [lg_entry_eq]
  generalize (lg_sl ([.ref h0, .int p0]) ++ List.replicate (2 - (lg_sl ([.ref h0, .int p0])).length) Slot.unset).toArray = ls at hl ⊢
  have hl : lv_has ls 2 [(0, .ref h0), (1, .int p0)] := hl
  refine lv_aload_n hx hb dX1_lengthOf_0 rfl (lv_at hl 0 rfl) ?_
  refine va_get (D := (dC, dI)) (ci := 1) (v := .ref cb) (C := RX1) (T := TX1) (N := 7) hx hb hts (fun w h => List.mem_cons_of_mem _ (jnGA_X1 w h)) hown hK hP 0 rfl rfl 4 (by decide) (hts _ (List.mem_cons_of_mem _ mGA_105)) (fun _ h9 => h9) rfl dX1_lengthOf_1 ?_
  refine lv_iload_n hx hb dX1_lengthOf_4 rfl (lv_at hl 1 rfl) ?_
  refine lv_iconst (v := 1) hx hb dX1_lengthOf_5 (by decide) ?_
  refine lv_iadd hx hb dX1_lengthOf_6 ?_
  refine lv_topi (fun x_5 ex_5 => ?_)
  have gx_5 : gi x_5 1 24 := gi_add ex_5 gp0 (gi_c 1 1 (by decide)) (by decide)
  refine va_iald hx hb hK hP 1 0 rfl rfl (gi_in gx_5 (by decide)) dX1_lengthOf_7 ?_
  refine lv_topi (fun x_6 ex_6 => ?_)
  refine lv_aload_n hx hb dX1_lengthOf_8 rfl (lv_at hl 0 rfl) ?_
  refine va_get (D := (dC, dI)) (ci := 1) (v := .ref cb) (C := RX1) (T := TX1) (N := 7) hx hb hts (fun w h => List.mem_cons_of_mem _ (jnGA_X1 w h)) hown hK hP 0 rfl rfl 4 (by decide) (hts _ (List.mem_cons_of_mem _ mGA_105)) (fun _ h9 => h9) rfl dX1_lengthOf_9 ?_
  refine lv_iload_n hx hb dX1_lengthOf_12 rfl (lv_at hl 1 rfl) ?_
  refine va_iald hx hb hK hP 1 0 rfl rfl (gi_in gp0 (by decide)) dX1_lengthOf_13 ?_
  refine lv_topi (fun x_7 ex_7 => ?_)
  refine lv_isub hx hb dX1_lengthOf_14 ?_
  refine lv_topi (fun x_8 ex_8 => ?_)
  exact W.iret (v := x_8) hx hb hr (fun t ht hW => ⟨⟨x_8, (), rfl, (gi_any x_8), trivial⟩, hS.F ht⟩) hS.2.2 dX1_lengthOf_15
theorem dX0_wipe_0 : decode cX0_wipe 0 = .ok (.aload_n 0, 1) := by decide +kernel
theorem dX0_wipe_1 : decode cX0_wipe 1 = .ok (.iconst 0, 1) := by decide +kernel
theorem dX0_wipe_2 : decode cX0_wipe 2 = .ok (.putfield 32, 3) := by decide +kernel
theorem dX0_wipe_5 : decode cX0_wipe 5 = .ok (.aload_n 0, 1) := by decide +kernel
theorem dX0_wipe_6 : decode cX0_wipe 6 = .ok (.iconst 0, 1) := by decide +kernel
theorem dX0_wipe_7 : decode cX0_wipe 7 = .ok (.putfield 36, 3) := by decide +kernel
theorem dX0_wipe_10 : decode cX0_wipe 10 = .ok (.aload_n 0, 1) := by decide +kernel
theorem dX0_wipe_11 : decode cX0_wipe 11 = .ok (.iconst 0, 1) := by decide +kernel
theorem dX0_wipe_12 : decode cX0_wipe 12 = .ok (.putfield 39, 3) := by decide +kernel
theorem dX0_wipe_15 : decode cX0_wipe 15 = .ok (.aload_n 0, 1) := by decide +kernel
theorem dX0_wipe_16 : decode cX0_wipe 16 = .ok (.iconst 0, 1) := by decide +kernel
theorem dX0_wipe_17 : decode cX0_wipe 17 = .ok (.putfield 42, 3) := by decide +kernel
theorem dX0_wipe_20 : decode cX0_wipe 20 = .ok (.aload_n 0, 1) := by decide +kernel
theorem dX0_wipe_21 : decode cX0_wipe 21 = .ok (.iconst 0, 1) := by decide +kernel
theorem dX0_wipe_22 : decode cX0_wipe 22 = .ok (.putfield 45, 3) := by decide +kernel
theorem dX0_wipe_25 : decode cX0_wipe 25 = .ok (.aload_n 0, 1) := by decide +kernel
theorem dX0_wipe_26 : decode cX0_wipe 26 = .ok (.iconst 0, 1) := by decide +kernel
theorem dX0_wipe_27 : decode cX0_wipe 27 = .ok (.putfield 49, 3) := by decide +kernel
theorem dX0_wipe_30 : decode cX0_wipe 30 = .ok (.aload_n 0, 1) := by decide +kernel
theorem dX0_wipe_31 : decode cX0_wipe 31 = .ok (.iconst 0, 1) := by decide +kernel
theorem dX0_wipe_32 : decode cX0_wipe 32 = .ok (.putfield 52, 3) := by decide +kernel
theorem dX0_wipe_35 : decode cX0_wipe 35 = .ok (.aload_n 0, 1) := by decide +kernel
theorem dX0_wipe_36 : decode cX0_wipe 36 = .ok (.iconst 0, 1) := by decide +kernel
theorem dX0_wipe_37 : decode cX0_wipe 37 = .ok (.putfield 55, 3) := by decide +kernel
theorem dX0_wipe_40 : decode cX0_wipe 40 = .ok (.aload_n 0, 1) := by decide +kernel
theorem dX0_wipe_41 : decode cX0_wipe 41 = .ok (.iconst 0, 1) := by decide +kernel
theorem dX0_wipe_42 : decode cX0_wipe 42 = .ok (.putfield 58, 3) := by decide +kernel
theorem dX0_wipe_45 : decode cX0_wipe 45 = .ok (.aload_n 0, 1) := by decide +kernel
theorem dX0_wipe_46 : decode cX0_wipe 46 = .ok (.iconst 0, 1) := by decide +kernel
theorem dX0_wipe_47 : decode cX0_wipe 47 = .ok (.putfield 61, 3) := by decide +kernel
theorem dX0_wipe_50 : decode cX0_wipe 50 = .ok (.return_, 1) := by decide +kernel
noncomputable def fX0_wipe : Int32 × Int32 × Int32 × Int32 × Int32 × Int32 × Int32 × Int32 × Int32 × Int32 := ((0 : Int32), (0 : Int32), (0 : Int32), (0 : Int32), (0 : Int32), (0 : Int32), (0 : Int32), (0 : Int32), (0 : Int32), (0 : Int32))
set_option maxHeartbeats 4000000 in
set_option maxRecDepth 100000 in
theorem sX0_wipe (l : Launch) (dC : Nat → ClassId) (dI : Nat → Nat → Nat) (sz : Nat) (h0 : Nat) (months : Int32) (full : Int32) (lean : Int32) (lines : Int32) (hasMoon : Int32) (moonStart : Int32) (moonStep : Int32) (placeCount : Int32) (reportCount : Int32) (deedCount : Int32) (places : Nat) (reports : Nat) (deeds : Nat) (gmonths : gi months 0 24) (gfull : gi full 0 5) (glean : gi lean 0 5) (ghasMoon : gi hasMoon 0 1) (gplaceCount : gi placeCount 0 6) (greportCount : gi reportCount 0 24) (gdeedCount : gi deedCount 0 8) : Met l yX0_wipe (.code yX0_wipe cX0_wipe 1 none :: wsGA) ({ frames := 0, cells := 0, slots := 0, locals := 0 }) (va_Pc [.ref h0] (fun U => U.heap.size = sz ∧ va_P (dC, dI) vwCl [(h0, .inr (0, [.int months, .int full, .int lean, .int lines, .int hasMoon, .int moonStart, .int moonStep, .int placeCount, .int reportCount, .int deedCount, .ref places, .ref reports, .ref deeds]))] U.heap ∧ va_K (dC, dI) vwCl [] U ∧ va_D (fun _ => True) [(h0, .inr (0, [.int months, .int full, .int lean, .int lines, .int hasMoon, .int moonStart, .int moonStep, .int placeCount, .int reportCount, .int deedCount, .ref places, .ref reports, .ref deeds]))] ∧ nzA U)) (va_Qv (fun (u : Unit) => True) (fun _ t => ∃ (w0_0 : Int32) (w0_1 : Int32) (w0_2 : Int32) (w0_3 : Int32) (w0_4 : Int32) (w0_5 : Int32) (w0_6 : Int32) (w0_7 : Int32) (w0_8 : Int32) (w0_9 : Int32), gi w0_0 0 24 ∧ gi w0_1 0 5 ∧ gi w0_2 0 5 ∧ gi w0_4 0 1 ∧ gi w0_7 0 6 ∧ gi w0_8 0 24 ∧ gi w0_9 0 8 ∧ (w0_0, w0_1, w0_2, w0_3, w0_4, w0_5, w0_6, w0_7, w0_8, w0_9) = fX0_wipe ∧ va_P (dC, dI) vwCl [(h0, .inr (0, [.int w0_0, .int w0_1, .int w0_2, .int w0_3, .int w0_4, .int w0_5, .int w0_6, .int w0_7, .int w0_8, .int w0_9, .ref places, .ref reports, .ref deeds]))] t.heap ∧ va_D (va_A [(h0, .inr (0, [.int months, .int full, .int lean, .int lines, .int hasMoon, .int moonStart, .int moonStep, .int placeCount, .int reportCount, .int deedCount, .ref places, .ref reports, .ref deeds]))] sz) [(h0, .inr (0, [.int w0_0, .int w0_1, .int w0_2, .int w0_3, .int w0_4, .int w0_5, .int w0_6, .int w0_7, .int w0_8, .int w0_9, .ref places, .ref reports, .ref deeds]))]) (va_A [(h0, .inr (0, [.int months, .int full, .int lean, .int lines, .int hasMoon, .int moonStart, .int moonStep, .int placeCount, .int reportCount, .int deedCount, .ref places, .ref reports, .ref deeds]))] sz)) 0 0 (va_A [(h0, .inr (0, [.int months, .int full, .int lean, .int lines, .int hasMoon, .int moonStart, .int moonStep, .int placeCount, .int reportCount, .int deedCount, .ref places, .ref reports, .ref deeds]))] sz) := by
  refine Met.ofW (cc := cX0_wipe) (maxL := 1) (ret := none) (by decide) rfl ?_
  intro p e s m args below meth c s₁ B hml hv
  obtain ⟨rfl, hsz, hP, hK, hD0, hz⟩ := hv
  have hx := B.exec
  have hb := B.bytes
  have hr := B.returns
  have hts := atoms_spec (ws := (.code yX0_wipe cX0_wipe 1 none :: wsGA)) B.pre
  have hown : s.vm.findClass RX0 = some m.cls := findClass_of_methodNamed B.named
  have hlocks := B.notSynchronized
  subst hsz
  have hD := hD0.self (sz := s.heap.size)
  generalize hAe : va_A [(h0, .inr (0, [.int months, .int full, .int lean, .int lines, .int hasMoon, .int moonStart, .int moonStep, .int placeCount, .int reportCount, .int deedCount, .ref places, .ref reports, .ref deeds]))] s.heap.size = A at hD ⊢
  have hA : ∀ q : Nat, s.heap.size ≤ q → A q := fun q h => by rw [← hAe]; exact Or.inr h
  have hS : va_S A s.heap s.heap [] := va_S.rf
  have hl := lv_entry ([.ref h0]) (n := 1) (Nat.le_of_ble_eq_true rfl)
  rw [lg_entry_eq]
  generalize (lg_sl ([.ref h0]) ++ List.replicate (1 - (lg_sl ([.ref h0])).length) Slot.unset).toArray = ls at hl ⊢
  have hl : lv_has ls 1 [(0, .ref h0)] := hl
  obtain ⟨RES, hF⟩ : ∃ R9, fX0_wipe = R9 := ⟨_, rfl⟩
  have hR9 := hF
  refine lv_aload_n hx hb dX0_wipe_0 rfl (lv_at hl 0 rfl) ?_
  refine lv_iconst (v := 0) hx hb dX0_wipe_1 (by decide) ?_
  refine va_put (D := (dC, dI)) (ci := 0) (v := .int 0) (ty := .int) (C := RX0) (T := TX0) (N := 13) hx hb hts (fun w h => List.mem_cons_of_mem _ (jnGA_X0 w h)) tyX0 tyX0_ok nmX0 hown hK hP hD hS 0 rfl rfl 0 (by decide) (hts _ (List.mem_cons_of_mem _ mGA_152)) (fun _ h9 => h9) rfl (by decide +kernel) rfl rfl (Nat.le_of_ble_eq_true rfl) dX0_wipe_2 (fun H locs hP hD hS => ?_)
  have hP : va_P (dC, dI) vwCl [(h0, .inr (0, [.int 0, .int full, .int lean, .int lines, .int hasMoon, .int moonStart, .int moonStep, .int placeCount, .int reportCount, .int deedCount, .ref places, .ref reports, .ref deeds]))] H := hP
  have hD : va_D A [(h0, .inr (0, [.int 0, .int full, .int lean, .int lines, .int hasMoon, .int moonStart, .int moonStep, .int placeCount, .int reportCount, .int deedCount, .ref places, .ref reports, .ref deeds]))] := hD
  refine lv_aload_n hx hb dX0_wipe_5 rfl (lv_at hl 0 rfl) ?_
  refine lv_iconst (v := 0) hx hb dX0_wipe_6 (by decide) ?_
  refine va_put (D := (dC, dI)) (ci := 0) (v := .int 0) (ty := .int) (C := RX0) (T := TX0) (N := 13) hx hb hts (fun w h => List.mem_cons_of_mem _ (jnGA_X0 w h)) tyX0 tyX0_ok nmX0 hown hK hP hD hS 0 rfl rfl 1 (by decide) (hts _ (List.mem_cons_of_mem _ mGA_153)) (fun _ h9 => h9) rfl (by decide +kernel) rfl rfl (Nat.le_of_ble_eq_true rfl) dX0_wipe_7 (fun H locs hP hD hS => ?_)
  have hP : va_P (dC, dI) vwCl [(h0, .inr (0, [.int 0, .int 0, .int lean, .int lines, .int hasMoon, .int moonStart, .int moonStep, .int placeCount, .int reportCount, .int deedCount, .ref places, .ref reports, .ref deeds]))] H := hP
  have hD : va_D A [(h0, .inr (0, [.int 0, .int 0, .int lean, .int lines, .int hasMoon, .int moonStart, .int moonStep, .int placeCount, .int reportCount, .int deedCount, .ref places, .ref reports, .ref deeds]))] := hD
  refine lv_aload_n hx hb dX0_wipe_10 rfl (lv_at hl 0 rfl) ?_
  refine lv_iconst (v := 0) hx hb dX0_wipe_11 (by decide) ?_
  refine va_put (D := (dC, dI)) (ci := 0) (v := .int 0) (ty := .int) (C := RX0) (T := TX0) (N := 13) hx hb hts (fun w h => List.mem_cons_of_mem _ (jnGA_X0 w h)) tyX0 tyX0_ok nmX0 hown hK hP hD hS 0 rfl rfl 2 (by decide) (hts _ (List.mem_cons_of_mem _ mGA_154)) (fun _ h9 => h9) rfl (by decide +kernel) rfl rfl (Nat.le_of_ble_eq_true rfl) dX0_wipe_12 (fun H locs hP hD hS => ?_)
  have hP : va_P (dC, dI) vwCl [(h0, .inr (0, [.int 0, .int 0, .int 0, .int lines, .int hasMoon, .int moonStart, .int moonStep, .int placeCount, .int reportCount, .int deedCount, .ref places, .ref reports, .ref deeds]))] H := hP
  have hD : va_D A [(h0, .inr (0, [.int 0, .int 0, .int 0, .int lines, .int hasMoon, .int moonStart, .int moonStep, .int placeCount, .int reportCount, .int deedCount, .ref places, .ref reports, .ref deeds]))] := hD
  refine lv_aload_n hx hb dX0_wipe_15 rfl (lv_at hl 0 rfl) ?_
  refine lv_iconst (v := 0) hx hb dX0_wipe_16 (by decide) ?_
  refine va_put (D := (dC, dI)) (ci := 0) (v := .int 0) (ty := .int) (C := RX0) (T := TX0) (N := 13) hx hb hts (fun w h => List.mem_cons_of_mem _ (jnGA_X0 w h)) tyX0 tyX0_ok nmX0 hown hK hP hD hS 0 rfl rfl 3 (by decide) (hts _ (List.mem_cons_of_mem _ mGA_155)) (fun _ h9 => h9) rfl (by decide +kernel) rfl rfl (Nat.le_of_ble_eq_true rfl) dX0_wipe_17 (fun H locs hP hD hS => ?_)
  have hP : va_P (dC, dI) vwCl [(h0, .inr (0, [.int 0, .int 0, .int 0, .int 0, .int hasMoon, .int moonStart, .int moonStep, .int placeCount, .int reportCount, .int deedCount, .ref places, .ref reports, .ref deeds]))] H := hP
  have hD : va_D A [(h0, .inr (0, [.int 0, .int 0, .int 0, .int 0, .int hasMoon, .int moonStart, .int moonStep, .int placeCount, .int reportCount, .int deedCount, .ref places, .ref reports, .ref deeds]))] := hD
  refine lv_aload_n hx hb dX0_wipe_20 rfl (lv_at hl 0 rfl) ?_
  refine lv_iconst (v := 0) hx hb dX0_wipe_21 (by decide) ?_
  refine va_put (D := (dC, dI)) (ci := 0) (v := .int 0) (ty := .boolean) (C := RX0) (T := TX0) (N := 13) hx hb hts (fun w h => List.mem_cons_of_mem _ (jnGA_X0 w h)) tyX0 tyX0_ok nmX0 hown hK hP hD hS 0 rfl rfl 4 (by decide) (hts _ (List.mem_cons_of_mem _ mGA_156)) (fun _ h9 => h9) rfl (by decide +kernel) rfl rfl (Nat.le_of_ble_eq_true rfl) dX0_wipe_22 (fun H locs hP hD hS => ?_)
  have hP : va_P (dC, dI) vwCl [(h0, .inr (0, [.int 0, .int 0, .int 0, .int 0, .int 0, .int moonStart, .int moonStep, .int placeCount, .int reportCount, .int deedCount, .ref places, .ref reports, .ref deeds]))] H := hP
  have hD : va_D A [(h0, .inr (0, [.int 0, .int 0, .int 0, .int 0, .int 0, .int moonStart, .int moonStep, .int placeCount, .int reportCount, .int deedCount, .ref places, .ref reports, .ref deeds]))] := hD
  refine lv_aload_n hx hb dX0_wipe_25 rfl (lv_at hl 0 rfl) ?_
  refine lv_iconst (v := 0) hx hb dX0_wipe_26 (by decide) ?_
  refine va_put (D := (dC, dI)) (ci := 0) (v := .int 0) (ty := .int) (C := RX0) (T := TX0) (N := 13) hx hb hts (fun w h => List.mem_cons_of_mem _ (jnGA_X0 w h)) tyX0 tyX0_ok nmX0 hown hK hP hD hS 0 rfl rfl 5 (by decide) (hts _ (List.mem_cons_of_mem _ mGA_157)) (fun _ h9 => h9) rfl (by decide +kernel) rfl rfl (Nat.le_of_ble_eq_true rfl) dX0_wipe_27 (fun H locs hP hD hS => ?_)
  have hP : va_P (dC, dI) vwCl [(h0, .inr (0, [.int 0, .int 0, .int 0, .int 0, .int 0, .int 0, .int moonStep, .int placeCount, .int reportCount, .int deedCount, .ref places, .ref reports, .ref deeds]))] H := hP
  have hD : va_D A [(h0, .inr (0, [.int 0, .int 0, .int 0, .int 0, .int 0, .int 0, .int moonStep, .int placeCount, .int reportCount, .int deedCount, .ref places, .ref reports, .ref deeds]))] := hD
  refine lv_aload_n hx hb dX0_wipe_30 rfl (lv_at hl 0 rfl) ?_
  refine lv_iconst (v := 0) hx hb dX0_wipe_31 (by decide) ?_
  refine va_put (D := (dC, dI)) (ci := 0) (v := .int 0) (ty := .int) (C := RX0) (T := TX0) (N := 13) hx hb hts (fun w h => List.mem_cons_of_mem _ (jnGA_X0 w h)) tyX0 tyX0_ok nmX0 hown hK hP hD hS 0 rfl rfl 6 (by decide) (hts _ (List.mem_cons_of_mem _ mGA_158)) (fun _ h9 => h9) rfl (by decide +kernel) rfl rfl (Nat.le_of_ble_eq_true rfl) dX0_wipe_32 (fun H locs hP hD hS => ?_)
  have hP : va_P (dC, dI) vwCl [(h0, .inr (0, [.int 0, .int 0, .int 0, .int 0, .int 0, .int 0, .int 0, .int placeCount, .int reportCount, .int deedCount, .ref places, .ref reports, .ref deeds]))] H := hP
  have hD : va_D A [(h0, .inr (0, [.int 0, .int 0, .int 0, .int 0, .int 0, .int 0, .int 0, .int placeCount, .int reportCount, .int deedCount, .ref places, .ref reports, .ref deeds]))] := hD
  refine lv_aload_n hx hb dX0_wipe_35 rfl (lv_at hl 0 rfl) ?_
  refine lv_iconst (v := 0) hx hb dX0_wipe_36 (by decide) ?_
  refine va_put (D := (dC, dI)) (ci := 0) (v := .int 0) (ty := .int) (C := RX0) (T := TX0) (N := 13) hx hb hts (fun w h => List.mem_cons_of_mem _ (jnGA_X0 w h)) tyX0 tyX0_ok nmX0 hown hK hP hD hS 0 rfl rfl 7 (by decide) (hts _ (List.mem_cons_of_mem _ mGA_159)) (fun _ h9 => h9) rfl (by decide +kernel) rfl rfl (Nat.le_of_ble_eq_true rfl) dX0_wipe_37 (fun H locs hP hD hS => ?_)
  have hP : va_P (dC, dI) vwCl [(h0, .inr (0, [.int 0, .int 0, .int 0, .int 0, .int 0, .int 0, .int 0, .int 0, .int reportCount, .int deedCount, .ref places, .ref reports, .ref deeds]))] H := hP
  have hD : va_D A [(h0, .inr (0, [.int 0, .int 0, .int 0, .int 0, .int 0, .int 0, .int 0, .int 0, .int reportCount, .int deedCount, .ref places, .ref reports, .ref deeds]))] := hD
  refine lv_aload_n hx hb dX0_wipe_40 rfl (lv_at hl 0 rfl) ?_
  refine lv_iconst (v := 0) hx hb dX0_wipe_41 (by decide) ?_
  refine va_put (D := (dC, dI)) (ci := 0) (v := .int 0) (ty := .int) (C := RX0) (T := TX0) (N := 13) hx hb hts (fun w h => List.mem_cons_of_mem _ (jnGA_X0 w h)) tyX0 tyX0_ok nmX0 hown hK hP hD hS 0 rfl rfl 8 (by decide) (hts _ (List.mem_cons_of_mem _ mGA_160)) (fun _ h9 => h9) rfl (by decide +kernel) rfl rfl (Nat.le_of_ble_eq_true rfl) dX0_wipe_42 (fun H locs hP hD hS => ?_)
  have hP : va_P (dC, dI) vwCl [(h0, .inr (0, [.int 0, .int 0, .int 0, .int 0, .int 0, .int 0, .int 0, .int 0, .int 0, .int deedCount, .ref places, .ref reports, .ref deeds]))] H := hP
  have hD : va_D A [(h0, .inr (0, [.int 0, .int 0, .int 0, .int 0, .int 0, .int 0, .int 0, .int 0, .int 0, .int deedCount, .ref places, .ref reports, .ref deeds]))] := hD
  refine lv_aload_n hx hb dX0_wipe_45 rfl (lv_at hl 0 rfl) ?_
  refine lv_iconst (v := 0) hx hb dX0_wipe_46 (by decide) ?_
  refine va_put (D := (dC, dI)) (ci := 0) (v := .int 0) (ty := .int) (C := RX0) (T := TX0) (N := 13) hx hb hts (fun w h => List.mem_cons_of_mem _ (jnGA_X0 w h)) tyX0 tyX0_ok nmX0 hown hK hP hD hS 0 rfl rfl 9 (by decide) (hts _ (List.mem_cons_of_mem _ mGA_161)) (fun _ h9 => h9) rfl (by decide +kernel) rfl rfl (Nat.le_of_ble_eq_true rfl) dX0_wipe_47 (fun H locs hP hD hS => ?_)
  have hP : va_P (dC, dI) vwCl [(h0, .inr (0, [.int 0, .int 0, .int 0, .int 0, .int 0, .int 0, .int 0, .int 0, .int 0, .int 0, .ref places, .ref reports, .ref deeds]))] H := hP
  have hD : va_D A [(h0, .inr (0, [.int 0, .int 0, .int 0, .int 0, .int 0, .int 0, .int 0, .int 0, .int 0, .int 0, .ref places, .ref reports, .ref deeds]))] := hD
  exact W.vret hx hb hr (fun t ht hW => ⟨⟨(), rfl, trivial, 0, 0, 0, 0, 0, 0, 0, 0, 0, 0, (gi_w (gi_c 0 0 (by decide)) (by decide)), (gi_w (gi_c 0 0 (by decide)) (by decide)), (gi_w (gi_c 0 0 (by decide)) (by decide)), (gi_w (gi_c 0 0 (by decide)) (by decide)), (gi_w (gi_c 0 0 (by decide)) (by decide)), (gi_w (gi_c 0 0 (by decide)) (by decide)), (gi_w (gi_c 0 0 (by decide)) (by decide)), hF.trans hR9.symm, by rw [ht]; exact hP, hD⟩, hS.F ht⟩) hS.2.2 dX0_wipe_50
theorem dX0_setMoon_0 : decode cX0_setMoon 0 = .ok (.aload_n 0, 1) := by decide +kernel
theorem dX0_setMoon_1 : decode cX0_setMoon 1 = .ok (.iconst 1, 1) := by decide +kernel
theorem dX0_setMoon_2 : decode cX0_setMoon 2 = .ok (.putfield 45, 3) := by decide +kernel
theorem dX0_setMoon_5 : decode cX0_setMoon 5 = .ok (.aload_n 0, 1) := by decide +kernel
theorem dX0_setMoon_6 : decode cX0_setMoon 6 = .ok (.iload_n 1, 1) := by decide +kernel
theorem dX0_setMoon_7 : decode cX0_setMoon 7 = .ok (.putfield 49, 3) := by decide +kernel
theorem dX0_setMoon_10 : decode cX0_setMoon 10 = .ok (.aload_n 0, 1) := by decide +kernel
theorem dX0_setMoon_11 : decode cX0_setMoon 11 = .ok (.iload_n 2, 1) := by decide +kernel
theorem dX0_setMoon_12 : decode cX0_setMoon 12 = .ok (.putfield 52, 3) := by decide +kernel
theorem dX0_setMoon_15 : decode cX0_setMoon 15 = .ok (.return_, 1) := by decide +kernel
noncomputable def fX0_setMoon (p0 : Int32) (p1 : Int32) : Int32 × Int32 × Int32 := ((1 : Int32), p0, p1)
set_option maxHeartbeats 4000000 in
set_option maxRecDepth 100000 in
theorem sX0_setMoon (l : Launch) (dC : Nat → ClassId) (dI : Nat → Nat → Nat) (sz : Nat) (h0 : Nat) (months : Int32) (full : Int32) (lean : Int32) (lines : Int32) (hasMoon : Int32) (moonStart : Int32) (moonStep : Int32) (placeCount : Int32) (reportCount : Int32) (deedCount : Int32) (places : Nat) (reports : Nat) (deeds : Nat) (p0 : Int32) (p1 : Int32) (gmonths : gi months 0 24) (gfull : gi full 0 5) (glean : gi lean 0 5) (ghasMoon : gi hasMoon 0 1) (gplaceCount : gi placeCount 0 6) (greportCount : gi reportCount 0 24) (gdeedCount : gi deedCount 0 8) : Met l yX0_setMoon (.code yX0_setMoon cX0_setMoon 3 none :: wsGA) ({ frames := 0, cells := 0, slots := 0, locals := 0 }) (va_Pc [.ref h0, .int p0, .int p1] (fun U => U.heap.size = sz ∧ va_P (dC, dI) vwCl [(h0, .inr (0, [.int months, .int full, .int lean, .int lines, .int hasMoon, .int moonStart, .int moonStep, .int placeCount, .int reportCount, .int deedCount, .ref places, .ref reports, .ref deeds]))] U.heap ∧ va_K (dC, dI) vwCl [] U ∧ va_D (fun _ => True) [(h0, .inr (0, [.int months, .int full, .int lean, .int lines, .int hasMoon, .int moonStart, .int moonStep, .int placeCount, .int reportCount, .int deedCount, .ref places, .ref reports, .ref deeds]))] ∧ nzA U)) (va_Qv (fun (u : Unit) => True) (fun _ t => ∃ (w0_4 : Int32) (w0_5 : Int32) (w0_6 : Int32), gi w0_4 0 1 ∧ (w0_4, w0_5, w0_6) = fX0_setMoon p0 p1 ∧ va_P (dC, dI) vwCl [(h0, .inr (0, [.int months, .int full, .int lean, .int lines, .int w0_4, .int w0_5, .int w0_6, .int placeCount, .int reportCount, .int deedCount, .ref places, .ref reports, .ref deeds]))] t.heap ∧ va_D (va_A [(h0, .inr (0, [.int months, .int full, .int lean, .int lines, .int hasMoon, .int moonStart, .int moonStep, .int placeCount, .int reportCount, .int deedCount, .ref places, .ref reports, .ref deeds]))] sz) [(h0, .inr (0, [.int months, .int full, .int lean, .int lines, .int w0_4, .int w0_5, .int w0_6, .int placeCount, .int reportCount, .int deedCount, .ref places, .ref reports, .ref deeds]))]) (va_A [(h0, .inr (0, [.int months, .int full, .int lean, .int lines, .int hasMoon, .int moonStart, .int moonStep, .int placeCount, .int reportCount, .int deedCount, .ref places, .ref reports, .ref deeds]))] sz)) 0 0 (va_A [(h0, .inr (0, [.int months, .int full, .int lean, .int lines, .int hasMoon, .int moonStart, .int moonStep, .int placeCount, .int reportCount, .int deedCount, .ref places, .ref reports, .ref deeds]))] sz) := by
  refine Met.ofW (cc := cX0_setMoon) (maxL := 3) (ret := none) (by decide) rfl ?_
  intro p e s m args below meth c s₁ B hml hv
  obtain ⟨rfl, hsz, hP, hK, hD0, hz⟩ := hv
  have hx := B.exec
  have hb := B.bytes
  have hr := B.returns
  have hts := atoms_spec (ws := (.code yX0_setMoon cX0_setMoon 3 none :: wsGA)) B.pre
  have hown : s.vm.findClass RX0 = some m.cls := findClass_of_methodNamed B.named
  have hlocks := B.notSynchronized
  subst hsz
  have hD := hD0.self (sz := s.heap.size)
  generalize hAe : va_A [(h0, .inr (0, [.int months, .int full, .int lean, .int lines, .int hasMoon, .int moonStart, .int moonStep, .int placeCount, .int reportCount, .int deedCount, .ref places, .ref reports, .ref deeds]))] s.heap.size = A at hD ⊢
  have hA : ∀ q : Nat, s.heap.size ≤ q → A q := fun q h => by rw [← hAe]; exact Or.inr h
  have hS : va_S A s.heap s.heap [] := va_S.rf
  have hl := lv_entry ([.ref h0, .int p0, .int p1]) (n := 3) (Nat.le_of_ble_eq_true rfl)
  rw [lg_entry_eq]
  generalize (lg_sl ([.ref h0, .int p0, .int p1]) ++ List.replicate (3 - (lg_sl ([.ref h0, .int p0, .int p1])).length) Slot.unset).toArray = ls at hl ⊢
  have hl : lv_has ls 3 [(0, .ref h0), (1, .int p0), (2, .int p1)] := hl
  obtain ⟨RES, hF⟩ : ∃ R9, fX0_setMoon p0 p1 = R9 := ⟨_, rfl⟩
  have hR9 := hF
  refine lv_aload_n hx hb dX0_setMoon_0 rfl (lv_at hl 0 rfl) ?_
  refine lv_iconst (v := 1) hx hb dX0_setMoon_1 (by decide) ?_
  refine va_put (D := (dC, dI)) (ci := 0) (v := .int 1) (ty := .boolean) (C := RX0) (T := TX0) (N := 13) hx hb hts (fun w h => List.mem_cons_of_mem _ (jnGA_X0 w h)) tyX0 tyX0_ok nmX0 hown hK hP hD hS 0 rfl rfl 4 (by decide) (hts _ (List.mem_cons_of_mem _ mGA_156)) (fun _ h9 => h9) rfl (by decide +kernel) rfl rfl (Nat.le_of_ble_eq_true rfl) dX0_setMoon_2 (fun H locs hP hD hS => ?_)
  have hP : va_P (dC, dI) vwCl [(h0, .inr (0, [.int months, .int full, .int lean, .int lines, .int 1, .int moonStart, .int moonStep, .int placeCount, .int reportCount, .int deedCount, .ref places, .ref reports, .ref deeds]))] H := hP
  have hD : va_D A [(h0, .inr (0, [.int months, .int full, .int lean, .int lines, .int 1, .int moonStart, .int moonStep, .int placeCount, .int reportCount, .int deedCount, .ref places, .ref reports, .ref deeds]))] := hD
  refine lv_aload_n hx hb dX0_setMoon_5 rfl (lv_at hl 0 rfl) ?_
  refine lv_iload_n hx hb dX0_setMoon_6 rfl (lv_at hl 1 rfl) ?_
  refine va_put (D := (dC, dI)) (ci := 0) (v := .int p0) (ty := .int) (C := RX0) (T := TX0) (N := 13) hx hb hts (fun w h => List.mem_cons_of_mem _ (jnGA_X0 w h)) tyX0 tyX0_ok nmX0 hown hK hP hD hS 0 rfl rfl 5 (by decide) (hts _ (List.mem_cons_of_mem _ mGA_157)) (fun _ h9 => h9) rfl (by decide +kernel) rfl rfl (Nat.le_of_ble_eq_true rfl) dX0_setMoon_7 (fun H locs hP hD hS => ?_)
  have hP : va_P (dC, dI) vwCl [(h0, .inr (0, [.int months, .int full, .int lean, .int lines, .int 1, .int p0, .int moonStep, .int placeCount, .int reportCount, .int deedCount, .ref places, .ref reports, .ref deeds]))] H := hP
  have hD : va_D A [(h0, .inr (0, [.int months, .int full, .int lean, .int lines, .int 1, .int p0, .int moonStep, .int placeCount, .int reportCount, .int deedCount, .ref places, .ref reports, .ref deeds]))] := hD
  refine lv_aload_n hx hb dX0_setMoon_10 rfl (lv_at hl 0 rfl) ?_
  refine lv_iload_n hx hb dX0_setMoon_11 rfl (lv_at hl 2 rfl) ?_
  refine va_put (D := (dC, dI)) (ci := 0) (v := .int p1) (ty := .int) (C := RX0) (T := TX0) (N := 13) hx hb hts (fun w h => List.mem_cons_of_mem _ (jnGA_X0 w h)) tyX0 tyX0_ok nmX0 hown hK hP hD hS 0 rfl rfl 6 (by decide) (hts _ (List.mem_cons_of_mem _ mGA_158)) (fun _ h9 => h9) rfl (by decide +kernel) rfl rfl (Nat.le_of_ble_eq_true rfl) dX0_setMoon_12 (fun H locs hP hD hS => ?_)
  have hP : va_P (dC, dI) vwCl [(h0, .inr (0, [.int months, .int full, .int lean, .int lines, .int 1, .int p0, .int p1, .int placeCount, .int reportCount, .int deedCount, .ref places, .ref reports, .ref deeds]))] H := hP
  have hD : va_D A [(h0, .inr (0, [.int months, .int full, .int lean, .int lines, .int 1, .int p0, .int p1, .int placeCount, .int reportCount, .int deedCount, .ref places, .ref reports, .ref deeds]))] := hD
  exact W.vret hx hb hr (fun t ht hW => ⟨⟨(), rfl, trivial, 1, p0, p1, (gi_w (gi_c 1 1 (by decide)) (by decide)), hF.trans hR9.symm, by rw [ht]; exact hP, hD⟩, hS.F ht⟩) hS.2.2 dX0_setMoon_15
theorem dX0_earlyOf_0 : decode cX0_earlyOf 0 = .ok (.aload_n 0, 1) := by decide +kernel
theorem dX0_earlyOf_1 : decode cX0_earlyOf 1 = .ok (.getfield 49, 3) := by decide +kernel
theorem dX0_earlyOf_4 : decode cX0_earlyOf 4 = .ok (.iload_n 1, 1) := by decide +kernel
theorem dX0_earlyOf_5 : decode cX0_earlyOf 5 = .ok (.aload_n 0, 1) := by decide +kernel
theorem dX0_earlyOf_6 : decode cX0_earlyOf 6 = .ok (.getfield 52, 3) := by decide +kernel
theorem dX0_earlyOf_9 : decode cX0_earlyOf 9 = .ok (.imul, 1) := by decide +kernel
theorem dX0_earlyOf_10 : decode cX0_earlyOf 10 = .ok (.iadd, 1) := by decide +kernel
theorem dX0_earlyOf_11 : decode cX0_earlyOf 11 = .ok (.sipush 1000, 3) := by decide +kernel
theorem dX0_earlyOf_14 : decode cX0_earlyOf 14 = .ok (.idiv, 1) := by decide +kernel
theorem dX0_earlyOf_15 : decode cX0_earlyOf 15 = .ok (.ireturn, 1) := by decide +kernel
set_option maxHeartbeats 4000000 in
set_option maxRecDepth 100000 in
theorem sX0_earlyOf (l : Launch) (dC : Nat → ClassId) (dI : Nat → Nat → Nat) (h0 : Nat) (months : Int32) (full : Int32) (lean : Int32) (lines : Int32) (hasMoon : Int32) (moonStart : Int32) (moonStep : Int32) (placeCount : Int32) (reportCount : Int32) (deedCount : Int32) (places : Nat) (reports : Nat) (deeds : Nat) (p0 : Int32) (gmonths : gi months 0 24) (gfull : gi full 0 5) (glean : gi lean 0 5) (ghasMoon : gi hasMoon 0 1) (gplaceCount : gi placeCount 0 6) (greportCount : gi reportCount 0 24) (gdeedCount : gi deedCount 0 8) : Met l yX0_earlyOf (.code yX0_earlyOf cX0_earlyOf 2 (some .int) :: wsGA) ({ frames := 0, cells := 0, slots := 0, locals := 0 }) (va_Pc [.ref h0, .int p0] (fun U => va_P (dC, dI) vwCl [(h0, .inr (0, [.int months, .int full, .int lean, .int lines, .int hasMoon, .int moonStart, .int moonStep, .int placeCount, .int reportCount, .int deedCount, .ref places, .ref reports, .ref deeds]))] U.heap ∧ va_K (dC, dI) vwCl [] U ∧ nzA U)) (va_Qi (fun (r : Int32) (u : Unit) => gi r (-2147483648) 2147483647) (fun _ _ => True) (fun _ => False)) 0 0 (fun _ => False) := by
  refine Met.ofW (cc := cX0_earlyOf) (maxL := 2) (ret := (some .int)) (by decide) rfl ?_
  intro p e s m args below meth c s₁ B hml hv
  obtain ⟨rfl, hP, hK, hz⟩ := hv
  have hx := B.exec
  have hb := B.bytes
  have hr := B.returns
  have hts := atoms_spec (ws := (.code yX0_earlyOf cX0_earlyOf 2 (some .int) :: wsGA)) B.pre
  have hown : s.vm.findClass RX0 = some m.cls := findClass_of_methodNamed B.named
  have hlocks := B.notSynchronized
  have hS : va_S (fun _ => False) s.heap s.heap [] := va_S.rf
  have hl := lv_entry ([.ref h0, .int p0]) (n := 2) (Nat.le_of_ble_eq_true rfl)
  rw [lg_entry_eq]
  generalize (lg_sl ([.ref h0, .int p0]) ++ List.replicate (2 - (lg_sl ([.ref h0, .int p0])).length) Slot.unset).toArray = ls at hl ⊢
  have hl : lv_has ls 2 [(0, .ref h0), (1, .int p0)] := hl
  refine lv_aload_n hx hb dX0_earlyOf_0 rfl (lv_at hl 0 rfl) ?_
  refine va_get (D := (dC, dI)) (ci := 0) (v := .int moonStart) (C := RX0) (T := TX0) (N := 13) hx hb hts (fun w h => List.mem_cons_of_mem _ (jnGA_X0 w h)) hown hK hP 0 rfl rfl 5 (by decide) (hts _ (List.mem_cons_of_mem _ mGA_157)) (fun _ h9 => h9) rfl dX0_earlyOf_1 ?_
  refine lv_iload_n hx hb dX0_earlyOf_4 rfl (lv_at hl 1 rfl) ?_
  refine lv_aload_n hx hb dX0_earlyOf_5 rfl (lv_at hl 0 rfl) ?_
  refine va_get (D := (dC, dI)) (ci := 0) (v := .int moonStep) (C := RX0) (T := TX0) (N := 13) hx hb hts (fun w h => List.mem_cons_of_mem _ (jnGA_X0 w h)) hown hK hP 0 rfl rfl 6 (by decide) (hts _ (List.mem_cons_of_mem _ mGA_158)) (fun _ h9 => h9) rfl dX0_earlyOf_6 ?_
  refine lv_imul hx hb dX0_earlyOf_9 ?_
  refine lv_topi (fun x_4 ex_4 => ?_)
  refine lv_iadd hx hb dX0_earlyOf_10 ?_
  refine lv_topi (fun x_5 ex_5 => ?_)
  refine lv_sipush (v := 1000) hx hb dX0_earlyOf_11 (by decide) ?_
  refine lv_idiv hx hb dX0_earlyOf_14 (by decide) ?_
  refine lv_topi (fun x_6 ex_6 => ?_)
  exact W.iret (v := x_6) hx hb hr (fun t ht hW => ⟨⟨x_6, (), rfl, (gi_any x_6), trivial⟩, hS.F ht⟩) hS.2.2 dX0_earlyOf_15
theorem dX10_put_0 : decode cX10_put 0 = .ok (.aload_n 0, 1) := by decide +kernel
theorem dX10_put_1 : decode cX10_put 1 = .ok (.getfield 15, 3) := by decide +kernel
theorem dX10_put_4 : decode cX10_put 4 = .ok (.sipush 1596, 3) := by decide +kernel
theorem dX10_put_7 : decode cX10_put 7 = .ok (.if_icmp .le 4, 3) := by decide +kernel
theorem dX10_put_10 : decode cX10_put 10 = .ok (.return_, 1) := by decide +kernel
theorem dX10_put_11 : decode cX10_put 11 = .ok (.aload_n 0, 1) := by decide +kernel
theorem dX10_put_12 : decode cX10_put 12 = .ok (.getfield 9, 3) := by decide +kernel
theorem dX10_put_15 : decode cX10_put 15 = .ok (.aload_n 0, 1) := by decide +kernel
theorem dX10_put_16 : decode cX10_put 16 = .ok (.getfield 15, 3) := by decide +kernel
theorem dX10_put_19 : decode cX10_put 19 = .ok (.iload_n 1, 1) := by decide +kernel
theorem dX10_put_20 : decode cX10_put 20 = .ok (.bipush 24, 2) := by decide +kernel
theorem dX10_put_22 : decode cX10_put 22 = .ok (.iushr, 1) := by decide +kernel
theorem dX10_put_23 : decode cX10_put 23 = .ok (.i2b, 1) := by decide +kernel
theorem dX10_put_24 : decode cX10_put 24 = .ok (.bastore, 1) := by decide +kernel
theorem dX10_put_25 : decode cX10_put 25 = .ok (.aload_n 0, 1) := by decide +kernel
theorem dX10_put_26 : decode cX10_put 26 = .ok (.getfield 9, 3) := by decide +kernel
theorem dX10_put_29 : decode cX10_put 29 = .ok (.aload_n 0, 1) := by decide +kernel
theorem dX10_put_30 : decode cX10_put 30 = .ok (.getfield 15, 3) := by decide +kernel
theorem dX10_put_33 : decode cX10_put 33 = .ok (.iconst 1, 1) := by decide +kernel
theorem dX10_put_34 : decode cX10_put 34 = .ok (.iadd, 1) := by decide +kernel
theorem dX10_put_35 : decode cX10_put 35 = .ok (.iload_n 1, 1) := by decide +kernel
theorem dX10_put_36 : decode cX10_put 36 = .ok (.bipush 16, 2) := by decide +kernel
theorem dX10_put_38 : decode cX10_put 38 = .ok (.iushr, 1) := by decide +kernel
theorem dX10_put_39 : decode cX10_put 39 = .ok (.i2b, 1) := by decide +kernel
theorem dX10_put_40 : decode cX10_put 40 = .ok (.bastore, 1) := by decide +kernel
theorem dX10_put_41 : decode cX10_put 41 = .ok (.aload_n 0, 1) := by decide +kernel
theorem dX10_put_42 : decode cX10_put 42 = .ok (.getfield 9, 3) := by decide +kernel
theorem dX10_put_45 : decode cX10_put 45 = .ok (.aload_n 0, 1) := by decide +kernel
theorem dX10_put_46 : decode cX10_put 46 = .ok (.getfield 15, 3) := by decide +kernel
theorem dX10_put_49 : decode cX10_put 49 = .ok (.iconst 2, 1) := by decide +kernel
theorem dX10_put_50 : decode cX10_put 50 = .ok (.iadd, 1) := by decide +kernel
theorem dX10_put_51 : decode cX10_put 51 = .ok (.iload_n 1, 1) := by decide +kernel
theorem dX10_put_52 : decode cX10_put 52 = .ok (.bipush 8, 2) := by decide +kernel
theorem dX10_put_54 : decode cX10_put 54 = .ok (.iushr, 1) := by decide +kernel
theorem dX10_put_55 : decode cX10_put 55 = .ok (.i2b, 1) := by decide +kernel
theorem dX10_put_56 : decode cX10_put 56 = .ok (.bastore, 1) := by decide +kernel
theorem dX10_put_57 : decode cX10_put 57 = .ok (.aload_n 0, 1) := by decide +kernel
theorem dX10_put_58 : decode cX10_put 58 = .ok (.getfield 9, 3) := by decide +kernel
theorem dX10_put_61 : decode cX10_put 61 = .ok (.aload_n 0, 1) := by decide +kernel
theorem dX10_put_62 : decode cX10_put 62 = .ok (.getfield 15, 3) := by decide +kernel
theorem dX10_put_65 : decode cX10_put 65 = .ok (.iconst 3, 1) := by decide +kernel
theorem dX10_put_66 : decode cX10_put 66 = .ok (.iadd, 1) := by decide +kernel
theorem dX10_put_67 : decode cX10_put 67 = .ok (.iload_n 1, 1) := by decide +kernel
theorem dX10_put_68 : decode cX10_put 68 = .ok (.i2b, 1) := by decide +kernel
theorem dX10_put_69 : decode cX10_put 69 = .ok (.bastore, 1) := by decide +kernel
theorem dX10_put_70 : decode cX10_put 70 = .ok (.aload_n 0, 1) := by decide +kernel
theorem dX10_put_71 : decode cX10_put 71 = .ok (.dup, 1) := by decide +kernel
theorem dX10_put_72 : decode cX10_put 72 = .ok (.getfield 15, 3) := by decide +kernel
theorem dX10_put_75 : decode cX10_put 75 = .ok (.iconst 4, 1) := by decide +kernel
theorem dX10_put_76 : decode cX10_put 76 = .ok (.iadd, 1) := by decide +kernel
theorem dX10_put_77 : decode cX10_put 77 = .ok (.putfield 15, 3) := by decide +kernel
theorem dX10_put_80 : decode cX10_put 80 = .ok (.return_, 1) := by decide +kernel
noncomputable def fX10_put (length : Int32) (fbt : Nat → Int32) (p0 : Int32) : Int32 × (Nat → Int32) := if length ≤ (1596 : Int32) then ((length + (4 : Int32)), (upd (upd (upd (upd fbt length.toNatClampNeg (vp_nar .byte (((p0.toUInt32 >>> ((24 : Int32).toUInt32 &&& Int32.toUInt32 31)).toInt32).toInt8.toInt32))) (length + (1 : Int32)).toNatClampNeg (vp_nar .byte (((p0.toUInt32 >>> ((16 : Int32).toUInt32 &&& Int32.toUInt32 31)).toInt32).toInt8.toInt32))) (length + (2 : Int32)).toNatClampNeg (vp_nar .byte (((p0.toUInt32 >>> ((8 : Int32).toUInt32 &&& Int32.toUInt32 31)).toInt32).toInt8.toInt32))) (length + (3 : Int32)).toNatClampNeg (vp_nar .byte (p0.toInt8.toInt32)))) else (length, fbt)
set_option maxHeartbeats 4000000 in
set_option maxRecDepth 100000 in
theorem sX10_put (l : Launch) (dC : Nat → ClassId) (dI : Nat → Nat → Nat) (sz : Nat) (h0 : Nat) (bt : Nat) (length : Int32) (kbt : ClassId) (fbt : Nat → Int32) (p0 : Int32) (glength : gi length 0 1600) : Met l yX10_put (.code yX10_put cX10_put 2 none :: wsGA) ({ frames := 0, cells := 0, slots := 0, locals := 0 }) (va_Pc [.ref h0, .int p0] (fun U => U.heap.size = sz ∧ va_P (dC, dI) vwCl [(h0, .inr (10, [.ref bt, .int length])), (bt, .inl (kbt, 1600, .inl fbt))] U.heap ∧ va_K (dC, dI) vwCl [(kbt, .byte)] U ∧ va_D (fun _ => True) [(h0, .inr (10, [.ref bt, .int length])), (bt, .inl (kbt, 1600, .inl fbt))] ∧ nzA U)) (va_Qv (fun (u : Unit) => True) (fun _ t => ∃ (w0_1 : Int32) (z1 : Nat → Int32), gi w0_1 0 1600 ∧ ((1596 < length.toInt ∧ w0_1.toInt = length.toInt) ∨ (length.toInt ≤ 1596 ∧ w0_1.toInt = length.toInt + 4)) ∧ (w0_1, z1) = fX10_put length fbt p0 ∧ va_P (dC, dI) vwCl [(h0, .inr (10, [.ref bt, .int w0_1])), (bt, .inl (kbt, 1600, .inl z1))] t.heap ∧ va_D (va_A [(h0, .inr (10, [.ref bt, .int length])), (bt, .inl (kbt, 1600, .inl fbt))] sz) [(h0, .inr (10, [.ref bt, .int w0_1])), (bt, .inl (kbt, 1600, .inl z1))]) (va_A [(h0, .inr (10, [.ref bt, .int length])), (bt, .inl (kbt, 1600, .inl fbt))] sz)) 0 0 (va_A [(h0, .inr (10, [.ref bt, .int length])), (bt, .inl (kbt, 1600, .inl fbt))] sz) := by
  refine Met.ofW (cc := cX10_put) (maxL := 2) (ret := none) (by decide) rfl ?_
  intro p e s m args below meth c s₁ B hml hv
  obtain ⟨rfl, hsz, hP, hK, hD0, hz⟩ := hv
  have hx := B.exec
  have hb := B.bytes
  have hr := B.returns
  have hts := atoms_spec (ws := (.code yX10_put cX10_put 2 none :: wsGA)) B.pre
  have hown : s.vm.findClass RX10 = some m.cls := findClass_of_methodNamed B.named
  have hlocks := B.notSynchronized
  subst hsz
  have hD := hD0.self (sz := s.heap.size)
  generalize hAe : va_A [(h0, .inr (10, [.ref bt, .int length])), (bt, .inl (kbt, 1600, .inl fbt))] s.heap.size = A at hD ⊢
  have hA : ∀ q : Nat, s.heap.size ≤ q → A q := fun q h => by rw [← hAe]; exact Or.inr h
  have hS : va_S A s.heap s.heap [] := va_S.rf
  have hl := lv_entry ([.ref h0, .int p0]) (n := 2) (Nat.le_of_ble_eq_true rfl)
  rw [lg_entry_eq]
  generalize (lg_sl ([.ref h0, .int p0]) ++ List.replicate (2 - (lg_sl ([.ref h0, .int p0])).length) Slot.unset).toArray = ls at hl ⊢
  have hl : lv_has ls 2 [(0, .ref h0), (1, .int p0)] := hl
  obtain ⟨RES, hF⟩ : ∃ R9, fX10_put length fbt p0 = R9 := ⟨_, rfl⟩
  have hR9 := hF
  refine lv_aload_n hx hb dX10_put_0 rfl (lv_at hl 0 rfl) ?_
  refine va_get (D := (dC, dI)) (ci := 10) (v := .int length) (C := RX10) (T := TX10) (N := 2) hx hb hts (fun w h => List.mem_cons_of_mem _ (jnGA_X10 w h)) hown hK hP 0 rfl rfl 1 (by decide) (hts _ (List.mem_cons_of_mem _ mGA_64)) (fun _ h9 => h9) rfl dX10_put_1 ?_
  refine lv_sipush (v := 1596) hx hb dX10_put_4 (by decide) ?_
  refine lv_icmp_le (tgt := 11) hx hb dX10_put_7 (by decide) (fun c_37 => ?_) (fun c_37 => ?_)
  · have hF := gf_pos c_37 hF
    have g_38 : gi length 0 1596 := gi_le_l c_37 glength (gi_c 1596 1596 (by decide))
    refine lv_aload_n hx hb dX10_put_11 rfl (lv_at hl 0 rfl) ?_
    refine va_get (D := (dC, dI)) (ci := 10) (v := .ref bt) (C := RX10) (T := TX10) (N := 2) hx hb hts (fun w h => List.mem_cons_of_mem _ (jnGA_X10 w h)) hown hK hP 0 rfl rfl 0 (by decide) (hts _ (List.mem_cons_of_mem _ mGA_63)) (fun _ h9 => h9) rfl dX10_put_12 ?_
    refine lv_aload_n hx hb dX10_put_15 rfl (lv_at hl 0 rfl) ?_
    refine va_get (D := (dC, dI)) (ci := 10) (v := .int length) (C := RX10) (T := TX10) (N := 2) hx hb hts (fun w h => List.mem_cons_of_mem _ (jnGA_X10 w h)) hown hK hP 0 rfl rfl 1 (by decide) (hts _ (List.mem_cons_of_mem _ mGA_64)) (fun _ h9 => h9) rfl dX10_put_16 ?_
    refine lv_iload_n hx hb dX10_put_19 rfl (lv_at hl 1 rfl) ?_
    refine lv_bipush (v := 24) hx hb dX10_put_20 (by decide) ?_
    refine lv_iushr hx hb dX10_put_22 rfl ?_
    refine lv_topi (fun x_39 ex_39 => ?_)
    refine lv_i2b hx hb dX10_put_23 rfl ?_
    refine lv_topi (fun x_40 ex_40 => ?_)
    refine va_bast hx hb hK hP hD hS 1 0 rfl rfl (gi_in g_38 (by decide)) dX10_put_24 (fun H locs hP hD hS => ?_)
    have hP : va_P (dC, dI) vwCl [(h0, .inr (10, [.ref bt, .int length])), (bt, .inl (kbt, 1600, .inl (upd fbt (length : Int32).toNatClampNeg (vp_nar .byte x_40))))] H := hP
    have hD : va_D A [(h0, .inr (10, [.ref bt, .int length])), (bt, .inl (kbt, 1600, .inl (upd fbt (length : Int32).toNatClampNeg (vp_nar .byte x_40))))] := hD
    generalize ef_41 : upd fbt (length : Int32).toNatClampNeg (vp_nar .byte x_40) = f_41 at hP hD
    refine lv_aload_n hx hb dX10_put_25 rfl (lv_at hl 0 rfl) ?_
    refine va_get (D := (dC, dI)) (ci := 10) (v := .ref bt) (C := RX10) (T := TX10) (N := 2) hx hb hts (fun w h => List.mem_cons_of_mem _ (jnGA_X10 w h)) hown hK hP 0 rfl rfl 0 (by decide) (hts _ (List.mem_cons_of_mem _ mGA_63)) (fun _ h9 => h9) rfl dX10_put_26 ?_
    refine lv_aload_n hx hb dX10_put_29 rfl (lv_at hl 0 rfl) ?_
    refine va_get (D := (dC, dI)) (ci := 10) (v := .int length) (C := RX10) (T := TX10) (N := 2) hx hb hts (fun w h => List.mem_cons_of_mem _ (jnGA_X10 w h)) hown hK hP 0 rfl rfl 1 (by decide) (hts _ (List.mem_cons_of_mem _ mGA_64)) (fun _ h9 => h9) rfl dX10_put_30 ?_
    refine lv_iconst (v := 1) hx hb dX10_put_33 (by decide) ?_
    refine lv_iadd hx hb dX10_put_34 ?_
    refine lv_topi (fun x_42 ex_42 => ?_)
    have gx_42 : gi x_42 1 1597 := gi_add ex_42 g_38 (gi_c 1 1 (by decide)) (by decide)
    refine lv_iload_n hx hb dX10_put_35 rfl (lv_at hl 1 rfl) ?_
    refine lv_bipush (v := 16) hx hb dX10_put_36 (by decide) ?_
    refine lv_iushr hx hb dX10_put_38 rfl ?_
    refine lv_topi (fun x_43 ex_43 => ?_)
    refine lv_i2b hx hb dX10_put_39 rfl ?_
    refine lv_topi (fun x_44 ex_44 => ?_)
    refine va_bast hx hb hK hP hD hS 1 0 rfl rfl (gi_in gx_42 (by decide)) dX10_put_40 (fun H locs hP hD hS => ?_)
    have hP : va_P (dC, dI) vwCl [(h0, .inr (10, [.ref bt, .int length])), (bt, .inl (kbt, 1600, .inl (upd f_41 (x_42 : Int32).toNatClampNeg (vp_nar .byte x_44))))] H := hP
    have hD : va_D A [(h0, .inr (10, [.ref bt, .int length])), (bt, .inl (kbt, 1600, .inl (upd f_41 (x_42 : Int32).toNatClampNeg (vp_nar .byte x_44))))] := hD
    generalize ef_45 : upd f_41 (x_42 : Int32).toNatClampNeg (vp_nar .byte x_44) = f_45 at hP hD
    refine lv_aload_n hx hb dX10_put_41 rfl (lv_at hl 0 rfl) ?_
    refine va_get (D := (dC, dI)) (ci := 10) (v := .ref bt) (C := RX10) (T := TX10) (N := 2) hx hb hts (fun w h => List.mem_cons_of_mem _ (jnGA_X10 w h)) hown hK hP 0 rfl rfl 0 (by decide) (hts _ (List.mem_cons_of_mem _ mGA_63)) (fun _ h9 => h9) rfl dX10_put_42 ?_
    refine lv_aload_n hx hb dX10_put_45 rfl (lv_at hl 0 rfl) ?_
    refine va_get (D := (dC, dI)) (ci := 10) (v := .int length) (C := RX10) (T := TX10) (N := 2) hx hb hts (fun w h => List.mem_cons_of_mem _ (jnGA_X10 w h)) hown hK hP 0 rfl rfl 1 (by decide) (hts _ (List.mem_cons_of_mem _ mGA_64)) (fun _ h9 => h9) rfl dX10_put_46 ?_
    refine lv_iconst (v := 2) hx hb dX10_put_49 (by decide) ?_
    refine lv_iadd hx hb dX10_put_50 ?_
    refine lv_topi (fun x_46 ex_46 => ?_)
    have gx_46 : gi x_46 2 1598 := gi_add ex_46 g_38 (gi_c 2 2 (by decide)) (by decide)
    refine lv_iload_n hx hb dX10_put_51 rfl (lv_at hl 1 rfl) ?_
    refine lv_bipush (v := 8) hx hb dX10_put_52 (by decide) ?_
    refine lv_iushr hx hb dX10_put_54 rfl ?_
    refine lv_topi (fun x_47 ex_47 => ?_)
    refine lv_i2b hx hb dX10_put_55 rfl ?_
    refine lv_topi (fun x_48 ex_48 => ?_)
    refine va_bast hx hb hK hP hD hS 1 0 rfl rfl (gi_in gx_46 (by decide)) dX10_put_56 (fun H locs hP hD hS => ?_)
    have hP : va_P (dC, dI) vwCl [(h0, .inr (10, [.ref bt, .int length])), (bt, .inl (kbt, 1600, .inl (upd f_45 (x_46 : Int32).toNatClampNeg (vp_nar .byte x_48))))] H := hP
    have hD : va_D A [(h0, .inr (10, [.ref bt, .int length])), (bt, .inl (kbt, 1600, .inl (upd f_45 (x_46 : Int32).toNatClampNeg (vp_nar .byte x_48))))] := hD
    generalize ef_49 : upd f_45 (x_46 : Int32).toNatClampNeg (vp_nar .byte x_48) = f_49 at hP hD
    refine lv_aload_n hx hb dX10_put_57 rfl (lv_at hl 0 rfl) ?_
    refine va_get (D := (dC, dI)) (ci := 10) (v := .ref bt) (C := RX10) (T := TX10) (N := 2) hx hb hts (fun w h => List.mem_cons_of_mem _ (jnGA_X10 w h)) hown hK hP 0 rfl rfl 0 (by decide) (hts _ (List.mem_cons_of_mem _ mGA_63)) (fun _ h9 => h9) rfl dX10_put_58 ?_
    refine lv_aload_n hx hb dX10_put_61 rfl (lv_at hl 0 rfl) ?_
    refine va_get (D := (dC, dI)) (ci := 10) (v := .int length) (C := RX10) (T := TX10) (N := 2) hx hb hts (fun w h => List.mem_cons_of_mem _ (jnGA_X10 w h)) hown hK hP 0 rfl rfl 1 (by decide) (hts _ (List.mem_cons_of_mem _ mGA_64)) (fun _ h9 => h9) rfl dX10_put_62 ?_
    refine lv_iconst (v := 3) hx hb dX10_put_65 (by decide) ?_
    refine lv_iadd hx hb dX10_put_66 ?_
    refine lv_topi (fun x_50 ex_50 => ?_)
    have gx_50 : gi x_50 3 1599 := gi_add ex_50 g_38 (gi_c 3 3 (by decide)) (by decide)
    refine lv_iload_n hx hb dX10_put_67 rfl (lv_at hl 1 rfl) ?_
    refine lv_i2b hx hb dX10_put_68 rfl ?_
    refine lv_topi (fun x_51 ex_51 => ?_)
    refine va_bast hx hb hK hP hD hS 1 0 rfl rfl (gi_in gx_50 (by decide)) dX10_put_69 (fun H locs hP hD hS => ?_)
    have hP : va_P (dC, dI) vwCl [(h0, .inr (10, [.ref bt, .int length])), (bt, .inl (kbt, 1600, .inl (upd f_49 (x_50 : Int32).toNatClampNeg (vp_nar .byte x_51))))] H := hP
    have hD : va_D A [(h0, .inr (10, [.ref bt, .int length])), (bt, .inl (kbt, 1600, .inl (upd f_49 (x_50 : Int32).toNatClampNeg (vp_nar .byte x_51))))] := hD
    generalize ef_52 : upd f_49 (x_50 : Int32).toNatClampNeg (vp_nar .byte x_51) = f_52 at hP hD
    refine lv_aload_n hx hb dX10_put_70 rfl (lv_at hl 0 rfl) ?_
    refine lv_dup hx hb dX10_put_71 rfl ?_
    refine va_get (D := (dC, dI)) (ci := 10) (v := .int length) (C := RX10) (T := TX10) (N := 2) hx hb hts (fun w h => List.mem_cons_of_mem _ (jnGA_X10 w h)) hown hK hP 0 rfl rfl 1 (by decide) (hts _ (List.mem_cons_of_mem _ mGA_64)) (fun _ h9 => h9) rfl dX10_put_72 ?_
    refine lv_iconst (v := 4) hx hb dX10_put_75 (by decide) ?_
    refine lv_iadd hx hb dX10_put_76 ?_
    refine lv_topi (fun x_53 ex_53 => ?_)
    have gx_53 : gi x_53 4 1600 := gi_add ex_53 g_38 (gi_c 4 4 (by decide)) (by decide)
    refine va_put (D := (dC, dI)) (ci := 10) (v := .int x_53) (ty := .int) (C := RX10) (T := TX10) (N := 2) hx hb hts (fun w h => List.mem_cons_of_mem _ (jnGA_X10 w h)) tyX10 tyX10_ok nmX10 hown hK hP hD hS 0 rfl rfl 1 (by decide) (hts _ (List.mem_cons_of_mem _ mGA_64)) (fun _ h9 => h9) rfl (by decide +kernel) rfl rfl (Nat.le_of_ble_eq_true rfl) dX10_put_77 (fun H locs hP hD hS => ?_)
    have hP : va_P (dC, dI) vwCl [(h0, .inr (10, [.ref bt, .int x_53])), (bt, .inl (kbt, 1600, .inl f_52))] H := hP
    have hD : va_D A [(h0, .inr (10, [.ref bt, .int x_53])), (bt, .inl (kbt, 1600, .inl f_52))] := hD
    exact W.vret hx hb hr (fun t ht hW => ⟨⟨(), rfl, trivial, x_53, f_52, (gi_w gx_53 (by decide)), by have qgx_53 := gx_53.1; have rgx_53 := gx_53.2; have igx_53 : x_53.toInt = length.toInt + 4 := (by have hc4 : (4 : Int32).toInt = 4 := (by decide); have h9 := gi_addI ex_53 (by have h1 := g_38.1; have h2 := (gi_c 4 4 (by decide)).1; have h3 := g_38.2; have h4 := (gi_c 4 4 (by decide)).2; omega) (by have h1 := g_38.1; have h2 := (gi_c 4 4 (by decide)).1; have h3 := g_38.2; have h4 := (gi_c 4 4 (by decide)).2; omega); rw [hc4] at h9; exact h9); have qglength := g_38.1; have rglength := g_38.2; omega, by rw [ex_53, ← ef_52, ex_51, ex_50, ← ef_49, ex_48, ex_47, ex_46, ← ef_45, ex_44, ex_43, ex_42, ← ef_41, ex_40, ex_39]; exact hF.trans hR9.symm, by rw [ht]; exact hP, hD⟩, hS.F ht⟩) hS.2.2 dX10_put_80
  · have hF := gf_neg c_37 hF
    have g_54 : gi length 1597 1600 := gi_lt_r (Int32.not_le.mp c_37) (gi_c 1596 1596 (by decide)) glength (by decide)
    exact W.vret hx hb hr (fun t ht hW => ⟨⟨(), rfl, trivial, length, fbt, (gi_w g_54 (by decide)), by have qglength := g_54.1; have rglength := g_54.2; omega, hF.trans hR9.symm, by rw [ht]; exact hP, hD⟩, hS.F ht⟩) hS.2.2 dX10_put_10
