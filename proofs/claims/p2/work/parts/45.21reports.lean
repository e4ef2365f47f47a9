theorem dX11_reports_0 : decode cX11_reports 0 = .ok (.aload_n 0, 1) := by decide +kernel
theorem dX11_reports_1 : decode cX11_reports 1 = .ok (.iload_n 1, 1) := by decide +kernel
theorem dX11_reports_2 : decode cX11_reports 2 = .ok (.invokevirtual 144, 3) := by decide +kernel
theorem dX11_reports_5 : decode cX11_reports 5 = .ok (.ifCond .eq 34, 3) := by decide +kernel
theorem dX11_reports_8 : decode cX11_reports 8 = .ok (.iload_n 2, 1) := by decide +kernel
theorem dX11_reports_9 : decode cX11_reports 9 = .ok (.ifCond .lt 30, 3) := by decide +kernel
theorem dX11_reports_12 : decode cX11_reports 12 = .ok (.iload_n 2, 1) := by decide +kernel
theorem dX11_reports_13 : decode cX11_reports 13 = .ok (.iconst 2, 1) := by decide +kernel
theorem dX11_reports_14 : decode cX11_reports 14 = .ok (.if_icmp .gt 25, 3) := by decide +kernel
theorem dX11_reports_17 : decode cX11_reports 17 = .ok (.aload_n 0, 1) := by decide +kernel
theorem dX11_reports_18 : decode cX11_reports 18 = .ok (.iload_n 3, 1) := by decide +kernel
theorem dX11_reports_19 : decode cX11_reports 19 = .ok (.iconst 1, 1) := by decide +kernel
theorem dX11_reports_20 : decode cX11_reports 20 = .ok (.aload_n 0, 1) := by decide +kernel
theorem dX11_reports_21 : decode cX11_reports 21 = .ok (.getfield 19, 3) := by decide +kernel
theorem dX11_reports_24 : decode cX11_reports 24 = .ok (.getfield 120, 3) := by decide +kernel
theorem dX11_reports_27 : decode cX11_reports 27 = .ok (.iconst 1, 1) := by decide +kernel
theorem dX11_reports_28 : decode cX11_reports 28 = .ok (.isub, 1) := by decide +kernel
theorem dX11_reports_29 : decode cX11_reports 29 = .ok (.invokevirtual 209, 3) := by decide +kernel
theorem dX11_reports_32 : decode cX11_reports 32 = .ok (.ifCond .eq 7, 3) := by decide +kernel
theorem dX11_reports_35 : decode cX11_reports 35 = .ok (.iconst 1, 1) := by decide +kernel
theorem dX11_reports_36 : decode cX11_reports 36 = .ok (.goto 4, 3) := by decide +kernel
theorem dX11_reports_39 : decode cX11_reports 39 = .ok (.iconst 0, 1) := by decide +kernel
theorem dX11_reports_40 : decode cX11_reports 40 = .ok (.istore 6, 2) := by decide +kernel
theorem dX11_reports_42 : decode cX11_reports 42 = .ok (.iload 6, 2) := by decide +kernel
theorem dX11_reports_44 : decode cX11_reports 44 = .ok (.ifCond .eq 23, 3) := by decide +kernel
theorem dX11_reports_47 : decode cX11_reports 47 = .ok (.iload 4, 2) := by decide +kernel
theorem dX11_reports_49 : decode cX11_reports 49 = .ok (.ifCond .lt 18, 3) := by decide +kernel
theorem dX11_reports_52 : decode cX11_reports 52 = .ok (.iload 5, 2) := by decide +kernel
theorem dX11_reports_54 : decode cX11_reports 54 = .ok (.iload 4, 2) := by decide +kernel
theorem dX11_reports_56 : decode cX11_reports 56 = .ok (.if_icmp .lt 11, 3) := by decide +kernel
theorem dX11_reports_59 : decode cX11_reports 59 = .ok (.iload 5, 2) := by decide +kernel
theorem dX11_reports_61 : decode cX11_reports 61 = .ok (.sipush 999, 3) := by decide +kernel
theorem dX11_reports_64 : decode cX11_reports 64 = .ok (.if_icmp .le 6, 3) := by decide +kernel
theorem dX11_reports_67 : decode cX11_reports 67 = .ok (.bipush (-2), 2) := by decide +kernel
theorem dX11_reports_69 : decode cX11_reports 69 = .ok (.ireturn, 1) := by decide +kernel
theorem dX11_reports_70 : decode cX11_reports 70 = .ok (.aload_n 0, 1) := by decide +kernel
theorem dX11_reports_71 : decode cX11_reports 71 = .ok (.getfield 19, 3) := by decide +kernel
theorem dX11_reports_74 : decode cX11_reports 74 = .ok (.getfield 132, 3) := by decide +kernel
theorem dX11_reports_77 : decode cX11_reports 77 = .ok (.bipush 24, 2) := by decide +kernel
theorem dX11_reports_79 : decode cX11_reports 79 = .ok (.if_icmp .lt 6, 3) := by decide +kernel
theorem dX11_reports_82 : decode cX11_reports 82 = .ok (.bipush (-5), 2) := by decide +kernel
theorem dX11_reports_84 : decode cX11_reports 84 = .ok (.ireturn, 1) := by decide +kernel
theorem dX11_reports_85 : decode cX11_reports 85 = .ok (.aload_n 0, 1) := by decide +kernel
theorem dX11_reports_86 : decode cX11_reports 86 = .ok (.getfield 19, 3) := by decide +kernel
theorem dX11_reports_89 : decode cX11_reports 89 = .ok (.iload_n 1, 1) := by decide +kernel
theorem dX11_reports_90 : decode cX11_reports 90 = .ok (.iload_n 2, 1) := by decide +kernel
theorem dX11_reports_91 : decode cX11_reports 91 = .ok (.iload_n 3, 1) := by decide +kernel
theorem dX11_reports_92 : decode cX11_reports 92 = .ok (.iload 4, 2) := by decide +kernel
theorem dX11_reports_94 : decode cX11_reports 94 = .ok (.iload 5, 2) := by decide +kernel
theorem dX11_reports_96 : decode cX11_reports 96 = .ok (.invokevirtual 388, 3) := by decide +kernel
theorem dX11_reports_99 : decode cX11_reports 99 = .ok (.aload_n 0, 1) := by decide +kernel
theorem dX11_reports_100 : decode cX11_reports 100 = .ok (.invokevirtual 111, 3) := by decide +kernel
theorem dX11_reports_103 : decode cX11_reports 103 = .ok (.aload_n 0, 1) := by decide +kernel
theorem dX11_reports_104 : decode cX11_reports 104 = .ok (.getfield 19, 3) := by decide +kernel
theorem dX11_reports_107 : decode cX11_reports 107 = .ok (.getfield 132, 3) := by decide +kernel
theorem dX11_reports_110 : decode cX11_reports 110 = .ok (.iconst 1, 1) := by decide +kernel
theorem dX11_reports_111 : decode cX11_reports 111 = .ok (.isub, 1) := by decide +kernel
theorem dX11_reports_112 : decode cX11_reports 112 = .ok (.ireturn, 1) := by decide +kernel
set_option maxHeartbeats 4000000 in
set_option maxRecDepth 100000 in
theorem sX11_reports (l : Launch) (dC : Nat → ClassId) (dI : Nat → Nat → Nat) (sz : Nat) (h0 : Nat) (am : Nat) (re : Nat) (ra : Nat → Nat) (xr : Nat) (xs : Nat) (xf : Nat) (co : Nat) (oc : Nat) (ta : Nat) (xq : Nat) (xh : Nat) (xk : Nat) (xo : Nat) (x_outLength : Int32) (x_courtStands : Int32) (x_courtNews : Int32) (x_tallyStands : Int32) (x_historyStands : Int32) (amonths : Int32) (afull : Int32) (alean : Int32) (alines : Int32) (ahasMoon : Int32) (amoonStart : Int32) (amoonStep : Int32) (aplaceCount : Int32) (areportCount : Int32) (adeedCount : Int32) (pl : Nat) (de : Nat) (kre : ClassId) (r_place : Nat → Int32) (r_kind : Nat → Int32) (r_month : Nat → Int32) (r_day : Nat → Int32) (r_known : Nat → Int32) (r_struck : Nat → Int32) (p1 : Int32) (p2 : Int32) (p3 : Int32) (p4 : Int32) (p5 : Int32) (gx_outLength : gi x_outLength 0 72) (gx_courtStands : gi x_courtStands 0 1) (gx_tallyStands : gi x_tallyStands 0 1) (gx_historyStands : gi x_historyStands 0 1) (gamonths : gi amonths 0 24) (gafull : gi afull 0 5) (galean : gi alean 0 5) (gahasMoon : gi ahasMoon 0 1) (gaplaceCount : gi aplaceCount 0 6) (gareportCount : gi areportCount 0 24) (gadeedCount : gi adeedCount 0 8) (gr_place : ga r_place 24 0 5) (gr_month : ga r_month 24 0 23) (gr_struck : ga r_struck 24 0 1) : Met l yX11_reports (.code yX11_reports cX11_reports 7 (some .int) :: wsGA) ({ frames := 2, cells := 0, slots := 0, locals := 43 }) (va_Pc [.ref h0, .int p1, .int p2, .int p3, .int p4, .int p5] (fun U => U.heap.size = sz ∧ va_P (dC, dI) vwCl (([(h0, .inr (11, [.ref xr, .ref am, .ref xs, .ref xf, .ref co, .ref oc, .ref ta, .ref xq, .ref xh, .ref xk, .ref xo, .int x_outLength, .int x_courtStands, .int x_courtNews, .int x_tallyStands, .int x_historyStands])), (am, .inr (0, [.int amonths, .int afull, .int alean, .int alines, .int ahasMoon, .int amoonStart, .int amoonStep, .int aplaceCount, .int areportCount, .int adeedCount, .ref pl, .ref re, .ref de])), (re, .inl (kre, 24, .inr (.inr (.inr (.inr (fun i => some (ra i)))))))] : va_W) ++ (gz_fam 24 ra 7 (fun i => [.int (r_place i), .int (r_kind i), .int (r_month i), .int (r_day i), .int (r_known i), .int (r_struck i)]))) U.heap ∧ va_K (dC, dI) vwCl [(kre, .object RX7)] U ∧ va_D (fun _ => True) (([(h0, .inr (11, [.ref xr, .ref am, .ref xs, .ref xf, .ref co, .ref oc, .ref ta, .ref xq, .ref xh, .ref xk, .ref xo, .int x_outLength, .int x_courtStands, .int x_courtNews, .int x_tallyStands, .int x_historyStands])), (am, .inr (0, [.int amonths, .int afull, .int alean, .int alines, .int ahasMoon, .int amoonStart, .int amoonStep, .int aplaceCount, .int areportCount, .int adeedCount, .ref pl, .ref re, .ref de])), (re, .inl (kre, 24, .inr (.inr (.inr (.inr (fun i => some (ra i)))))))] : va_W) ++ (gz_fam 24 ra 7 (fun i => [.int (r_place i), .int (r_kind i), .int (r_month i), .int (r_day i), .int (r_known i), .int (r_struck i)]))) ∧ nzA U)) (va_Qi (fun (r : Int32) (u : Unit) => gi r (-5) 23) (fun _ t => ∃ (w0_12 : Int32) (w0_14 : Int32) (w0_15 : Int32) (w1_8 : Int32) (z3_0 : Nat → Int32) (z3_1 : Nat → Int32) (z3_2 : Nat → Int32) (z3_3 : Nat → Int32) (z3_4 : Nat → Int32) (z3_5 : Nat → Int32), gi w0_12 0 1 ∧ gi w0_14 0 1 ∧ gi w0_15 0 1 ∧ gi w1_8 0 24 ∧ ga z3_0 24 0 5 ∧ ga z3_2 24 0 23 ∧ ga z3_5 24 0 1 ∧ va_P (dC, dI) vwCl (([(h0, .inr (11, [.ref xr, .ref am, .ref xs, .ref xf, .ref co, .ref oc, .ref ta, .ref xq, .ref xh, .ref xk, .ref xo, .int x_outLength, .int w0_12, .int x_courtNews, .int w0_14, .int w0_15])), (am, .inr (0, [.int amonths, .int afull, .int alean, .int alines, .int ahasMoon, .int amoonStart, .int amoonStep, .int aplaceCount, .int w1_8, .int adeedCount, .ref pl, .ref re, .ref de])), (re, .inl (kre, 24, .inr (.inr (.inr (.inr (fun i => some (ra i)))))))] : va_W) ++ (gz_fam 24 ra 7 (fun i => [.int (z3_0 i), .int (z3_1 i), .int (z3_2 i), .int (z3_3 i), .int (z3_4 i), .int (z3_5 i)]))) t.heap ∧ va_D (va_A (([(h0, .inr (11, [.ref xr, .ref am, .ref xs, .ref xf, .ref co, .ref oc, .ref ta, .ref xq, .ref xh, .ref xk, .ref xo, .int x_outLength, .int x_courtStands, .int x_courtNews, .int x_tallyStands, .int x_historyStands])), (am, .inr (0, [.int amonths, .int afull, .int alean, .int alines, .int ahasMoon, .int amoonStart, .int amoonStep, .int aplaceCount, .int areportCount, .int adeedCount, .ref pl, .ref re, .ref de])), (re, .inl (kre, 24, .inr (.inr (.inr (.inr (fun i => some (ra i)))))))] : va_W) ++ (gz_fam 24 ra 7 (fun i => [.int (r_place i), .int (r_kind i), .int (r_month i), .int (r_day i), .int (r_known i), .int (r_struck i)]))) sz) (([(h0, .inr (11, [.ref xr, .ref am, .ref xs, .ref xf, .ref co, .ref oc, .ref ta, .ref xq, .ref xh, .ref xk, .ref xo, .int x_outLength, .int w0_12, .int x_courtNews, .int w0_14, .int w0_15])), (am, .inr (0, [.int amonths, .int afull, .int alean, .int alines, .int ahasMoon, .int amoonStart, .int amoonStep, .int aplaceCount, .int w1_8, .int adeedCount, .ref pl, .ref re, .ref de])), (re, .inl (kre, 24, .inr (.inr (.inr (.inr (fun i => some (ra i)))))))] : va_W) ++ (gz_fam 24 ra 7 (fun i => [.int (z3_0 i), .int (z3_1 i), .int (z3_2 i), .int (z3_3 i), .int (z3_4 i), .int (z3_5 i)])))) (va_A (([(h0, .inr (11, [.ref xr, .ref am, .ref xs, .ref xf, .ref co, .ref oc, .ref ta, .ref xq, .ref xh, .ref xk, .ref xo, .int x_outLength, .int x_courtStands, .int x_courtNews, .int x_tallyStands, .int x_historyStands])), (am, .inr (0, [.int amonths, .int afull, .int alean, .int alines, .int ahasMoon, .int amoonStart, .int amoonStep, .int aplaceCount, .int areportCount, .int adeedCount, .ref pl, .ref re, .ref de])), (re, .inl (kre, 24, .inr (.inr (.inr (.inr (fun i => some (ra i)))))))] : va_W) ++ (gz_fam 24 ra 7 (fun i => [.int (r_place i), .int (r_kind i), .int (r_month i), .int (r_day i), .int (r_known i), .int (r_struck i)]))) sz)) 0 0 (va_A (([(h0, .inr (11, [.ref xr, .ref am, .ref xs, .ref xf, .ref co, .ref oc, .ref ta, .ref xq, .ref xh, .ref xk, .ref xo, .int x_outLength, .int x_courtStands, .int x_courtNews, .int x_tallyStands, .int x_historyStands])), (am, .inr (0, [.int amonths, .int afull, .int alean, .int alines, .int ahasMoon, .int amoonStart, .int amoonStep, .int aplaceCount, .int areportCount, .int adeedCount, .ref pl, .ref re, .ref de])), (re, .inl (kre, 24, .inr (.inr (.inr (.inr (fun i => some (ra i)))))))] : va_W) ++ (gz_fam 24 ra 7 (fun i => [.int (r_place i), .int (r_kind i), .int (r_month i), .int (r_day i), .int (r_known i), .int (r_struck i)]))) sz) := by
  refine Met.ofW (cc := cX11_reports) (maxL := 7) (ret := (some .int)) (by decide) rfl ?_
  intro p e s m args below meth c s₁ B hml hv
  obtain ⟨rfl, hsz, hP, hK, hD0, hz⟩ := hv
  have hx := B.exec
  have hb := B.bytes
  have hr := B.returns
  have hts := atoms_spec (ws := (.code yX11_reports cX11_reports 7 (some .int) :: wsGA)) B.pre
  have hown : s.vm.findClass RX11 = some m.cls := findClass_of_methodNamed B.named
  have hlocks := B.notSynchronized
  subst hsz
  have hD := hD0.self (sz := s.heap.size)
  generalize hAe : va_A (([(h0, .inr (11, [.ref xr, .ref am, .ref xs, .ref xf, .ref co, .ref oc, .ref ta, .ref xq, .ref xh, .ref xk, .ref xo, .int x_outLength, .int x_courtStands, .int x_courtNews, .int x_tallyStands, .int x_historyStands])), (am, .inr (0, [.int amonths, .int afull, .int alean, .int alines, .int ahasMoon, .int amoonStart, .int amoonStep, .int aplaceCount, .int areportCount, .int adeedCount, .ref pl, .ref re, .ref de])), (re, .inl (kre, 24, .inr (.inr (.inr (.inr (fun i => some (ra i)))))))] : va_W) ++ (gz_fam 24 ra 7 (fun i => [.int (r_place i), .int (r_kind i), .int (r_month i), .int (r_day i), .int (r_known i), .int (r_struck i)]))) s.heap.size = A at hD ⊢
  have hA : ∀ q : Nat, s.heap.size ≤ q → A q := fun q h => by rw [← hAe]; exact Or.inr h
  have hS : va_S A s.heap s.heap [] := va_S.rf
  have hl := lv_entry ([.ref h0, .int p1, .int p2, .int p3, .int p4, .int p5]) (n := 7) (Nat.le_of_ble_eq_true rfl)
  rw [lg_entry_eq]
  generalize (lg_sl ([.ref h0, .int p1, .int p2, .int p3, .int p4, .int p5]) ++ List.replicate (7 - (lg_sl ([.ref h0, .int p1, .int p2, .int p3, .int p4, .int p5])).length) Slot.unset).toArray = ls at hl ⊢
  have hl : lv_has ls 7 [(0, .ref h0), (1, .int p1), (2, .int p2), (3, .int p3), (4, .int p4), (5, .int p5)] := hl
  refine lv_aload_n hx hb dX11_reports_0 rfl (lv_at hl 0 rfl) ?_
  refine lv_iload_n hx hb dX11_reports_1 rfl (lv_at hl 1 rfl) ?_
  have hPc := hP.sub (ws' := [(h0, .inr (11, [.ref xr, .ref am, .ref xs, .ref xf, .ref co, .ref oc, .ref ta, .ref xq, .ref xh, .ref xk, .ref xo, .int x_outLength, .int x_courtStands, .int x_courtNews, .int x_tallyStands, .int x_historyStands])), (am, .inr (0, [.int amonths, .int afull, .int alean, .int alines, .int ahasMoon, .int amoonStart, .int amoonStep, .int aplaceCount, .int areportCount, .int adeedCount, .ref pl, .ref re, .ref de]))]) [0, 1] rfl
  have hKc := hK.sub (tys' := []) [] rfl
  refine va_calli (va_runV (As := [.int p1]) (rest := []) ⟨hx, hb, hml, hown, hts⟩ (sX11_hasPlace l dC dI h0 am xr xs xf co oc ta xq xh xk xo x_outLength x_courtStands x_courtNews x_tallyStands x_historyStands amonths afull alean alines ahasMoon amoonStart amoonStep aplaceCount areportCount adeedCount pl re de p1 gx_outLength gx_courtStands gx_tallyStands gx_historyStands gamonths gafull galean gahasMoon gaplaceCount gareportCount gadeedCount) (cwV 1 hts (gz_gV mGA_366 mGA_367 mGA_368 mGA_1 mGA_369 goodGA) rfl rfl rfl (by decide +kernel) ⟨Nat.le_of_ble_eq_true rfl, Nat.le_of_ble_eq_true rfl⟩) ⟨fun a U g mk q => by obtain ⟨q0, qP, qK, qZ⟩ := q; exact ⟨q0, qP, va_K.moved (u := U) (U := U.calling g mk a) (Vm.Alike.refl U.vm) qK, nzA_same (u := U) (U := U.calling g mk a) rfl qZ⟩, va_recv hKc hPc (ci := 11) (q0 := 0) rfl rfl, fun U hU hW => ⟨rfl, by rw [hU]; exact hPc, va_K.moved hW.alike hKc, nzA_warm hW hz⟩⟩ rfl rfl hl.1 rfl (lv_room (Nat.le_of_ble_eq_true rfl)) dX11_reports_2 ⟨Nat.zero_le _, Nat.zero_le _⟩) hS (fun q _ h => h.elim) (fun q h => h.elim) (fun r_97 u t H1 locs ht hvm hw hB hz1 hk1 hS => ?_)
  have hP := gz_keep hP hk1
  generalize H1 = H at hP hS ⊢
  have gr_97 : gi r_97 0 1 := hw.1
  have hqr_97 := hw.2
  refine lv_if_eq (tgt := 39) hx hb dX11_reports_5 (by decide) (fun c_98 => ?_) (fun c_98 => ?_)
  · have g_99 : gi r_97 0 0 := gi_eq c_98 (gi_c 0 0 (by decide))
    refine lv_iconst (v := 0) hx hb dX11_reports_39 (by decide) ?_
    refine lv_istore (lv' := [(6, .int 0), (0, .ref h0), (1, .int p1), (2, .int p2), (3, .int p3), (4, .int p4), (5, .int p5)]) hx hb dX11_reports_40 hl (by decide) rfl (fun ls hl => ?_)
    refine lv_iload hx hb dX11_reports_42 (lv_at hl 0 rfl) ?_
    refine lv_if_eq (tgt := 67) hx hb dX11_reports_44 (by decide) (fun c_100 => ?_) (fun c_100 => absurd (gi_is_eq (gi_c 0 0 (by decide)) (gi_c 0 0 (by decide))) c_100)
    refine lv_bipush (v := (-2)) hx hb dX11_reports_67 (by decide) ?_
    exact W.iret (v := (-2)) hx hb hr (fun t ht hW => ⟨⟨(-2), (), rfl, (gi_w (gi_c (-2) (-2) (by decide)) (by decide)), x_courtStands, x_tallyStands, x_historyStands, areportCount, r_place, r_kind, r_month, r_day, r_known, r_struck, gx_courtStands, gx_tallyStands, gx_historyStands, gareportCount, gr_place, gr_month, gr_struck, by rw [ht]; exact hP, hD⟩, hS.F ht⟩) hS.2.2 dX11_reports_69
  · have g_101 : gi r_97 1 1 := gi_ne_lo c_98 gr_97 (gi_c 0 0 (by decide)) (by decide)
    have g_102 : gi p1 0 5 := gi_cap (gi_any p1) (hqr_97 (gz_one g_101)) (by decide)
    refine lv_iload_n hx hb dX11_reports_8 rfl (lv_at hl 2 rfl) ?_
    refine lv_if_lt (tgt := 39) hx hb dX11_reports_9 (by decide) (fun c_103 => ?_) (fun c_103 => ?_)
    · have g_104 : gi p2 (-2147483648) (-1) := gi_lt_l c_103 (gi_any p2) (gi_c 0 0 (by decide)) (by decide)
      refine lv_iconst (v := 0) hx hb dX11_reports_39 (by decide) ?_
      refine lv_istore (lv' := [(6, .int 0), (0, .ref h0), (1, .int p1), (2, .int p2), (3, .int p3), (4, .int p4), (5, .int p5)]) hx hb dX11_reports_40 hl (by decide) rfl (fun ls hl => ?_)
      refine lv_iload hx hb dX11_reports_42 (lv_at hl 0 rfl) ?_
      refine lv_if_eq (tgt := 67) hx hb dX11_reports_44 (by decide) (fun c_105 => ?_) (fun c_105 => absurd (gi_is_eq (gi_c 0 0 (by decide)) (gi_c 0 0 (by decide))) c_105)
      refine lv_bipush (v := (-2)) hx hb dX11_reports_67 (by decide) ?_
      exact W.iret (v := (-2)) hx hb hr (fun t ht hW => ⟨⟨(-2), (), rfl, (gi_w (gi_c (-2) (-2) (by decide)) (by decide)), x_courtStands, x_tallyStands, x_historyStands, areportCount, r_place, r_kind, r_month, r_day, r_known, r_struck, gx_courtStands, gx_tallyStands, gx_historyStands, gareportCount, gr_place, gr_month, gr_struck, by rw [ht]; exact hP, hD⟩, hS.F ht⟩) hS.2.2 dX11_reports_69
    · have g_106 : gi p2 0 2147483647 := gi_le_r (Int32.not_lt.mp c_103) (gi_c 0 0 (by decide)) (gi_any p2)
      refine lv_iload_n hx hb dX11_reports_12 rfl (lv_at hl 2 rfl) ?_
      refine lv_iconst (v := 2) hx hb dX11_reports_13 (by decide) ?_
      refine lv_icmp_gt (tgt := 39) hx hb dX11_reports_14 (by decide) (fun c_107 => ?_) (fun c_107 => ?_)
      · have g_108 : gi p2 3 2147483647 := gi_lt_r c_107 (gi_c 2 2 (by decide)) g_106 (by decide)
        refine lv_iconst (v := 0) hx hb dX11_reports_39 (by decide) ?_
        refine lv_istore (lv' := [(6, .int 0), (0, .ref h0), (1, .int p1), (2, .int p2), (3, .int p3), (4, .int p4), (5, .int p5)]) hx hb dX11_reports_40 hl (by decide) rfl (fun ls hl => ?_)
        refine lv_iload hx hb dX11_reports_42 (lv_at hl 0 rfl) ?_
        refine lv_if_eq (tgt := 67) hx hb dX11_reports_44 (by decide) (fun c_109 => ?_) (fun c_109 => absurd (gi_is_eq (gi_c 0 0 (by decide)) (gi_c 0 0 (by decide))) c_109)
        refine lv_bipush (v := (-2)) hx hb dX11_reports_67 (by decide) ?_
        exact W.iret (v := (-2)) hx hb hr (fun t ht hW => ⟨⟨(-2), (), rfl, (gi_w (gi_c (-2) (-2) (by decide)) (by decide)), x_courtStands, x_tallyStands, x_historyStands, areportCount, r_place, r_kind, r_month, r_day, r_known, r_struck, gx_courtStands, gx_tallyStands, gx_historyStands, gareportCount, gr_place, gr_month, gr_struck, by rw [ht]; exact hP, hD⟩, hS.F ht⟩) hS.2.2 dX11_reports_69
      · have g_110 : gi p2 0 2 := gi_le_l (Int32.not_lt.mp c_107) g_106 (gi_c 2 2 (by decide))
        refine lv_aload_n hx hb dX11_reports_17 rfl (lv_at hl 0 rfl) ?_
        refine lv_iload_n hx hb dX11_reports_18 rfl (lv_at hl 3 rfl) ?_
        refine lv_iconst (v := 1) hx hb dX11_reports_19 (by decide) ?_
        refine lv_aload_n hx hb dX11_reports_20 rfl (lv_at hl 0 rfl) ?_
        refine va_get (D := (dC, dI)) (ci := 11) (v := .ref am) (C := RX11) (T := TX11) (N := 16) hx hb hts (fun w h => List.mem_cons_of_mem _ (jnGA_X11 w h)) hown hK hP 0 rfl rfl 1 (by decide) (hts _ (List.mem_cons_of_mem _ mGA_14)) (fun _ h9 => h9) rfl dX11_reports_21 ?_
        refine va_get (D := (dC, dI)) (ci := 0) (v := .int amonths) (C := RX0) (T := TX0) (N := 13) hx hb hts (fun w h => List.mem_cons_of_mem _ (jnGA_X0 w h)) hown hK hP 1 rfl rfl 0 (by decide) (hts _ (List.mem_cons_of_mem _ mGA_353)) (fun _ h9 => h9) rfl dX11_reports_24 ?_
        refine lv_iconst (v := 1) hx hb dX11_reports_27 (by decide) ?_
        refine lv_isub hx hb dX11_reports_28 ?_
        refine lv_topi (fun x_111 ex_111 => ?_)
        have gx_111 : gi x_111 (-1) 23 := gi_sub ex_111 gamonths (gi_c 1 1 (by decide)) (by decide)
        have hPc := hP.sub (ws' := [(h0, .inr (11, [.ref xr, .ref am, .ref xs, .ref xf, .ref co, .ref oc, .ref ta, .ref xq, .ref xh, .ref xk, .ref xo, .int x_outLength, .int x_courtStands, .int x_courtNews, .int x_tallyStands, .int x_historyStands])), (am, .inr (0, [.int amonths, .int afull, .int alean, .int alines, .int ahasMoon, .int amoonStart, .int amoonStep, .int aplaceCount, .int areportCount, .int adeedCount, .ref pl, .ref re, .ref de]))]) [0, 1] rfl
        have hKc := hK.sub (tys' := []) [] rfl
        refine va_calli (va_runV (As := [.int p3, .int 1, .int x_111]) (rest := []) ⟨hx, hb, hml, hown, hts⟩ (sX11_hasMonthA l dC dI h0 am xr xs xf co oc ta xq xh xk xo x_outLength x_courtStands x_courtNews x_tallyStands x_historyStands amonths afull alean alines ahasMoon amoonStart amoonStep aplaceCount areportCount adeedCount pl re de p3 1 x_111 gx_outLength gx_courtStands gx_tallyStands gx_historyStands gamonths gafull galean gahasMoon gaplaceCount gareportCount gadeedCount (gi_w (gi_c 1 1 (by decide)) (by decide)) gx_111) (cwV 3 hts (gz_gV mGA_408 mGA_409 mGA_410 mGA_1 mGA_411 goodGA) rfl rfl rfl (by decide +kernel) ⟨Nat.le_of_ble_eq_true rfl, Nat.le_of_ble_eq_true rfl⟩) ⟨fun a U g mk q => by obtain ⟨q0, qP, qK, qZ⟩ := q; exact ⟨q0, qP, va_K.moved (u := U) (U := U.calling g mk a) (Vm.Alike.refl U.vm) qK, nzA_same (u := U) (U := U.calling g mk a) rfl qZ⟩, va_recv hKc hPc (ci := 11) (q0 := 0) rfl rfl, fun U hU hW => ⟨rfl, by rw [hU]; exact hPc, va_K.moved hW.alike hKc, nzA_warm hW hz⟩⟩ rfl rfl hl.1 rfl (lv_room (Nat.le_of_ble_eq_true rfl)) dX11_reports_29 ⟨Nat.zero_le _, Nat.zero_le _⟩) hS (fun q _ h => h.elim) (fun q h => h.elim) (fun r_112 u t H1 locs ht hvm hw hB hz1 hk1 hS => ?_)
        have hP := gz_keep hP hk1
        generalize H1 = H at hP hS ⊢
        have gr_112 : gi r_112 0 1 := hw.1
        have hqr_112 := hw.2
        refine lv_if_eq (tgt := 39) hx hb dX11_reports_32 (by decide) (fun c_113 => ?_) (fun c_113 => ?_)
        · have g_114 : gi r_112 0 0 := gi_eq c_113 (gi_c 0 0 (by decide))
          refine lv_iconst (v := 0) hx hb dX11_reports_39 (by decide) ?_
          refine lv_istore (lv' := [(6, .int 0), (0, .ref h0), (1, .int p1), (2, .int p2), (3, .int p3), (4, .int p4), (5, .int p5)]) hx hb dX11_reports_40 hl (by decide) rfl (fun ls hl => ?_)
          refine lv_iload hx hb dX11_reports_42 (lv_at hl 0 rfl) ?_
          refine lv_if_eq (tgt := 67) hx hb dX11_reports_44 (by decide) (fun c_115 => ?_) (fun c_115 => absurd (gi_is_eq (gi_c 0 0 (by decide)) (gi_c 0 0 (by decide))) c_115)
          refine lv_bipush (v := (-2)) hx hb dX11_reports_67 (by decide) ?_
          exact W.iret (v := (-2)) hx hb hr (fun t ht hW => ⟨⟨(-2), (), rfl, (gi_w (gi_c (-2) (-2) (by decide)) (by decide)), x_courtStands, x_tallyStands, x_historyStands, areportCount, r_place, r_kind, r_month, r_day, r_known, r_struck, gx_courtStands, gx_tallyStands, gx_historyStands, gareportCount, gr_place, gr_month, gr_struck, by rw [ht]; exact hP, hD⟩, hS.F ht⟩) hS.2.2 dX11_reports_69
        · have g_116 : gi r_112 1 1 := gi_ne_lo c_113 gr_112 (gi_c 0 0 (by decide)) (by decide)
          have g_117 : gi p3 0 23 := gi_cap (gi_any p3) (hqr_112 (gz_one g_116)) (by decide)
          refine lv_iconst (v := 1) hx hb dX11_reports_35 (by decide) ?_
          refine lv_goto (tgt := 40) hx hb dX11_reports_36 (by decide) ?_
          refine lv_istore (lv' := [(6, .int 1), (0, .ref h0), (1, .int p1), (2, .int p2), (3, .int p3), (4, .int p4), (5, .int p5)]) hx hb dX11_reports_40 hl (by decide) rfl (fun ls hl => ?_)
          refine lv_iload hx hb dX11_reports_42 (lv_at hl 0 rfl) ?_
          refine lv_if_eq (tgt := 67) hx hb dX11_reports_44 (by decide) (fun c_118 => absurd c_118 (gi_no_eq (gi_c 1 1 (by decide)) (gi_c 0 0 (by decide)) (by decide))) (fun c_118 => ?_)
          refine lv_iload hx hb dX11_reports_47 (lv_at hl 5 rfl) ?_
          refine lv_if_lt (tgt := 67) hx hb dX11_reports_49 (by decide) (fun c_119 => ?_) (fun c_119 => ?_)
          · have g_120 : gi p4 (-2147483648) (-1) := gi_lt_l c_119 (gi_any p4) (gi_c 0 0 (by decide)) (by decide)
            refine lv_bipush (v := (-2)) hx hb dX11_reports_67 (by decide) ?_
            exact W.iret (v := (-2)) hx hb hr (fun t ht hW => ⟨⟨(-2), (), rfl, (gi_w (gi_c (-2) (-2) (by decide)) (by decide)), x_courtStands, x_tallyStands, x_historyStands, areportCount, r_place, r_kind, r_month, r_day, r_known, r_struck, gx_courtStands, gx_tallyStands, gx_historyStands, gareportCount, gr_place, gr_month, gr_struck, by rw [ht]; exact hP, hD⟩, hS.F ht⟩) hS.2.2 dX11_reports_69
          · have g_121 : gi p4 0 2147483647 := gi_le_r (Int32.not_lt.mp c_119) (gi_c 0 0 (by decide)) (gi_any p4)
            refine lv_iload hx hb dX11_reports_52 (lv_at hl 6 rfl) ?_
            refine lv_iload hx hb dX11_reports_54 (lv_at hl 5 rfl) ?_
            refine lv_icmp_lt (tgt := 67) hx hb dX11_reports_56 (by decide) (fun c_122 => ?_) (fun c_122 => ?_)
            · have g_123 : gi p5 (-2147483648) 2147483646 := gi_lt_l c_122 (gi_any p5) g_121 (by decide)
              refine lv_bipush (v := (-2)) hx hb dX11_reports_67 (by decide) ?_
              exact W.iret (v := (-2)) hx hb hr (fun t ht hW => ⟨⟨(-2), (), rfl, (gi_w (gi_c (-2) (-2) (by decide)) (by decide)), x_courtStands, x_tallyStands, x_historyStands, areportCount, r_place, r_kind, r_month, r_day, r_known, r_struck, gx_courtStands, gx_tallyStands, gx_historyStands, gareportCount, gr_place, gr_month, gr_struck, by rw [ht]; exact hP, hD⟩, hS.F ht⟩) hS.2.2 dX11_reports_69
            · have g_124 : gi p5 0 2147483647 := gi_le_r (Int32.not_lt.mp c_122) g_121 (gi_any p5)
              refine lv_iload hx hb dX11_reports_59 (lv_at hl 6 rfl) ?_
              refine lv_sipush (v := 999) hx hb dX11_reports_61 (by decide) ?_
              refine lv_icmp_le (tgt := 70) hx hb dX11_reports_64 (by decide) (fun c_125 => ?_) (fun c_125 => ?_)
              · have g_126 : gi p5 0 999 := gi_le_l c_125 g_124 (gi_c 999 999 (by decide))
                have g_127 : gi p4 0 999 := gi_rel (Int32.le_iff_toInt_le.mp (Int32.not_lt.mp c_122)) g_121 g_126
                refine lv_aload_n hx hb dX11_reports_70 rfl (lv_at hl 1 rfl) ?_
                refine va_get (D := (dC, dI)) (ci := 11) (v := .ref am) (C := RX11) (T := TX11) (N := 16) hx hb hts (fun w h => List.mem_cons_of_mem _ (jnGA_X11 w h)) hown hK hP 0 rfl rfl 1 (by decide) (hts _ (List.mem_cons_of_mem _ mGA_14)) (fun _ h9 => h9) rfl dX11_reports_71 ?_
                refine va_get (D := (dC, dI)) (ci := 0) (v := .int areportCount) (C := RX0) (T := TX0) (N := 13) hx hb hts (fun w h => List.mem_cons_of_mem _ (jnGA_X0 w h)) hown hK hP 1 rfl rfl 8 (by decide) (hts _ (List.mem_cons_of_mem _ mGA_357)) (fun _ h9 => h9) rfl dX11_reports_74 ?_
                refine lv_bipush (v := 24) hx hb dX11_reports_77 (by decide) ?_
                refine lv_icmp_lt (tgt := 85) hx hb dX11_reports_79 (by decide) (fun c_128 => ?_) (fun c_128 => ?_)
                · have g_129 : gi areportCount 0 23 := gi_lt_l c_128 gareportCount (gi_c 24 24 (by decide)) (by decide)
                  refine lv_aload_n hx hb dX11_reports_85 rfl (lv_at hl 1 rfl) ?_
                  refine va_get (D := (dC, dI)) (ci := 11) (v := .ref am) (C := RX11) (T := TX11) (N := 16) hx hb hts (fun w h => List.mem_cons_of_mem _ (jnGA_X11 w h)) hown hK hP 0 rfl rfl 1 (by decide) (hts _ (List.mem_cons_of_mem _ mGA_14)) (fun _ h9 => h9) rfl dX11_reports_86 ?_
                  refine lv_iload_n hx hb dX11_reports_89 rfl (lv_at hl 2 rfl) ?_
                  refine lv_iload_n hx hb dX11_reports_90 rfl (lv_at hl 3 rfl) ?_
                  refine lv_iload_n hx hb dX11_reports_91 rfl (lv_at hl 4 rfl) ?_
                  refine lv_iload hx hb dX11_reports_92 (lv_at hl 5 rfl) ?_
                  refine lv_iload hx hb dX11_reports_94 (lv_at hl 6 rfl) ?_
                  have hPc := gz_sub hP (ws' := (([(am, .inr (0, [.int amonths, .int afull, .int alean, .int alines, .int ahasMoon, .int amoonStart, .int amoonStep, .int aplaceCount, .int areportCount, .int adeedCount, .ref pl, .ref re, .ref de])), (re, .inl (kre, 24, .inr (.inr (.inr (.inr (fun i => some (ra i)))))))] : va_W) ++ (gz_fam 24 ra 7 (fun i => [.int (r_place i), .int (r_kind i), .int (r_month i), .int (r_day i), .int (r_known i), .int (r_struck i)])))) ([1, 2] ++ List.range' 3 24) (gz_ixapp rfl (gz_ixR (m := 3) (by simp only [List.length_append, gz_famlen, List.length_cons, List.length_nil]) gz_ixSelf))
                  have hKc := hK.sub (tys' := [(kre, .object RX7)]) [0] rfl
                  have hDc := hD.sub (ws' := (([(am, .inr (0, [.int amonths, .int afull, .int alean, .int alines, .int ahasMoon, .int amoonStart, .int amoonStep, .int aplaceCount, .int areportCount, .int adeedCount, .ref pl, .ref re, .ref de])), (re, .inl (kre, 24, .inr (.inr (.inr (.inr (fun i => some (ra i)))))))] : va_W) ++ (gz_fam 24 ra 7 (fun i => [.int (r_place i), .int (r_kind i), .int (r_month i), .int (r_day i), .int (r_known i), .int (r_struck i)])))) ([1, 2] ++ List.range' 3 24) (by decide +kernel) (gz_ixapp rfl (gz_ixR (m := 3) (by simp only [List.length_append, gz_famlen, List.length_cons, List.length_nil]) gz_ixSelf))
                  have hFc := va_free (wc := (([(am, .inr (0, [.int amonths, .int afull, .int alean, .int alines, .int ahasMoon, .int amoonStart, .int amoonStep, .int aplaceCount, .int areportCount, .int adeedCount, .ref pl, .ref re, .ref de])), (re, .inl (kre, 24, .inr (.inr (.inr (.inr (fun i => some (ra i)))))))] : va_W) ++ (gz_fam 24 ra 7 (fun i => [.int (r_place i), .int (r_kind i), .int (r_month i), .int (r_day i), .int (r_known i), .int (r_struck i)])))) hD hS hA ([1, 2] ++ List.range' 3 24) (gz_ixapp rfl (gz_ixR (m := 3) (by simp only [List.length_append, gz_famlen, List.length_cons, List.length_nil]) gz_ixSelf))
                  refine va_callv (va_runV (As := [.int p1, .int p2, .int p3, .int p4, .int p5]) (rest := []) ⟨hx, hb, hml, hown, hts⟩ (sX0_addReport l dC dI H.size am re ra amonths afull alean alines ahasMoon amoonStart amoonStep aplaceCount areportCount adeedCount pl de kre r_place r_kind r_month r_day r_known r_struck p1 p2 p3 p4 p5 gamonths gafull galean gahasMoon gaplaceCount (gi_w g_129 (by decide)) gadeedCount gr_place gr_month gr_struck g_102 g_117) (cwV 5 hts (gz_gV mGA_898 mGA_314 mGA_315 mGA_13 mGA_316 goodGA) rfl rfl rfl (by decide +kernel) ⟨Nat.le_of_ble_eq_true rfl, Nat.le_of_ble_eq_true rfl⟩) ⟨fun a U g mk q => by obtain ⟨q0, q1, qP, qK, qD, qZ⟩ := q; exact ⟨q0, q1, qP, va_K.moved (u := U) (U := U.calling g mk a) (Vm.Alike.refl U.vm) qK, qD, nzA_same (u := U) (U := U.calling g mk a) rfl qZ⟩, va_recv hKc hPc (ci := 0) (q0 := 0) rfl rfl, fun U hU hW => ⟨rfl, by rw [hU], by rw [hU]; exact hPc, va_K.moved hW.alike hKc, hDc.weaken (fun _ _ _ _ => trivial), nzA_warm hW hz⟩⟩ rfl rfl hl.1 rfl (lv_room (Nat.le_of_ble_eq_true rfl)) dX11_reports_96 ⟨Nat.zero_le _, Nat.zero_le _⟩) hS (fun q _ h => hFc q h) hFc (fun u t H1 locs ht hvm hw hB hz1 hk1 hS => ?_)
                  obtain ⟨y_131, f_132, f_133, f_134, f_135, f_136, f_137, gy_131, gf_132, gf_134, gf_137, hP1, hD1⟩ := hB
                  rw [ht] at hP1
                  obtain ⟨hP, hD⟩ := va_join (wr := [(h0, .inr (11, [.ref xr, .ref am, .ref xs, .ref xf, .ref co, .ref oc, .ref ta, .ref xq, .ref xh, .ref xk, .ref xo, .int x_outLength, .int x_courtStands, .int x_courtNews, .int x_tallyStands, .int x_historyStands]))]) (w1 := (([(am, .inr (0, [.int amonths, .int afull, .int alean, .int alines, .int ahasMoon, .int amoonStart, .int amoonStep, .int aplaceCount, .int y_131, .int adeedCount, .ref pl, .ref re, .ref de])), (re, .inl (kre, 24, .inr (.inr (.inr (.inr (fun i => some (ra i)))))))] : va_W) ++ (gz_fam 24 ra 7 (fun i => [.int (f_132 i), .int (f_133 i), .int (f_134 i), .int (f_135 i), .int (f_136 i), .int (f_137 i)])))) hP hD ([1, 2] ++ List.range' 3 24) [0] (gz_ixapp rfl (gz_ixR (m := 3) (by simp only [List.length_append, gz_famlen, List.length_cons, List.length_nil]) gz_ixSelf)) rfl (by decide +kernel) (by decide +kernel) hk1 hFc hP1 hD1
                  have hP := gz_sub hP (ws' := (([(h0, .inr (11, [.ref xr, .ref am, .ref xs, .ref xf, .ref co, .ref oc, .ref ta, .ref xq, .ref xh, .ref xk, .ref xo, .int x_outLength, .int x_courtStands, .int x_courtNews, .int x_tallyStands, .int x_historyStands])), (am, .inr (0, [.int amonths, .int afull, .int alean, .int alines, .int ahasMoon, .int amoonStart, .int amoonStep, .int aplaceCount, .int y_131, .int adeedCount, .ref pl, .ref re, .ref de])), (re, .inl (kre, 24, .inr (.inr (.inr (.inr (fun i => some (ra i)))))))] : va_W) ++ (gz_fam 24 ra 7 (fun i => [.int (f_132 i), .int (f_133 i), .int (f_134 i), .int (f_135 i), .int (f_136 i), .int (f_137 i)])))) ([0, 1, 2] ++ List.range' 3 24) (gz_ixapp rfl (gz_ixR (m := 1) (by simp only [List.length_append, gz_famlen, List.length_cons, List.length_nil]) (gz_ixR (m := 2) (by simp only [List.length_append, gz_famlen, List.length_cons, List.length_nil]) gz_ixSelf)))
                  have hD := hD.sub (ws' := (([(h0, .inr (11, [.ref xr, .ref am, .ref xs, .ref xf, .ref co, .ref oc, .ref ta, .ref xq, .ref xh, .ref xk, .ref xo, .int x_outLength, .int x_courtStands, .int x_courtNews, .int x_tallyStands, .int x_historyStands])), (am, .inr (0, [.int amonths, .int afull, .int alean, .int alines, .int ahasMoon, .int amoonStart, .int amoonStep, .int aplaceCount, .int y_131, .int adeedCount, .ref pl, .ref re, .ref de])), (re, .inl (kre, 24, .inr (.inr (.inr (.inr (fun i => some (ra i)))))))] : va_W) ++ (gz_fam 24 ra 7 (fun i => [.int (f_132 i), .int (f_133 i), .int (f_134 i), .int (f_135 i), .int (f_136 i), .int (f_137 i)])))) ([0, 1, 2] ++ List.range' 3 24) (by decide +kernel) (gz_ixapp rfl (gz_ixR (m := 1) (by simp only [List.length_append, gz_famlen, List.length_cons, List.length_nil]) (gz_ixR (m := 2) (by simp only [List.length_append, gz_famlen, List.length_cons, List.length_nil]) gz_ixSelf)))
                  generalize H1 = H at hP hS ⊢
                  refine lv_aload_n hx hb dX11_reports_99 rfl (lv_at hl 1 rfl) ?_
                  have hPc := hP.sub (ws' := [(h0, .inr (11, [.ref xr, .ref am, .ref xs, .ref xf, .ref co, .ref oc, .ref ta, .ref xq, .ref xh, .ref xk, .ref xo, .int x_outLength, .int x_courtStands, .int x_courtNews, .int x_tallyStands, .int x_historyStands]))]) [0] rfl
                  have hKc := hK.sub (tys' := []) [] rfl
                  have hDc := hD.sub (ws' := [(h0, .inr (11, [.ref xr, .ref am, .ref xs, .ref xf, .ref co, .ref oc, .ref ta, .ref xq, .ref xh, .ref xk, .ref xo, .int x_outLength, .int x_courtStands, .int x_courtNews, .int x_tallyStands, .int x_historyStands]))]) [0] (by decide) rfl
                  have hFc := va_free (wc := [(h0, .inr (11, [.ref xr, .ref am, .ref xs, .ref xf, .ref co, .ref oc, .ref ta, .ref xq, .ref xh, .ref xk, .ref xo, .int x_outLength, .int x_courtStands, .int x_courtNews, .int x_tallyStands, .int x_historyStands]))]) hD hS hA [0] rfl
                  refine va_callv (va_runV (As := []) (rest := []) ⟨hx, hb, hml, hown, hts⟩ (sX11_forget l dC dI H.size h0 xr am xs xf co oc ta xq xh xk xo x_outLength x_courtStands x_courtNews x_tallyStands x_historyStands gx_outLength gx_courtStands gx_tallyStands gx_historyStands) (cwV 0 hts (gz_gV mGA_340 mGA_341 mGA_342 mGA_1 mGA_343 goodGA) rfl rfl rfl (by decide +kernel) ⟨Nat.le_of_ble_eq_true rfl, Nat.le_of_ble_eq_true rfl⟩) ⟨fun a U g mk q => by obtain ⟨q0, q1, qP, qK, qD, qZ⟩ := q; exact ⟨q0, q1, qP, va_K.moved (u := U) (U := U.calling g mk a) (Vm.Alike.refl U.vm) qK, qD, nzA_same (u := U) (U := U.calling g mk a) rfl qZ⟩, va_recv hKc hPc (ci := 11) (q0 := 0) rfl rfl, fun U hU hW => ⟨rfl, by rw [hU], by rw [hU]; exact hPc, va_K.moved hW.alike hKc, hDc.weaken (fun _ _ _ _ => trivial), nzA_warm hW hz⟩⟩ rfl rfl hl.1 rfl (lv_room (Nat.le_of_ble_eq_true rfl)) dX11_reports_100 ⟨Nat.zero_le _, Nat.zero_le _⟩) hS (fun q _ h => hFc q h) hFc (fun u t H1 locs ht hvm hw hB hz1 hk1 hS => ?_)
                  obtain ⟨y_139, y_140, y_141, gy_139, gy_140, gy_141, hP1, hD1⟩ := hB
                  rw [ht] at hP1
                  obtain ⟨hP, hD⟩ := va_join (wr := (([(am, .inr (0, [.int amonths, .int afull, .int alean, .int alines, .int ahasMoon, .int amoonStart, .int amoonStep, .int aplaceCount, .int y_131, .int adeedCount, .ref pl, .ref re, .ref de])), (re, .inl (kre, 24, .inr (.inr (.inr (.inr (fun i => some (ra i)))))))] : va_W) ++ (gz_fam 24 ra 7 (fun i => [.int (f_132 i), .int (f_133 i), .int (f_134 i), .int (f_135 i), .int (f_136 i), .int (f_137 i)])))) (w1 := [(h0, .inr (11, [.ref xr, .ref am, .ref xs, .ref xf, .ref co, .ref oc, .ref ta, .ref xq, .ref xh, .ref xk, .ref xo, .int x_outLength, .int y_139, .int x_courtNews, .int y_140, .int y_141]))]) hP hD [0] ([1, 2] ++ List.range' 3 24) rfl (gz_ixapp rfl (gz_ixR (m := 3) (by simp only [List.length_append, gz_famlen, List.length_cons, List.length_nil]) gz_ixSelf)) (by decide +kernel) (by decide +kernel) hk1 hFc hP1 hD1
                  have hP := gz_sub hP (ws' := (([(h0, .inr (11, [.ref xr, .ref am, .ref xs, .ref xf, .ref co, .ref oc, .ref ta, .ref xq, .ref xh, .ref xk, .ref xo, .int x_outLength, .int y_139, .int x_courtNews, .int y_140, .int y_141])), (am, .inr (0, [.int amonths, .int afull, .int alean, .int alines, .int ahasMoon, .int amoonStart, .int amoonStep, .int aplaceCount, .int y_131, .int adeedCount, .ref pl, .ref re, .ref de])), (re, .inl (kre, 24, .inr (.inr (.inr (.inr (fun i => some (ra i)))))))] : va_W) ++ (gz_fam 24 ra 7 (fun i => [.int (f_132 i), .int (f_133 i), .int (f_134 i), .int (f_135 i), .int (f_136 i), .int (f_137 i)])))) ([26, 0, 1] ++ List.range' 2 24) (gz_ixapp rfl (gz_ixL (gz_ixR (m := 2) (by simp only [List.length_append, gz_famlen, List.length_cons, List.length_nil]) gz_ixSelf)))
                  have hD := hD.sub (ws' := (([(h0, .inr (11, [.ref xr, .ref am, .ref xs, .ref xf, .ref co, .ref oc, .ref ta, .ref xq, .ref xh, .ref xk, .ref xo, .int x_outLength, .int y_139, .int x_courtNews, .int y_140, .int y_141])), (am, .inr (0, [.int amonths, .int afull, .int alean, .int alines, .int ahasMoon, .int amoonStart, .int amoonStep, .int aplaceCount, .int y_131, .int adeedCount, .ref pl, .ref re, .ref de])), (re, .inl (kre, 24, .inr (.inr (.inr (.inr (fun i => some (ra i)))))))] : va_W) ++ (gz_fam 24 ra 7 (fun i => [.int (f_132 i), .int (f_133 i), .int (f_134 i), .int (f_135 i), .int (f_136 i), .int (f_137 i)])))) ([26, 0, 1] ++ List.range' 2 24) (by decide +kernel) (gz_ixapp rfl (gz_ixL (gz_ixR (m := 2) (by simp only [List.length_append, gz_famlen, List.length_cons, List.length_nil]) gz_ixSelf)))
                  generalize H1 = H at hP hS ⊢
                  refine lv_aload_n hx hb dX11_reports_103 rfl (lv_at hl 1 rfl) ?_
                  refine va_get (D := (dC, dI)) (ci := 11) (v := .ref am) (C := RX11) (T := TX11) (N := 16) hx hb hts (fun w h => List.mem_cons_of_mem _ (jnGA_X11 w h)) hown hK hP 0 rfl rfl 1 (by decide) (hts _ (List.mem_cons_of_mem _ mGA_14)) (fun _ h9 => h9) rfl dX11_reports_104 ?_
                  refine va_get (D := (dC, dI)) (ci := 0) (v := .int y_131) (C := RX0) (T := TX0) (N := 13) hx hb hts (fun w h => List.mem_cons_of_mem _ (jnGA_X0 w h)) hown hK hP 1 rfl rfl 8 (by decide) (hts _ (List.mem_cons_of_mem _ mGA_357)) (fun _ h9 => h9) rfl dX11_reports_107 ?_
                  refine lv_iconst (v := 1) hx hb dX11_reports_110 (by decide) ?_
                  refine lv_isub hx hb dX11_reports_111 ?_
                  refine lv_topi (fun x_142 ex_142 => ?_)
                  have gx_142 : gi x_142 (-1) 23 := gi_sub ex_142 gy_131 (gi_c 1 1 (by decide)) (by decide)
                  exact W.iret (v := x_142) hx hb hr (fun t ht hW => ⟨⟨x_142, (), rfl, (gi_w gx_142 (by decide)), y_139, y_140, y_141, y_131, f_132, f_133, f_134, f_135, f_136, f_137, gy_139, gy_140, gy_141, gy_131, gf_132, gf_134, gf_137, by rw [ht]; exact hP, hD⟩, hS.F ht⟩) hS.2.2 dX11_reports_112
                · have g_143 : gi areportCount 24 24 := gi_le_r (Int32.not_lt.mp c_128) (gi_c 24 24 (by decide)) gareportCount
                  refine lv_bipush (v := (-5)) hx hb dX11_reports_82 (by decide) ?_
                  exact W.iret (v := (-5)) hx hb hr (fun t ht hW => ⟨⟨(-5), (), rfl, (gi_w (gi_c (-5) (-5) (by decide)) (by decide)), x_courtStands, x_tallyStands, x_historyStands, areportCount, r_place, r_kind, r_month, r_day, r_known, r_struck, gx_courtStands, gx_tallyStands, gx_historyStands, (gi_w g_143 (by decide)), gr_place, gr_month, gr_struck, by rw [ht]; exact hP, hD⟩, hS.F ht⟩) hS.2.2 dX11_reports_84
              · have g_144 : gi p5 1000 2147483647 := gi_lt_r (Int32.not_le.mp c_125) (gi_c 999 999 (by decide)) g_124 (by decide)
                refine lv_bipush (v := (-2)) hx hb dX11_reports_67 (by decide) ?_
                exact W.iret (v := (-2)) hx hb hr (fun t ht hW => ⟨⟨(-2), (), rfl, (gi_w (gi_c (-2) (-2) (by decide)) (by decide)), x_courtStands, x_tallyStands, x_historyStands, areportCount, r_place, r_kind, r_month, r_day, r_known, r_struck, gx_courtStands, gx_tallyStands, gx_historyStands, gareportCount, gr_place, gr_month, gr_struck, by rw [ht]; exact hP, hD⟩, hS.F ht⟩) hS.2.2 dX11_reports_69
