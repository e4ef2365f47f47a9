abbrev fsMM (mi : Nat → Int32) (mr : Nat → Nat) : List Value := [.int (mi 0), .int (mi 1), .int (mi 2), .int (mi 3), .int (mi 4), .int (mi 5), .int (mi 6), .int (mi 7), .ref (mr 0), .ref (mr 1), .int (mi 10), .ref (mr 2), .ref (mr 3), .ref (mr 4), .ref (mr 5), .ref (mr 6), .ref (mr 7), .int (mi 17), .ref (mr 8), .ref (mr 9), .ref (mr 10), .ref (mr 11), .ref (mr 12), .int (mi 23), .int (mi 24), .ref (mr 13), .int (mi 26), .int (mi 27), .int (mi 28), .int (mi 29), .int (mi 30), .int (mi 31), .int (mi 32), .int (mi 33), .ref (mr 14), .ref (mr 15), .ref (mr 16), .int (mi 37), .ref (mr 17), .ref (mr 18), .ref (mr 19), .int (mi 41), .int (mi 42), .int (mi 43), .int (mi 44), .int (mi 45), .ref (mr 20), .int (mi 47), .int (mi 48), .int (mi 49), .int (mi 50), .int (mi 51), .ref (mr 21), .ref (mr 22), .int (mi 54), .ref (mr 23), .int (mi 56)]
theorem dX12_in_0 : decode cX12_in 0 = .ok (.lload_n 0, 1) := by decide +kernel
theorem dX12_in_1 : decode cX12_in 1 = .ok (.lload_n 2, 1) := by decide +kernel
theorem dX12_in_2 : decode cX12_in 2 = .ok (.lcmp, 1) := by decide +kernel
theorem dX12_in_3 : decode cX12_in 3 = .ok (.ifCond .lt 14, 3) := by decide +kernel
theorem dX12_in_6 : decode cX12_in 6 = .ok (.lload_n 0, 1) := by decide +kernel
theorem dX12_in_7 : decode cX12_in 7 = .ok (.lload 4, 2) := by decide +kernel
theorem dX12_in_9 : decode cX12_in 9 = .ok (.lcmp, 1) := by decide +kernel
theorem dX12_in_10 : decode cX12_in 10 = .ok (.ifCond .gt 7, 3) := by decide +kernel
theorem dX12_in_13 : decode cX12_in 13 = .ok (.iconst 1, 1) := by decide +kernel
theorem dX12_in_14 : decode cX12_in 14 = .ok (.goto 4, 3) := by decide +kernel
theorem dX12_in_17 : decode cX12_in 17 = .ok (.iconst 0, 1) := by decide +kernel
theorem dX12_in_18 : decode cX12_in 18 = .ok (.ireturn, 1) := by decide +kernel
noncomputable def bfX12_in_18 (p0 : Int64) (p1 : Int64) (p2 : Int64) (s0 : Int32) : Int32 := s0
noncomputable def bfX12_in_17 (p0 : Int64) (p1 : Int64) (p2 : Int64) : Int32 := bfX12_in_18 p0 p1 p2 (0 : Int32)
noncomputable def fX12_in (p0 : Int64) (p1 : Int64) (p2 : Int64) : Int32 := if (lg_cmp p0 p1) < (0 : Int32) then (bfX12_in_17 p0 p1 p2) else (if (0 : Int32) < (lg_cmp p0 p2) then (bfX12_in_17 p0 p1 p2) else (bfX12_in_18 p0 p1 p2 (1 : Int32)))
set_option maxHeartbeats 4000000 in
set_option maxRecDepth 100000 in
theorem sX12_in (l : Launch) (dC : Nat → ClassId) (dI : Nat → Nat → Nat) (p0 : Int64) (p1 : Int64) (p2 : Int64)  : Met l yX12_in (.code yX12_in cX12_in 6 (some .boolean) :: wsGB) ({ frames := 0, cells := 0, slots := 0, locals := 0 }) (va_Pc [.long p0, .long p1, .long p2] (fun U => va_P (dC, dI) vwCl [] U.heap ∧ va_K (dC, dI) vwCl [] U)) (va_Qi (fun (r : Int32) (u : Unit) => (gi r 0 1 ∧ (r.toInt = 1 → p1.toInt ≤ p0.toInt ∧ p0.toInt ≤ p2.toInt) ∧ (r.toInt = 0 → p0.toInt < p1.toInt ∨ p2.toInt < p0.toInt)) ∧ r = fX12_in p0 p1 p2) (fun _ _ => True) (fun _ => False)) 0 0 (fun _ => False) := by
  refine Met.ofW (cc := cX12_in) (maxL := 6) (ret := (some .boolean)) (by decide) rfl ?_
  intro p e s m args below meth c s₁ B hml hv
  obtain ⟨rfl, hP, hK⟩ := hv
  have hx := B.exec
  have hb := B.bytes
  have hr := B.returns
  have hts := atoms_spec (ws := (.code yX12_in cX12_in 6 (some .boolean) :: wsGB)) B.pre
  have hown : s.vm.findClass RX12 = some m.cls := findClass_of_methodNamed B.named
  have hlocks := B.notSynchronized
  have hS : va_S (fun _ => False) s.heap s.heap [] := va_S.rf
  have hl := lv_entry ([.long p0, .long p1, .long p2]) (n := 6) (Nat.le_of_ble_eq_true rfl)
  rw [lg_entry_eq]
  generalize (lg_sl ([.long p0, .long p1, .long p2]) ++ List.replicate (6 - (lg_sl ([.long p0, .long p1, .long p2])).length) Slot.unset).toArray = ls at hl ⊢
  have hl : lv_has ls 6 [(0, .long p0), (2, .long p1), (4, .long p2)] := hl
  obtain ⟨RES, hF⟩ : ∃ R9, fX12_in p0 p1 p2 = R9 := ⟨_, rfl⟩
  have hR9 := hF
  refine lv_lload_n hx hb dX12_in_0 rfl (lv_at hl 0 rfl) ?_
  refine lv_lload_n hx hb dX12_in_1 rfl (lv_at hl 1 rfl) ?_
  refine W.lcmp hx hb dX12_in_2 ?_
  refine lv_topi (fun x_9 ex_9 => ?_)
  refine lv_if_lt (tgt := 17) hx hb dX12_in_3 (by decide) (fun c_10 => ?_) (fun c_10 => ?_)
  · have hF := gf_pos (by rw [ex_9] at c_10; exact c_10) hF
    have g_11 : gi x_9 (-2147483648) (-1) := gi_lt_l c_10 (gi_any x_9) (gi_c 0 0 (by decide)) (by decide)
    refine lv_iconst (v := 0) hx hb dX12_in_17 (by decide) ?_
    exact W.zret (v := 0) hx hb hr (by decide) (fun t ht hW => ⟨⟨0, (), rfl, ⟨⟨(gi_w (gi_c 0 0 (by decide)) (by decide)), ⟨fun h => absurd h (by decide), fun _ => Or.inl (gz_llt (ex_9 ▸ c_10))⟩⟩, hF.trans hR9.symm⟩, trivial⟩, hS.F ht⟩) hS.2.2 dX12_in_18
  · have hF := gf_neg (by rw [ex_9] at c_10; exact c_10) hF
    have g_12 : gi x_9 0 2147483647 := gi_le_r (Int32.not_lt.mp c_10) (gi_c 0 0 (by decide)) (gi_any x_9)
    refine lv_lload_n hx hb dX12_in_6 rfl (lv_at hl 0 rfl) ?_
    refine lv_lload hx hb dX12_in_7 (lv_at hl 2 rfl) ?_
    refine W.lcmp hx hb dX12_in_9 ?_
    refine lv_topi (fun x_13 ex_13 => ?_)
    refine lv_if_gt (tgt := 17) hx hb dX12_in_10 (by decide) (fun c_14 => ?_) (fun c_14 => ?_)
    · have hF := gf_pos (by rw [ex_13] at c_14; exact c_14) hF
      have g_15 : gi x_13 1 2147483647 := gi_lt_r c_14 (gi_c 0 0 (by decide)) (gi_any x_13) (by decide)
      refine lv_iconst (v := 0) hx hb dX12_in_17 (by decide) ?_
      exact W.zret (v := 0) hx hb hr (by decide) (fun t ht hW => ⟨⟨0, (), rfl, ⟨⟨(gi_w (gi_c 0 0 (by decide)) (by decide)), ⟨fun h => absurd h (by decide), fun _ => Or.inr (gz_lgt (ex_13 ▸ c_14))⟩⟩, hF.trans hR9.symm⟩, trivial⟩, hS.F ht⟩) hS.2.2 dX12_in_18
    · have hF := gf_neg (by rw [ex_13] at c_14; exact c_14) hF
      have g_16 : gi x_13 (-2147483648) 0 := gi_le_l (Int32.not_lt.mp c_14) (gi_any x_13) (gi_c 0 0 (by decide))
      refine lv_iconst (v := 1) hx hb dX12_in_13 (by decide) ?_
      refine lv_goto (tgt := 18) hx hb dX12_in_14 (by decide) ?_
      exact W.zret (v := 1) hx hb hr (by decide) (fun t ht hW => ⟨⟨1, (), rfl, ⟨⟨(gi_w (gi_c 1 1 (by decide)) (by decide)), ⟨fun _ => ⟨(gz_lge (ex_9 ▸ c_10)), (gz_lle (ex_13 ▸ c_14))⟩, fun h => absurd h (by decide)⟩⟩, hF.trans hR9.symm⟩, trivial⟩, hS.F ht⟩) hS.2.2 dX12_in_18
theorem dX12_isPlace_0 : decode cX12_isPlace 0 = .ok (.iload_n 1, 1) := by decide +kernel
theorem dX12_isPlace_1 : decode cX12_isPlace 1 = .ok (.i2l, 1) := by decide +kernel
theorem dX12_isPlace_2 : decode cX12_isPlace 2 = .ok (.lconst 0, 1) := by decide +kernel
theorem dX12_isPlace_3 : decode cX12_isPlace 3 = .ok (.aload_n 0, 1) := by decide +kernel
theorem dX12_isPlace_4 : decode cX12_isPlace 4 = .ok (.getfield 138, 3) := by decide +kernel
theorem dX12_isPlace_7 : decode cX12_isPlace 7 = .ok (.iconst 1, 1) := by decide +kernel
theorem dX12_isPlace_8 : decode cX12_isPlace 8 = .ok (.isub, 1) := by decide +kernel
theorem dX12_isPlace_9 : decode cX12_isPlace 9 = .ok (.i2l, 1) := by decide +kernel
theorem dX12_isPlace_10 : decode cX12_isPlace 10 = .ok (.invokestatic 102, 3) := by decide +kernel
theorem dX12_isPlace_13 : decode cX12_isPlace 13 = .ok (.ireturn, 1) := by decide +kernel
set_option maxHeartbeats 4000000 in
set_option maxRecDepth 100000 in
theorem sX12_isPlace (l : Launch) (dC : Nat → ClassId) (dI : Nat → Nat → Nat) (h0 : Nat) (mi : Nat → Int32) (mr : Nat → Nat) (p1 : Int32) (gmi_0 : gi (mi 0) 0 24) (gmi_1 : gi (mi 1) 0 5) (gmi_2 : gi (mi 2) 0 5) (gmi_4 : gi (mi 4) 0 1) (gmi_7 : gi (mi 7) 0 6) (gmi_10 : gi (mi 10) 0 24) (gmi_17 : gi (mi 17) 0 8) (gmi_23 : gi (mi 23) 0 300) (gmi_24 : gi (mi 24) 0 1) (gmi_26 : gi (mi 26) 0 1600) (gmi_29 : gi (mi 29) 0 1600) (gmi_30 : gi (mi 30) 0 1600) (gmi_33 : gi (mi 33) 0 1) (gmi_37 : gi (mi 37) 0 1) (gmi_41 : gi (mi 41) 0 24) (gmi_50 : gi (mi 50) 0 1) (gmi_51 : gi (mi 51) 0 1) (gmi_56 : gi (mi 56) 0 80) : Met l yX12_isPlace (.code yX12_isPlace cX12_isPlace 2 (some .boolean) :: wsGB) ({ frames := 1, cells := 0, slots := 0, locals := 25 }) (va_Pc [.ref h0, .int p1] (fun U => va_P (dC, dI) vwCl [(h0, .inr (12, fsMM mi mr))] U.heap ∧ va_K (dC, dI) vwCl [] U)) (va_Qi (fun (r : Int32) (u : Unit) => gi r 0 1 ∧ (r.toInt = 1 → gi p1 0 5)) (fun _ _ => True) (fun _ => False)) 0 0 (fun _ => False) := by
  refine Met.ofW (cc := cX12_isPlace) (maxL := 2) (ret := (some .boolean)) (by decide) rfl ?_
  intro p e s m args below meth c s₁ B hml hv
  obtain ⟨rfl, hP, hK⟩ := hv
  have hx := B.exec
  have hb := B.bytes
  have hr := B.returns
  have hts := atoms_spec (ws := (.code yX12_isPlace cX12_isPlace 2 (some .boolean) :: wsGB)) B.pre
  have hown : s.vm.findClass RX12 = some m.cls := findClass_of_methodNamed B.named
  have hlocks := B.notSynchronized
  have hS : va_S (fun _ => False) s.heap s.heap [] := va_S.rf
  have hl := lv_entry ([.ref h0, .int p1]) (n := 2) (Nat.le_of_ble_eq_true rfl)
  rw [lg_entry_eq]
  generalize (lg_sl ([.ref h0, .int p1]) ++ List.replicate (2 - (lg_sl ([.ref h0, .int p1])).length) Slot.unset).toArray = ls at hl ⊢
  have hl : lv_has ls 2 [(0, .ref h0), (1, .int p1)] := hl
  refine lv_iload_n hx hb dX12_isPlace_0 rfl (lv_at hl 1 rfl) ?_
  refine lv_i2l (v := (p1).toInt64) hx hb dX12_isPlace_1 rfl ?_
  refine lv_topl (fun l_5 el_5 => ?_)
  refine lv_lconst (v := 0) hx hb dX12_isPlace_2 (by decide) ?_
  refine lv_aload_n hx hb dX12_isPlace_3 rfl (lv_at hl 0 rfl) ?_
  refine va_get (D := (dC, dI)) (ci := 12) (v := .int (mi 7)) (C := RX12) (T := TX12) (N := 57) hx hb hts (fun w h => List.mem_cons_of_mem _ (jnGB_X12 w h)) hown hK hP 0 rfl rfl 7 (by decide) (hts _ (List.mem_cons_of_mem _ mGB_110)) (fun _ h9 => h9) rfl dX12_isPlace_4 ?_
  refine lv_iconst (v := 1) hx hb dX12_isPlace_7 (by decide) ?_
  refine lv_isub hx hb dX12_isPlace_8 ?_
  refine lv_topi (fun x_6 ex_6 => ?_)
  have gx_6 : gi x_6 (-1) 5 := gi_sub ex_6 gmi_7 (gi_c 1 1 (by decide)) (by decide)
  refine lv_i2l (v := (x_6).toInt64) hx hb dX12_isPlace_9 rfl ?_
  refine lv_topl (fun l_7 el_7 => ?_)
  have hPc := hP.sub (ws' := []) [] rfl
  have hKc := hK.sub (tys' := []) [] rfl
  refine va_calli (va_runS (As := [.long l_5, .long 0, .long l_7]) (rest := []) ⟨hx, hb, hml, hown, hts⟩ (sX12_in l dC dI l_5 0 l_7) (cwS 3 hts (gz_gS mGB_47 mGB_48 mGB_1 mGB_49 goodGB) rfl rfl rfl (by decide +kernel) ⟨Nat.le_of_ble_eq_true rfl, Nat.le_of_ble_eq_true rfl⟩) ⟨fun a U g mk q => by obtain ⟨q0, qP, qK⟩ := q; exact ⟨q0, qP, va_K.moved (u := U) (U := U.calling g mk a) (Vm.Alike.refl U.vm) qK⟩, fun U hU hW => ⟨rfl, by rw [hU]; exact hPc, va_K.moved hW.alike hKc⟩⟩ rfl rfl hl.1 rfl (lv_room (Nat.le_of_ble_eq_true rfl)) dX12_isPlace_10 ⟨Nat.zero_le _, Nat.zero_le _⟩) hS (fun q _ h => h.elim) (fun q h => h.elim) (fun r_8 u t H1 locs ht hvm hw hB hz1 hk1 hS => ?_)
  obtain ⟨hw, hE⟩ := hw
  have hP := gz_keep hP hk1
  generalize H1 = H at hP hS ⊢
  have gr_8 : gi r_8 0 1 := hw.1
  have hqr_8 := hw.2
  exact W.zret (v := r_8) hx hb hr (gz_nb gr_8) (fun t ht hW => ⟨⟨r_8, (), rfl, ⟨gr_8, (fun h1 => (gi_w (gz_inr (hqr_8.1 h1) el_5 (A := 0) (B := 5) (by decide) (gz_l2u el_7 gx_6)) (by decide)))⟩, trivial⟩, hS.F ht⟩) hS.2.2 dX12_isPlace_13
theorem dX12_isReport_0 : decode cX12_isReport 0 = .ok (.iload_n 1, 1) := by decide +kernel
theorem dX12_isReport_1 : decode cX12_isReport 1 = .ok (.i2l, 1) := by decide +kernel
theorem dX12_isReport_2 : decode cX12_isReport 2 = .ok (.lconst 0, 1) := by decide +kernel
theorem dX12_isReport_3 : decode cX12_isReport 3 = .ok (.aload_n 0, 1) := by decide +kernel
theorem dX12_isReport_4 : decode cX12_isReport 4 = .ok (.getfield 141, 3) := by decide +kernel
theorem dX12_isReport_7 : decode cX12_isReport 7 = .ok (.iconst 1, 1) := by decide +kernel
theorem dX12_isReport_8 : decode cX12_isReport 8 = .ok (.isub, 1) := by decide +kernel
theorem dX12_isReport_9 : decode cX12_isReport 9 = .ok (.i2l, 1) := by decide +kernel
theorem dX12_isReport_10 : decode cX12_isReport 10 = .ok (.invokestatic 102, 3) := by decide +kernel
theorem dX12_isReport_13 : decode cX12_isReport 13 = .ok (.ireturn, 1) := by decide +kernel
set_option maxHeartbeats 4000000 in
set_option maxRecDepth 100000 in
theorem sX12_isReport (l : Launch) (dC : Nat → ClassId) (dI : Nat → Nat → Nat) (h0 : Nat) (mi : Nat → Int32) (mr : Nat → Nat) (p1 : Int32) (gmi_0 : gi (mi 0) 0 24) (gmi_1 : gi (mi 1) 0 5) (gmi_2 : gi (mi 2) 0 5) (gmi_4 : gi (mi 4) 0 1) (gmi_7 : gi (mi 7) 0 6) (gmi_10 : gi (mi 10) 0 24) (gmi_17 : gi (mi 17) 0 8) (gmi_23 : gi (mi 23) 0 300) (gmi_24 : gi (mi 24) 0 1) (gmi_26 : gi (mi 26) 0 1600) (gmi_29 : gi (mi 29) 0 1600) (gmi_30 : gi (mi 30) 0 1600) (gmi_33 : gi (mi 33) 0 1) (gmi_37 : gi (mi 37) 0 1) (gmi_41 : gi (mi 41) 0 24) (gmi_50 : gi (mi 50) 0 1) (gmi_51 : gi (mi 51) 0 1) (gmi_56 : gi (mi 56) 0 80) : Met l yX12_isReport (.code yX12_isReport cX12_isReport 2 (some .boolean) :: wsGB) ({ frames := 1, cells := 0, slots := 0, locals := 25 }) (va_Pc [.ref h0, .int p1] (fun U => va_P (dC, dI) vwCl [(h0, .inr (12, fsMM mi mr))] U.heap ∧ va_K (dC, dI) vwCl [] U)) (va_Qi (fun (r : Int32) (u : Unit) => gi r 0 1 ∧ (r.toInt = 1 → gi p1 0 23)) (fun _ _ => True) (fun _ => False)) 0 0 (fun _ => False) := by
  refine Met.ofW (cc := cX12_isReport) (maxL := 2) (ret := (some .boolean)) (by decide) rfl ?_
  intro p e s m args below meth c s₁ B hml hv
  obtain ⟨rfl, hP, hK⟩ := hv
  have hx := B.exec
  have hb := B.bytes
  have hr := B.returns
  have hts := atoms_spec (ws := (.code yX12_isReport cX12_isReport 2 (some .boolean) :: wsGB)) B.pre
  have hown : s.vm.findClass RX12 = some m.cls := findClass_of_methodNamed B.named
  have hlocks := B.notSynchronized
  have hS : va_S (fun _ => False) s.heap s.heap [] := va_S.rf
  have hl := lv_entry ([.ref h0, .int p1]) (n := 2) (Nat.le_of_ble_eq_true rfl)
  rw [lg_entry_eq]
  generalize (lg_sl ([.ref h0, .int p1]) ++ List.replicate (2 - (lg_sl ([.ref h0, .int p1])).length) Slot.unset).toArray = ls at hl ⊢
  have hl : lv_has ls 2 [(0, .ref h0), (1, .int p1)] := hl
  refine lv_iload_n hx hb dX12_isReport_0 rfl (lv_at hl 1 rfl) ?_
  refine lv_i2l (v := (p1).toInt64) hx hb dX12_isReport_1 rfl ?_
  refine lv_topl (fun l_5 el_5 => ?_)
  refine lv_lconst (v := 0) hx hb dX12_isReport_2 (by decide) ?_
  refine lv_aload_n hx hb dX12_isReport_3 rfl (lv_at hl 0 rfl) ?_
  refine va_get (D := (dC, dI)) (ci := 12) (v := .int (mi 10)) (C := RX12) (T := TX12) (N := 57) hx hb hts (fun w h => List.mem_cons_of_mem _ (jnGB_X12 w h)) hown hK hP 0 rfl rfl 10 (by decide) (hts _ (List.mem_cons_of_mem _ mGB_111)) (fun _ h9 => h9) rfl dX12_isReport_4 ?_
  refine lv_iconst (v := 1) hx hb dX12_isReport_7 (by decide) ?_
  refine lv_isub hx hb dX12_isReport_8 ?_
  refine lv_topi (fun x_6 ex_6 => ?_)
  have gx_6 : gi x_6 (-1) 23 := gi_sub ex_6 gmi_10 (gi_c 1 1 (by decide)) (by decide)
  refine lv_i2l (v := (x_6).toInt64) hx hb dX12_isReport_9 rfl ?_
  refine lv_topl (fun l_7 el_7 => ?_)
  have hPc := hP.sub (ws' := []) [] rfl
  have hKc := hK.sub (tys' := []) [] rfl
  refine va_calli (va_runS (As := [.long l_5, .long 0, .long l_7]) (rest := []) ⟨hx, hb, hml, hown, hts⟩ (sX12_in l dC dI l_5 0 l_7) (cwS 3 hts (gz_gS mGB_47 mGB_48 mGB_1 mGB_49 goodGB) rfl rfl rfl (by decide +kernel) ⟨Nat.le_of_ble_eq_true rfl, Nat.le_of_ble_eq_true rfl⟩) ⟨fun a U g mk q => by obtain ⟨q0, qP, qK⟩ := q; exact ⟨q0, qP, va_K.moved (u := U) (U := U.calling g mk a) (Vm.Alike.refl U.vm) qK⟩, fun U hU hW => ⟨rfl, by rw [hU]; exact hPc, va_K.moved hW.alike hKc⟩⟩ rfl rfl hl.1 rfl (lv_room (Nat.le_of_ble_eq_true rfl)) dX12_isReport_10 ⟨Nat.zero_le _, Nat.zero_le _⟩) hS (fun q _ h => h.elim) (fun q h => h.elim) (fun r_8 u t H1 locs ht hvm hw hB hz1 hk1 hS => ?_)
  obtain ⟨hw, hE⟩ := hw
  have hP := gz_keep hP hk1
  generalize H1 = H at hP hS ⊢
  have gr_8 : gi r_8 0 1 := hw.1
  have hqr_8 := hw.2
  exact W.zret (v := r_8) hx hb hr (gz_nb gr_8) (fun t ht hW => ⟨⟨r_8, (), rfl, ⟨gr_8, (fun h1 => (gi_w (gz_inr (hqr_8.1 h1) el_5 (A := 0) (B := 23) (by decide) (gz_l2u el_7 gx_6)) (by decide)))⟩, trivial⟩, hS.F ht⟩) hS.2.2 dX12_isReport_13
theorem dX12_isDeed_0 : decode cX12_isDeed 0 = .ok (.iload_n 1, 1) := by decide +kernel
theorem dX12_isDeed_1 : decode cX12_isDeed 1 = .ok (.i2l, 1) := by decide +kernel
theorem dX12_isDeed_2 : decode cX12_isDeed 2 = .ok (.lconst 0, 1) := by decide +kernel
theorem dX12_isDeed_3 : decode cX12_isDeed 3 = .ok (.aload_n 0, 1) := by decide +kernel
theorem dX12_isDeed_4 : decode cX12_isDeed 4 = .ok (.getfield 144, 3) := by decide +kernel
theorem dX12_isDeed_7 : decode cX12_isDeed 7 = .ok (.iconst 1, 1) := by decide +kernel
theorem dX12_isDeed_8 : decode cX12_isDeed 8 = .ok (.isub, 1) := by decide +kernel
theorem dX12_isDeed_9 : decode cX12_isDeed 9 = .ok (.i2l, 1) := by decide +kernel
theorem dX12_isDeed_10 : decode cX12_isDeed 10 = .ok (.invokestatic 102, 3) := by decide +kernel
theorem dX12_isDeed_13 : decode cX12_isDeed 13 = .ok (.ireturn, 1) := by decide +kernel
set_option maxHeartbeats 4000000 in
set_option maxRecDepth 100000 in
theorem sX12_isDeed (l : Launch) (dC : Nat → ClassId) (dI : Nat → Nat → Nat) (h0 : Nat) (mi : Nat → Int32) (mr : Nat → Nat) (p1 : Int32) (gmi_0 : gi (mi 0) 0 24) (gmi_1 : gi (mi 1) 0 5) (gmi_2 : gi (mi 2) 0 5) (gmi_4 : gi (mi 4) 0 1) (gmi_7 : gi (mi 7) 0 6) (gmi_10 : gi (mi 10) 0 24) (gmi_17 : gi (mi 17) 0 8) (gmi_23 : gi (mi 23) 0 300) (gmi_24 : gi (mi 24) 0 1) (gmi_26 : gi (mi 26) 0 1600) (gmi_29 : gi (mi 29) 0 1600) (gmi_30 : gi (mi 30) 0 1600) (gmi_33 : gi (mi 33) 0 1) (gmi_37 : gi (mi 37) 0 1) (gmi_41 : gi (mi 41) 0 24) (gmi_50 : gi (mi 50) 0 1) (gmi_51 : gi (mi 51) 0 1) (gmi_56 : gi (mi 56) 0 80) : Met l yX12_isDeed (.code yX12_isDeed cX12_isDeed 2 (some .boolean) :: wsGB) ({ frames := 1, cells := 0, slots := 0, locals := 25 }) (va_Pc [.ref h0, .int p1] (fun U => va_P (dC, dI) vwCl [(h0, .inr (12, fsMM mi mr))] U.heap ∧ va_K (dC, dI) vwCl [] U)) (va_Qi (fun (r : Int32) (u : Unit) => gi r 0 1 ∧ (r.toInt = 1 → gi p1 0 7)) (fun _ _ => True) (fun _ => False)) 0 0 (fun _ => False) := by
  refine Met.ofW (cc := cX12_isDeed) (maxL := 2) (ret := (some .boolean)) (by decide) rfl ?_
  intro p e s m args below meth c s₁ B hml hv
  obtain ⟨rfl, hP, hK⟩ := hv
  have hx := B.exec
  have hb := B.bytes
  have hr := B.returns
  have hts := atoms_spec (ws := (.code yX12_isDeed cX12_isDeed 2 (some .boolean) :: wsGB)) B.pre
  have hown : s.vm.findClass RX12 = some m.cls := findClass_of_methodNamed B.named
  have hlocks := B.notSynchronized
  have hS : va_S (fun _ => False) s.heap s.heap [] := va_S.rf
  have hl := lv_entry ([.ref h0, .int p1]) (n := 2) (Nat.le_of_ble_eq_true rfl)
  rw [lg_entry_eq]
  generalize (lg_sl ([.ref h0, .int p1]) ++ List.replicate (2 - (lg_sl ([.ref h0, .int p1])).length) Slot.unset).toArray = ls at hl ⊢
  have hl : lv_has ls 2 [(0, .ref h0), (1, .int p1)] := hl
  refine lv_iload_n hx hb dX12_isDeed_0 rfl (lv_at hl 1 rfl) ?_
  refine lv_i2l (v := (p1).toInt64) hx hb dX12_isDeed_1 rfl ?_
  refine lv_topl (fun l_5 el_5 => ?_)
  refine lv_lconst (v := 0) hx hb dX12_isDeed_2 (by decide) ?_
  refine lv_aload_n hx hb dX12_isDeed_3 rfl (lv_at hl 0 rfl) ?_
  refine va_get (D := (dC, dI)) (ci := 12) (v := .int (mi 17)) (C := RX12) (T := TX12) (N := 57) hx hb hts (fun w h => List.mem_cons_of_mem _ (jnGB_X12 w h)) hown hK hP 0 rfl rfl 17 (by decide) (hts _ (List.mem_cons_of_mem _ mGB_112)) (fun _ h9 => h9) rfl dX12_isDeed_4 ?_
  refine lv_iconst (v := 1) hx hb dX12_isDeed_7 (by decide) ?_
  refine lv_isub hx hb dX12_isDeed_8 ?_
  refine lv_topi (fun x_6 ex_6 => ?_)
  have gx_6 : gi x_6 (-1) 7 := gi_sub ex_6 gmi_17 (gi_c 1 1 (by decide)) (by decide)
  refine lv_i2l (v := (x_6).toInt64) hx hb dX12_isDeed_9 rfl ?_
  refine lv_topl (fun l_7 el_7 => ?_)
  have hPc := hP.sub (ws' := []) [] rfl
  have hKc := hK.sub (tys' := []) [] rfl
  refine va_calli (va_runS (As := [.long l_5, .long 0, .long l_7]) (rest := []) ⟨hx, hb, hml, hown, hts⟩ (sX12_in l dC dI l_5 0 l_7) (cwS 3 hts (gz_gS mGB_47 mGB_48 mGB_1 mGB_49 goodGB) rfl rfl rfl (by decide +kernel) ⟨Nat.le_of_ble_eq_true rfl, Nat.le_of_ble_eq_true rfl⟩) ⟨fun a U g mk q => by obtain ⟨q0, qP, qK⟩ := q; exact ⟨q0, qP, va_K.moved (u := U) (U := U.calling g mk a) (Vm.Alike.refl U.vm) qK⟩, fun U hU hW => ⟨rfl, by rw [hU]; exact hPc, va_K.moved hW.alike hKc⟩⟩ rfl rfl hl.1 rfl (lv_room (Nat.le_of_ble_eq_true rfl)) dX12_isDeed_10 ⟨Nat.zero_le _, Nat.zero_le _⟩) hS (fun q _ h => h.elim) (fun q h => h.elim) (fun r_8 u t H1 locs ht hvm hw hB hz1 hk1 hS => ?_)
  obtain ⟨hw, hE⟩ := hw
  have hP := gz_keep hP hk1
  generalize H1 = H at hP hS ⊢
  have gr_8 : gi r_8 0 1 := hw.1
  have hqr_8 := hw.2
  exact W.zret (v := r_8) hx hb hr (gz_nb gr_8) (fun t ht hW => ⟨⟨r_8, (), rfl, ⟨gr_8, (fun h1 => (gi_w (gz_inr (hqr_8.1 h1) el_5 (A := 0) (B := 7) (by decide) (gz_l2u el_7 gx_6)) (by decide)))⟩, trivial⟩, hS.F ht⟩) hS.2.2 dX12_isDeed_13
theorem dX12_isTime_0 : decode cX12_isTime 0 = .ok (.aload_n 0, 1) := by decide +kernel
theorem dX12_isTime_1 : decode cX12_isTime 1 = .ok (.getfield 126, 3) := by decide +kernel
theorem dX12_isTime_4 : decode cX12_isTime 4 = .ok (.ifCond .le 19, 3) := by decide +kernel
theorem dX12_isTime_7 : decode cX12_isTime 7 = .ok (.iload_n 1, 1) := by decide +kernel
theorem dX12_isTime_8 : decode cX12_isTime 8 = .ok (.i2l, 1) := by decide +kernel
theorem dX12_isTime_9 : decode cX12_isTime 9 = .ok (.lconst 0, 1) := by decide +kernel
theorem dX12_isTime_10 : decode cX12_isTime 10 = .ok (.ldc2_w 292, 3) := by decide +kernel
theorem dX12_isTime_13 : decode cX12_isTime 13 = .ok (.invokestatic 102, 3) := by decide +kernel
theorem dX12_isTime_16 : decode cX12_isTime 16 = .ok (.ifCond .eq 7, 3) := by decide +kernel
theorem dX12_isTime_19 : decode cX12_isTime 19 = .ok (.iconst 1, 1) := by decide +kernel
theorem dX12_isTime_20 : decode cX12_isTime 20 = .ok (.goto 4, 3) := by decide +kernel
theorem dX12_isTime_23 : decode cX12_isTime 23 = .ok (.iconst 0, 1) := by decide +kernel
theorem dX12_isTime_24 : decode cX12_isTime 24 = .ok (.ireturn, 1) := by decide +kernel
set_option maxHeartbeats 4000000 in
set_option maxRecDepth 100000 in
theorem sX12_isTime (l : Launch) (dC : Nat → ClassId) (dI : Nat → Nat → Nat) (h0 : Nat) (mi : Nat → Int32) (mr : Nat → Nat) (p1 : Int32) (gmi_0 : gi (mi 0) 0 24) (gmi_1 : gi (mi 1) 0 5) (gmi_2 : gi (mi 2) 0 5) (gmi_4 : gi (mi 4) 0 1) (gmi_7 : gi (mi 7) 0 6) (gmi_10 : gi (mi 10) 0 24) (gmi_17 : gi (mi 17) 0 8) (gmi_23 : gi (mi 23) 0 300) (gmi_24 : gi (mi 24) 0 1) (gmi_26 : gi (mi 26) 0 1600) (gmi_29 : gi (mi 29) 0 1600) (gmi_30 : gi (mi 30) 0 1600) (gmi_33 : gi (mi 33) 0 1) (gmi_37 : gi (mi 37) 0 1) (gmi_41 : gi (mi 41) 0 24) (gmi_50 : gi (mi 50) 0 1) (gmi_51 : gi (mi 51) 0 1) (gmi_56 : gi (mi 56) 0 80) : Met l yX12_isTime (.code yX12_isTime cX12_isTime 2 (some .boolean) :: wsGB) ({ frames := 1, cells := 0, slots := 0, locals := 25 }) (va_Pc [.ref h0, .int p1] (fun U => va_P (dC, dI) vwCl [(h0, .inr (12, fsMM mi mr))] U.heap ∧ va_K (dC, dI) vwCl [] U)) (va_Qi (fun (r : Int32) (u : Unit) => gi r 0 1 ∧ (r.toInt = 1 → gi p1 0 999)) (fun _ _ => True) (fun _ => False)) 0 0 (fun _ => False) := by
  refine Met.ofW (cc := cX12_isTime) (maxL := 2) (ret := (some .boolean)) (by decide) rfl ?_
  intro p e s m args below meth c s₁ B hml hv
  obtain ⟨rfl, hP, hK⟩ := hv
  have hx := B.exec
  have hb := B.bytes
  have hr := B.returns
  have hts := atoms_spec (ws := (.code yX12_isTime cX12_isTime 2 (some .boolean) :: wsGB)) B.pre
  have hown : s.vm.findClass RX12 = some m.cls := findClass_of_methodNamed B.named
  have hlocks := B.notSynchronized
  have hS : va_S (fun _ => False) s.heap s.heap [] := va_S.rf
  have hl := lv_entry ([.ref h0, .int p1]) (n := 2) (Nat.le_of_ble_eq_true rfl)
  rw [lg_entry_eq]
  generalize (lg_sl ([.ref h0, .int p1]) ++ List.replicate (2 - (lg_sl ([.ref h0, .int p1])).length) Slot.unset).toArray = ls at hl ⊢
  have hl : lv_has ls 2 [(0, .ref h0), (1, .int p1)] := hl
  refine lv_aload_n hx hb dX12_isTime_0 rfl (lv_at hl 0 rfl) ?_
  refine va_get (D := (dC, dI)) (ci := 12) (v := .int (mi 3)) (C := RX12) (T := TX12) (N := 57) hx hb hts (fun w h => List.mem_cons_of_mem _ (jnGB_X12 w h)) hown hK hP 0 rfl rfl 3 (by decide) (hts _ (List.mem_cons_of_mem _ mGB_106)) (fun _ h9 => h9) rfl dX12_isTime_1 ?_
  refine lv_if_le (tgt := 23) hx hb dX12_isTime_4 (by decide) (fun c_10 => ?_) (fun c_10 => ?_)
  · have g_11 : gi (mi 3) (-2147483648) 0 := gi_le_l c_10 (gi_any (mi 3)) (gi_c 0 0 (by decide))
    refine lv_iconst (v := 0) hx hb dX12_isTime_23 (by decide) ?_
    exact W.zret (v := 0) hx hb hr (by decide) (fun t ht hW => ⟨⟨0, (), rfl, ⟨(gi_w (gi_c 0 0 (by decide)) (by decide)), (fun h => absurd h (by decide))⟩, trivial⟩, hS.F ht⟩) hS.2.2 dX12_isTime_24
  · have g_12 : gi (mi 3) 1 2147483647 := gi_lt_r (Int32.not_le.mp c_10) (gi_c 0 0 (by decide)) (gi_any (mi 3)) (by decide)
    refine lv_iload_n hx hb dX12_isTime_7 rfl (lv_at hl 1 rfl) ?_
    refine lv_i2l (v := (p1).toInt64) hx hb dX12_isTime_8 rfl ?_
    refine lv_topl (fun l_13 el_13 => ?_)
    refine lv_lconst (v := 0) hx hb dX12_isTime_9 (by decide) ?_
    refine lv_ldc2 (own := RX12) (v := 999) hx hb hown (hts _ (List.mem_cons_of_mem _ mGB_260)) dX12_isTime_10 ?_
    have hPc := hP.sub (ws' := []) [] rfl
    have hKc := hK.sub (tys' := []) [] rfl
    refine va_calli (va_runS (As := [.long l_13, .long 0, .long 999]) (rest := []) ⟨hx, hb, hml, hown, hts⟩ (sX12_in l dC dI l_13 0 999) (cwS 3 hts (gz_gS mGB_47 mGB_48 mGB_1 mGB_49 goodGB) rfl rfl rfl (by decide +kernel) ⟨Nat.le_of_ble_eq_true rfl, Nat.le_of_ble_eq_true rfl⟩) ⟨fun a U g mk q => by obtain ⟨q0, qP, qK⟩ := q; exact ⟨q0, qP, va_K.moved (u := U) (U := U.calling g mk a) (Vm.Alike.refl U.vm) qK⟩, fun U hU hW => ⟨rfl, by rw [hU]; exact hPc, va_K.moved hW.alike hKc⟩⟩ rfl rfl hl.1 rfl (lv_room (Nat.le_of_ble_eq_true rfl)) dX12_isTime_13 ⟨Nat.zero_le _, Nat.zero_le _⟩) hS (fun q _ h => h.elim) (fun q h => h.elim) (fun r_14 u t H1 locs ht hvm hw hB hz1 hk1 hS => ?_)
    obtain ⟨hw, hE⟩ := hw
    have hP := gz_keep hP hk1
    generalize H1 = H at hP hS ⊢
    have gr_14 : gi r_14 0 1 := hw.1
    have hqr_14 := hw.2
    refine lv_if_eq (tgt := 23) hx hb dX12_isTime_16 (by decide) (fun c_15 => ?_) (fun c_15 => ?_)
    · have g_16 : gi r_14 0 0 := gi_eq c_15 (gi_c 0 0 (by decide))
      refine lv_iconst (v := 0) hx hb dX12_isTime_23 (by decide) ?_
      exact W.zret (v := 0) hx hb hr (by decide) (fun t ht hW => ⟨⟨0, (), rfl, ⟨(gi_w (gi_c 0 0 (by decide)) (by decide)), (fun h => absurd h (by decide))⟩, trivial⟩, hS.F ht⟩) hS.2.2 dX12_isTime_24
    · have g_17 : gi r_14 1 1 := gi_ne_lo c_15 gr_14 (gi_c 0 0 (by decide)) (by decide)
      have g_18 : gi p1 0 999 := gi_cap (gi_any p1) (gz_inr (hqr_14.1 (gz_one g_17)) el_13 (A := 0) (B := 999) (by decide) (by decide)) (by decide)
      refine lv_iconst (v := 1) hx hb dX12_isTime_19 (by decide) ?_
      refine lv_goto (tgt := 24) hx hb dX12_isTime_20 (by decide) ?_
      exact W.zret (v := 1) hx hb hr (by decide) (fun t ht hW => ⟨⟨1, (), rfl, ⟨(gi_w (gi_c 1 1 (by decide)) (by decide)), (fun _ => g_18)⟩, trivial⟩, hS.F ht⟩) hS.2.2 dX12_isTime_24
theorem dX12_isAt_0 : decode cX12_isAt 0 = .ok (.aload_n 0, 1) := by decide +kernel
theorem dX12_isAt_1 : decode cX12_isAt 1 = .ok (.getfield 151, 3) := by decide +kernel
theorem dX12_isAt_4 : decode cX12_isAt 4 = .ok (.aload_n 0, 1) := by decide +kernel
theorem dX12_isAt_5 : decode cX12_isAt 5 = .ok (.getfield 99, 3) := by decide +kernel
theorem dX12_isAt_8 : decode cX12_isAt 8 = .ok (.if_icmp .ge 27, 3) := by decide +kernel
theorem dX12_isAt_11 : decode cX12_isAt 11 = .ok (.aload_n 0, 1) := by decide +kernel
theorem dX12_isAt_12 : decode cX12_isAt 12 = .ok (.getfield 50, 3) := by decide +kernel
theorem dX12_isAt_15 : decode cX12_isAt 15 = .ok (.aload_n 0, 1) := by decide +kernel
theorem dX12_isAt_16 : decode cX12_isAt 16 = .ok (.getfield 151, 3) := by decide +kernel
theorem dX12_isAt_19 : decode cX12_isAt 19 = .ok (.iaload, 1) := by decide +kernel
theorem dX12_isAt_20 : decode cX12_isAt 20 = .ok (.i2l, 1) := by decide +kernel
theorem dX12_isAt_21 : decode cX12_isAt 21 = .ok (.iload_n 1, 1) := by decide +kernel
theorem dX12_isAt_22 : decode cX12_isAt 22 = .ok (.i2l, 1) := by decide +kernel
theorem dX12_isAt_23 : decode cX12_isAt 23 = .ok (.iload_n 2, 1) := by decide +kernel
theorem dX12_isAt_24 : decode cX12_isAt 24 = .ok (.i2l, 1) := by decide +kernel
theorem dX12_isAt_25 : decode cX12_isAt 25 = .ok (.invokestatic 102, 3) := by decide +kernel
theorem dX12_isAt_28 : decode cX12_isAt 28 = .ok (.ifCond .eq 7, 3) := by decide +kernel
theorem dX12_isAt_31 : decode cX12_isAt 31 = .ok (.iconst 1, 1) := by decide +kernel
theorem dX12_isAt_32 : decode cX12_isAt 32 = .ok (.goto 4, 3) := by decide +kernel
theorem dX12_isAt_35 : decode cX12_isAt 35 = .ok (.iconst 0, 1) := by decide +kernel
theorem dX12_isAt_36 : decode cX12_isAt 36 = .ok (.ireturn, 1) := by decide +kernel
noncomputable def bfX12_isAt_36 (mi : Nat → Int32) (fm_tape : Nat → Int32) (p1 : Int32) (p2 : Int32) (s0 : Int32) : Int32 := s0
noncomputable def bfX12_isAt_35 (mi : Nat → Int32) (fm_tape : Nat → Int32) (p1 : Int32) (p2 : Int32) : Int32 := bfX12_isAt_36 mi fm_tape p1 p2 (0 : Int32)
noncomputable def fX12_isAt (mi : Nat → Int32) (fm_tape : Nat → Int32) (p1 : Int32) (p2 : Int32) : Int32 := if (mi 26) ≤ (mi 29) then (bfX12_isAt_35 mi fm_tape p1 p2) else (cal (fun o1 => if o1 = (0 : Int32) then (bfX12_isAt_35 mi fm_tape p1 p2) else (bfX12_isAt_36 mi fm_tape p1 p2 (1 : Int32))) (fX12_in ((fm_tape (mi 29).toNatClampNeg).toInt64) (p1.toInt64) (p2.toInt64)))
set_option maxHeartbeats 4000000 in
set_option maxRecDepth 100000 in
theorem sX12_isAtP (l : Launch) (dC : Nat → ClassId) (dI : Nat → Nat → Nat) (h0 : Nat) (mi : Nat → Int32) (mr : Nat → Nat) (km_tape : ClassId) (fm_tape : Nat → Int32) (p1 : Int32) (p2 : Int32) (gmi_0 : gi (mi 0) 0 100000) (gmi_1 : gi (mi 1) 0 100000) (gmi_2 : gi (mi 2) 0 100000) (gmi_4 : gi (mi 4) 0 1) (gmi_7 : gi (mi 7) 0 6) (gmi_10 : gi (mi 10) 0 24) (gmi_17 : gi (mi 17) 0 8) (gmi_23 : gi (mi 23) 0 300) (gmi_24 : gi (mi 24) 0 1) (gmi_26 : gi (mi 26) 0 1600) (gmi_29 : gi (mi 29) 0 1600) (gmi_30 : gi (mi 30) 0 1600) (gmi_32 : gi (mi 32) 0 100000) (gmi_33 : gi (mi 33) 0 1) (gmi_37 : gi (mi 37) 0 1) (gmi_41 : gi (mi 41) 0 24) (gmi_50 : gi (mi 50) 0 1) (gmi_51 : gi (mi 51) 0 1) (gmi_56 : gi (mi 56) 0 80) : Met l yX12_isAt (.code yX12_isAt cX12_isAt 3 (some .boolean) :: wsGB) ({ frames := 1, cells := 0, slots := 0, locals := 25 }) (va_Pc [.ref h0, .int p1, .int p2] (fun U => va_P (dC, dI) vwCl [(h0, .inr (12, fsMM mi mr)), ((mr 13), .inl (km_tape, 1600, .inl fm_tape))] U.heap ∧ va_K (dC, dI) vwCl [(km_tape, .int)] U)) (va_Qi (fun (r : Int32) (u : Unit) => (gi r 0 1 ∧ (r.toInt = 1 → ((mi 29).toInt < (mi 26).toInt ∧ p1.toInt ≤ (fm_tape (mi 29).toNatClampNeg).toInt ∧ (fm_tape (mi 29).toNatClampNeg).toInt ≤ p2.toInt)) ∧ (r.toInt = 0 → ((mi 26).toInt ≤ (mi 29).toInt ∨ (fm_tape (mi 29).toNatClampNeg).toInt < p1.toInt ∨ p2.toInt < (fm_tape (mi 29).toNatClampNeg).toInt))) ∧ r = fX12_isAt mi fm_tape p1 p2) (fun _ _ => True) (fun _ => False)) 0 0 (fun _ => False) := by
  refine Met.ofW (cc := cX12_isAt) (maxL := 3) (ret := (some .boolean)) (by decide) rfl ?_
  intro p e s m args below meth c s₁ B hml hv
  obtain ⟨rfl, hP, hK⟩ := hv
  have hx := B.exec
  have hb := B.bytes
  have hr := B.returns
  have hts := atoms_spec (ws := (.code yX12_isAt cX12_isAt 3 (some .boolean) :: wsGB)) B.pre
  have hown : s.vm.findClass RX12 = some m.cls := findClass_of_methodNamed B.named
  have hlocks := B.notSynchronized
  have hS : va_S (fun _ => False) s.heap s.heap [] := va_S.rf
  have hl := lv_entry ([.ref h0, .int p1, .int p2]) (n := 3) (Nat.le_of_ble_eq_true rfl)
  rw [lg_entry_eq]
  generalize (lg_sl ([.ref h0, .int p1, .int p2]) ++ List.replicate (3 - (lg_sl ([.ref h0, .int p1, .int p2])).length) Slot.unset).toArray = ls at hl ⊢
  have hl : lv_has ls 3 [(0, .ref h0), (1, .int p1), (2, .int p2)] := hl
  obtain ⟨RES, hF⟩ : ∃ R9, fX12_isAt mi fm_tape p1 p2 = R9 := ⟨_, rfl⟩
  have hR9 := hF
  refine lv_aload_n hx hb dX12_isAt_0 rfl (lv_at hl 0 rfl) ?_
  refine va_get (D := (dC, dI)) (ci := 12) (v := .int (mi 29)) (C := RX12) (T := TX12) (N := 57) hx hb hts (fun w h => List.mem_cons_of_mem _ (jnGB_X12 w h)) hown hK hP 0 rfl rfl 29 (by decide) (hts _ (List.mem_cons_of_mem _ mGB_113)) (fun _ h9 => h9) rfl dX12_isAt_1 ?_
  refine lv_aload_n hx hb dX12_isAt_4 rfl (lv_at hl 0 rfl) ?_
  refine va_get (D := (dC, dI)) (ci := 12) (v := .int (mi 26)) (C := RX12) (T := TX12) (N := 57) hx hb hts (fun w h => List.mem_cons_of_mem _ (jnGB_X12 w h)) hown hK hP 0 rfl rfl 26 (by decide) (hts _ (List.mem_cons_of_mem _ mGB_43)) (fun _ h9 => h9) rfl dX12_isAt_5 ?_
  refine lv_icmp_ge (tgt := 35) hx hb dX12_isAt_8 (by decide) (fun c_18 => ?_) (fun c_18 => ?_)
  · have hF := gf_pos c_18 hF
    have hc_19 : (mi 26).toInt ≤ (mi 29).toInt := by have h9 := Int32.le_iff_toInt_le.mp c_18; exact h9
    refine lv_iconst (v := 0) hx hb dX12_isAt_35 (by decide) ?_
    exact W.zret (v := 0) hx hb hr (by decide) (fun t ht hW => ⟨⟨0, (), rfl, ⟨⟨(gi_w (gi_c 0 0 (by decide)) (by decide)), ⟨fun h9 => absurd h9 (by decide), fun _ => (show ((mi 26).toInt ≤ (mi 29).toInt ∨ (fm_tape (mi 29).toNatClampNeg).toInt < p1.toInt ∨ p2.toInt < (fm_tape (mi 29).toNatClampNeg).toInt) from by have qgmi_29 := gmi_29.1; have rgmi_29 := gmi_29.2; have qgmi_26 := gmi_26.1; have rgmi_26 := gmi_26.2; omega)⟩⟩, hF.trans hR9.symm⟩, trivial⟩, hS.F ht⟩) hS.2.2 dX12_isAt_36
  · have hF := gf_neg c_18 hF
    have hc_20 : (mi 29).toInt < (mi 26).toInt := by have h9 := Int32.lt_iff_toInt_lt.mp (Int32.not_le.mp c_18); exact h9
    have g_21 : gi (mi 29) 0 1599 := gi_lt_l (Int32.not_le.mp c_18) gmi_29 gmi_26 (by decide)
    have g_22 : gi (mi 26) 1 1600 := gi_lt_r (Int32.not_le.mp c_18) gmi_29 gmi_26 (by decide)
    refine lv_aload_n hx hb dX12_isAt_11 rfl (lv_at hl 0 rfl) ?_
    refine va_get (D := (dC, dI)) (ci := 12) (v := .ref (mr 13)) (C := RX12) (T := TX12) (N := 57) hx hb hts (fun w h => List.mem_cons_of_mem _ (jnGB_X12 w h)) hown hK hP 0 rfl rfl 25 (by decide) (hts _ (List.mem_cons_of_mem _ mGB_24)) (fun _ h9 => h9) rfl dX12_isAt_12 ?_
    refine lv_aload_n hx hb dX12_isAt_15 rfl (lv_at hl 0 rfl) ?_
    refine va_get (D := (dC, dI)) (ci := 12) (v := .int (mi 29)) (C := RX12) (T := TX12) (N := 57) hx hb hts (fun w h => List.mem_cons_of_mem _ (jnGB_X12 w h)) hown hK hP 0 rfl rfl 29 (by decide) (hts _ (List.mem_cons_of_mem _ mGB_113)) (fun _ h9 => h9) rfl dX12_isAt_16 ?_
    refine va_iald hx hb hK hP 1 0 rfl rfl (gi_in g_21 (by decide)) dX12_isAt_19 ?_
    refine lv_topi (fun x_23 ex_23 => ?_)
    have hlx_23 : x_23.toInt = (fm_tape (mi 29).toNatClampNeg).toInt := congrArg Int32.toInt ex_23
    refine lv_i2l (v := (x_23).toInt64) hx hb dX12_isAt_20 rfl ?_
    refine lv_topl (fun l_24 el_24 => ?_)
    refine lv_iload_n hx hb dX12_isAt_21 rfl (lv_at hl 1 rfl) ?_
    refine lv_i2l (v := (p1).toInt64) hx hb dX12_isAt_22 rfl ?_
    refine lv_topl (fun l_25 el_25 => ?_)
    refine lv_iload_n hx hb dX12_isAt_23 rfl (lv_at hl 2 rfl) ?_
    refine lv_i2l (v := (p2).toInt64) hx hb dX12_isAt_24 rfl ?_
    refine lv_topl (fun l_26 el_26 => ?_)
    have hPc := hP.sub (ws' := []) [] rfl
    have hKc := hK.sub (tys' := []) [] rfl
    refine va_calli (va_runS (As := [.long l_24, .long l_25, .long l_26]) (rest := []) ⟨hx, hb, hml, hown, hts⟩ (sX12_in l dC dI l_24 l_25 l_26) (cwS 3 hts (gz_gS mGB_47 mGB_48 mGB_1 mGB_49 goodGB) rfl rfl rfl (by decide +kernel) ⟨Nat.le_of_ble_eq_true rfl, Nat.le_of_ble_eq_true rfl⟩) ⟨fun a U g mk q => by obtain ⟨q0, qP, qK⟩ := q; exact ⟨q0, qP, va_K.moved (u := U) (U := U.calling g mk a) (Vm.Alike.refl U.vm) qK⟩, fun U hU hW => ⟨rfl, by rw [hU]; exact hPc, va_K.moved hW.alike hKc⟩⟩ rfl rfl hl.1 rfl (lv_room (Nat.le_of_ble_eq_true rfl)) dX12_isAt_25 ⟨Nat.zero_le _, Nat.zero_le _⟩) hS (fun q _ h => h.elim) (fun q h => h.elim) (fun r_27 u t H1 locs ht hvm hw hB hz1 hk1 hS => ?_)
    obtain ⟨hw, hE⟩ := hw
    have hP := gz_keep hP hk1
    have hF := gf_call (a := r_27) (by rw [el_26, el_25, el_24, ex_23] at hE; exact hE) hF
    generalize H1 = H at hP hS ⊢
    have gr_27 : gi r_27 0 1 := hw.1
    have hqr_27 := hw.2
    refine lv_if_eq (tgt := 35) hx hb dX12_isAt_28 (by decide) (fun c_28 => ?_) (fun c_28 => ?_)
    · have hF := gf_pos c_28 hF
      have hc_29 : r_27.toInt = 0 := by have h9 := congrArg Int32.toInt c_28; rw [show (0 : Int32).toInt = 0 from by decide] at h9; exact h9
      have g_30 : gi r_27 0 0 := gi_eq c_28 (gi_c 0 0 (by decide))
      have hno_31 := gz_inF (A := p1.toInt) (B := p2.toInt) (hqr_27.2 (gz_zero1 g_30)) el_24 (gz_l2e el_25) (gz_l2e el_26)
      refine lv_iconst (v := 0) hx hb dX12_isAt_35 (by decide) ?_
      exact W.zret (v := 0) hx hb hr (by decide) (fun t ht hW => ⟨⟨0, (), rfl, ⟨⟨(gi_w (gi_c 0 0 (by decide)) (by decide)), ⟨fun h9 => absurd h9 (by decide), fun _ => (show ((mi 26).toInt ≤ (mi 29).toInt ∨ (fm_tape (mi 29).toNatClampNeg).toInt < p1.toInt ∨ p2.toInt < (fm_tape (mi 29).toNatClampNeg).toInt) from by have qgr_27 := g_30.1; have rgr_27 := g_30.2; have qgmi_29 := g_21.1; have rgmi_29 := g_21.2; have qgmi_26 := g_22.1; have rgmi_26 := g_22.2; omega)⟩⟩, hF.trans hR9.symm⟩, trivial⟩, hS.F ht⟩) hS.2.2 dX12_isAt_36
    · have hF := gf_neg c_28 hF
      have hc_32 : r_27.toInt ≠ 0 := fun h9 => c_28 (Int32.toInt_inj.mp (by rw [show (0 : Int32).toInt = 0 from by decide]; exact h9))
      have g_33 : gi r_27 1 1 := gi_ne_lo c_28 gr_27 (gi_c 0 0 (by decide)) (by decide)
      have hin_34 := gz_inT (A := p1.toInt) (B := p2.toInt) (hqr_27.1 (gz_one g_33)) el_24 (gz_l2e el_25) (gz_l2e el_26)
      refine lv_iconst (v := 1) hx hb dX12_isAt_31 (by decide) ?_
      refine lv_goto (tgt := 36) hx hb dX12_isAt_32 (by decide) ?_
      exact W.zret (v := 1) hx hb hr (by decide) (fun t ht hW => ⟨⟨1, (), rfl, ⟨⟨(gi_w (gi_c 1 1 (by decide)) (by decide)), ⟨fun _ => (show ((mi 29).toInt < (mi 26).toInt ∧ p1.toInt ≤ (fm_tape (mi 29).toNatClampNeg).toInt ∧ (fm_tape (mi 29).toNatClampNeg).toInt ≤ p2.toInt) from by have qgr_27 := g_33.1; have rgr_27 := g_33.2; have qgmi_29 := g_21.1; have rgmi_29 := g_21.2; have qgmi_26 := g_22.1; have rgmi_26 := g_22.2; omega), fun h9 => absurd h9 (by decide)⟩⟩, hF.trans hR9.symm⟩, trivial⟩, hS.F ht⟩) hS.2.2 dX12_isAt_36
/-! families of objects that are written -/
theorem gz_famW3 {ws X Y : va_W} {n : Nat} {ra : Nat → Nat} {ci : Nat} {g : Nat → List Value} {j : Nat} (hw : ws = X ++ gz_fam n ra ci g ++ Y) (h : j < n) : ws[X.length + j]? = some (ra j, .inr (ci, g j)) := by
  rw [hw]
  exact gz_famW h
theorem gz_famP {D : va_G} {cl : List vw_C} {H : Heap} {X Y ws ws2 : va_W} {n : Nat} {ra : Nat → Nat} {ci : Nat} {g g2 : Nat → List Value} {j : Nat} {e : List Value} (hw : ws = X ++ gz_fam n ra ci g ++ Y) (hw2 : ws2 = X ++ gz_fam n ra ci g2 ++ Y) (h : j < n) (hj : g2 j = e) (hg : ∀ i, i ≠ j → g2 i = g i) (hP : va_P D cl (ws.set (X.length + j) (ra j, .inr (ci, e))) H) : va_P D cl ws2 H := by
  rw [hw, gz_famS h hj hg, ← hw2] at hP
  exact hP
theorem gz_famD {A : Nat → Prop} {X Y ws ws2 : va_W} {n : Nat} {ra : Nat → Nat} {ci : Nat} {g g2 : Nat → List Value} {j : Nat} {e : List Value} (hw : ws = X ++ gz_fam n ra ci g ++ Y) (hw2 : ws2 = X ++ gz_fam n ra ci g2 ++ Y) (h : j < n) (hj : g2 j = e) (hg : ∀ i, i ≠ j → g2 i = g i) (hD : va_D A (ws.set (X.length + j) (ra j, .inr (ci, e)))) : va_D A ws2 := by
  rw [hw, gz_famS h hj hg, ← hw2] at hD
  exact hD
theorem gz_clb {x : Int32} {a b : Int} {N : Nat} (h : gi x a b) (hb : b ≤ (N : Int)) : x.toNatClampNeg ≤ N := by
  have := h.2
  show x.toInt.toNat ≤ N
  omega
theorem gz_inR {x : Int32} {n : Nat} (h1 : 0 ≤ x.toInt) (h2 : x.toInt < (n : Int)) : vp_in x n := by
  rw [vp_in_iff]
  omega
theorem gz_fb {x : Int32} (h : gi x 0 1) : fits .boolean (.int x) = true := by
  have h1 := h.1; have h2 := h.2
  rcases (show x.toInt = 0 ∨ x.toInt = 1 by omega) with h | h
  · have : x = 0 := Int32.toInt_inj.mp (by rw [h]; decide)
    rw [this]; rfl
  · have : x = 1 := Int32.toInt_inj.mp (by rw [h]; decide)
    rw [this]; rfl
theorem gz_nlt0 {i : Int32} (h : 0 ≤ i.toInt) : ¬ i < 0 := fun k => by
  have h1 := Int32.lt_iff_toInt_lt.mp k
  have h2 : (0 : Int32).toInt = 0 := by decide
  omega
theorem gz_chi {i : Int32} {n : Nat} (h0 : 0 ≤ i.toInt) (h : i.toInt < (n : Int)) : i.toNatClampNeg < n := by
  show i.toInt.toNat < n
  omega
theorem gz_lenI {r : Int32} {n : Nat} (h : r = nI n) (hn : n ≤ 7) : r.toInt = (n : Int) := by
  rw [h, nI_toInt (by omega)]
theorem gz_len {r : Int32} {n : Nat} (h : r = nI n) (hn : n ≤ 7) : gi r 0 7 := by
  have := gz_lenI h hn
  exact ⟨by omega, by omega⟩
/-- a fact that is kept out of sight -/
def Hid (p : Prop) : Prop := p
theorem Hid.un {p : Prop} (h : Hid p) : p := h
theorem Hid.resL {p q : Prop} (h : Hid (p ∨ q)) (hp : ¬ p) : q := Or.resolve_left h hp
theorem Hid.resR {p q : Prop} (h : Hid (p ∨ q)) (hq : ¬ q) : p := Or.resolve_right h hq
theorem gi_relL {x y : Int32} {a b c d : Int} (h : x.toInt ≤ y.toInt) (hx : gi x a b) (hy : gi y c d) : gi y a d := ⟨Int.le_trans hx.1 h, hy.2⟩

theorem upd_same {f : Nat → Int32} {k : Nat} {x : Int32} (h : f k = x) : upd f k x = f := by
  rw [← h]
  exact upd_self f k
theorem upd_app (f : Nat → Int32) (i : Nat) (x : Int32) (j : Nat) : upd f i x j = if j = i then x else f j := rfl
theorem gf_callm {α β : Type} {f : α → β} {a b c : α} {r : β} (hE : a = c) (hF : cal f b = r) (hb : b = c) : f a = r := by rw [hE, ← hb]; exact hF
theorem dX12_next_0 : decode cX12_next 0 = .ok (.aload_n 0, 1) := by decide +kernel
theorem dX12_next_1 : decode cX12_next 1 = .ok (.bipush 32, 2) := by decide +kernel
theorem dX12_next_3 : decode cX12_next 3 = .ok (.bipush 32, 2) := by decide +kernel
theorem dX12_next_5 : decode cX12_next 5 = .ok (.invokevirtual 154, 3) := by decide +kernel
theorem dX12_next_8 : decode cX12_next 8 = .ok (.ifCond .ne 14, 3) := by decide +kernel
theorem dX12_next_11 : decode cX12_next 11 = .ok (.aload_n 0, 1) := by decide +kernel
theorem dX12_next_12 : decode cX12_next 12 = .ok (.bipush 10, 2) := by decide +kernel
theorem dX12_next_14 : decode cX12_next 14 = .ok (.bipush 10, 2) := by decide +kernel
theorem dX12_next_16 : decode cX12_next 16 = .ok (.invokevirtual 154, 3) := by decide +kernel
theorem dX12_next_19 : decode cX12_next 19 = .ok (.ifCond .eq 16, 3) := by decide +kernel
theorem dX12_next_22 : decode cX12_next 22 = .ok (.aload_n 0, 1) := by decide +kernel
theorem dX12_next_23 : decode cX12_next 23 = .ok (.dup, 1) := by decide +kernel
theorem dX12_next_24 : decode cX12_next 24 = .ok (.getfield 151, 3) := by decide +kernel
theorem dX12_next_27 : decode cX12_next 27 = .ok (.iconst 1, 1) := by decide +kernel
theorem dX12_next_28 : decode cX12_next 28 = .ok (.iadd, 1) := by decide +kernel
theorem dX12_next_29 : decode cX12_next 29 = .ok (.putfield 151, 3) := by decide +kernel
theorem dX12_next_32 : decode cX12_next 32 = .ok (.goto (-32), 3) := by decide +kernel
theorem dX12_next_35 : decode cX12_next 35 = .ok (.aload_n 0, 1) := by decide +kernel
theorem dX12_next_36 : decode cX12_next 36 = .ok (.aload_n 0, 1) := by decide +kernel
theorem dX12_next_37 : decode cX12_next 37 = .ok (.getfield 151, 3) := by decide +kernel
theorem dX12_next_40 : decode cX12_next 40 = .ok (.putfield 158, 3) := by decide +kernel
theorem dX12_next_43 : decode cX12_next 43 = .ok (.aload_n 0, 1) := by decide +kernel
theorem dX12_next_44 : decode cX12_next 44 = .ok (.iconst 0, 1) := by decide +kernel
theorem dX12_next_45 : decode cX12_next 45 = .ok (.putfield 161, 3) := by decide +kernel
theorem dX12_next_48 : decode cX12_next 48 = .ok (.aload_n 0, 1) := by decide +kernel
theorem dX12_next_49 : decode cX12_next 49 = .ok (.getfield 151, 3) := by decide +kernel
theorem dX12_next_52 : decode cX12_next 52 = .ok (.aload_n 0, 1) := by decide +kernel
theorem dX12_next_53 : decode cX12_next 53 = .ok (.getfield 99, 3) := by decide +kernel
theorem dX12_next_56 : decode cX12_next 56 = .ok (.if_icmp .ne 11, 3) := by decide +kernel
theorem dX12_next_59 : decode cX12_next 59 = .ok (.aload_n 0, 1) := by decide +kernel
theorem dX12_next_60 : decode cX12_next 60 = .ok (.iconst 0, 1) := by decide +kernel
theorem dX12_next_61 : decode cX12_next 61 = .ok (.putfield 164, 3) := by decide +kernel
theorem dX12_next_64 : decode cX12_next 64 = .ok (.goto 142, 3) := by decide +kernel
theorem dX12_next_67 : decode cX12_next 67 = .ok (.aload_n 0, 1) := by decide +kernel
theorem dX12_next_68 : decode cX12_next 68 = .ok (.bipush 97, 2) := by decide +kernel
theorem dX12_next_70 : decode cX12_next 70 = .ok (.bipush 122, 2) := by decide +kernel
theorem dX12_next_72 : decode cX12_next 72 = .ok (.invokevirtual 154, 3) := by decide +kernel
theorem dX12_next_75 : decode cX12_next 75 = .ok (.ifCond .eq 32, 3) := by decide +kernel
theorem dX12_next_78 : decode cX12_next 78 = .ok (.aload_n 0, 1) := by decide +kernel
theorem dX12_next_79 : decode cX12_next 79 = .ok (.iconst 1, 1) := by decide +kernel
theorem dX12_next_80 : decode cX12_next 80 = .ok (.putfield 164, 3) := by decide +kernel
theorem dX12_next_83 : decode cX12_next 83 = .ok (.aload_n 0, 1) := by decide +kernel
theorem dX12_next_84 : decode cX12_next 84 = .ok (.bipush 97, 2) := by decide +kernel
theorem dX12_next_86 : decode cX12_next 86 = .ok (.bipush 122, 2) := by decide +kernel
theorem dX12_next_88 : decode cX12_next 88 = .ok (.invokevirtual 154, 3) := by decide +kernel
theorem dX12_next_91 : decode cX12_next 91 = .ok (.ifCond .eq 115, 3) := by decide +kernel
theorem dX12_next_94 : decode cX12_next 94 = .ok (.aload_n 0, 1) := by decide +kernel
theorem dX12_next_95 : decode cX12_next 95 = .ok (.dup, 1) := by decide +kernel
theorem dX12_next_96 : decode cX12_next 96 = .ok (.getfield 151, 3) := by decide +kernel
theorem dX12_next_99 : decode cX12_next 99 = .ok (.iconst 1, 1) := by decide +kernel
theorem dX12_next_100 : decode cX12_next 100 = .ok (.iadd, 1) := by decide +kernel
theorem dX12_next_101 : decode cX12_next 101 = .ok (.putfield 151, 3) := by decide +kernel
theorem dX12_next_104 : decode cX12_next 104 = .ok (.goto (-21), 3) := by decide +kernel
theorem dX12_next_107 : decode cX12_next 107 = .ok (.aload_n 0, 1) := by decide +kernel
theorem dX12_next_108 : decode cX12_next 108 = .ok (.bipush 48, 2) := by decide +kernel
theorem dX12_next_110 : decode cX12_next 110 = .ok (.bipush 57, 2) := by decide +kernel
theorem dX12_next_112 : decode cX12_next 112 = .ok (.invokevirtual 154, 3) := by decide +kernel
theorem dX12_next_115 : decode cX12_next 115 = .ok (.ifCond .eq 61, 3) := by decide +kernel
theorem dX12_next_118 : decode cX12_next 118 = .ok (.aload_n 0, 1) := by decide +kernel
theorem dX12_next_119 : decode cX12_next 119 = .ok (.iconst 2, 1) := by decide +kernel
theorem dX12_next_120 : decode cX12_next 120 = .ok (.putfield 164, 3) := by decide +kernel
theorem dX12_next_123 : decode cX12_next 123 = .ok (.aload_n 0, 1) := by decide +kernel
theorem dX12_next_124 : decode cX12_next 124 = .ok (.bipush 48, 2) := by decide +kernel
theorem dX12_next_126 : decode cX12_next 126 = .ok (.bipush 57, 2) := by decide +kernel
theorem dX12_next_128 : decode cX12_next 128 = .ok (.invokevirtual 154, 3) := by decide +kernel
theorem dX12_next_131 : decode cX12_next 131 = .ok (.ifCond .eq 75, 3) := by decide +kernel
theorem dX12_next_134 : decode cX12_next 134 = .ok (.aload_n 0, 1) := by decide +kernel
theorem dX12_next_135 : decode cX12_next 135 = .ok (.ldc 167, 2) := by decide +kernel
theorem dX12_next_137 : decode cX12_next 137 = .ok (.bipush 10, 2) := by decide +kernel
theorem dX12_next_139 : decode cX12_next 139 = .ok (.aload_n 0, 1) := by decide +kernel
theorem dX12_next_140 : decode cX12_next 140 = .ok (.getfield 161, 3) := by decide +kernel
theorem dX12_next_143 : decode cX12_next 143 = .ok (.imul, 1) := by decide +kernel
theorem dX12_next_144 : decode cX12_next 144 = .ok (.aload_n 0, 1) := by decide +kernel
theorem dX12_next_145 : decode cX12_next 145 = .ok (.getfield 50, 3) := by decide +kernel
theorem dX12_next_148 : decode cX12_next 148 = .ok (.aload_n 0, 1) := by decide +kernel
theorem dX12_next_149 : decode cX12_next 149 = .ok (.getfield 151, 3) := by decide +kernel
theorem dX12_next_152 : decode cX12_next 152 = .ok (.iaload, 1) := by decide +kernel
theorem dX12_next_153 : decode cX12_next 153 = .ok (.iadd, 1) := by decide +kernel
theorem dX12_next_154 : decode cX12_next 154 = .ok (.bipush 48, 2) := by decide +kernel
theorem dX12_next_156 : decode cX12_next 156 = .ok (.isub, 1) := by decide +kernel
theorem dX12_next_157 : decode cX12_next 157 = .ok (.invokestatic 168, 3) := by decide +kernel
theorem dX12_next_160 : decode cX12_next 160 = .ok (.putfield 161, 3) := by decide +kernel
theorem dX12_next_163 : decode cX12_next 163 = .ok (.aload_n 0, 1) := by decide +kernel
theorem dX12_next_164 : decode cX12_next 164 = .ok (.dup, 1) := by decide +kernel
theorem dX12_next_165 : decode cX12_next 165 = .ok (.getfield 151, 3) := by decide +kernel
theorem dX12_next_168 : decode cX12_next 168 = .ok (.iconst 1, 1) := by decide +kernel
theorem dX12_next_169 : decode cX12_next 169 = .ok (.iadd, 1) := by decide +kernel
theorem dX12_next_170 : decode cX12_next 170 = .ok (.putfield 151, 3) := by decide +kernel
theorem dX12_next_173 : decode cX12_next 173 = .ok (.goto (-50), 3) := by decide +kernel
theorem dX12_next_176 : decode cX12_next 176 = .ok (.aload_n 0, 1) := by decide +kernel
theorem dX12_next_177 : decode cX12_next 177 = .ok (.aload_n 0, 1) := by decide +kernel
theorem dX12_next_178 : decode cX12_next 178 = .ok (.bipush 59, 2) := by decide +kernel
theorem dX12_next_180 : decode cX12_next 180 = .ok (.bipush 59, 2) := by decide +kernel
theorem dX12_next_182 : decode cX12_next 182 = .ok (.invokevirtual 154, 3) := by decide +kernel
theorem dX12_next_185 : decode cX12_next 185 = .ok (.ifCond .eq 7, 3) := by decide +kernel
theorem dX12_next_188 : decode cX12_next 188 = .ok (.iconst 3, 1) := by decide +kernel
theorem dX12_next_189 : decode cX12_next 189 = .ok (.goto 4, 3) := by decide +kernel
theorem dX12_next_192 : decode cX12_next 192 = .ok (.iconst 4, 1) := by decide +kernel
theorem dX12_next_193 : decode cX12_next 193 = .ok (.putfield 164, 3) := by decide +kernel
theorem dX12_next_196 : decode cX12_next 196 = .ok (.aload_n 0, 1) := by decide +kernel
theorem dX12_next_197 : decode cX12_next 197 = .ok (.dup, 1) := by decide +kernel
theorem dX12_next_198 : decode cX12_next 198 = .ok (.getfield 151, 3) := by decide +kernel
theorem dX12_next_201 : decode cX12_next 201 = .ok (.iconst 1, 1) := by decide +kernel
theorem dX12_next_202 : decode cX12_next 202 = .ok (.iadd, 1) := by decide +kernel
theorem dX12_next_203 : decode cX12_next 203 = .ok (.putfield 151, 3) := by decide +kernel
theorem dX12_next_206 : decode cX12_next 206 = .ok (.return_, 1) := by decide +kernel
noncomputable def bfX12_next_22 (mi : Nat → Int32) (fm_tape : Nat → Int32) (K : (Int32 → (Int32 × Int32 × Int32 × Int32)) × (Int32 → Int32 → Int32 → Int32 → (Int32 × Int32 × Int32 × Int32)) × (Int32 → Int32 → Int32 → Int32 → (Int32 × Int32 × Int32 × Int32))) (w0_29 : Int32) (w0_30 : Int32) (w0_31 : Int32) (w0_32 : Int32) : Int32 × Int32 × Int32 × Int32 := K.1 (w0_29 + (1 : Int32))
noncomputable def bfX12_next_206 (mi : Nat → Int32) (fm_tape : Nat → Int32) (K : (Int32 → (Int32 × Int32 × Int32 × Int32)) × (Int32 → Int32 → Int32 → Int32 → (Int32 × Int32 × Int32 × Int32)) × (Int32 → Int32 → Int32 → Int32 → (Int32 × Int32 × Int32 × Int32))) (w0_29 : Int32) (w0_30 : Int32) (w0_31 : Int32) (w0_32 : Int32) : Int32 × Int32 × Int32 × Int32 := (w0_29, w0_30, w0_31, w0_32)
noncomputable def bfX12_next_193 (mi : Nat → Int32) (fm_tape : Nat → Int32) (K : (Int32 → (Int32 × Int32 × Int32 × Int32)) × (Int32 → Int32 → Int32 → Int32 → (Int32 × Int32 × Int32 × Int32)) × (Int32 → Int32 → Int32 → Int32 → (Int32 × Int32 × Int32 × Int32))) (s0 : Int32) (w0_29 : Int32) (w0_30 : Int32) (w0_31 : Int32) (w0_32 : Int32) : Int32 × Int32 × Int32 × Int32 := bfX12_next_206 mi fm_tape K (w0_29 + (1 : Int32)) w0_30 s0 w0_32
noncomputable def dfX12_next_0 (mi : Nat → Int32) (fm_tape : Nat → Int32) (K : (Int32 → (Int32 × Int32 × Int32 × Int32)) × (Int32 → Int32 → Int32 → Int32 → (Int32 × Int32 × Int32 × Int32)) × (Int32 → Int32 → Int32 → Int32 → (Int32 × Int32 × Int32 × Int32))) (w0_29 : Int32) : Int32 × Int32 × Int32 × Int32 := cal (fun o1 => if o1 = (0 : Int32) then (cal (fun o2 => if o2 = (0 : Int32) then (if w0_29 = (mi 26) then (bfX12_next_206 mi fm_tape K w0_29 w0_29 (0 : Int32) (0 : Int32)) else (cal (fun o3 => if o3 = (0 : Int32) then (cal (fun o4 => if o4 = (0 : Int32) then (cal (fun o5 => if o5 = (0 : Int32) then (bfX12_next_193 mi fm_tape K (4 : Int32) w0_29 w0_29 (mi 31) (0 : Int32)) else (bfX12_next_193 mi fm_tape K (3 : Int32) w0_29 w0_29 (mi 31) (0 : Int32))) (fX12_isAt (upd (upd (upd mi 29 w0_29) 30 w0_29) 32 0) fm_tape (59 : Int32) (59 : Int32))) else (K.2.2 w0_29 w0_29 (2 : Int32) (0 : Int32))) (fX12_isAt (upd (upd (upd mi 29 w0_29) 30 w0_29) 32 0) fm_tape (48 : Int32) (57 : Int32))) else (K.2.1 w0_29 w0_29 (1 : Int32) (0 : Int32))) (fX12_isAt (upd (upd (upd mi 29 w0_29) 30 w0_29) 32 0) fm_tape (97 : Int32) (122 : Int32)))) else (bfX12_next_22 mi fm_tape K w0_29 (mi 30) (mi 31) (mi 32))) (fX12_isAt (upd mi 29 w0_29) fm_tape (10 : Int32) (10 : Int32))) else (bfX12_next_22 mi fm_tape K w0_29 (mi 30) (mi 31) (mi 32))) (fX12_isAt (upd mi 29 w0_29) fm_tape (32 : Int32) (32 : Int32))
noncomputable def dfX12_next_83 (mi : Nat → Int32) (fm_tape : Nat → Int32) (K : (Int32 → (Int32 × Int32 × Int32 × Int32)) × (Int32 → Int32 → Int32 → Int32 → (Int32 × Int32 × Int32 × Int32)) × (Int32 → Int32 → Int32 → Int32 → (Int32 × Int32 × Int32 × Int32))) (w0_29 : Int32) (w0_30 : Int32) (w0_31 : Int32) (w0_32 : Int32) : Int32 × Int32 × Int32 × Int32 := cal (fun o6 => if o6 = (0 : Int32) then (bfX12_next_206 mi fm_tape K w0_29 w0_30 w0_31 w0_32) else (K.2.1 (w0_29 + (1 : Int32)) w0_30 w0_31 w0_32)) (fX12_isAt (upd (upd (upd (upd mi 29 w0_29) 30 w0_30) 31 w0_31) 32 w0_32) fm_tape (97 : Int32) (122 : Int32))
noncomputable def dfX12_next_123 (mi : Nat → Int32) (fm_tape : Nat → Int32) (K : (Int32 → (Int32 × Int32 × Int32 × Int32)) × (Int32 → Int32 → Int32 → Int32 → (Int32 × Int32 × Int32 × Int32)) × (Int32 → Int32 → Int32 → Int32 → (Int32 × Int32 × Int32 × Int32))) (w0_29 : Int32) (w0_30 : Int32) (w0_31 : Int32) (w0_32 : Int32) : Int32 × Int32 × Int32 × Int32 := cal (fun o7 => if o7 = (0 : Int32) then (bfX12_next_206 mi fm_tape K w0_29 w0_30 w0_31 w0_32) else (K.2.2 (w0_29 + (1 : Int32)) w0_30 w0_31 (if ((((10 : Int32) * w0_32) + (fm_tape w0_29.toNatClampNeg)) - (48 : Int32)) < (100000 : Int32) then ((((10 : Int32) * w0_32) + (fm_tape w0_29.toNatClampNeg)) - (48 : Int32)) else (100000 : Int32)))) (fX12_isAt (upd (upd (upd (upd mi 29 w0_29) 30 w0_30) 31 w0_31) 32 w0_32) fm_tape (48 : Int32) (57 : Int32))
noncomputable def lfX12_next (mi : Nat → Int32) (fm_tape : Nat → Int32) (z : Nat) : (Int32 → (Int32 × Int32 × Int32 × Int32)) × (Int32 → Int32 → Int32 → Int32 → (Int32 × Int32 × Int32 × Int32)) × (Int32 → Int32 → Int32 → Int32 → (Int32 × Int32 × Int32 × Int32)) := Nat.rec (motive := fun _ => (Int32 → (Int32 × Int32 × Int32 × Int32)) × (Int32 → Int32 → Int32 → Int32 → (Int32 × Int32 × Int32 × Int32)) × (Int32 → Int32 → Int32 → Int32 → (Int32 × Int32 × Int32 × Int32))) ((fun _ => (0, 0, 0, 0), fun _ _ _ _ => (0, 0, 0, 0), fun _ _ _ _ => (0, 0, 0, 0))) (fun _ K => (dfX12_next_0 mi fm_tape K, dfX12_next_83 mi fm_tape K, dfX12_next_123 mi fm_tape K)) z
noncomputable def fX12_next (mi : Nat → Int32) (fm_tape : Nat → Int32) : Int32 × Int32 × Int32 × Int32 := (lfX12_next mi fm_tape 1000000000).1 (mi 29)
set_option maxHeartbeats 4000000 in
set_option maxRecDepth 100000 in
theorem lp_sX12_nextP {p : Program} {l : Launch} {e : Env} {R : Room} {s : State} {m : MethodId} {args : Array Value} {below : List Frame} {meth : Method} {c : Code} {Q : State → Prop} {A : Nat → Prop} {cells slots : Nat} {dC : Nat → ClassId} {dI : Nat → Nat → Nat} {RES : Int32 × Int32 × Int32 × Int32} (h0 : Nat) (mi : Nat → Int32) (mr : Nat → Nat) (km_tape : ClassId) (fm_tape : Nat → Int32) (gmi_0 : gi (mi 0) 0 100000) (gmi_1 : gi (mi 1) 0 100000) (gmi_2 : gi (mi 2) 0 100000) (gmi_4 : gi (mi 4) 0 1) (gmi_7 : gi (mi 7) 0 6) (gmi_10 : gi (mi 10) 0 24) (gmi_17 : gi (mi 17) 0 8) (gmi_23 : gi (mi 23) 0 300) (gmi_24 : gi (mi 24) 0 1) (gmi_26 : gi (mi 26) 0 1600) (gmi_29 : gi (mi 29) 0 1600) (gmi_30 : gi (mi 30) 0 1600) (gmi_32 : gi (mi 32) 0 100000) (gmi_33 : gi (mi 33) 0 1) (gmi_37 : gi (mi 37) 0 1) (gmi_41 : gi (mi 41) 0 24) (gmi_50 : gi (mi 50) 0 1) (gmi_51 : gi (mi 51) 0 1) (gmi_56 : gi (mi 56) 0 80) (hpq0 : (mi 29).toInt ≤ (mi 26).toInt) (hx : p.tables.exec = Jvm.exec) (hb : c.code = cX12_next) (hml : c.maxLocals = 1) (hown : s.vm.findClass RX12 = some m.cls) (hts : ∀ w ∈ ((.code yX12_next cX12_next 1 none :: wsGB) : List Cond), w.before args s = true) (hK : va_K (dC, dI) vwCl [(km_tape, .int)] s) (hA : ∀ q : Nat, s.heap.size ≤ q → A q) (hRf : 2 ≤ R.frames) (hRl : 47 ≤ R.locals) (hRc : cells ≤ R.cells) (hRs : slots ≤ R.slots) (kr206 : ∀ (w0_29 : Int32) (w0_30 : Int32) (w0_31 : Int32) (w0_32 : Int32) (H : Heap) (locs : List Loc) (ls : Array Slot), gi w0_29 0 1600 → gi w0_30 0 1600 → gi w0_32 0 100000 → (mi 29).toInt ≤ w0_30.toInt → w0_30.toInt ≤ w0_29.toInt → w0_29.toInt ≤ (mi 26).toInt → (w0_31.toInt = 0 ∨ w0_30.toInt < w0_29.toInt) → (w0_29, w0_30, w0_31, w0_32) = RES → va_P (dC, dI) vwCl [(h0, .inr (12, fsMM (upd (upd (upd (upd mi 29 w0_29) 30 w0_30) 31 w0_31) 32 w0_32) mr)), ((mr 13), .inl (km_tape, 1600, .inl fm_tape))] H → va_D A [(h0, .inr (12, fsMM (upd (upd (upd (upd mi 29 w0_29) 30 w0_30) 31 w0_31) 32 w0_32) mr)), ((mr 13), .inl (km_tape, 1600, .inl fm_tape))] → va_S A s.heap H locs → lv_has ls 1 [] → W p l e R s m args below meth c H locs cells slots Q (F0 m 206 ls [])) : ∀ z : Nat, (∀ (w0_29 : Int32) (H : Heap) (locs : List Loc) (ls : Array Slot), gi w0_29 0 1600 → (mi 29).toInt ≤ w0_29.toInt → w0_29.toInt ≤ (mi 26).toInt → (lfX12_next mi fm_tape z).1 w0_29 = RES → 9609 + (-2) * w0_29.toInt < (z : Int) → va_P (dC, dI) vwCl [(h0, .inr (12, fsMM (upd mi 29 w0_29) mr)), ((mr 13), .inl (km_tape, 1600, .inl fm_tape))] H → va_D A [(h0, .inr (12, fsMM (upd mi 29 w0_29) mr)), ((mr 13), .inl (km_tape, 1600, .inl fm_tape))] → va_S A s.heap H locs → lv_has ls 1 [(0, .ref h0)] → W p l e R s m args below meth c H locs cells slots Q (F0 m 0 ls [])) ∧ (∀ (w0_29 : Int32) (w0_30 : Int32) (w0_31 : Int32) (w0_32 : Int32) (H : Heap) (locs : List Loc) (ls : Array Slot), gi w0_29 0 1600 → gi w0_30 0 1600 → gi w0_32 0 100000 → (mi 29).toInt ≤ w0_30.toInt → w0_30.toInt ≤ w0_29.toInt → w0_29.toInt ≤ (mi 26).toInt → (w0_30.toInt < w0_29.toInt ∨ (w0_29.toInt < (mi 26).toInt ∧ 97 ≤ (fm_tape w0_29.toNatClampNeg).toInt ∧ (fm_tape w0_29.toNatClampNeg).toInt ≤ 122)) → (lfX12_next mi fm_tape z).2.1 w0_29 w0_30 w0_31 w0_32 = RES → 6405 + (-2) * w0_29.toInt < (z : Int) → va_P (dC, dI) vwCl [(h0, .inr (12, fsMM (upd (upd (upd (upd mi 29 w0_29) 30 w0_30) 31 w0_31) 32 w0_32) mr)), ((mr 13), .inl (km_tape, 1600, .inl fm_tape))] H → va_D A [(h0, .inr (12, fsMM (upd (upd (upd (upd mi 29 w0_29) 30 w0_30) 31 w0_31) 32 w0_32) mr)), ((mr 13), .inl (km_tape, 1600, .inl fm_tape))] → va_S A s.heap H locs → lv_has ls 1 [(0, .ref h0)] → W p l e R s m args below meth c H locs cells slots Q (F0 m 83 ls [])) ∧ (∀ (w0_29 : Int32) (w0_30 : Int32) (w0_31 : Int32) (w0_32 : Int32) (H : Heap) (locs : List Loc) (ls : Array Slot), gi w0_29 0 1600 → gi w0_30 0 1600 → gi w0_32 0 100000 → (mi 29).toInt ≤ w0_30.toInt → w0_30.toInt ≤ w0_29.toInt → w0_29.toInt ≤ (mi 26).toInt → (w0_30.toInt < w0_29.toInt ∨ (w0_29.toInt < (mi 26).toInt ∧ 48 ≤ (fm_tape w0_29.toNatClampNeg).toInt ∧ (fm_tape w0_29.toNatClampNeg).toInt ≤ 57)) → (lfX12_next mi fm_tape z).2.2 w0_29 w0_30 w0_31 w0_32 = RES → 3201 + (-2) * w0_29.toInt < (z : Int) → va_P (dC, dI) vwCl [(h0, .inr (12, fsMM (upd (upd (upd (upd mi 29 w0_29) 30 w0_30) 31 w0_31) 32 w0_32) mr)), ((mr 13), .inl (km_tape, 1600, .inl fm_tape))] H → va_D A [(h0, .inr (12, fsMM (upd (upd (upd (upd mi 29 w0_29) 30 w0_30) 31 w0_31) 32 w0_32) mr)), ((mr 13), .inl (km_tape, 1600, .inl fm_tape))] → va_S A s.heap H locs → lv_has ls 1 [(0, .ref h0)] → W p l e R s m args below meth c H locs cells slots Q (F0 m 123 ls [])) := by
  intro z
  induction z with
  | zero =>
    refine ⟨?_, ?_, ?_⟩
    · intro w0_29 H locs ls gw0_29 hinv0 hinv1 hF hmu hP hD hS hl
      exact absurd hmu (by have hw0_291 := gw0_29.1; have hw0_292 := gw0_29.2; omega)
    · intro w0_29 w0_30 w0_31 w0_32 H locs ls gw0_29 gw0_30 gw0_32 hinv0 hinv1 hinv2 hinv3 hF hmu hP hD hS hl
      exact absurd hmu (by have hw0_291 := gw0_29.1; have hw0_292 := gw0_29.2; omega)
    · intro w0_29 w0_30 w0_31 w0_32 H locs ls gw0_29 gw0_30 gw0_32 hinv0 hinv1 hinv2 hinv3 hF hmu hP hD hS hl
      exact absurd hmu (by have hw0_291 := gw0_29.1; have hw0_292 := gw0_29.2; omega)
  | succ z ih =>
    refine ⟨?_, ?_, ?_⟩
    · intro w0_29 H locs ls gw0_29 hinv0 hinv1 hF hmu hP hD hS hl
      have hF : dfX12_next_0 mi fm_tape (lfX12_next mi fm_tape z) w0_29 = RES := hF
      refine lv_aload_n hx hb dX12_next_0 rfl (lv_at hl 0 rfl) ?_
      refine lv_bipush (v := 32) hx hb dX12_next_1 (by decide) ?_
      refine lv_bipush (v := 32) hx hb dX12_next_3 (by decide) ?_
      have hPc := hP.sub (ws' := [(h0, .inr (12, fsMM (upd mi 29 w0_29) mr)), ((mr 13), .inl (km_tape, 1600, .inl fm_tape))]) [0, 1] rfl
      have hKc := hK.sub (tys' := [(km_tape, .int)]) [0] rfl
      refine va_calli (va_runV (As := [.int 32, .int 32]) (rest := []) ⟨hx, hb, hml, hown, hts⟩ (sX12_isAtP l dC dI h0 (upd mi 29 w0_29) mr km_tape fm_tape 32 32 gmi_0 gmi_1 gmi_2 gmi_4 gmi_7 gmi_10 gmi_17 gmi_23 gmi_24 gmi_26 gw0_29 gmi_30 gmi_32 gmi_33 gmi_37 gmi_41 gmi_50 gmi_51 gmi_56) (cwV 2 hts (gz_gV mGB_139 mGB_140 mGB_141 mGB_1 mGB_142 goodGB) rfl rfl rfl (by decide +kernel) ⟨Nat.le_trans (Nat.le_of_ble_eq_true rfl) hRf, Nat.le_trans (Nat.le_of_ble_eq_true rfl) hRl⟩) ⟨fun a U g mk q => by obtain ⟨q0, qP, qK⟩ := q; exact ⟨q0, qP, va_K.moved (u := U) (U := U.calling g mk a) (Vm.Alike.refl U.vm) qK⟩, va_recv hKc hPc (ci := 12) (q0 := 0) rfl rfl, fun U hU hW => ⟨rfl, by rw [hU]; exact hPc, va_K.moved hW.alike hKc⟩⟩ rfl rfl hl.1 rfl (lv_room (Nat.le_of_ble_eq_true rfl)) dX12_next_5 ⟨hRc, hRs⟩) hS (fun q _ h => h.elim) (fun q h => h.elim) (fun r_143 u t H1 locs ht hvm hw hB hz1 hk1 hS => ?_)
      obtain ⟨hw, hE⟩ := hw
      have hP := gz_keep hP hk1
      have hF := gf_callm (a := r_143) hE hF (by first | with_reducible rfl | simp only [upd_same, upd_app, ↓reduceIte, Nat.reduceEqDiff])
      generalize H1 = H at hP hS ⊢
      have gr_143 : gi r_143 0 1 := hw.1
      have hqr_143 : Hid ((r_143.toInt = 1 → (w0_29.toInt < (mi 26).toInt ∧ (32 : Int) ≤ (fm_tape w0_29.toNatClampNeg).toInt ∧ (fm_tape w0_29.toNatClampNeg).toInt ≤ (32 : Int))) ∧ (r_143.toInt = 0 → ((mi 26).toInt ≤ w0_29.toInt ∨ (fm_tape w0_29.toNatClampNeg).toInt < (32 : Int) ∨ (32 : Int) < (fm_tape w0_29.toNatClampNeg).toInt))) := by have h9 : (r_143.toInt = 1 → (w0_29.toInt < (mi 26).toInt ∧ (32 : Int32).toInt ≤ (fm_tape w0_29.toNatClampNeg).toInt ∧ (fm_tape w0_29.toNatClampNeg).toInt ≤ (32 : Int32).toInt)) ∧ (r_143.toInt = 0 → ((mi 26).toInt ≤ w0_29.toInt ∨ (fm_tape w0_29.toNatClampNeg).toInt < (32 : Int32).toInt ∨ (32 : Int32).toInt < (fm_tape w0_29.toNatClampNeg).toInt)) := hw.2; rw [show (32 : Int32).toInt = 32 from by decide] at h9; exact h9
      clear hw
      refine lv_if_ne (tgt := 22) hx hb dX12_next_8 (by decide) (fun c_144 => ?_) (fun c_144 => ?_)
      · have hF := gf_neg c_144 hF
        have hc_145 : r_143.toInt ≠ 0 := fun h9 => c_144 (Int32.toInt_inj.mp (by rw [show (0 : Int32).toInt = 0 from by decide]; exact h9))
        have g_146 : gi r_143 1 1 := gi_ne_lo c_144 gr_143 (gi_c 0 0 (by decide)) (by decide)
        have hf_147 : (w0_29.toInt < (mi 26).toInt ∧ (32 : Int) ≤ (fm_tape w0_29.toNatClampNeg).toInt ∧ (fm_tape w0_29.toNatClampNeg).toInt ≤ (32 : Int)) := (Hid.un hqr_143).1 (gz_one g_146) 
        refine lv_aload_n hx hb dX12_next_22 rfl (lv_at hl 0 rfl) ?_
        refine lv_dup hx hb dX12_next_23 rfl ?_
        refine va_get (D := (dC, dI)) (ci := 12) (v := .int w0_29) (C := RX12) (T := TX12) (N := 57) hx hb hts (fun w h => List.mem_cons_of_mem _ (jnGB_X12 w h)) hown hK hP 0 rfl rfl 29 (by decide) (hts _ (List.mem_cons_of_mem _ mGB_113)) (fun _ h9 => h9) rfl dX12_next_24 ?_
        refine lv_iconst (v := 1) hx hb dX12_next_27 (by decide) ?_
        refine lv_iadd hx hb dX12_next_28 ?_
        refine lv_topi (fun x_148 ex_148 => ?_)
        have gx_148 : gi x_148 1 1601 := gi_add ex_148 gw0_29 (gi_c 1 1 (by decide)) (by decide)
        refine va_put (D := (dC, dI)) (ci := 12) (v := .int x_148) (ty := .int) (C := RX12) (T := TX12) (N := 57) hx hb hts (fun w h => List.mem_cons_of_mem _ (jnGB_X12 w h)) tyX12 tyX12_ok nmX12 hown hK hP hD hS 0 rfl rfl 29 (by decide) (hts _ (List.mem_cons_of_mem _ mGB_113)) (fun _ h9 => h9) rfl (by decide +kernel) rfl rfl (Nat.le_of_ble_eq_true rfl) dX12_next_29 (fun H locs hP hD hS => ?_)
        have hP : va_P (dC, dI) vwCl [(h0, .inr (12, fsMM (upd mi 29 x_148) mr)), ((mr 13), .inl (km_tape, 1600, .inl fm_tape))] H := hP
        have hD : va_D A [(h0, .inr (12, fsMM (upd mi 29 x_148) mr)), ((mr 13), .inl (km_tape, 1600, .inl fm_tape))] := hD
        refine lv_goto (tgt := 0) hx hb dX12_next_32 (by decide) ?_
        exact ih.1 x_148 _ _ _ (show gi x_148 0 1600 from ⟨by have qgx_148 := gx_148.1; have rgx_148 := gx_148.2; have igx_148 : x_148.toInt = w0_29.toInt + 1 := (by have hc1 : (1 : Int32).toInt = 1 := (by decide); have h9 := gi_addI ex_148 (by have h1 := gw0_29.1; have h2 := (gi_c 1 1 (by decide)).1; have h3 := gw0_29.2; have h4 := (gi_c 1 1 (by decide)).2; omega) (by have h1 := gw0_29.1; have h2 := (gi_c 1 1 (by decide)).1; have h3 := gw0_29.2; have h4 := (gi_c 1 1 (by decide)).2; omega); rw [hc1] at h9; exact h9); have qgw0_29 := gw0_29.1; have rgw0_29 := gw0_29.2; have qgr_143 := g_146.1; have rgr_143 := g_146.2; have qgmi_29 := gmi_29.1; have rgmi_29 := gmi_29.2; have qgmi_26 := gmi_26.1; have rgmi_26 := gmi_26.2; omega, by have qgx_148 := gx_148.1; have rgx_148 := gx_148.2; have igx_148 : x_148.toInt = w0_29.toInt + 1 := (by have hc1 : (1 : Int32).toInt = 1 := (by decide); have h9 := gi_addI ex_148 (by have h1 := gw0_29.1; have h2 := (gi_c 1 1 (by decide)).1; have h3 := gw0_29.2; have h4 := (gi_c 1 1 (by decide)).2; omega) (by have h1 := gw0_29.1; have h2 := (gi_c 1 1 (by decide)).1; have h3 := gw0_29.2; have h4 := (gi_c 1 1 (by decide)).2; omega); rw [hc1] at h9; exact h9); have qgw0_29 := gw0_29.1; have rgw0_29 := gw0_29.2; have qgr_143 := g_146.1; have rgr_143 := g_146.2; have qgmi_29 := gmi_29.1; have rgmi_29 := gmi_29.2; have qgmi_26 := gmi_26.1; have rgmi_26 := gmi_26.2; omega⟩) (show (mi 29).toInt ≤ x_148.toInt from by have qgx_148 := gx_148.1; have rgx_148 := gx_148.2; have igx_148 : x_148.toInt = w0_29.toInt + 1 := (by have hc1 : (1 : Int32).toInt = 1 := (by decide); have h9 := gi_addI ex_148 (by have h1 := gw0_29.1; have h2 := (gi_c 1 1 (by decide)).1; have h3 := gw0_29.2; have h4 := (gi_c 1 1 (by decide)).2; omega) (by have h1 := gw0_29.1; have h2 := (gi_c 1 1 (by decide)).1; have h3 := gw0_29.2; have h4 := (gi_c 1 1 (by decide)).2; omega); rw [hc1] at h9; exact h9); have qgw0_29 := gw0_29.1; have rgw0_29 := gw0_29.2; have qgr_143 := g_146.1; have rgr_143 := g_146.2; have qgmi_29 := gmi_29.1; have rgmi_29 := gmi_29.2; have qgmi_26 := gmi_26.1; have rgmi_26 := gmi_26.2; omega) (show x_148.toInt ≤ (mi 26).toInt from by have qgx_148 := gx_148.1; have rgx_148 := gx_148.2; have igx_148 : x_148.toInt = w0_29.toInt + 1 := (by have hc1 : (1 : Int32).toInt = 1 := (by decide); have h9 := gi_addI ex_148 (by have h1 := gw0_29.1; have h2 := (gi_c 1 1 (by decide)).1; have h3 := gw0_29.2; have h4 := (gi_c 1 1 (by decide)).2; omega) (by have h1 := gw0_29.1; have h2 := (gi_c 1 1 (by decide)).1; have h3 := gw0_29.2; have h4 := (gi_c 1 1 (by decide)).2; omega); rw [hc1] at h9; exact h9); have qgw0_29 := gw0_29.1; have rgw0_29 := gw0_29.2; have qgr_143 := g_146.1; have rgr_143 := g_146.2; have qgmi_29 := gmi_29.1; have rgmi_29 := gmi_29.2; have qgmi_26 := gmi_26.1; have rgmi_26 := gmi_26.2; omega) (by rw [ex_148]; exact hF) (by have aw0_29 := gw0_29.1; have bw0_29 := gw0_29.2; have qgx_148 := gx_148.1; have rgx_148 := gx_148.2; have igx_148 : x_148.toInt = w0_29.toInt + 1 := (by have hc1 : (1 : Int32).toInt = 1 := (by decide); have h9 := gi_addI ex_148 (by have h1 := gw0_29.1; have h2 := (gi_c 1 1 (by decide)).1; have h3 := gw0_29.2; have h4 := (gi_c 1 1 (by decide)).2; omega) (by have h1 := gw0_29.1; have h2 := (gi_c 1 1 (by decide)).1; have h3 := gw0_29.2; have h4 := (gi_c 1 1 (by decide)).2; omega); rw [hc1] at h9; exact h9); have qgw0_29 := gw0_29.1; have rgw0_29 := gw0_29.2; omega) hP hD hS (lv_sub hl [0] rfl)
      · have hF := gf_pos c_144 hF
        have hc_149 : r_143.toInt = 0 := by have h9 := congrArg Int32.toInt c_144; rw [show (0 : Int32).toInt = 0 from by decide] at h9; exact h9
        have g_150 : gi r_143 0 0 := gi_eq c_144 (gi_c 0 0 (by decide))
        have hf_151 : Hid (((mi 26).toInt ≤ w0_29.toInt ∨ (fm_tape w0_29.toNatClampNeg).toInt < (32 : Int) ∨ (32 : Int) < (fm_tape w0_29.toNatClampNeg).toInt)) := (Hid.un hqr_143).2 (gz_zero1 g_150) 
        refine lv_aload_n hx hb dX12_next_11 rfl (lv_at hl 0 rfl) ?_
        refine lv_bipush (v := 10) hx hb dX12_next_12 (by decide) ?_
        refine lv_bipush (v := 10) hx hb dX12_next_14 (by decide) ?_
        have hPc := hP.sub (ws' := [(h0, .inr (12, fsMM (upd mi 29 w0_29) mr)), ((mr 13), .inl (km_tape, 1600, .inl fm_tape))]) [0, 1] rfl
        have hKc := hK.sub (tys' := [(km_tape, .int)]) [0] rfl
        refine va_calli (va_runV (As := [.int 10, .int 10]) (rest := []) ⟨hx, hb, hml, hown, hts⟩ (sX12_isAtP l dC dI h0 (upd mi 29 w0_29) mr km_tape fm_tape 10 10 gmi_0 gmi_1 gmi_2 gmi_4 gmi_7 gmi_10 gmi_17 gmi_23 gmi_24 gmi_26 gw0_29 gmi_30 gmi_32 gmi_33 gmi_37 gmi_41 gmi_50 gmi_51 gmi_56) (cwV 2 hts (gz_gV mGB_139 mGB_140 mGB_141 mGB_1 mGB_142 goodGB) rfl rfl rfl (by decide +kernel) ⟨Nat.le_trans (Nat.le_of_ble_eq_true rfl) hRf, Nat.le_trans (Nat.le_of_ble_eq_true rfl) hRl⟩) ⟨fun a U g mk q => by obtain ⟨q0, qP, qK⟩ := q; exact ⟨q0, qP, va_K.moved (u := U) (U := U.calling g mk a) (Vm.Alike.refl U.vm) qK⟩, va_recv hKc hPc (ci := 12) (q0 := 0) rfl rfl, fun U hU hW => ⟨rfl, by rw [hU]; exact hPc, va_K.moved hW.alike hKc⟩⟩ rfl rfl hl.1 rfl (lv_room (Nat.le_of_ble_eq_true rfl)) dX12_next_16 ⟨hRc, hRs⟩) hS (fun q _ h => h.elim) (fun q h => h.elim) (fun r_152 u t H1 locs ht hvm hw hB hz1 hk1 hS => ?_)
        obtain ⟨hw, hE⟩ := hw
        have hP := gz_keep hP hk1
        have hF := gf_callm (a := r_152) hE hF (by first | with_reducible rfl | simp only [upd_same, upd_app, ↓reduceIte, Nat.reduceEqDiff])
        generalize H1 = H at hP hS ⊢
        have gr_152 : gi r_152 0 1 := hw.1
        have hqr_152 : Hid ((r_152.toInt = 1 → (w0_29.toInt < (mi 26).toInt ∧ (10 : Int) ≤ (fm_tape w0_29.toNatClampNeg).toInt ∧ (fm_tape w0_29.toNatClampNeg).toInt ≤ (10 : Int))) ∧ (r_152.toInt = 0 → ((mi 26).toInt ≤ w0_29.toInt ∨ (fm_tape w0_29.toNatClampNeg).toInt < (10 : Int) ∨ (10 : Int) < (fm_tape w0_29.toNatClampNeg).toInt))) := by have h9 : (r_152.toInt = 1 → (w0_29.toInt < (mi 26).toInt ∧ (10 : Int32).toInt ≤ (fm_tape w0_29.toNatClampNeg).toInt ∧ (fm_tape w0_29.toNatClampNeg).toInt ≤ (10 : Int32).toInt)) ∧ (r_152.toInt = 0 → ((mi 26).toInt ≤ w0_29.toInt ∨ (fm_tape w0_29.toNatClampNeg).toInt < (10 : Int32).toInt ∨ (10 : Int32).toInt < (fm_tape w0_29.toNatClampNeg).toInt)) := hw.2; rw [show (10 : Int32).toInt = 10 from by decide] at h9; exact h9
        clear hw
        refine lv_if_eq (tgt := 35) hx hb dX12_next_19 (by decide) (fun c_153 => ?_) (fun c_153 => ?_)
        · have hF := gf_pos c_153 hF
          have hc_154 : r_152.toInt = 0 := by have h9 := congrArg Int32.toInt c_153; rw [show (0 : Int32).toInt = 0 from by decide] at h9; exact h9
          have g_155 : gi r_152 0 0 := gi_eq c_153 (gi_c 0 0 (by decide))
          have hf_156 : Hid (((mi 26).toInt ≤ w0_29.toInt ∨ (fm_tape w0_29.toNatClampNeg).toInt < (10 : Int) ∨ (10 : Int) < (fm_tape w0_29.toNatClampNeg).toInt)) := (Hid.un hqr_152).2 (gz_zero1 g_155) 
          refine lv_aload_n hx hb dX12_next_35 rfl (lv_at hl 0 rfl) ?_
          refine lv_aload_n hx hb dX12_next_36 rfl (lv_at hl 0 rfl) ?_
          refine va_get (D := (dC, dI)) (ci := 12) (v := .int w0_29) (C := RX12) (T := TX12) (N := 57) hx hb hts (fun w h => List.mem_cons_of_mem _ (jnGB_X12 w h)) hown hK hP 0 rfl rfl 29 (by decide) (hts _ (List.mem_cons_of_mem _ mGB_113)) (fun _ h9 => h9) rfl dX12_next_37 ?_
          refine va_put (D := (dC, dI)) (ci := 12) (v := .int w0_29) (ty := .int) (C := RX12) (T := TX12) (N := 57) hx hb hts (fun w h => List.mem_cons_of_mem _ (jnGB_X12 w h)) tyX12 tyX12_ok nmX12 hown hK hP hD hS 0 rfl rfl 30 (by decide) (hts _ (List.mem_cons_of_mem _ mGB_135)) (fun _ h9 => h9) rfl (by decide +kernel) rfl rfl (Nat.le_of_ble_eq_true rfl) dX12_next_40 (fun H locs hP hD hS => ?_)
          have hP : va_P (dC, dI) vwCl [(h0, .inr (12, fsMM (upd (upd mi 29 w0_29) 30 w0_29) mr)), ((mr 13), .inl (km_tape, 1600, .inl fm_tape))] H := hP
          have hD : va_D A [(h0, .inr (12, fsMM (upd (upd mi 29 w0_29) 30 w0_29) mr)), ((mr 13), .inl (km_tape, 1600, .inl fm_tape))] := hD
          refine lv_aload_n hx hb dX12_next_43 rfl (lv_at hl 0 rfl) ?_
          refine lv_iconst (v := 0) hx hb dX12_next_44 (by decide) ?_
          refine va_put (D := (dC, dI)) (ci := 12) (v := .int 0) (ty := .int) (C := RX12) (T := TX12) (N := 57) hx hb hts (fun w h => List.mem_cons_of_mem _ (jnGB_X12 w h)) tyX12 tyX12_ok nmX12 hown hK hP hD hS 0 rfl rfl 32 (by decide) (hts _ (List.mem_cons_of_mem _ mGB_136)) (fun _ h9 => h9) rfl (by decide +kernel) rfl rfl (Nat.le_of_ble_eq_true rfl) dX12_next_45 (fun H locs hP hD hS => ?_)
          have hP : va_P (dC, dI) vwCl [(h0, .inr (12, fsMM (upd (upd (upd mi 29 w0_29) 30 w0_29) 32 0) mr)), ((mr 13), .inl (km_tape, 1600, .inl fm_tape))] H := hP
          have hD : va_D A [(h0, .inr (12, fsMM (upd (upd (upd mi 29 w0_29) 30 w0_29) 32 0) mr)), ((mr 13), .inl (km_tape, 1600, .inl fm_tape))] := hD
          refine lv_aload_n hx hb dX12_next_48 rfl (lv_at hl 0 rfl) ?_
          refine va_get (D := (dC, dI)) (ci := 12) (v := .int w0_29) (C := RX12) (T := TX12) (N := 57) hx hb hts (fun w h => List.mem_cons_of_mem _ (jnGB_X12 w h)) hown hK hP 0 rfl rfl 29 (by decide) (hts _ (List.mem_cons_of_mem _ mGB_113)) (fun _ h9 => h9) rfl dX12_next_49 ?_
          refine lv_aload_n hx hb dX12_next_52 rfl (lv_at hl 0 rfl) ?_
          refine va_get (D := (dC, dI)) (ci := 12) (v := .int (mi 26)) (C := RX12) (T := TX12) (N := 57) hx hb hts (fun w h => List.mem_cons_of_mem _ (jnGB_X12 w h)) hown hK hP 0 rfl rfl 26 (by decide) (hts _ (List.mem_cons_of_mem _ mGB_43)) (fun _ h9 => h9) rfl dX12_next_53 ?_
          refine lv_icmp_ne (tgt := 67) hx hb dX12_next_56 (by decide) (fun c_157 => ?_) (fun c_157 => ?_)
          · have hF := gf_neg c_157 hF
            have hc_158 : w0_29.toInt ≠ (mi 26).toInt := fun h9 => c_157 (Int32.toInt_inj.mp (by exact h9))
            refine lv_aload_n hx hb dX12_next_67 rfl (lv_at hl 0 rfl) ?_
            refine lv_bipush (v := 97) hx hb dX12_next_68 (by decide) ?_
            refine lv_bipush (v := 122) hx hb dX12_next_70 (by decide) ?_
            have hPc := hP.sub (ws' := [(h0, .inr (12, fsMM (upd (upd (upd mi 29 w0_29) 30 w0_29) 32 0) mr)), ((mr 13), .inl (km_tape, 1600, .inl fm_tape))]) [0, 1] rfl
            have hKc := hK.sub (tys' := [(km_tape, .int)]) [0] rfl
            refine va_calli (va_runV (As := [.int 97, .int 122]) (rest := []) ⟨hx, hb, hml, hown, hts⟩ (sX12_isAtP l dC dI h0 (upd (upd (upd mi 29 w0_29) 30 w0_29) 32 0) mr km_tape fm_tape 97 122 gmi_0 gmi_1 gmi_2 gmi_4 gmi_7 gmi_10 gmi_17 gmi_23 gmi_24 gmi_26 gw0_29 gw0_29 (gi_w (gi_c 0 0 (by decide)) (by decide)) gmi_33 gmi_37 gmi_41 gmi_50 gmi_51 gmi_56) (cwV 2 hts (gz_gV mGB_139 mGB_140 mGB_141 mGB_1 mGB_142 goodGB) rfl rfl rfl (by decide +kernel) ⟨Nat.le_trans (Nat.le_of_ble_eq_true rfl) hRf, Nat.le_trans (Nat.le_of_ble_eq_true rfl) hRl⟩) ⟨fun a U g mk q => by obtain ⟨q0, qP, qK⟩ := q; exact ⟨q0, qP, va_K.moved (u := U) (U := U.calling g mk a) (Vm.Alike.refl U.vm) qK⟩, va_recv hKc hPc (ci := 12) (q0 := 0) rfl rfl, fun U hU hW => ⟨rfl, by rw [hU]; exact hPc, va_K.moved hW.alike hKc⟩⟩ rfl rfl hl.1 rfl (lv_room (Nat.le_of_ble_eq_true rfl)) dX12_next_72 ⟨hRc, hRs⟩) hS (fun q _ h => h.elim) (fun q h => h.elim) (fun r_159 u t H1 locs ht hvm hw hB hz1 hk1 hS => ?_)
            obtain ⟨hw, hE⟩ := hw
            have hP := gz_keep hP hk1
            have hF := gf_callm (a := r_159) hE hF (by first | with_reducible rfl | simp only [upd_same, upd_app, ↓reduceIte, Nat.reduceEqDiff])
            generalize H1 = H at hP hS ⊢
            have gr_159 : gi r_159 0 1 := hw.1
            have hqr_159 : Hid ((r_159.toInt = 1 → (w0_29.toInt < (mi 26).toInt ∧ (97 : Int) ≤ (fm_tape w0_29.toNatClampNeg).toInt ∧ (fm_tape w0_29.toNatClampNeg).toInt ≤ (122 : Int))) ∧ (r_159.toInt = 0 → ((mi 26).toInt ≤ w0_29.toInt ∨ (fm_tape w0_29.toNatClampNeg).toInt < (97 : Int) ∨ (122 : Int) < (fm_tape w0_29.toNatClampNeg).toInt))) := by have h9 : (r_159.toInt = 1 → (w0_29.toInt < (mi 26).toInt ∧ (97 : Int32).toInt ≤ (fm_tape w0_29.toNatClampNeg).toInt ∧ (fm_tape w0_29.toNatClampNeg).toInt ≤ (122 : Int32).toInt)) ∧ (r_159.toInt = 0 → ((mi 26).toInt ≤ w0_29.toInt ∨ (fm_tape w0_29.toNatClampNeg).toInt < (97 : Int32).toInt ∨ (122 : Int32).toInt < (fm_tape w0_29.toNatClampNeg).toInt)) := hw.2; rw [show (122 : Int32).toInt = 122 from by decide] at h9; rw [show (97 : Int32).toInt = 97 from by decide] at h9; exact h9
            clear hw
            refine lv_if_eq (tgt := 107) hx hb dX12_next_75 (by decide) (fun c_160 => ?_) (fun c_160 => ?_)
            · have hF := gf_pos c_160 hF
              have hc_161 : r_159.toInt = 0 := by have h9 := congrArg Int32.toInt c_160; rw [show (0 : Int32).toInt = 0 from by decide] at h9; exact h9
              have g_162 : gi r_159 0 0 := gi_eq c_160 (gi_c 0 0 (by decide))
              have hf_163 : Hid (((mi 26).toInt ≤ w0_29.toInt ∨ (fm_tape w0_29.toNatClampNeg).toInt < (97 : Int) ∨ (122 : Int) < (fm_tape w0_29.toNatClampNeg).toInt)) := (Hid.un hqr_159).2 (gz_zero1 g_162) 
              refine lv_aload_n hx hb dX12_next_107 rfl (lv_at hl 0 rfl) ?_
              refine lv_bipush (v := 48) hx hb dX12_next_108 (by decide) ?_
              refine lv_bipush (v := 57) hx hb dX12_next_110 (by decide) ?_
              have hPc := hP.sub (ws' := [(h0, .inr (12, fsMM (upd (upd (upd mi 29 w0_29) 30 w0_29) 32 0) mr)), ((mr 13), .inl (km_tape, 1600, .inl fm_tape))]) [0, 1] rfl
              have hKc := hK.sub (tys' := [(km_tape, .int)]) [0] rfl
              refine va_calli (va_runV (As := [.int 48, .int 57]) (rest := []) ⟨hx, hb, hml, hown, hts⟩ (sX12_isAtP l dC dI h0 (upd (upd (upd mi 29 w0_29) 30 w0_29) 32 0) mr km_tape fm_tape 48 57 gmi_0 gmi_1 gmi_2 gmi_4 gmi_7 gmi_10 gmi_17 gmi_23 gmi_24 gmi_26 gw0_29 gw0_29 (gi_w (gi_c 0 0 (by decide)) (by decide)) gmi_33 gmi_37 gmi_41 gmi_50 gmi_51 gmi_56) (cwV 2 hts (gz_gV mGB_139 mGB_140 mGB_141 mGB_1 mGB_142 goodGB) rfl rfl rfl (by decide +kernel) ⟨Nat.le_trans (Nat.le_of_ble_eq_true rfl) hRf, Nat.le_trans (Nat.le_of_ble_eq_true rfl) hRl⟩) ⟨fun a U g mk q => by obtain ⟨q0, qP, qK⟩ := q; exact ⟨q0, qP, va_K.moved (u := U) (U := U.calling g mk a) (Vm.Alike.refl U.vm) qK⟩, va_recv hKc hPc (ci := 12) (q0 := 0) rfl rfl, fun U hU hW => ⟨rfl, by rw [hU]; exact hPc, va_K.moved hW.alike hKc⟩⟩ rfl rfl hl.1 rfl (lv_room (Nat.le_of_ble_eq_true rfl)) dX12_next_112 ⟨hRc, hRs⟩) hS (fun q _ h => h.elim) (fun q h => h.elim) (fun r_164 u t H1 locs ht hvm hw hB hz1 hk1 hS => ?_)
              obtain ⟨hw, hE⟩ := hw
              have hP := gz_keep hP hk1
              have hF := gf_callm (a := r_164) hE hF (by first | with_reducible rfl | simp only [upd_same, upd_app, ↓reduceIte, Nat.reduceEqDiff])
              generalize H1 = H at hP hS ⊢
              have gr_164 : gi r_164 0 1 := hw.1
              have hqr_164 : Hid ((r_164.toInt = 1 → (w0_29.toInt < (mi 26).toInt ∧ (48 : Int) ≤ (fm_tape w0_29.toNatClampNeg).toInt ∧ (fm_tape w0_29.toNatClampNeg).toInt ≤ (57 : Int))) ∧ (r_164.toInt = 0 → ((mi 26).toInt ≤ w0_29.toInt ∨ (fm_tape w0_29.toNatClampNeg).toInt < (48 : Int) ∨ (57 : Int) < (fm_tape w0_29.toNatClampNeg).toInt))) := by have h9 : (r_164.toInt = 1 → (w0_29.toInt < (mi 26).toInt ∧ (48 : Int32).toInt ≤ (fm_tape w0_29.toNatClampNeg).toInt ∧ (fm_tape w0_29.toNatClampNeg).toInt ≤ (57 : Int32).toInt)) ∧ (r_164.toInt = 0 → ((mi 26).toInt ≤ w0_29.toInt ∨ (fm_tape w0_29.toNatClampNeg).toInt < (48 : Int32).toInt ∨ (57 : Int32).toInt < (fm_tape w0_29.toNatClampNeg).toInt)) := hw.2; rw [show (48 : Int32).toInt = 48 from by decide] at h9; rw [show (57 : Int32).toInt = 57 from by decide] at h9; exact h9
              clear hw
              refine lv_if_eq (tgt := 176) hx hb dX12_next_115 (by decide) (fun c_165 => ?_) (fun c_165 => ?_)
              · have hF := gf_pos c_165 hF
                have hc_166 : r_164.toInt = 0 := by have h9 := congrArg Int32.toInt c_165; rw [show (0 : Int32).toInt = 0 from by decide] at h9; exact h9
                have g_167 : gi r_164 0 0 := gi_eq c_165 (gi_c 0 0 (by decide))
                have hf_168 : Hid (((mi 26).toInt ≤ w0_29.toInt ∨ (fm_tape w0_29.toNatClampNeg).toInt < (48 : Int) ∨ (57 : Int) < (fm_tape w0_29.toNatClampNeg).toInt)) := (Hid.un hqr_164).2 (gz_zero1 g_167) 
                refine lv_aload_n hx hb dX12_next_176 rfl (lv_at hl 0 rfl) ?_
                refine lv_aload_n hx hb dX12_next_177 rfl (lv_at hl 0 rfl) ?_
                refine lv_bipush (v := 59) hx hb dX12_next_178 (by decide) ?_
                refine lv_bipush (v := 59) hx hb dX12_next_180 (by decide) ?_
                have hPc := hP.sub (ws' := [(h0, .inr (12, fsMM (upd (upd (upd mi 29 w0_29) 30 w0_29) 32 0) mr)), ((mr 13), .inl (km_tape, 1600, .inl fm_tape))]) [0, 1] rfl
                have hKc := hK.sub (tys' := [(km_tape, .int)]) [0] rfl
                refine va_calli (va_runV (As := [.int 59, .int 59]) (rest := [.ref h0]) ⟨hx, hb, hml, hown, hts⟩ (sX12_isAtP l dC dI h0 (upd (upd (upd mi 29 w0_29) 30 w0_29) 32 0) mr km_tape fm_tape 59 59 gmi_0 gmi_1 gmi_2 gmi_4 gmi_7 gmi_10 gmi_17 gmi_23 gmi_24 gmi_26 gw0_29 gw0_29 (gi_w (gi_c 0 0 (by decide)) (by decide)) gmi_33 gmi_37 gmi_41 gmi_50 gmi_51 gmi_56) (cwV 2 hts (gz_gV mGB_139 mGB_140 mGB_141 mGB_1 mGB_142 goodGB) rfl rfl rfl (by decide +kernel) ⟨Nat.le_trans (Nat.le_of_ble_eq_true rfl) hRf, Nat.le_trans (Nat.le_of_ble_eq_true rfl) hRl⟩) ⟨fun a U g mk q => by obtain ⟨q0, qP, qK⟩ := q; exact ⟨q0, qP, va_K.moved (u := U) (U := U.calling g mk a) (Vm.Alike.refl U.vm) qK⟩, va_recv hKc hPc (ci := 12) (q0 := 0) rfl rfl, fun U hU hW => ⟨rfl, by rw [hU]; exact hPc, va_K.moved hW.alike hKc⟩⟩ rfl rfl hl.1 rfl (lv_room (Nat.le_of_ble_eq_true rfl)) dX12_next_182 ⟨hRc, hRs⟩) hS (fun q _ h => h.elim) (fun q h => h.elim) (fun r_169 u t H1 locs ht hvm hw hB hz1 hk1 hS => ?_)
                obtain ⟨hw, hE⟩ := hw
                have hP := gz_keep hP hk1
                have hF := gf_callm (a := r_169) hE hF (by first | with_reducible rfl | simp only [upd_same, upd_app, ↓reduceIte, Nat.reduceEqDiff])
                generalize H1 = H at hP hS ⊢
                have gr_169 : gi r_169 0 1 := hw.1
                have hqr_169 : Hid ((r_169.toInt = 1 → (w0_29.toInt < (mi 26).toInt ∧ (59 : Int) ≤ (fm_tape w0_29.toNatClampNeg).toInt ∧ (fm_tape w0_29.toNatClampNeg).toInt ≤ (59 : Int))) ∧ (r_169.toInt = 0 → ((mi 26).toInt ≤ w0_29.toInt ∨ (fm_tape w0_29.toNatClampNeg).toInt < (59 : Int) ∨ (59 : Int) < (fm_tape w0_29.toNatClampNeg).toInt))) := by have h9 : (r_169.toInt = 1 → (w0_29.toInt < (mi 26).toInt ∧ (59 : Int32).toInt ≤ (fm_tape w0_29.toNatClampNeg).toInt ∧ (fm_tape w0_29.toNatClampNeg).toInt ≤ (59 : Int32).toInt)) ∧ (r_169.toInt = 0 → ((mi 26).toInt ≤ w0_29.toInt ∨ (fm_tape w0_29.toNatClampNeg).toInt < (59 : Int32).toInt ∨ (59 : Int32).toInt < (fm_tape w0_29.toNatClampNeg).toInt)) := hw.2; rw [show (59 : Int32).toInt = 59 from by decide] at h9; exact h9
                clear hw
                refine lv_if_eq (tgt := 192) hx hb dX12_next_185 (by decide) (fun c_170 => ?_) (fun c_170 => ?_)
                · have hF := gf_pos c_170 hF
                  have hc_171 : r_169.toInt = 0 := by have h9 := congrArg Int32.toInt c_170; rw [show (0 : Int32).toInt = 0 from by decide] at h9; exact h9
                  have g_172 : gi r_169 0 0 := gi_eq c_170 (gi_c 0 0 (by decide))
                  have hf_173 : Hid (((mi 26).toInt ≤ w0_29.toInt ∨ (fm_tape w0_29.toNatClampNeg).toInt < (59 : Int) ∨ (59 : Int) < (fm_tape w0_29.toNatClampNeg).toInt)) := (Hid.un hqr_169).2 (gz_zero1 g_172) 
                  refine lv_iconst (v := 4) hx hb dX12_next_192 (by decide) ?_
                  refine va_put (D := (dC, dI)) (ci := 12) (v := .int 4) (ty := .int) (C := RX12) (T := TX12) (N := 57) hx hb hts (fun w h => List.mem_cons_of_mem _ (jnGB_X12 w h)) tyX12 tyX12_ok nmX12 hown hK hP hD hS 0 rfl rfl 31 (by decide) (hts _ (List.mem_cons_of_mem _ mGB_116)) (fun _ h9 => h9) rfl (by decide +kernel) rfl rfl (Nat.le_of_ble_eq_true rfl) dX12_next_193 (fun H locs hP hD hS => ?_)
                  have hP : va_P (dC, dI) vwCl [(h0, .inr (12, fsMM (upd (upd (upd (upd mi 29 w0_29) 30 w0_29) 31 4) 32 0) mr)), ((mr 13), .inl (km_tape, 1600, .inl fm_tape))] H := hP
                  have hD : va_D A [(h0, .inr (12, fsMM (upd (upd (upd (upd mi 29 w0_29) 30 w0_29) 31 4) 32 0) mr)), ((mr 13), .inl (km_tape, 1600, .inl fm_tape))] := hD
                  refine lv_aload_n hx hb dX12_next_196 rfl (lv_at hl 0 rfl) ?_
                  refine lv_dup hx hb dX12_next_197 rfl ?_
                  refine va_get (D := (dC, dI)) (ci := 12) (v := .int w0_29) (C := RX12) (T := TX12) (N := 57) hx hb hts (fun w h => List.mem_cons_of_mem _ (jnGB_X12 w h)) hown hK hP 0 rfl rfl 29 (by decide) (hts _ (List.mem_cons_of_mem _ mGB_113)) (fun _ h9 => h9) rfl dX12_next_198 ?_
                  refine lv_iconst (v := 1) hx hb dX12_next_201 (by decide) ?_
                  refine lv_iadd hx hb dX12_next_202 ?_
                  refine lv_topi (fun x_174 ex_174 => ?_)
                  have gx_174 : gi x_174 1 1601 := gi_add ex_174 gw0_29 (gi_c 1 1 (by decide)) (by decide)
                  refine va_put (D := (dC, dI)) (ci := 12) (v := .int x_174) (ty := .int) (C := RX12) (T := TX12) (N := 57) hx hb hts (fun w h => List.mem_cons_of_mem _ (jnGB_X12 w h)) tyX12 tyX12_ok nmX12 hown hK hP hD hS 0 rfl rfl 29 (by decide) (hts _ (List.mem_cons_of_mem _ mGB_113)) (fun _ h9 => h9) rfl (by decide +kernel) rfl rfl (Nat.le_of_ble_eq_true rfl) dX12_next_203 (fun H locs hP hD hS => ?_)
                  have hP : va_P (dC, dI) vwCl [(h0, .inr (12, fsMM (upd (upd (upd (upd mi 29 x_174) 30 w0_29) 31 4) 32 0) mr)), ((mr 13), .inl (km_tape, 1600, .inl fm_tape))] H := hP
                  have hD : va_D A [(h0, .inr (12, fsMM (upd (upd (upd (upd mi 29 x_174) 30 w0_29) 31 4) 32 0) mr)), ((mr 13), .inl (km_tape, 1600, .inl fm_tape))] := hD
                  exact kr206 x_174 w0_29 4 0 _ _ _ (show gi x_174 0 1600 from ⟨by have qgx_174 := gx_174.1; have rgx_174 := gx_174.2; have igx_174 : x_174.toInt = w0_29.toInt + 1 := (by have hc1 : (1 : Int32).toInt = 1 := (by decide); have h9 := gi_addI ex_174 (by have h1 := gw0_29.1; have h2 := (gi_c 1 1 (by decide)).1; have h3 := gw0_29.2; have h4 := (gi_c 1 1 (by decide)).2; omega) (by have h1 := gw0_29.1; have h2 := (gi_c 1 1 (by decide)).1; have h3 := gw0_29.2; have h4 := (gi_c 1 1 (by decide)).2; omega); rw [hc1] at h9; exact h9); have qgw0_29 := gw0_29.1; have rgw0_29 := gw0_29.2; have qgr_169 := g_172.1; have rgr_169 := g_172.2; have qgr_164 := g_167.1; have rgr_164 := g_167.2; have qgr_159 := g_162.1; have rgr_159 := g_162.2; have qgr_152 := g_155.1; have rgr_152 := g_155.2; have qgr_143 := g_150.1; have rgr_143 := g_150.2; have qgmi_29 := gmi_29.1; have rgmi_29 := gmi_29.2; have qgmi_26 := gmi_26.1; have rgmi_26 := gmi_26.2; have hz9 := Hid.un hf_173; omega, by have qgx_174 := gx_174.1; have rgx_174 := gx_174.2; have igx_174 : x_174.toInt = w0_29.toInt + 1 := (by have hc1 : (1 : Int32).toInt = 1 := (by decide); have h9 := gi_addI ex_174 (by have h1 := gw0_29.1; have h2 := (gi_c 1 1 (by decide)).1; have h3 := gw0_29.2; have h4 := (gi_c 1 1 (by decide)).2; omega) (by have h1 := gw0_29.1; have h2 := (gi_c 1 1 (by decide)).1; have h3 := gw0_29.2; have h4 := (gi_c 1 1 (by decide)).2; omega); rw [hc1] at h9; exact h9); have qgw0_29 := gw0_29.1; have rgw0_29 := gw0_29.2; have qgr_169 := g_172.1; have rgr_169 := g_172.2; have qgr_164 := g_167.1; have rgr_164 := g_167.2; have qgr_159 := g_162.1; have rgr_159 := g_162.2; have qgr_152 := g_155.1; have rgr_152 := g_155.2; have qgr_143 := g_150.1; have rgr_143 := g_150.2; have qgmi_29 := gmi_29.1; have rgmi_29 := gmi_29.2; have qgmi_26 := gmi_26.1; have rgmi_26 := gmi_26.2; have hz9 := Hid.un hf_173; omega⟩) gw0_29 (gi_w (gi_c 0 0 (by decide)) (by decide)) hinv0 (show w0_29.toInt ≤ x_174.toInt from by have qgx_174 := gx_174.1; have rgx_174 := gx_174.2; have igx_174 : x_174.toInt = w0_29.toInt + 1 := (by have hc1 : (1 : Int32).toInt = 1 := (by decide); have h9 := gi_addI ex_174 (by have h1 := gw0_29.1; have h2 := (gi_c 1 1 (by decide)).1; have h3 := gw0_29.2; have h4 := (gi_c 1 1 (by decide)).2; omega) (by have h1 := gw0_29.1; have h2 := (gi_c 1 1 (by decide)).1; have h3 := gw0_29.2; have h4 := (gi_c 1 1 (by decide)).2; omega); rw [hc1] at h9; exact h9); have qgw0_29 := gw0_29.1; have rgw0_29 := gw0_29.2; have qgr_169 := g_172.1; have rgr_169 := g_172.2; have qgr_164 := g_167.1; have rgr_164 := g_167.2; have qgr_159 := g_162.1; have rgr_159 := g_162.2; have qgr_152 := g_155.1; have rgr_152 := g_155.2; have qgr_143 := g_150.1; have rgr_143 := g_150.2; have qgmi_29 := gmi_29.1; have rgmi_29 := gmi_29.2; have qgmi_26 := gmi_26.1; have rgmi_26 := gmi_26.2; have hz9 := Hid.un hf_173; omega) (show x_174.toInt ≤ (mi 26).toInt from by have qgx_174 := gx_174.1; have rgx_174 := gx_174.2; have igx_174 : x_174.toInt = w0_29.toInt + 1 := (by have hc1 : (1 : Int32).toInt = 1 := (by decide); have h9 := gi_addI ex_174 (by have h1 := gw0_29.1; have h2 := (gi_c 1 1 (by decide)).1; have h3 := gw0_29.2; have h4 := (gi_c 1 1 (by decide)).2; omega) (by have h1 := gw0_29.1; have h2 := (gi_c 1 1 (by decide)).1; have h3 := gw0_29.2; have h4 := (gi_c 1 1 (by decide)).2; omega); rw [hc1] at h9; exact h9); have qgw0_29 := gw0_29.1; have rgw0_29 := gw0_29.2; have qgr_169 := g_172.1; have rgr_169 := g_172.2; have qgr_164 := g_167.1; have rgr_164 := g_167.2; have qgr_159 := g_162.1; have rgr_159 := g_162.2; have qgr_152 := g_155.1; have rgr_152 := g_155.2; have qgr_143 := g_150.1; have rgr_143 := g_150.2; have qgmi_29 := gmi_29.1; have rgmi_29 := gmi_29.2; have qgmi_26 := gmi_26.1; have rgmi_26 := gmi_26.2; have hz9 := Hid.un hf_173; omega) (show ((4 : Int32).toInt = 0 ∨ w0_29.toInt < x_174.toInt) from by have k4 : (4 : Int32).toInt = 4 := (by decide); have qgx_174 := gx_174.1; have rgx_174 := gx_174.2; have igx_174 : x_174.toInt = w0_29.toInt + 1 := (by have hc1 : (1 : Int32).toInt = 1 := (by decide); have h9 := gi_addI ex_174 (by have h1 := gw0_29.1; have h2 := (gi_c 1 1 (by decide)).1; have h3 := gw0_29.2; have h4 := (gi_c 1 1 (by decide)).2; omega) (by have h1 := gw0_29.1; have h2 := (gi_c 1 1 (by decide)).1; have h3 := gw0_29.2; have h4 := (gi_c 1 1 (by decide)).2; omega); rw [hc1] at h9; exact h9); have qgw0_29 := gw0_29.1; have rgw0_29 := gw0_29.2; have qgr_169 := g_172.1; have rgr_169 := g_172.2; have qgr_164 := g_167.1; have rgr_164 := g_167.2; have qgr_159 := g_162.1; have rgr_159 := g_162.2; have qgr_152 := g_155.1; have rgr_152 := g_155.2; have qgr_143 := g_150.1; have rgr_143 := g_150.2; have qgmi_29 := gmi_29.1; have rgmi_29 := gmi_29.2; have qgmi_26 := gmi_26.1; have rgmi_26 := gmi_26.2; have hz9 := Hid.un hf_173; omega) (by rw [ex_174]; exact hF) hP hD hS (lv_sub hl [] rfl)
                · have hF := gf_neg c_170 hF
                  have hc_175 : r_169.toInt ≠ 0 := fun h9 => c_170 (Int32.toInt_inj.mp (by rw [show (0 : Int32).toInt = 0 from by decide]; exact h9))
                  have g_176 : gi r_169 1 1 := gi_ne_lo c_170 gr_169 (gi_c 0 0 (by decide)) (by decide)
                  have hf_177 : (w0_29.toInt < (mi 26).toInt ∧ (59 : Int) ≤ (fm_tape w0_29.toNatClampNeg).toInt ∧ (fm_tape w0_29.toNatClampNeg).toInt ≤ (59 : Int)) := (Hid.un hqr_169).1 (gz_one g_176) 
                  refine lv_iconst (v := 3) hx hb dX12_next_188 (by decide) ?_
                  refine lv_goto (tgt := 193) hx hb dX12_next_189 (by decide) ?_
                  refine va_put (D := (dC, dI)) (ci := 12) (v := .int 3) (ty := .int) (C := RX12) (T := TX12) (N := 57) hx hb hts (fun w h => List.mem_cons_of_mem _ (jnGB_X12 w h)) tyX12 tyX12_ok nmX12 hown hK hP hD hS 0 rfl rfl 31 (by decide) (hts _ (List.mem_cons_of_mem _ mGB_116)) (fun _ h9 => h9) rfl (by decide +kernel) rfl rfl (Nat.le_of_ble_eq_true rfl) dX12_next_193 (fun H locs hP hD hS => ?_)
                  have hP : va_P (dC, dI) vwCl [(h0, .inr (12, fsMM (upd (upd (upd (upd mi 29 w0_29) 30 w0_29) 31 3) 32 0) mr)), ((mr 13), .inl (km_tape, 1600, .inl fm_tape))] H := hP
                  have hD : va_D A [(h0, .inr (12, fsMM (upd (upd (upd (upd mi 29 w0_29) 30 w0_29) 31 3) 32 0) mr)), ((mr 13), .inl (km_tape, 1600, .inl fm_tape))] := hD
                  refine lv_aload_n hx hb dX12_next_196 rfl (lv_at hl 0 rfl) ?_
                  refine lv_dup hx hb dX12_next_197 rfl ?_
                  refine va_get (D := (dC, dI)) (ci := 12) (v := .int w0_29) (C := RX12) (T := TX12) (N := 57) hx hb hts (fun w h => List.mem_cons_of_mem _ (jnGB_X12 w h)) hown hK hP 0 rfl rfl 29 (by decide) (hts _ (List.mem_cons_of_mem _ mGB_113)) (fun _ h9 => h9) rfl dX12_next_198 ?_
                  refine lv_iconst (v := 1) hx hb dX12_next_201 (by decide) ?_
                  refine lv_iadd hx hb dX12_next_202 ?_
                  refine lv_topi (fun x_178 ex_178 => ?_)
                  have gx_178 : gi x_178 1 1601 := gi_add ex_178 gw0_29 (gi_c 1 1 (by decide)) (by decide)
                  refine va_put (D := (dC, dI)) (ci := 12) (v := .int x_178) (ty := .int) (C := RX12) (T := TX12) (N := 57) hx hb hts (fun w h => List.mem_cons_of_mem _ (jnGB_X12 w h)) tyX12 tyX12_ok nmX12 hown hK hP hD hS 0 rfl rfl 29 (by decide) (hts _ (List.mem_cons_of_mem _ mGB_113)) (fun _ h9 => h9) rfl (by decide +kernel) rfl rfl (Nat.le_of_ble_eq_true rfl) dX12_next_203 (fun H locs hP hD hS => ?_)
                  have hP : va_P (dC, dI) vwCl [(h0, .inr (12, fsMM (upd (upd (upd (upd mi 29 x_178) 30 w0_29) 31 3) 32 0) mr)), ((mr 13), .inl (km_tape, 1600, .inl fm_tape))] H := hP
                  have hD : va_D A [(h0, .inr (12, fsMM (upd (upd (upd (upd mi 29 x_178) 30 w0_29) 31 3) 32 0) mr)), ((mr 13), .inl (km_tape, 1600, .inl fm_tape))] := hD
                  exact kr206 x_178 w0_29 3 0 _ _ _ (show gi x_178 0 1600 from ⟨by have qgx_178 := gx_178.1; have rgx_178 := gx_178.2; have igx_178 : x_178.toInt = w0_29.toInt + 1 := (by have hc1 : (1 : Int32).toInt = 1 := (by decide); have h9 := gi_addI ex_178 (by have h1 := gw0_29.1; have h2 := (gi_c 1 1 (by decide)).1; have h3 := gw0_29.2; have h4 := (gi_c 1 1 (by decide)).2; omega) (by have h1 := gw0_29.1; have h2 := (gi_c 1 1 (by decide)).1; have h3 := gw0_29.2; have h4 := (gi_c 1 1 (by decide)).2; omega); rw [hc1] at h9; exact h9); have qgw0_29 := gw0_29.1; have rgw0_29 := gw0_29.2; have qgr_169 := g_176.1; have rgr_169 := g_176.2; have qgr_164 := g_167.1; have rgr_164 := g_167.2; have qgr_159 := g_162.1; have rgr_159 := g_162.2; have qgr_152 := g_155.1; have rgr_152 := g_155.2; have qgr_143 := g_150.1; have rgr_143 := g_150.2; have qgmi_29 := gmi_29.1; have rgmi_29 := gmi_29.2; have qgmi_26 := gmi_26.1; have rgmi_26 := gmi_26.2; have hz9 := Hid.un hf_168; omega, by have qgx_178 := gx_178.1; have rgx_178 := gx_178.2; have igx_178 : x_178.toInt = w0_29.toInt + 1 := (by have hc1 : (1 : Int32).toInt = 1 := (by decide); have h9 := gi_addI ex_178 (by have h1 := gw0_29.1; have h2 := (gi_c 1 1 (by decide)).1; have h3 := gw0_29.2; have h4 := (gi_c 1 1 (by decide)).2; omega) (by have h1 := gw0_29.1; have h2 := (gi_c 1 1 (by decide)).1; have h3 := gw0_29.2; have h4 := (gi_c 1 1 (by decide)).2; omega); rw [hc1] at h9; exact h9); have qgw0_29 := gw0_29.1; have rgw0_29 := gw0_29.2; have qgr_169 := g_176.1; have rgr_169 := g_176.2; have qgr_164 := g_167.1; have rgr_164 := g_167.2; have qgr_159 := g_162.1; have rgr_159 := g_162.2; have qgr_152 := g_155.1; have rgr_152 := g_155.2; have qgr_143 := g_150.1; have rgr_143 := g_150.2; have qgmi_29 := gmi_29.1; have rgmi_29 := gmi_29.2; have qgmi_26 := gmi_26.1; have rgmi_26 := gmi_26.2; have hz9 := Hid.un hf_168; omega⟩) gw0_29 (gi_w (gi_c 0 0 (by decide)) (by decide)) hinv0 (show w0_29.toInt ≤ x_178.toInt from by have qgx_178 := gx_178.1; have rgx_178 := gx_178.2; have igx_178 : x_178.toInt = w0_29.toInt + 1 := (by have hc1 : (1 : Int32).toInt = 1 := (by decide); have h9 := gi_addI ex_178 (by have h1 := gw0_29.1; have h2 := (gi_c 1 1 (by decide)).1; have h3 := gw0_29.2; have h4 := (gi_c 1 1 (by decide)).2; omega) (by have h1 := gw0_29.1; have h2 := (gi_c 1 1 (by decide)).1; have h3 := gw0_29.2; have h4 := (gi_c 1 1 (by decide)).2; omega); rw [hc1] at h9; exact h9); have qgw0_29 := gw0_29.1; have rgw0_29 := gw0_29.2; have qgr_169 := g_176.1; have rgr_169 := g_176.2; have qgr_164 := g_167.1; have rgr_164 := g_167.2; have qgr_159 := g_162.1; have rgr_159 := g_162.2; have qgr_152 := g_155.1; have rgr_152 := g_155.2; have qgr_143 := g_150.1; have rgr_143 := g_150.2; have qgmi_29 := gmi_29.1; have rgmi_29 := gmi_29.2; have qgmi_26 := gmi_26.1; have rgmi_26 := gmi_26.2; have hz9 := Hid.un hf_168; omega) (show x_178.toInt ≤ (mi 26).toInt from by have qgx_178 := gx_178.1; have rgx_178 := gx_178.2; have igx_178 : x_178.toInt = w0_29.toInt + 1 := (by have hc1 : (1 : Int32).toInt = 1 := (by decide); have h9 := gi_addI ex_178 (by have h1 := gw0_29.1; have h2 := (gi_c 1 1 (by decide)).1; have h3 := gw0_29.2; have h4 := (gi_c 1 1 (by decide)).2; omega) (by have h1 := gw0_29.1; have h2 := (gi_c 1 1 (by decide)).1; have h3 := gw0_29.2; have h4 := (gi_c 1 1 (by decide)).2; omega); rw [hc1] at h9; exact h9); have qgw0_29 := gw0_29.1; have rgw0_29 := gw0_29.2; have qgr_169 := g_176.1; have rgr_169 := g_176.2; have qgr_164 := g_167.1; have rgr_164 := g_167.2; have qgr_159 := g_162.1; have rgr_159 := g_162.2; have qgr_152 := g_155.1; have rgr_152 := g_155.2; have qgr_143 := g_150.1; have rgr_143 := g_150.2; have qgmi_29 := gmi_29.1; have rgmi_29 := gmi_29.2; have qgmi_26 := gmi_26.1; have rgmi_26 := gmi_26.2; have hz9 := Hid.un hf_168; omega) (show ((3 : Int32).toInt = 0 ∨ w0_29.toInt < x_178.toInt) from by have k3 : (3 : Int32).toInt = 3 := (by decide); have qgx_178 := gx_178.1; have rgx_178 := gx_178.2; have igx_178 : x_178.toInt = w0_29.toInt + 1 := (by have hc1 : (1 : Int32).toInt = 1 := (by decide); have h9 := gi_addI ex_178 (by have h1 := gw0_29.1; have h2 := (gi_c 1 1 (by decide)).1; have h3 := gw0_29.2; have h4 := (gi_c 1 1 (by decide)).2; omega) (by have h1 := gw0_29.1; have h2 := (gi_c 1 1 (by decide)).1; have h3 := gw0_29.2; have h4 := (gi_c 1 1 (by decide)).2; omega); rw [hc1] at h9; exact h9); have qgw0_29 := gw0_29.1; have rgw0_29 := gw0_29.2; have qgr_169 := g_176.1; have rgr_169 := g_176.2; have qgr_164 := g_167.1; have rgr_164 := g_167.2; have qgr_159 := g_162.1; have rgr_159 := g_162.2; have qgr_152 := g_155.1; have rgr_152 := g_155.2; have qgr_143 := g_150.1; have rgr_143 := g_150.2; have qgmi_29 := gmi_29.1; have rgmi_29 := gmi_29.2; have qgmi_26 := gmi_26.1; have rgmi_26 := gmi_26.2; have hz9 := Hid.un hf_168; omega) (by rw [ex_178]; exact hF) hP hD hS (lv_sub hl [] rfl)
              · have hF := gf_neg c_165 hF
                have hc_179 : r_164.toInt ≠ 0 := fun h9 => c_165 (Int32.toInt_inj.mp (by rw [show (0 : Int32).toInt = 0 from by decide]; exact h9))
                have g_180 : gi r_164 1 1 := gi_ne_lo c_165 gr_164 (gi_c 0 0 (by decide)) (by decide)
                have hf_181 : (w0_29.toInt < (mi 26).toInt ∧ (48 : Int) ≤ (fm_tape w0_29.toNatClampNeg).toInt ∧ (fm_tape w0_29.toNatClampNeg).toInt ≤ (57 : Int)) := (Hid.un hqr_164).1 (gz_one g_180) 
                refine lv_aload_n hx hb dX12_next_118 rfl (lv_at hl 0 rfl) ?_
                refine lv_iconst (v := 2) hx hb dX12_next_119 (by decide) ?_
                refine va_put (D := (dC, dI)) (ci := 12) (v := .int 2) (ty := .int) (C := RX12) (T := TX12) (N := 57) hx hb hts (fun w h => List.mem_cons_of_mem _ (jnGB_X12 w h)) tyX12 tyX12_ok nmX12 hown hK hP hD hS 0 rfl rfl 31 (by decide) (hts _ (List.mem_cons_of_mem _ mGB_116)) (fun _ h9 => h9) rfl (by decide +kernel) rfl rfl (Nat.le_of_ble_eq_true rfl) dX12_next_120 (fun H locs hP hD hS => ?_)
                have hP : va_P (dC, dI) vwCl [(h0, .inr (12, fsMM (upd (upd (upd (upd mi 29 w0_29) 30 w0_29) 31 2) 32 0) mr)), ((mr 13), .inl (km_tape, 1600, .inl fm_tape))] H := hP
                have hD : va_D A [(h0, .inr (12, fsMM (upd (upd (upd (upd mi 29 w0_29) 30 w0_29) 31 2) 32 0) mr)), ((mr 13), .inl (km_tape, 1600, .inl fm_tape))] := hD
                exact ih.2.2 w0_29 w0_29 2 0 _ _ _ gw0_29 gw0_29 (gi_w (gi_c 0 0 (by decide)) (by decide)) hinv0 (show w0_29.toInt ≤ w0_29.toInt from by have qgw0_29 := gw0_29.1; have rgw0_29 := gw0_29.2; have qgr_164 := g_180.1; have rgr_164 := g_180.2; have qgr_159 := g_162.1; have rgr_159 := g_162.2; have qgr_152 := g_155.1; have rgr_152 := g_155.2; have qgr_143 := g_150.1; have rgr_143 := g_150.2; have qgmi_29 := gmi_29.1; have rgmi_29 := gmi_29.2; have qgmi_26 := gmi_26.1; have rgmi_26 := gmi_26.2; have hz9 := Hid.un hf_163; omega) hinv1 (show (w0_29.toInt < w0_29.toInt ∨ (w0_29.toInt < (mi 26).toInt ∧ 48 ≤ (fm_tape w0_29.toNatClampNeg).toInt ∧ (fm_tape w0_29.toNatClampNeg).toInt ≤ 57)) from by have qgw0_29 := gw0_29.1; have rgw0_29 := gw0_29.2; have qgr_164 := g_180.1; have rgr_164 := g_180.2; have qgr_159 := g_162.1; have rgr_159 := g_162.2; have qgr_152 := g_155.1; have rgr_152 := g_155.2; have qgr_143 := g_150.1; have rgr_143 := g_150.2; have qgmi_29 := gmi_29.1; have rgmi_29 := gmi_29.2; have qgmi_26 := gmi_26.1; have rgmi_26 := gmi_26.2; have hz9 := Hid.un hf_163; omega) hF (by have aw0_29 := gw0_29.1; have bw0_29 := gw0_29.2; have qgw0_29 := gw0_29.1; have rgw0_29 := gw0_29.2; omega) hP hD hS (lv_sub hl [0] rfl)
            · have hF := gf_neg c_160 hF
              have hc_182 : r_159.toInt ≠ 0 := fun h9 => c_160 (Int32.toInt_inj.mp (by rw [show (0 : Int32).toInt = 0 from by decide]; exact h9))
              have g_183 : gi r_159 1 1 := gi_ne_lo c_160 gr_159 (gi_c 0 0 (by decide)) (by decide)
              have hf_184 : (w0_29.toInt < (mi 26).toInt ∧ (97 : Int) ≤ (fm_tape w0_29.toNatClampNeg).toInt ∧ (fm_tape w0_29.toNatClampNeg).toInt ≤ (122 : Int)) := (Hid.un hqr_159).1 (gz_one g_183) 
              refine lv_aload_n hx hb dX12_next_78 rfl (lv_at hl 0 rfl) ?_
              refine lv_iconst (v := 1) hx hb dX12_next_79 (by decide) ?_
              refine va_put (D := (dC, dI)) (ci := 12) (v := .int 1) (ty := .int) (C := RX12) (T := TX12) (N := 57) hx hb hts (fun w h => List.mem_cons_of_mem _ (jnGB_X12 w h)) tyX12 tyX12_ok nmX12 hown hK hP hD hS 0 rfl rfl 31 (by decide) (hts _ (List.mem_cons_of_mem _ mGB_116)) (fun _ h9 => h9) rfl (by decide +kernel) rfl rfl (Nat.le_of_ble_eq_true rfl) dX12_next_80 (fun H locs hP hD hS => ?_)
              have hP : va_P (dC, dI) vwCl [(h0, .inr (12, fsMM (upd (upd (upd (upd mi 29 w0_29) 30 w0_29) 31 1) 32 0) mr)), ((mr 13), .inl (km_tape, 1600, .inl fm_tape))] H := hP
              have hD : va_D A [(h0, .inr (12, fsMM (upd (upd (upd (upd mi 29 w0_29) 30 w0_29) 31 1) 32 0) mr)), ((mr 13), .inl (km_tape, 1600, .inl fm_tape))] := hD
              exact ih.2.1 w0_29 w0_29 1 0 _ _ _ gw0_29 gw0_29 (gi_w (gi_c 0 0 (by decide)) (by decide)) hinv0 (show w0_29.toInt ≤ w0_29.toInt from by have qgw0_29 := gw0_29.1; have rgw0_29 := gw0_29.2; have qgr_159 := g_183.1; have rgr_159 := g_183.2; have qgr_152 := g_155.1; have rgr_152 := g_155.2; have qgr_143 := g_150.1; have rgr_143 := g_150.2; have qgmi_29 := gmi_29.1; have rgmi_29 := gmi_29.2; have qgmi_26 := gmi_26.1; have rgmi_26 := gmi_26.2; have hz9 := Hid.un hf_156; omega) hinv1 (show (w0_29.toInt < w0_29.toInt ∨ (w0_29.toInt < (mi 26).toInt ∧ 97 ≤ (fm_tape w0_29.toNatClampNeg).toInt ∧ (fm_tape w0_29.toNatClampNeg).toInt ≤ 122)) from by have qgw0_29 := gw0_29.1; have rgw0_29 := gw0_29.2; have qgr_159 := g_183.1; have rgr_159 := g_183.2; have qgr_152 := g_155.1; have rgr_152 := g_155.2; have qgr_143 := g_150.1; have rgr_143 := g_150.2; have qgmi_29 := gmi_29.1; have rgmi_29 := gmi_29.2; have qgmi_26 := gmi_26.1; have rgmi_26 := gmi_26.2; have hz9 := Hid.un hf_156; omega) hF (by have aw0_29 := gw0_29.1; have bw0_29 := gw0_29.2; have qgw0_29 := gw0_29.1; have rgw0_29 := gw0_29.2; omega) hP hD hS (lv_sub hl [0] rfl)
          · have hF := gf_pos c_157 hF
            have hc_185 : w0_29.toInt = (mi 26).toInt := by have h9 := congrArg Int32.toInt c_157; exact h9
            refine lv_aload_n hx hb dX12_next_59 rfl (lv_at hl 0 rfl) ?_
            refine lv_iconst (v := 0) hx hb dX12_next_60 (by decide) ?_
            refine va_put (D := (dC, dI)) (ci := 12) (v := .int 0) (ty := .int) (C := RX12) (T := TX12) (N := 57) hx hb hts (fun w h => List.mem_cons_of_mem _ (jnGB_X12 w h)) tyX12 tyX12_ok nmX12 hown hK hP hD hS 0 rfl rfl 31 (by decide) (hts _ (List.mem_cons_of_mem _ mGB_116)) (fun _ h9 => h9) rfl (by decide +kernel) rfl rfl (Nat.le_of_ble_eq_true rfl) dX12_next_61 (fun H locs hP hD hS => ?_)
            have hP : va_P (dC, dI) vwCl [(h0, .inr (12, fsMM (upd (upd (upd (upd mi 29 w0_29) 30 w0_29) 31 0) 32 0) mr)), ((mr 13), .inl (km_tape, 1600, .inl fm_tape))] H := hP
            have hD : va_D A [(h0, .inr (12, fsMM (upd (upd (upd (upd mi 29 w0_29) 30 w0_29) 31 0) 32 0) mr)), ((mr 13), .inl (km_tape, 1600, .inl fm_tape))] := hD
            refine lv_goto (tgt := 206) hx hb dX12_next_64 (by decide) ?_
            exact kr206 w0_29 w0_29 0 0 _ _ _ gw0_29 gw0_29 (gi_w (gi_c 0 0 (by decide)) (by decide)) hinv0 (show w0_29.toInt ≤ w0_29.toInt from by have qgw0_29 := gw0_29.1; have rgw0_29 := gw0_29.2; have qgr_152 := g_155.1; have rgr_152 := g_155.2; have qgr_143 := g_150.1; have rgr_143 := g_150.2; have qgmi_29 := gmi_29.1; have rgmi_29 := gmi_29.2; have qgmi_26 := gmi_26.1; have rgmi_26 := gmi_26.2; have hz9 := Hid.un hf_156; omega) hinv1 (show ((0 : Int32).toInt = 0 ∨ w0_29.toInt < w0_29.toInt) from by have k0 : (0 : Int32).toInt = 0 := (by decide); have qgw0_29 := gw0_29.1; have rgw0_29 := gw0_29.2; have qgr_152 := g_155.1; have rgr_152 := g_155.2; have qgr_143 := g_150.1; have rgr_143 := g_150.2; have qgmi_29 := gmi_29.1; have rgmi_29 := gmi_29.2; have qgmi_26 := gmi_26.1; have rgmi_26 := gmi_26.2; have hz9 := Hid.un hf_156; omega) hF hP hD hS (lv_sub hl [] rfl)
        · have hF := gf_neg c_153 hF
          have hc_186 : r_152.toInt ≠ 0 := fun h9 => c_153 (Int32.toInt_inj.mp (by rw [show (0 : Int32).toInt = 0 from by decide]; exact h9))
          have g_187 : gi r_152 1 1 := gi_ne_lo c_153 gr_152 (gi_c 0 0 (by decide)) (by decide)
          have hf_188 : (w0_29.toInt < (mi 26).toInt ∧ (10 : Int) ≤ (fm_tape w0_29.toNatClampNeg).toInt ∧ (fm_tape w0_29.toNatClampNeg).toInt ≤ (10 : Int)) := (Hid.un hqr_152).1 (gz_one g_187) 
          refine lv_aload_n hx hb dX12_next_22 rfl (lv_at hl 0 rfl) ?_
          refine lv_dup hx hb dX12_next_23 rfl ?_
          refine va_get (D := (dC, dI)) (ci := 12) (v := .int w0_29) (C := RX12) (T := TX12) (N := 57) hx hb hts (fun w h => List.mem_cons_of_mem _ (jnGB_X12 w h)) hown hK hP 0 rfl rfl 29 (by decide) (hts _ (List.mem_cons_of_mem _ mGB_113)) (fun _ h9 => h9) rfl dX12_next_24 ?_
          refine lv_iconst (v := 1) hx hb dX12_next_27 (by decide) ?_
          refine lv_iadd hx hb dX12_next_28 ?_
          refine lv_topi (fun x_189 ex_189 => ?_)
          have gx_189 : gi x_189 1 1601 := gi_add ex_189 gw0_29 (gi_c 1 1 (by decide)) (by decide)
          refine va_put (D := (dC, dI)) (ci := 12) (v := .int x_189) (ty := .int) (C := RX12) (T := TX12) (N := 57) hx hb hts (fun w h => List.mem_cons_of_mem _ (jnGB_X12 w h)) tyX12 tyX12_ok nmX12 hown hK hP hD hS 0 rfl rfl 29 (by decide) (hts _ (List.mem_cons_of_mem _ mGB_113)) (fun _ h9 => h9) rfl (by decide +kernel) rfl rfl (Nat.le_of_ble_eq_true rfl) dX12_next_29 (fun H locs hP hD hS => ?_)
          have hP : va_P (dC, dI) vwCl [(h0, .inr (12, fsMM (upd mi 29 x_189) mr)), ((mr 13), .inl (km_tape, 1600, .inl fm_tape))] H := hP
          have hD : va_D A [(h0, .inr (12, fsMM (upd mi 29 x_189) mr)), ((mr 13), .inl (km_tape, 1600, .inl fm_tape))] := hD
          refine lv_goto (tgt := 0) hx hb dX12_next_32 (by decide) ?_
          exact ih.1 x_189 _ _ _ (show gi x_189 0 1600 from ⟨by have qgx_189 := gx_189.1; have rgx_189 := gx_189.2; have igx_189 : x_189.toInt = w0_29.toInt + 1 := (by have hc1 : (1 : Int32).toInt = 1 := (by decide); have h9 := gi_addI ex_189 (by have h1 := gw0_29.1; have h2 := (gi_c 1 1 (by decide)).1; have h3 := gw0_29.2; have h4 := (gi_c 1 1 (by decide)).2; omega) (by have h1 := gw0_29.1; have h2 := (gi_c 1 1 (by decide)).1; have h3 := gw0_29.2; have h4 := (gi_c 1 1 (by decide)).2; omega); rw [hc1] at h9; exact h9); have qgw0_29 := gw0_29.1; have rgw0_29 := gw0_29.2; have qgr_152 := g_187.1; have rgr_152 := g_187.2; have qgr_143 := g_150.1; have rgr_143 := g_150.2; have qgmi_29 := gmi_29.1; have rgmi_29 := gmi_29.2; have qgmi_26 := gmi_26.1; have rgmi_26 := gmi_26.2; have hz9 := Hid.un hf_151; omega, by have qgx_189 := gx_189.1; have rgx_189 := gx_189.2; have igx_189 : x_189.toInt = w0_29.toInt + 1 := (by have hc1 : (1 : Int32).toInt = 1 := (by decide); have h9 := gi_addI ex_189 (by have h1 := gw0_29.1; have h2 := (gi_c 1 1 (by decide)).1; have h3 := gw0_29.2; have h4 := (gi_c 1 1 (by decide)).2; omega) (by have h1 := gw0_29.1; have h2 := (gi_c 1 1 (by decide)).1; have h3 := gw0_29.2; have h4 := (gi_c 1 1 (by decide)).2; omega); rw [hc1] at h9; exact h9); have qgw0_29 := gw0_29.1; have rgw0_29 := gw0_29.2; have qgr_152 := g_187.1; have rgr_152 := g_187.2; have qgr_143 := g_150.1; have rgr_143 := g_150.2; have qgmi_29 := gmi_29.1; have rgmi_29 := gmi_29.2; have qgmi_26 := gmi_26.1; have rgmi_26 := gmi_26.2; have hz9 := Hid.un hf_151; omega⟩) (show (mi 29).toInt ≤ x_189.toInt from by have qgx_189 := gx_189.1; have rgx_189 := gx_189.2; have igx_189 : x_189.toInt = w0_29.toInt + 1 := (by have hc1 : (1 : Int32).toInt = 1 := (by decide); have h9 := gi_addI ex_189 (by have h1 := gw0_29.1; have h2 := (gi_c 1 1 (by decide)).1; have h3 := gw0_29.2; have h4 := (gi_c 1 1 (by decide)).2; omega) (by have h1 := gw0_29.1; have h2 := (gi_c 1 1 (by decide)).1; have h3 := gw0_29.2; have h4 := (gi_c 1 1 (by decide)).2; omega); rw [hc1] at h9; exact h9); have qgw0_29 := gw0_29.1; have rgw0_29 := gw0_29.2; have qgr_152 := g_187.1; have rgr_152 := g_187.2; have qgr_143 := g_150.1; have rgr_143 := g_150.2; have qgmi_29 := gmi_29.1; have rgmi_29 := gmi_29.2; have qgmi_26 := gmi_26.1; have rgmi_26 := gmi_26.2; have hz9 := Hid.un hf_151; omega) (show x_189.toInt ≤ (mi 26).toInt from by have qgx_189 := gx_189.1; have rgx_189 := gx_189.2; have igx_189 : x_189.toInt = w0_29.toInt + 1 := (by have hc1 : (1 : Int32).toInt = 1 := (by decide); have h9 := gi_addI ex_189 (by have h1 := gw0_29.1; have h2 := (gi_c 1 1 (by decide)).1; have h3 := gw0_29.2; have h4 := (gi_c 1 1 (by decide)).2; omega) (by have h1 := gw0_29.1; have h2 := (gi_c 1 1 (by decide)).1; have h3 := gw0_29.2; have h4 := (gi_c 1 1 (by decide)).2; omega); rw [hc1] at h9; exact h9); have qgw0_29 := gw0_29.1; have rgw0_29 := gw0_29.2; have qgr_152 := g_187.1; have rgr_152 := g_187.2; have qgr_143 := g_150.1; have rgr_143 := g_150.2; have qgmi_29 := gmi_29.1; have rgmi_29 := gmi_29.2; have qgmi_26 := gmi_26.1; have rgmi_26 := gmi_26.2; have hz9 := Hid.un hf_151; omega) (by rw [ex_189]; exact hF) (by have aw0_29 := gw0_29.1; have bw0_29 := gw0_29.2; have qgx_189 := gx_189.1; have rgx_189 := gx_189.2; have igx_189 : x_189.toInt = w0_29.toInt + 1 := (by have hc1 : (1 : Int32).toInt = 1 := (by decide); have h9 := gi_addI ex_189 (by have h1 := gw0_29.1; have h2 := (gi_c 1 1 (by decide)).1; have h3 := gw0_29.2; have h4 := (gi_c 1 1 (by decide)).2; omega) (by have h1 := gw0_29.1; have h2 := (gi_c 1 1 (by decide)).1; have h3 := gw0_29.2; have h4 := (gi_c 1 1 (by decide)).2; omega); rw [hc1] at h9; exact h9); have qgw0_29 := gw0_29.1; have rgw0_29 := gw0_29.2; omega) hP hD hS (lv_sub hl [0] rfl)
    · intro w0_29 w0_30 w0_31 w0_32 H locs ls gw0_29 gw0_30 gw0_32 hinv0 hinv1 hinv2 hinv3 hF hmu hP hD hS hl
      have hF : dfX12_next_83 mi fm_tape (lfX12_next mi fm_tape z) w0_29 w0_30 w0_31 w0_32 = RES := hF
      refine lv_aload_n hx hb dX12_next_83 rfl (lv_at hl 0 rfl) ?_
      refine lv_bipush (v := 97) hx hb dX12_next_84 (by decide) ?_
      refine lv_bipush (v := 122) hx hb dX12_next_86 (by decide) ?_
      have hPc := hP.sub (ws' := [(h0, .inr (12, fsMM (upd (upd (upd (upd mi 29 w0_29) 30 w0_30) 31 w0_31) 32 w0_32) mr)), ((mr 13), .inl (km_tape, 1600, .inl fm_tape))]) [0, 1] rfl
      have hKc := hK.sub (tys' := [(km_tape, .int)]) [0] rfl
      refine va_calli (va_runV (As := [.int 97, .int 122]) (rest := []) ⟨hx, hb, hml, hown, hts⟩ (sX12_isAtP l dC dI h0 (upd (upd (upd (upd mi 29 w0_29) 30 w0_30) 31 w0_31) 32 w0_32) mr km_tape fm_tape 97 122 gmi_0 gmi_1 gmi_2 gmi_4 gmi_7 gmi_10 gmi_17 gmi_23 gmi_24 gmi_26 gw0_29 gw0_30 gw0_32 gmi_33 gmi_37 gmi_41 gmi_50 gmi_51 gmi_56) (cwV 2 hts (gz_gV mGB_139 mGB_140 mGB_141 mGB_1 mGB_142 goodGB) rfl rfl rfl (by decide +kernel) ⟨Nat.le_trans (Nat.le_of_ble_eq_true rfl) hRf, Nat.le_trans (Nat.le_of_ble_eq_true rfl) hRl⟩) ⟨fun a U g mk q => by obtain ⟨q0, qP, qK⟩ := q; exact ⟨q0, qP, va_K.moved (u := U) (U := U.calling g mk a) (Vm.Alike.refl U.vm) qK⟩, va_recv hKc hPc (ci := 12) (q0 := 0) rfl rfl, fun U hU hW => ⟨rfl, by rw [hU]; exact hPc, va_K.moved hW.alike hKc⟩⟩ rfl rfl hl.1 rfl (lv_room (Nat.le_of_ble_eq_true rfl)) dX12_next_88 ⟨hRc, hRs⟩) hS (fun q _ h => h.elim) (fun q h => h.elim) (fun r_190 u t H1 locs ht hvm hw hB hz1 hk1 hS => ?_)
      obtain ⟨hw, hE⟩ := hw
      have hP := gz_keep hP hk1
      have hF := gf_callm (a := r_190) hE hF (by first | with_reducible rfl | simp only [upd_same, upd_app, ↓reduceIte, Nat.reduceEqDiff])
      generalize H1 = H at hP hS ⊢
      have gr_190 : gi r_190 0 1 := hw.1
      have hqr_190 : Hid ((r_190.toInt = 1 → (w0_29.toInt < (mi 26).toInt ∧ (97 : Int) ≤ (fm_tape w0_29.toNatClampNeg).toInt ∧ (fm_tape w0_29.toNatClampNeg).toInt ≤ (122 : Int))) ∧ (r_190.toInt = 0 → ((mi 26).toInt ≤ w0_29.toInt ∨ (fm_tape w0_29.toNatClampNeg).toInt < (97 : Int) ∨ (122 : Int) < (fm_tape w0_29.toNatClampNeg).toInt))) := by have h9 : (r_190.toInt = 1 → (w0_29.toInt < (mi 26).toInt ∧ (97 : Int32).toInt ≤ (fm_tape w0_29.toNatClampNeg).toInt ∧ (fm_tape w0_29.toNatClampNeg).toInt ≤ (122 : Int32).toInt)) ∧ (r_190.toInt = 0 → ((mi 26).toInt ≤ w0_29.toInt ∨ (fm_tape w0_29.toNatClampNeg).toInt < (97 : Int32).toInt ∨ (122 : Int32).toInt < (fm_tape w0_29.toNatClampNeg).toInt)) := hw.2; rw [show (122 : Int32).toInt = 122 from by decide] at h9; rw [show (97 : Int32).toInt = 97 from by decide] at h9; exact h9
      clear hw
      refine lv_if_eq (tgt := 206) hx hb dX12_next_91 (by decide) (fun c_191 => ?_) (fun c_191 => ?_)
      · have hF := gf_pos c_191 hF
        have hc_192 : r_190.toInt = 0 := by have h9 := congrArg Int32.toInt c_191; rw [show (0 : Int32).toInt = 0 from by decide] at h9; exact h9
        have g_193 : gi r_190 0 0 := gi_eq c_191 (gi_c 0 0 (by decide))
        have hf_194 : Hid (((mi 26).toInt ≤ w0_29.toInt ∨ (fm_tape w0_29.toNatClampNeg).toInt < (97 : Int) ∨ (122 : Int) < (fm_tape w0_29.toNatClampNeg).toInt)) := (Hid.un hqr_190).2 (gz_zero1 g_193) 
        exact kr206 w0_29 w0_30 w0_31 w0_32 _ _ _ gw0_29 gw0_30 gw0_32 hinv0 hinv1 hinv2 (show (w0_31.toInt = 0 ∨ w0_30.toInt < w0_29.toInt) from by have qgw0_30 := gw0_30.1; have rgw0_30 := gw0_30.2; have qgw0_29 := gw0_29.1; have rgw0_29 := gw0_29.2; have qgr_190 := g_193.1; have rgr_190 := g_193.2; have qgmi_29 := gmi_29.1; have rgmi_29 := gmi_29.2; have qgmi_26 := gmi_26.1; have rgmi_26 := gmi_26.2; have hz9 := Hid.un hf_194; omega) hF hP hD hS (lv_sub hl [] rfl)
      · have hF := gf_neg c_191 hF
        have hc_195 : r_190.toInt ≠ 0 := fun h9 => c_191 (Int32.toInt_inj.mp (by rw [show (0 : Int32).toInt = 0 from by decide]; exact h9))
        have g_196 : gi r_190 1 1 := gi_ne_lo c_191 gr_190 (gi_c 0 0 (by decide)) (by decide)
        have hf_197 : (w0_29.toInt < (mi 26).toInt ∧ (97 : Int) ≤ (fm_tape w0_29.toNatClampNeg).toInt ∧ (fm_tape w0_29.toNatClampNeg).toInt ≤ (122 : Int)) := (Hid.un hqr_190).1 (gz_one g_196) 
        refine lv_aload_n hx hb dX12_next_94 rfl (lv_at hl 0 rfl) ?_
        refine lv_dup hx hb dX12_next_95 rfl ?_
        refine va_get (D := (dC, dI)) (ci := 12) (v := .int w0_29) (C := RX12) (T := TX12) (N := 57) hx hb hts (fun w h => List.mem_cons_of_mem _ (jnGB_X12 w h)) hown hK hP 0 rfl rfl 29 (by decide) (hts _ (List.mem_cons_of_mem _ mGB_113)) (fun _ h9 => h9) rfl dX12_next_96 ?_
        refine lv_iconst (v := 1) hx hb dX12_next_99 (by decide) ?_
        refine lv_iadd hx hb dX12_next_100 ?_
        refine lv_topi (fun x_198 ex_198 => ?_)
        have gx_198 : gi x_198 1 1601 := gi_add ex_198 gw0_29 (gi_c 1 1 (by decide)) (by decide)
        refine va_put (D := (dC, dI)) (ci := 12) (v := .int x_198) (ty := .int) (C := RX12) (T := TX12) (N := 57) hx hb hts (fun w h => List.mem_cons_of_mem _ (jnGB_X12 w h)) tyX12 tyX12_ok nmX12 hown hK hP hD hS 0 rfl rfl 29 (by decide) (hts _ (List.mem_cons_of_mem _ mGB_113)) (fun _ h9 => h9) rfl (by decide +kernel) rfl rfl (Nat.le_of_ble_eq_true rfl) dX12_next_101 (fun H locs hP hD hS => ?_)
        have hP : va_P (dC, dI) vwCl [(h0, .inr (12, fsMM (upd (upd (upd (upd mi 29 x_198) 30 w0_30) 31 w0_31) 32 w0_32) mr)), ((mr 13), .inl (km_tape, 1600, .inl fm_tape))] H := hP
        have hD : va_D A [(h0, .inr (12, fsMM (upd (upd (upd (upd mi 29 x_198) 30 w0_30) 31 w0_31) 32 w0_32) mr)), ((mr 13), .inl (km_tape, 1600, .inl fm_tape))] := hD
        refine lv_goto (tgt := 83) hx hb dX12_next_104 (by decide) ?_
        exact ih.2.1 x_198 w0_30 w0_31 w0_32 _ _ _ (show gi x_198 0 1600 from ⟨by have qgx_198 := gx_198.1; have rgx_198 := gx_198.2; have igx_198 : x_198.toInt = w0_29.toInt + 1 := (by have hc1 : (1 : Int32).toInt = 1 := (by decide); have h9 := gi_addI ex_198 (by have h1 := gw0_29.1; have h2 := (gi_c 1 1 (by decide)).1; have h3 := gw0_29.2; have h4 := (gi_c 1 1 (by decide)).2; omega) (by have h1 := gw0_29.1; have h2 := (gi_c 1 1 (by decide)).1; have h3 := gw0_29.2; have h4 := (gi_c 1 1 (by decide)).2; omega); rw [hc1] at h9; exact h9); have qgw0_29 := gw0_29.1; have rgw0_29 := gw0_29.2; have qgw0_30 := gw0_30.1; have rgw0_30 := gw0_30.2; have qgr_190 := g_196.1; have rgr_190 := g_196.2; have qgmi_29 := gmi_29.1; have rgmi_29 := gmi_29.2; have qgmi_26 := gmi_26.1; have rgmi_26 := gmi_26.2; omega, by have qgx_198 := gx_198.1; have rgx_198 := gx_198.2; have igx_198 : x_198.toInt = w0_29.toInt + 1 := (by have hc1 : (1 : Int32).toInt = 1 := (by decide); have h9 := gi_addI ex_198 (by have h1 := gw0_29.1; have h2 := (gi_c 1 1 (by decide)).1; have h3 := gw0_29.2; have h4 := (gi_c 1 1 (by decide)).2; omega) (by have h1 := gw0_29.1; have h2 := (gi_c 1 1 (by decide)).1; have h3 := gw0_29.2; have h4 := (gi_c 1 1 (by decide)).2; omega); rw [hc1] at h9; exact h9); have qgw0_29 := gw0_29.1; have rgw0_29 := gw0_29.2; have qgw0_30 := gw0_30.1; have rgw0_30 := gw0_30.2; have qgr_190 := g_196.1; have rgr_190 := g_196.2; have qgmi_29 := gmi_29.1; have rgmi_29 := gmi_29.2; have qgmi_26 := gmi_26.1; have rgmi_26 := gmi_26.2; omega⟩) gw0_30 gw0_32 hinv0 (show w0_30.toInt ≤ x_198.toInt from by have qgx_198 := gx_198.1; have rgx_198 := gx_198.2; have igx_198 : x_198.toInt = w0_29.toInt + 1 := (by have hc1 : (1 : Int32).toInt = 1 := (by decide); have h9 := gi_addI ex_198 (by have h1 := gw0_29.1; have h2 := (gi_c 1 1 (by decide)).1; have h3 := gw0_29.2; have h4 := (gi_c 1 1 (by decide)).2; omega) (by have h1 := gw0_29.1; have h2 := (gi_c 1 1 (by decide)).1; have h3 := gw0_29.2; have h4 := (gi_c 1 1 (by decide)).2; omega); rw [hc1] at h9; exact h9); have qgw0_29 := gw0_29.1; have rgw0_29 := gw0_29.2; have qgw0_30 := gw0_30.1; have rgw0_30 := gw0_30.2; have qgr_190 := g_196.1; have rgr_190 := g_196.2; have qgmi_29 := gmi_29.1; have rgmi_29 := gmi_29.2; have qgmi_26 := gmi_26.1; have rgmi_26 := gmi_26.2; omega) (show x_198.toInt ≤ (mi 26).toInt from by have qgx_198 := gx_198.1; have rgx_198 := gx_198.2; have igx_198 : x_198.toInt = w0_29.toInt + 1 := (by have hc1 : (1 : Int32).toInt = 1 := (by decide); have h9 := gi_addI ex_198 (by have h1 := gw0_29.1; have h2 := (gi_c 1 1 (by decide)).1; have h3 := gw0_29.2; have h4 := (gi_c 1 1 (by decide)).2; omega) (by have h1 := gw0_29.1; have h2 := (gi_c 1 1 (by decide)).1; have h3 := gw0_29.2; have h4 := (gi_c 1 1 (by decide)).2; omega); rw [hc1] at h9; exact h9); have qgw0_29 := gw0_29.1; have rgw0_29 := gw0_29.2; have qgw0_30 := gw0_30.1; have rgw0_30 := gw0_30.2; have qgr_190 := g_196.1; have rgr_190 := g_196.2; have qgmi_29 := gmi_29.1; have rgmi_29 := gmi_29.2; have qgmi_26 := gmi_26.1; have rgmi_26 := gmi_26.2; omega) (show (w0_30.toInt < x_198.toInt ∨ (x_198.toInt < (mi 26).toInt ∧ 97 ≤ (fm_tape x_198.toNatClampNeg).toInt ∧ (fm_tape x_198.toNatClampNeg).toInt ≤ 122)) from by have qgx_198 := gx_198.1; have rgx_198 := gx_198.2; have igx_198 : x_198.toInt = w0_29.toInt + 1 := (by have hc1 : (1 : Int32).toInt = 1 := (by decide); have h9 := gi_addI ex_198 (by have h1 := gw0_29.1; have h2 := (gi_c 1 1 (by decide)).1; have h3 := gw0_29.2; have h4 := (gi_c 1 1 (by decide)).2; omega) (by have h1 := gw0_29.1; have h2 := (gi_c 1 1 (by decide)).1; have h3 := gw0_29.2; have h4 := (gi_c 1 1 (by decide)).2; omega); rw [hc1] at h9; exact h9); have qgw0_29 := gw0_29.1; have rgw0_29 := gw0_29.2; have qgw0_30 := gw0_30.1; have rgw0_30 := gw0_30.2; have qgr_190 := g_196.1; have rgr_190 := g_196.2; have qgmi_29 := gmi_29.1; have rgmi_29 := gmi_29.2; have qgmi_26 := gmi_26.1; have rgmi_26 := gmi_26.2; omega) (by rw [ex_198]; exact hF) (by have aw0_29 := gw0_29.1; have bw0_29 := gw0_29.2; have qgx_198 := gx_198.1; have rgx_198 := gx_198.2; have igx_198 : x_198.toInt = w0_29.toInt + 1 := (by have hc1 : (1 : Int32).toInt = 1 := (by decide); have h9 := gi_addI ex_198 (by have h1 := gw0_29.1; have h2 := (gi_c 1 1 (by decide)).1; have h3 := gw0_29.2; have h4 := (gi_c 1 1 (by decide)).2; omega) (by have h1 := gw0_29.1; have h2 := (gi_c 1 1 (by decide)).1; have h3 := gw0_29.2; have h4 := (gi_c 1 1 (by decide)).2; omega); rw [hc1] at h9; exact h9); have qgw0_29 := gw0_29.1; have rgw0_29 := gw0_29.2; omega) hP hD hS (lv_sub hl [0] rfl)
    · intro w0_29 w0_30 w0_31 w0_32 H locs ls gw0_29 gw0_30 gw0_32 hinv0 hinv1 hinv2 hinv3 hF hmu hP hD hS hl
      have hF : dfX12_next_123 mi fm_tape (lfX12_next mi fm_tape z) w0_29 w0_30 w0_31 w0_32 = RES := hF
      refine lv_aload_n hx hb dX12_next_123 rfl (lv_at hl 0 rfl) ?_
      refine lv_bipush (v := 48) hx hb dX12_next_124 (by decide) ?_
      refine lv_bipush (v := 57) hx hb dX12_next_126 (by decide) ?_
      have hPc := hP.sub (ws' := [(h0, .inr (12, fsMM (upd (upd (upd (upd mi 29 w0_29) 30 w0_30) 31 w0_31) 32 w0_32) mr)), ((mr 13), .inl (km_tape, 1600, .inl fm_tape))]) [0, 1] rfl
      have hKc := hK.sub (tys' := [(km_tape, .int)]) [0] rfl
      refine va_calli (va_runV (As := [.int 48, .int 57]) (rest := []) ⟨hx, hb, hml, hown, hts⟩ (sX12_isAtP l dC dI h0 (upd (upd (upd (upd mi 29 w0_29) 30 w0_30) 31 w0_31) 32 w0_32) mr km_tape fm_tape 48 57 gmi_0 gmi_1 gmi_2 gmi_4 gmi_7 gmi_10 gmi_17 gmi_23 gmi_24 gmi_26 gw0_29 gw0_30 gw0_32 gmi_33 gmi_37 gmi_41 gmi_50 gmi_51 gmi_56) (cwV 2 hts (gz_gV mGB_139 mGB_140 mGB_141 mGB_1 mGB_142 goodGB) rfl rfl rfl (by decide +kernel) ⟨Nat.le_trans (Nat.le_of_ble_eq_true rfl) hRf, Nat.le_trans (Nat.le_of_ble_eq_true rfl) hRl⟩) ⟨fun a U g mk q => by obtain ⟨q0, qP, qK⟩ := q; exact ⟨q0, qP, va_K.moved (u := U) (U := U.calling g mk a) (Vm.Alike.refl U.vm) qK⟩, va_recv hKc hPc (ci := 12) (q0 := 0) rfl rfl, fun U hU hW => ⟨rfl, by rw [hU]; exact hPc, va_K.moved hW.alike hKc⟩⟩ rfl rfl hl.1 rfl (lv_room (Nat.le_of_ble_eq_true rfl)) dX12_next_128 ⟨hRc, hRs⟩) hS (fun q _ h => h.elim) (fun q h => h.elim) (fun r_199 u t H1 locs ht hvm hw hB hz1 hk1 hS => ?_)
      obtain ⟨hw, hE⟩ := hw
      have hP := gz_keep hP hk1
      have hF := gf_callm (a := r_199) hE hF (by first | with_reducible rfl | simp only [upd_same, upd_app, ↓reduceIte, Nat.reduceEqDiff])
      generalize H1 = H at hP hS ⊢
      have gr_199 : gi r_199 0 1 := hw.1
      have hqr_199 : Hid ((r_199.toInt = 1 → (w0_29.toInt < (mi 26).toInt ∧ (48 : Int) ≤ (fm_tape w0_29.toNatClampNeg).toInt ∧ (fm_tape w0_29.toNatClampNeg).toInt ≤ (57 : Int))) ∧ (r_199.toInt = 0 → ((mi 26).toInt ≤ w0_29.toInt ∨ (fm_tape w0_29.toNatClampNeg).toInt < (48 : Int) ∨ (57 : Int) < (fm_tape w0_29.toNatClampNeg).toInt))) := by have h9 : (r_199.toInt = 1 → (w0_29.toInt < (mi 26).toInt ∧ (48 : Int32).toInt ≤ (fm_tape w0_29.toNatClampNeg).toInt ∧ (fm_tape w0_29.toNatClampNeg).toInt ≤ (57 : Int32).toInt)) ∧ (r_199.toInt = 0 → ((mi 26).toInt ≤ w0_29.toInt ∨ (fm_tape w0_29.toNatClampNeg).toInt < (48 : Int32).toInt ∨ (57 : Int32).toInt < (fm_tape w0_29.toNatClampNeg).toInt)) := hw.2; rw [show (48 : Int32).toInt = 48 from by decide] at h9; rw [show (57 : Int32).toInt = 57 from by decide] at h9; exact h9
      clear hw
      refine lv_if_eq (tgt := 206) hx hb dX12_next_131 (by decide) (fun c_200 => ?_) (fun c_200 => ?_)
      · have hF := gf_pos c_200 hF
        have hc_201 : r_199.toInt = 0 := by have h9 := congrArg Int32.toInt c_200; rw [show (0 : Int32).toInt = 0 from by decide] at h9; exact h9
        have g_202 : gi r_199 0 0 := gi_eq c_200 (gi_c 0 0 (by decide))
        have hf_203 : Hid (((mi 26).toInt ≤ w0_29.toInt ∨ (fm_tape w0_29.toNatClampNeg).toInt < (48 : Int) ∨ (57 : Int) < (fm_tape w0_29.toNatClampNeg).toInt)) := (Hid.un hqr_199).2 (gz_zero1 g_202) 
        exact kr206 w0_29 w0_30 w0_31 w0_32 _ _ _ gw0_29 gw0_30 gw0_32 hinv0 hinv1 hinv2 (show (w0_31.toInt = 0 ∨ w0_30.toInt < w0_29.toInt) from by have qgw0_30 := gw0_30.1; have rgw0_30 := gw0_30.2; have qgw0_29 := gw0_29.1; have rgw0_29 := gw0_29.2; have qgr_199 := g_202.1; have rgr_199 := g_202.2; have qgmi_29 := gmi_29.1; have rgmi_29 := gmi_29.2; have qgmi_26 := gmi_26.1; have rgmi_26 := gmi_26.2; have hz9 := Hid.un hf_203; omega) hF hP hD hS (lv_sub hl [] rfl)
      · have hF := gf_neg c_200 hF
        have hc_204 : r_199.toInt ≠ 0 := fun h9 => c_200 (Int32.toInt_inj.mp (by rw [show (0 : Int32).toInt = 0 from by decide]; exact h9))
        have g_205 : gi r_199 1 1 := gi_ne_lo c_200 gr_199 (gi_c 0 0 (by decide)) (by decide)
        have hf_206 : (w0_29.toInt < (mi 26).toInt ∧ (48 : Int) ≤ (fm_tape w0_29.toNatClampNeg).toInt ∧ (fm_tape w0_29.toNatClampNeg).toInt ≤ (57 : Int)) := (Hid.un hqr_199).1 (gz_one g_205) 
        refine lv_aload_n hx hb dX12_next_134 rfl (lv_at hl 0 rfl) ?_
        refine lv_ldc (own := RX12) (v := 100000) hx hb hown (hts _ (List.mem_cons_of_mem _ mGB_137)) dX12_next_135 ?_
        refine lv_bipush (v := 10) hx hb dX12_next_137 (by decide) ?_
        refine lv_aload_n hx hb dX12_next_139 rfl (lv_at hl 0 rfl) ?_
        refine va_get (D := (dC, dI)) (ci := 12) (v := .int w0_32) (C := RX12) (T := TX12) (N := 57) hx hb hts (fun w h => List.mem_cons_of_mem _ (jnGB_X12 w h)) hown hK hP 0 rfl rfl 32 (by decide) (hts _ (List.mem_cons_of_mem _ mGB_136)) (fun _ h9 => h9) rfl dX12_next_140 ?_
        refine lv_imul hx hb dX12_next_143 ?_
        refine lv_topi (fun x_207 ex_207 => ?_)
        have gx_207 : gi x_207 0 1000000 := gi_mul ex_207 (gi_c 10 10 (by decide)) gw0_32 (by decide)
        refine lv_aload_n hx hb dX12_next_144 rfl (lv_at hl 0 rfl) ?_
        refine va_get (D := (dC, dI)) (ci := 12) (v := .ref (mr 13)) (C := RX12) (T := TX12) (N := 57) hx hb hts (fun w h => List.mem_cons_of_mem _ (jnGB_X12 w h)) hown hK hP 0 rfl rfl 25 (by decide) (hts _ (List.mem_cons_of_mem _ mGB_24)) (fun _ h9 => h9) rfl dX12_next_145 ?_
        refine lv_aload_n hx hb dX12_next_148 rfl (lv_at hl 0 rfl) ?_
        refine va_get (D := (dC, dI)) (ci := 12) (v := .int w0_29) (C := RX12) (T := TX12) (N := 57) hx hb hts (fun w h => List.mem_cons_of_mem _ (jnGB_X12 w h)) hown hK hP 0 rfl rfl 29 (by decide) (hts _ (List.mem_cons_of_mem _ mGB_113)) (fun _ h9 => h9) rfl dX12_next_149 ?_
        refine va_iald hx hb hK hP 1 0 rfl rfl (gz_inR (n := 1600) (by have qgw0_30 := gw0_30.1; have rgw0_30 := gw0_30.2; have qgw0_29 := gw0_29.1; have rgw0_29 := gw0_29.2; have qgr_199 := g_205.1; have rgr_199 := g_205.2; have qgmi_29 := gmi_29.1; have rgmi_29 := gmi_29.2; have qgmi_26 := gmi_26.1; have rgmi_26 := gmi_26.2; omega) (by have qgw0_30 := gw0_30.1; have rgw0_30 := gw0_30.2; have qgw0_29 := gw0_29.1; have rgw0_29 := gw0_29.2; have qgr_199 := g_205.1; have rgr_199 := g_205.2; have qgmi_29 := gmi_29.1; have rgmi_29 := gmi_29.2; have qgmi_26 := gmi_26.1; have rgmi_26 := gmi_26.2; omega)) dX12_next_152 ?_
        refine lv_topi (fun x_208 ex_208 => ?_)
        have hlx_208 : x_208.toInt = (fm_tape w0_29.toNatClampNeg).toInt := congrArg Int32.toInt ex_208
        have g_209 : gi x_208 48 57 := ⟨by have qgw0_30 := gw0_30.1; have rgw0_30 := gw0_30.2; have qgw0_29 := gw0_29.1; have rgw0_29 := gw0_29.2; have qgr_199 := g_205.1; have rgr_199 := g_205.2; have qgmi_29 := gmi_29.1; have rgmi_29 := gmi_29.2; have qgmi_26 := gmi_26.1; have rgmi_26 := gmi_26.2; omega, by have qgw0_30 := gw0_30.1; have rgw0_30 := gw0_30.2; have qgw0_29 := gw0_29.1; have rgw0_29 := gw0_29.2; have qgr_199 := g_205.1; have rgr_199 := g_205.2; have qgmi_29 := gmi_29.1; have rgmi_29 := gmi_29.2; have qgmi_26 := gmi_26.1; have rgmi_26 := gmi_26.2; omega⟩
        refine lv_iadd hx hb dX12_next_153 ?_
        refine lv_topi (fun x_210 ex_210 => ?_)
        have gx_210 : gi x_210 48 1000057 := gi_add ex_210 gx_207 g_209 (by decide)
        refine lv_bipush (v := 48) hx hb dX12_next_154 (by decide) ?_
        refine lv_isub hx hb dX12_next_156 ?_
        refine lv_topi (fun x_211 ex_211 => ?_)
        have gx_211 : gi x_211 0 1000009 := gi_sub ex_211 gx_210 (gi_c 48 48 (by decide)) (by decide)
        refine va_mmin (own := RX12) hx hb (by rw [hml]; exact hl.1.symm) hown (hts _ (List.mem_cons_of_mem _ mGB_138)) (hts _ (List.mem_cons_of_mem _ mGB_97)) (hts _ (List.mem_cons_of_mem _ mGB_98)) (hts _ (List.mem_cons_of_mem _ mGB_99)) (Nat.le_trans (Nat.le_of_ble_eq_true rfl) hRf) (Nat.le_trans (Nat.le_of_ble_eq_true rfl) hRl) hRc hRs dX12_next_157 ?_
        refine lv_topi (fun x_212 ex_212 => ?_)
        have gx_212 : gi x_212 0 100000 := gi_min ex_212 (gi_c 100000 100000 (by decide)) gx_211 (by decide)
        refine va_put (D := (dC, dI)) (ci := 12) (v := .int x_212) (ty := .int) (C := RX12) (T := TX12) (N := 57) hx hb hts (fun w h => List.mem_cons_of_mem _ (jnGB_X12 w h)) tyX12 tyX12_ok nmX12 hown hK hP hD hS 0 rfl rfl 32 (by decide) (hts _ (List.mem_cons_of_mem _ mGB_136)) (fun _ h9 => h9) rfl (by decide +kernel) rfl rfl (Nat.le_of_ble_eq_true rfl) dX12_next_160 (fun H locs hP hD hS => ?_)
        have hP : va_P (dC, dI) vwCl [(h0, .inr (12, fsMM (upd (upd (upd (upd mi 29 w0_29) 30 w0_30) 31 w0_31) 32 x_212) mr)), ((mr 13), .inl (km_tape, 1600, .inl fm_tape))] H := hP
        have hD : va_D A [(h0, .inr (12, fsMM (upd (upd (upd (upd mi 29 w0_29) 30 w0_30) 31 w0_31) 32 x_212) mr)), ((mr 13), .inl (km_tape, 1600, .inl fm_tape))] := hD
        refine lv_aload_n hx hb dX12_next_163 rfl (lv_at hl 0 rfl) ?_
        refine lv_dup hx hb dX12_next_164 rfl ?_
        refine va_get (D := (dC, dI)) (ci := 12) (v := .int w0_29) (C := RX12) (T := TX12) (N := 57) hx hb hts (fun w h => List.mem_cons_of_mem _ (jnGB_X12 w h)) hown hK hP 0 rfl rfl 29 (by decide) (hts _ (List.mem_cons_of_mem _ mGB_113)) (fun _ h9 => h9) rfl dX12_next_165 ?_
        refine lv_iconst (v := 1) hx hb dX12_next_168 (by decide) ?_
        refine lv_iadd hx hb dX12_next_169 ?_
        refine lv_topi (fun x_213 ex_213 => ?_)
        have gx_213 : gi x_213 1 1601 := gi_add ex_213 gw0_29 (gi_c 1 1 (by decide)) (by decide)
        refine va_put (D := (dC, dI)) (ci := 12) (v := .int x_213) (ty := .int) (C := RX12) (T := TX12) (N := 57) hx hb hts (fun w h => List.mem_cons_of_mem _ (jnGB_X12 w h)) tyX12 tyX12_ok nmX12 hown hK hP hD hS 0 rfl rfl 29 (by decide) (hts _ (List.mem_cons_of_mem _ mGB_113)) (fun _ h9 => h9) rfl (by decide +kernel) rfl rfl (Nat.le_of_ble_eq_true rfl) dX12_next_170 (fun H locs hP hD hS => ?_)
        have hP : va_P (dC, dI) vwCl [(h0, .inr (12, fsMM (upd (upd (upd (upd mi 29 x_213) 30 w0_30) 31 w0_31) 32 x_212) mr)), ((mr 13), .inl (km_tape, 1600, .inl fm_tape))] H := hP
        have hD : va_D A [(h0, .inr (12, fsMM (upd (upd (upd (upd mi 29 x_213) 30 w0_30) 31 w0_31) 32 x_212) mr)), ((mr 13), .inl (km_tape, 1600, .inl fm_tape))] := hD
        refine lv_goto (tgt := 123) hx hb dX12_next_173 (by decide) ?_
        exact ih.2.2 x_213 w0_30 w0_31 x_212 _ _ _ (show gi x_213 0 1600 from ⟨by have qgx_213 := gx_213.1; have rgx_213 := gx_213.2; have igx_213 : x_213.toInt = w0_29.toInt + 1 := (by have hc1 : (1 : Int32).toInt = 1 := (by decide); have h9 := gi_addI ex_213 (by have h1 := gw0_29.1; have h2 := (gi_c 1 1 (by decide)).1; have h3 := gw0_29.2; have h4 := (gi_c 1 1 (by decide)).2; omega) (by have h1 := gw0_29.1; have h2 := (gi_c 1 1 (by decide)).1; have h3 := gw0_29.2; have h4 := (gi_c 1 1 (by decide)).2; omega); rw [hc1] at h9; exact h9); have qgw0_29 := gw0_29.1; have rgw0_29 := gw0_29.2; have qgx_208 := g_209.1; have rgx_208 := g_209.2; have qgw0_30 := gw0_30.1; have rgw0_30 := gw0_30.2; have qgr_199 := g_205.1; have rgr_199 := g_205.2; have qgmi_29 := gmi_29.1; have rgmi_29 := gmi_29.2; have qgmi_26 := gmi_26.1; have rgmi_26 := gmi_26.2; omega, by have qgx_213 := gx_213.1; have rgx_213 := gx_213.2; have igx_213 : x_213.toInt = w0_29.toInt + 1 := (by have hc1 : (1 : Int32).toInt = 1 := (by decide); have h9 := gi_addI ex_213 (by have h1 := gw0_29.1; have h2 := (gi_c 1 1 (by decide)).1; have h3 := gw0_29.2; have h4 := (gi_c 1 1 (by decide)).2; omega) (by have h1 := gw0_29.1; have h2 := (gi_c 1 1 (by decide)).1; have h3 := gw0_29.2; have h4 := (gi_c 1 1 (by decide)).2; omega); rw [hc1] at h9; exact h9); have qgw0_29 := gw0_29.1; have rgw0_29 := gw0_29.2; have qgx_208 := g_209.1; have rgx_208 := g_209.2; have qgw0_30 := gw0_30.1; have rgw0_30 := gw0_30.2; have qgr_199 := g_205.1; have rgr_199 := g_205.2; have qgmi_29 := gmi_29.1; have rgmi_29 := gmi_29.2; have qgmi_26 := gmi_26.1; have rgmi_26 := gmi_26.2; omega⟩) gw0_30 gx_212 hinv0 (show w0_30.toInt ≤ x_213.toInt from by have qgx_213 := gx_213.1; have rgx_213 := gx_213.2; have igx_213 : x_213.toInt = w0_29.toInt + 1 := (by have hc1 : (1 : Int32).toInt = 1 := (by decide); have h9 := gi_addI ex_213 (by have h1 := gw0_29.1; have h2 := (gi_c 1 1 (by decide)).1; have h3 := gw0_29.2; have h4 := (gi_c 1 1 (by decide)).2; omega) (by have h1 := gw0_29.1; have h2 := (gi_c 1 1 (by decide)).1; have h3 := gw0_29.2; have h4 := (gi_c 1 1 (by decide)).2; omega); rw [hc1] at h9; exact h9); have qgw0_29 := gw0_29.1; have rgw0_29 := gw0_29.2; have qgx_208 := g_209.1; have rgx_208 := g_209.2; have qgw0_30 := gw0_30.1; have rgw0_30 := gw0_30.2; have qgr_199 := g_205.1; have rgr_199 := g_205.2; have qgmi_29 := gmi_29.1; have rgmi_29 := gmi_29.2; have qgmi_26 := gmi_26.1; have rgmi_26 := gmi_26.2; omega) (show x_213.toInt ≤ (mi 26).toInt from by have qgx_213 := gx_213.1; have rgx_213 := gx_213.2; have igx_213 : x_213.toInt = w0_29.toInt + 1 := (by have hc1 : (1 : Int32).toInt = 1 := (by decide); have h9 := gi_addI ex_213 (by have h1 := gw0_29.1; have h2 := (gi_c 1 1 (by decide)).1; have h3 := gw0_29.2; have h4 := (gi_c 1 1 (by decide)).2; omega) (by have h1 := gw0_29.1; have h2 := (gi_c 1 1 (by decide)).1; have h3 := gw0_29.2; have h4 := (gi_c 1 1 (by decide)).2; omega); rw [hc1] at h9; exact h9); have qgw0_29 := gw0_29.1; have rgw0_29 := gw0_29.2; have qgx_208 := g_209.1; have rgx_208 := g_209.2; have qgw0_30 := gw0_30.1; have rgw0_30 := gw0_30.2; have qgr_199 := g_205.1; have rgr_199 := g_205.2; have qgmi_29 := gmi_29.1; have rgmi_29 := gmi_29.2; have qgmi_26 := gmi_26.1; have rgmi_26 := gmi_26.2; omega) (show (w0_30.toInt < x_213.toInt ∨ (x_213.toInt < (mi 26).toInt ∧ 48 ≤ (fm_tape x_213.toNatClampNeg).toInt ∧ (fm_tape x_213.toNatClampNeg).toInt ≤ 57)) from by have qgx_213 := gx_213.1; have rgx_213 := gx_213.2; have igx_213 : x_213.toInt = w0_29.toInt + 1 := (by have hc1 : (1 : Int32).toInt = 1 := (by decide); have h9 := gi_addI ex_213 (by have h1 := gw0_29.1; have h2 := (gi_c 1 1 (by decide)).1; have h3 := gw0_29.2; have h4 := (gi_c 1 1 (by decide)).2; omega) (by have h1 := gw0_29.1; have h2 := (gi_c 1 1 (by decide)).1; have h3 := gw0_29.2; have h4 := (gi_c 1 1 (by decide)).2; omega); rw [hc1] at h9; exact h9); have qgw0_29 := gw0_29.1; have rgw0_29 := gw0_29.2; have qgx_208 := g_209.1; have rgx_208 := g_209.2; have qgw0_30 := gw0_30.1; have rgw0_30 := gw0_30.2; have qgr_199 := g_205.1; have rgr_199 := g_205.2; have qgmi_29 := gmi_29.1; have rgmi_29 := gmi_29.2; have qgmi_26 := gmi_26.1; have rgmi_26 := gmi_26.2; omega) (by rw [ex_213, ex_212, ex_211, ex_210, ex_208, ex_207]; exact hF) (by have aw0_29 := gw0_29.1; have bw0_29 := gw0_29.2; have qgx_213 := gx_213.1; have rgx_213 := gx_213.2; have igx_213 : x_213.toInt = w0_29.toInt + 1 := (by have hc1 : (1 : Int32).toInt = 1 := (by decide); have h9 := gi_addI ex_213 (by have h1 := gw0_29.1; have h2 := (gi_c 1 1 (by decide)).1; have h3 := gw0_29.2; have h4 := (gi_c 1 1 (by decide)).2; omega) (by have h1 := gw0_29.1; have h2 := (gi_c 1 1 (by decide)).1; have h3 := gw0_29.2; have h4 := (gi_c 1 1 (by decide)).2; omega); rw [hc1] at h9; exact h9); have qgw0_29 := gw0_29.1; have rgw0_29 := gw0_29.2; omega) hP hD hS (lv_sub hl [0] rfl)
set_option maxHeartbeats 4000000 in
set_option maxRecDepth 100000 in
theorem sX12_nextP (l : Launch) (dC : Nat → ClassId) (dI : Nat → Nat → Nat) (sz : Nat) (h0 : Nat) (mi : Nat → Int32) (mr : Nat → Nat) (km_tape : ClassId) (fm_tape : Nat → Int32) (gmi_0 : gi (mi 0) 0 100000) (gmi_1 : gi (mi 1) 0 100000) (gmi_2 : gi (mi 2) 0 100000) (gmi_4 : gi (mi 4) 0 1) (gmi_7 : gi (mi 7) 0 6) (gmi_10 : gi (mi 10) 0 24) (gmi_17 : gi (mi 17) 0 8) (gmi_23 : gi (mi 23) 0 300) (gmi_24 : gi (mi 24) 0 1) (gmi_26 : gi (mi 26) 0 1600) (gmi_29 : gi (mi 29) 0 1600) (gmi_30 : gi (mi 30) 0 1600) (gmi_32 : gi (mi 32) 0 100000) (gmi_33 : gi (mi 33) 0 1) (gmi_37 : gi (mi 37) 0 1) (gmi_41 : gi (mi 41) 0 24) (gmi_50 : gi (mi 50) 0 1) (gmi_51 : gi (mi 51) 0 1) (gmi_56 : gi (mi 56) 0 80) (hpq0 : (mi 29).toInt ≤ (mi 26).toInt) : Met l yX12_next (.code yX12_next cX12_next 1 none :: wsGB) ({ frames := 2, cells := 0, slots := 0, locals := 47 }) (va_Pc [.ref h0] (fun U => U.heap.size = sz ∧ va_P (dC, dI) vwCl [(h0, .inr (12, fsMM mi mr)), ((mr 13), .inl (km_tape, 1600, .inl fm_tape))] U.heap ∧ va_K (dC, dI) vwCl [(km_tape, .int)] U ∧ va_D (fun _ => True) [(h0, .inr (12, fsMM mi mr)), ((mr 13), .inl (km_tape, 1600, .inl fm_tape))])) (va_Qv (fun (u : Unit) => True) (fun _ t => ∃ (w0_29 : Int32) (w0_30 : Int32) (w0_31 : Int32) (w0_32 : Int32), gi w0_29 0 1600 ∧ gi w0_30 0 1600 ∧ gi w0_32 0 100000 ∧ (mi 29).toInt ≤ w0_30.toInt ∧ w0_30.toInt ≤ w0_29.toInt ∧ w0_29.toInt ≤ (mi 26).toInt ∧ (w0_31.toInt = 0 ∨ w0_30.toInt < w0_29.toInt) ∧ (w0_29, w0_30, w0_31, w0_32) = fX12_next mi fm_tape ∧ va_P (dC, dI) vwCl [(h0, .inr (12, fsMM (upd (upd (upd (upd mi 29 w0_29) 30 w0_30) 31 w0_31) 32 w0_32) mr)), ((mr 13), .inl (km_tape, 1600, .inl fm_tape))] t.heap ∧ va_D (va_A [(h0, .inr (12, fsMM mi mr)), ((mr 13), .inl (km_tape, 1600, .inl fm_tape))] sz) [(h0, .inr (12, fsMM (upd (upd (upd (upd mi 29 w0_29) 30 w0_30) 31 w0_31) 32 w0_32) mr)), ((mr 13), .inl (km_tape, 1600, .inl fm_tape))]) (va_A [(h0, .inr (12, fsMM mi mr)), ((mr 13), .inl (km_tape, 1600, .inl fm_tape))] sz)) 0 0 (va_A [(h0, .inr (12, fsMM mi mr)), ((mr 13), .inl (km_tape, 1600, .inl fm_tape))] sz) := by
  refine Met.ofW (cc := cX12_next) (maxL := 1) (ret := none) (by decide) rfl ?_
  intro p e s m args below meth c s₁ B hml hv
  obtain ⟨rfl, hsz, hP, hK, hD0⟩ := hv
  have hx := B.exec
  have hb := B.bytes
  have hr := B.returns
  have hts := atoms_spec (ws := (.code yX12_next cX12_next 1 none :: wsGB)) B.pre
  have hown : s.vm.findClass RX12 = some m.cls := findClass_of_methodNamed B.named
  have hlocks := B.notSynchronized
  subst hsz
  have hD := hD0.self (sz := s.heap.size)
  generalize hAe : va_A [(h0, .inr (12, fsMM mi mr)), ((mr 13), .inl (km_tape, 1600, .inl fm_tape))] s.heap.size = A at hD ⊢
  have hA : ∀ q : Nat, s.heap.size ≤ q → A q := fun q h => by rw [← hAe]; exact Or.inr h
  have hS : va_S A s.heap s.heap [] := va_S.rf
  have hl := lv_entry ([.ref h0]) (n := 1) (Nat.le_of_ble_eq_true rfl)
  rw [lg_entry_eq]
  generalize (lg_sl ([.ref h0]) ++ List.replicate (1 - (lg_sl ([.ref h0])).length) Slot.unset).toArray = ls at hl ⊢
  have hl : lv_has ls 1 [(0, .ref h0)] := hl
  obtain ⟨RES, hF⟩ : ∃ R9, fX12_next mi fm_tape = R9 := ⟨_, rfl⟩
  have hR9 := hF
  refine (lp_sX12_nextP h0 mi mr km_tape fm_tape gmi_0 gmi_1 gmi_2 gmi_4 gmi_7 gmi_10 gmi_17 gmi_23 gmi_24 gmi_26 gmi_29 gmi_30 gmi_32 gmi_33 gmi_37 gmi_41 gmi_50 gmi_51 gmi_56 hpq0 hx hb hml hown hts hK hA (Nat.le_of_ble_eq_true rfl) (Nat.le_of_ble_eq_true rfl) (Nat.zero_le _) (Nat.zero_le _) (fun w0_29 w0_30 w0_31 w0_32 H locs ls gw0_29 gw0_30 gw0_32 hpr0 hpr1 hpr2 hpr3 hF hP hD hS hl => ?_) 1000000000).1 (mi 29) _ _ _ gmi_29 (show (mi 29).toInt ≤ (mi 29).toInt from by have qgmi_29 := gmi_29.1; have rgmi_29 := gmi_29.2; have qgmi_26 := gmi_26.1; have rgmi_26 := gmi_26.2; omega) (show (mi 29).toInt ≤ (mi 26).toInt from by have qgmi_29 := gmi_29.1; have rgmi_29 := gmi_29.2; have qgmi_26 := gmi_26.1; have rgmi_26 := gmi_26.2; omega) hF (by have qgmi_29 := gmi_29.1; have rgmi_29 := gmi_29.2; omega) hP hD hS (lv_sub hl [0] rfl)
  · skip
    exact W.vret hx hb hr (fun t ht hW => ⟨⟨(), rfl, trivial, w0_29, w0_30, w0_31, w0_32, gw0_29, gw0_30, gw0_32, hpr0, hpr1, hpr2, hpr3, hF.trans hR9.symm, by rw [ht]; exact hP, hD⟩, hS.F ht⟩) hS.2.2 dX12_next_206
theorem dX12_faultsAt_0 : decode cX12_faultsAt 0 = .ok (.aload_n 0, 1) := by decide +kernel
theorem dX12_faultsAt_1 : decode cX12_faultsAt 1 = .ok (.getfield 174, 3) := by decide +kernel
theorem dX12_faultsAt_4 : decode cX12_faultsAt 4 = .ok (.ifCond .ne 18, 3) := by decide +kernel
theorem dX12_faultsAt_7 : decode cX12_faultsAt 7 = .ok (.aload_n 0, 1) := by decide +kernel
theorem dX12_faultsAt_8 : decode cX12_faultsAt 8 = .ok (.iconst 1, 1) := by decide +kernel
theorem dX12_faultsAt_9 : decode cX12_faultsAt 9 = .ok (.putfield 174, 3) := by decide +kernel
theorem dX12_faultsAt_12 : decode cX12_faultsAt 12 = .ok (.aload_n 0, 1) := by decide +kernel
theorem dX12_faultsAt_13 : decode cX12_faultsAt 13 = .ok (.iload_n 1, 1) := by decide +kernel
theorem dX12_faultsAt_14 : decode cX12_faultsAt 14 = .ok (.putfield 177, 3) := by decide +kernel
theorem dX12_faultsAt_17 : decode cX12_faultsAt 17 = .ok (.aload_n 0, 1) := by decide +kernel
theorem dX12_faultsAt_18 : decode cX12_faultsAt 18 = .ok (.iload_n 2, 1) := by decide +kernel
theorem dX12_faultsAt_19 : decode cX12_faultsAt 19 = .ok (.putfield 53, 3) := by decide +kernel
theorem dX12_faultsAt_22 : decode cX12_faultsAt 22 = .ok (.return_, 1) := by decide +kernel
noncomputable def bfX12_faultsAt_22 (mi : Nat → Int32) (p1 : Int32) (p2 : Int32) (w0_27 : Int32) (w0_28 : Int32) (w0_33 : Int32) : Int32 × Int32 × Int32 := (w0_27, w0_28, w0_33)
noncomputable def fX12_faultsAt (mi : Nat → Int32) (p1 : Int32) (p2 : Int32) : Int32 × Int32 × Int32 := if (mi 33) = (0 : Int32) then (bfX12_faultsAt_22 mi p1 p2 p1 p2 (1 : Int32)) else (bfX12_faultsAt_22 mi p1 p2 (mi 27) (mi 28) (mi 33))
set_option maxHeartbeats 4000000 in
set_option maxRecDepth 100000 in
theorem sX12_faultsAtP (l : Launch) (dC : Nat → ClassId) (dI : Nat → Nat → Nat) (sz : Nat) (h0 : Nat) (mi : Nat → Int32) (mr : Nat → Nat) (p1 : Int32) (p2 : Int32) (gmi_0 : gi (mi 0) 0 100000) (gmi_1 : gi (mi 1) 0 100000) (gmi_2 : gi (mi 2) 0 100000) (gmi_4 : gi (mi 4) 0 1) (gmi_7 : gi (mi 7) 0 6) (gmi_10 : gi (mi 10) 0 24) (gmi_17 : gi (mi 17) 0 8) (gmi_23 : gi (mi 23) 0 300) (gmi_24 : gi (mi 24) 0 1) (gmi_26 : gi (mi 26) 0 1600) (gmi_29 : gi (mi 29) 0 1600) (gmi_30 : gi (mi 30) 0 1600) (gmi_32 : gi (mi 32) 0 100000) (gmi_33 : gi (mi 33) 0 1) (gmi_37 : gi (mi 37) 0 1) (gmi_41 : gi (mi 41) 0 24) (gmi_50 : gi (mi 50) 0 1) (gmi_51 : gi (mi 51) 0 1) (gmi_56 : gi (mi 56) 0 80) : Met l yX12_faultsAt (.code yX12_faultsAt cX12_faultsAt 3 none :: wsGB) ({ frames := 0, cells := 0, slots := 0, locals := 0 }) (va_Pc [.ref h0, .int p1, .int p2] (fun U => U.heap.size = sz ∧ va_P (dC, dI) vwCl [(h0, .inr (12, fsMM mi mr))] U.heap ∧ va_K (dC, dI) vwCl [] U ∧ va_D (fun _ => True) [(h0, .inr (12, fsMM mi mr))])) (va_Qv (fun (u : Unit) => True) (fun _ t => ∃ (w0_27 : Int32) (w0_28 : Int32) (w0_33 : Int32), gi w0_33 0 1 ∧ w0_33.toInt = 1 ∧ (w0_27, w0_28, w0_33) = fX12_faultsAt mi p1 p2 ∧ va_P (dC, dI) vwCl [(h0, .inr (12, fsMM (upd (upd (upd mi 27 w0_27) 28 w0_28) 33 w0_33) mr))] t.heap ∧ va_D (va_A [(h0, .inr (12, fsMM mi mr))] sz) [(h0, .inr (12, fsMM (upd (upd (upd mi 27 w0_27) 28 w0_28) 33 w0_33) mr))]) (va_A [(h0, .inr (12, fsMM mi mr))] sz)) 0 0 (va_A [(h0, .inr (12, fsMM mi mr))] sz) := by
  refine Met.ofW (cc := cX12_faultsAt) (maxL := 3) (ret := none) (by decide) rfl ?_
  intro p e s m args below meth c s₁ B hml hv
  obtain ⟨rfl, hsz, hP, hK, hD0⟩ := hv
  have hx := B.exec
  have hb := B.bytes
  have hr := B.returns
  have hts := atoms_spec (ws := (.code yX12_faultsAt cX12_faultsAt 3 none :: wsGB)) B.pre
  have hown : s.vm.findClass RX12 = some m.cls := findClass_of_methodNamed B.named
  have hlocks := B.notSynchronized
  subst hsz
  have hD := hD0.self (sz := s.heap.size)
  generalize hAe : va_A [(h0, .inr (12, fsMM mi mr))] s.heap.size = A at hD ⊢
  have hA : ∀ q : Nat, s.heap.size ≤ q → A q := fun q h => by rw [← hAe]; exact Or.inr h
  have hS : va_S A s.heap s.heap [] := va_S.rf
  have hl := lv_entry ([.ref h0, .int p1, .int p2]) (n := 3) (Nat.le_of_ble_eq_true rfl)
  rw [lg_entry_eq]
  generalize (lg_sl ([.ref h0, .int p1, .int p2]) ++ List.replicate (3 - (lg_sl ([.ref h0, .int p1, .int p2])).length) Slot.unset).toArray = ls at hl ⊢
  have hl : lv_has ls 3 [(0, .ref h0), (1, .int p1), (2, .int p2)] := hl
  obtain ⟨RES, hF⟩ : ∃ R9, fX12_faultsAt mi p1 p2 = R9 := ⟨_, rfl⟩
  have hR9 := hF
  refine lv_aload_n hx hb dX12_faultsAt_0 rfl (lv_at hl 0 rfl) ?_
  refine va_get (D := (dC, dI)) (ci := 12) (v := .int (mi 33)) (C := RX12) (T := TX12) (N := 57) hx hb hts (fun w h => List.mem_cons_of_mem _ (jnGB_X12 w h)) hown hK hP 0 rfl rfl 33 (by decide) (hts _ (List.mem_cons_of_mem _ mGB_114)) (fun _ h9 => h9) rfl dX12_faultsAt_1 ?_
  refine lv_if_ne (tgt := 22) hx hb dX12_faultsAt_4 (by decide) (fun c_11 => ?_) (fun c_11 => ?_)
  · have hF := gf_neg c_11 hF
    have hc_12 : (mi 33).toInt ≠ 0 := fun h9 => c_11 (Int32.toInt_inj.mp (by rw [show (0 : Int32).toInt = 0 from by decide]; exact h9))
    have g_13 : gi (mi 33) 1 1 := gi_ne_lo c_11 gmi_33 (gi_c 0 0 (by decide)) (by decide)
    exact W.vret hx hb hr (fun t ht hW => ⟨⟨(), rfl, trivial, (mi 27), (mi 28), (mi 33), (gi_w g_13 (by decide)), (show (mi 33).toInt = 1 from by have qgmi_33 := g_13.1; have rgmi_33 := g_13.2; omega), hF.trans hR9.symm, by rw [ht]; exact hP, hD⟩, hS.F ht⟩) hS.2.2 dX12_faultsAt_22
  · have hF := gf_pos c_11 hF
    have hc_14 : (mi 33).toInt = 0 := by have h9 := congrArg Int32.toInt c_11; rw [show (0 : Int32).toInt = 0 from by decide] at h9; exact h9
    have g_15 : gi (mi 33) 0 0 := gi_eq c_11 (gi_c 0 0 (by decide))
    refine lv_aload_n hx hb dX12_faultsAt_7 rfl (lv_at hl 0 rfl) ?_
    refine lv_iconst (v := 1) hx hb dX12_faultsAt_8 (by decide) ?_
    refine va_put (D := (dC, dI)) (ci := 12) (v := .int 1) (ty := .boolean) (C := RX12) (T := TX12) (N := 57) hx hb hts (fun w h => List.mem_cons_of_mem _ (jnGB_X12 w h)) tyX12 tyX12_ok nmX12 hown hK hP hD hS 0 rfl rfl 33 (by decide) (hts _ (List.mem_cons_of_mem _ mGB_114)) (fun _ h9 => h9) rfl (by decide +kernel) rfl rfl (Nat.le_of_ble_eq_true rfl) dX12_faultsAt_9 (fun H locs hP hD hS => ?_)
    have hP : va_P (dC, dI) vwCl [(h0, .inr (12, fsMM (upd mi 33 1) mr))] H := hP
    have hD : va_D A [(h0, .inr (12, fsMM (upd mi 33 1) mr))] := hD
    refine lv_aload_n hx hb dX12_faultsAt_12 rfl (lv_at hl 0 rfl) ?_
    refine lv_iload_n hx hb dX12_faultsAt_13 rfl (lv_at hl 1 rfl) ?_
    refine va_put (D := (dC, dI)) (ci := 12) (v := .int p1) (ty := .int) (C := RX12) (T := TX12) (N := 57) hx hb hts (fun w h => List.mem_cons_of_mem _ (jnGB_X12 w h)) tyX12 tyX12_ok nmX12 hown hK hP hD hS 0 rfl rfl 27 (by decide) (hts _ (List.mem_cons_of_mem _ mGB_115)) (fun _ h9 => h9) rfl (by decide +kernel) rfl rfl (Nat.le_of_ble_eq_true rfl) dX12_faultsAt_14 (fun H locs hP hD hS => ?_)
    have hP : va_P (dC, dI) vwCl [(h0, .inr (12, fsMM (upd (upd mi 27 p1) 33 1) mr))] H := hP
    have hD : va_D A [(h0, .inr (12, fsMM (upd (upd mi 27 p1) 33 1) mr))] := hD
    refine lv_aload_n hx hb dX12_faultsAt_17 rfl (lv_at hl 0 rfl) ?_
    refine lv_iload_n hx hb dX12_faultsAt_18 rfl (lv_at hl 2 rfl) ?_
    refine va_put (D := (dC, dI)) (ci := 12) (v := .int p2) (ty := .int) (C := RX12) (T := TX12) (N := 57) hx hb hts (fun w h => List.mem_cons_of_mem _ (jnGB_X12 w h)) tyX12 tyX12_ok nmX12 hown hK hP hD hS 0 rfl rfl 28 (by decide) (hts _ (List.mem_cons_of_mem _ mGB_25)) (fun _ h9 => h9) rfl (by decide +kernel) rfl rfl (Nat.le_of_ble_eq_true rfl) dX12_faultsAt_19 (fun H locs hP hD hS => ?_)
    have hP : va_P (dC, dI) vwCl [(h0, .inr (12, fsMM (upd (upd (upd mi 27 p1) 28 p2) 33 1) mr))] H := hP
    have hD : va_D A [(h0, .inr (12, fsMM (upd (upd (upd mi 27 p1) 28 p2) 33 1) mr))] := hD
    exact W.vret hx hb hr (fun t ht hW => ⟨⟨(), rfl, trivial, p1, p2, 1, (gi_w (gi_c 1 1 (by decide)) (by decide)), (show (1 : Int32).toInt = 1 from by have k1 : (1 : Int32).toInt = 1 := (by decide); have qgmi_33 := g_15.1; have rgmi_33 := g_15.2; omega), hF.trans hR9.symm, by rw [ht]; exact hP, hD⟩, hS.F ht⟩) hS.2.2 dX12_faultsAt_22
theorem dX12_faults_0 : decode cX12_faults 0 = .ok (.aload_n 0, 1) := by decide +kernel
theorem dX12_faults_1 : decode cX12_faults 1 = .ok (.iload_n 1, 1) := by decide +kernel
theorem dX12_faults_2 : decode cX12_faults 2 = .ok (.aload_n 0, 1) := by decide +kernel
theorem dX12_faults_3 : decode cX12_faults 3 = .ok (.getfield 158, 3) := by decide +kernel
theorem dX12_faults_6 : decode cX12_faults 6 = .ok (.invokevirtual 180, 3) := by decide +kernel
theorem dX12_faults_9 : decode cX12_faults 9 = .ok (.return_, 1) := by decide +kernel
noncomputable def fX12_faults (mi : Nat → Int32) (p1 : Int32) : Int32 × Int32 × Int32 := cal (fun o1 => (o1.1, o1.2.1, o1.2.2)) (fX12_faultsAt mi p1 (mi 30))
set_option maxHeartbeats 4000000 in
set_option maxRecDepth 100000 in
theorem sX12_faultsP (l : Launch) (dC : Nat → ClassId) (dI : Nat → Nat → Nat) (sz : Nat) (h0 : Nat) (mi : Nat → Int32) (mr : Nat → Nat) (p1 : Int32) (gmi_0 : gi (mi 0) 0 100000) (gmi_1 : gi (mi 1) 0 100000) (gmi_2 : gi (mi 2) 0 100000) (gmi_4 : gi (mi 4) 0 1) (gmi_7 : gi (mi 7) 0 6) (gmi_10 : gi (mi 10) 0 24) (gmi_17 : gi (mi 17) 0 8) (gmi_23 : gi (mi 23) 0 300) (gmi_24 : gi (mi 24) 0 1) (gmi_26 : gi (mi 26) 0 1600) (gmi_29 : gi (mi 29) 0 1600) (gmi_30 : gi (mi 30) 0 1600) (gmi_32 : gi (mi 32) 0 100000) (gmi_33 : gi (mi 33) 0 1) (gmi_37 : gi (mi 37) 0 1) (gmi_41 : gi (mi 41) 0 24) (gmi_50 : gi (mi 50) 0 1) (gmi_51 : gi (mi 51) 0 1) (gmi_56 : gi (mi 56) 0 80) : Met l yX12_faults (.code yX12_faults cX12_faults 2 none :: wsGB) ({ frames := 1, cells := 0, slots := 0, locals := 22 }) (va_Pc [.ref h0, .int p1] (fun U => U.heap.size = sz ∧ va_P (dC, dI) vwCl [(h0, .inr (12, fsMM mi mr))] U.heap ∧ va_K (dC, dI) vwCl [] U ∧ va_D (fun _ => True) [(h0, .inr (12, fsMM mi mr))])) (va_Qv (fun (u : Unit) => True) (fun _ t => ∃ (w0_27 : Int32) (w0_28 : Int32) (w0_33 : Int32), gi w0_33 0 1 ∧ w0_33.toInt = 1 ∧ (w0_27, w0_28, w0_33) = fX12_faults mi p1 ∧ va_P (dC, dI) vwCl [(h0, .inr (12, fsMM (upd (upd (upd mi 27 w0_27) 28 w0_28) 33 w0_33) mr))] t.heap ∧ va_D (va_A [(h0, .inr (12, fsMM mi mr))] sz) [(h0, .inr (12, fsMM (upd (upd (upd mi 27 w0_27) 28 w0_28) 33 w0_33) mr))]) (va_A [(h0, .inr (12, fsMM mi mr))] sz)) 0 0 (va_A [(h0, .inr (12, fsMM mi mr))] sz) := by
  refine Met.ofW (cc := cX12_faults) (maxL := 2) (ret := none) (by decide) rfl ?_
  intro p e s m args below meth c s₁ B hml hv
  obtain ⟨rfl, hsz, hP, hK, hD0⟩ := hv
  have hx := B.exec
  have hb := B.bytes
  have hr := B.returns
  have hts := atoms_spec (ws := (.code yX12_faults cX12_faults 2 none :: wsGB)) B.pre
  have hown : s.vm.findClass RX12 = some m.cls := findClass_of_methodNamed B.named
  have hlocks := B.notSynchronized
  subst hsz
  have hD := hD0.self (sz := s.heap.size)
  generalize hAe : va_A [(h0, .inr (12, fsMM mi mr))] s.heap.size = A at hD ⊢
  have hA : ∀ q : Nat, s.heap.size ≤ q → A q := fun q h => by rw [← hAe]; exact Or.inr h
  have hS : va_S A s.heap s.heap [] := va_S.rf
  have hl := lv_entry ([.ref h0, .int p1]) (n := 2) (Nat.le_of_ble_eq_true rfl)
  rw [lg_entry_eq]
  generalize (lg_sl ([.ref h0, .int p1]) ++ List.replicate (2 - (lg_sl ([.ref h0, .int p1])).length) Slot.unset).toArray = ls at hl ⊢
  have hl : lv_has ls 2 [(0, .ref h0), (1, .int p1)] := hl
  obtain ⟨RES, hF⟩ : ∃ R9, fX12_faults mi p1 = R9 := ⟨_, rfl⟩
  have hR9 := hF
  refine lv_aload_n hx hb dX12_faults_0 rfl (lv_at hl 0 rfl) ?_
  refine lv_iload_n hx hb dX12_faults_1 rfl (lv_at hl 1 rfl) ?_
  refine lv_aload_n hx hb dX12_faults_2 rfl (lv_at hl 0 rfl) ?_
  refine va_get (D := (dC, dI)) (ci := 12) (v := .int (mi 30)) (C := RX12) (T := TX12) (N := 57) hx hb hts (fun w h => List.mem_cons_of_mem _ (jnGB_X12 w h)) hown hK hP 0 rfl rfl 30 (by decide) (hts _ (List.mem_cons_of_mem _ mGB_135)) (fun _ h9 => h9) rfl dX12_faults_3 ?_
  have hPc := hP.sub (ws' := [(h0, .inr (12, fsMM mi mr))]) [0] rfl
  have hKc := hK.sub (tys' := []) [] rfl
  have hDc := hD.sub (ws' := [(h0, .inr (12, fsMM mi mr))]) [0] (by decide) rfl
  have hFc := va_free (wc := [(h0, .inr (12, fsMM mi mr))]) hD hS hA [0] rfl
  refine va_callv (va_runV (As := [.int p1, .int (mi 30)]) (rest := []) ⟨hx, hb, hml, hown, hts⟩ (sX12_faultsAtP l dC dI s.heap.size h0 mi mr p1 (mi 30) gmi_0 gmi_1 gmi_2 gmi_4 gmi_7 gmi_10 gmi_17 gmi_23 gmi_24 gmi_26 gmi_29 gmi_30 gmi_32 gmi_33 gmi_37 gmi_41 gmi_50 gmi_51 gmi_56) (cwV 2 hts (gz_gV mGB_169 mGB_170 mGB_171 mGB_1 mGB_172 goodGB) rfl rfl rfl (by decide +kernel) ⟨Nat.le_of_ble_eq_true rfl, Nat.le_of_ble_eq_true rfl⟩) ⟨fun a U g mk q => by obtain ⟨q0, q1, qP, qK, qD⟩ := q; exact ⟨q0, q1, qP, va_K.moved (u := U) (U := U.calling g mk a) (Vm.Alike.refl U.vm) qK, qD⟩, va_recv hKc hPc (ci := 12) (q0 := 0) rfl rfl, fun U hU hW => ⟨rfl, by rw [hU], by rw [hU]; exact hPc, va_K.moved hW.alike hKc, hDc.weaken (fun _ _ _ _ => trivial)⟩⟩ rfl rfl hl.1 rfl (lv_room (Nat.le_of_ble_eq_true rfl)) dX12_faults_6 ⟨Nat.zero_le _, Nat.zero_le _⟩) hS (fun q _ h => hFc q h) hFc (fun u t H1 locs ht hvm hw hB hz1 hk1 hS => ?_)
  obtain ⟨y_12, y_13, y_14, gy_14, hpr0_r_11, hE, hP1, hD1⟩ := hB
  rw [ht] at hP1
  obtain ⟨hP, hD⟩ := va_join (wr := []) (w1 := [(h0, .inr (12, fsMM (upd (upd (upd mi 27 y_12) 28 y_13) 33 y_14) mr))]) hP hD [0] [] rfl rfl (by decide) (by decide) hk1 hFc hP1 hD1
  have hpr0_r_11 : y_14.toInt = 1 := hpr0_r_11
  have g_15 : gi y_14 1 1 := ⟨by omega, by omega⟩
  have hP := hP.sub (ws' := [(h0, .inr (12, fsMM (upd (upd (upd mi 27 y_12) 28 y_13) 33 y_14) mr))]) [0] rfl
  have hD := hD.sub (ws' := [(h0, .inr (12, fsMM (upd (upd (upd mi 27 y_12) 28 y_13) 33 y_14) mr))]) [0] (by decide) rfl
  have hF := gf_callm (a := (y_12, y_13, y_14)) hE hF (by first | with_reducible rfl | simp only [upd_same, upd_app, ↓reduceIte, Nat.reduceEqDiff])
  generalize H1 = H at hP hS ⊢
  exact W.vret hx hb hr (fun t ht hW => ⟨⟨(), rfl, trivial, y_12, y_13, y_14, (gi_w g_15 (by decide)), hpr0_r_11, hF.trans hR9.symm, by rw [ht]; exact hP, hD⟩, hS.F ht⟩) hS.2.2 dX12_faults_9
theorem dX12_passes_0 : decode cX12_passes 0 = .ok (.iload_n 1, 1) := by decide +kernel
theorem dX12_passes_1 : decode cX12_passes 1 = .ok (.ifCond .ne 8, 3) := by decide +kernel
theorem dX12_passes_4 : decode cX12_passes 4 = .ok (.aload_n 0, 1) := by decide +kernel
theorem dX12_passes_5 : decode cX12_passes 5 = .ok (.iconst 1, 1) := by decide +kernel
theorem dX12_passes_6 : decode cX12_passes 6 = .ok (.invokevirtual 194, 3) := by decide +kernel
theorem dX12_passes_9 : decode cX12_passes 9 = .ok (.aload_n 0, 1) := by decide +kernel
theorem dX12_passes_10 : decode cX12_passes 10 = .ok (.getfield 174, 3) := by decide +kernel
theorem dX12_passes_13 : decode cX12_passes 13 = .ok (.ifCond .ne 7, 3) := by decide +kernel
theorem dX12_passes_16 : decode cX12_passes 16 = .ok (.aload_n 0, 1) := by decide +kernel
theorem dX12_passes_17 : decode cX12_passes 17 = .ok (.invokevirtual 198, 3) := by decide +kernel
theorem dX12_passes_20 : decode cX12_passes 20 = .ok (.return_, 1) := by decide +kernel
noncomputable def bfX12_passes_20 (mi : Nat → Int32) (fm_tape : Nat → Int32) (p1 : Int32) (w0_27 : Int32) (w0_28 : Int32) (w0_29 : Int32) (w0_30 : Int32) (w0_31 : Int32) (w0_32 : Int32) (w0_33 : Int32) : Int32 × Int32 × Int32 × Int32 × Int32 × Int32 × Int32 := (w0_27, w0_28, w0_29, w0_30, w0_31, w0_32, w0_33)
noncomputable def bfX12_passes_9 (mi : Nat → Int32) (fm_tape : Nat → Int32) (p1 : Int32) (w0_27 : Int32) (w0_28 : Int32) (w0_29 : Int32) (w0_30 : Int32) (w0_31 : Int32) (w0_32 : Int32) (w0_33 : Int32) : Int32 × Int32 × Int32 × Int32 × Int32 × Int32 × Int32 := if w0_33 = (0 : Int32) then (cal (fun o2 => bfX12_passes_20 mi fm_tape p1 w0_27 w0_28 o2.1 o2.2.1 o2.2.2.1 o2.2.2.2 w0_33) (fX12_next (upd (upd (upd (upd (upd (upd (upd mi 27 w0_27) 28 w0_28) 29 w0_29) 30 w0_30) 31 w0_31) 32 w0_32) 33 w0_33) fm_tape)) else (bfX12_passes_20 mi fm_tape p1 w0_27 w0_28 w0_29 w0_30 w0_31 w0_32 w0_33)
noncomputable def fX12_passes (mi : Nat → Int32) (fm_tape : Nat → Int32) (p1 : Int32) : Int32 × Int32 × Int32 × Int32 × Int32 × Int32 × Int32 := if p1 = (0 : Int32) then (cal (fun o1 => bfX12_passes_9 mi fm_tape p1 o1.1 o1.2.1 (mi 29) (mi 30) (mi 31) (mi 32) o1.2.2) (fX12_faults mi (1 : Int32))) else (bfX12_passes_9 mi fm_tape p1 (mi 27) (mi 28) (mi 29) (mi 30) (mi 31) (mi 32) (mi 33))
set_option maxHeartbeats 4000000 in
set_option maxRecDepth 100000 in
theorem sX12_passesP (l : Launch) (dC : Nat → ClassId) (dI : Nat → Nat → Nat) (sz : Nat) (h0 : Nat) (mi : Nat → Int32) (mr : Nat → Nat) (km_tape : ClassId) (fm_tape : Nat → Int32) (p1 : Int32) (gmi_0 : gi (mi 0) 0 100000) (gmi_1 : gi (mi 1) 0 100000) (gmi_2 : gi (mi 2) 0 100000) (gmi_4 : gi (mi 4) 0 1) (gmi_7 : gi (mi 7) 0 6) (gmi_10 : gi (mi 10) 0 24) (gmi_17 : gi (mi 17) 0 8) (gmi_23 : gi (mi 23) 0 300) (gmi_24 : gi (mi 24) 0 1) (gmi_26 : gi (mi 26) 0 1600) (gmi_29 : gi (mi 29) 0 1600) (gmi_30 : gi (mi 30) 0 1600) (gmi_32 : gi (mi 32) 0 100000) (gmi_33 : gi (mi 33) 0 1) (gmi_37 : gi (mi 37) 0 1) (gmi_41 : gi (mi 41) 0 24) (gmi_50 : gi (mi 50) 0 1) (gmi_51 : gi (mi 51) 0 1) (gmi_56 : gi (mi 56) 0 80) (gp1 : gi p1 0 1) (hpq0 : (mi 30).toInt ≤ (mi 29).toInt) (hpq1 : (mi 29).toInt ≤ (mi 26).toInt) (hpq2 : ((mi 31).toInt = 0 ∨ (mi 30).toInt < (mi 29).toInt)) : Met l yX12_passes (.code yX12_passes cX12_passes 2 none :: wsGB) ({ frames := 3, cells := 0, slots := 0, locals := 67 }) (va_Pc [.ref h0, .int p1] (fun U => U.heap.size = sz ∧ va_P (dC, dI) vwCl [(h0, .inr (12, fsMM mi mr)), ((mr 13), .inl (km_tape, 1600, .inl fm_tape))] U.heap ∧ va_K (dC, dI) vwCl [(km_tape, .int)] U ∧ va_D (fun _ => True) [(h0, .inr (12, fsMM mi mr)), ((mr 13), .inl (km_tape, 1600, .inl fm_tape))])) (va_Qv (fun (u : Unit) => True) (fun _ t => ∃ (w0_27 : Int32) (w0_28 : Int32) (w0_29 : Int32) (w0_30 : Int32) (w0_31 : Int32) (w0_32 : Int32) (w0_33 : Int32), gi w0_29 0 1600 ∧ gi w0_30 0 1600 ∧ gi w0_32 0 100000 ∧ gi w0_33 0 1 ∧ (mi 30).toInt ≤ w0_30.toInt ∧ w0_30.toInt ≤ w0_29.toInt ∧ w0_29.toInt ≤ (mi 26).toInt ∧ (w0_31.toInt = 0 ∨ w0_30.toInt < w0_29.toInt) ∧ (mi 33).toInt ≤ w0_33.toInt ∧ (p1.toInt = 1 ∨ w0_33.toInt = 1) ∧ (w0_33.toInt = 1 ∨ (mi 29).toInt ≤ w0_30.toInt) ∧ (w0_27, w0_28, w0_29, w0_30, w0_31, w0_32, w0_33) = fX12_passes mi fm_tape p1 ∧ va_P (dC, dI) vwCl [(h0, .inr (12, fsMM (upd (upd (upd (upd (upd (upd (upd mi 27 w0_27) 28 w0_28) 29 w0_29) 30 w0_30) 31 w0_31) 32 w0_32) 33 w0_33) mr)), ((mr 13), .inl (km_tape, 1600, .inl fm_tape))] t.heap ∧ va_D (va_A [(h0, .inr (12, fsMM mi mr)), ((mr 13), .inl (km_tape, 1600, .inl fm_tape))] sz) [(h0, .inr (12, fsMM (upd (upd (upd (upd (upd (upd (upd mi 27 w0_27) 28 w0_28) 29 w0_29) 30 w0_30) 31 w0_31) 32 w0_32) 33 w0_33) mr)), ((mr 13), .inl (km_tape, 1600, .inl fm_tape))]) (va_A [(h0, .inr (12, fsMM mi mr)), ((mr 13), .inl (km_tape, 1600, .inl fm_tape))] sz)) 0 0 (va_A [(h0, .inr (12, fsMM mi mr)), ((mr 13), .inl (km_tape, 1600, .inl fm_tape))] sz) := by
  refine Met.ofW (cc := cX12_passes) (maxL := 2) (ret := none) (by decide) rfl ?_
  intro p e s m args below meth c s₁ B hml hv
  obtain ⟨rfl, hsz, hP, hK, hD0⟩ := hv
  have hx := B.exec
  have hb := B.bytes
  have hr := B.returns
  have hts := atoms_spec (ws := (.code yX12_passes cX12_passes 2 none :: wsGB)) B.pre
  have hown : s.vm.findClass RX12 = some m.cls := findClass_of_methodNamed B.named
  have hlocks := B.notSynchronized
  subst hsz
  have hD := hD0.self (sz := s.heap.size)
  generalize hAe : va_A [(h0, .inr (12, fsMM mi mr)), ((mr 13), .inl (km_tape, 1600, .inl fm_tape))] s.heap.size = A at hD ⊢
  have hA : ∀ q : Nat, s.heap.size ≤ q → A q := fun q h => by rw [← hAe]; exact Or.inr h
  have hS : va_S A s.heap s.heap [] := va_S.rf
  have hl := lv_entry ([.ref h0, .int p1]) (n := 2) (Nat.le_of_ble_eq_true rfl)
  rw [lg_entry_eq]
  generalize (lg_sl ([.ref h0, .int p1]) ++ List.replicate (2 - (lg_sl ([.ref h0, .int p1])).length) Slot.unset).toArray = ls at hl ⊢
  have hl : lv_has ls 2 [(0, .ref h0), (1, .int p1)] := hl
  obtain ⟨RES, hF⟩ : ∃ R9, fX12_passes mi fm_tape p1 = R9 := ⟨_, rfl⟩
  have hR9 := hF
  refine lv_iload_n hx hb dX12_passes_0 rfl (lv_at hl 1 rfl) ?_
  refine lv_if_ne (tgt := 9) hx hb dX12_passes_1 (by decide) (fun c_43 => ?_) (fun c_43 => ?_)
  · have hF := gf_neg c_43 hF
    have hc_44 : p1.toInt ≠ 0 := fun h9 => c_43 (Int32.toInt_inj.mp (by rw [show (0 : Int32).toInt = 0 from by decide]; exact h9))
    have g_45 : gi p1 1 1 := gi_ne_lo c_43 gp1 (gi_c 0 0 (by decide)) (by decide)
    refine lv_aload_n hx hb dX12_passes_9 rfl (lv_at hl 0 rfl) ?_
    refine va_get (D := (dC, dI)) (ci := 12) (v := .int (mi 33)) (C := RX12) (T := TX12) (N := 57) hx hb hts (fun w h => List.mem_cons_of_mem _ (jnGB_X12 w h)) hown hK hP 0 rfl rfl 33 (by decide) (hts _ (List.mem_cons_of_mem _ mGB_114)) (fun _ h9 => h9) rfl dX12_passes_10 ?_
    refine lv_if_ne (tgt := 20) hx hb dX12_passes_13 (by decide) (fun c_46 => ?_) (fun c_46 => ?_)
    · have hF := gf_neg c_46 hF
      have hc_47 : (mi 33).toInt ≠ 0 := fun h9 => c_46 (Int32.toInt_inj.mp (by rw [show (0 : Int32).toInt = 0 from by decide]; exact h9))
      have g_48 : gi (mi 33) 1 1 := gi_ne_lo c_46 gmi_33 (gi_c 0 0 (by decide)) (by decide)
      exact W.vret hx hb hr (fun t ht hW => ⟨⟨(), rfl, trivial, (mi 27), (mi 28), (mi 29), (mi 30), (mi 31), (mi 32), (mi 33), gmi_29, gmi_30, gmi_32, (gi_w g_48 (by decide)), (show (mi 30).toInt ≤ (mi 30).toInt from by have qgp1 := g_45.1; have rgp1 := g_45.2; have qgmi_33 := g_48.1; have rgmi_33 := g_48.2; have qgmi_30 := gmi_30.1; have rgmi_30 := gmi_30.2; have qgmi_29 := gmi_29.1; have rgmi_29 := gmi_29.2; have qgmi_26 := gmi_26.1; have rgmi_26 := gmi_26.2; omega), (show (mi 30).toInt ≤ (mi 29).toInt from by have qgp1 := g_45.1; have rgp1 := g_45.2; have qgmi_33 := g_48.1; have rgmi_33 := g_48.2; have qgmi_30 := gmi_30.1; have rgmi_30 := gmi_30.2; have qgmi_29 := gmi_29.1; have rgmi_29 := gmi_29.2; have qgmi_26 := gmi_26.1; have rgmi_26 := gmi_26.2; omega), (show (mi 29).toInt ≤ (mi 26).toInt from by have qgp1 := g_45.1; have rgp1 := g_45.2; have qgmi_33 := g_48.1; have rgmi_33 := g_48.2; have qgmi_30 := gmi_30.1; have rgmi_30 := gmi_30.2; have qgmi_29 := gmi_29.1; have rgmi_29 := gmi_29.2; have qgmi_26 := gmi_26.1; have rgmi_26 := gmi_26.2; omega), (show ((mi 31).toInt = 0 ∨ (mi 30).toInt < (mi 29).toInt) from by have qgp1 := g_45.1; have rgp1 := g_45.2; have qgmi_33 := g_48.1; have rgmi_33 := g_48.2; have qgmi_30 := gmi_30.1; have rgmi_30 := gmi_30.2; have qgmi_29 := gmi_29.1; have rgmi_29 := gmi_29.2; have qgmi_26 := gmi_26.1; have rgmi_26 := gmi_26.2; omega), (show (mi 33).toInt ≤ (mi 33).toInt from by have qgp1 := g_45.1; have rgp1 := g_45.2; have qgmi_33 := g_48.1; have rgmi_33 := g_48.2; have qgmi_30 := gmi_30.1; have rgmi_30 := gmi_30.2; have qgmi_29 := gmi_29.1; have rgmi_29 := gmi_29.2; have qgmi_26 := gmi_26.1; have rgmi_26 := gmi_26.2; omega), (show (p1.toInt = 1 ∨ (mi 33).toInt = 1) from by have qgp1 := g_45.1; have rgp1 := g_45.2; have qgmi_33 := g_48.1; have rgmi_33 := g_48.2; have qgmi_30 := gmi_30.1; have rgmi_30 := gmi_30.2; have qgmi_29 := gmi_29.1; have rgmi_29 := gmi_29.2; have qgmi_26 := gmi_26.1; have rgmi_26 := gmi_26.2; omega), (show ((mi 33).toInt = 1 ∨ (mi 29).toInt ≤ (mi 30).toInt) from by have qgp1 := g_45.1; have rgp1 := g_45.2; have qgmi_33 := g_48.1; have rgmi_33 := g_48.2; have qgmi_30 := gmi_30.1; have rgmi_30 := gmi_30.2; have qgmi_29 := gmi_29.1; have rgmi_29 := gmi_29.2; have qgmi_26 := gmi_26.1; have rgmi_26 := gmi_26.2; omega), hF.trans hR9.symm, by rw [ht]; exact hP, hD⟩, hS.F ht⟩) hS.2.2 dX12_passes_20
    · have hF := gf_pos c_46 hF
      have hc_49 : (mi 33).toInt = 0 := by have h9 := congrArg Int32.toInt c_46; rw [show (0 : Int32).toInt = 0 from by decide] at h9; exact h9
      have g_50 : gi (mi 33) 0 0 := gi_eq c_46 (gi_c 0 0 (by decide))
      refine lv_aload_n hx hb dX12_passes_16 rfl (lv_at hl 0 rfl) ?_
      have hPc := hP.sub (ws' := [(h0, .inr (12, fsMM mi mr)), ((mr 13), .inl (km_tape, 1600, .inl fm_tape))]) [0, 1] rfl
      have hKc := hK.sub (tys' := [(km_tape, .int)]) [0] rfl
      have hDc := hD.sub (ws' := [(h0, .inr (12, fsMM mi mr)), ((mr 13), .inl (km_tape, 1600, .inl fm_tape))]) [0, 1] (by decide) rfl
      have hFc := va_free (wc := [(h0, .inr (12, fsMM mi mr)), ((mr 13), .inl (km_tape, 1600, .inl fm_tape))]) hD hS hA [0, 1] rfl
      refine va_callv (va_runV (As := []) (rest := []) ⟨hx, hb, hml, hown, hts⟩ (sX12_nextP l dC dI s.heap.size h0 mi mr km_tape fm_tape gmi_0 gmi_1 gmi_2 gmi_4 gmi_7 gmi_10 gmi_17 gmi_23 gmi_24 gmi_26 gmi_29 gmi_30 gmi_32 (gi_w g_50 (by decide)) gmi_37 gmi_41 gmi_50 gmi_51 gmi_56 (show (mi 29).toInt ≤ (mi 26).toInt from by have qgp1 := g_45.1; have rgp1 := g_45.2; have qgmi_33 := g_50.1; have rgmi_33 := g_50.2; have qgmi_30 := gmi_30.1; have rgmi_30 := gmi_30.2; have qgmi_29 := gmi_29.1; have rgmi_29 := gmi_29.2; have qgmi_26 := gmi_26.1; have rgmi_26 := gmi_26.2; omega)) (cwV 0 hts (gz_gV mGB_131 mGB_132 mGB_133 mGB_1 mGB_134 goodGB) rfl rfl rfl (by decide +kernel) ⟨Nat.le_of_ble_eq_true rfl, Nat.le_of_ble_eq_true rfl⟩) ⟨fun a U g mk q => by obtain ⟨q0, q1, qP, qK, qD⟩ := q; exact ⟨q0, q1, qP, va_K.moved (u := U) (U := U.calling g mk a) (Vm.Alike.refl U.vm) qK, qD⟩, va_recv hKc hPc (ci := 12) (q0 := 0) rfl rfl, fun U hU hW => ⟨rfl, by rw [hU], by rw [hU]; exact hPc, va_K.moved hW.alike hKc, hDc.weaken (fun _ _ _ _ => trivial)⟩⟩ rfl rfl hl.1 rfl (lv_room (Nat.le_of_ble_eq_true rfl)) dX12_passes_17 ⟨Nat.zero_le _, Nat.zero_le _⟩) hS (fun q _ h => hFc q h) hFc (fun u t H1 locs ht hvm hw hB hz1 hk1 hS => ?_)
      obtain ⟨y_52, y_53, y_54, y_55, gy_52, gy_53, gy_55, hpr0_r_51, hpr1_r_51, hpr2_r_51, hpr3_r_51, hE, hP1, hD1⟩ := hB
      rw [ht] at hP1
      obtain ⟨hP, hD⟩ := va_join (wr := []) (w1 := [(h0, .inr (12, fsMM (upd (upd (upd (upd mi 29 y_52) 30 y_53) 31 y_54) 32 y_55) mr)), ((mr 13), .inl (km_tape, 1600, .inl fm_tape))]) hP hD [0, 1] [] rfl rfl (by decide) (by decide) hk1 hFc hP1 hD1
      have hpr0_r_51 : (mi 29).toInt ≤ y_53.toInt := hpr0_r_51
      have hpr1_r_51 : y_53.toInt ≤ y_52.toInt := hpr1_r_51
      have hpr2_r_51 : y_52.toInt ≤ (mi 26).toInt := hpr2_r_51
      have hpr3_r_51 : Hid ((y_54.toInt = 0 ∨ y_53.toInt < y_52.toInt)) := hpr3_r_51
      have hP := hP.sub (ws' := [(h0, .inr (12, fsMM (upd (upd (upd (upd mi 29 y_52) 30 y_53) 31 y_54) 32 y_55) mr)), ((mr 13), .inl (km_tape, 1600, .inl fm_tape))]) [0, 1] rfl
      have hD := hD.sub (ws' := [(h0, .inr (12, fsMM (upd (upd (upd (upd mi 29 y_52) 30 y_53) 31 y_54) 32 y_55) mr)), ((mr 13), .inl (km_tape, 1600, .inl fm_tape))]) [0, 1] (by decide) rfl
      have hF := gf_callm (a := (y_52, y_53, y_54, y_55)) hE hF (by first | with_reducible rfl | simp only [upd_same, upd_app, ↓reduceIte, Nat.reduceEqDiff])
      generalize H1 = H at hP hS ⊢
      exact W.vret hx hb hr (fun t ht hW => ⟨⟨(), rfl, trivial, (mi 27), (mi 28), y_52, y_53, y_54, y_55, (mi 33), gy_52, gy_53, gy_55, (gi_w g_50 (by decide)), (show (mi 30).toInt ≤ y_53.toInt from by have qgy_53 := gy_53.1; have rgy_53 := gy_53.2; have qgy_52 := gy_52.1; have rgy_52 := gy_52.2; have qgp1 := g_45.1; have rgp1 := g_45.2; have qgmi_33 := g_50.1; have rgmi_33 := g_50.2; have qgmi_30 := gmi_30.1; have rgmi_30 := gmi_30.2; have qgmi_29 := gmi_29.1; have rgmi_29 := gmi_29.2; have qgmi_26 := gmi_26.1; have rgmi_26 := gmi_26.2; omega), hpr1_r_51, hpr2_r_51, (Hid.un hpr3_r_51), (show (mi 33).toInt ≤ (mi 33).toInt from by have qgy_53 := gy_53.1; have rgy_53 := gy_53.2; have qgy_52 := gy_52.1; have rgy_52 := gy_52.2; have qgp1 := g_45.1; have rgp1 := g_45.2; have qgmi_33 := g_50.1; have rgmi_33 := g_50.2; have qgmi_30 := gmi_30.1; have rgmi_30 := gmi_30.2; have qgmi_29 := gmi_29.1; have rgmi_29 := gmi_29.2; have qgmi_26 := gmi_26.1; have rgmi_26 := gmi_26.2; omega), (show (p1.toInt = 1 ∨ (mi 33).toInt = 1) from by have qgy_53 := gy_53.1; have rgy_53 := gy_53.2; have qgy_52 := gy_52.1; have rgy_52 := gy_52.2; have qgp1 := g_45.1; have rgp1 := g_45.2; have qgmi_33 := g_50.1; have rgmi_33 := g_50.2; have qgmi_30 := gmi_30.1; have rgmi_30 := gmi_30.2; have qgmi_29 := gmi_29.1; have rgmi_29 := gmi_29.2; have qgmi_26 := gmi_26.1; have rgmi_26 := gmi_26.2; omega), (show ((mi 33).toInt = 1 ∨ (mi 29).toInt ≤ y_53.toInt) from by have qgy_53 := gy_53.1; have rgy_53 := gy_53.2; have qgy_52 := gy_52.1; have rgy_52 := gy_52.2; have qgp1 := g_45.1; have rgp1 := g_45.2; have qgmi_33 := g_50.1; have rgmi_33 := g_50.2; have qgmi_30 := gmi_30.1; have rgmi_30 := gmi_30.2; have qgmi_29 := gmi_29.1; have rgmi_29 := gmi_29.2; have qgmi_26 := gmi_26.1; have rgmi_26 := gmi_26.2; omega), hF.trans hR9.symm, by rw [ht]; exact hP, hD⟩, hS.F ht⟩) hS.2.2 dX12_passes_20
  · have hF := gf_pos c_43 hF
    have hc_56 : p1.toInt = 0 := by have h9 := congrArg Int32.toInt c_43; rw [show (0 : Int32).toInt = 0 from by decide] at h9; exact h9
    have g_57 : gi p1 0 0 := gi_eq c_43 (gi_c 0 0 (by decide))
    refine lv_aload_n hx hb dX12_passes_4 rfl (lv_at hl 0 rfl) ?_
    refine lv_iconst (v := 1) hx hb dX12_passes_5 (by decide) ?_
    have hPc := hP.sub (ws' := [(h0, .inr (12, fsMM mi mr))]) [0] rfl
    have hKc := hK.sub (tys' := []) [] rfl
    have hDc := hD.sub (ws' := [(h0, .inr (12, fsMM mi mr))]) [0] (by decide) rfl
    have hFc := va_free (wc := [(h0, .inr (12, fsMM mi mr))]) hD hS hA [0] rfl
    refine va_callv (va_runV (As := [.int 1]) (rest := []) ⟨hx, hb, hml, hown, hts⟩ (sX12_faultsP l dC dI s.heap.size h0 mi mr 1 gmi_0 gmi_1 gmi_2 gmi_4 gmi_7 gmi_10 gmi_17 gmi_23 gmi_24 gmi_26 gmi_29 gmi_30 gmi_32 gmi_33 gmi_37 gmi_41 gmi_50 gmi_51 gmi_56) (cwV 1 hts (gz_gV mGB_165 mGB_166 mGB_167 mGB_1 mGB_168 goodGB) rfl rfl rfl (by decide +kernel) ⟨Nat.le_of_ble_eq_true rfl, Nat.le_of_ble_eq_true rfl⟩) ⟨fun a U g mk q => by obtain ⟨q0, q1, qP, qK, qD⟩ := q; exact ⟨q0, q1, qP, va_K.moved (u := U) (U := U.calling g mk a) (Vm.Alike.refl U.vm) qK, qD⟩, va_recv hKc hPc (ci := 12) (q0 := 0) rfl rfl, fun U hU hW => ⟨rfl, by rw [hU], by rw [hU]; exact hPc, va_K.moved hW.alike hKc, hDc.weaken (fun _ _ _ _ => trivial)⟩⟩ rfl rfl hl.1 rfl (lv_room (Nat.le_of_ble_eq_true rfl)) dX12_passes_6 ⟨Nat.zero_le _, Nat.zero_le _⟩) hS (fun q _ h => hFc q h) hFc (fun u t H1 locs ht hvm hw hB hz1 hk1 hS => ?_)
    obtain ⟨y_59, y_60, y_61, gy_61, hpr0_r_58, hE, hP1, hD1⟩ := hB
    rw [ht] at hP1
    obtain ⟨hP, hD⟩ := va_join (wr := [((mr 13), .inl (km_tape, 1600, .inl fm_tape))]) (w1 := [(h0, .inr (12, fsMM (upd (upd (upd mi 27 y_59) 28 y_60) 33 y_61) mr))]) hP hD [0] [1] rfl rfl (by decide) (by decide) hk1 hFc hP1 hD1
    have hpr0_r_58 : y_61.toInt = 1 := hpr0_r_58
    have g_62 : gi y_61 1 1 := ⟨by omega, by omega⟩
    have hP := hP.sub (ws' := [(h0, .inr (12, fsMM (upd (upd (upd mi 27 y_59) 28 y_60) 33 y_61) mr)), ((mr 13), .inl (km_tape, 1600, .inl fm_tape))]) [1, 0] rfl
    have hD := hD.sub (ws' := [(h0, .inr (12, fsMM (upd (upd (upd mi 27 y_59) 28 y_60) 33 y_61) mr)), ((mr 13), .inl (km_tape, 1600, .inl fm_tape))]) [1, 0] (by decide) rfl
    have hF := gf_callm (a := (y_59, y_60, y_61)) hE hF (by first | with_reducible rfl | simp only [upd_same, upd_app, ↓reduceIte, Nat.reduceEqDiff])
    generalize H1 = H at hP hS ⊢
    refine lv_aload_n hx hb dX12_passes_9 rfl (lv_at hl 0 rfl) ?_
    refine va_get (D := (dC, dI)) (ci := 12) (v := .int y_61) (C := RX12) (T := TX12) (N := 57) hx hb hts (fun w h => List.mem_cons_of_mem _ (jnGB_X12 w h)) hown hK hP 0 rfl rfl 33 (by decide) (hts _ (List.mem_cons_of_mem _ mGB_114)) (fun _ h9 => h9) rfl dX12_passes_10 ?_
    refine lv_if_ne (tgt := 20) hx hb dX12_passes_13 (by decide) (fun c_63 => ?_) (fun c_63 => absurd c_63 (gi_no_eq g_62 (gi_c 0 0 (by decide)) (by decide)))
    have hF := gf_neg c_63 hF
    exact W.vret hx hb hr (fun t ht hW => ⟨⟨(), rfl, trivial, y_59, y_60, (mi 29), (mi 30), (mi 31), (mi 32), y_61, gmi_29, gmi_30, gmi_32, (gi_w g_62 (by decide)), (show (mi 30).toInt ≤ (mi 30).toInt from by have qgy_61 := g_62.1; have rgy_61 := g_62.2; have qgp1 := g_57.1; have rgp1 := g_57.2; have qgmi_30 := gmi_30.1; have rgmi_30 := gmi_30.2; have qgmi_29 := gmi_29.1; have rgmi_29 := gmi_29.2; have qgmi_26 := gmi_26.1; have rgmi_26 := gmi_26.2; omega), (show (mi 30).toInt ≤ (mi 29).toInt from by have qgy_61 := g_62.1; have rgy_61 := g_62.2; have qgp1 := g_57.1; have rgp1 := g_57.2; have qgmi_30 := gmi_30.1; have rgmi_30 := gmi_30.2; have qgmi_29 := gmi_29.1; have rgmi_29 := gmi_29.2; have qgmi_26 := gmi_26.1; have rgmi_26 := gmi_26.2; omega), (show (mi 29).toInt ≤ (mi 26).toInt from by have qgy_61 := g_62.1; have rgy_61 := g_62.2; have qgp1 := g_57.1; have rgp1 := g_57.2; have qgmi_30 := gmi_30.1; have rgmi_30 := gmi_30.2; have qgmi_29 := gmi_29.1; have rgmi_29 := gmi_29.2; have qgmi_26 := gmi_26.1; have rgmi_26 := gmi_26.2; omega), (show ((mi 31).toInt = 0 ∨ (mi 30).toInt < (mi 29).toInt) from by have qgy_61 := g_62.1; have rgy_61 := g_62.2; have qgp1 := g_57.1; have rgp1 := g_57.2; have qgmi_30 := gmi_30.1; have rgmi_30 := gmi_30.2; have qgmi_29 := gmi_29.1; have rgmi_29 := gmi_29.2; have qgmi_26 := gmi_26.1; have rgmi_26 := gmi_26.2; omega), (show (mi 33).toInt ≤ y_61.toInt from by have qgy_61 := g_62.1; have rgy_61 := g_62.2; have qgp1 := g_57.1; have rgp1 := g_57.2; have qgmi_33 := gmi_33.1; have rgmi_33 := gmi_33.2; have qgmi_30 := gmi_30.1; have rgmi_30 := gmi_30.2; have qgmi_29 := gmi_29.1; have rgmi_29 := gmi_29.2; have qgmi_26 := gmi_26.1; have rgmi_26 := gmi_26.2; omega), (show (p1.toInt = 1 ∨ y_61.toInt = 1) from by have qgy_61 := g_62.1; have rgy_61 := g_62.2; have qgp1 := g_57.1; have rgp1 := g_57.2; have qgmi_30 := gmi_30.1; have rgmi_30 := gmi_30.2; have qgmi_29 := gmi_29.1; have rgmi_29 := gmi_29.2; have qgmi_26 := gmi_26.1; have rgmi_26 := gmi_26.2; omega), (show (y_61.toInt = 1 ∨ (mi 29).toInt ≤ (mi 30).toInt) from by have qgy_61 := g_62.1; have rgy_61 := g_62.2; have qgp1 := g_57.1; have rgp1 := g_57.2; have qgmi_30 := gmi_30.1; have rgmi_30 := gmi_30.2; have qgmi_29 := gmi_29.1; have rgmi_29 := gmi_29.2; have qgmi_26 := gmi_26.1; have rgmi_26 := gmi_26.2; omega), hF.trans hR9.symm, by rw [ht]; exact hP, hD⟩, hS.F ht⟩) hS.2.2 dX12_passes_20
theorem dX12_number_0 : decode cX12_number 0 = .ok (.aload_n 0, 1) := by decide +kernel
theorem dX12_number_1 : decode cX12_number 1 = .ok (.getfield 161, 3) := by decide +kernel
theorem dX12_number_4 : decode cX12_number 4 = .ok (.istore_n 3, 1) := by decide +kernel
theorem dX12_number_5 : decode cX12_number 5 = .ok (.aload_n 0, 1) := by decide +kernel
theorem dX12_number_6 : decode cX12_number 6 = .ok (.getfield 174, 3) := by decide +kernel
theorem dX12_number_9 : decode cX12_number 9 = .ok (.ifCond .eq 5, 3) := by decide +kernel
theorem dX12_number_12 : decode cX12_number 12 = .ok (.iload_n 1, 1) := by decide +kernel
theorem dX12_number_13 : decode cX12_number 13 = .ok (.ireturn, 1) := by decide +kernel
theorem dX12_number_14 : decode cX12_number 14 = .ok (.aload_n 0, 1) := by decide +kernel
theorem dX12_number_15 : decode cX12_number 15 = .ok (.getfield 164, 3) := by decide +kernel
theorem dX12_number_18 : decode cX12_number 18 = .ok (.iconst 2, 1) := by decide +kernel
theorem dX12_number_19 : decode cX12_number 19 = .ok (.if_icmp .eq 11, 3) := by decide +kernel
theorem dX12_number_22 : decode cX12_number 22 = .ok (.aload_n 0, 1) := by decide +kernel
theorem dX12_number_23 : decode cX12_number 23 = .ok (.iconst 1, 1) := by decide +kernel
theorem dX12_number_24 : decode cX12_number 24 = .ok (.invokevirtual 194, 3) := by decide +kernel
theorem dX12_number_27 : decode cX12_number 27 = .ok (.goto 20, 3) := by decide +kernel
theorem dX12_number_30 : decode cX12_number 30 = .ok (.iload_n 3, 1) := by decide +kernel
theorem dX12_number_31 : decode cX12_number 31 = .ok (.i2l, 1) := by decide +kernel
theorem dX12_number_32 : decode cX12_number 32 = .ok (.iload_n 1, 1) := by decide +kernel
theorem dX12_number_33 : decode cX12_number 33 = .ok (.i2l, 1) := by decide +kernel
theorem dX12_number_34 : decode cX12_number 34 = .ok (.iload_n 2, 1) := by decide +kernel
theorem dX12_number_35 : decode cX12_number 35 = .ok (.i2l, 1) := by decide +kernel
theorem dX12_number_36 : decode cX12_number 36 = .ok (.invokestatic 102, 3) := by decide +kernel
theorem dX12_number_39 : decode cX12_number 39 = .ok (.ifCond .ne 8, 3) := by decide +kernel
theorem dX12_number_42 : decode cX12_number 42 = .ok (.aload_n 0, 1) := by decide +kernel
theorem dX12_number_43 : decode cX12_number 43 = .ok (.iconst 2, 1) := by decide +kernel
theorem dX12_number_44 : decode cX12_number 44 = .ok (.invokevirtual 194, 3) := by decide +kernel
theorem dX12_number_47 : decode cX12_number 47 = .ok (.aload_n 0, 1) := by decide +kernel
theorem dX12_number_48 : decode cX12_number 48 = .ok (.iconst 1, 1) := by decide +kernel
theorem dX12_number_49 : decode cX12_number 49 = .ok (.invokevirtual 205, 3) := by decide +kernel
theorem dX12_number_52 : decode cX12_number 52 = .ok (.iload_n 3, 1) := by decide +kernel
theorem dX12_number_53 : decode cX12_number 53 = .ok (.ireturn, 1) := by decide +kernel
noncomputable def bfX12_number_47 (mi : Nat → Int32) (fm_tape : Nat → Int32) (p1 : Int32) (p2 : Int32) (v3 : Int32) (w0_27 : Int32) (w0_28 : Int32) (w0_29 : Int32) (w0_30 : Int32) (w0_31 : Int32) (w0_32 : Int32) (w0_33 : Int32) : Int32 × Int32 × Int32 × Int32 × Int32 × Int32 × Int32 × Int32 := cal (fun o4 => (v3, o4.1, o4.2.1, o4.2.2.1, o4.2.2.2.1, o4.2.2.2.2.1, o4.2.2.2.2.2.1, o4.2.2.2.2.2.2)) (fX12_passes (upd (upd (upd (upd (upd (upd (upd mi 27 w0_27) 28 w0_28) 29 w0_29) 30 w0_30) 31 w0_31) 32 w0_32) 33 w0_33) fm_tape (1 : Int32))
noncomputable def fX12_number (mi : Nat → Int32) (fm_tape : Nat → Int32) (p1 : Int32) (p2 : Int32) : Int32 × Int32 × Int32 × Int32 × Int32 × Int32 × Int32 × Int32 := if (mi 33) = (0 : Int32) then (if (mi 31) = (2 : Int32) then (cal (fun o1 => if o1 = (0 : Int32) then (cal (fun o2 => bfX12_number_47 mi fm_tape p1 p2 (mi 32) o2.1 o2.2.1 (mi 29) (mi 30) (mi 31) (mi 32) o2.2.2) (fX12_faults mi (2 : Int32))) else (bfX12_number_47 mi fm_tape p1 p2 (mi 32) (mi 27) (mi 28) (mi 29) (mi 30) (mi 31) (mi 32) (mi 33))) (fX12_in ((mi 32).toInt64) (p1.toInt64) (p2.toInt64))) else (cal (fun o3 => bfX12_number_47 mi fm_tape p1 p2 (mi 32) o3.1 o3.2.1 (mi 29) (mi 30) (mi 31) (mi 32) o3.2.2) (fX12_faults mi (1 : Int32)))) else (p1, (mi 27), (mi 28), (mi 29), (mi 30), (mi 31), (mi 32), (mi 33))
set_option maxHeartbeats 4000000 in
set_option maxRecDepth 100000 in
theorem sX12_numberP (l : Launch) (dC : Nat → ClassId) (dI : Nat → Nat → Nat) (sz : Nat) (h0 : Nat) (mi : Nat → Int32) (mr : Nat → Nat) (km_tape : ClassId) (fm_tape : Nat → Int32) (p1 : Int32) (p2 : Int32) (gmi_0 : gi (mi 0) 0 100000) (gmi_1 : gi (mi 1) 0 100000) (gmi_2 : gi (mi 2) 0 100000) (gmi_4 : gi (mi 4) 0 1) (gmi_7 : gi (mi 7) 0 6) (gmi_10 : gi (mi 10) 0 24) (gmi_17 : gi (mi 17) 0 8) (gmi_23 : gi (mi 23) 0 300) (gmi_24 : gi (mi 24) 0 1) (gmi_26 : gi (mi 26) 0 1600) (gmi_29 : gi (mi 29) 0 1600) (gmi_30 : gi (mi 30) 0 1600) (gmi_32 : gi (mi 32) 0 100000) (gmi_33 : gi (mi 33) 0 1) (gmi_37 : gi (mi 37) 0 1) (gmi_41 : gi (mi 41) 0 24) (gmi_50 : gi (mi 50) 0 1) (gmi_51 : gi (mi 51) 0 1) (gmi_56 : gi (mi 56) 0 80) (gp1 : gi p1 0 100000) (hpq0 : (mi 30).toInt ≤ (mi 29).toInt) (hpq1 : (mi 29).toInt ≤ (mi 26).toInt) (hpq2 : ((mi 31).toInt = 0 ∨ (mi 30).toInt < (mi 29).toInt)) : Met l yX12_number (.code yX12_number cX12_number 4 (some .int) :: wsGB) ({ frames := 4, cells := 0, slots := 0, locals := 88 }) (va_Pc [.ref h0, .int p1, .int p2] (fun U => U.heap.size = sz ∧ va_P (dC, dI) vwCl [(h0, .inr (12, fsMM mi mr)), ((mr 13), .inl (km_tape, 1600, .inl fm_tape))] U.heap ∧ va_K (dC, dI) vwCl [(km_tape, .int)] U ∧ va_D (fun _ => True) [(h0, .inr (12, fsMM mi mr)), ((mr 13), .inl (km_tape, 1600, .inl fm_tape))])) (va_Qi (fun (r : Int32) (u : Int32) => r = u ∧ gi r 0 100000) (fun r t => ∃ (w0_27 : Int32) (w0_28 : Int32) (w0_29 : Int32) (w0_30 : Int32) (w0_31 : Int32) (w0_32 : Int32) (w0_33 : Int32), gi w0_29 0 1600 ∧ gi w0_30 0 1600 ∧ gi w0_32 0 100000 ∧ gi w0_33 0 1 ∧ (mi 30).toInt ≤ w0_30.toInt ∧ w0_30.toInt ≤ w0_29.toInt ∧ w0_29.toInt ≤ (mi 26).toInt ∧ (w0_31.toInt = 0 ∨ w0_30.toInt < w0_29.toInt) ∧ (mi 33).toInt ≤ w0_33.toInt ∧ (w0_33.toInt = 1 ∨ (p1.toInt ≤ r.toInt ∧ r.toInt ≤ p2.toInt)) ∧ (r, w0_27, w0_28, w0_29, w0_30, w0_31, w0_32, w0_33) = fX12_number mi fm_tape p1 p2 ∧ va_P (dC, dI) vwCl [(h0, .inr (12, fsMM (upd (upd (upd (upd (upd (upd (upd mi 27 w0_27) 28 w0_28) 29 w0_29) 30 w0_30) 31 w0_31) 32 w0_32) 33 w0_33) mr)), ((mr 13), .inl (km_tape, 1600, .inl fm_tape))] t.heap ∧ va_D (va_A [(h0, .inr (12, fsMM mi mr)), ((mr 13), .inl (km_tape, 1600, .inl fm_tape))] sz) [(h0, .inr (12, fsMM (upd (upd (upd (upd (upd (upd (upd mi 27 w0_27) 28 w0_28) 29 w0_29) 30 w0_30) 31 w0_31) 32 w0_32) 33 w0_33) mr)), ((mr 13), .inl (km_tape, 1600, .inl fm_tape))]) (va_A [(h0, .inr (12, fsMM mi mr)), ((mr 13), .inl (km_tape, 1600, .inl fm_tape))] sz)) 0 0 (va_A [(h0, .inr (12, fsMM mi mr)), ((mr 13), .inl (km_tape, 1600, .inl fm_tape))] sz) := by
  refine Met.ofW (cc := cX12_number) (maxL := 4) (ret := (some .int)) (by decide) rfl ?_
  intro p e s m args below meth c s₁ B hml hv
  obtain ⟨rfl, hsz, hP, hK, hD0⟩ := hv
  have hx := B.exec
  have hb := B.bytes
  have hr := B.returns
  have hts := atoms_spec (ws := (.code yX12_number cX12_number 4 (some .int) :: wsGB)) B.pre
  have hown : s.vm.findClass RX12 = some m.cls := findClass_of_methodNamed B.named
  have hlocks := B.notSynchronized
  subst hsz
  have hD := hD0.self (sz := s.heap.size)
  generalize hAe : va_A [(h0, .inr (12, fsMM mi mr)), ((mr 13), .inl (km_tape, 1600, .inl fm_tape))] s.heap.size = A at hD ⊢
  have hA : ∀ q : Nat, s.heap.size ≤ q → A q := fun q h => by rw [← hAe]; exact Or.inr h
  have hS : va_S A s.heap s.heap [] := va_S.rf
  have hl := lv_entry ([.ref h0, .int p1, .int p2]) (n := 4) (Nat.le_of_ble_eq_true rfl)
  rw [lg_entry_eq]
  generalize (lg_sl ([.ref h0, .int p1, .int p2]) ++ List.replicate (4 - (lg_sl ([.ref h0, .int p1, .int p2])).length) Slot.unset).toArray = ls at hl ⊢
  have hl : lv_has ls 4 [(0, .ref h0), (1, .int p1), (2, .int p2)] := hl
  obtain ⟨RES, hF⟩ : ∃ R9, fX12_number mi fm_tape p1 p2 = R9 := ⟨_, rfl⟩
  have hR9 := hF
  refine lv_aload_n hx hb dX12_number_0 rfl (lv_at hl 0 rfl) ?_
  refine va_get (D := (dC, dI)) (ci := 12) (v := .int (mi 32)) (C := RX12) (T := TX12) (N := 57) hx hb hts (fun w h => List.mem_cons_of_mem _ (jnGB_X12 w h)) hown hK hP 0 rfl rfl 32 (by decide) (hts _ (List.mem_cons_of_mem _ mGB_136)) (fun _ h9 => h9) rfl dX12_number_1 ?_
  refine lv_istore_n (lv' := [(3, .int (mi 32)), (0, .ref h0), (1, .int p1), (2, .int p2)]) hx hb dX12_number_4 rfl hl (by decide) rfl (fun ls hl => ?_)
  refine lv_aload_n hx hb dX12_number_5 rfl (lv_at hl 1 rfl) ?_
  refine va_get (D := (dC, dI)) (ci := 12) (v := .int (mi 33)) (C := RX12) (T := TX12) (N := 57) hx hb hts (fun w h => List.mem_cons_of_mem _ (jnGB_X12 w h)) hown hK hP 0 rfl rfl 33 (by decide) (hts _ (List.mem_cons_of_mem _ mGB_114)) (fun _ h9 => h9) rfl dX12_number_6 ?_
  refine lv_if_eq (tgt := 14) hx hb dX12_number_9 (by decide) (fun c_113 => ?_) (fun c_113 => ?_)
  · have hF := gf_pos c_113 hF
    have hc_114 : (mi 33).toInt = 0 := by have h9 := congrArg Int32.toInt c_113; rw [show (0 : Int32).toInt = 0 from by decide] at h9; exact h9
    have g_115 : gi (mi 33) 0 0 := gi_eq c_113 (gi_c 0 0 (by decide))
    refine lv_aload_n hx hb dX12_number_14 rfl (lv_at hl 1 rfl) ?_
    refine va_get (D := (dC, dI)) (ci := 12) (v := .int (mi 31)) (C := RX12) (T := TX12) (N := 57) hx hb hts (fun w h => List.mem_cons_of_mem _ (jnGB_X12 w h)) hown hK hP 0 rfl rfl 31 (by decide) (hts _ (List.mem_cons_of_mem _ mGB_116)) (fun _ h9 => h9) rfl dX12_number_15 ?_
    refine lv_iconst (v := 2) hx hb dX12_number_18 (by decide) ?_
    refine lv_icmp_eq (tgt := 30) hx hb dX12_number_19 (by decide) (fun c_116 => ?_) (fun c_116 => ?_)
    · have hF := gf_pos c_116 hF
      have hc_117 : (mi 31).toInt = 2 := by have h9 := congrArg Int32.toInt c_116; rw [show (2 : Int32).toInt = 2 from by decide] at h9; exact h9
      have g_118 : gi (mi 31) 2 2 := gi_eq c_116 (gi_c 2 2 (by decide))
      refine lv_iload_n hx hb dX12_number_30 rfl (lv_at hl 0 rfl) ?_
      refine lv_i2l (v := ((mi 32)).toInt64) hx hb dX12_number_31 rfl ?_
      refine lv_topl (fun l_119 el_119 => ?_)
      refine lv_iload_n hx hb dX12_number_32 rfl (lv_at hl 2 rfl) ?_
      refine lv_i2l (v := (p1).toInt64) hx hb dX12_number_33 rfl ?_
      refine lv_topl (fun l_120 el_120 => ?_)
      refine lv_iload_n hx hb dX12_number_34 rfl (lv_at hl 3 rfl) ?_
      refine lv_i2l (v := (p2).toInt64) hx hb dX12_number_35 rfl ?_
      refine lv_topl (fun l_121 el_121 => ?_)
      have hPc := hP.sub (ws' := []) [] rfl
      have hKc := hK.sub (tys' := []) [] rfl
      refine va_calli (va_runS (As := [.long l_119, .long l_120, .long l_121]) (rest := []) ⟨hx, hb, hml, hown, hts⟩ (sX12_in l dC dI l_119 l_120 l_121) (cwS 3 hts (gz_gS mGB_47 mGB_48 mGB_1 mGB_49 goodGB) rfl rfl rfl (by decide +kernel) ⟨Nat.le_of_ble_eq_true rfl, Nat.le_of_ble_eq_true rfl⟩) ⟨fun a U g mk q => by obtain ⟨q0, qP, qK⟩ := q; exact ⟨q0, qP, va_K.moved (u := U) (U := U.calling g mk a) (Vm.Alike.refl U.vm) qK⟩, fun U hU hW => ⟨rfl, by rw [hU]; exact hPc, va_K.moved hW.alike hKc⟩⟩ rfl rfl hl.1 rfl (lv_room (Nat.le_of_ble_eq_true rfl)) dX12_number_36 ⟨Nat.zero_le _, Nat.zero_le _⟩) hS (fun q _ h => h.elim) (fun q h => h.elim) (fun r_122 u t H1 locs ht hvm hw hB hz1 hk1 hS => ?_)
      obtain ⟨hw, hE⟩ := hw
      have hP := gz_keep hP hk1
      have hF := gf_call (a := r_122) (by rw [el_121, el_120, el_119] at hE; exact hE) hF
      generalize H1 = H at hP hS ⊢
      have gr_122 : gi r_122 0 1 := hw.1
      have hqr_122 := hw.2
      refine lv_if_ne (tgt := 47) hx hb dX12_number_39 (by decide) (fun c_123 => ?_) (fun c_123 => ?_)
      · have hF := gf_neg c_123 hF
        have hc_124 : r_122.toInt ≠ 0 := fun h9 => c_123 (Int32.toInt_inj.mp (by rw [show (0 : Int32).toInt = 0 from by decide]; exact h9))
        have g_125 : gi r_122 1 1 := gi_ne_lo c_123 gr_122 (gi_c 0 0 (by decide)) (by decide)
        have hin_126 := gz_inT (A := p1.toInt) (B := p2.toInt) (hqr_122.1 (gz_one g_125)) el_119 (gz_l2e el_120) (gz_l2e el_121)
        refine lv_aload_n hx hb dX12_number_47 rfl (lv_at hl 1 rfl) ?_
        refine lv_iconst (v := 1) hx hb dX12_number_48 (by decide) ?_
        have hPc := hP.sub (ws' := [(h0, .inr (12, fsMM mi mr)), ((mr 13), .inl (km_tape, 1600, .inl fm_tape))]) [0, 1] rfl
        have hKc := hK.sub (tys' := [(km_tape, .int)]) [0] rfl
        have hDc := hD.sub (ws' := [(h0, .inr (12, fsMM mi mr)), ((mr 13), .inl (km_tape, 1600, .inl fm_tape))]) [0, 1] (by decide) rfl
        have hFc := va_free (wc := [(h0, .inr (12, fsMM mi mr)), ((mr 13), .inl (km_tape, 1600, .inl fm_tape))]) hD hS hA [0, 1] rfl
        refine va_callv (va_runV (As := [.int 1]) (rest := []) ⟨hx, hb, hml, hown, hts⟩ (sX12_passesP l dC dI H.size h0 mi mr km_tape fm_tape 1 gmi_0 gmi_1 gmi_2 gmi_4 gmi_7 gmi_10 gmi_17 gmi_23 gmi_24 gmi_26 gmi_29 gmi_30 gmi_32 (gi_w g_115 (by decide)) gmi_37 gmi_41 gmi_50 gmi_51 gmi_56 (gi_w (gi_c 1 1 (by decide)) (by decide)) (show (mi 30).toInt ≤ (mi 29).toInt from by have qgr_122 := g_125.1; have rgr_122 := g_125.2; have qgmi_33 := g_115.1; have rgmi_33 := g_115.2; have qgmi_31 := g_118.1; have rgmi_31 := g_118.2; have qgmi_30 := gmi_30.1; have rgmi_30 := gmi_30.2; have qgmi_29 := gmi_29.1; have rgmi_29 := gmi_29.2; have qgmi_26 := gmi_26.1; have rgmi_26 := gmi_26.2; omega) (show (mi 29).toInt ≤ (mi 26).toInt from by have qgr_122 := g_125.1; have rgr_122 := g_125.2; have qgmi_33 := g_115.1; have rgmi_33 := g_115.2; have qgmi_31 := g_118.1; have rgmi_31 := g_118.2; have qgmi_30 := gmi_30.1; have rgmi_30 := gmi_30.2; have qgmi_29 := gmi_29.1; have rgmi_29 := gmi_29.2; have qgmi_26 := gmi_26.1; have rgmi_26 := gmi_26.2; omega) (show ((mi 31).toInt = 0 ∨ (mi 30).toInt < (mi 29).toInt) from by have qgr_122 := g_125.1; have rgr_122 := g_125.2; have qgmi_33 := g_115.1; have rgmi_33 := g_115.2; have qgmi_31 := g_118.1; have rgmi_31 := g_118.2; have qgmi_30 := gmi_30.1; have rgmi_30 := gmi_30.2; have qgmi_29 := gmi_29.1; have rgmi_29 := gmi_29.2; have qgmi_26 := gmi_26.1; have rgmi_26 := gmi_26.2; omega)) (cwV 1 hts (gz_gV mGB_161 mGB_162 mGB_163 mGB_1 mGB_164 goodGB) rfl rfl rfl (by decide +kernel) ⟨Nat.le_of_ble_eq_true rfl, Nat.le_of_ble_eq_true rfl⟩) ⟨fun a U g mk q => by obtain ⟨q0, q1, qP, qK, qD⟩ := q; exact ⟨q0, q1, qP, va_K.moved (u := U) (U := U.calling g mk a) (Vm.Alike.refl U.vm) qK, qD⟩, va_recv hKc hPc (ci := 12) (q0 := 0) rfl rfl, fun U hU hW => ⟨rfl, by rw [hU], by rw [hU]; exact hPc, va_K.moved hW.alike hKc, hDc.weaken (fun _ _ _ _ => trivial)⟩⟩ rfl rfl hl.1 rfl (lv_room (Nat.le_of_ble_eq_true rfl)) dX12_number_49 ⟨Nat.zero_le _, Nat.zero_le _⟩) hS (fun q _ h => hFc q h) hFc (fun u t H1 locs ht hvm hw hB hz1 hk1 hS => ?_)
        obtain ⟨y_128, y_129, y_130, y_131, y_132, y_133, y_134, gy_130, gy_131, gy_133, gy_134, hpr0_r_127, hpr1_r_127, hpr2_r_127, hpr3_r_127, hpr4_r_127, hpr5_r_127, hpr6_r_127, hE, hP1, hD1⟩ := hB
        rw [ht] at hP1
        obtain ⟨hP, hD⟩ := va_join (wr := []) (w1 := [(h0, .inr (12, fsMM (upd (upd (upd (upd (upd (upd (upd mi 27 y_128) 28 y_129) 29 y_130) 30 y_131) 31 y_132) 32 y_133) 33 y_134) mr)), ((mr 13), .inl (km_tape, 1600, .inl fm_tape))]) hP hD [0, 1] [] rfl rfl (by decide) (by decide) hk1 hFc hP1 hD1
        have hpr0_r_127 : (mi 30).toInt ≤ y_131.toInt := hpr0_r_127
        have hpr1_r_127 : y_131.toInt ≤ y_130.toInt := hpr1_r_127
        have hpr2_r_127 : y_130.toInt ≤ (mi 26).toInt := hpr2_r_127
        have hpr3_r_127 : Hid ((y_132.toInt = 0 ∨ y_131.toInt < y_130.toInt)) := hpr3_r_127
        have hpr4_r_127 : (mi 33).toInt ≤ y_134.toInt := hpr4_r_127
        have hpr5_r_127 : Hid (((1 : Int) = 1 ∨ y_134.toInt = 1)) := by have h9 : ((1 : Int32).toInt = 1 ∨ y_134.toInt = 1) := hpr5_r_127; rw [show (1 : Int32).toInt = 1 from by decide] at h9; exact h9
        have hpr6_r_127 : Hid ((y_134.toInt = 1 ∨ (mi 29).toInt ≤ y_131.toInt)) := hpr6_r_127
        have hP := hP.sub (ws' := [(h0, .inr (12, fsMM (upd (upd (upd (upd (upd (upd (upd mi 27 y_128) 28 y_129) 29 y_130) 30 y_131) 31 y_132) 32 y_133) 33 y_134) mr)), ((mr 13), .inl (km_tape, 1600, .inl fm_tape))]) [0, 1] rfl
        have hD := hD.sub (ws' := [(h0, .inr (12, fsMM (upd (upd (upd (upd (upd (upd (upd mi 27 y_128) 28 y_129) 29 y_130) 30 y_131) 31 y_132) 32 y_133) 33 y_134) mr)), ((mr 13), .inl (km_tape, 1600, .inl fm_tape))]) [0, 1] (by decide) rfl
        have hF := gf_callm (a := (y_128, y_129, y_130, y_131, y_132, y_133, y_134)) hE hF (by first | with_reducible rfl | simp only [upd_same, upd_app, ↓reduceIte, Nat.reduceEqDiff])
        generalize H1 = H at hP hS ⊢
        refine lv_iload_n hx hb dX12_number_52 rfl (lv_at hl 0 rfl) ?_
        exact W.iret (v := (mi 32)) hx hb hr (fun t ht hW => ⟨⟨(mi 32), (mi 32), rfl, ⟨rfl, gmi_32⟩, y_128, y_129, y_130, y_131, y_132, y_133, y_134, gy_130, gy_131, gy_133, gy_134, hpr0_r_127, hpr1_r_127, hpr2_r_127, (Hid.un hpr3_r_127), hpr4_r_127, (show (y_134.toInt = 1 ∨ (p1.toInt ≤ (mi 32).toInt ∧ (mi 32).toInt ≤ p2.toInt)) from by by_cases h9 : y_134.toInt = 1; exact Or.inl h9; refine Or.inr ?_; have lgmi_33 := g_115.1; have mgmi_33 := g_115.2; have lgy_134 := gy_134.1; have mgy_134 := gy_134.2; have f0 := Hid.resL hpr6_r_127 (by omega); have qgy_134 := gy_134.1; have rgy_134 := gy_134.2; have qgy_131 := gy_131.1; have rgy_131 := gy_131.2; have qgy_130 := gy_130.1; have rgy_130 := gy_130.2; have qgr_122 := g_125.1; have rgr_122 := g_125.2; have qgp1 := gp1.1; have rgp1 := gp1.2; have qgmi_33 := g_115.1; have rgmi_33 := g_115.2; have qgmi_32 := gmi_32.1; have rgmi_32 := gmi_32.2; have qgmi_31 := g_118.1; have rgmi_31 := g_118.2; have qgmi_30 := gmi_30.1; have rgmi_30 := gmi_30.2; have qgmi_29 := gmi_29.1; have rgmi_29 := gmi_29.2; have qgmi_26 := gmi_26.1; have rgmi_26 := gmi_26.2; omega), hF.trans hR9.symm, by rw [ht]; exact hP, hD⟩, hS.F ht⟩) hS.2.2 dX12_number_53
      · have hF := gf_pos c_123 hF
        have hc_135 : r_122.toInt = 0 := by have h9 := congrArg Int32.toInt c_123; rw [show (0 : Int32).toInt = 0 from by decide] at h9; exact h9
        have g_136 : gi r_122 0 0 := gi_eq c_123 (gi_c 0 0 (by decide))
        have hno_137 := gz_inF (A := p1.toInt) (B := p2.toInt) (hqr_122.2 (gz_zero1 g_136)) el_119 (gz_l2e el_120) (gz_l2e el_121)
        refine lv_aload_n hx hb dX12_number_42 rfl (lv_at hl 1 rfl) ?_
        refine lv_iconst (v := 2) hx hb dX12_number_43 (by decide) ?_
        have hPc := hP.sub (ws' := [(h0, .inr (12, fsMM mi mr))]) [0] rfl
        have hKc := hK.sub (tys' := []) [] rfl
        have hDc := hD.sub (ws' := [(h0, .inr (12, fsMM mi mr))]) [0] (by decide) rfl
        have hFc := va_free (wc := [(h0, .inr (12, fsMM mi mr))]) hD hS hA [0] rfl
        refine va_callv (va_runV (As := [.int 2]) (rest := []) ⟨hx, hb, hml, hown, hts⟩ (sX12_faultsP l dC dI H.size h0 mi mr 2 gmi_0 gmi_1 gmi_2 gmi_4 gmi_7 gmi_10 gmi_17 gmi_23 gmi_24 gmi_26 gmi_29 gmi_30 gmi_32 (gi_w g_115 (by decide)) gmi_37 gmi_41 gmi_50 gmi_51 gmi_56) (cwV 1 hts (gz_gV mGB_165 mGB_166 mGB_167 mGB_1 mGB_168 goodGB) rfl rfl rfl (by decide +kernel) ⟨Nat.le_of_ble_eq_true rfl, Nat.le_of_ble_eq_true rfl⟩) ⟨fun a U g mk q => by obtain ⟨q0, q1, qP, qK, qD⟩ := q; exact ⟨q0, q1, qP, va_K.moved (u := U) (U := U.calling g mk a) (Vm.Alike.refl U.vm) qK, qD⟩, va_recv hKc hPc (ci := 12) (q0 := 0) rfl rfl, fun U hU hW => ⟨rfl, by rw [hU], by rw [hU]; exact hPc, va_K.moved hW.alike hKc, hDc.weaken (fun _ _ _ _ => trivial)⟩⟩ rfl rfl hl.1 rfl (lv_room (Nat.le_of_ble_eq_true rfl)) dX12_number_44 ⟨Nat.zero_le _, Nat.zero_le _⟩) hS (fun q _ h => hFc q h) hFc (fun u t H1 locs ht hvm hw hB hz1 hk1 hS => ?_)
        obtain ⟨y_139, y_140, y_141, gy_141, hpr0_r_138, hE, hP1, hD1⟩ := hB
        rw [ht] at hP1
        obtain ⟨hP, hD⟩ := va_join (wr := [((mr 13), .inl (km_tape, 1600, .inl fm_tape))]) (w1 := [(h0, .inr (12, fsMM (upd (upd (upd mi 27 y_139) 28 y_140) 33 y_141) mr))]) hP hD [0] [1] rfl rfl (by decide) (by decide) hk1 hFc hP1 hD1
        have hpr0_r_138 : y_141.toInt = 1 := hpr0_r_138
        have g_142 : gi y_141 1 1 := ⟨by omega, by omega⟩
        have hP := hP.sub (ws' := [(h0, .inr (12, fsMM (upd (upd (upd mi 27 y_139) 28 y_140) 33 y_141) mr)), ((mr 13), .inl (km_tape, 1600, .inl fm_tape))]) [1, 0] rfl
        have hD := hD.sub (ws' := [(h0, .inr (12, fsMM (upd (upd (upd mi 27 y_139) 28 y_140) 33 y_141) mr)), ((mr 13), .inl (km_tape, 1600, .inl fm_tape))]) [1, 0] (by decide) rfl
        have hF := gf_callm (a := (y_139, y_140, y_141)) hE hF (by first | with_reducible rfl | simp only [upd_same, upd_app, ↓reduceIte, Nat.reduceEqDiff])
        generalize H1 = H at hP hS ⊢
        refine lv_aload_n hx hb dX12_number_47 rfl (lv_at hl 1 rfl) ?_
        refine lv_iconst (v := 1) hx hb dX12_number_48 (by decide) ?_
        have hPc := hP.sub (ws' := [(h0, .inr (12, fsMM (upd (upd (upd mi 27 y_139) 28 y_140) 33 y_141) mr)), ((mr 13), .inl (km_tape, 1600, .inl fm_tape))]) [0, 1] rfl
        have hKc := hK.sub (tys' := [(km_tape, .int)]) [0] rfl
        have hDc := hD.sub (ws' := [(h0, .inr (12, fsMM (upd (upd (upd mi 27 y_139) 28 y_140) 33 y_141) mr)), ((mr 13), .inl (km_tape, 1600, .inl fm_tape))]) [0, 1] (by decide) rfl
        have hFc := va_free (wc := [(h0, .inr (12, fsMM (upd (upd (upd mi 27 y_139) 28 y_140) 33 y_141) mr)), ((mr 13), .inl (km_tape, 1600, .inl fm_tape))]) hD hS hA [0, 1] rfl
        refine va_callv (va_runV (As := [.int 1]) (rest := []) ⟨hx, hb, hml, hown, hts⟩ (sX12_passesP l dC dI H.size h0 (upd (upd (upd mi 27 y_139) 28 y_140) 33 y_141) mr km_tape fm_tape 1 gmi_0 gmi_1 gmi_2 gmi_4 gmi_7 gmi_10 gmi_17 gmi_23 gmi_24 gmi_26 gmi_29 gmi_30 gmi_32 (gi_w g_142 (by decide)) gmi_37 gmi_41 gmi_50 gmi_51 gmi_56 (gi_w (gi_c 1 1 (by decide)) (by decide)) (show (mi 30).toInt ≤ (mi 29).toInt from by have qgy_141 := g_142.1; have rgy_141 := g_142.2; have qgr_122 := g_136.1; have rgr_122 := g_136.2; have qgmi_33 := g_115.1; have rgmi_33 := g_115.2; have qgmi_31 := g_118.1; have rgmi_31 := g_118.2; have qgmi_30 := gmi_30.1; have rgmi_30 := gmi_30.2; have qgmi_29 := gmi_29.1; have rgmi_29 := gmi_29.2; have qgmi_26 := gmi_26.1; have rgmi_26 := gmi_26.2; omega) (show (mi 29).toInt ≤ (mi 26).toInt from by have qgy_141 := g_142.1; have rgy_141 := g_142.2; have qgr_122 := g_136.1; have rgr_122 := g_136.2; have qgmi_33 := g_115.1; have rgmi_33 := g_115.2; have qgmi_31 := g_118.1; have rgmi_31 := g_118.2; have qgmi_30 := gmi_30.1; have rgmi_30 := gmi_30.2; have qgmi_29 := gmi_29.1; have rgmi_29 := gmi_29.2; have qgmi_26 := gmi_26.1; have rgmi_26 := gmi_26.2; omega) (show ((mi 31).toInt = 0 ∨ (mi 30).toInt < (mi 29).toInt) from by have qgy_141 := g_142.1; have rgy_141 := g_142.2; have qgr_122 := g_136.1; have rgr_122 := g_136.2; have qgmi_33 := g_115.1; have rgmi_33 := g_115.2; have qgmi_31 := g_118.1; have rgmi_31 := g_118.2; have qgmi_30 := gmi_30.1; have rgmi_30 := gmi_30.2; have qgmi_29 := gmi_29.1; have rgmi_29 := gmi_29.2; have qgmi_26 := gmi_26.1; have rgmi_26 := gmi_26.2; omega)) (cwV 1 hts (gz_gV mGB_161 mGB_162 mGB_163 mGB_1 mGB_164 goodGB) rfl rfl rfl (by decide +kernel) ⟨Nat.le_of_ble_eq_true rfl, Nat.le_of_ble_eq_true rfl⟩) ⟨fun a U g mk q => by obtain ⟨q0, q1, qP, qK, qD⟩ := q; exact ⟨q0, q1, qP, va_K.moved (u := U) (U := U.calling g mk a) (Vm.Alike.refl U.vm) qK, qD⟩, va_recv hKc hPc (ci := 12) (q0 := 0) rfl rfl, fun U hU hW => ⟨rfl, by rw [hU], by rw [hU]; exact hPc, va_K.moved hW.alike hKc, hDc.weaken (fun _ _ _ _ => trivial)⟩⟩ rfl rfl hl.1 rfl (lv_room (Nat.le_of_ble_eq_true rfl)) dX12_number_49 ⟨Nat.zero_le _, Nat.zero_le _⟩) hS (fun q _ h => hFc q h) hFc (fun u t H1 locs ht hvm hw hB hz1 hk1 hS => ?_)
        obtain ⟨y_144, y_145, y_146, y_147, y_148, y_149, y_150, gy_146, gy_147, gy_149, gy_150, hpr0_r_143, hpr1_r_143, hpr2_r_143, hpr3_r_143, hpr4_r_143, hpr5_r_143, hpr6_r_143, hE, hP1, hD1⟩ := hB
        rw [ht] at hP1
        obtain ⟨hP, hD⟩ := va_join (wr := []) (w1 := [(h0, .inr (12, fsMM (upd (upd (upd (upd (upd (upd (upd mi 27 y_144) 28 y_145) 29 y_146) 30 y_147) 31 y_148) 32 y_149) 33 y_150) mr)), ((mr 13), .inl (km_tape, 1600, .inl fm_tape))]) hP hD [0, 1] [] rfl rfl (by decide) (by decide) hk1 hFc hP1 hD1
        have hpr0_r_143 : (mi 30).toInt ≤ y_147.toInt := hpr0_r_143
        have hpr1_r_143 : y_147.toInt ≤ y_146.toInt := hpr1_r_143
        have hpr2_r_143 : y_146.toInt ≤ (mi 26).toInt := hpr2_r_143
        have hpr3_r_143 : Hid ((y_148.toInt = 0 ∨ y_147.toInt < y_146.toInt)) := hpr3_r_143
        have hpr4_r_143 : y_141.toInt ≤ y_150.toInt := hpr4_r_143
        have g_151 : gi y_150 1 1 := gi_relL (show y_141.toInt ≤ y_150.toInt from by omega) g_142 gy_150
        have hpr5_r_143 : Hid (((1 : Int) = 1 ∨ y_150.toInt = 1)) := by have h9 : ((1 : Int32).toInt = 1 ∨ y_150.toInt = 1) := hpr5_r_143; rw [show (1 : Int32).toInt = 1 from by decide] at h9; exact h9
        have hpr6_r_143 : Hid ((y_150.toInt = 1 ∨ (mi 29).toInt ≤ y_147.toInt)) := hpr6_r_143
        have hP := hP.sub (ws' := [(h0, .inr (12, fsMM (upd (upd (upd (upd (upd (upd (upd mi 27 y_144) 28 y_145) 29 y_146) 30 y_147) 31 y_148) 32 y_149) 33 y_150) mr)), ((mr 13), .inl (km_tape, 1600, .inl fm_tape))]) [0, 1] rfl
        have hD := hD.sub (ws' := [(h0, .inr (12, fsMM (upd (upd (upd (upd (upd (upd (upd mi 27 y_144) 28 y_145) 29 y_146) 30 y_147) 31 y_148) 32 y_149) 33 y_150) mr)), ((mr 13), .inl (km_tape, 1600, .inl fm_tape))]) [0, 1] (by decide) rfl
        have hF := gf_callm (a := (y_144, y_145, y_146, y_147, y_148, y_149, y_150)) hE hF (by first | with_reducible rfl | simp only [upd_same, upd_app, ↓reduceIte, Nat.reduceEqDiff])
        generalize H1 = H at hP hS ⊢
        refine lv_iload_n hx hb dX12_number_52 rfl (lv_at hl 0 rfl) ?_
        exact W.iret (v := (mi 32)) hx hb hr (fun t ht hW => ⟨⟨(mi 32), (mi 32), rfl, ⟨rfl, gmi_32⟩, y_144, y_145, y_146, y_147, y_148, y_149, y_150, gy_146, gy_147, gy_149, (gi_w g_151 (by decide)), hpr0_r_143, hpr1_r_143, hpr2_r_143, (Hid.un hpr3_r_143), (show (mi 33).toInt ≤ y_150.toInt from by have qgy_150 := g_151.1; have rgy_150 := g_151.2; have qgy_147 := gy_147.1; have rgy_147 := gy_147.2; have qgy_146 := gy_146.1; have rgy_146 := gy_146.2; have qgy_141 := g_142.1; have rgy_141 := g_142.2; have qgr_122 := g_136.1; have rgr_122 := g_136.2; have qgmi_33 := g_115.1; have rgmi_33 := g_115.2; have qgmi_31 := g_118.1; have rgmi_31 := g_118.2; have qgmi_30 := gmi_30.1; have rgmi_30 := gmi_30.2; have qgmi_29 := gmi_29.1; have rgmi_29 := gmi_29.2; have qgmi_26 := gmi_26.1; have rgmi_26 := gmi_26.2; omega), (show (y_150.toInt = 1 ∨ (p1.toInt ≤ (mi 32).toInt ∧ (mi 32).toInt ≤ p2.toInt)) from by have qgy_150 := g_151.1; have rgy_150 := g_151.2; have qgy_147 := gy_147.1; have rgy_147 := gy_147.2; have qgy_146 := gy_146.1; have rgy_146 := gy_146.2; have qgy_141 := g_142.1; have rgy_141 := g_142.2; have qgr_122 := g_136.1; have rgr_122 := g_136.2; have qgp1 := gp1.1; have rgp1 := gp1.2; have qgmi_33 := g_115.1; have rgmi_33 := g_115.2; have qgmi_32 := gmi_32.1; have rgmi_32 := gmi_32.2; have qgmi_31 := g_118.1; have rgmi_31 := g_118.2; have qgmi_30 := gmi_30.1; have rgmi_30 := gmi_30.2; have qgmi_29 := gmi_29.1; have rgmi_29 := gmi_29.2; have qgmi_26 := gmi_26.1; have rgmi_26 := gmi_26.2; omega), hF.trans hR9.symm, by rw [ht]; exact hP, hD⟩, hS.F ht⟩) hS.2.2 dX12_number_53
    · have hF := gf_neg c_116 hF
      have hc_152 : (mi 31).toInt ≠ 2 := fun h9 => c_116 (Int32.toInt_inj.mp (by rw [show (2 : Int32).toInt = 2 from by decide]; exact h9))
      refine lv_aload_n hx hb dX12_number_22 rfl (lv_at hl 1 rfl) ?_
      refine lv_iconst (v := 1) hx hb dX12_number_23 (by decide) ?_
      have hPc := hP.sub (ws' := [(h0, .inr (12, fsMM mi mr))]) [0] rfl
      have hKc := hK.sub (tys' := []) [] rfl
      have hDc := hD.sub (ws' := [(h0, .inr (12, fsMM mi mr))]) [0] (by decide) rfl
      have hFc := va_free (wc := [(h0, .inr (12, fsMM mi mr))]) hD hS hA [0] rfl
      refine va_callv (va_runV (As := [.int 1]) (rest := []) ⟨hx, hb, hml, hown, hts⟩ (sX12_faultsP l dC dI s.heap.size h0 mi mr 1 gmi_0 gmi_1 gmi_2 gmi_4 gmi_7 gmi_10 gmi_17 gmi_23 gmi_24 gmi_26 gmi_29 gmi_30 gmi_32 (gi_w g_115 (by decide)) gmi_37 gmi_41 gmi_50 gmi_51 gmi_56) (cwV 1 hts (gz_gV mGB_165 mGB_166 mGB_167 mGB_1 mGB_168 goodGB) rfl rfl rfl (by decide +kernel) ⟨Nat.le_of_ble_eq_true rfl, Nat.le_of_ble_eq_true rfl⟩) ⟨fun a U g mk q => by obtain ⟨q0, q1, qP, qK, qD⟩ := q; exact ⟨q0, q1, qP, va_K.moved (u := U) (U := U.calling g mk a) (Vm.Alike.refl U.vm) qK, qD⟩, va_recv hKc hPc (ci := 12) (q0 := 0) rfl rfl, fun U hU hW => ⟨rfl, by rw [hU], by rw [hU]; exact hPc, va_K.moved hW.alike hKc, hDc.weaken (fun _ _ _ _ => trivial)⟩⟩ rfl rfl hl.1 rfl (lv_room (Nat.le_of_ble_eq_true rfl)) dX12_number_24 ⟨Nat.zero_le _, Nat.zero_le _⟩) hS (fun q _ h => hFc q h) hFc (fun u t H1 locs ht hvm hw hB hz1 hk1 hS => ?_)
      obtain ⟨y_154, y_155, y_156, gy_156, hpr0_r_153, hE, hP1, hD1⟩ := hB
      rw [ht] at hP1
      obtain ⟨hP, hD⟩ := va_join (wr := [((mr 13), .inl (km_tape, 1600, .inl fm_tape))]) (w1 := [(h0, .inr (12, fsMM (upd (upd (upd mi 27 y_154) 28 y_155) 33 y_156) mr))]) hP hD [0] [1] rfl rfl (by decide) (by decide) hk1 hFc hP1 hD1
      have hpr0_r_153 : y_156.toInt = 1 := hpr0_r_153
      have g_157 : gi y_156 1 1 := ⟨by omega, by omega⟩
      have hP := hP.sub (ws' := [(h0, .inr (12, fsMM (upd (upd (upd mi 27 y_154) 28 y_155) 33 y_156) mr)), ((mr 13), .inl (km_tape, 1600, .inl fm_tape))]) [1, 0] rfl
      have hD := hD.sub (ws' := [(h0, .inr (12, fsMM (upd (upd (upd mi 27 y_154) 28 y_155) 33 y_156) mr)), ((mr 13), .inl (km_tape, 1600, .inl fm_tape))]) [1, 0] (by decide) rfl
      have hF := gf_callm (a := (y_154, y_155, y_156)) hE hF (by first | with_reducible rfl | simp only [upd_same, upd_app, ↓reduceIte, Nat.reduceEqDiff])
      generalize H1 = H at hP hS ⊢
      refine lv_goto (tgt := 47) hx hb dX12_number_27 (by decide) ?_
      refine lv_aload_n hx hb dX12_number_47 rfl (lv_at hl 1 rfl) ?_
      refine lv_iconst (v := 1) hx hb dX12_number_48 (by decide) ?_
      have hPc := hP.sub (ws' := [(h0, .inr (12, fsMM (upd (upd (upd mi 27 y_154) 28 y_155) 33 y_156) mr)), ((mr 13), .inl (km_tape, 1600, .inl fm_tape))]) [0, 1] rfl
      have hKc := hK.sub (tys' := [(km_tape, .int)]) [0] rfl
      have hDc := hD.sub (ws' := [(h0, .inr (12, fsMM (upd (upd (upd mi 27 y_154) 28 y_155) 33 y_156) mr)), ((mr 13), .inl (km_tape, 1600, .inl fm_tape))]) [0, 1] (by decide) rfl
      have hFc := va_free (wc := [(h0, .inr (12, fsMM (upd (upd (upd mi 27 y_154) 28 y_155) 33 y_156) mr)), ((mr 13), .inl (km_tape, 1600, .inl fm_tape))]) hD hS hA [0, 1] rfl
      refine va_callv (va_runV (As := [.int 1]) (rest := []) ⟨hx, hb, hml, hown, hts⟩ (sX12_passesP l dC dI H.size h0 (upd (upd (upd mi 27 y_154) 28 y_155) 33 y_156) mr km_tape fm_tape 1 gmi_0 gmi_1 gmi_2 gmi_4 gmi_7 gmi_10 gmi_17 gmi_23 gmi_24 gmi_26 gmi_29 gmi_30 gmi_32 (gi_w g_157 (by decide)) gmi_37 gmi_41 gmi_50 gmi_51 gmi_56 (gi_w (gi_c 1 1 (by decide)) (by decide)) (show (mi 30).toInt ≤ (mi 29).toInt from by have qgy_156 := g_157.1; have rgy_156 := g_157.2; have qgmi_33 := g_115.1; have rgmi_33 := g_115.2; have qgmi_30 := gmi_30.1; have rgmi_30 := gmi_30.2; have qgmi_29 := gmi_29.1; have rgmi_29 := gmi_29.2; have qgmi_26 := gmi_26.1; have rgmi_26 := gmi_26.2; omega) (show (mi 29).toInt ≤ (mi 26).toInt from by have qgy_156 := g_157.1; have rgy_156 := g_157.2; have qgmi_33 := g_115.1; have rgmi_33 := g_115.2; have qgmi_30 := gmi_30.1; have rgmi_30 := gmi_30.2; have qgmi_29 := gmi_29.1; have rgmi_29 := gmi_29.2; have qgmi_26 := gmi_26.1; have rgmi_26 := gmi_26.2; omega) (show ((mi 31).toInt = 0 ∨ (mi 30).toInt < (mi 29).toInt) from by have qgy_156 := g_157.1; have rgy_156 := g_157.2; have qgmi_33 := g_115.1; have rgmi_33 := g_115.2; have qgmi_30 := gmi_30.1; have rgmi_30 := gmi_30.2; have qgmi_29 := gmi_29.1; have rgmi_29 := gmi_29.2; have qgmi_26 := gmi_26.1; have rgmi_26 := gmi_26.2; omega)) (cwV 1 hts (gz_gV mGB_161 mGB_162 mGB_163 mGB_1 mGB_164 goodGB) rfl rfl rfl (by decide +kernel) ⟨Nat.le_of_ble_eq_true rfl, Nat.le_of_ble_eq_true rfl⟩) ⟨fun a U g mk q => by obtain ⟨q0, q1, qP, qK, qD⟩ := q; exact ⟨q0, q1, qP, va_K.moved (u := U) (U := U.calling g mk a) (Vm.Alike.refl U.vm) qK, qD⟩, va_recv hKc hPc (ci := 12) (q0 := 0) rfl rfl, fun U hU hW => ⟨rfl, by rw [hU], by rw [hU]; exact hPc, va_K.moved hW.alike hKc, hDc.weaken (fun _ _ _ _ => trivial)⟩⟩ rfl rfl hl.1 rfl (lv_room (Nat.le_of_ble_eq_true rfl)) dX12_number_49 ⟨Nat.zero_le _, Nat.zero_le _⟩) hS (fun q _ h => hFc q h) hFc (fun u t H1 locs ht hvm hw hB hz1 hk1 hS => ?_)
      obtain ⟨y_159, y_160, y_161, y_162, y_163, y_164, y_165, gy_161, gy_162, gy_164, gy_165, hpr0_r_158, hpr1_r_158, hpr2_r_158, hpr3_r_158, hpr4_r_158, hpr5_r_158, hpr6_r_158, hE, hP1, hD1⟩ := hB
      rw [ht] at hP1
      obtain ⟨hP, hD⟩ := va_join (wr := []) (w1 := [(h0, .inr (12, fsMM (upd (upd (upd (upd (upd (upd (upd mi 27 y_159) 28 y_160) 29 y_161) 30 y_162) 31 y_163) 32 y_164) 33 y_165) mr)), ((mr 13), .inl (km_tape, 1600, .inl fm_tape))]) hP hD [0, 1] [] rfl rfl (by decide) (by decide) hk1 hFc hP1 hD1
      have hpr0_r_158 : (mi 30).toInt ≤ y_162.toInt := hpr0_r_158
      have hpr1_r_158 : y_162.toInt ≤ y_161.toInt := hpr1_r_158
      have hpr2_r_158 : y_161.toInt ≤ (mi 26).toInt := hpr2_r_158
      have hpr3_r_158 : Hid ((y_163.toInt = 0 ∨ y_162.toInt < y_161.toInt)) := hpr3_r_158
      have hpr4_r_158 : y_156.toInt ≤ y_165.toInt := hpr4_r_158
      have g_166 : gi y_165 1 1 := gi_relL (show y_156.toInt ≤ y_165.toInt from by omega) g_157 gy_165
      have hpr5_r_158 : Hid (((1 : Int) = 1 ∨ y_165.toInt = 1)) := by have h9 : ((1 : Int32).toInt = 1 ∨ y_165.toInt = 1) := hpr5_r_158; rw [show (1 : Int32).toInt = 1 from by decide] at h9; exact h9
      have hpr6_r_158 : Hid ((y_165.toInt = 1 ∨ (mi 29).toInt ≤ y_162.toInt)) := hpr6_r_158
      have hP := hP.sub (ws' := [(h0, .inr (12, fsMM (upd (upd (upd (upd (upd (upd (upd mi 27 y_159) 28 y_160) 29 y_161) 30 y_162) 31 y_163) 32 y_164) 33 y_165) mr)), ((mr 13), .inl (km_tape, 1600, .inl fm_tape))]) [0, 1] rfl
      have hD := hD.sub (ws' := [(h0, .inr (12, fsMM (upd (upd (upd (upd (upd (upd (upd mi 27 y_159) 28 y_160) 29 y_161) 30 y_162) 31 y_163) 32 y_164) 33 y_165) mr)), ((mr 13), .inl (km_tape, 1600, .inl fm_tape))]) [0, 1] (by decide) rfl
      have hF := gf_callm (a := (y_159, y_160, y_161, y_162, y_163, y_164, y_165)) hE hF (by first | with_reducible rfl | simp only [upd_same, upd_app, ↓reduceIte, Nat.reduceEqDiff])
      generalize H1 = H at hP hS ⊢
      refine lv_iload_n hx hb dX12_number_52 rfl (lv_at hl 0 rfl) ?_
      exact W.iret (v := (mi 32)) hx hb hr (fun t ht hW => ⟨⟨(mi 32), (mi 32), rfl, ⟨rfl, gmi_32⟩, y_159, y_160, y_161, y_162, y_163, y_164, y_165, gy_161, gy_162, gy_164, (gi_w g_166 (by decide)), hpr0_r_158, hpr1_r_158, hpr2_r_158, (Hid.un hpr3_r_158), (show (mi 33).toInt ≤ y_165.toInt from by have qgy_165 := g_166.1; have rgy_165 := g_166.2; have qgy_162 := gy_162.1; have rgy_162 := gy_162.2; have qgy_161 := gy_161.1; have rgy_161 := gy_161.2; have qgy_156 := g_157.1; have rgy_156 := g_157.2; have qgmi_33 := g_115.1; have rgmi_33 := g_115.2; have qgmi_30 := gmi_30.1; have rgmi_30 := gmi_30.2; have qgmi_29 := gmi_29.1; have rgmi_29 := gmi_29.2; have qgmi_26 := gmi_26.1; have rgmi_26 := gmi_26.2; omega), (show (y_165.toInt = 1 ∨ (p1.toInt ≤ (mi 32).toInt ∧ (mi 32).toInt ≤ p2.toInt)) from by have qgy_165 := g_166.1; have rgy_165 := g_166.2; have qgy_162 := gy_162.1; have rgy_162 := gy_162.2; have qgy_161 := gy_161.1; have rgy_161 := gy_161.2; have qgy_156 := g_157.1; have rgy_156 := g_157.2; have qgp1 := gp1.1; have rgp1 := gp1.2; have qgmi_33 := g_115.1; have rgmi_33 := g_115.2; have qgmi_32 := gmi_32.1; have rgmi_32 := gmi_32.2; have qgmi_30 := gmi_30.1; have rgmi_30 := gmi_30.2; have qgmi_29 := gmi_29.1; have rgmi_29 := gmi_29.2; have qgmi_26 := gmi_26.1; have rgmi_26 := gmi_26.2; omega), hF.trans hR9.symm, by rw [ht]; exact hP, hD⟩, hS.F ht⟩) hS.2.2 dX12_number_53
  · have hF := gf_neg c_113 hF
    have hc_167 : (mi 33).toInt ≠ 0 := fun h9 => c_113 (Int32.toInt_inj.mp (by rw [show (0 : Int32).toInt = 0 from by decide]; exact h9))
    have g_168 : gi (mi 33) 1 1 := gi_ne_lo c_113 gmi_33 (gi_c 0 0 (by decide)) (by decide)
    refine lv_iload_n hx hb dX12_number_12 rfl (lv_at hl 2 rfl) ?_
    exact W.iret (v := p1) hx hb hr (fun t ht hW => ⟨⟨p1, p1, rfl, ⟨rfl, gp1⟩, (mi 27), (mi 28), (mi 29), (mi 30), (mi 31), (mi 32), (mi 33), gmi_29, gmi_30, gmi_32, (gi_w g_168 (by decide)), (show (mi 30).toInt ≤ (mi 30).toInt from by have qgmi_33 := g_168.1; have rgmi_33 := g_168.2; have qgmi_30 := gmi_30.1; have rgmi_30 := gmi_30.2; have qgmi_29 := gmi_29.1; have rgmi_29 := gmi_29.2; have qgmi_26 := gmi_26.1; have rgmi_26 := gmi_26.2; omega), (show (mi 30).toInt ≤ (mi 29).toInt from by have qgmi_33 := g_168.1; have rgmi_33 := g_168.2; have qgmi_30 := gmi_30.1; have rgmi_30 := gmi_30.2; have qgmi_29 := gmi_29.1; have rgmi_29 := gmi_29.2; have qgmi_26 := gmi_26.1; have rgmi_26 := gmi_26.2; omega), (show (mi 29).toInt ≤ (mi 26).toInt from by have qgmi_33 := g_168.1; have rgmi_33 := g_168.2; have qgmi_30 := gmi_30.1; have rgmi_30 := gmi_30.2; have qgmi_29 := gmi_29.1; have rgmi_29 := gmi_29.2; have qgmi_26 := gmi_26.1; have rgmi_26 := gmi_26.2; omega), (show ((mi 31).toInt = 0 ∨ (mi 30).toInt < (mi 29).toInt) from by have qgmi_33 := g_168.1; have rgmi_33 := g_168.2; have qgmi_30 := gmi_30.1; have rgmi_30 := gmi_30.2; have qgmi_29 := gmi_29.1; have rgmi_29 := gmi_29.2; have qgmi_26 := gmi_26.1; have rgmi_26 := gmi_26.2; omega), (show (mi 33).toInt ≤ (mi 33).toInt from by have qgmi_33 := g_168.1; have rgmi_33 := g_168.2; have qgmi_30 := gmi_30.1; have rgmi_30 := gmi_30.2; have qgmi_29 := gmi_29.1; have rgmi_29 := gmi_29.2; have qgmi_26 := gmi_26.1; have rgmi_26 := gmi_26.2; omega), (show ((mi 33).toInt = 1 ∨ (p1.toInt ≤ p1.toInt ∧ p1.toInt ≤ p2.toInt)) from by have qgp1 := gp1.1; have rgp1 := gp1.2; have qgmi_33 := g_168.1; have rgmi_33 := g_168.2; have qgmi_30 := gmi_30.1; have rgmi_30 := gmi_30.2; have qgmi_29 := gmi_29.1; have rgmi_29 := gmi_29.2; have qgmi_26 := gmi_26.1; have rgmi_26 := gmi_26.2; omega), hF.trans hR9.symm, by rw [ht]; exact hP, hD⟩, hS.F ht⟩) hS.2.2 dX12_number_13
theorem dX12_named_0 : decode cX12_named 0 = .ok (.iconst 0, 1) := by decide +kernel
theorem dX12_named_1 : decode cX12_named 1 = .ok (.istore_n 1, 1) := by decide +kernel
theorem dX12_named_2 : decode cX12_named 2 = .ok (.iload_n 1, 1) := by decide +kernel
theorem dX12_named_3 : decode cX12_named 3 = .ok (.aload_n 0, 1) := by decide +kernel
theorem dX12_named_4 : decode cX12_named 4 = .ok (.getfield 138, 3) := by decide +kernel
theorem dX12_named_7 : decode cX12_named 7 = .ok (.if_icmp .ge 101, 3) := by decide +kernel
theorem dX12_named_10 : decode cX12_named 10 = .ok (.aload_n 0, 1) := by decide +kernel
theorem dX12_named_11 : decode cX12_named 11 = .ok (.getfield 151, 3) := by decide +kernel
theorem dX12_named_14 : decode cX12_named 14 = .ok (.aload_n 0, 1) := by decide +kernel
theorem dX12_named_15 : decode cX12_named 15 = .ok (.getfield 158, 3) := by decide +kernel
theorem dX12_named_18 : decode cX12_named 18 = .ok (.isub, 1) := by decide +kernel
theorem dX12_named_19 : decode cX12_named 19 = .ok (.bipush 6, 2) := by decide +kernel
theorem dX12_named_21 : decode cX12_named 21 = .ok (.if_icmp .gt 7, 3) := by decide +kernel
theorem dX12_named_24 : decode cX12_named 24 = .ok (.iconst 1, 1) := by decide +kernel
theorem dX12_named_25 : decode cX12_named 25 = .ok (.goto 4, 3) := by decide +kernel
theorem dX12_named_28 : decode cX12_named 28 = .ok (.iconst 0, 1) := by decide +kernel
theorem dX12_named_29 : decode cX12_named 29 = .ok (.istore_n 2, 1) := by decide +kernel
theorem dX12_named_30 : decode cX12_named 30 = .ok (.iconst 0, 1) := by decide +kernel
theorem dX12_named_31 : decode cX12_named 31 = .ok (.istore_n 3, 1) := by decide +kernel
theorem dX12_named_32 : decode cX12_named 32 = .ok (.iload_n 3, 1) := by decide +kernel
theorem dX12_named_33 : decode cX12_named 33 = .ok (.bipush 6, 2) := by decide +kernel
theorem dX12_named_35 : decode cX12_named 35 = .ok (.if_icmp .ge 61, 3) := by decide +kernel
theorem dX12_named_38 : decode cX12_named 38 = .ok (.iload_n 2, 1) := by decide +kernel
theorem dX12_named_39 : decode cX12_named 39 = .ok (.ifCond .eq 57, 3) := by decide +kernel
theorem dX12_named_42 : decode cX12_named 42 = .ok (.aload_n 0, 1) := by decide +kernel
theorem dX12_named_43 : decode cX12_named 43 = .ok (.getfield 13, 3) := by decide +kernel
theorem dX12_named_46 : decode cX12_named 46 = .ok (.bipush 6, 2) := by decide +kernel
theorem dX12_named_48 : decode cX12_named 48 = .ok (.iload_n 1, 1) := by decide +kernel
theorem dX12_named_49 : decode cX12_named 49 = .ok (.imul, 1) := by decide +kernel
theorem dX12_named_50 : decode cX12_named 50 = .ok (.iload_n 3, 1) := by decide +kernel
theorem dX12_named_51 : decode cX12_named 51 = .ok (.iadd, 1) := by decide +kernel
theorem dX12_named_52 : decode cX12_named 52 = .ok (.iaload, 1) := by decide +kernel
theorem dX12_named_53 : decode cX12_named 53 = .ok (.iload_n 3, 1) := by decide +kernel
theorem dX12_named_54 : decode cX12_named 54 = .ok (.aload_n 0, 1) := by decide +kernel
theorem dX12_named_55 : decode cX12_named 55 = .ok (.getfield 151, 3) := by decide +kernel
theorem dX12_named_58 : decode cX12_named 58 = .ok (.aload_n 0, 1) := by decide +kernel
theorem dX12_named_59 : decode cX12_named 59 = .ok (.getfield 158, 3) := by decide +kernel
theorem dX12_named_62 : decode cX12_named 62 = .ok (.isub, 1) := by decide +kernel
theorem dX12_named_63 : decode cX12_named 63 = .ok (.if_icmp .ge 17, 3) := by decide +kernel
theorem dX12_named_66 : decode cX12_named 66 = .ok (.aload_n 0, 1) := by decide +kernel
theorem dX12_named_67 : decode cX12_named 67 = .ok (.getfield 50, 3) := by decide +kernel
theorem dX12_named_70 : decode cX12_named 70 = .ok (.aload_n 0, 1) := by decide +kernel
theorem dX12_named_71 : decode cX12_named 71 = .ok (.getfield 158, 3) := by decide +kernel
theorem dX12_named_74 : decode cX12_named 74 = .ok (.iload_n 3, 1) := by decide +kernel
theorem dX12_named_75 : decode cX12_named 75 = .ok (.iadd, 1) := by decide +kernel
theorem dX12_named_76 : decode cX12_named 76 = .ok (.iaload, 1) := by decide +kernel
theorem dX12_named_77 : decode cX12_named 77 = .ok (.goto 4, 3) := by decide +kernel
theorem dX12_named_80 : decode cX12_named 80 = .ok (.iconst 0, 1) := by decide +kernel
theorem dX12_named_81 : decode cX12_named 81 = .ok (.if_icmp .ne 7, 3) := by decide +kernel
theorem dX12_named_84 : decode cX12_named 84 = .ok (.iconst 1, 1) := by decide +kernel
theorem dX12_named_85 : decode cX12_named 85 = .ok (.goto 4, 3) := by decide +kernel
theorem dX12_named_88 : decode cX12_named 88 = .ok (.iconst 0, 1) := by decide +kernel
theorem dX12_named_89 : decode cX12_named 89 = .ok (.istore_n 2, 1) := by decide +kernel
theorem dX12_named_90 : decode cX12_named 90 = .ok (.iinc 3 1, 3) := by decide +kernel
theorem dX12_named_93 : decode cX12_named 93 = .ok (.goto (-61), 3) := by decide +kernel
theorem dX12_named_96 : decode cX12_named 96 = .ok (.iload_n 2, 1) := by decide +kernel
theorem dX12_named_97 : decode cX12_named 97 = .ok (.ifCond .eq 5, 3) := by decide +kernel
theorem dX12_named_100 : decode cX12_named 100 = .ok (.iload_n 1, 1) := by decide +kernel
theorem dX12_named_101 : decode cX12_named 101 = .ok (.ireturn, 1) := by decide +kernel
theorem dX12_named_102 : decode cX12_named 102 = .ok (.iinc 1 1, 3) := by decide +kernel
theorem dX12_named_105 : decode cX12_named 105 = .ok (.goto (-103), 3) := by decide +kernel
theorem dX12_named_108 : decode cX12_named 108 = .ok (.iconst (-1), 1) := by decide +kernel
theorem dX12_named_109 : decode cX12_named 109 = .ok (.ireturn, 1) := by decide +kernel
noncomputable def bfX12_named_29 (mi : Nat → Int32) (fm_tape : Nat → Int32) (fm_letter : Nat → Int32) (K : (Int32 → Int32) × (Int32 → Int32 → Int32 → Int32)) (v1 : Int32) (s0 : Int32) : Int32 := K.2 v1 s0 (0 : Int32)
noncomputable def bfX12_named_89 (mi : Nat → Int32) (fm_tape : Nat → Int32) (fm_letter : Nat → Int32) (K : (Int32 → Int32) × (Int32 → Int32 → Int32 → Int32)) (v1 : Int32) (v3 : Int32) (s0 : Int32) : Int32 := K.2 v1 s0 (v3 + (1 : Int32))
noncomputable def bfX12_named_81 (mi : Nat → Int32) (fm_tape : Nat → Int32) (fm_letter : Nat → Int32) (K : (Int32 → Int32) × (Int32 → Int32 → Int32 → Int32)) (v1 : Int32) (v3 : Int32) (s0 : Int32) (s1 : Int32) : Int32 := if s1 = s0 then (bfX12_named_89 mi fm_tape fm_letter K v1 v3 (1 : Int32)) else (bfX12_named_89 mi fm_tape fm_letter K v1 v3 (0 : Int32))
noncomputable def bfX12_named_96 (mi : Nat → Int32) (fm_tape : Nat → Int32) (fm_letter : Nat → Int32) (K : (Int32 → Int32) × (Int32 → Int32 → Int32 → Int32)) (v1 : Int32) (v2 : Int32) : Int32 := if v2 = (0 : Int32) then (K.1 (v1 + (1 : Int32))) else v1
noncomputable def dfX12_named_2 (mi : Nat → Int32) (fm_tape : Nat → Int32) (fm_letter : Nat → Int32) (K : (Int32 → Int32) × (Int32 → Int32 → Int32 → Int32)) (v1 : Int32) : Int32 := if (mi 7) ≤ v1 then (-1 : Int32) else (if (6 : Int32) < ((mi 29) - (mi 30)) then (bfX12_named_29 mi fm_tape fm_letter K v1 (0 : Int32)) else (bfX12_named_29 mi fm_tape fm_letter K v1 (1 : Int32)))
noncomputable def dfX12_named_32 (mi : Nat → Int32) (fm_tape : Nat → Int32) (fm_letter : Nat → Int32) (K : (Int32 → Int32) × (Int32 → Int32 → Int32 → Int32)) (v1 : Int32) (v2 : Int32) (v3 : Int32) : Int32 := if (6 : Int32) ≤ v3 then (bfX12_named_96 mi fm_tape fm_letter K v1 v2) else (if v2 = (0 : Int32) then (bfX12_named_96 mi fm_tape fm_letter K v1 v2) else (if ((mi 29) - (mi 30)) ≤ v3 then (bfX12_named_81 mi fm_tape fm_letter K v1 v3 (0 : Int32) (fm_letter (((6 : Int32) * v1) + v3).toNatClampNeg)) else (bfX12_named_81 mi fm_tape fm_letter K v1 v3 (fm_tape ((mi 30) + v3).toNatClampNeg) (fm_letter (((6 : Int32) * v1) + v3).toNatClampNeg))))
noncomputable def lfX12_named (mi : Nat → Int32) (fm_tape : Nat → Int32) (fm_letter : Nat → Int32) (z : Nat) : (Int32 → Int32) × (Int32 → Int32 → Int32 → Int32) := Nat.rec (motive := fun _ => (Int32 → Int32) × (Int32 → Int32 → Int32 → Int32)) ((fun _ => (0), fun _ _ _ => (0))) (fun _ K => (dfX12_named_2 mi fm_tape fm_letter K, dfX12_named_32 mi fm_tape fm_letter K)) z
noncomputable def fX12_named (mi : Nat → Int32) (fm_tape : Nat → Int32) (fm_letter : Nat → Int32) : Int32 := (lfX12_named mi fm_tape fm_letter 1000000000).1 (0 : Int32)
set_option maxHeartbeats 4000000 in
set_option maxRecDepth 100000 in
theorem lp_sX12_namedP {p : Program} {l : Launch} {e : Env} {R : Room} {s : State} {m : MethodId} {args : Array Value} {below : List Frame} {meth : Method} {c : Code} {Q : State → Prop} {A : Nat → Prop} {cells slots : Nat} {dC : Nat → ClassId} {dI : Nat → Nat → Nat} {RES : Int32} (h0 : Nat) (mi : Nat → Int32) (mr : Nat → Nat) (km_tape : ClassId) (fm_tape : Nat → Int32) (km_letter : ClassId) (fm_letter : Nat → Int32) (gmi_0 : gi (mi 0) 0 100000) (gmi_1 : gi (mi 1) 0 100000) (gmi_2 : gi (mi 2) 0 100000) (gmi_4 : gi (mi 4) 0 1) (gmi_7 : gi (mi 7) 0 6) (gmi_10 : gi (mi 10) 0 24) (gmi_17 : gi (mi 17) 0 8) (gmi_23 : gi (mi 23) 0 300) (gmi_24 : gi (mi 24) 0 1) (gmi_26 : gi (mi 26) 0 1600) (gmi_29 : gi (mi 29) 0 1600) (gmi_30 : gi (mi 30) 0 1600) (gmi_32 : gi (mi 32) 0 100000) (gmi_33 : gi (mi 33) 0 1) (gmi_37 : gi (mi 37) 0 1) (gmi_41 : gi (mi 41) 0 24) (gmi_50 : gi (mi 50) 0 1) (gmi_51 : gi (mi 51) 0 1) (gmi_56 : gi (mi 56) 0 80) (hpq0 : (mi 30).toInt ≤ (mi 29).toInt) (hpq1 : (mi 29).toInt ≤ (mi 26).toInt) (hpq2 : ((mi 31).toInt = 0 ∨ (mi 30).toInt < (mi 29).toInt)) (hx : p.tables.exec = Jvm.exec) (hb : c.code = cX12_named) (hml : c.maxLocals = 4) (hown : s.vm.findClass RX12 = some m.cls) (hts : ∀ w ∈ ((.code yX12_named cX12_named 4 (some .int) :: wsGB) : List Cond), w.before args s = true) (hK : va_K (dC, dI) vwCl [(km_tape, .int), (km_letter, .int)] s) (hRf : 0 ≤ R.frames) (hRl : 0 ≤ R.locals) (hRc : cells ≤ R.cells) (hRs : slots ≤ R.slots) (kr109 : ∀ (v : Int32) (H : Heap) (locs : List Loc) (ls : Array Slot), gi v (-1) (-1) → v = RES → va_P (dC, dI) vwCl [(h0, .inr (12, fsMM mi mr)), ((mr 13), .inl (km_tape, 1600, .inl fm_tape)), ((mr 1), .inl (km_letter, 36, .inl fm_letter))] H → va_S A s.heap H locs → lv_has ls 4 [] → W p l e R s m args below meth c H locs cells slots Q (F0 m 109 ls [.int v])) (kr101 : ∀ (v : Int32) (H : Heap) (locs : List Loc) (ls : Array Slot), gi v 0 5 → v = RES → va_P (dC, dI) vwCl [(h0, .inr (12, fsMM mi mr)), ((mr 13), .inl (km_tape, 1600, .inl fm_tape)), ((mr 1), .inl (km_letter, 36, .inl fm_letter))] H → va_S A s.heap H locs → lv_has ls 4 [] → W p l e R s m args below meth c H locs cells slots Q (F0 m 101 ls [.int v])) : ∀ z : Nat, (∀ (v1 : Int32) (H : Heap) (locs : List Loc) (ls : Array Slot), gi v1 0 6 → (lfX12_named mi fm_tape fm_letter z).1 v1 = RES → 109 + (-18) * v1.toInt < (z : Int) → va_P (dC, dI) vwCl [(h0, .inr (12, fsMM mi mr)), ((mr 13), .inl (km_tape, 1600, .inl fm_tape)), ((mr 1), .inl (km_letter, 36, .inl fm_letter))] H → va_S A s.heap H locs → lv_has ls 4 [(0, .ref h0), (1, .int v1)] → W p l e R s m args below meth c H locs cells slots Q (F0 m 2 ls [])) ∧ (∀ (v1 : Int32) (v2 : Int32) (v3 : Int32) (H : Heap) (locs : List Loc) (ls : Array Slot), gi v1 0 5 → gi v2 0 1 → gi v3 0 6 → (lfX12_named mi fm_tape fm_letter z).2 v1 v2 v3 = RES → 104 + (-18) * v1.toInt + (-2) * v3.toInt < (z : Int) → va_P (dC, dI) vwCl [(h0, .inr (12, fsMM mi mr)), ((mr 13), .inl (km_tape, 1600, .inl fm_tape)), ((mr 1), .inl (km_letter, 36, .inl fm_letter))] H → va_S A s.heap H locs → lv_has ls 4 [(0, .ref h0), (1, .int v1), (2, .int v2), (3, .int v3)] → W p l e R s m args below meth c H locs cells slots Q (F0 m 32 ls [])) := by
  intro z
  induction z with
  | zero =>
    refine ⟨?_, ?_⟩
    · intro v1 H locs ls gv1 hF hmu hP hS hl
      exact absurd hmu (by have hv11 := gv1.1; have hv12 := gv1.2; omega)
    · intro v1 v2 v3 H locs ls gv1 gv2 gv3 hF hmu hP hS hl
      exact absurd hmu (by have hv11 := gv1.1; have hv12 := gv1.2; have hv31 := gv3.1; have hv32 := gv3.2; omega)
  | succ z ih =>
    refine ⟨?_, ?_⟩
    · intro v1 H locs ls gv1 hF hmu hP hS hl
      have hF : dfX12_named_2 mi fm_tape fm_letter (lfX12_named mi fm_tape fm_letter z) v1 = RES := hF
      refine lv_iload_n hx hb dX12_named_2 rfl (lv_at hl 1 rfl) ?_
      refine lv_aload_n hx hb dX12_named_3 rfl (lv_at hl 0 rfl) ?_
      refine va_get (D := (dC, dI)) (ci := 12) (v := .int (mi 7)) (C := RX12) (T := TX12) (N := 57) hx hb hts (fun w h => List.mem_cons_of_mem _ (jnGB_X12 w h)) hown hK hP 0 rfl rfl 7 (by decide) (hts _ (List.mem_cons_of_mem _ mGB_110)) (fun _ h9 => h9) rfl dX12_named_4 ?_
      refine lv_icmp_ge (tgt := 108) hx hb dX12_named_7 (by decide) (fun c_298 => ?_) (fun c_298 => ?_)
      · have hF := gf_pos c_298 hF
        have hc_299 : (mi 7).toInt ≤ v1.toInt := by have h9 := Int32.le_iff_toInt_le.mp c_298; exact h9
        refine lv_iconst (v := (-1)) hx hb dX12_named_108 (by decide) ?_
        exact kr109 (-1) _ _ _ (gi_c (-1) (-1) (by decide)) hF hP hS (lv_sub hl [] rfl)
      · have hF := gf_neg c_298 hF
        have hc_300 : v1.toInt < (mi 7).toInt := by have h9 := Int32.lt_iff_toInt_lt.mp (Int32.not_le.mp c_298); exact h9
        have g_301 : gi v1 0 5 := gi_lt_l (Int32.not_le.mp c_298) gv1 gmi_7 (by decide)
        have g_302 : gi (mi 7) 1 6 := gi_lt_r (Int32.not_le.mp c_298) gv1 gmi_7 (by decide)
        refine lv_aload_n hx hb dX12_named_10 rfl (lv_at hl 0 rfl) ?_
        refine va_get (D := (dC, dI)) (ci := 12) (v := .int (mi 29)) (C := RX12) (T := TX12) (N := 57) hx hb hts (fun w h => List.mem_cons_of_mem _ (jnGB_X12 w h)) hown hK hP 0 rfl rfl 29 (by decide) (hts _ (List.mem_cons_of_mem _ mGB_113)) (fun _ h9 => h9) rfl dX12_named_11 ?_
        refine lv_aload_n hx hb dX12_named_14 rfl (lv_at hl 0 rfl) ?_
        refine va_get (D := (dC, dI)) (ci := 12) (v := .int (mi 30)) (C := RX12) (T := TX12) (N := 57) hx hb hts (fun w h => List.mem_cons_of_mem _ (jnGB_X12 w h)) hown hK hP 0 rfl rfl 30 (by decide) (hts _ (List.mem_cons_of_mem _ mGB_135)) (fun _ h9 => h9) rfl dX12_named_15 ?_
        refine lv_isub hx hb dX12_named_18 ?_
        refine lv_topi (fun x_303 ex_303 => ?_)
        have gx_303 : gi x_303 (-1600) 1600 := gi_sub ex_303 gmi_29 gmi_30 (by decide)
        refine lv_bipush (v := 6) hx hb dX12_named_19 (by decide) ?_
        refine lv_icmp_gt (tgt := 28) hx hb dX12_named_21 (by decide) (fun c_304 => ?_) (fun c_304 => ?_)
        · have hF := gf_pos (by rw [ex_303] at c_304; exact c_304) hF
          have hc_305 : 6 < x_303.toInt := by have h9 := Int32.lt_iff_toInt_lt.mp c_304; rw [show (6 : Int32).toInt = 6 from by decide] at h9; exact h9
          have g_306 : gi x_303 7 1600 := gi_lt_r c_304 (gi_c 6 6 (by decide)) gx_303 (by decide)
          refine lv_iconst (v := 0) hx hb dX12_named_28 (by decide) ?_
          refine lv_istore_n (lv' := [(2, .int 0), (0, .ref h0), (1, .int v1)]) hx hb dX12_named_29 rfl hl (by decide) rfl (fun ls hl => ?_)
          refine lv_iconst (v := 0) hx hb dX12_named_30 (by decide) ?_
          refine lv_istore_n (lv' := [(3, .int 0), (2, .int 0), (0, .ref h0), (1, .int v1)]) hx hb dX12_named_31 rfl hl (by decide) rfl (fun ls hl => ?_)
          exact ih.2 v1 0 0 _ _ _ g_301 (gi_w (gi_c 0 0 (by decide)) (by decide)) (gi_w (gi_c 0 0 (by decide)) (by decide)) hF (by have k0 : (0 : Int32).toInt = 0 := (by decide); have av1 := gv1.1; have bv1 := gv1.2; have qgv1 := g_301.1; have rgv1 := g_301.2; omega) hP hS (lv_sub hl [2, 3, 1, 0] rfl)
        · have hF := gf_neg (by rw [ex_303] at c_304; exact c_304) hF
          have hc_307 : x_303.toInt ≤ 6 := by have h9 := Int32.le_iff_toInt_le.mp (Int32.not_lt.mp c_304); rw [show (6 : Int32).toInt = 6 from by decide] at h9; exact h9
          have g_308 : gi x_303 (-1600) 6 := gi_le_l (Int32.not_lt.mp c_304) gx_303 (gi_c 6 6 (by decide))
          refine lv_iconst (v := 1) hx hb dX12_named_24 (by decide) ?_
          refine lv_goto (tgt := 29) hx hb dX12_named_25 (by decide) ?_
          refine lv_istore_n (lv' := [(2, .int 1), (0, .ref h0), (1, .int v1)]) hx hb dX12_named_29 rfl hl (by decide) rfl (fun ls hl => ?_)
          refine lv_iconst (v := 0) hx hb dX12_named_30 (by decide) ?_
          refine lv_istore_n (lv' := [(3, .int 0), (2, .int 1), (0, .ref h0), (1, .int v1)]) hx hb dX12_named_31 rfl hl (by decide) rfl (fun ls hl => ?_)
          exact ih.2 v1 1 0 _ _ _ g_301 (gi_w (gi_c 1 1 (by decide)) (by decide)) (gi_w (gi_c 0 0 (by decide)) (by decide)) hF (by have k0 : (0 : Int32).toInt = 0 := (by decide); have av1 := gv1.1; have bv1 := gv1.2; have qgv1 := g_301.1; have rgv1 := g_301.2; omega) hP hS (lv_sub hl [2, 3, 1, 0] rfl)
    · intro v1 v2 v3 H locs ls gv1 gv2 gv3 hF hmu hP hS hl
      have hF : dfX12_named_32 mi fm_tape fm_letter (lfX12_named mi fm_tape fm_letter z) v1 v2 v3 = RES := hF
      refine lv_iload_n hx hb dX12_named_32 rfl (lv_at hl 3 rfl) ?_
      refine lv_bipush (v := 6) hx hb dX12_named_33 (by decide) ?_
      refine lv_icmp_ge (tgt := 96) hx hb dX12_named_35 (by decide) (fun c_309 => ?_) (fun c_309 => ?_)
      · have hF := gf_pos c_309 hF
        have hc_310 : 6 ≤ v3.toInt := by have h9 := Int32.le_iff_toInt_le.mp c_309; rw [show (6 : Int32).toInt = 6 from by decide] at h9; exact h9
        have g_311 : gi v3 6 6 := gi_le_r c_309 (gi_c 6 6 (by decide)) gv3
        refine lv_iload_n hx hb dX12_named_96 rfl (lv_at hl 2 rfl) ?_
        refine lv_if_eq (tgt := 102) hx hb dX12_named_97 (by decide) (fun c_312 => ?_) (fun c_312 => ?_)
        · have hF := gf_pos c_312 hF
          have hc_313 : v2.toInt = 0 := by have h9 := congrArg Int32.toInt c_312; rw [show (0 : Int32).toInt = 0 from by decide] at h9; exact h9
          have g_314 : gi v2 0 0 := gi_eq c_312 (gi_c 0 0 (by decide))
          obtain ⟨x_315, ex_315⟩ : ∃ y : Int32, y = v1 + 1 := ⟨_, rfl⟩
          have gx_315 : gi x_315 1 6 := gi_add ex_315 gv1 (gi_c 1 1 (by decide)) (by decide)
          refine lv_iinc (v := x_315) (lv' := [(1, .int x_315), (0, .ref h0), (2, .int v2), (3, .int v3)]) hx hb dX12_named_102 hl (k := 1) rfl (by rw [ex_315]; rfl) (by decide) rfl (fun ls hl => ?_)
          refine lv_goto (tgt := 2) hx hb dX12_named_105 (by decide) ?_
          exact ih.1 x_315 _ _ _ (gi_w gx_315 (by decide)) (by rw [ex_315]; exact hF) (by have av1 := gv1.1; have bv1 := gv1.2; have av3 := gv3.1; have bv3 := gv3.2; have qgx_315 := gx_315.1; have rgx_315 := gx_315.2; have igx_315 : x_315.toInt = v1.toInt + 1 := (by have hc1 : (1 : Int32).toInt = 1 := (by decide); have h9 := gi_addI ex_315 (by have h1 := gv1.1; have h2 := (gi_c 1 1 (by decide)).1; have h3 := gv1.2; have h4 := (gi_c 1 1 (by decide)).2; omega) (by have h1 := gv1.1; have h2 := (gi_c 1 1 (by decide)).1; have h3 := gv1.2; have h4 := (gi_c 1 1 (by decide)).2; omega); rw [hc1] at h9; exact h9); have qgv1 := gv1.1; have rgv1 := gv1.2; omega) hP hS (lv_sub hl [1, 0] rfl)
        · have hF := gf_neg c_312 hF
          have hc_316 : v2.toInt ≠ 0 := fun h9 => c_312 (Int32.toInt_inj.mp (by rw [show (0 : Int32).toInt = 0 from by decide]; exact h9))
          have g_317 : gi v2 1 1 := gi_ne_lo c_312 gv2 (gi_c 0 0 (by decide)) (by decide)
          refine lv_iload_n hx hb dX12_named_100 rfl (lv_at hl 1 rfl) ?_
          exact kr101 v1 _ _ _ gv1 hF hP hS (lv_sub hl [] rfl)
      · have hF := gf_neg c_309 hF
        have hc_318 : v3.toInt < 6 := by have h9 := Int32.lt_iff_toInt_lt.mp (Int32.not_le.mp c_309); rw [show (6 : Int32).toInt = 6 from by decide] at h9; exact h9
        have g_319 : gi v3 0 5 := gi_lt_l (Int32.not_le.mp c_309) gv3 (gi_c 6 6 (by decide)) (by decide)
        refine lv_iload_n hx hb dX12_named_38 rfl (lv_at hl 2 rfl) ?_
        refine lv_if_eq (tgt := 96) hx hb dX12_named_39 (by decide) (fun c_320 => ?_) (fun c_320 => ?_)
        · have hF := gf_pos c_320 hF
          have hc_321 : v2.toInt = 0 := by have h9 := congrArg Int32.toInt c_320; rw [show (0 : Int32).toInt = 0 from by decide] at h9; exact h9
          have g_322 : gi v2 0 0 := gi_eq c_320 (gi_c 0 0 (by decide))
          refine lv_iload_n hx hb dX12_named_96 rfl (lv_at hl 2 rfl) ?_
          refine lv_if_eq (tgt := 102) hx hb dX12_named_97 (by decide) (fun c_323 => ?_) (fun c_323 => absurd (gi_is_eq g_322 (gi_c 0 0 (by decide))) c_323)
          have hF := gf_pos c_323 hF
          obtain ⟨x_324, ex_324⟩ : ∃ y : Int32, y = v1 + 1 := ⟨_, rfl⟩
          have gx_324 : gi x_324 1 6 := gi_add ex_324 gv1 (gi_c 1 1 (by decide)) (by decide)
          refine lv_iinc (v := x_324) (lv' := [(1, .int x_324), (0, .ref h0), (2, .int v2), (3, .int v3)]) hx hb dX12_named_102 hl (k := 1) rfl (by rw [ex_324]; rfl) (by decide) rfl (fun ls hl => ?_)
          refine lv_goto (tgt := 2) hx hb dX12_named_105 (by decide) ?_
          exact ih.1 x_324 _ _ _ (gi_w gx_324 (by decide)) (by rw [ex_324]; exact hF) (by have av1 := gv1.1; have bv1 := gv1.2; have av3 := gv3.1; have bv3 := gv3.2; have qgx_324 := gx_324.1; have rgx_324 := gx_324.2; have igx_324 : x_324.toInt = v1.toInt + 1 := (by have hc1 : (1 : Int32).toInt = 1 := (by decide); have h9 := gi_addI ex_324 (by have h1 := gv1.1; have h2 := (gi_c 1 1 (by decide)).1; have h3 := gv1.2; have h4 := (gi_c 1 1 (by decide)).2; omega) (by have h1 := gv1.1; have h2 := (gi_c 1 1 (by decide)).1; have h3 := gv1.2; have h4 := (gi_c 1 1 (by decide)).2; omega); rw [hc1] at h9; exact h9); have qgv1 := gv1.1; have rgv1 := gv1.2; omega) hP hS (lv_sub hl [1, 0] rfl)
        · have hF := gf_neg c_320 hF
          have hc_325 : v2.toInt ≠ 0 := fun h9 => c_320 (Int32.toInt_inj.mp (by rw [show (0 : Int32).toInt = 0 from by decide]; exact h9))
          have g_326 : gi v2 1 1 := gi_ne_lo c_320 gv2 (gi_c 0 0 (by decide)) (by decide)
          refine lv_aload_n hx hb dX12_named_42 rfl (lv_at hl 0 rfl) ?_
          refine va_get (D := (dC, dI)) (ci := 12) (v := .ref (mr 1)) (C := RX12) (T := TX12) (N := 57) hx hb hts (fun w h => List.mem_cons_of_mem _ (jnGB_X12 w h)) hown hK hP 0 rfl rfl 9 (by decide) (hts _ (List.mem_cons_of_mem _ mGB_11)) (fun _ h9 => h9) rfl dX12_named_43 ?_
          refine lv_bipush (v := 6) hx hb dX12_named_46 (by decide) ?_
          refine lv_iload_n hx hb dX12_named_48 rfl (lv_at hl 1 rfl) ?_
          refine lv_imul hx hb dX12_named_49 ?_
          refine lv_topi (fun x_327 ex_327 => ?_)
          have gx_327 : gi x_327 0 30 := gi_mul ex_327 (gi_c 6 6 (by decide)) gv1 (by decide)
          refine lv_iload_n hx hb dX12_named_50 rfl (lv_at hl 3 rfl) ?_
          refine lv_iadd hx hb dX12_named_51 ?_
          refine lv_topi (fun x_328 ex_328 => ?_)
          have gx_328 : gi x_328 0 35 := gi_add ex_328 gx_327 g_319 (by decide)
          refine va_iald hx hb hK hP 2 1 rfl rfl (gi_in gx_328 (by decide)) dX12_named_52 ?_
          refine lv_topi (fun x_329 ex_329 => ?_)
          have hlx_329 : x_329.toInt = (fm_letter x_328.toNatClampNeg).toInt := congrArg Int32.toInt ex_329
          refine lv_iload_n hx hb dX12_named_53 rfl (lv_at hl 3 rfl) ?_
          refine lv_aload_n hx hb dX12_named_54 rfl (lv_at hl 0 rfl) ?_
          refine va_get (D := (dC, dI)) (ci := 12) (v := .int (mi 29)) (C := RX12) (T := TX12) (N := 57) hx hb hts (fun w h => List.mem_cons_of_mem _ (jnGB_X12 w h)) hown hK hP 0 rfl rfl 29 (by decide) (hts _ (List.mem_cons_of_mem _ mGB_113)) (fun _ h9 => h9) rfl dX12_named_55 ?_
          refine lv_aload_n hx hb dX12_named_58 rfl (lv_at hl 0 rfl) ?_
          refine va_get (D := (dC, dI)) (ci := 12) (v := .int (mi 30)) (C := RX12) (T := TX12) (N := 57) hx hb hts (fun w h => List.mem_cons_of_mem _ (jnGB_X12 w h)) hown hK hP 0 rfl rfl 30 (by decide) (hts _ (List.mem_cons_of_mem _ mGB_135)) (fun _ h9 => h9) rfl dX12_named_59 ?_
          refine lv_isub hx hb dX12_named_62 ?_
          refine lv_topi (fun x_330 ex_330 => ?_)
          have gx_330 : gi x_330 (-1600) 1600 := gi_sub ex_330 gmi_29 gmi_30 (by decide)
          refine lv_icmp_ge (tgt := 80) hx hb dX12_named_63 (by decide) (fun c_331 => ?_) (fun c_331 => ?_)
          · have hF := gf_pos (by rw [ex_330] at c_331; exact c_331) hF
            have hc_332 : x_330.toInt ≤ v3.toInt := by have h9 := Int32.le_iff_toInt_le.mp c_331; exact h9
            have g_333 : gi x_330 (-1600) 5 := gi_le_l c_331 gx_330 g_319
            refine lv_iconst (v := 0) hx hb dX12_named_80 (by decide) ?_
            refine lv_icmp_ne (tgt := 88) hx hb dX12_named_81 (by decide) (fun c_334 => ?_) (fun c_334 => ?_)
            · have hF := gf_neg (by rw [ex_329, ex_328, ex_327] at c_334; exact c_334) hF
              have hc_335 : x_329.toInt ≠ 0 := fun h9 => c_334 (Int32.toInt_inj.mp (by rw [show (0 : Int32).toInt = 0 from by decide]; exact h9))
              refine lv_iconst (v := 0) hx hb dX12_named_88 (by decide) ?_
              refine lv_istore_n (lv' := [(2, .int 0), (0, .ref h0), (1, .int v1), (3, .int v3)]) hx hb dX12_named_89 rfl hl (by decide) rfl (fun ls hl => ?_)
              obtain ⟨x_336, ex_336⟩ : ∃ y : Int32, y = v3 + 1 := ⟨_, rfl⟩
              have gx_336 : gi x_336 1 6 := gi_add ex_336 g_319 (gi_c 1 1 (by decide)) (by decide)
              refine lv_iinc (v := x_336) (lv' := [(3, .int x_336), (2, .int 0), (0, .ref h0), (1, .int v1)]) hx hb dX12_named_90 hl (k := 3) rfl (by rw [ex_336]; rfl) (by decide) rfl (fun ls hl => ?_)
              refine lv_goto (tgt := 32) hx hb dX12_named_93 (by decide) ?_
              exact ih.2 v1 0 x_336 _ _ _ gv1 (gi_w (gi_c 0 0 (by decide)) (by decide)) (gi_w gx_336 (by decide)) (by rw [ex_336]; exact hF) (by have av1 := gv1.1; have bv1 := gv1.2; have av3 := gv3.1; have bv3 := gv3.2; have qgx_336 := gx_336.1; have rgx_336 := gx_336.2; have igx_336 : x_336.toInt = v3.toInt + 1 := (by have hc1 : (1 : Int32).toInt = 1 := (by decide); have h9 := gi_addI ex_336 (by have h1 := g_319.1; have h2 := (gi_c 1 1 (by decide)).1; have h3 := g_319.2; have h4 := (gi_c 1 1 (by decide)).2; omega) (by have h1 := g_319.1; have h2 := (gi_c 1 1 (by decide)).1; have h3 := g_319.2; have h4 := (gi_c 1 1 (by decide)).2; omega); rw [hc1] at h9; exact h9); have qgv3 := g_319.1; have rgv3 := g_319.2; have qgv1 := gv1.1; have rgv1 := gv1.2; omega) hP hS (lv_sub hl [2, 3, 1, 0] rfl)
            · have hF := gf_pos (by rw [ex_329, ex_328, ex_327] at c_334; exact c_334) hF
              have hc_337 : x_329.toInt = 0 := by have h9 := congrArg Int32.toInt c_334; rw [show (0 : Int32).toInt = 0 from by decide] at h9; exact h9
              have g_338 : gi x_329 0 0 := gi_eq c_334 (gi_c 0 0 (by decide))
              refine lv_iconst (v := 1) hx hb dX12_named_84 (by decide) ?_
              refine lv_goto (tgt := 89) hx hb dX12_named_85 (by decide) ?_
              refine lv_istore_n (lv' := [(2, .int 1), (0, .ref h0), (1, .int v1), (3, .int v3)]) hx hb dX12_named_89 rfl hl (by decide) rfl (fun ls hl => ?_)
              obtain ⟨x_339, ex_339⟩ : ∃ y : Int32, y = v3 + 1 := ⟨_, rfl⟩
              have gx_339 : gi x_339 1 6 := gi_add ex_339 g_319 (gi_c 1 1 (by decide)) (by decide)
              refine lv_iinc (v := x_339) (lv' := [(3, .int x_339), (2, .int 1), (0, .ref h0), (1, .int v1)]) hx hb dX12_named_90 hl (k := 3) rfl (by rw [ex_339]; rfl) (by decide) rfl (fun ls hl => ?_)
              refine lv_goto (tgt := 32) hx hb dX12_named_93 (by decide) ?_
              exact ih.2 v1 1 x_339 _ _ _ gv1 (gi_w (gi_c 1 1 (by decide)) (by decide)) (gi_w gx_339 (by decide)) (by rw [ex_339]; exact hF) (by have av1 := gv1.1; have bv1 := gv1.2; have av3 := gv3.1; have bv3 := gv3.2; have qgx_339 := gx_339.1; have rgx_339 := gx_339.2; have igx_339 : x_339.toInt = v3.toInt + 1 := (by have hc1 : (1 : Int32).toInt = 1 := (by decide); have h9 := gi_addI ex_339 (by have h1 := g_319.1; have h2 := (gi_c 1 1 (by decide)).1; have h3 := g_319.2; have h4 := (gi_c 1 1 (by decide)).2; omega) (by have h1 := g_319.1; have h2 := (gi_c 1 1 (by decide)).1; have h3 := g_319.2; have h4 := (gi_c 1 1 (by decide)).2; omega); rw [hc1] at h9; exact h9); have qgv3 := g_319.1; have rgv3 := g_319.2; have qgv1 := gv1.1; have rgv1 := gv1.2; omega) hP hS (lv_sub hl [2, 3, 1, 0] rfl)
          · have hF := gf_neg (by rw [ex_330] at c_331; exact c_331) hF
            have hc_340 : v3.toInt < x_330.toInt := by have h9 := Int32.lt_iff_toInt_lt.mp (Int32.not_le.mp c_331); exact h9
            have g_341 : gi x_330 1 1600 := gi_lt_r (Int32.not_le.mp c_331) g_319 gx_330 (by decide)
            refine lv_aload_n hx hb dX12_named_66 rfl (lv_at hl 0 rfl) ?_
            refine va_get (D := (dC, dI)) (ci := 12) (v := .ref (mr 13)) (C := RX12) (T := TX12) (N := 57) hx hb hts (fun w h => List.mem_cons_of_mem _ (jnGB_X12 w h)) hown hK hP 0 rfl rfl 25 (by decide) (hts _ (List.mem_cons_of_mem _ mGB_24)) (fun _ h9 => h9) rfl dX12_named_67 ?_
            refine lv_aload_n hx hb dX12_named_70 rfl (lv_at hl 0 rfl) ?_
            refine va_get (D := (dC, dI)) (ci := 12) (v := .int (mi 30)) (C := RX12) (T := TX12) (N := 57) hx hb hts (fun w h => List.mem_cons_of_mem _ (jnGB_X12 w h)) hown hK hP 0 rfl rfl 30 (by decide) (hts _ (List.mem_cons_of_mem _ mGB_135)) (fun _ h9 => h9) rfl dX12_named_71 ?_
            refine lv_iload_n hx hb dX12_named_74 rfl (lv_at hl 3 rfl) ?_
            refine lv_iadd hx hb dX12_named_75 ?_
            refine lv_topi (fun x_342 ex_342 => ?_)
            have gx_342 : gi x_342 0 1605 := gi_add ex_342 gmi_30 g_319 (by decide)
            refine va_iald hx hb hK hP 1 0 rfl rfl (gz_inR (n := 1600) (by have qgx_342 := gx_342.1; have rgx_342 := gx_342.2; have igx_342 : x_342.toInt = (mi 30).toInt + v3.toInt := (by have h9 := gi_addI ex_342 (by have h1 := gmi_30.1; have h2 := g_319.1; have h3 := gmi_30.2; have h4 := g_319.2; omega) (by have h1 := gmi_30.1; have h2 := g_319.1; have h3 := gmi_30.2; have h4 := g_319.2; omega); exact h9); have qgv3 := g_319.1; have rgv3 := g_319.2; have qgmi_30 := gmi_30.1; have rgmi_30 := gmi_30.2; have qgx_330 := g_341.1; have rgx_330 := g_341.2; have igx_330 : x_330.toInt = (mi 29).toInt - (mi 30).toInt := (by have h9 := gi_subI ex_330 (by have h1 := gmi_29.1; have h2 := gmi_30.1; have h3 := gmi_29.2; have h4 := gmi_30.2; omega) (by have h1 := gmi_29.1; have h2 := gmi_30.1; have h3 := gmi_29.2; have h4 := gmi_30.2; omega); exact h9); have qgmi_29 := gmi_29.1; have rgmi_29 := gmi_29.2; have qgv2 := g_326.1; have rgv2 := g_326.2; have qgmi_26 := gmi_26.1; have rgmi_26 := gmi_26.2; omega) (by have qgx_342 := gx_342.1; have rgx_342 := gx_342.2; have igx_342 : x_342.toInt = (mi 30).toInt + v3.toInt := (by have h9 := gi_addI ex_342 (by have h1 := gmi_30.1; have h2 := g_319.1; have h3 := gmi_30.2; have h4 := g_319.2; omega) (by have h1 := gmi_30.1; have h2 := g_319.1; have h3 := gmi_30.2; have h4 := g_319.2; omega); exact h9); have qgv3 := g_319.1; have rgv3 := g_319.2; have qgmi_30 := gmi_30.1; have rgmi_30 := gmi_30.2; have qgx_330 := g_341.1; have rgx_330 := g_341.2; have igx_330 : x_330.toInt = (mi 29).toInt - (mi 30).toInt := (by have h9 := gi_subI ex_330 (by have h1 := gmi_29.1; have h2 := gmi_30.1; have h3 := gmi_29.2; have h4 := gmi_30.2; omega) (by have h1 := gmi_29.1; have h2 := gmi_30.1; have h3 := gmi_29.2; have h4 := gmi_30.2; omega); exact h9); have qgmi_29 := gmi_29.1; have rgmi_29 := gmi_29.2; have qgv2 := g_326.1; have rgv2 := g_326.2; have qgmi_26 := gmi_26.1; have rgmi_26 := gmi_26.2; omega)) dX12_named_76 ?_
            refine lv_topi (fun x_343 ex_343 => ?_)
            have hlx_343 : x_343.toInt = (fm_tape x_342.toNatClampNeg).toInt := congrArg Int32.toInt ex_343
            refine lv_goto (tgt := 81) hx hb dX12_named_77 (by decide) ?_
            refine lv_icmp_ne (tgt := 88) hx hb dX12_named_81 (by decide) (fun c_344 => ?_) (fun c_344 => ?_)
            · have hF := gf_neg (by rw [ex_343, ex_342, ex_329, ex_328, ex_327] at c_344; exact c_344) hF
              have hc_345 : x_329.toInt ≠ x_343.toInt := fun h9 => c_344 (Int32.toInt_inj.mp (by exact h9))
              refine lv_iconst (v := 0) hx hb dX12_named_88 (by decide) ?_
              refine lv_istore_n (lv' := [(2, .int 0), (0, .ref h0), (1, .int v1), (3, .int v3)]) hx hb dX12_named_89 rfl hl (by decide) rfl (fun ls hl => ?_)
              obtain ⟨x_346, ex_346⟩ : ∃ y : Int32, y = v3 + 1 := ⟨_, rfl⟩
              have gx_346 : gi x_346 1 6 := gi_add ex_346 g_319 (gi_c 1 1 (by decide)) (by decide)
              refine lv_iinc (v := x_346) (lv' := [(3, .int x_346), (2, .int 0), (0, .ref h0), (1, .int v1)]) hx hb dX12_named_90 hl (k := 3) rfl (by rw [ex_346]; rfl) (by decide) rfl (fun ls hl => ?_)
              refine lv_goto (tgt := 32) hx hb dX12_named_93 (by decide) ?_
              exact ih.2 v1 0 x_346 _ _ _ gv1 (gi_w (gi_c 0 0 (by decide)) (by decide)) (gi_w gx_346 (by decide)) (by rw [ex_346]; exact hF) (by have av1 := gv1.1; have bv1 := gv1.2; have av3 := gv3.1; have bv3 := gv3.2; have qgx_346 := gx_346.1; have rgx_346 := gx_346.2; have igx_346 : x_346.toInt = v3.toInt + 1 := (by have hc1 : (1 : Int32).toInt = 1 := (by decide); have h9 := gi_addI ex_346 (by have h1 := g_319.1; have h2 := (gi_c 1 1 (by decide)).1; have h3 := g_319.2; have h4 := (gi_c 1 1 (by decide)).2; omega) (by have h1 := g_319.1; have h2 := (gi_c 1 1 (by decide)).1; have h3 := g_319.2; have h4 := (gi_c 1 1 (by decide)).2; omega); rw [hc1] at h9; exact h9); have qgv3 := g_319.1; have rgv3 := g_319.2; have qgv1 := gv1.1; have rgv1 := gv1.2; omega) hP hS (lv_sub hl [2, 3, 1, 0] rfl)
            · have hF := gf_pos (by rw [ex_343, ex_342, ex_329, ex_328, ex_327] at c_344; exact c_344) hF
              have hc_347 : x_329.toInt = x_343.toInt := by have h9 := congrArg Int32.toInt c_344; exact h9
              refine lv_iconst (v := 1) hx hb dX12_named_84 (by decide) ?_
              refine lv_goto (tgt := 89) hx hb dX12_named_85 (by decide) ?_
              refine lv_istore_n (lv' := [(2, .int 1), (0, .ref h0), (1, .int v1), (3, .int v3)]) hx hb dX12_named_89 rfl hl (by decide) rfl (fun ls hl => ?_)
              obtain ⟨x_348, ex_348⟩ : ∃ y : Int32, y = v3 + 1 := ⟨_, rfl⟩
              have gx_348 : gi x_348 1 6 := gi_add ex_348 g_319 (gi_c 1 1 (by decide)) (by decide)
              refine lv_iinc (v := x_348) (lv' := [(3, .int x_348), (2, .int 1), (0, .ref h0), (1, .int v1)]) hx hb dX12_named_90 hl (k := 3) rfl (by rw [ex_348]; rfl) (by decide) rfl (fun ls hl => ?_)
              refine lv_goto (tgt := 32) hx hb dX12_named_93 (by decide) ?_
              exact ih.2 v1 1 x_348 _ _ _ gv1 (gi_w (gi_c 1 1 (by decide)) (by decide)) (gi_w gx_348 (by decide)) (by rw [ex_348]; exact hF) (by have av1 := gv1.1; have bv1 := gv1.2; have av3 := gv3.1; have bv3 := gv3.2; have qgx_348 := gx_348.1; have rgx_348 := gx_348.2; have igx_348 : x_348.toInt = v3.toInt + 1 := (by have hc1 : (1 : Int32).toInt = 1 := (by decide); have h9 := gi_addI ex_348 (by have h1 := g_319.1; have h2 := (gi_c 1 1 (by decide)).1; have h3 := g_319.2; have h4 := (gi_c 1 1 (by decide)).2; omega) (by have h1 := g_319.1; have h2 := (gi_c 1 1 (by decide)).1; have h3 := g_319.2; have h4 := (gi_c 1 1 (by decide)).2; omega); rw [hc1] at h9; exact h9); have qgv3 := g_319.1; have rgv3 := g_319.2; have qgv1 := gv1.1; have rgv1 := gv1.2; omega) hP hS (lv_sub hl [2, 3, 1, 0] rfl)
set_option maxHeartbeats 4000000 in
set_option maxRecDepth 100000 in
theorem sX12_namedP (l : Launch) (dC : Nat → ClassId) (dI : Nat → Nat → Nat) (h0 : Nat) (mi : Nat → Int32) (mr : Nat → Nat) (km_tape : ClassId) (fm_tape : Nat → Int32) (km_letter : ClassId) (fm_letter : Nat → Int32) (gmi_0 : gi (mi 0) 0 100000) (gmi_1 : gi (mi 1) 0 100000) (gmi_2 : gi (mi 2) 0 100000) (gmi_4 : gi (mi 4) 0 1) (gmi_7 : gi (mi 7) 0 6) (gmi_10 : gi (mi 10) 0 24) (gmi_17 : gi (mi 17) 0 8) (gmi_23 : gi (mi 23) 0 300) (gmi_24 : gi (mi 24) 0 1) (gmi_26 : gi (mi 26) 0 1600) (gmi_29 : gi (mi 29) 0 1600) (gmi_30 : gi (mi 30) 0 1600) (gmi_32 : gi (mi 32) 0 100000) (gmi_33 : gi (mi 33) 0 1) (gmi_37 : gi (mi 37) 0 1) (gmi_41 : gi (mi 41) 0 24) (gmi_50 : gi (mi 50) 0 1) (gmi_51 : gi (mi 51) 0 1) (gmi_56 : gi (mi 56) 0 80) (hpq0 : (mi 30).toInt ≤ (mi 29).toInt) (hpq1 : (mi 29).toInt ≤ (mi 26).toInt) (hpq2 : ((mi 31).toInt = 0 ∨ (mi 30).toInt < (mi 29).toInt)) : Met l yX12_named (.code yX12_named cX12_named 4 (some .int) :: wsGB) ({ frames := 0, cells := 0, slots := 0, locals := 0 }) (va_Pc [.ref h0] (fun U => va_P (dC, dI) vwCl [(h0, .inr (12, fsMM mi mr)), ((mr 13), .inl (km_tape, 1600, .inl fm_tape)), ((mr 1), .inl (km_letter, 36, .inl fm_letter))] U.heap ∧ va_K (dC, dI) vwCl [(km_tape, .int), (km_letter, .int)] U)) (va_Qi (fun (r : Int32) (u : Unit) => (gi r (-1) 5) ∧ r = fX12_named mi fm_tape fm_letter) (fun _ _ => True) (fun _ => False)) 0 0 (fun _ => False) := by
  refine Met.ofW (cc := cX12_named) (maxL := 4) (ret := (some .int)) (by decide) rfl ?_
  intro p e s m args below meth c s₁ B hml hv
  obtain ⟨rfl, hP, hK⟩ := hv
  have hx := B.exec
  have hb := B.bytes
  have hr := B.returns
  have hts := atoms_spec (ws := (.code yX12_named cX12_named 4 (some .int) :: wsGB)) B.pre
  have hown : s.vm.findClass RX12 = some m.cls := findClass_of_methodNamed B.named
  have hlocks := B.notSynchronized
  have hS : va_S (fun _ => False) s.heap s.heap [] := va_S.rf
  have hl := lv_entry ([.ref h0]) (n := 4) (Nat.le_of_ble_eq_true rfl)
  rw [lg_entry_eq]
  generalize (lg_sl ([.ref h0]) ++ List.replicate (4 - (lg_sl ([.ref h0])).length) Slot.unset).toArray = ls at hl ⊢
  have hl : lv_has ls 4 [(0, .ref h0)] := hl
  obtain ⟨RES, hF⟩ : ∃ R9, fX12_named mi fm_tape fm_letter = R9 := ⟨_, rfl⟩
  have hR9 := hF
  refine lv_iconst (v := 0) hx hb dX12_named_0 (by decide) ?_
  refine lv_istore_n (lv' := [(1, .int 0), (0, .ref h0)]) hx hb dX12_named_1 rfl hl (by decide) rfl (fun ls hl => ?_)
  refine (lp_sX12_namedP h0 mi mr km_tape fm_tape km_letter fm_letter gmi_0 gmi_1 gmi_2 gmi_4 gmi_7 gmi_10 gmi_17 gmi_23 gmi_24 gmi_26 gmi_29 gmi_30 gmi_32 gmi_33 gmi_37 gmi_41 gmi_50 gmi_51 gmi_56 hpq0 hpq1 hpq2 hx hb hml hown hts hK (Nat.le_of_ble_eq_true rfl) (Nat.le_of_ble_eq_true rfl) (Nat.zero_le _) (Nat.zero_le _) (fun v H locs ls gv hF hP hS hl => ?_) (fun v H locs ls gv hF hP hS hl => ?_) 1000000000).1 0 _ _ _ (gi_w (gi_c 0 0 (by decide)) (by decide)) hF (by have k0 : (0 : Int32).toInt = 0 := (by decide); omega) hP hS (lv_sub hl [1, 0] rfl)
  · skip
    exact W.iret (v := v) hx hb hr (fun t ht hW => ⟨⟨v, (), rfl, ⟨(gi_w gv (by decide)), hF.trans hR9.symm⟩, trivial⟩, hS.F ht⟩) hS.2.2 dX12_named_109
  · skip
    exact W.iret (v := v) hx hb hr (fun t ht hW => ⟨⟨v, (), rfl, ⟨(gi_w gv (by decide)), hF.trans hR9.symm⟩, trivial⟩, hS.F ht⟩) hS.2.2 dX12_named_101
theorem dX12_placeHere_0 : decode cX12_placeHere 0 = .ok (.aload_n 0, 1) := by decide +kernel
theorem dX12_placeHere_1 : decode cX12_placeHere 1 = .ok (.getfield 174, 3) := by decide +kernel
theorem dX12_placeHere_4 : decode cX12_placeHere 4 = .ok (.ifCond .ne 16, 3) := by decide +kernel
theorem dX12_placeHere_7 : decode cX12_placeHere 7 = .ok (.aload_n 0, 1) := by decide +kernel
theorem dX12_placeHere_8 : decode cX12_placeHere 8 = .ok (.getfield 164, 3) := by decide +kernel
theorem dX12_placeHere_11 : decode cX12_placeHere 11 = .ok (.iconst 1, 1) := by decide +kernel
theorem dX12_placeHere_12 : decode cX12_placeHere 12 = .ok (.if_icmp .eq 8, 3) := by decide +kernel
theorem dX12_placeHere_15 : decode cX12_placeHere 15 = .ok (.aload_n 0, 1) := by decide +kernel
theorem dX12_placeHere_16 : decode cX12_placeHere 16 = .ok (.iconst 1, 1) := by decide +kernel
theorem dX12_placeHere_17 : decode cX12_placeHere 17 = .ok (.invokevirtual 194, 3) := by decide +kernel
theorem dX12_placeHere_20 : decode cX12_placeHere 20 = .ok (.aload_n 0, 1) := by decide +kernel
theorem dX12_placeHere_21 : decode cX12_placeHere 21 = .ok (.getfield 174, 3) := by decide +kernel
theorem dX12_placeHere_24 : decode cX12_placeHere 24 = .ok (.ifCond .eq 7, 3) := by decide +kernel
theorem dX12_placeHere_27 : decode cX12_placeHere 27 = .ok (.iconst 0, 1) := by decide +kernel
theorem dX12_placeHere_28 : decode cX12_placeHere 28 = .ok (.goto 7, 3) := by decide +kernel
theorem dX12_placeHere_31 : decode cX12_placeHere 31 = .ok (.aload_n 0, 1) := by decide +kernel
theorem dX12_placeHere_32 : decode cX12_placeHere 32 = .ok (.invokevirtual 216, 3) := by decide +kernel
theorem dX12_placeHere_35 : decode cX12_placeHere 35 = .ok (.istore_n 1, 1) := by decide +kernel
theorem dX12_placeHere_36 : decode cX12_placeHere 36 = .ok (.iload_n 1, 1) := by decide +kernel
theorem dX12_placeHere_37 : decode cX12_placeHere 37 = .ok (.iconst (-1), 1) := by decide +kernel
theorem dX12_placeHere_38 : decode cX12_placeHere 38 = .ok (.if_icmp .ne 8, 3) := by decide +kernel
theorem dX12_placeHere_41 : decode cX12_placeHere 41 = .ok (.aload_n 0, 1) := by decide +kernel
theorem dX12_placeHere_42 : decode cX12_placeHere 42 = .ok (.iconst 2, 1) := by decide +kernel
theorem dX12_placeHere_43 : decode cX12_placeHere 43 = .ok (.invokevirtual 194, 3) := by decide +kernel
theorem dX12_placeHere_46 : decode cX12_placeHere 46 = .ok (.aload_n 0, 1) := by decide +kernel
theorem dX12_placeHere_47 : decode cX12_placeHere 47 = .ok (.iconst 1, 1) := by decide +kernel
theorem dX12_placeHere_48 : decode cX12_placeHere 48 = .ok (.invokevirtual 205, 3) := by decide +kernel
theorem dX12_placeHere_51 : decode cX12_placeHere 51 = .ok (.iconst 0, 1) := by decide +kernel
theorem dX12_placeHere_52 : decode cX12_placeHere 52 = .ok (.iload_n 1, 1) := by decide +kernel
theorem dX12_placeHere_53 : decode cX12_placeHere 53 = .ok (.invokestatic 219, 3) := by decide +kernel
theorem dX12_placeHere_56 : decode cX12_placeHere 56 = .ok (.ireturn, 1) := by decide +kernel
noncomputable def bfX12_placeHere_46 (mi : Nat → Int32) (fm_tape : Nat → Int32) (fm_letter : Nat → Int32) (v1 : Int32) (w0_27 : Int32) (w0_28 : Int32) (w0_29 : Int32) (w0_30 : Int32) (w0_31 : Int32) (w0_32 : Int32) (w0_33 : Int32) : Int32 × Int32 × Int32 × Int32 × Int32 × Int32 × Int32 × Int32 := cal (fun o4 => ((if (0 : Int32) < v1 then v1 else (0 : Int32)), o4.1, o4.2.1, o4.2.2.1, o4.2.2.2.1, o4.2.2.2.2.1, o4.2.2.2.2.2.1, o4.2.2.2.2.2.2)) (fX12_passes (upd (upd (upd (upd (upd (upd (upd mi 27 w0_27) 28 w0_28) 29 w0_29) 30 w0_30) 31 w0_31) 32 w0_32) 33 w0_33) fm_tape (1 : Int32))
noncomputable def bfX12_placeHere_35 (mi : Nat → Int32) (fm_tape : Nat → Int32) (fm_letter : Nat → Int32) (s0 : Int32) (w0_27 : Int32) (w0_28 : Int32) (w0_29 : Int32) (w0_30 : Int32) (w0_31 : Int32) (w0_32 : Int32) (w0_33 : Int32) : Int32 × Int32 × Int32 × Int32 × Int32 × Int32 × Int32 × Int32 := if s0 = (-1 : Int32) then (cal (fun o3 => bfX12_placeHere_46 mi fm_tape fm_letter s0 o3.1 o3.2.1 w0_29 w0_30 w0_31 w0_32 o3.2.2) (fX12_faults (upd (upd (upd (upd (upd (upd (upd mi 27 w0_27) 28 w0_28) 29 w0_29) 30 w0_30) 31 w0_31) 32 w0_32) 33 w0_33) (2 : Int32))) else (bfX12_placeHere_46 mi fm_tape fm_letter s0 w0_27 w0_28 w0_29 w0_30 w0_31 w0_32 w0_33)
noncomputable def bfX12_placeHere_20 (mi : Nat → Int32) (fm_tape : Nat → Int32) (fm_letter : Nat → Int32) (w0_27 : Int32) (w0_28 : Int32) (w0_29 : Int32) (w0_30 : Int32) (w0_31 : Int32) (w0_32 : Int32) (w0_33 : Int32) : Int32 × Int32 × Int32 × Int32 × Int32 × Int32 × Int32 × Int32 := if w0_33 = (0 : Int32) then (cal (fun o2 => bfX12_placeHere_35 mi fm_tape fm_letter o2 w0_27 w0_28 w0_29 w0_30 w0_31 w0_32 w0_33) (fX12_named (upd (upd (upd (upd (upd (upd (upd mi 27 w0_27) 28 w0_28) 29 w0_29) 30 w0_30) 31 w0_31) 32 w0_32) 33 w0_33) fm_tape fm_letter)) else (bfX12_placeHere_35 mi fm_tape fm_letter (0 : Int32) w0_27 w0_28 w0_29 w0_30 w0_31 w0_32 w0_33)
noncomputable def fX12_placeHere (mi : Nat → Int32) (fm_tape : Nat → Int32) (fm_letter : Nat → Int32) : Int32 × Int32 × Int32 × Int32 × Int32 × Int32 × Int32 × Int32 := if (mi 33) = (0 : Int32) then (if (mi 31) = (1 : Int32) then (bfX12_placeHere_20 mi fm_tape fm_letter (mi 27) (mi 28) (mi 29) (mi 30) (mi 31) (mi 32) (mi 33)) else (cal (fun o1 => bfX12_placeHere_20 mi fm_tape fm_letter o1.1 o1.2.1 (mi 29) (mi 30) (mi 31) (mi 32) o1.2.2) (fX12_faults mi (1 : Int32)))) else (bfX12_placeHere_20 mi fm_tape fm_letter (mi 27) (mi 28) (mi 29) (mi 30) (mi 31) (mi 32) (mi 33))
set_option maxHeartbeats 4000000 in
set_option maxRecDepth 100000 in
theorem sX12_placeHereP (l : Launch) (dC : Nat → ClassId) (dI : Nat → Nat → Nat) (sz : Nat) (h0 : Nat) (mi : Nat → Int32) (mr : Nat → Nat) (km_tape : ClassId) (fm_tape : Nat → Int32) (km_letter : ClassId) (fm_letter : Nat → Int32) (gmi_0 : gi (mi 0) 0 100000) (gmi_1 : gi (mi 1) 0 100000) (gmi_2 : gi (mi 2) 0 100000) (gmi_4 : gi (mi 4) 0 1) (gmi_7 : gi (mi 7) 0 6) (gmi_10 : gi (mi 10) 0 24) (gmi_17 : gi (mi 17) 0 8) (gmi_23 : gi (mi 23) 0 300) (gmi_24 : gi (mi 24) 0 1) (gmi_26 : gi (mi 26) 0 1600) (gmi_29 : gi (mi 29) 0 1600) (gmi_30 : gi (mi 30) 0 1600) (gmi_32 : gi (mi 32) 0 100000) (gmi_33 : gi (mi 33) 0 1) (gmi_37 : gi (mi 37) 0 1) (gmi_41 : gi (mi 41) 0 24) (gmi_50 : gi (mi 50) 0 1) (gmi_51 : gi (mi 51) 0 1) (gmi_56 : gi (mi 56) 0 80) (hpq0 : (mi 30).toInt ≤ (mi 29).toInt) (hpq1 : (mi 29).toInt ≤ (mi 26).toInt) (hpq2 : ((mi 31).toInt = 0 ∨ (mi 30).toInt < (mi 29).toInt)) : Met l yX12_placeHere (.code yX12_placeHere cX12_placeHere 2 (some .int) :: wsGB) ({ frames := 4, cells := 0, slots := 0, locals := 88 }) (va_Pc [.ref h0] (fun U => U.heap.size = sz ∧ va_P (dC, dI) vwCl [(h0, .inr (12, fsMM mi mr)), ((mr 13), .inl (km_tape, 1600, .inl fm_tape)), ((mr 1), .inl (km_letter, 36, .inl fm_letter))] U.heap ∧ va_K (dC, dI) vwCl [(km_tape, .int), (km_letter, .int)] U ∧ va_D (fun _ => True) [(h0, .inr (12, fsMM mi mr)), ((mr 13), .inl (km_tape, 1600, .inl fm_tape)), ((mr 1), .inl (km_letter, 36, .inl fm_letter))])) (va_Qi (fun (r : Int32) (u : Int32) => r = u ∧ gi r 0 5) (fun r t => ∃ (w0_27 : Int32) (w0_28 : Int32) (w0_29 : Int32) (w0_30 : Int32) (w0_31 : Int32) (w0_32 : Int32) (w0_33 : Int32), gi w0_29 0 1600 ∧ gi w0_30 0 1600 ∧ gi w0_32 0 100000 ∧ gi w0_33 0 1 ∧ (mi 30).toInt ≤ w0_30.toInt ∧ w0_30.toInt ≤ w0_29.toInt ∧ w0_29.toInt ≤ (mi 26).toInt ∧ (w0_31.toInt = 0 ∨ w0_30.toInt < w0_29.toInt) ∧ (mi 33).toInt ≤ w0_33.toInt ∧ (r, w0_27, w0_28, w0_29, w0_30, w0_31, w0_32, w0_33) = fX12_placeHere mi fm_tape fm_letter ∧ va_P (dC, dI) vwCl [(h0, .inr (12, fsMM (upd (upd (upd (upd (upd (upd (upd mi 27 w0_27) 28 w0_28) 29 w0_29) 30 w0_30) 31 w0_31) 32 w0_32) 33 w0_33) mr)), ((mr 13), .inl (km_tape, 1600, .inl fm_tape)), ((mr 1), .inl (km_letter, 36, .inl fm_letter))] t.heap ∧ va_D (va_A [(h0, .inr (12, fsMM mi mr)), ((mr 13), .inl (km_tape, 1600, .inl fm_tape)), ((mr 1), .inl (km_letter, 36, .inl fm_letter))] sz) [(h0, .inr (12, fsMM (upd (upd (upd (upd (upd (upd (upd mi 27 w0_27) 28 w0_28) 29 w0_29) 30 w0_30) 31 w0_31) 32 w0_32) 33 w0_33) mr)), ((mr 13), .inl (km_tape, 1600, .inl fm_tape)), ((mr 1), .inl (km_letter, 36, .inl fm_letter))]) (va_A [(h0, .inr (12, fsMM mi mr)), ((mr 13), .inl (km_tape, 1600, .inl fm_tape)), ((mr 1), .inl (km_letter, 36, .inl fm_letter))] sz)) 0 0 (va_A [(h0, .inr (12, fsMM mi mr)), ((mr 13), .inl (km_tape, 1600, .inl fm_tape)), ((mr 1), .inl (km_letter, 36, .inl fm_letter))] sz) := by
  refine Met.ofW (cc := cX12_placeHere) (maxL := 2) (ret := (some .int)) (by decide) rfl ?_
  intro p e s m args below meth c s₁ B hml hv
  obtain ⟨rfl, hsz, hP, hK, hD0⟩ := hv
  have hx := B.exec
  have hb := B.bytes
  have hr := B.returns
  have hts := atoms_spec (ws := (.code yX12_placeHere cX12_placeHere 2 (some .int) :: wsGB)) B.pre
  have hown : s.vm.findClass RX12 = some m.cls := findClass_of_methodNamed B.named
  have hlocks := B.notSynchronized
  subst hsz
  have hD := hD0.self (sz := s.heap.size)
  generalize hAe : va_A [(h0, .inr (12, fsMM mi mr)), ((mr 13), .inl (km_tape, 1600, .inl fm_tape)), ((mr 1), .inl (km_letter, 36, .inl fm_letter))] s.heap.size = A at hD ⊢
  have hA : ∀ q : Nat, s.heap.size ≤ q → A q := fun q h => by rw [← hAe]; exact Or.inr h
  have hS : va_S A s.heap s.heap [] := va_S.rf
  have hl := lv_entry ([.ref h0]) (n := 2) (Nat.le_of_ble_eq_true rfl)
  rw [lg_entry_eq]
  generalize (lg_sl ([.ref h0]) ++ List.replicate (2 - (lg_sl ([.ref h0])).length) Slot.unset).toArray = ls at hl ⊢
  have hl : lv_has ls 2 [(0, .ref h0)] := hl
  obtain ⟨RES, hF⟩ : ∃ R9, fX12_placeHere mi fm_tape fm_letter = R9 := ⟨_, rfl⟩
  have hR9 := hF
  refine lv_aload_n hx hb dX12_placeHere_0 rfl (lv_at hl 0 rfl) ?_
  refine va_get (D := (dC, dI)) (ci := 12) (v := .int (mi 33)) (C := RX12) (T := TX12) (N := 57) hx hb hts (fun w h => List.mem_cons_of_mem _ (jnGB_X12 w h)) hown hK hP 0 rfl rfl 33 (by decide) (hts _ (List.mem_cons_of_mem _ mGB_114)) (fun _ h9 => h9) rfl dX12_placeHere_1 ?_
  refine lv_if_ne (tgt := 20) hx hb dX12_placeHere_4 (by decide) (fun c_139 => ?_) (fun c_139 => ?_)
  · have hF := gf_neg c_139 hF
    have hc_140 : (mi 33).toInt ≠ 0 := fun h9 => c_139 (Int32.toInt_inj.mp (by rw [show (0 : Int32).toInt = 0 from by decide]; exact h9))
    have g_141 : gi (mi 33) 1 1 := gi_ne_lo c_139 gmi_33 (gi_c 0 0 (by decide)) (by decide)
    refine lv_aload_n hx hb dX12_placeHere_20 rfl (lv_at hl 0 rfl) ?_
    refine va_get (D := (dC, dI)) (ci := 12) (v := .int (mi 33)) (C := RX12) (T := TX12) (N := 57) hx hb hts (fun w h => List.mem_cons_of_mem _ (jnGB_X12 w h)) hown hK hP 0 rfl rfl 33 (by decide) (hts _ (List.mem_cons_of_mem _ mGB_114)) (fun _ h9 => h9) rfl dX12_placeHere_21 ?_
    refine lv_if_eq (tgt := 31) hx hb dX12_placeHere_24 (by decide) (fun c_142 => absurd c_142 (gi_no_eq g_141 (gi_c 0 0 (by decide)) (by decide))) (fun c_142 => ?_)
    have hF := gf_neg c_142 hF
    refine lv_iconst (v := 0) hx hb dX12_placeHere_27 (by decide) ?_
    refine lv_goto (tgt := 35) hx hb dX12_placeHere_28 (by decide) ?_
    refine lv_istore_n (lv' := [(1, .int 0), (0, .ref h0)]) hx hb dX12_placeHere_35 rfl hl (by decide) rfl (fun ls hl => ?_)
    refine lv_iload_n hx hb dX12_placeHere_36 rfl (lv_at hl 0 rfl) ?_
    refine lv_iconst (v := (-1)) hx hb dX12_placeHere_37 (by decide) ?_
    refine lv_icmp_ne (tgt := 46) hx hb dX12_placeHere_38 (by decide) (fun c_143 => ?_) (fun c_143 => absurd c_143 (gi_no_eq (gi_c 0 0 (by decide)) (gi_c (-1) (-1) (by decide)) (by decide)))
    have hF := gf_neg c_143 hF
    refine lv_aload_n hx hb dX12_placeHere_46 rfl (lv_at hl 1 rfl) ?_
    refine lv_iconst (v := 1) hx hb dX12_placeHere_47 (by decide) ?_
    have hPc := hP.sub (ws' := [(h0, .inr (12, fsMM mi mr)), ((mr 13), .inl (km_tape, 1600, .inl fm_tape))]) [0, 1] rfl
    have hKc := hK.sub (tys' := [(km_tape, .int)]) [0] rfl
    have hDc := hD.sub (ws' := [(h0, .inr (12, fsMM mi mr)), ((mr 13), .inl (km_tape, 1600, .inl fm_tape))]) [0, 1] (by decide) rfl
    have hFc := va_free (wc := [(h0, .inr (12, fsMM mi mr)), ((mr 13), .inl (km_tape, 1600, .inl fm_tape))]) hD hS hA [0, 1] rfl
    refine va_callv (va_runV (As := [.int 1]) (rest := []) ⟨hx, hb, hml, hown, hts⟩ (sX12_passesP l dC dI s.heap.size h0 mi mr km_tape fm_tape 1 gmi_0 gmi_1 gmi_2 gmi_4 gmi_7 gmi_10 gmi_17 gmi_23 gmi_24 gmi_26 gmi_29 gmi_30 gmi_32 (gi_w g_141 (by decide)) gmi_37 gmi_41 gmi_50 gmi_51 gmi_56 (gi_w (gi_c 1 1 (by decide)) (by decide)) (show (mi 30).toInt ≤ (mi 29).toInt from by have qgmi_33 := g_141.1; have rgmi_33 := g_141.2; have qgmi_30 := gmi_30.1; have rgmi_30 := gmi_30.2; have qgmi_29 := gmi_29.1; have rgmi_29 := gmi_29.2; have qgmi_26 := gmi_26.1; have rgmi_26 := gmi_26.2; omega) (show (mi 29).toInt ≤ (mi 26).toInt from by have qgmi_33 := g_141.1; have rgmi_33 := g_141.2; have qgmi_30 := gmi_30.1; have rgmi_30 := gmi_30.2; have qgmi_29 := gmi_29.1; have rgmi_29 := gmi_29.2; have qgmi_26 := gmi_26.1; have rgmi_26 := gmi_26.2; omega) (show ((mi 31).toInt = 0 ∨ (mi 30).toInt < (mi 29).toInt) from by have qgmi_33 := g_141.1; have rgmi_33 := g_141.2; have qgmi_30 := gmi_30.1; have rgmi_30 := gmi_30.2; have qgmi_29 := gmi_29.1; have rgmi_29 := gmi_29.2; have qgmi_26 := gmi_26.1; have rgmi_26 := gmi_26.2; omega)) (cwV 1 hts (gz_gV mGB_161 mGB_162 mGB_163 mGB_1 mGB_164 goodGB) rfl rfl rfl (by decide +kernel) ⟨Nat.le_of_ble_eq_true rfl, Nat.le_of_ble_eq_true rfl⟩) ⟨fun a U g mk q => by obtain ⟨q0, q1, qP, qK, qD⟩ := q; exact ⟨q0, q1, qP, va_K.moved (u := U) (U := U.calling g mk a) (Vm.Alike.refl U.vm) qK, qD⟩, va_recv hKc hPc (ci := 12) (q0 := 0) rfl rfl, fun U hU hW => ⟨rfl, by rw [hU], by rw [hU]; exact hPc, va_K.moved hW.alike hKc, hDc.weaken (fun _ _ _ _ => trivial)⟩⟩ rfl rfl hl.1 rfl (lv_room (Nat.le_of_ble_eq_true rfl)) dX12_placeHere_48 ⟨Nat.zero_le _, Nat.zero_le _⟩) hS (fun q _ h => hFc q h) hFc (fun u t H1 locs ht hvm hw hB hz1 hk1 hS => ?_)
    obtain ⟨y_145, y_146, y_147, y_148, y_149, y_150, y_151, gy_147, gy_148, gy_150, gy_151, hpr0_r_144, hpr1_r_144, hpr2_r_144, hpr3_r_144, hpr4_r_144, hpr5_r_144, hpr6_r_144, hE, hP1, hD1⟩ := hB
    rw [ht] at hP1
    obtain ⟨hP, hD⟩ := va_join (wr := [((mr 1), .inl (km_letter, 36, .inl fm_letter))]) (w1 := [(h0, .inr (12, fsMM (upd (upd (upd (upd (upd (upd (upd mi 27 y_145) 28 y_146) 29 y_147) 30 y_148) 31 y_149) 32 y_150) 33 y_151) mr)), ((mr 13), .inl (km_tape, 1600, .inl fm_tape))]) hP hD [0, 1] [2] rfl rfl (by decide) (by decide) hk1 hFc hP1 hD1
    have hpr0_r_144 : (mi 30).toInt ≤ y_148.toInt := hpr0_r_144
    have hpr1_r_144 : y_148.toInt ≤ y_147.toInt := hpr1_r_144
    have hpr2_r_144 : y_147.toInt ≤ (mi 26).toInt := hpr2_r_144
    have hpr3_r_144 : Hid ((y_149.toInt = 0 ∨ y_148.toInt < y_147.toInt)) := hpr3_r_144
    have hpr4_r_144 : (mi 33).toInt ≤ y_151.toInt := hpr4_r_144
    have g_152 : gi y_151 1 1 := gi_relL (show (mi 33).toInt ≤ y_151.toInt from by omega) g_141 gy_151
    have hpr5_r_144 : Hid (((1 : Int) = 1 ∨ y_151.toInt = 1)) := by have h9 : ((1 : Int32).toInt = 1 ∨ y_151.toInt = 1) := hpr5_r_144; rw [show (1 : Int32).toInt = 1 from by decide] at h9; exact h9
    have hpr6_r_144 : Hid ((y_151.toInt = 1 ∨ (mi 29).toInt ≤ y_148.toInt)) := hpr6_r_144
    have hP := hP.sub (ws' := [(h0, .inr (12, fsMM (upd (upd (upd (upd (upd (upd (upd mi 27 y_145) 28 y_146) 29 y_147) 30 y_148) 31 y_149) 32 y_150) 33 y_151) mr)), ((mr 13), .inl (km_tape, 1600, .inl fm_tape)), ((mr 1), .inl (km_letter, 36, .inl fm_letter))]) [1, 2, 0] rfl
    have hD := hD.sub (ws' := [(h0, .inr (12, fsMM (upd (upd (upd (upd (upd (upd (upd mi 27 y_145) 28 y_146) 29 y_147) 30 y_148) 31 y_149) 32 y_150) 33 y_151) mr)), ((mr 13), .inl (km_tape, 1600, .inl fm_tape)), ((mr 1), .inl (km_letter, 36, .inl fm_letter))]) [1, 2, 0] (by decide) rfl
    have hF := gf_callm (a := (y_145, y_146, y_147, y_148, y_149, y_150, y_151)) hE hF (by first | with_reducible rfl | simp only [upd_same, upd_app, ↓reduceIte, Nat.reduceEqDiff])
    generalize H1 = H at hP hS ⊢
    refine lv_iconst (v := 0) hx hb dX12_placeHere_51 (by decide) ?_
    refine lv_iload_n hx hb dX12_placeHere_52 rfl (lv_at hl 0 rfl) ?_
    refine va_mmax (own := RX12) hx hb (by rw [hml]; exact hl.1.symm) hown (hts _ (List.mem_cons_of_mem _ mGB_202)) (hts _ (List.mem_cons_of_mem _ mGB_203)) (hts _ (List.mem_cons_of_mem _ mGB_98)) (hts _ (List.mem_cons_of_mem _ mGB_204)) (Nat.le_of_ble_eq_true rfl) (Nat.le_of_ble_eq_true rfl) (Nat.zero_le _) (Nat.zero_le _) dX12_placeHere_53 ?_
    refine lv_topi (fun x_153 ex_153 => ?_)
    have gx_153 : gi x_153 0 0 := gi_max ex_153 (gi_c 0 0 (by decide)) (gi_c 0 0 (by decide)) (by decide)
    exact W.iret (v := x_153) hx hb hr (fun t ht hW => ⟨⟨x_153, x_153, rfl, ⟨rfl, (gi_w gx_153 (by decide))⟩, y_145, y_146, y_147, y_148, y_149, y_150, y_151, gy_147, gy_148, gy_150, (gi_w g_152 (by decide)), hpr0_r_144, hpr1_r_144, hpr2_r_144, (Hid.un hpr3_r_144), hpr4_r_144, by rw [ex_153]; exact hF.trans hR9.symm, by rw [ht]; exact hP, hD⟩, hS.F ht⟩) hS.2.2 dX12_placeHere_56
  · have hF := gf_pos c_139 hF
    have hc_154 : (mi 33).toInt = 0 := by have h9 := congrArg Int32.toInt c_139; rw [show (0 : Int32).toInt = 0 from by decide] at h9; exact h9
    have g_155 : gi (mi 33) 0 0 := gi_eq c_139 (gi_c 0 0 (by decide))
    refine lv_aload_n hx hb dX12_placeHere_7 rfl (lv_at hl 0 rfl) ?_
    refine va_get (D := (dC, dI)) (ci := 12) (v := .int (mi 31)) (C := RX12) (T := TX12) (N := 57) hx hb hts (fun w h => List.mem_cons_of_mem _ (jnGB_X12 w h)) hown hK hP 0 rfl rfl 31 (by decide) (hts _ (List.mem_cons_of_mem _ mGB_116)) (fun _ h9 => h9) rfl dX12_placeHere_8 ?_
    refine lv_iconst (v := 1) hx hb dX12_placeHere_11 (by decide) ?_
    refine lv_icmp_eq (tgt := 20) hx hb dX12_placeHere_12 (by decide) (fun c_156 => ?_) (fun c_156 => ?_)
    · have hF := gf_pos c_156 hF
      have hc_157 : (mi 31).toInt = 1 := by have h9 := congrArg Int32.toInt c_156; rw [show (1 : Int32).toInt = 1 from by decide] at h9; exact h9
      have g_158 : gi (mi 31) 1 1 := gi_eq c_156 (gi_c 1 1 (by decide))
      refine lv_aload_n hx hb dX12_placeHere_20 rfl (lv_at hl 0 rfl) ?_
      refine va_get (D := (dC, dI)) (ci := 12) (v := .int (mi 33)) (C := RX12) (T := TX12) (N := 57) hx hb hts (fun w h => List.mem_cons_of_mem _ (jnGB_X12 w h)) hown hK hP 0 rfl rfl 33 (by decide) (hts _ (List.mem_cons_of_mem _ mGB_114)) (fun _ h9 => h9) rfl dX12_placeHere_21 ?_
      refine lv_if_eq (tgt := 31) hx hb dX12_placeHere_24 (by decide) (fun c_159 => ?_) (fun c_159 => absurd (gi_is_eq g_155 (gi_c 0 0 (by decide))) c_159)
      have hF := gf_pos c_159 hF
      refine lv_aload_n hx hb dX12_placeHere_31 rfl (lv_at hl 0 rfl) ?_
      have hPc := hP.sub (ws' := [(h0, .inr (12, fsMM mi mr)), ((mr 13), .inl (km_tape, 1600, .inl fm_tape)), ((mr 1), .inl (km_letter, 36, .inl fm_letter))]) [0, 1, 2] rfl
      have hKc := hK.sub (tys' := [(km_tape, .int), (km_letter, .int)]) [0, 1] rfl
      refine va_calli (va_runV (As := []) (rest := []) ⟨hx, hb, hml, hown, hts⟩ (sX12_namedP l dC dI h0 mi mr km_tape fm_tape km_letter fm_letter gmi_0 gmi_1 gmi_2 gmi_4 gmi_7 gmi_10 gmi_17 gmi_23 gmi_24 gmi_26 gmi_29 gmi_30 gmi_32 (gi_w g_155 (by decide)) gmi_37 gmi_41 gmi_50 gmi_51 gmi_56 (show (mi 30).toInt ≤ (mi 29).toInt from by have qgmi_33 := g_155.1; have rgmi_33 := g_155.2; have qgmi_31 := g_158.1; have rgmi_31 := g_158.2; have qgmi_30 := gmi_30.1; have rgmi_30 := gmi_30.2; have qgmi_29 := gmi_29.1; have rgmi_29 := gmi_29.2; have qgmi_26 := gmi_26.1; have rgmi_26 := gmi_26.2; omega) (show (mi 29).toInt ≤ (mi 26).toInt from by have qgmi_33 := g_155.1; have rgmi_33 := g_155.2; have qgmi_31 := g_158.1; have rgmi_31 := g_158.2; have qgmi_30 := gmi_30.1; have rgmi_30 := gmi_30.2; have qgmi_29 := gmi_29.1; have rgmi_29 := gmi_29.2; have qgmi_26 := gmi_26.1; have rgmi_26 := gmi_26.2; omega) (show ((mi 31).toInt = 0 ∨ (mi 30).toInt < (mi 29).toInt) from by have qgmi_33 := g_155.1; have rgmi_33 := g_155.2; have qgmi_31 := g_158.1; have rgmi_31 := g_158.2; have qgmi_30 := gmi_30.1; have rgmi_30 := gmi_30.2; have qgmi_29 := gmi_29.1; have rgmi_29 := gmi_29.2; have qgmi_26 := gmi_26.1; have rgmi_26 := gmi_26.2; omega)) (cwV 0 hts (gz_gV mGB_190 mGB_191 mGB_192 mGB_1 mGB_193 goodGB) rfl rfl rfl (by decide +kernel) ⟨Nat.le_of_ble_eq_true rfl, Nat.le_of_ble_eq_true rfl⟩) ⟨fun a U g mk q => by obtain ⟨q0, qP, qK⟩ := q; exact ⟨q0, qP, va_K.moved (u := U) (U := U.calling g mk a) (Vm.Alike.refl U.vm) qK⟩, va_recv hKc hPc (ci := 12) (q0 := 0) rfl rfl, fun U hU hW => ⟨rfl, by rw [hU]; exact hPc, va_K.moved hW.alike hKc⟩⟩ rfl rfl hl.1 rfl (lv_room (Nat.le_of_ble_eq_true rfl)) dX12_placeHere_32 ⟨Nat.zero_le _, Nat.zero_le _⟩) hS (fun q _ h => h.elim) (fun q h => h.elim) (fun r_160 u t H1 locs ht hvm hw hB hz1 hk1 hS => ?_)
      obtain ⟨hw, hE⟩ := hw
      have hP := gz_keep hP hk1
      have hF := gf_callm (a := r_160) hE hF (by first | with_reducible rfl | simp only [upd_same, upd_app, ↓reduceIte, Nat.reduceEqDiff])
      generalize H1 = H at hP hS ⊢
      have gr_160 : gi r_160 (-1) 5 := hw
      refine lv_istore_n (lv' := [(1, .int r_160), (0, .ref h0)]) hx hb dX12_placeHere_35 rfl hl (by decide) rfl (fun ls hl => ?_)
      refine lv_iload_n hx hb dX12_placeHere_36 rfl (lv_at hl 0 rfl) ?_
      refine lv_iconst (v := (-1)) hx hb dX12_placeHere_37 (by decide) ?_
      refine lv_icmp_ne (tgt := 46) hx hb dX12_placeHere_38 (by decide) (fun c_161 => ?_) (fun c_161 => ?_)
      · have hF := gf_neg c_161 hF
        have hc_162 : r_160.toInt ≠ (-1) := fun h9 => c_161 (Int32.toInt_inj.mp (by rw [show ((-1) : Int32).toInt = (-1) from by decide]; exact h9))
        have g_163 : gi r_160 0 5 := gi_ne_lo c_161 gr_160 (gi_c (-1) (-1) (by decide)) (by decide)
        refine lv_aload_n hx hb dX12_placeHere_46 rfl (lv_at hl 1 rfl) ?_
        refine lv_iconst (v := 1) hx hb dX12_placeHere_47 (by decide) ?_
        have hPc := hP.sub (ws' := [(h0, .inr (12, fsMM mi mr)), ((mr 13), .inl (km_tape, 1600, .inl fm_tape))]) [0, 1] rfl
        have hKc := hK.sub (tys' := [(km_tape, .int)]) [0] rfl
        have hDc := hD.sub (ws' := [(h0, .inr (12, fsMM mi mr)), ((mr 13), .inl (km_tape, 1600, .inl fm_tape))]) [0, 1] (by decide) rfl
        have hFc := va_free (wc := [(h0, .inr (12, fsMM mi mr)), ((mr 13), .inl (km_tape, 1600, .inl fm_tape))]) hD hS hA [0, 1] rfl
        refine va_callv (va_runV (As := [.int 1]) (rest := []) ⟨hx, hb, hml, hown, hts⟩ (sX12_passesP l dC dI H.size h0 mi mr km_tape fm_tape 1 gmi_0 gmi_1 gmi_2 gmi_4 gmi_7 gmi_10 gmi_17 gmi_23 gmi_24 gmi_26 gmi_29 gmi_30 gmi_32 (gi_w g_155 (by decide)) gmi_37 gmi_41 gmi_50 gmi_51 gmi_56 (gi_w (gi_c 1 1 (by decide)) (by decide)) (show (mi 30).toInt ≤ (mi 29).toInt from by have qgr_160 := g_163.1; have rgr_160 := g_163.2; have qgmi_33 := g_155.1; have rgmi_33 := g_155.2; have qgmi_31 := g_158.1; have rgmi_31 := g_158.2; have qgmi_30 := gmi_30.1; have rgmi_30 := gmi_30.2; have qgmi_29 := gmi_29.1; have rgmi_29 := gmi_29.2; have qgmi_26 := gmi_26.1; have rgmi_26 := gmi_26.2; omega) (show (mi 29).toInt ≤ (mi 26).toInt from by have qgr_160 := g_163.1; have rgr_160 := g_163.2; have qgmi_33 := g_155.1; have rgmi_33 := g_155.2; have qgmi_31 := g_158.1; have rgmi_31 := g_158.2; have qgmi_30 := gmi_30.1; have rgmi_30 := gmi_30.2; have qgmi_29 := gmi_29.1; have rgmi_29 := gmi_29.2; have qgmi_26 := gmi_26.1; have rgmi_26 := gmi_26.2; omega) (show ((mi 31).toInt = 0 ∨ (mi 30).toInt < (mi 29).toInt) from by have qgr_160 := g_163.1; have rgr_160 := g_163.2; have qgmi_33 := g_155.1; have rgmi_33 := g_155.2; have qgmi_31 := g_158.1; have rgmi_31 := g_158.2; have qgmi_30 := gmi_30.1; have rgmi_30 := gmi_30.2; have qgmi_29 := gmi_29.1; have rgmi_29 := gmi_29.2; have qgmi_26 := gmi_26.1; have rgmi_26 := gmi_26.2; omega)) (cwV 1 hts (gz_gV mGB_161 mGB_162 mGB_163 mGB_1 mGB_164 goodGB) rfl rfl rfl (by decide +kernel) ⟨Nat.le_of_ble_eq_true rfl, Nat.le_of_ble_eq_true rfl⟩) ⟨fun a U g mk q => by obtain ⟨q0, q1, qP, qK, qD⟩ := q; exact ⟨q0, q1, qP, va_K.moved (u := U) (U := U.calling g mk a) (Vm.Alike.refl U.vm) qK, qD⟩, va_recv hKc hPc (ci := 12) (q0 := 0) rfl rfl, fun U hU hW => ⟨rfl, by rw [hU], by rw [hU]; exact hPc, va_K.moved hW.alike hKc, hDc.weaken (fun _ _ _ _ => trivial)⟩⟩ rfl rfl hl.1 rfl (lv_room (Nat.le_of_ble_eq_true rfl)) dX12_placeHere_48 ⟨Nat.zero_le _, Nat.zero_le _⟩) hS (fun q _ h => hFc q h) hFc (fun u t H1 locs ht hvm hw hB hz1 hk1 hS => ?_)
        obtain ⟨y_165, y_166, y_167, y_168, y_169, y_170, y_171, gy_167, gy_168, gy_170, gy_171, hpr0_r_164, hpr1_r_164, hpr2_r_164, hpr3_r_164, hpr4_r_164, hpr5_r_164, hpr6_r_164, hE, hP1, hD1⟩ := hB
        rw [ht] at hP1
        obtain ⟨hP, hD⟩ := va_join (wr := [((mr 1), .inl (km_letter, 36, .inl fm_letter))]) (w1 := [(h0, .inr (12, fsMM (upd (upd (upd (upd (upd (upd (upd mi 27 y_165) 28 y_166) 29 y_167) 30 y_168) 31 y_169) 32 y_170) 33 y_171) mr)), ((mr 13), .inl (km_tape, 1600, .inl fm_tape))]) hP hD [0, 1] [2] rfl rfl (by decide) (by decide) hk1 hFc hP1 hD1
        have hpr0_r_164 : (mi 30).toInt ≤ y_168.toInt := hpr0_r_164
        have hpr1_r_164 : y_168.toInt ≤ y_167.toInt := hpr1_r_164
        have hpr2_r_164 : y_167.toInt ≤ (mi 26).toInt := hpr2_r_164
        have hpr3_r_164 : Hid ((y_169.toInt = 0 ∨ y_168.toInt < y_167.toInt)) := hpr3_r_164
        have hpr4_r_164 : (mi 33).toInt ≤ y_171.toInt := hpr4_r_164
        have hpr5_r_164 : Hid (((1 : Int) = 1 ∨ y_171.toInt = 1)) := by have h9 : ((1 : Int32).toInt = 1 ∨ y_171.toInt = 1) := hpr5_r_164; rw [show (1 : Int32).toInt = 1 from by decide] at h9; exact h9
        have hpr6_r_164 : Hid ((y_171.toInt = 1 ∨ (mi 29).toInt ≤ y_168.toInt)) := hpr6_r_164
        have hP := hP.sub (ws' := [(h0, .inr (12, fsMM (upd (upd (upd (upd (upd (upd (upd mi 27 y_165) 28 y_166) 29 y_167) 30 y_168) 31 y_169) 32 y_170) 33 y_171) mr)), ((mr 13), .inl (km_tape, 1600, .inl fm_tape)), ((mr 1), .inl (km_letter, 36, .inl fm_letter))]) [1, 2, 0] rfl
        have hD := hD.sub (ws' := [(h0, .inr (12, fsMM (upd (upd (upd (upd (upd (upd (upd mi 27 y_165) 28 y_166) 29 y_167) 30 y_168) 31 y_169) 32 y_170) 33 y_171) mr)), ((mr 13), .inl (km_tape, 1600, .inl fm_tape)), ((mr 1), .inl (km_letter, 36, .inl fm_letter))]) [1, 2, 0] (by decide) rfl
        have hF := gf_callm (a := (y_165, y_166, y_167, y_168, y_169, y_170, y_171)) hE hF (by first | with_reducible rfl | simp only [upd_same, upd_app, ↓reduceIte, Nat.reduceEqDiff])
        generalize H1 = H at hP hS ⊢
        refine lv_iconst (v := 0) hx hb dX12_placeHere_51 (by decide) ?_
        refine lv_iload_n hx hb dX12_placeHere_52 rfl (lv_at hl 0 rfl) ?_
        refine va_mmax (own := RX12) hx hb (by rw [hml]; exact hl.1.symm) hown (hts _ (List.mem_cons_of_mem _ mGB_202)) (hts _ (List.mem_cons_of_mem _ mGB_203)) (hts _ (List.mem_cons_of_mem _ mGB_98)) (hts _ (List.mem_cons_of_mem _ mGB_204)) (Nat.le_of_ble_eq_true rfl) (Nat.le_of_ble_eq_true rfl) (Nat.zero_le _) (Nat.zero_le _) dX12_placeHere_53 ?_
        refine lv_topi (fun x_172 ex_172 => ?_)
        have gx_172 : gi x_172 0 5 := gi_max ex_172 (gi_c 0 0 (by decide)) g_163 (by decide)
        exact W.iret (v := x_172) hx hb hr (fun t ht hW => ⟨⟨x_172, x_172, rfl, ⟨rfl, gx_172⟩, y_165, y_166, y_167, y_168, y_169, y_170, y_171, gy_167, gy_168, gy_170, gy_171, hpr0_r_164, hpr1_r_164, hpr2_r_164, (Hid.un hpr3_r_164), hpr4_r_164, by rw [ex_172]; exact hF.trans hR9.symm, by rw [ht]; exact hP, hD⟩, hS.F ht⟩) hS.2.2 dX12_placeHere_56
      · have hF := gf_pos c_161 hF
        have hc_173 : r_160.toInt = (-1) := by have h9 := congrArg Int32.toInt c_161; rw [show ((-1) : Int32).toInt = (-1) from by decide] at h9; exact h9
        have g_174 : gi r_160 (-1) (-1) := gi_eq c_161 (gi_c (-1) (-1) (by decide))
        refine lv_aload_n hx hb dX12_placeHere_41 rfl (lv_at hl 1 rfl) ?_
        refine lv_iconst (v := 2) hx hb dX12_placeHere_42 (by decide) ?_
        have hPc := hP.sub (ws' := [(h0, .inr (12, fsMM mi mr))]) [0] rfl
        have hKc := hK.sub (tys' := []) [] rfl
        have hDc := hD.sub (ws' := [(h0, .inr (12, fsMM mi mr))]) [0] (by decide) rfl
        have hFc := va_free (wc := [(h0, .inr (12, fsMM mi mr))]) hD hS hA [0] rfl
        refine va_callv (va_runV (As := [.int 2]) (rest := []) ⟨hx, hb, hml, hown, hts⟩ (sX12_faultsP l dC dI H.size h0 mi mr 2 gmi_0 gmi_1 gmi_2 gmi_4 gmi_7 gmi_10 gmi_17 gmi_23 gmi_24 gmi_26 gmi_29 gmi_30 gmi_32 (gi_w g_155 (by decide)) gmi_37 gmi_41 gmi_50 gmi_51 gmi_56) (cwV 1 hts (gz_gV mGB_165 mGB_166 mGB_167 mGB_1 mGB_168 goodGB) rfl rfl rfl (by decide +kernel) ⟨Nat.le_of_ble_eq_true rfl, Nat.le_of_ble_eq_true rfl⟩) ⟨fun a U g mk q => by obtain ⟨q0, q1, qP, qK, qD⟩ := q; exact ⟨q0, q1, qP, va_K.moved (u := U) (U := U.calling g mk a) (Vm.Alike.refl U.vm) qK, qD⟩, va_recv hKc hPc (ci := 12) (q0 := 0) rfl rfl, fun U hU hW => ⟨rfl, by rw [hU], by rw [hU]; exact hPc, va_K.moved hW.alike hKc, hDc.weaken (fun _ _ _ _ => trivial)⟩⟩ rfl rfl hl.1 rfl (lv_room (Nat.le_of_ble_eq_true rfl)) dX12_placeHere_43 ⟨Nat.zero_le _, Nat.zero_le _⟩) hS (fun q _ h => hFc q h) hFc (fun u t H1 locs ht hvm hw hB hz1 hk1 hS => ?_)
        obtain ⟨y_176, y_177, y_178, gy_178, hpr0_r_175, hE, hP1, hD1⟩ := hB
        rw [ht] at hP1
        obtain ⟨hP, hD⟩ := va_join (wr := [((mr 13), .inl (km_tape, 1600, .inl fm_tape)), ((mr 1), .inl (km_letter, 36, .inl fm_letter))]) (w1 := [(h0, .inr (12, fsMM (upd (upd (upd mi 27 y_176) 28 y_177) 33 y_178) mr))]) hP hD [0] [1, 2] rfl rfl (by decide) (by decide) hk1 hFc hP1 hD1
        have hpr0_r_175 : y_178.toInt = 1 := hpr0_r_175
        have g_179 : gi y_178 1 1 := ⟨by omega, by omega⟩
        have hP := hP.sub (ws' := [(h0, .inr (12, fsMM (upd (upd (upd mi 27 y_176) 28 y_177) 33 y_178) mr)), ((mr 13), .inl (km_tape, 1600, .inl fm_tape)), ((mr 1), .inl (km_letter, 36, .inl fm_letter))]) [2, 0, 1] rfl
        have hD := hD.sub (ws' := [(h0, .inr (12, fsMM (upd (upd (upd mi 27 y_176) 28 y_177) 33 y_178) mr)), ((mr 13), .inl (km_tape, 1600, .inl fm_tape)), ((mr 1), .inl (km_letter, 36, .inl fm_letter))]) [2, 0, 1] (by decide) rfl
        have hF := gf_callm (a := (y_176, y_177, y_178)) hE hF (by first | with_reducible rfl | simp only [upd_same, upd_app, ↓reduceIte, Nat.reduceEqDiff])
        generalize H1 = H at hP hS ⊢
        refine lv_aload_n hx hb dX12_placeHere_46 rfl (lv_at hl 1 rfl) ?_
        refine lv_iconst (v := 1) hx hb dX12_placeHere_47 (by decide) ?_
        have hPc := hP.sub (ws' := [(h0, .inr (12, fsMM (upd (upd (upd mi 27 y_176) 28 y_177) 33 y_178) mr)), ((mr 13), .inl (km_tape, 1600, .inl fm_tape))]) [0, 1] rfl
        have hKc := hK.sub (tys' := [(km_tape, .int)]) [0] rfl
        have hDc := hD.sub (ws' := [(h0, .inr (12, fsMM (upd (upd (upd mi 27 y_176) 28 y_177) 33 y_178) mr)), ((mr 13), .inl (km_tape, 1600, .inl fm_tape))]) [0, 1] (by decide) rfl
        have hFc := va_free (wc := [(h0, .inr (12, fsMM (upd (upd (upd mi 27 y_176) 28 y_177) 33 y_178) mr)), ((mr 13), .inl (km_tape, 1600, .inl fm_tape))]) hD hS hA [0, 1] rfl
        refine va_callv (va_runV (As := [.int 1]) (rest := []) ⟨hx, hb, hml, hown, hts⟩ (sX12_passesP l dC dI H.size h0 (upd (upd (upd mi 27 y_176) 28 y_177) 33 y_178) mr km_tape fm_tape 1 gmi_0 gmi_1 gmi_2 gmi_4 gmi_7 gmi_10 gmi_17 gmi_23 gmi_24 gmi_26 gmi_29 gmi_30 gmi_32 (gi_w g_179 (by decide)) gmi_37 gmi_41 gmi_50 gmi_51 gmi_56 (gi_w (gi_c 1 1 (by decide)) (by decide)) (show (mi 30).toInt ≤ (mi 29).toInt from by have qgy_178 := g_179.1; have rgy_178 := g_179.2; have qgr_160 := g_174.1; have rgr_160 := g_174.2; have qgmi_33 := g_155.1; have rgmi_33 := g_155.2; have qgmi_31 := g_158.1; have rgmi_31 := g_158.2; have qgmi_30 := gmi_30.1; have rgmi_30 := gmi_30.2; have qgmi_29 := gmi_29.1; have rgmi_29 := gmi_29.2; have qgmi_26 := gmi_26.1; have rgmi_26 := gmi_26.2; omega) (show (mi 29).toInt ≤ (mi 26).toInt from by have qgy_178 := g_179.1; have rgy_178 := g_179.2; have qgr_160 := g_174.1; have rgr_160 := g_174.2; have qgmi_33 := g_155.1; have rgmi_33 := g_155.2; have qgmi_31 := g_158.1; have rgmi_31 := g_158.2; have qgmi_30 := gmi_30.1; have rgmi_30 := gmi_30.2; have qgmi_29 := gmi_29.1; have rgmi_29 := gmi_29.2; have qgmi_26 := gmi_26.1; have rgmi_26 := gmi_26.2; omega) (show ((mi 31).toInt = 0 ∨ (mi 30).toInt < (mi 29).toInt) from by have qgy_178 := g_179.1; have rgy_178 := g_179.2; have qgr_160 := g_174.1; have rgr_160 := g_174.2; have qgmi_33 := g_155.1; have rgmi_33 := g_155.2; have qgmi_31 := g_158.1; have rgmi_31 := g_158.2; have qgmi_30 := gmi_30.1; have rgmi_30 := gmi_30.2; have qgmi_29 := gmi_29.1; have rgmi_29 := gmi_29.2; have qgmi_26 := gmi_26.1; have rgmi_26 := gmi_26.2; omega)) (cwV 1 hts (gz_gV mGB_161 mGB_162 mGB_163 mGB_1 mGB_164 goodGB) rfl rfl rfl (by decide +kernel) ⟨Nat.le_of_ble_eq_true rfl, Nat.le_of_ble_eq_true rfl⟩) ⟨fun a U g mk q => by obtain ⟨q0, q1, qP, qK, qD⟩ := q; exact ⟨q0, q1, qP, va_K.moved (u := U) (U := U.calling g mk a) (Vm.Alike.refl U.vm) qK, qD⟩, va_recv hKc hPc (ci := 12) (q0 := 0) rfl rfl, fun U hU hW => ⟨rfl, by rw [hU], by rw [hU]; exact hPc, va_K.moved hW.alike hKc, hDc.weaken (fun _ _ _ _ => trivial)⟩⟩ rfl rfl hl.1 rfl (lv_room (Nat.le_of_ble_eq_true rfl)) dX12_placeHere_48 ⟨Nat.zero_le _, Nat.zero_le _⟩) hS (fun q _ h => hFc q h) hFc (fun u t H1 locs ht hvm hw hB hz1 hk1 hS => ?_)
        obtain ⟨y_181, y_182, y_183, y_184, y_185, y_186, y_187, gy_183, gy_184, gy_186, gy_187, hpr0_r_180, hpr1_r_180, hpr2_r_180, hpr3_r_180, hpr4_r_180, hpr5_r_180, hpr6_r_180, hE, hP1, hD1⟩ := hB
        rw [ht] at hP1
        obtain ⟨hP, hD⟩ := va_join (wr := [((mr 1), .inl (km_letter, 36, .inl fm_letter))]) (w1 := [(h0, .inr (12, fsMM (upd (upd (upd (upd (upd (upd (upd mi 27 y_181) 28 y_182) 29 y_183) 30 y_184) 31 y_185) 32 y_186) 33 y_187) mr)), ((mr 13), .inl (km_tape, 1600, .inl fm_tape))]) hP hD [0, 1] [2] rfl rfl (by decide) (by decide) hk1 hFc hP1 hD1
        have hpr0_r_180 : (mi 30).toInt ≤ y_184.toInt := hpr0_r_180
        have hpr1_r_180 : y_184.toInt ≤ y_183.toInt := hpr1_r_180
        have hpr2_r_180 : y_183.toInt ≤ (mi 26).toInt := hpr2_r_180
        have hpr3_r_180 : Hid ((y_185.toInt = 0 ∨ y_184.toInt < y_183.toInt)) := hpr3_r_180
        have hpr4_r_180 : y_178.toInt ≤ y_187.toInt := hpr4_r_180
        have g_188 : gi y_187 1 1 := gi_relL (show y_178.toInt ≤ y_187.toInt from by omega) g_179 gy_187
        have hpr5_r_180 : Hid (((1 : Int) = 1 ∨ y_187.toInt = 1)) := by have h9 : ((1 : Int32).toInt = 1 ∨ y_187.toInt = 1) := hpr5_r_180; rw [show (1 : Int32).toInt = 1 from by decide] at h9; exact h9
        have hpr6_r_180 : Hid ((y_187.toInt = 1 ∨ (mi 29).toInt ≤ y_184.toInt)) := hpr6_r_180
        have hP := hP.sub (ws' := [(h0, .inr (12, fsMM (upd (upd (upd (upd (upd (upd (upd mi 27 y_181) 28 y_182) 29 y_183) 30 y_184) 31 y_185) 32 y_186) 33 y_187) mr)), ((mr 13), .inl (km_tape, 1600, .inl fm_tape)), ((mr 1), .inl (km_letter, 36, .inl fm_letter))]) [1, 2, 0] rfl
        have hD := hD.sub (ws' := [(h0, .inr (12, fsMM (upd (upd (upd (upd (upd (upd (upd mi 27 y_181) 28 y_182) 29 y_183) 30 y_184) 31 y_185) 32 y_186) 33 y_187) mr)), ((mr 13), .inl (km_tape, 1600, .inl fm_tape)), ((mr 1), .inl (km_letter, 36, .inl fm_letter))]) [1, 2, 0] (by decide) rfl
        have hF := gf_callm (a := (y_181, y_182, y_183, y_184, y_185, y_186, y_187)) hE hF (by first | with_reducible rfl | simp only [upd_same, upd_app, ↓reduceIte, Nat.reduceEqDiff])
        generalize H1 = H at hP hS ⊢
        refine lv_iconst (v := 0) hx hb dX12_placeHere_51 (by decide) ?_
        refine lv_iload_n hx hb dX12_placeHere_52 rfl (lv_at hl 0 rfl) ?_
        refine va_mmax (own := RX12) hx hb (by rw [hml]; exact hl.1.symm) hown (hts _ (List.mem_cons_of_mem _ mGB_202)) (hts _ (List.mem_cons_of_mem _ mGB_203)) (hts _ (List.mem_cons_of_mem _ mGB_98)) (hts _ (List.mem_cons_of_mem _ mGB_204)) (Nat.le_of_ble_eq_true rfl) (Nat.le_of_ble_eq_true rfl) (Nat.zero_le _) (Nat.zero_le _) dX12_placeHere_53 ?_
        refine lv_topi (fun x_189 ex_189 => ?_)
        have gx_189 : gi x_189 0 0 := gi_max ex_189 (gi_c 0 0 (by decide)) g_174 (by decide)
        exact W.iret (v := x_189) hx hb hr (fun t ht hW => ⟨⟨x_189, x_189, rfl, ⟨rfl, (gi_w gx_189 (by decide))⟩, y_181, y_182, y_183, y_184, y_185, y_186, y_187, gy_183, gy_184, gy_186, (gi_w g_188 (by decide)), hpr0_r_180, hpr1_r_180, hpr2_r_180, (Hid.un hpr3_r_180), (show (mi 33).toInt ≤ y_187.toInt from by have qgy_187 := g_188.1; have rgy_187 := g_188.2; have qgy_184 := gy_184.1; have rgy_184 := gy_184.2; have qgy_183 := gy_183.1; have rgy_183 := gy_183.2; have qgy_178 := g_179.1; have rgy_178 := g_179.2; have qgr_160 := g_174.1; have rgr_160 := g_174.2; have qgmi_33 := g_155.1; have rgmi_33 := g_155.2; have qgmi_31 := g_158.1; have rgmi_31 := g_158.2; have qgmi_30 := gmi_30.1; have rgmi_30 := gmi_30.2; have qgmi_29 := gmi_29.1; have rgmi_29 := gmi_29.2; have qgmi_26 := gmi_26.1; have rgmi_26 := gmi_26.2; omega), by rw [ex_189]; exact hF.trans hR9.symm, by rw [ht]; exact hP, hD⟩, hS.F ht⟩) hS.2.2 dX12_placeHere_56
    · have hF := gf_neg c_156 hF
      have hc_190 : (mi 31).toInt ≠ 1 := fun h9 => c_156 (Int32.toInt_inj.mp (by rw [show (1 : Int32).toInt = 1 from by decide]; exact h9))
      refine lv_aload_n hx hb dX12_placeHere_15 rfl (lv_at hl 0 rfl) ?_
      refine lv_iconst (v := 1) hx hb dX12_placeHere_16 (by decide) ?_
      have hPc := hP.sub (ws' := [(h0, .inr (12, fsMM mi mr))]) [0] rfl
      have hKc := hK.sub (tys' := []) [] rfl
      have hDc := hD.sub (ws' := [(h0, .inr (12, fsMM mi mr))]) [0] (by decide) rfl
      have hFc := va_free (wc := [(h0, .inr (12, fsMM mi mr))]) hD hS hA [0] rfl
      refine va_callv (va_runV (As := [.int 1]) (rest := []) ⟨hx, hb, hml, hown, hts⟩ (sX12_faultsP l dC dI s.heap.size h0 mi mr 1 gmi_0 gmi_1 gmi_2 gmi_4 gmi_7 gmi_10 gmi_17 gmi_23 gmi_24 gmi_26 gmi_29 gmi_30 gmi_32 (gi_w g_155 (by decide)) gmi_37 gmi_41 gmi_50 gmi_51 gmi_56) (cwV 1 hts (gz_gV mGB_165 mGB_166 mGB_167 mGB_1 mGB_168 goodGB) rfl rfl rfl (by decide +kernel) ⟨Nat.le_of_ble_eq_true rfl, Nat.le_of_ble_eq_true rfl⟩) ⟨fun a U g mk q => by obtain ⟨q0, q1, qP, qK, qD⟩ := q; exact ⟨q0, q1, qP, va_K.moved (u := U) (U := U.calling g mk a) (Vm.Alike.refl U.vm) qK, qD⟩, va_recv hKc hPc (ci := 12) (q0 := 0) rfl rfl, fun U hU hW => ⟨rfl, by rw [hU], by rw [hU]; exact hPc, va_K.moved hW.alike hKc, hDc.weaken (fun _ _ _ _ => trivial)⟩⟩ rfl rfl hl.1 rfl (lv_room (Nat.le_of_ble_eq_true rfl)) dX12_placeHere_17 ⟨Nat.zero_le _, Nat.zero_le _⟩) hS (fun q _ h => hFc q h) hFc (fun u t H1 locs ht hvm hw hB hz1 hk1 hS => ?_)
      obtain ⟨y_192, y_193, y_194, gy_194, hpr0_r_191, hE, hP1, hD1⟩ := hB
      rw [ht] at hP1
      obtain ⟨hP, hD⟩ := va_join (wr := [((mr 13), .inl (km_tape, 1600, .inl fm_tape)), ((mr 1), .inl (km_letter, 36, .inl fm_letter))]) (w1 := [(h0, .inr (12, fsMM (upd (upd (upd mi 27 y_192) 28 y_193) 33 y_194) mr))]) hP hD [0] [1, 2] rfl rfl (by decide) (by decide) hk1 hFc hP1 hD1
      have hpr0_r_191 : y_194.toInt = 1 := hpr0_r_191
      have g_195 : gi y_194 1 1 := ⟨by omega, by omega⟩
      have hP := hP.sub (ws' := [(h0, .inr (12, fsMM (upd (upd (upd mi 27 y_192) 28 y_193) 33 y_194) mr)), ((mr 13), .inl (km_tape, 1600, .inl fm_tape)), ((mr 1), .inl (km_letter, 36, .inl fm_letter))]) [2, 0, 1] rfl
      have hD := hD.sub (ws' := [(h0, .inr (12, fsMM (upd (upd (upd mi 27 y_192) 28 y_193) 33 y_194) mr)), ((mr 13), .inl (km_tape, 1600, .inl fm_tape)), ((mr 1), .inl (km_letter, 36, .inl fm_letter))]) [2, 0, 1] (by decide) rfl
      have hF := gf_callm (a := (y_192, y_193, y_194)) hE hF (by first | with_reducible rfl | simp only [upd_same, upd_app, ↓reduceIte, Nat.reduceEqDiff])
      generalize H1 = H at hP hS ⊢
      refine lv_aload_n hx hb dX12_placeHere_20 rfl (lv_at hl 0 rfl) ?_
      refine va_get (D := (dC, dI)) (ci := 12) (v := .int y_194) (C := RX12) (T := TX12) (N := 57) hx hb hts (fun w h => List.mem_cons_of_mem _ (jnGB_X12 w h)) hown hK hP 0 rfl rfl 33 (by decide) (hts _ (List.mem_cons_of_mem _ mGB_114)) (fun _ h9 => h9) rfl dX12_placeHere_21 ?_
      refine lv_if_eq (tgt := 31) hx hb dX12_placeHere_24 (by decide) (fun c_196 => absurd c_196 (gi_no_eq g_195 (gi_c 0 0 (by decide)) (by decide))) (fun c_196 => ?_)
      have hF := gf_neg c_196 hF
      refine lv_iconst (v := 0) hx hb dX12_placeHere_27 (by decide) ?_
      refine lv_goto (tgt := 35) hx hb dX12_placeHere_28 (by decide) ?_
      refine lv_istore_n (lv' := [(1, .int 0), (0, .ref h0)]) hx hb dX12_placeHere_35 rfl hl (by decide) rfl (fun ls hl => ?_)
      refine lv_iload_n hx hb dX12_placeHere_36 rfl (lv_at hl 0 rfl) ?_
      refine lv_iconst (v := (-1)) hx hb dX12_placeHere_37 (by decide) ?_
      refine lv_icmp_ne (tgt := 46) hx hb dX12_placeHere_38 (by decide) (fun c_197 => ?_) (fun c_197 => absurd c_197 (gi_no_eq (gi_c 0 0 (by decide)) (gi_c (-1) (-1) (by decide)) (by decide)))
      have hF := gf_neg c_197 hF
      refine lv_aload_n hx hb dX12_placeHere_46 rfl (lv_at hl 1 rfl) ?_
      refine lv_iconst (v := 1) hx hb dX12_placeHere_47 (by decide) ?_
      have hPc := hP.sub (ws' := [(h0, .inr (12, fsMM (upd (upd (upd mi 27 y_192) 28 y_193) 33 y_194) mr)), ((mr 13), .inl (km_tape, 1600, .inl fm_tape))]) [0, 1] rfl
      have hKc := hK.sub (tys' := [(km_tape, .int)]) [0] rfl
      have hDc := hD.sub (ws' := [(h0, .inr (12, fsMM (upd (upd (upd mi 27 y_192) 28 y_193) 33 y_194) mr)), ((mr 13), .inl (km_tape, 1600, .inl fm_tape))]) [0, 1] (by decide) rfl
      have hFc := va_free (wc := [(h0, .inr (12, fsMM (upd (upd (upd mi 27 y_192) 28 y_193) 33 y_194) mr)), ((mr 13), .inl (km_tape, 1600, .inl fm_tape))]) hD hS hA [0, 1] rfl
      refine va_callv (va_runV (As := [.int 1]) (rest := []) ⟨hx, hb, hml, hown, hts⟩ (sX12_passesP l dC dI H.size h0 (upd (upd (upd mi 27 y_192) 28 y_193) 33 y_194) mr km_tape fm_tape 1 gmi_0 gmi_1 gmi_2 gmi_4 gmi_7 gmi_10 gmi_17 gmi_23 gmi_24 gmi_26 gmi_29 gmi_30 gmi_32 (gi_w g_195 (by decide)) gmi_37 gmi_41 gmi_50 gmi_51 gmi_56 (gi_w (gi_c 1 1 (by decide)) (by decide)) (show (mi 30).toInt ≤ (mi 29).toInt from by have qgy_194 := g_195.1; have rgy_194 := g_195.2; have qgmi_33 := g_155.1; have rgmi_33 := g_155.2; have qgmi_30 := gmi_30.1; have rgmi_30 := gmi_30.2; have qgmi_29 := gmi_29.1; have rgmi_29 := gmi_29.2; have qgmi_26 := gmi_26.1; have rgmi_26 := gmi_26.2; omega) (show (mi 29).toInt ≤ (mi 26).toInt from by have qgy_194 := g_195.1; have rgy_194 := g_195.2; have qgmi_33 := g_155.1; have rgmi_33 := g_155.2; have qgmi_30 := gmi_30.1; have rgmi_30 := gmi_30.2; have qgmi_29 := gmi_29.1; have rgmi_29 := gmi_29.2; have qgmi_26 := gmi_26.1; have rgmi_26 := gmi_26.2; omega) (show ((mi 31).toInt = 0 ∨ (mi 30).toInt < (mi 29).toInt) from by have qgy_194 := g_195.1; have rgy_194 := g_195.2; have qgmi_33 := g_155.1; have rgmi_33 := g_155.2; have qgmi_30 := gmi_30.1; have rgmi_30 := gmi_30.2; have qgmi_29 := gmi_29.1; have rgmi_29 := gmi_29.2; have qgmi_26 := gmi_26.1; have rgmi_26 := gmi_26.2; omega)) (cwV 1 hts (gz_gV mGB_161 mGB_162 mGB_163 mGB_1 mGB_164 goodGB) rfl rfl rfl (by decide +kernel) ⟨Nat.le_of_ble_eq_true rfl, Nat.le_of_ble_eq_true rfl⟩) ⟨fun a U g mk q => by obtain ⟨q0, q1, qP, qK, qD⟩ := q; exact ⟨q0, q1, qP, va_K.moved (u := U) (U := U.calling g mk a) (Vm.Alike.refl U.vm) qK, qD⟩, va_recv hKc hPc (ci := 12) (q0 := 0) rfl rfl, fun U hU hW => ⟨rfl, by rw [hU], by rw [hU]; exact hPc, va_K.moved hW.alike hKc, hDc.weaken (fun _ _ _ _ => trivial)⟩⟩ rfl rfl hl.1 rfl (lv_room (Nat.le_of_ble_eq_true rfl)) dX12_placeHere_48 ⟨Nat.zero_le _, Nat.zero_le _⟩) hS (fun q _ h => hFc q h) hFc (fun u t H1 locs ht hvm hw hB hz1 hk1 hS => ?_)
      obtain ⟨y_199, y_200, y_201, y_202, y_203, y_204, y_205, gy_201, gy_202, gy_204, gy_205, hpr0_r_198, hpr1_r_198, hpr2_r_198, hpr3_r_198, hpr4_r_198, hpr5_r_198, hpr6_r_198, hE, hP1, hD1⟩ := hB
      rw [ht] at hP1
      obtain ⟨hP, hD⟩ := va_join (wr := [((mr 1), .inl (km_letter, 36, .inl fm_letter))]) (w1 := [(h0, .inr (12, fsMM (upd (upd (upd (upd (upd (upd (upd mi 27 y_199) 28 y_200) 29 y_201) 30 y_202) 31 y_203) 32 y_204) 33 y_205) mr)), ((mr 13), .inl (km_tape, 1600, .inl fm_tape))]) hP hD [0, 1] [2] rfl rfl (by decide) (by decide) hk1 hFc hP1 hD1
      have hpr0_r_198 : (mi 30).toInt ≤ y_202.toInt := hpr0_r_198
      have hpr1_r_198 : y_202.toInt ≤ y_201.toInt := hpr1_r_198
      have hpr2_r_198 : y_201.toInt ≤ (mi 26).toInt := hpr2_r_198
      have hpr3_r_198 : Hid ((y_203.toInt = 0 ∨ y_202.toInt < y_201.toInt)) := hpr3_r_198
      have hpr4_r_198 : y_194.toInt ≤ y_205.toInt := hpr4_r_198
      have g_206 : gi y_205 1 1 := gi_relL (show y_194.toInt ≤ y_205.toInt from by omega) g_195 gy_205
      have hpr5_r_198 : Hid (((1 : Int) = 1 ∨ y_205.toInt = 1)) := by have h9 : ((1 : Int32).toInt = 1 ∨ y_205.toInt = 1) := hpr5_r_198; rw [show (1 : Int32).toInt = 1 from by decide] at h9; exact h9
      have hpr6_r_198 : Hid ((y_205.toInt = 1 ∨ (mi 29).toInt ≤ y_202.toInt)) := hpr6_r_198
      have hP := hP.sub (ws' := [(h0, .inr (12, fsMM (upd (upd (upd (upd (upd (upd (upd mi 27 y_199) 28 y_200) 29 y_201) 30 y_202) 31 y_203) 32 y_204) 33 y_205) mr)), ((mr 13), .inl (km_tape, 1600, .inl fm_tape)), ((mr 1), .inl (km_letter, 36, .inl fm_letter))]) [1, 2, 0] rfl
      have hD := hD.sub (ws' := [(h0, .inr (12, fsMM (upd (upd (upd (upd (upd (upd (upd mi 27 y_199) 28 y_200) 29 y_201) 30 y_202) 31 y_203) 32 y_204) 33 y_205) mr)), ((mr 13), .inl (km_tape, 1600, .inl fm_tape)), ((mr 1), .inl (km_letter, 36, .inl fm_letter))]) [1, 2, 0] (by decide) rfl
      have hF := gf_callm (a := (y_199, y_200, y_201, y_202, y_203, y_204, y_205)) hE hF (by first | with_reducible rfl | simp only [upd_same, upd_app, ↓reduceIte, Nat.reduceEqDiff])
      generalize H1 = H at hP hS ⊢
      refine lv_iconst (v := 0) hx hb dX12_placeHere_51 (by decide) ?_
      refine lv_iload_n hx hb dX12_placeHere_52 rfl (lv_at hl 0 rfl) ?_
      refine va_mmax (own := RX12) hx hb (by rw [hml]; exact hl.1.symm) hown (hts _ (List.mem_cons_of_mem _ mGB_202)) (hts _ (List.mem_cons_of_mem _ mGB_203)) (hts _ (List.mem_cons_of_mem _ mGB_98)) (hts _ (List.mem_cons_of_mem _ mGB_204)) (Nat.le_of_ble_eq_true rfl) (Nat.le_of_ble_eq_true rfl) (Nat.zero_le _) (Nat.zero_le _) dX12_placeHere_53 ?_
      refine lv_topi (fun x_207 ex_207 => ?_)
      have gx_207 : gi x_207 0 0 := gi_max ex_207 (gi_c 0 0 (by decide)) (gi_c 0 0 (by decide)) (by decide)
      exact W.iret (v := x_207) hx hb hr (fun t ht hW => ⟨⟨x_207, x_207, rfl, ⟨rfl, (gi_w gx_207 (by decide))⟩, y_199, y_200, y_201, y_202, y_203, y_204, y_205, gy_201, gy_202, gy_204, (gi_w g_206 (by decide)), hpr0_r_198, hpr1_r_198, hpr2_r_198, (Hid.un hpr3_r_198), (show (mi 33).toInt ≤ y_205.toInt from by have qgy_205 := g_206.1; have rgy_205 := g_206.2; have qgy_202 := gy_202.1; have rgy_202 := gy_202.2; have qgy_201 := gy_201.1; have rgy_201 := gy_201.2; have qgy_194 := g_195.1; have rgy_194 := g_195.2; have qgmi_33 := g_155.1; have rgmi_33 := g_155.2; have qgmi_30 := gmi_30.1; have rgmi_30 := gmi_30.2; have qgmi_29 := gmi_29.1; have rgmi_29 := gmi_29.2; have qgmi_26 := gmi_26.1; have rgmi_26 := gmi_26.2; omega), by rw [ex_207]; exact hF.trans hR9.symm, by rw [ht]; exact hP, hD⟩, hS.F ht⟩) hS.2.2 dX12_placeHere_56
theorem dX12_lays_0 : decode cX12_lays 0 = .ok (.aload_n 0, 1) := by decide +kernel
theorem dX12_lays_1 : decode cX12_lays 1 = .ok (.getfield 16, 3) := by decide +kernel
theorem dX12_lays_4 : decode cX12_lays 4 = .ok (.aload_n 0, 1) := by decide +kernel
theorem dX12_lays_5 : decode cX12_lays 5 = .ok (.getfield 141, 3) := by decide +kernel
theorem dX12_lays_8 : decode cX12_lays 8 = .ok (.iload_n 1, 1) := by decide +kernel
theorem dX12_lays_9 : decode cX12_lays 9 = .ok (.iastore, 1) := by decide +kernel
theorem dX12_lays_10 : decode cX12_lays 10 = .ok (.aload_n 0, 1) := by decide +kernel
theorem dX12_lays_11 : decode cX12_lays 11 = .ok (.getfield 19, 3) := by decide +kernel
theorem dX12_lays_14 : decode cX12_lays 14 = .ok (.aload_n 0, 1) := by decide +kernel
theorem dX12_lays_15 : decode cX12_lays 15 = .ok (.getfield 141, 3) := by decide +kernel
theorem dX12_lays_18 : decode cX12_lays 18 = .ok (.iload_n 2, 1) := by decide +kernel
theorem dX12_lays_19 : decode cX12_lays 19 = .ok (.iastore, 1) := by decide +kernel
theorem dX12_lays_20 : decode cX12_lays 20 = .ok (.aload_n 0, 1) := by decide +kernel
theorem dX12_lays_21 : decode cX12_lays 21 = .ok (.getfield 26, 3) := by decide +kernel
theorem dX12_lays_24 : decode cX12_lays 24 = .ok (.aload_n 0, 1) := by decide +kernel
theorem dX12_lays_25 : decode cX12_lays 25 = .ok (.getfield 141, 3) := by decide +kernel
theorem dX12_lays_28 : decode cX12_lays 28 = .ok (.iload_n 3, 1) := by decide +kernel
theorem dX12_lays_29 : decode cX12_lays 29 = .ok (.iastore, 1) := by decide +kernel
theorem dX12_lays_30 : decode cX12_lays 30 = .ok (.aload_n 0, 1) := by decide +kernel
theorem dX12_lays_31 : decode cX12_lays 31 = .ok (.getfield 29, 3) := by decide +kernel
theorem dX12_lays_34 : decode cX12_lays 34 = .ok (.aload_n 0, 1) := by decide +kernel
theorem dX12_lays_35 : decode cX12_lays 35 = .ok (.getfield 141, 3) := by decide +kernel
theorem dX12_lays_38 : decode cX12_lays 38 = .ok (.iload 4, 2) := by decide +kernel
theorem dX12_lays_40 : decode cX12_lays 40 = .ok (.iastore, 1) := by decide +kernel
theorem dX12_lays_41 : decode cX12_lays 41 = .ok (.aload_n 0, 1) := by decide +kernel
theorem dX12_lays_42 : decode cX12_lays 42 = .ok (.getfield 32, 3) := by decide +kernel
theorem dX12_lays_45 : decode cX12_lays 45 = .ok (.aload_n 0, 1) := by decide +kernel
theorem dX12_lays_46 : decode cX12_lays 46 = .ok (.getfield 141, 3) := by decide +kernel
theorem dX12_lays_49 : decode cX12_lays 49 = .ok (.iload 5, 2) := by decide +kernel
theorem dX12_lays_51 : decode cX12_lays 51 = .ok (.iastore, 1) := by decide +kernel
theorem dX12_lays_52 : decode cX12_lays 52 = .ok (.aload_n 0, 1) := by decide +kernel
theorem dX12_lays_53 : decode cX12_lays 53 = .ok (.getfield 22, 3) := by decide +kernel
theorem dX12_lays_56 : decode cX12_lays 56 = .ok (.aload_n 0, 1) := by decide +kernel
theorem dX12_lays_57 : decode cX12_lays 57 = .ok (.getfield 141, 3) := by decide +kernel
theorem dX12_lays_60 : decode cX12_lays 60 = .ok (.iconst 0, 1) := by decide +kernel
theorem dX12_lays_61 : decode cX12_lays 61 = .ok (.bastore, 1) := by decide +kernel
theorem dX12_lays_62 : decode cX12_lays 62 = .ok (.aload_n 0, 1) := by decide +kernel
theorem dX12_lays_63 : decode cX12_lays 63 = .ok (.dup, 1) := by decide +kernel
theorem dX12_lays_64 : decode cX12_lays 64 = .ok (.getfield 141, 3) := by decide +kernel
theorem dX12_lays_67 : decode cX12_lays 67 = .ok (.iconst 1, 1) := by decide +kernel
theorem dX12_lays_68 : decode cX12_lays 68 = .ok (.iadd, 1) := by decide +kernel
theorem dX12_lays_69 : decode cX12_lays 69 = .ok (.putfield 141, 3) := by decide +kernel
theorem dX12_lays_72 : decode cX12_lays 72 = .ok (.return_, 1) := by decide +kernel
noncomputable def fX12_lays (mi : Nat → Int32) (fm_reportPlace : Nat → Int32) (fm_reportKind : Nat → Int32) (fm_reportMonth : Nat → Int32) (fm_reportDay : Nat → Int32) (fm_reportKnown : Nat → Int32) (fm_struck : Nat → Int32) (p1 : Int32) (p2 : Int32) (p3 : Int32) (p4 : Int32) (p5 : Int32) : Int32 × (Nat → Int32) × (Nat → Int32) × (Nat → Int32) × (Nat → Int32) × (Nat → Int32) × (Nat → Int32) := (((mi 10) + (1 : Int32)), (upd fm_reportPlace (mi 10).toNatClampNeg p1), (upd fm_reportKind (mi 10).toNatClampNeg p2), (upd fm_reportMonth (mi 10).toNatClampNeg p3), (upd fm_reportDay (mi 10).toNatClampNeg p4), (upd fm_reportKnown (mi 10).toNatClampNeg p5), (upd fm_struck (mi 10).toNatClampNeg (vp_nar .boolean (0 : Int32))))
set_option maxHeartbeats 4000000 in
set_option maxRecDepth 100000 in
theorem sX12_lays (l : Launch) (dC : Nat → ClassId) (dI : Nat → Nat → Nat) (sz : Nat) (h0 : Nat) (mi : Nat → Int32) (mr : Nat → Nat) (km_reportPlace : ClassId) (fm_reportPlace : Nat → Int32) (km_reportKind : ClassId) (fm_reportKind : Nat → Int32) (km_reportMonth : ClassId) (fm_reportMonth : Nat → Int32) (km_reportDay : ClassId) (fm_reportDay : Nat → Int32) (km_reportKnown : ClassId) (fm_reportKnown : Nat → Int32) (km_struck : ClassId) (fm_struck : Nat → Int32) (p1 : Int32) (p2 : Int32) (p3 : Int32) (p4 : Int32) (p5 : Int32) (gmi_0 : gi (mi 0) 0 24) (gmi_1 : gi (mi 1) 0 5) (gmi_2 : gi (mi 2) 0 5) (gmi_4 : gi (mi 4) 0 1) (gmi_7 : gi (mi 7) 0 6) (gmi_10 : gi (mi 10) 0 23) (gmi_17 : gi (mi 17) 0 8) (gmi_23 : gi (mi 23) 0 300) (gmi_24 : gi (mi 24) 0 1) (gmi_26 : gi (mi 26) 0 1600) (gmi_29 : gi (mi 29) 0 1600) (gmi_30 : gi (mi 30) 0 1600) (gmi_33 : gi (mi 33) 0 1) (gmi_37 : gi (mi 37) 0 1) (gmi_41 : gi (mi 41) 0 24) (gmi_50 : gi (mi 50) 0 1) (gmi_51 : gi (mi 51) 0 1) (gmi_56 : gi (mi 56) 0 80) (gfm_reportPlace : ga fm_reportPlace 24 0 5) (gfm_reportMonth : ga fm_reportMonth 24 0 23) (gfm_reportDay : ga fm_reportDay 24 0 999) (gfm_reportKnown : ga fm_reportKnown 24 0 999) (gfm_struck : ga fm_struck 24 0 1) (gp1 : gi p1 0 5) (gp3 : gi p3 0 23) (gp4 : gi p4 0 999) (gp5 : gi p5 0 999) : Met l yX12_lays (.code yX12_lays cX12_lays 6 none :: wsGB) ({ frames := 0, cells := 0, slots := 0, locals := 0 }) (va_Pc [.ref h0, .int p1, .int p2, .int p3, .int p4, .int p5] (fun U => U.heap.size = sz ∧ va_P (dC, dI) vwCl [(h0, .inr (12, fsMM mi mr)), ((mr 2), .inl (km_reportPlace, 24, .inl fm_reportPlace)), ((mr 3), .inl (km_reportKind, 24, .inl fm_reportKind)), ((mr 5), .inl (km_reportMonth, 24, .inl fm_reportMonth)), ((mr 6), .inl (km_reportDay, 24, .inl fm_reportDay)), ((mr 7), .inl (km_reportKnown, 24, .inl fm_reportKnown)), ((mr 4), .inl (km_struck, 24, .inl fm_struck))] U.heap ∧ va_K (dC, dI) vwCl [(km_reportPlace, .int), (km_reportKind, .int), (km_reportMonth, .int), (km_reportDay, .int), (km_reportKnown, .int), (km_struck, .boolean)] U ∧ va_D (fun _ => True) [(h0, .inr (12, fsMM mi mr)), ((mr 2), .inl (km_reportPlace, 24, .inl fm_reportPlace)), ((mr 3), .inl (km_reportKind, 24, .inl fm_reportKind)), ((mr 5), .inl (km_reportMonth, 24, .inl fm_reportMonth)), ((mr 6), .inl (km_reportDay, 24, .inl fm_reportDay)), ((mr 7), .inl (km_reportKnown, 24, .inl fm_reportKnown)), ((mr 4), .inl (km_struck, 24, .inl fm_struck))])) (va_Qv (fun (u : Unit) => True) (fun _ t => ∃ (w0_10 : Int32) (z1 : Nat → Int32) (z2 : Nat → Int32) (z3 : Nat → Int32) (z4 : Nat → Int32) (z5 : Nat → Int32) (z6 : Nat → Int32), gi w0_10 0 24 ∧ ga z1 24 0 5 ∧ ga z3 24 0 23 ∧ ga z4 24 0 999 ∧ ga z5 24 0 999 ∧ ga z6 24 0 1 ∧ (w0_10, z1, z2, z3, z4, z5, z6) = fX12_lays mi fm_reportPlace fm_reportKind fm_reportMonth fm_reportDay fm_reportKnown fm_struck p1 p2 p3 p4 p5 ∧ va_P (dC, dI) vwCl [(h0, .inr (12, fsMM (upd mi 10 w0_10) mr)), ((mr 2), .inl (km_reportPlace, 24, .inl z1)), ((mr 3), .inl (km_reportKind, 24, .inl z2)), ((mr 5), .inl (km_reportMonth, 24, .inl z3)), ((mr 6), .inl (km_reportDay, 24, .inl z4)), ((mr 7), .inl (km_reportKnown, 24, .inl z5)), ((mr 4), .inl (km_struck, 24, .inl z6))] t.heap ∧ va_D (va_A [(h0, .inr (12, fsMM mi mr)), ((mr 2), .inl (km_reportPlace, 24, .inl fm_reportPlace)), ((mr 3), .inl (km_reportKind, 24, .inl fm_reportKind)), ((mr 5), .inl (km_reportMonth, 24, .inl fm_reportMonth)), ((mr 6), .inl (km_reportDay, 24, .inl fm_reportDay)), ((mr 7), .inl (km_reportKnown, 24, .inl fm_reportKnown)), ((mr 4), .inl (km_struck, 24, .inl fm_struck))] sz) [(h0, .inr (12, fsMM (upd mi 10 w0_10) mr)), ((mr 2), .inl (km_reportPlace, 24, .inl z1)), ((mr 3), .inl (km_reportKind, 24, .inl z2)), ((mr 5), .inl (km_reportMonth, 24, .inl z3)), ((mr 6), .inl (km_reportDay, 24, .inl z4)), ((mr 7), .inl (km_reportKnown, 24, .inl z5)), ((mr 4), .inl (km_struck, 24, .inl z6))]) (va_A [(h0, .inr (12, fsMM mi mr)), ((mr 2), .inl (km_reportPlace, 24, .inl fm_reportPlace)), ((mr 3), .inl (km_reportKind, 24, .inl fm_reportKind)), ((mr 5), .inl (km_reportMonth, 24, .inl fm_reportMonth)), ((mr 6), .inl (km_reportDay, 24, .inl fm_reportDay)), ((mr 7), .inl (km_reportKnown, 24, .inl fm_reportKnown)), ((mr 4), .inl (km_struck, 24, .inl fm_struck))] sz)) 0 0 (va_A [(h0, .inr (12, fsMM mi mr)), ((mr 2), .inl (km_reportPlace, 24, .inl fm_reportPlace)), ((mr 3), .inl (km_reportKind, 24, .inl fm_reportKind)), ((mr 5), .inl (km_reportMonth, 24, .inl fm_reportMonth)), ((mr 6), .inl (km_reportDay, 24, .inl fm_reportDay)), ((mr 7), .inl (km_reportKnown, 24, .inl fm_reportKnown)), ((mr 4), .inl (km_struck, 24, .inl fm_struck))] sz) := by
  refine Met.ofW (cc := cX12_lays) (maxL := 6) (ret := none) (by decide) rfl ?_
  intro p e s m args below meth c s₁ B hml hv
  obtain ⟨rfl, hsz, hP, hK, hD0⟩ := hv
  have hx := B.exec
  have hb := B.bytes
  have hr := B.returns
  have hts := atoms_spec (ws := (.code yX12_lays cX12_lays 6 none :: wsGB)) B.pre
  have hown : s.vm.findClass RX12 = some m.cls := findClass_of_methodNamed B.named
  have hlocks := B.notSynchronized
  subst hsz
  have hD := hD0.self (sz := s.heap.size)
  generalize hAe : va_A [(h0, .inr (12, fsMM mi mr)), ((mr 2), .inl (km_reportPlace, 24, .inl fm_reportPlace)), ((mr 3), .inl (km_reportKind, 24, .inl fm_reportKind)), ((mr 5), .inl (km_reportMonth, 24, .inl fm_reportMonth)), ((mr 6), .inl (km_reportDay, 24, .inl fm_reportDay)), ((mr 7), .inl (km_reportKnown, 24, .inl fm_reportKnown)), ((mr 4), .inl (km_struck, 24, .inl fm_struck))] s.heap.size = A at hD ⊢
  have hA : ∀ q : Nat, s.heap.size ≤ q → A q := fun q h => by rw [← hAe]; exact Or.inr h
  have hS : va_S A s.heap s.heap [] := va_S.rf
  have hl := lv_entry ([.ref h0, .int p1, .int p2, .int p3, .int p4, .int p5]) (n := 6) (Nat.le_of_ble_eq_true rfl)
  rw [lg_entry_eq]
  generalize (lg_sl ([.ref h0, .int p1, .int p2, .int p3, .int p4, .int p5]) ++ List.replicate (6 - (lg_sl ([.ref h0, .int p1, .int p2, .int p3, .int p4, .int p5])).length) Slot.unset).toArray = ls at hl ⊢
  have hl : lv_has ls 6 [(0, .ref h0), (1, .int p1), (2, .int p2), (3, .int p3), (4, .int p4), (5, .int p5)] := hl
  obtain ⟨RES, hF⟩ : ∃ R9, fX12_lays mi fm_reportPlace fm_reportKind fm_reportMonth fm_reportDay fm_reportKnown fm_struck p1 p2 p3 p4 p5 = R9 := ⟨_, rfl⟩
  have hR9 := hF
  refine lv_aload_n hx hb dX12_lays_0 rfl (lv_at hl 0 rfl) ?_
  refine va_get (D := (dC, dI)) (ci := 12) (v := .ref (mr 2)) (C := RX12) (T := TX12) (N := 57) hx hb hts (fun w h => List.mem_cons_of_mem _ (jnGB_X12 w h)) hown hK hP 0 rfl rfl 11 (by decide) (hts _ (List.mem_cons_of_mem _ mGB_12)) (fun _ h9 => h9) rfl dX12_lays_1 ?_
  refine lv_aload_n hx hb dX12_lays_4 rfl (lv_at hl 0 rfl) ?_
  refine va_get (D := (dC, dI)) (ci := 12) (v := .int (mi 10)) (C := RX12) (T := TX12) (N := 57) hx hb hts (fun w h => List.mem_cons_of_mem _ (jnGB_X12 w h)) hown hK hP 0 rfl rfl 10 (by decide) (hts _ (List.mem_cons_of_mem _ mGB_111)) (fun _ h9 => h9) rfl dX12_lays_5 ?_
  refine lv_iload_n hx hb dX12_lays_8 rfl (lv_at hl 1 rfl) ?_
  refine va_iast hx hb hK hP hD hS 1 0 rfl rfl (gi_in gmi_10 (by decide)) dX12_lays_9 (fun H locs hP hD hS => ?_)
  have hP : va_P (dC, dI) vwCl [(h0, .inr (12, fsMM mi mr)), ((mr 2), .inl (km_reportPlace, 24, .inl (upd fm_reportPlace ((mi 10) : Int32).toNatClampNeg p1))), ((mr 3), .inl (km_reportKind, 24, .inl fm_reportKind)), ((mr 5), .inl (km_reportMonth, 24, .inl fm_reportMonth)), ((mr 6), .inl (km_reportDay, 24, .inl fm_reportDay)), ((mr 7), .inl (km_reportKnown, 24, .inl fm_reportKnown)), ((mr 4), .inl (km_struck, 24, .inl fm_struck))] H := hP
  have hD : va_D A [(h0, .inr (12, fsMM mi mr)), ((mr 2), .inl (km_reportPlace, 24, .inl (upd fm_reportPlace ((mi 10) : Int32).toNatClampNeg p1))), ((mr 3), .inl (km_reportKind, 24, .inl fm_reportKind)), ((mr 5), .inl (km_reportMonth, 24, .inl fm_reportMonth)), ((mr 6), .inl (km_reportDay, 24, .inl fm_reportDay)), ((mr 7), .inl (km_reportKnown, 24, .inl fm_reportKnown)), ((mr 4), .inl (km_struck, 24, .inl fm_struck))] := hD
  have gf_15 : ga (upd fm_reportPlace ((mi 10) : Int32).toNatClampNeg p1) 24 0 5 := ga_upd gfm_reportPlace gp1
  generalize ef_15 : upd fm_reportPlace ((mi 10) : Int32).toNatClampNeg p1 = f_15 at hP hD gf_15
  refine lv_aload_n hx hb dX12_lays_10 rfl (lv_at hl 0 rfl) ?_
  refine va_get (D := (dC, dI)) (ci := 12) (v := .ref (mr 3)) (C := RX12) (T := TX12) (N := 57) hx hb hts (fun w h => List.mem_cons_of_mem _ (jnGB_X12 w h)) hown hK hP 0 rfl rfl 12 (by decide) (hts _ (List.mem_cons_of_mem _ mGB_13)) (fun _ h9 => h9) rfl dX12_lays_11 ?_
  refine lv_aload_n hx hb dX12_lays_14 rfl (lv_at hl 0 rfl) ?_
  refine va_get (D := (dC, dI)) (ci := 12) (v := .int (mi 10)) (C := RX12) (T := TX12) (N := 57) hx hb hts (fun w h => List.mem_cons_of_mem _ (jnGB_X12 w h)) hown hK hP 0 rfl rfl 10 (by decide) (hts _ (List.mem_cons_of_mem _ mGB_111)) (fun _ h9 => h9) rfl dX12_lays_15 ?_
  refine lv_iload_n hx hb dX12_lays_18 rfl (lv_at hl 2 rfl) ?_
  refine va_iast hx hb hK hP hD hS 2 1 rfl rfl (gi_in gmi_10 (by decide)) dX12_lays_19 (fun H locs hP hD hS => ?_)
  have hP : va_P (dC, dI) vwCl [(h0, .inr (12, fsMM mi mr)), ((mr 2), .inl (km_reportPlace, 24, .inl f_15)), ((mr 3), .inl (km_reportKind, 24, .inl (upd fm_reportKind ((mi 10) : Int32).toNatClampNeg p2))), ((mr 5), .inl (km_reportMonth, 24, .inl fm_reportMonth)), ((mr 6), .inl (km_reportDay, 24, .inl fm_reportDay)), ((mr 7), .inl (km_reportKnown, 24, .inl fm_reportKnown)), ((mr 4), .inl (km_struck, 24, .inl fm_struck))] H := hP
  have hD : va_D A [(h0, .inr (12, fsMM mi mr)), ((mr 2), .inl (km_reportPlace, 24, .inl f_15)), ((mr 3), .inl (km_reportKind, 24, .inl (upd fm_reportKind ((mi 10) : Int32).toNatClampNeg p2))), ((mr 5), .inl (km_reportMonth, 24, .inl fm_reportMonth)), ((mr 6), .inl (km_reportDay, 24, .inl fm_reportDay)), ((mr 7), .inl (km_reportKnown, 24, .inl fm_reportKnown)), ((mr 4), .inl (km_struck, 24, .inl fm_struck))] := hD
  generalize ef_16 : upd fm_reportKind ((mi 10) : Int32).toNatClampNeg p2 = f_16 at hP hD
  refine lv_aload_n hx hb dX12_lays_20 rfl (lv_at hl 0 rfl) ?_
  refine va_get (D := (dC, dI)) (ci := 12) (v := .ref (mr 5)) (C := RX12) (T := TX12) (N := 57) hx hb hts (fun w h => List.mem_cons_of_mem _ (jnGB_X12 w h)) hown hK hP 0 rfl rfl 14 (by decide) (hts _ (List.mem_cons_of_mem _ mGB_16)) (fun _ h9 => h9) rfl dX12_lays_21 ?_
  refine lv_aload_n hx hb dX12_lays_24 rfl (lv_at hl 0 rfl) ?_
  refine va_get (D := (dC, dI)) (ci := 12) (v := .int (mi 10)) (C := RX12) (T := TX12) (N := 57) hx hb hts (fun w h => List.mem_cons_of_mem _ (jnGB_X12 w h)) hown hK hP 0 rfl rfl 10 (by decide) (hts _ (List.mem_cons_of_mem _ mGB_111)) (fun _ h9 => h9) rfl dX12_lays_25 ?_
  refine lv_iload_n hx hb dX12_lays_28 rfl (lv_at hl 3 rfl) ?_
  refine va_iast hx hb hK hP hD hS 3 2 rfl rfl (gi_in gmi_10 (by decide)) dX12_lays_29 (fun H locs hP hD hS => ?_)
  have hP : va_P (dC, dI) vwCl [(h0, .inr (12, fsMM mi mr)), ((mr 2), .inl (km_reportPlace, 24, .inl f_15)), ((mr 3), .inl (km_reportKind, 24, .inl f_16)), ((mr 5), .inl (km_reportMonth, 24, .inl (upd fm_reportMonth ((mi 10) : Int32).toNatClampNeg p3))), ((mr 6), .inl (km_reportDay, 24, .inl fm_reportDay)), ((mr 7), .inl (km_reportKnown, 24, .inl fm_reportKnown)), ((mr 4), .inl (km_struck, 24, .inl fm_struck))] H := hP
  have hD : va_D A [(h0, .inr (12, fsMM mi mr)), ((mr 2), .inl (km_reportPlace, 24, .inl f_15)), ((mr 3), .inl (km_reportKind, 24, .inl f_16)), ((mr 5), .inl (km_reportMonth, 24, .inl (upd fm_reportMonth ((mi 10) : Int32).toNatClampNeg p3))), ((mr 6), .inl (km_reportDay, 24, .inl fm_reportDay)), ((mr 7), .inl (km_reportKnown, 24, .inl fm_reportKnown)), ((mr 4), .inl (km_struck, 24, .inl fm_struck))] := hD
  have gf_17 : ga (upd fm_reportMonth ((mi 10) : Int32).toNatClampNeg p3) 24 0 23 := ga_upd gfm_reportMonth gp3
  generalize ef_17 : upd fm_reportMonth ((mi 10) : Int32).toNatClampNeg p3 = f_17 at hP hD gf_17
  refine lv_aload_n hx hb dX12_lays_30 rfl (lv_at hl 0 rfl) ?_
  refine va_get (D := (dC, dI)) (ci := 12) (v := .ref (mr 6)) (C := RX12) (T := TX12) (N := 57) hx hb hts (fun w h => List.mem_cons_of_mem _ (jnGB_X12 w h)) hown hK hP 0 rfl rfl 15 (by decide) (hts _ (List.mem_cons_of_mem _ mGB_17)) (fun _ h9 => h9) rfl dX12_lays_31 ?_
  refine lv_aload_n hx hb dX12_lays_34 rfl (lv_at hl 0 rfl) ?_
  refine va_get (D := (dC, dI)) (ci := 12) (v := .int (mi 10)) (C := RX12) (T := TX12) (N := 57) hx hb hts (fun w h => List.mem_cons_of_mem _ (jnGB_X12 w h)) hown hK hP 0 rfl rfl 10 (by decide) (hts _ (List.mem_cons_of_mem _ mGB_111)) (fun _ h9 => h9) rfl dX12_lays_35 ?_
  refine lv_iload hx hb dX12_lays_38 (lv_at hl 4 rfl) ?_
  refine va_iast hx hb hK hP hD hS 4 3 rfl rfl (gi_in gmi_10 (by decide)) dX12_lays_40 (fun H locs hP hD hS => ?_)
  have hP : va_P (dC, dI) vwCl [(h0, .inr (12, fsMM mi mr)), ((mr 2), .inl (km_reportPlace, 24, .inl f_15)), ((mr 3), .inl (km_reportKind, 24, .inl f_16)), ((mr 5), .inl (km_reportMonth, 24, .inl f_17)), ((mr 6), .inl (km_reportDay, 24, .inl (upd fm_reportDay ((mi 10) : Int32).toNatClampNeg p4))), ((mr 7), .inl (km_reportKnown, 24, .inl fm_reportKnown)), ((mr 4), .inl (km_struck, 24, .inl fm_struck))] H := hP
  have hD : va_D A [(h0, .inr (12, fsMM mi mr)), ((mr 2), .inl (km_reportPlace, 24, .inl f_15)), ((mr 3), .inl (km_reportKind, 24, .inl f_16)), ((mr 5), .inl (km_reportMonth, 24, .inl f_17)), ((mr 6), .inl (km_reportDay, 24, .inl (upd fm_reportDay ((mi 10) : Int32).toNatClampNeg p4))), ((mr 7), .inl (km_reportKnown, 24, .inl fm_reportKnown)), ((mr 4), .inl (km_struck, 24, .inl fm_struck))] := hD
  have gf_18 : ga (upd fm_reportDay ((mi 10) : Int32).toNatClampNeg p4) 24 0 999 := ga_upd gfm_reportDay gp4
  generalize ef_18 : upd fm_reportDay ((mi 10) : Int32).toNatClampNeg p4 = f_18 at hP hD gf_18
  refine lv_aload_n hx hb dX12_lays_41 rfl (lv_at hl 0 rfl) ?_
  refine va_get (D := (dC, dI)) (ci := 12) (v := .ref (mr 7)) (C := RX12) (T := TX12) (N := 57) hx hb hts (fun w h => List.mem_cons_of_mem _ (jnGB_X12 w h)) hown hK hP 0 rfl rfl 16 (by decide) (hts _ (List.mem_cons_of_mem _ mGB_18)) (fun _ h9 => h9) rfl dX12_lays_42 ?_
  refine lv_aload_n hx hb dX12_lays_45 rfl (lv_at hl 0 rfl) ?_
  refine va_get (D := (dC, dI)) (ci := 12) (v := .int (mi 10)) (C := RX12) (T := TX12) (N := 57) hx hb hts (fun w h => List.mem_cons_of_mem _ (jnGB_X12 w h)) hown hK hP 0 rfl rfl 10 (by decide) (hts _ (List.mem_cons_of_mem _ mGB_111)) (fun _ h9 => h9) rfl dX12_lays_46 ?_
  refine lv_iload hx hb dX12_lays_49 (lv_at hl 5 rfl) ?_
  refine va_iast hx hb hK hP hD hS 5 4 rfl rfl (gi_in gmi_10 (by decide)) dX12_lays_51 (fun H locs hP hD hS => ?_)
  have hP : va_P (dC, dI) vwCl [(h0, .inr (12, fsMM mi mr)), ((mr 2), .inl (km_reportPlace, 24, .inl f_15)), ((mr 3), .inl (km_reportKind, 24, .inl f_16)), ((mr 5), .inl (km_reportMonth, 24, .inl f_17)), ((mr 6), .inl (km_reportDay, 24, .inl f_18)), ((mr 7), .inl (km_reportKnown, 24, .inl (upd fm_reportKnown ((mi 10) : Int32).toNatClampNeg p5))), ((mr 4), .inl (km_struck, 24, .inl fm_struck))] H := hP
  have hD : va_D A [(h0, .inr (12, fsMM mi mr)), ((mr 2), .inl (km_reportPlace, 24, .inl f_15)), ((mr 3), .inl (km_reportKind, 24, .inl f_16)), ((mr 5), .inl (km_reportMonth, 24, .inl f_17)), ((mr 6), .inl (km_reportDay, 24, .inl f_18)), ((mr 7), .inl (km_reportKnown, 24, .inl (upd fm_reportKnown ((mi 10) : Int32).toNatClampNeg p5))), ((mr 4), .inl (km_struck, 24, .inl fm_struck))] := hD
  have gf_19 : ga (upd fm_reportKnown ((mi 10) : Int32).toNatClampNeg p5) 24 0 999 := ga_upd gfm_reportKnown gp5
  generalize ef_19 : upd fm_reportKnown ((mi 10) : Int32).toNatClampNeg p5 = f_19 at hP hD gf_19
  refine lv_aload_n hx hb dX12_lays_52 rfl (lv_at hl 0 rfl) ?_
  refine va_get (D := (dC, dI)) (ci := 12) (v := .ref (mr 4)) (C := RX12) (T := TX12) (N := 57) hx hb hts (fun w h => List.mem_cons_of_mem _ (jnGB_X12 w h)) hown hK hP 0 rfl rfl 13 (by decide) (hts _ (List.mem_cons_of_mem _ mGB_15)) (fun _ h9 => h9) rfl dX12_lays_53 ?_
  refine lv_aload_n hx hb dX12_lays_56 rfl (lv_at hl 0 rfl) ?_
  refine va_get (D := (dC, dI)) (ci := 12) (v := .int (mi 10)) (C := RX12) (T := TX12) (N := 57) hx hb hts (fun w h => List.mem_cons_of_mem _ (jnGB_X12 w h)) hown hK hP 0 rfl rfl 10 (by decide) (hts _ (List.mem_cons_of_mem _ mGB_111)) (fun _ h9 => h9) rfl dX12_lays_57 ?_
  refine lv_iconst (v := 0) hx hb dX12_lays_60 (by decide) ?_
  refine va_zast hx hb hK hP hD hS 6 5 rfl rfl (gi_in gmi_10 (by decide)) dX12_lays_61 (fun H locs hP hD hS => ?_)
  have hP : va_P (dC, dI) vwCl [(h0, .inr (12, fsMM mi mr)), ((mr 2), .inl (km_reportPlace, 24, .inl f_15)), ((mr 3), .inl (km_reportKind, 24, .inl f_16)), ((mr 5), .inl (km_reportMonth, 24, .inl f_17)), ((mr 6), .inl (km_reportDay, 24, .inl f_18)), ((mr 7), .inl (km_reportKnown, 24, .inl f_19)), ((mr 4), .inl (km_struck, 24, .inl (upd fm_struck ((mi 10) : Int32).toNatClampNeg (vp_nar .boolean 0))))] H := hP
  have hD : va_D A [(h0, .inr (12, fsMM mi mr)), ((mr 2), .inl (km_reportPlace, 24, .inl f_15)), ((mr 3), .inl (km_reportKind, 24, .inl f_16)), ((mr 5), .inl (km_reportMonth, 24, .inl f_17)), ((mr 6), .inl (km_reportDay, 24, .inl f_18)), ((mr 7), .inl (km_reportKnown, 24, .inl f_19)), ((mr 4), .inl (km_struck, 24, .inl (upd fm_struck ((mi 10) : Int32).toNatClampNeg (vp_nar .boolean 0))))] := hD
  have gf_20 : ga (upd fm_struck ((mi 10) : Int32).toNatClampNeg (vp_nar .boolean 0)) 24 0 1 := ga_updz gfm_struck (gi_w (gi_c 0 0 (by decide)) (by decide))
  generalize ef_20 : upd fm_struck ((mi 10) : Int32).toNatClampNeg (vp_nar .boolean 0) = f_20 at hP hD gf_20
  refine lv_aload_n hx hb dX12_lays_62 rfl (lv_at hl 0 rfl) ?_
  refine lv_dup hx hb dX12_lays_63 rfl ?_
  refine va_get (D := (dC, dI)) (ci := 12) (v := .int (mi 10)) (C := RX12) (T := TX12) (N := 57) hx hb hts (fun w h => List.mem_cons_of_mem _ (jnGB_X12 w h)) hown hK hP 0 rfl rfl 10 (by decide) (hts _ (List.mem_cons_of_mem _ mGB_111)) (fun _ h9 => h9) rfl dX12_lays_64 ?_
  refine lv_iconst (v := 1) hx hb dX12_lays_67 (by decide) ?_
  refine lv_iadd hx hb dX12_lays_68 ?_
  refine lv_topi (fun x_21 ex_21 => ?_)
  have gx_21 : gi x_21 1 24 := gi_add ex_21 gmi_10 (gi_c 1 1 (by decide)) (by decide)
  refine va_put (D := (dC, dI)) (ci := 12) (v := .int x_21) (ty := .int) (C := RX12) (T := TX12) (N := 57) hx hb hts (fun w h => List.mem_cons_of_mem _ (jnGB_X12 w h)) tyX12 tyX12_ok nmX12 hown hK hP hD hS 0 rfl rfl 10 (by decide) (hts _ (List.mem_cons_of_mem _ mGB_111)) (fun _ h9 => h9) rfl (by decide +kernel) rfl rfl (Nat.le_of_ble_eq_true rfl) dX12_lays_69 (fun H locs hP hD hS => ?_)
  have hP : va_P (dC, dI) vwCl [(h0, .inr (12, fsMM (upd mi 10 x_21) mr)), ((mr 2), .inl (km_reportPlace, 24, .inl f_15)), ((mr 3), .inl (km_reportKind, 24, .inl f_16)), ((mr 5), .inl (km_reportMonth, 24, .inl f_17)), ((mr 6), .inl (km_reportDay, 24, .inl f_18)), ((mr 7), .inl (km_reportKnown, 24, .inl f_19)), ((mr 4), .inl (km_struck, 24, .inl f_20))] H := hP
  have hD : va_D A [(h0, .inr (12, fsMM (upd mi 10 x_21) mr)), ((mr 2), .inl (km_reportPlace, 24, .inl f_15)), ((mr 3), .inl (km_reportKind, 24, .inl f_16)), ((mr 5), .inl (km_reportMonth, 24, .inl f_17)), ((mr 6), .inl (km_reportDay, 24, .inl f_18)), ((mr 7), .inl (km_reportKnown, 24, .inl f_19)), ((mr 4), .inl (km_struck, 24, .inl f_20))] := hD
  exact W.vret hx hb hr (fun t ht hW => ⟨⟨(), rfl, trivial, x_21, f_15, f_16, f_17, f_18, f_19, f_20, (gi_w gx_21 (by decide)), gf_15, gf_17, gf_18, gf_19, gf_20, by rw [ex_21, ← ef_20, ← ef_19, ← ef_18, ← ef_17, ← ef_16, ← ef_15]; exact hF.trans hR9.symm, by rw [ht]; exact hP, hD⟩, hS.F ht⟩) hS.2.2 dX12_lays_72
set_option maxHeartbeats 4000000 in
set_option maxRecDepth 100000 in
theorem sX12_laysP (l : Launch) (dC : Nat → ClassId) (dI : Nat → Nat → Nat) (sz : Nat) (h0 : Nat) (mi : Nat → Int32) (mr : Nat → Nat) (km_reportPlace : ClassId) (fm_reportPlace : Nat → Int32) (km_reportKind : ClassId) (fm_reportKind : Nat → Int32) (km_reportMonth : ClassId) (fm_reportMonth : Nat → Int32) (km_reportDay : ClassId) (fm_reportDay : Nat → Int32) (km_reportKnown : ClassId) (fm_reportKnown : Nat → Int32) (km_struck : ClassId) (fm_struck : Nat → Int32) (p1 : Int32) (p2 : Int32) (p3 : Int32) (p4 : Int32) (p5 : Int32) (gmi_0 : gi (mi 0) 0 100000) (gmi_1 : gi (mi 1) 0 100000) (gmi_2 : gi (mi 2) 0 100000) (gmi_4 : gi (mi 4) 0 1) (gmi_7 : gi (mi 7) 0 6) (gmi_10 : gi (mi 10) 0 23) (gmi_17 : gi (mi 17) 0 8) (gmi_23 : gi (mi 23) 0 300) (gmi_24 : gi (mi 24) 0 1) (gmi_26 : gi (mi 26) 0 1600) (gmi_29 : gi (mi 29) 0 1600) (gmi_30 : gi (mi 30) 0 1600) (gmi_32 : gi (mi 32) 0 100000) (gmi_33 : gi (mi 33) 0 1) (gmi_37 : gi (mi 37) 0 1) (gmi_41 : gi (mi 41) 0 24) (gmi_50 : gi (mi 50) 0 1) (gmi_51 : gi (mi 51) 0 1) (gmi_56 : gi (mi 56) 0 80) (gfm_reportPlace : ga fm_reportPlace 24 0 5) (gfm_reportMonth : ga fm_reportMonth 24 0 23) (gfm_reportDay : ga fm_reportDay 24 0 999) (gfm_reportKnown : ga fm_reportKnown 24 0 999) (gfm_struck : ga fm_struck 24 0 1) (gp1 : gi p1 0 5) (gp3 : gi p3 0 23) (gp4 : gi p4 0 999) (gp5 : gi p5 0 999) : Met l yX12_lays (.code yX12_lays cX12_lays 6 none :: wsGB) ({ frames := 0, cells := 0, slots := 0, locals := 0 }) (va_Pc [.ref h0, .int p1, .int p2, .int p3, .int p4, .int p5] (fun U => U.heap.size = sz ∧ va_P (dC, dI) vwCl [(h0, .inr (12, fsMM mi mr)), ((mr 2), .inl (km_reportPlace, 24, .inl fm_reportPlace)), ((mr 3), .inl (km_reportKind, 24, .inl fm_reportKind)), ((mr 5), .inl (km_reportMonth, 24, .inl fm_reportMonth)), ((mr 6), .inl (km_reportDay, 24, .inl fm_reportDay)), ((mr 7), .inl (km_reportKnown, 24, .inl fm_reportKnown)), ((mr 4), .inl (km_struck, 24, .inl fm_struck))] U.heap ∧ va_K (dC, dI) vwCl [(km_reportPlace, .int), (km_reportKind, .int), (km_reportMonth, .int), (km_reportDay, .int), (km_reportKnown, .int), (km_struck, .boolean)] U ∧ va_D (fun _ => True) [(h0, .inr (12, fsMM mi mr)), ((mr 2), .inl (km_reportPlace, 24, .inl fm_reportPlace)), ((mr 3), .inl (km_reportKind, 24, .inl fm_reportKind)), ((mr 5), .inl (km_reportMonth, 24, .inl fm_reportMonth)), ((mr 6), .inl (km_reportDay, 24, .inl fm_reportDay)), ((mr 7), .inl (km_reportKnown, 24, .inl fm_reportKnown)), ((mr 4), .inl (km_struck, 24, .inl fm_struck))])) (va_Qv (fun (u : Unit) => True) (fun _ t => ∃ (w0_10 : Int32) (z1 : Nat → Int32) (z2 : Nat → Int32) (z3 : Nat → Int32) (z4 : Nat → Int32) (z5 : Nat → Int32) (z6 : Nat → Int32), gi w0_10 0 24 ∧ ga z1 24 0 5 ∧ ga z3 24 0 23 ∧ ga z4 24 0 999 ∧ ga z5 24 0 999 ∧ ga z6 24 0 1 ∧ (w0_10, z1, z2, z3, z4, z5, z6) = fX12_lays mi fm_reportPlace fm_reportKind fm_reportMonth fm_reportDay fm_reportKnown fm_struck p1 p2 p3 p4 p5 ∧ va_P (dC, dI) vwCl [(h0, .inr (12, fsMM (upd mi 10 w0_10) mr)), ((mr 2), .inl (km_reportPlace, 24, .inl z1)), ((mr 3), .inl (km_reportKind, 24, .inl z2)), ((mr 5), .inl (km_reportMonth, 24, .inl z3)), ((mr 6), .inl (km_reportDay, 24, .inl z4)), ((mr 7), .inl (km_reportKnown, 24, .inl z5)), ((mr 4), .inl (km_struck, 24, .inl z6))] t.heap ∧ va_D (va_A [(h0, .inr (12, fsMM mi mr)), ((mr 2), .inl (km_reportPlace, 24, .inl fm_reportPlace)), ((mr 3), .inl (km_reportKind, 24, .inl fm_reportKind)), ((mr 5), .inl (km_reportMonth, 24, .inl fm_reportMonth)), ((mr 6), .inl (km_reportDay, 24, .inl fm_reportDay)), ((mr 7), .inl (km_reportKnown, 24, .inl fm_reportKnown)), ((mr 4), .inl (km_struck, 24, .inl fm_struck))] sz) [(h0, .inr (12, fsMM (upd mi 10 w0_10) mr)), ((mr 2), .inl (km_reportPlace, 24, .inl z1)), ((mr 3), .inl (km_reportKind, 24, .inl z2)), ((mr 5), .inl (km_reportMonth, 24, .inl z3)), ((mr 6), .inl (km_reportDay, 24, .inl z4)), ((mr 7), .inl (km_reportKnown, 24, .inl z5)), ((mr 4), .inl (km_struck, 24, .inl z6))]) (va_A [(h0, .inr (12, fsMM mi mr)), ((mr 2), .inl (km_reportPlace, 24, .inl fm_reportPlace)), ((mr 3), .inl (km_reportKind, 24, .inl fm_reportKind)), ((mr 5), .inl (km_reportMonth, 24, .inl fm_reportMonth)), ((mr 6), .inl (km_reportDay, 24, .inl fm_reportDay)), ((mr 7), .inl (km_reportKnown, 24, .inl fm_reportKnown)), ((mr 4), .inl (km_struck, 24, .inl fm_struck))] sz)) 0 0 (va_A [(h0, .inr (12, fsMM mi mr)), ((mr 2), .inl (km_reportPlace, 24, .inl fm_reportPlace)), ((mr 3), .inl (km_reportKind, 24, .inl fm_reportKind)), ((mr 5), .inl (km_reportMonth, 24, .inl fm_reportMonth)), ((mr 6), .inl (km_reportDay, 24, .inl fm_reportDay)), ((mr 7), .inl (km_reportKnown, 24, .inl fm_reportKnown)), ((mr 4), .inl (km_struck, 24, .inl fm_struck))] sz) := by
  refine Met.ofW (cc := cX12_lays) (maxL := 6) (ret := none) (by decide) rfl ?_
  intro p e s m args below meth c s₁ B hml hv
  obtain ⟨rfl, hsz, hP, hK, hD0⟩ := hv
  have hx := B.exec
  have hb := B.bytes
  have hr := B.returns
  have hts := atoms_spec (ws := (.code yX12_lays cX12_lays 6 none :: wsGB)) B.pre
  have hown : s.vm.findClass RX12 = some m.cls := findClass_of_methodNamed B.named
  have hlocks := B.notSynchronized
  subst hsz
  have hD := hD0.self (sz := s.heap.size)
  generalize hAe : va_A [(h0, .inr (12, fsMM mi mr)), ((mr 2), .inl (km_reportPlace, 24, .inl fm_reportPlace)), ((mr 3), .inl (km_reportKind, 24, .inl fm_reportKind)), ((mr 5), .inl (km_reportMonth, 24, .inl fm_reportMonth)), ((mr 6), .inl (km_reportDay, 24, .inl fm_reportDay)), ((mr 7), .inl (km_reportKnown, 24, .inl fm_reportKnown)), ((mr 4), .inl (km_struck, 24, .inl fm_struck))] s.heap.size = A at hD ⊢
  have hA : ∀ q : Nat, s.heap.size ≤ q → A q := fun q h => by rw [← hAe]; exact Or.inr h
  have hS : va_S A s.heap s.heap [] := va_S.rf
  have hl := lv_entry ([.ref h0, .int p1, .int p2, .int p3, .int p4, .int p5]) (n := 6) (Nat.le_of_ble_eq_true rfl)
  rw [lg_entry_eq]
  generalize (lg_sl ([.ref h0, .int p1, .int p2, .int p3, .int p4, .int p5]) ++ List.replicate (6 - (lg_sl ([.ref h0, .int p1, .int p2, .int p3, .int p4, .int p5])).length) Slot.unset).toArray = ls at hl ⊢
  have hl : lv_has ls 6 [(0, .ref h0), (1, .int p1), (2, .int p2), (3, .int p3), (4, .int p4), (5, .int p5)] := hl
  obtain ⟨RES, hF⟩ : ∃ R9, fX12_lays mi fm_reportPlace fm_reportKind fm_reportMonth fm_reportDay fm_reportKnown fm_struck p1 p2 p3 p4 p5 = R9 := ⟨_, rfl⟩
  have hR9 := hF
  refine lv_aload_n hx hb dX12_lays_0 rfl (lv_at hl 0 rfl) ?_
  refine va_get (D := (dC, dI)) (ci := 12) (v := .ref (mr 2)) (C := RX12) (T := TX12) (N := 57) hx hb hts (fun w h => List.mem_cons_of_mem _ (jnGB_X12 w h)) hown hK hP 0 rfl rfl 11 (by decide) (hts _ (List.mem_cons_of_mem _ mGB_12)) (fun _ h9 => h9) rfl dX12_lays_1 ?_
  refine lv_aload_n hx hb dX12_lays_4 rfl (lv_at hl 0 rfl) ?_
  refine va_get (D := (dC, dI)) (ci := 12) (v := .int (mi 10)) (C := RX12) (T := TX12) (N := 57) hx hb hts (fun w h => List.mem_cons_of_mem _ (jnGB_X12 w h)) hown hK hP 0 rfl rfl 10 (by decide) (hts _ (List.mem_cons_of_mem _ mGB_111)) (fun _ h9 => h9) rfl dX12_lays_5 ?_
  refine lv_iload_n hx hb dX12_lays_8 rfl (lv_at hl 1 rfl) ?_
  refine va_iast hx hb hK hP hD hS 1 0 rfl rfl (gi_in gmi_10 (by decide)) dX12_lays_9 (fun H locs hP hD hS => ?_)
  have hP : va_P (dC, dI) vwCl [(h0, .inr (12, fsMM mi mr)), ((mr 2), .inl (km_reportPlace, 24, .inl (upd fm_reportPlace ((mi 10) : Int32).toNatClampNeg p1))), ((mr 3), .inl (km_reportKind, 24, .inl fm_reportKind)), ((mr 5), .inl (km_reportMonth, 24, .inl fm_reportMonth)), ((mr 6), .inl (km_reportDay, 24, .inl fm_reportDay)), ((mr 7), .inl (km_reportKnown, 24, .inl fm_reportKnown)), ((mr 4), .inl (km_struck, 24, .inl fm_struck))] H := hP
  have hD : va_D A [(h0, .inr (12, fsMM mi mr)), ((mr 2), .inl (km_reportPlace, 24, .inl (upd fm_reportPlace ((mi 10) : Int32).toNatClampNeg p1))), ((mr 3), .inl (km_reportKind, 24, .inl fm_reportKind)), ((mr 5), .inl (km_reportMonth, 24, .inl fm_reportMonth)), ((mr 6), .inl (km_reportDay, 24, .inl fm_reportDay)), ((mr 7), .inl (km_reportKnown, 24, .inl fm_reportKnown)), ((mr 4), .inl (km_struck, 24, .inl fm_struck))] := hD
  have gf_15 : ga (upd fm_reportPlace ((mi 10) : Int32).toNatClampNeg p1) 24 0 5 := ga_upd gfm_reportPlace gp1
  generalize ef_15 : upd fm_reportPlace ((mi 10) : Int32).toNatClampNeg p1 = f_15 at hP hD gf_15
  refine lv_aload_n hx hb dX12_lays_10 rfl (lv_at hl 0 rfl) ?_
  refine va_get (D := (dC, dI)) (ci := 12) (v := .ref (mr 3)) (C := RX12) (T := TX12) (N := 57) hx hb hts (fun w h => List.mem_cons_of_mem _ (jnGB_X12 w h)) hown hK hP 0 rfl rfl 12 (by decide) (hts _ (List.mem_cons_of_mem _ mGB_13)) (fun _ h9 => h9) rfl dX12_lays_11 ?_
  refine lv_aload_n hx hb dX12_lays_14 rfl (lv_at hl 0 rfl) ?_
  refine va_get (D := (dC, dI)) (ci := 12) (v := .int (mi 10)) (C := RX12) (T := TX12) (N := 57) hx hb hts (fun w h => List.mem_cons_of_mem _ (jnGB_X12 w h)) hown hK hP 0 rfl rfl 10 (by decide) (hts _ (List.mem_cons_of_mem _ mGB_111)) (fun _ h9 => h9) rfl dX12_lays_15 ?_
  refine lv_iload_n hx hb dX12_lays_18 rfl (lv_at hl 2 rfl) ?_
  refine va_iast hx hb hK hP hD hS 2 1 rfl rfl (gi_in gmi_10 (by decide)) dX12_lays_19 (fun H locs hP hD hS => ?_)
  have hP : va_P (dC, dI) vwCl [(h0, .inr (12, fsMM mi mr)), ((mr 2), .inl (km_reportPlace, 24, .inl f_15)), ((mr 3), .inl (km_reportKind, 24, .inl (upd fm_reportKind ((mi 10) : Int32).toNatClampNeg p2))), ((mr 5), .inl (km_reportMonth, 24, .inl fm_reportMonth)), ((mr 6), .inl (km_reportDay, 24, .inl fm_reportDay)), ((mr 7), .inl (km_reportKnown, 24, .inl fm_reportKnown)), ((mr 4), .inl (km_struck, 24, .inl fm_struck))] H := hP
  have hD : va_D A [(h0, .inr (12, fsMM mi mr)), ((mr 2), .inl (km_reportPlace, 24, .inl f_15)), ((mr 3), .inl (km_reportKind, 24, .inl (upd fm_reportKind ((mi 10) : Int32).toNatClampNeg p2))), ((mr 5), .inl (km_reportMonth, 24, .inl fm_reportMonth)), ((mr 6), .inl (km_reportDay, 24, .inl fm_reportDay)), ((mr 7), .inl (km_reportKnown, 24, .inl fm_reportKnown)), ((mr 4), .inl (km_struck, 24, .inl fm_struck))] := hD
  generalize ef_16 : upd fm_reportKind ((mi 10) : Int32).toNatClampNeg p2 = f_16 at hP hD
  refine lv_aload_n hx hb dX12_lays_20 rfl (lv_at hl 0 rfl) ?_
  refine va_get (D := (dC, dI)) (ci := 12) (v := .ref (mr 5)) (C := RX12) (T := TX12) (N := 57) hx hb hts (fun w h => List.mem_cons_of_mem _ (jnGB_X12 w h)) hown hK hP 0 rfl rfl 14 (by decide) (hts _ (List.mem_cons_of_mem _ mGB_16)) (fun _ h9 => h9) rfl dX12_lays_21 ?_
  refine lv_aload_n hx hb dX12_lays_24 rfl (lv_at hl 0 rfl) ?_
  refine va_get (D := (dC, dI)) (ci := 12) (v := .int (mi 10)) (C := RX12) (T := TX12) (N := 57) hx hb hts (fun w h => List.mem_cons_of_mem _ (jnGB_X12 w h)) hown hK hP 0 rfl rfl 10 (by decide) (hts _ (List.mem_cons_of_mem _ mGB_111)) (fun _ h9 => h9) rfl dX12_lays_25 ?_
  refine lv_iload_n hx hb dX12_lays_28 rfl (lv_at hl 3 rfl) ?_
  refine va_iast hx hb hK hP hD hS 3 2 rfl rfl (gi_in gmi_10 (by decide)) dX12_lays_29 (fun H locs hP hD hS => ?_)
  have hP : va_P (dC, dI) vwCl [(h0, .inr (12, fsMM mi mr)), ((mr 2), .inl (km_reportPlace, 24, .inl f_15)), ((mr 3), .inl (km_reportKind, 24, .inl f_16)), ((mr 5), .inl (km_reportMonth, 24, .inl (upd fm_reportMonth ((mi 10) : Int32).toNatClampNeg p3))), ((mr 6), .inl (km_reportDay, 24, .inl fm_reportDay)), ((mr 7), .inl (km_reportKnown, 24, .inl fm_reportKnown)), ((mr 4), .inl (km_struck, 24, .inl fm_struck))] H := hP
  have hD : va_D A [(h0, .inr (12, fsMM mi mr)), ((mr 2), .inl (km_reportPlace, 24, .inl f_15)), ((mr 3), .inl (km_reportKind, 24, .inl f_16)), ((mr 5), .inl (km_reportMonth, 24, .inl (upd fm_reportMonth ((mi 10) : Int32).toNatClampNeg p3))), ((mr 6), .inl (km_reportDay, 24, .inl fm_reportDay)), ((mr 7), .inl (km_reportKnown, 24, .inl fm_reportKnown)), ((mr 4), .inl (km_struck, 24, .inl fm_struck))] := hD
  have gf_17 : ga (upd fm_reportMonth ((mi 10) : Int32).toNatClampNeg p3) 24 0 23 := ga_upd gfm_reportMonth gp3
  generalize ef_17 : upd fm_reportMonth ((mi 10) : Int32).toNatClampNeg p3 = f_17 at hP hD gf_17
  refine lv_aload_n hx hb dX12_lays_30 rfl (lv_at hl 0 rfl) ?_
  refine va_get (D := (dC, dI)) (ci := 12) (v := .ref (mr 6)) (C := RX12) (T := TX12) (N := 57) hx hb hts (fun w h => List.mem_cons_of_mem _ (jnGB_X12 w h)) hown hK hP 0 rfl rfl 15 (by decide) (hts _ (List.mem_cons_of_mem _ mGB_17)) (fun _ h9 => h9) rfl dX12_lays_31 ?_
  refine lv_aload_n hx hb dX12_lays_34 rfl (lv_at hl 0 rfl) ?_
  refine va_get (D := (dC, dI)) (ci := 12) (v := .int (mi 10)) (C := RX12) (T := TX12) (N := 57) hx hb hts (fun w h => List.mem_cons_of_mem _ (jnGB_X12 w h)) hown hK hP 0 rfl rfl 10 (by decide) (hts _ (List.mem_cons_of_mem _ mGB_111)) (fun _ h9 => h9) rfl dX12_lays_35 ?_
  refine lv_iload hx hb dX12_lays_38 (lv_at hl 4 rfl) ?_
  refine va_iast hx hb hK hP hD hS 4 3 rfl rfl (gi_in gmi_10 (by decide)) dX12_lays_40 (fun H locs hP hD hS => ?_)
  have hP : va_P (dC, dI) vwCl [(h0, .inr (12, fsMM mi mr)), ((mr 2), .inl (km_reportPlace, 24, .inl f_15)), ((mr 3), .inl (km_reportKind, 24, .inl f_16)), ((mr 5), .inl (km_reportMonth, 24, .inl f_17)), ((mr 6), .inl (km_reportDay, 24, .inl (upd fm_reportDay ((mi 10) : Int32).toNatClampNeg p4))), ((mr 7), .inl (km_reportKnown, 24, .inl fm_reportKnown)), ((mr 4), .inl (km_struck, 24, .inl fm_struck))] H := hP
  have hD : va_D A [(h0, .inr (12, fsMM mi mr)), ((mr 2), .inl (km_reportPlace, 24, .inl f_15)), ((mr 3), .inl (km_reportKind, 24, .inl f_16)), ((mr 5), .inl (km_reportMonth, 24, .inl f_17)), ((mr 6), .inl (km_reportDay, 24, .inl (upd fm_reportDay ((mi 10) : Int32).toNatClampNeg p4))), ((mr 7), .inl (km_reportKnown, 24, .inl fm_reportKnown)), ((mr 4), .inl (km_struck, 24, .inl fm_struck))] := hD
  have gf_18 : ga (upd fm_reportDay ((mi 10) : Int32).toNatClampNeg p4) 24 0 999 := ga_upd gfm_reportDay gp4
  generalize ef_18 : upd fm_reportDay ((mi 10) : Int32).toNatClampNeg p4 = f_18 at hP hD gf_18
  refine lv_aload_n hx hb dX12_lays_41 rfl (lv_at hl 0 rfl) ?_
  refine va_get (D := (dC, dI)) (ci := 12) (v := .ref (mr 7)) (C := RX12) (T := TX12) (N := 57) hx hb hts (fun w h => List.mem_cons_of_mem _ (jnGB_X12 w h)) hown hK hP 0 rfl rfl 16 (by decide) (hts _ (List.mem_cons_of_mem _ mGB_18)) (fun _ h9 => h9) rfl dX12_lays_42 ?_
  refine lv_aload_n hx hb dX12_lays_45 rfl (lv_at hl 0 rfl) ?_
  refine va_get (D := (dC, dI)) (ci := 12) (v := .int (mi 10)) (C := RX12) (T := TX12) (N := 57) hx hb hts (fun w h => List.mem_cons_of_mem _ (jnGB_X12 w h)) hown hK hP 0 rfl rfl 10 (by decide) (hts _ (List.mem_cons_of_mem _ mGB_111)) (fun _ h9 => h9) rfl dX12_lays_46 ?_
  refine lv_iload hx hb dX12_lays_49 (lv_at hl 5 rfl) ?_
  refine va_iast hx hb hK hP hD hS 5 4 rfl rfl (gi_in gmi_10 (by decide)) dX12_lays_51 (fun H locs hP hD hS => ?_)
  have hP : va_P (dC, dI) vwCl [(h0, .inr (12, fsMM mi mr)), ((mr 2), .inl (km_reportPlace, 24, .inl f_15)), ((mr 3), .inl (km_reportKind, 24, .inl f_16)), ((mr 5), .inl (km_reportMonth, 24, .inl f_17)), ((mr 6), .inl (km_reportDay, 24, .inl f_18)), ((mr 7), .inl (km_reportKnown, 24, .inl (upd fm_reportKnown ((mi 10) : Int32).toNatClampNeg p5))), ((mr 4), .inl (km_struck, 24, .inl fm_struck))] H := hP
  have hD : va_D A [(h0, .inr (12, fsMM mi mr)), ((mr 2), .inl (km_reportPlace, 24, .inl f_15)), ((mr 3), .inl (km_reportKind, 24, .inl f_16)), ((mr 5), .inl (km_reportMonth, 24, .inl f_17)), ((mr 6), .inl (km_reportDay, 24, .inl f_18)), ((mr 7), .inl (km_reportKnown, 24, .inl (upd fm_reportKnown ((mi 10) : Int32).toNatClampNeg p5))), ((mr 4), .inl (km_struck, 24, .inl fm_struck))] := hD
  have gf_19 : ga (upd fm_reportKnown ((mi 10) : Int32).toNatClampNeg p5) 24 0 999 := ga_upd gfm_reportKnown gp5
  generalize ef_19 : upd fm_reportKnown ((mi 10) : Int32).toNatClampNeg p5 = f_19 at hP hD gf_19
  refine lv_aload_n hx hb dX12_lays_52 rfl (lv_at hl 0 rfl) ?_
  refine va_get (D := (dC, dI)) (ci := 12) (v := .ref (mr 4)) (C := RX12) (T := TX12) (N := 57) hx hb hts (fun w h => List.mem_cons_of_mem _ (jnGB_X12 w h)) hown hK hP 0 rfl rfl 13 (by decide) (hts _ (List.mem_cons_of_mem _ mGB_15)) (fun _ h9 => h9) rfl dX12_lays_53 ?_
  refine lv_aload_n hx hb dX12_lays_56 rfl (lv_at hl 0 rfl) ?_
  refine va_get (D := (dC, dI)) (ci := 12) (v := .int (mi 10)) (C := RX12) (T := TX12) (N := 57) hx hb hts (fun w h => List.mem_cons_of_mem _ (jnGB_X12 w h)) hown hK hP 0 rfl rfl 10 (by decide) (hts _ (List.mem_cons_of_mem _ mGB_111)) (fun _ h9 => h9) rfl dX12_lays_57 ?_
  refine lv_iconst (v := 0) hx hb dX12_lays_60 (by decide) ?_
  refine va_zast hx hb hK hP hD hS 6 5 rfl rfl (gi_in gmi_10 (by decide)) dX12_lays_61 (fun H locs hP hD hS => ?_)
  have hP : va_P (dC, dI) vwCl [(h0, .inr (12, fsMM mi mr)), ((mr 2), .inl (km_reportPlace, 24, .inl f_15)), ((mr 3), .inl (km_reportKind, 24, .inl f_16)), ((mr 5), .inl (km_reportMonth, 24, .inl f_17)), ((mr 6), .inl (km_reportDay, 24, .inl f_18)), ((mr 7), .inl (km_reportKnown, 24, .inl f_19)), ((mr 4), .inl (km_struck, 24, .inl (upd fm_struck ((mi 10) : Int32).toNatClampNeg (vp_nar .boolean 0))))] H := hP
  have hD : va_D A [(h0, .inr (12, fsMM mi mr)), ((mr 2), .inl (km_reportPlace, 24, .inl f_15)), ((mr 3), .inl (km_reportKind, 24, .inl f_16)), ((mr 5), .inl (km_reportMonth, 24, .inl f_17)), ((mr 6), .inl (km_reportDay, 24, .inl f_18)), ((mr 7), .inl (km_reportKnown, 24, .inl f_19)), ((mr 4), .inl (km_struck, 24, .inl (upd fm_struck ((mi 10) : Int32).toNatClampNeg (vp_nar .boolean 0))))] := hD
  have gf_20 : ga (upd fm_struck ((mi 10) : Int32).toNatClampNeg (vp_nar .boolean 0)) 24 0 1 := ga_updz gfm_struck (gi_w (gi_c 0 0 (by decide)) (by decide))
  generalize ef_20 : upd fm_struck ((mi 10) : Int32).toNatClampNeg (vp_nar .boolean 0) = f_20 at hP hD gf_20
  refine lv_aload_n hx hb dX12_lays_62 rfl (lv_at hl 0 rfl) ?_
  refine lv_dup hx hb dX12_lays_63 rfl ?_
  refine va_get (D := (dC, dI)) (ci := 12) (v := .int (mi 10)) (C := RX12) (T := TX12) (N := 57) hx hb hts (fun w h => List.mem_cons_of_mem _ (jnGB_X12 w h)) hown hK hP 0 rfl rfl 10 (by decide) (hts _ (List.mem_cons_of_mem _ mGB_111)) (fun _ h9 => h9) rfl dX12_lays_64 ?_
  refine lv_iconst (v := 1) hx hb dX12_lays_67 (by decide) ?_
  refine lv_iadd hx hb dX12_lays_68 ?_
  refine lv_topi (fun x_21 ex_21 => ?_)
  have gx_21 : gi x_21 1 24 := gi_add ex_21 gmi_10 (gi_c 1 1 (by decide)) (by decide)
  refine va_put (D := (dC, dI)) (ci := 12) (v := .int x_21) (ty := .int) (C := RX12) (T := TX12) (N := 57) hx hb hts (fun w h => List.mem_cons_of_mem _ (jnGB_X12 w h)) tyX12 tyX12_ok nmX12 hown hK hP hD hS 0 rfl rfl 10 (by decide) (hts _ (List.mem_cons_of_mem _ mGB_111)) (fun _ h9 => h9) rfl (by decide +kernel) rfl rfl (Nat.le_of_ble_eq_true rfl) dX12_lays_69 (fun H locs hP hD hS => ?_)
  have hP : va_P (dC, dI) vwCl [(h0, .inr (12, fsMM (upd mi 10 x_21) mr)), ((mr 2), .inl (km_reportPlace, 24, .inl f_15)), ((mr 3), .inl (km_reportKind, 24, .inl f_16)), ((mr 5), .inl (km_reportMonth, 24, .inl f_17)), ((mr 6), .inl (km_reportDay, 24, .inl f_18)), ((mr 7), .inl (km_reportKnown, 24, .inl f_19)), ((mr 4), .inl (km_struck, 24, .inl f_20))] H := hP
  have hD : va_D A [(h0, .inr (12, fsMM (upd mi 10 x_21) mr)), ((mr 2), .inl (km_reportPlace, 24, .inl f_15)), ((mr 3), .inl (km_reportKind, 24, .inl f_16)), ((mr 5), .inl (km_reportMonth, 24, .inl f_17)), ((mr 6), .inl (km_reportDay, 24, .inl f_18)), ((mr 7), .inl (km_reportKnown, 24, .inl f_19)), ((mr 4), .inl (km_struck, 24, .inl f_20))] := hD
  exact W.vret hx hb hr (fun t ht hW => ⟨⟨(), rfl, trivial, x_21, f_15, f_16, f_17, f_18, f_19, f_20, (gi_w gx_21 (by decide)), gf_15, gf_17, gf_18, gf_19, gf_20, by rw [ex_21, ← ef_20, ← ef_19, ← ef_18, ← ef_17, ← ef_16, ← ef_15]; exact hF.trans hR9.symm, by rw [ht]; exact hP, hD⟩, hS.F ht⟩) hS.2.2 dX12_lays_72
/-! the words of the text -/
def stL (i : Nat) : List Int32 := ([[97, 108, 109, 97, 110, 97, 99], [99, 108, 101, 97, 114], [99, 108, 111, 117, 100], [100, 97, 121], [100, 97, 121, 115], [100, 101, 101, 100], [102, 111, 114], [102, 117, 108, 108], [107, 110, 111, 119, 110], [108, 101, 97, 110], [109, 111, 110, 116, 104], [109, 111, 110, 116, 104, 115], [109, 111, 111, 110], [111, 110], [112, 108, 97, 99, 101], [115, 101, 101, 110], [115, 116, 101, 112], [116, 114, 117, 115, 116]] : List (List Int32)).getD i []
def stIA (i : Nat) : Nat := ([92, 76, 78, 159, 164, 80, 161, 104, 146, 106, 142, 98, 56, 144, 65, 70, 123, 134] : List Nat).getD i 0
def stIB (i : Nat) : Nat := ([250, 271, 273, 240, 244, 278, 242, 252, 234, 254, 230, 246, 259, 232, 264, 269, 248, 222] : List Nat).getD i 0
def stT (i : Nat) : String := (["almanac", "clear", "cloud", "day", "days", "deed", "for", "full", "known", "lean", "month", "months", "moon", "on", "place", "seen", "step", "trust"] : List String).getD i ""
theorem stL_len : ∀ i, i < 18 → (stL i).length ≤ 7 := by decide +kernel
def gz_str (a b : Nat) (L : List Int32) (A : Nat → Prop) (U : State) (H : Heap) : Prop := va_O "java/lang/String" a A U H ∧ va_OF "java/lang/String" "coder" "B" (.int 0) a A U H ∧ va_OF "java/lang/String" "value" "[B" (.ref b) a A U H ∧ va_T .byte b L.length (fun j => .int (L.getD j 0)) A U H
def gz_sp (a b : Nat) (L : List Int32) (zf : Value) (A : Nat → Prop) (U : State) (H : Heap) : Prop := va_Z "java/lang/String" "COMPACT_STRINGS" "Z" (.int 1) A U H ∧ va_Z "jdk/internal/util/Preconditions" "SIOOBE_FORMATTER" "Ljava/util/function/BiFunction;" zf A U H ∧ gz_str a b L A U H
theorem gz_str.moved {a b : Nat} {L : List Int32} {A : Nat → Prop} {u U : State} {H : Heap} (hvm : u.vm.Alike U.vm) (h : gz_str a b L A u H) : gz_str a b L A U H := ⟨va_O.moved hvm h.1, va_OF.moved hvm h.2.1, va_OF.moved hvm h.2.2.1, va_T.moved hvm h.2.2.2⟩
theorem gz_str.kept {a b : Nat} {L : List Int32} {A : Nat → Prop} {U : State} {H H1 : Heap} (h : gz_str a b L A U H) (hq : ∀ a : Nat, a < H.size → ¬ A a → H1[a]? = H[a]?) : gz_str a b L A U H1 := ⟨h.1.kept hq, h.2.1.kept hq, h.2.2.1.kept hq, h.2.2.2.kept hq⟩
theorem gz_str.narrow {a b : Nat} {L : List Int32} {A B : Nat → Prop} {U : State} {H : Heap} (h : gz_str a b L A U H) (hAB : ∀ q, B q → A q) : gz_str a b L B U H := ⟨h.1.narrow hAB, h.2.1.narrow hAB, h.2.2.1.narrow hAB, h.2.2.2.narrow hAB⟩
theorem gz_sp.moved {a b : Nat} {L : List Int32} {zf : Value} {A : Nat → Prop} {u U : State} {H : Heap} (hvm : u.vm.Alike U.vm) (h : gz_sp a b L zf A u H) : gz_sp a b L zf A U H := ⟨va_Z.moved hvm h.1, va_Z.moved hvm h.2.1, h.2.2.moved hvm⟩
theorem gz_sp.kept {a b : Nat} {L : List Int32} {zf : Value} {A : Nat → Prop} {U : State} {H H1 : Heap} (h : gz_sp a b L zf A U H) (hq : ∀ a : Nat, a < H.size → ¬ A a → H1[a]? = H[a]?) : gz_sp a b L zf A U H1 := ⟨h.1.kept hq, h.2.1.kept hq, h.2.2.kept hq⟩
theorem gz_sp.narrow {a b : Nat} {L : List Int32} {zf : Value} {A B : Nat → Prop} {U : State} {H : Heap} (h : gz_sp a b L zf A U H) (hAB : ∀ q, B q → A q) : gz_sp a b L zf B U H := ⟨h.1.narrow hAB, h.2.1.narrow hAB, h.2.2.narrow hAB⟩
/-- all words of a class -/
def gz_ST (own : String) (ix : Nat → Nat) (sa sb : Nat → Nat) (zf : Value) (A : Nat → Prop) (U : State) (H : Heap) : Prop := (zf = .null ∨ ∃ t, zf = .ref t) ∧ ∀ i, i < 18 → vk_R own (ix i) (stT i) (sa i) U ∧ gz_sp (sa i) (sb i) (stL i) zf A U H
theorem gz_ST.warm {own : String} {ix sa sb : Nat → Nat} {zf : Value} {A : Nat → Prop} {s U : State} {H : Heap} (hW : s.WarmedH U.vm) (h : gz_ST own ix sa sb zf A s H) : gz_ST own ix sa sb zf A U H := ⟨h.1, fun i hi => ⟨(h.2 i hi).1.warm hW, (h.2 i hi).2.moved hW.alike⟩⟩
theorem gz_ST.same {own : String} {ix sa sb : Nat → Nat} {zf : Value} {A : Nat → Prop} {u U : State} {H : Heap} (hv : U.vm = u.vm) (h : gz_ST own ix sa sb zf A u H) : gz_ST own ix sa sb zf A U H := ⟨h.1, fun i hi => ⟨(h.2 i hi).1.same hv, (h.2 i hi).2.moved (hv ▸ Vm.Alike.refl u.vm)⟩⟩
theorem gz_ST.kept {own : String} {ix sa sb : Nat → Nat} {zf : Value} {A : Nat → Prop} {U : State} {H H1 : Heap} (h : gz_ST own ix sa sb zf A U H) (hq : ∀ a : Nat, a < H.size → ¬ A a → H1[a]? = H[a]?) : gz_ST own ix sa sb zf A U H1 := ⟨h.1, fun i hi => ⟨(h.2 i hi).1, (h.2 i hi).2.kept hq⟩⟩
theorem gz_ST.narrow {own : String} {ix sa sb : Nat → Nat} {zf : Value} {A B : Nat → Prop} {U : State} {H : Heap} (h : gz_ST own ix sa sb zf A U H) (hAB : ∀ q, B q → A q) : gz_ST own ix sa sb zf B U H := ⟨h.1, fun i hi => ⟨(h.2 i hi).1, (h.2 i hi).2.narrow hAB⟩⟩
