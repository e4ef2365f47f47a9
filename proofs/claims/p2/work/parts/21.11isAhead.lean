theorem dX12_isAhead_0 : decode cX12_isAhead 0 = .ok (.aload_n 0, 1) := by decide +kernel
theorem dX12_isAhead_1 : decode cX12_isAhead 1 = .ok (.getfield 16, 3) := by decide +kernel
theorem dX12_isAhead_4 : decode cX12_isAhead 4 = .ok (.iload_n 1, 1) := by decide +kernel
theorem dX12_isAhead_5 : decode cX12_isAhead 5 = .ok (.iaload, 1) := by decide +kernel
theorem dX12_isAhead_6 : decode cX12_isAhead 6 = .ok (.istore_n 3, 1) := by decide +kernel
theorem dX12_isAhead_7 : decode cX12_isAhead 7 = .ok (.aload_n 0, 1) := by decide +kernel
theorem dX12_isAhead_8 : decode cX12_isAhead 8 = .ok (.getfield 16, 3) := by decide +kernel
theorem dX12_isAhead_11 : decode cX12_isAhead 11 = .ok (.iload_n 2, 1) := by decide +kernel
theorem dX12_isAhead_12 : decode cX12_isAhead 12 = .ok (.iaload, 1) := by decide +kernel
theorem dX12_isAhead_13 : decode cX12_isAhead 13 = .ok (.istore 4, 2) := by decide +kernel
theorem dX12_isAhead_15 : decode cX12_isAhead 15 = .ok (.aload_n 0, 1) := by decide +kernel
theorem dX12_isAhead_16 : decode cX12_isAhead 16 = .ok (.iload_n 3, 1) := by decide +kernel
theorem dX12_isAhead_17 : decode cX12_isAhead 17 = .ok (.invokevirtual 335, 3) := by decide +kernel
theorem dX12_isAhead_20 : decode cX12_isAhead 20 = .ok (.aload_n 0, 1) := by decide +kernel
theorem dX12_isAhead_21 : decode cX12_isAhead 21 = .ok (.iload 4, 2) := by decide +kernel
theorem dX12_isAhead_23 : decode cX12_isAhead 23 = .ok (.invokevirtual 335, 3) := by decide +kernel
theorem dX12_isAhead_26 : decode cX12_isAhead 26 = .ok (.if_icmp .eq 23, 3) := by decide +kernel
theorem dX12_isAhead_29 : decode cX12_isAhead 29 = .ok (.aload_n 0, 1) := by decide +kernel
theorem dX12_isAhead_30 : decode cX12_isAhead 30 = .ok (.iload_n 3, 1) := by decide +kernel
theorem dX12_isAhead_31 : decode cX12_isAhead 31 = .ok (.invokevirtual 335, 3) := by decide +kernel
theorem dX12_isAhead_34 : decode cX12_isAhead 34 = .ok (.aload_n 0, 1) := by decide +kernel
theorem dX12_isAhead_35 : decode cX12_isAhead 35 = .ok (.iload 4, 2) := by decide +kernel
theorem dX12_isAhead_37 : decode cX12_isAhead 37 = .ok (.invokevirtual 335, 3) := by decide +kernel
theorem dX12_isAhead_40 : decode cX12_isAhead 40 = .ok (.if_icmp .le 7, 3) := by decide +kernel
theorem dX12_isAhead_43 : decode cX12_isAhead 43 = .ok (.iconst 1, 1) := by decide +kernel
theorem dX12_isAhead_44 : decode cX12_isAhead 44 = .ok (.goto 4, 3) := by decide +kernel
theorem dX12_isAhead_47 : decode cX12_isAhead 47 = .ok (.iconst 0, 1) := by decide +kernel
theorem dX12_isAhead_48 : decode cX12_isAhead 48 = .ok (.ireturn, 1) := by decide +kernel
theorem dX12_isAhead_49 : decode cX12_isAhead 49 = .ok (.iload_n 3, 1) := by decide +kernel
theorem dX12_isAhead_50 : decode cX12_isAhead 50 = .ok (.iload 4, 2) := by decide +kernel
theorem dX12_isAhead_52 : decode cX12_isAhead 52 = .ok (.if_icmp .eq 11, 3) := by decide +kernel
theorem dX12_isAhead_55 : decode cX12_isAhead 55 = .ok (.aload_n 0, 1) := by decide +kernel
theorem dX12_isAhead_56 : decode cX12_isAhead 56 = .ok (.iload_n 3, 1) := by decide +kernel
theorem dX12_isAhead_57 : decode cX12_isAhead 57 = .ok (.iload 4, 2) := by decide +kernel
theorem dX12_isAhead_59 : decode cX12_isAhead 59 = .ok (.invokevirtual 300, 3) := by decide +kernel
theorem dX12_isAhead_62 : decode cX12_isAhead 62 = .ok (.ireturn, 1) := by decide +kernel
theorem dX12_isAhead_63 : decode cX12_isAhead 63 = .ok (.aload_n 0, 1) := by decide +kernel
theorem dX12_isAhead_64 : decode cX12_isAhead 64 = .ok (.getfield 26, 3) := by decide +kernel
theorem dX12_isAhead_67 : decode cX12_isAhead 67 = .ok (.iload_n 1, 1) := by decide +kernel
theorem dX12_isAhead_68 : decode cX12_isAhead 68 = .ok (.iaload, 1) := by decide +kernel
theorem dX12_isAhead_69 : decode cX12_isAhead 69 = .ok (.aload_n 0, 1) := by decide +kernel
theorem dX12_isAhead_70 : decode cX12_isAhead 70 = .ok (.getfield 26, 3) := by decide +kernel
theorem dX12_isAhead_73 : decode cX12_isAhead 73 = .ok (.iload_n 2, 1) := by decide +kernel
theorem dX12_isAhead_74 : decode cX12_isAhead 74 = .ok (.iaload, 1) := by decide +kernel
theorem dX12_isAhead_75 : decode cX12_isAhead 75 = .ok (.if_icmp .eq 24, 3) := by decide +kernel
theorem dX12_isAhead_78 : decode cX12_isAhead 78 = .ok (.aload_n 0, 1) := by decide +kernel
theorem dX12_isAhead_79 : decode cX12_isAhead 79 = .ok (.getfield 26, 3) := by decide +kernel
theorem dX12_isAhead_82 : decode cX12_isAhead 82 = .ok (.iload_n 1, 1) := by decide +kernel
theorem dX12_isAhead_83 : decode cX12_isAhead 83 = .ok (.iaload, 1) := by decide +kernel
theorem dX12_isAhead_84 : decode cX12_isAhead 84 = .ok (.aload_n 0, 1) := by decide +kernel
theorem dX12_isAhead_85 : decode cX12_isAhead 85 = .ok (.getfield 26, 3) := by decide +kernel
theorem dX12_isAhead_88 : decode cX12_isAhead 88 = .ok (.iload_n 2, 1) := by decide +kernel
theorem dX12_isAhead_89 : decode cX12_isAhead 89 = .ok (.iaload, 1) := by decide +kernel
theorem dX12_isAhead_90 : decode cX12_isAhead 90 = .ok (.if_icmp .ge 7, 3) := by decide +kernel
theorem dX12_isAhead_93 : decode cX12_isAhead 93 = .ok (.iconst 1, 1) := by decide +kernel
theorem dX12_isAhead_94 : decode cX12_isAhead 94 = .ok (.goto 4, 3) := by decide +kernel
theorem dX12_isAhead_97 : decode cX12_isAhead 97 = .ok (.iconst 0, 1) := by decide +kernel
theorem dX12_isAhead_98 : decode cX12_isAhead 98 = .ok (.ireturn, 1) := by decide +kernel
theorem dX12_isAhead_99 : decode cX12_isAhead 99 = .ok (.aload_n 0, 1) := by decide +kernel
theorem dX12_isAhead_100 : decode cX12_isAhead 100 = .ok (.getfield 29, 3) := by decide +kernel
theorem dX12_isAhead_103 : decode cX12_isAhead 103 = .ok (.iload_n 1, 1) := by decide +kernel
theorem dX12_isAhead_104 : decode cX12_isAhead 104 = .ok (.iaload, 1) := by decide +kernel
theorem dX12_isAhead_105 : decode cX12_isAhead 105 = .ok (.aload_n 0, 1) := by decide +kernel
theorem dX12_isAhead_106 : decode cX12_isAhead 106 = .ok (.getfield 29, 3) := by decide +kernel
theorem dX12_isAhead_109 : decode cX12_isAhead 109 = .ok (.iload_n 2, 1) := by decide +kernel
theorem dX12_isAhead_110 : decode cX12_isAhead 110 = .ok (.iaload, 1) := by decide +kernel
theorem dX12_isAhead_111 : decode cX12_isAhead 111 = .ok (.if_icmp .eq 24, 3) := by decide +kernel
theorem dX12_isAhead_114 : decode cX12_isAhead 114 = .ok (.aload_n 0, 1) := by decide +kernel
theorem dX12_isAhead_115 : decode cX12_isAhead 115 = .ok (.getfield 29, 3) := by decide +kernel
theorem dX12_isAhead_118 : decode cX12_isAhead 118 = .ok (.iload_n 1, 1) := by decide +kernel
theorem dX12_isAhead_119 : decode cX12_isAhead 119 = .ok (.iaload, 1) := by decide +kernel
theorem dX12_isAhead_120 : decode cX12_isAhead 120 = .ok (.aload_n 0, 1) := by decide +kernel
theorem dX12_isAhead_121 : decode cX12_isAhead 121 = .ok (.getfield 29, 3) := by decide +kernel
theorem dX12_isAhead_124 : decode cX12_isAhead 124 = .ok (.iload_n 2, 1) := by decide +kernel
theorem dX12_isAhead_125 : decode cX12_isAhead 125 = .ok (.iaload, 1) := by decide +kernel
theorem dX12_isAhead_126 : decode cX12_isAhead 126 = .ok (.if_icmp .ge 7, 3) := by decide +kernel
theorem dX12_isAhead_129 : decode cX12_isAhead 129 = .ok (.iconst 1, 1) := by decide +kernel
theorem dX12_isAhead_130 : decode cX12_isAhead 130 = .ok (.goto 4, 3) := by decide +kernel
theorem dX12_isAhead_133 : decode cX12_isAhead 133 = .ok (.iconst 0, 1) := by decide +kernel
theorem dX12_isAhead_134 : decode cX12_isAhead 134 = .ok (.ireturn, 1) := by decide +kernel
theorem dX12_isAhead_135 : decode cX12_isAhead 135 = .ok (.aload_n 0, 1) := by decide +kernel
theorem dX12_isAhead_136 : decode cX12_isAhead 136 = .ok (.getfield 19, 3) := by decide +kernel
theorem dX12_isAhead_139 : decode cX12_isAhead 139 = .ok (.iload_n 1, 1) := by decide +kernel
theorem dX12_isAhead_140 : decode cX12_isAhead 140 = .ok (.iaload, 1) := by decide +kernel
theorem dX12_isAhead_141 : decode cX12_isAhead 141 = .ok (.aload_n 0, 1) := by decide +kernel
theorem dX12_isAhead_142 : decode cX12_isAhead 142 = .ok (.getfield 19, 3) := by decide +kernel
theorem dX12_isAhead_145 : decode cX12_isAhead 145 = .ok (.iload_n 2, 1) := by decide +kernel
theorem dX12_isAhead_146 : decode cX12_isAhead 146 = .ok (.iaload, 1) := by decide +kernel
theorem dX12_isAhead_147 : decode cX12_isAhead 147 = .ok (.if_icmp .eq 26, 3) := by decide +kernel
theorem dX12_isAhead_150 : decode cX12_isAhead 150 = .ok (.aload_n 0, 1) := by decide +kernel
theorem dX12_isAhead_151 : decode cX12_isAhead 151 = .ok (.getfield 19, 3) := by decide +kernel
theorem dX12_isAhead_154 : decode cX12_isAhead 154 = .ok (.iload_n 1, 1) := by decide +kernel
theorem dX12_isAhead_155 : decode cX12_isAhead 155 = .ok (.iaload, 1) := by decide +kernel
theorem dX12_isAhead_156 : decode cX12_isAhead 156 = .ok (.aload_n 0, 1) := by decide +kernel
theorem dX12_isAhead_157 : decode cX12_isAhead 157 = .ok (.getfield 19, 3) := by decide +kernel
theorem dX12_isAhead_160 : decode cX12_isAhead 160 = .ok (.iload_n 2, 1) := by decide +kernel
theorem dX12_isAhead_161 : decode cX12_isAhead 161 = .ok (.iaload, 1) := by decide +kernel
theorem dX12_isAhead_162 : decode cX12_isAhead 162 = .ok (.if_icmp .ge 7, 3) := by decide +kernel
theorem dX12_isAhead_165 : decode cX12_isAhead 165 = .ok (.iconst 1, 1) := by decide +kernel
theorem dX12_isAhead_166 : decode cX12_isAhead 166 = .ok (.goto 17, 3) := by decide +kernel
theorem dX12_isAhead_169 : decode cX12_isAhead 169 = .ok (.iconst 0, 1) := by decide +kernel
theorem dX12_isAhead_170 : decode cX12_isAhead 170 = .ok (.goto 13, 3) := by decide +kernel
theorem dX12_isAhead_173 : decode cX12_isAhead 173 = .ok (.iload_n 1, 1) := by decide +kernel
theorem dX12_isAhead_174 : decode cX12_isAhead 174 = .ok (.iload_n 2, 1) := by decide +kernel
theorem dX12_isAhead_175 : decode cX12_isAhead 175 = .ok (.if_icmp .ge 7, 3) := by decide +kernel
theorem dX12_isAhead_178 : decode cX12_isAhead 178 = .ok (.iconst 1, 1) := by decide +kernel
theorem dX12_isAhead_179 : decode cX12_isAhead 179 = .ok (.goto 4, 3) := by decide +kernel
theorem dX12_isAhead_182 : decode cX12_isAhead 182 = .ok (.iconst 0, 1) := by decide +kernel
theorem dX12_isAhead_183 : decode cX12_isAhead 183 = .ok (.ireturn, 1) := by decide +kernel
set_option maxHeartbeats 4000000 in
set_option maxRecDepth 100000 in
theorem sX12_isAhead (l : Launch) (dC : Nat → ClassId) (dI : Nat → Nat → Nat) (h0 : Nat) (mi : Nat → Int32) (mr : Nat → Nat) (km_reportPlace : ClassId) (fm_reportPlace : Nat → Int32) (km_reportMonth : ClassId) (fm_reportMonth : Nat → Int32) (km_reportDay : ClassId) (fm_reportDay : Nat → Int32) (km_reportKind : ClassId) (fm_reportKind : Nat → Int32) (km_trust : ClassId) (fm_trust : Nat → Int32) (km_letter : ClassId) (fm_letter : Nat → Int32) (p1 : Int32) (p2 : Int32) (gmi_0 : gi (mi 0) 0 24) (gmi_1 : gi (mi 1) 0 5) (gmi_2 : gi (mi 2) 0 5) (gmi_4 : gi (mi 4) 0 1) (gmi_7 : gi (mi 7) 0 6) (gmi_10 : gi (mi 10) 0 24) (gmi_17 : gi (mi 17) 0 8) (gmi_23 : gi (mi 23) 0 300) (gmi_24 : gi (mi 24) 0 1) (gmi_26 : gi (mi 26) 0 1600) (gmi_29 : gi (mi 29) 0 1600) (gmi_30 : gi (mi 30) 0 1600) (gmi_33 : gi (mi 33) 0 1) (gmi_37 : gi (mi 37) 0 1) (gmi_41 : gi (mi 41) 0 24) (gmi_50 : gi (mi 50) 0 1) (gmi_51 : gi (mi 51) 0 1) (gmi_56 : gi (mi 56) 0 80) (gfm_reportPlace : ga fm_reportPlace 24 0 5) (gfm_reportMonth : ga fm_reportMonth 24 0 23) (gfm_reportDay : ga fm_reportDay 24 0 999) (gp1 : gi p1 0 23) (gp2 : gi p2 0 23) : Met l yX12_isAhead (.code yX12_isAhead cX12_isAhead 5 (some .boolean) :: wsGB) ({ frames := 1, cells := 0, slots := 0, locals := 25 }) (va_Pc [.ref h0, .int p1, .int p2] (fun U => va_P (dC, dI) vwCl [(h0, .inr (12, fsMM mi mr)), ((mr 2), .inl (km_reportPlace, 24, .inl fm_reportPlace)), ((mr 5), .inl (km_reportMonth, 24, .inl fm_reportMonth)), ((mr 6), .inl (km_reportDay, 24, .inl fm_reportDay)), ((mr 3), .inl (km_reportKind, 24, .inl fm_reportKind)), ((mr 0), .inl (km_trust, 6, .inl fm_trust)), ((mr 1), .inl (km_letter, 36, .inl fm_letter))] U.heap ∧ va_K (dC, dI) vwCl [(km_reportPlace, .int), (km_reportMonth, .int), (km_reportDay, .int), (km_reportKind, .int), (km_trust, .int), (km_letter, .int)] U)) (va_Qi (fun (r : Int32) (u : Unit) => gi r 0 1) (fun _ _ => True) (fun _ => False)) 0 0 (fun _ => False) := by
  refine Met.ofW (cc := cX12_isAhead) (maxL := 5) (ret := (some .boolean)) (by decide) rfl ?_
  intro p e s m args below meth c s₁ B hml hv
  obtain ⟨rfl, hP, hK⟩ := hv
  have hx := B.exec
  have hb := B.bytes
  have hr := B.returns
  have hts := atoms_spec (ws := (.code yX12_isAhead cX12_isAhead 5 (some .boolean) :: wsGB)) B.pre
  have hown : s.vm.findClass RX12 = some m.cls := findClass_of_methodNamed B.named
  have hlocks := B.notSynchronized
  have hS : va_S (fun _ => False) s.heap s.heap [] := va_S.rf
  have hl := lv_entry ([.ref h0, .int p1, .int p2]) (n := 5) (Nat.le_of_ble_eq_true rfl)
  rw [lg_entry_eq]
  generalize (lg_sl ([.ref h0, .int p1, .int p2]) ++ List.replicate (5 - (lg_sl ([.ref h0, .int p1, .int p2])).length) Slot.unset).toArray = ls at hl ⊢
  have hl : lv_has ls 5 [(0, .ref h0), (1, .int p1), (2, .int p2)] := hl
  refine lv_aload_n hx hb dX12_isAhead_0 rfl (lv_at hl 0 rfl) ?_
  refine va_get (D := (dC, dI)) (ci := 12) (v := .ref (mr 2)) (C := RX12) (T := TX12) (N := 57) hx hb hts (fun w h => List.mem_cons_of_mem _ (jnGB_X12 w h)) hown hK hP 0 rfl rfl 11 (by decide) (hts _ (List.mem_cons_of_mem _ mGB_12)) (fun _ h9 => h9) rfl dX12_isAhead_1 ?_
  refine lv_iload_n hx hb dX12_isAhead_4 rfl (lv_at hl 1 rfl) ?_
  refine va_iald hx hb hK hP 1 0 rfl rfl (gi_in gp1 (by decide)) dX12_isAhead_5 ?_
  refine lv_topi (fun x_40 ex_40 => ?_)
  have gx_40 : gi x_40 0 5 := ga_at gfm_reportPlace (gi_in gp1 (by decide)) ex_40
  refine lv_istore_n (lv' := [(3, .int x_40), (0, .ref h0), (1, .int p1), (2, .int p2)]) hx hb dX12_isAhead_6 rfl hl (by decide) rfl (fun ls hl => ?_)
  refine lv_aload_n hx hb dX12_isAhead_7 rfl (lv_at hl 1 rfl) ?_
  refine va_get (D := (dC, dI)) (ci := 12) (v := .ref (mr 2)) (C := RX12) (T := TX12) (N := 57) hx hb hts (fun w h => List.mem_cons_of_mem _ (jnGB_X12 w h)) hown hK hP 0 rfl rfl 11 (by decide) (hts _ (List.mem_cons_of_mem _ mGB_12)) (fun _ h9 => h9) rfl dX12_isAhead_8 ?_
  refine lv_iload_n hx hb dX12_isAhead_11 rfl (lv_at hl 3 rfl) ?_
  refine va_iald hx hb hK hP 1 0 rfl rfl (gi_in gp2 (by decide)) dX12_isAhead_12 ?_
  refine lv_topi (fun x_41 ex_41 => ?_)
  have gx_41 : gi x_41 0 5 := ga_at gfm_reportPlace (gi_in gp2 (by decide)) ex_41
  refine lv_istore (lv' := [(4, .int x_41), (3, .int x_40), (0, .ref h0), (1, .int p1), (2, .int p2)]) hx hb dX12_isAhead_13 hl (by decide) rfl (fun ls hl => ?_)
  refine lv_aload_n hx hb dX12_isAhead_15 rfl (lv_at hl 2 rfl) ?_
  refine lv_iload_n hx hb dX12_isAhead_16 rfl (lv_at hl 1 rfl) ?_
  have hPc := hP.sub (ws' := [(h0, .inr (12, fsMM mi mr)), ((mr 0), .inl (km_trust, 6, .inl fm_trust))]) [0, 5] rfl
  have hKc := hK.sub (tys' := [(km_trust, .int)]) [4] rfl
  refine va_calli (va_runV (As := [.int x_40]) (rest := []) ⟨hx, hb, hml, hown, hts⟩ (sX12_trustOf l dC dI h0 mi mr km_trust fm_trust x_40 gmi_0 gmi_1 gmi_2 gmi_4 gmi_7 gmi_10 gmi_17 gmi_23 gmi_24 gmi_26 gmi_29 gmi_30 gmi_33 gmi_37 gmi_41 gmi_50 gmi_51 gmi_56 gx_40) (cwV 1 hts (gz_gV mGB_287 mGB_288 mGB_289 mGB_1 mGB_290 goodGB) rfl rfl rfl (by decide +kernel) ⟨Nat.le_of_ble_eq_true rfl, Nat.le_of_ble_eq_true rfl⟩) ⟨fun a U g mk q => by obtain ⟨q0, qP, qK⟩ := q; exact ⟨q0, qP, va_K.moved (u := U) (U := U.calling g mk a) (Vm.Alike.refl U.vm) qK⟩, va_recv hKc hPc (ci := 12) (q0 := 0) rfl rfl, fun U hU hW => ⟨rfl, by rw [hU]; exact hPc, va_K.moved hW.alike hKc⟩⟩ rfl rfl hl.1 rfl (lv_room (Nat.le_of_ble_eq_true rfl)) dX12_isAhead_17 ⟨Nat.zero_le _, Nat.zero_le _⟩) hS (fun q _ h => h.elim) (fun q h => h.elim) (fun r_42 u t H1 locs ht hvm hw hB hz1 hk1 hS => ?_)
  have hP := gz_keep hP hk1
  generalize H1 = H at hP hS ⊢
  refine lv_aload_n hx hb dX12_isAhead_20 rfl (lv_at hl 2 rfl) ?_
  refine lv_iload hx hb dX12_isAhead_21 (lv_at hl 0 rfl) ?_
  have hPc := hP.sub (ws' := [(h0, .inr (12, fsMM mi mr)), ((mr 0), .inl (km_trust, 6, .inl fm_trust))]) [0, 5] rfl
  have hKc := hK.sub (tys' := [(km_trust, .int)]) [4] rfl
  refine va_calli (va_runV (As := [.int x_41]) (rest := [.int r_42]) ⟨hx, hb, hml, hown, hts⟩ (sX12_trustOf l dC dI h0 mi mr km_trust fm_trust x_41 gmi_0 gmi_1 gmi_2 gmi_4 gmi_7 gmi_10 gmi_17 gmi_23 gmi_24 gmi_26 gmi_29 gmi_30 gmi_33 gmi_37 gmi_41 gmi_50 gmi_51 gmi_56 gx_41) (cwV 1 hts (gz_gV mGB_287 mGB_288 mGB_289 mGB_1 mGB_290 goodGB) rfl rfl rfl (by decide +kernel) ⟨Nat.le_of_ble_eq_true rfl, Nat.le_of_ble_eq_true rfl⟩) ⟨fun a U g mk q => by obtain ⟨q0, qP, qK⟩ := q; exact ⟨q0, qP, va_K.moved (u := U) (U := U.calling g mk a) (Vm.Alike.refl U.vm) qK⟩, va_recv hKc hPc (ci := 12) (q0 := 0) rfl rfl, fun U hU hW => ⟨rfl, by rw [hU]; exact hPc, va_K.moved hW.alike hKc⟩⟩ rfl rfl hl.1 rfl (lv_room (Nat.le_of_ble_eq_true rfl)) dX12_isAhead_23 ⟨Nat.zero_le _, Nat.zero_le _⟩) hS (fun q _ h => h.elim) (fun q h => h.elim) (fun r_43 u t H1 locs ht hvm hw hB hz1 hk1 hS => ?_)
  have hP := gz_keep hP hk1
  generalize H1 = H at hP hS ⊢
  refine lv_icmp_eq (tgt := 49) hx hb dX12_isAhead_26 (by decide) (fun c_44 => ?_) (fun c_44 => ?_)
  · refine lv_iload_n hx hb dX12_isAhead_49 rfl (lv_at hl 1 rfl) ?_
    refine lv_iload hx hb dX12_isAhead_50 (lv_at hl 0 rfl) ?_
    refine lv_icmp_eq (tgt := 63) hx hb dX12_isAhead_52 (by decide) (fun c_45 => ?_) (fun c_45 => ?_)
    · refine lv_aload_n hx hb dX12_isAhead_63 rfl (lv_at hl 2 rfl) ?_
      refine va_get (D := (dC, dI)) (ci := 12) (v := .ref (mr 5)) (C := RX12) (T := TX12) (N := 57) hx hb hts (fun w h => List.mem_cons_of_mem _ (jnGB_X12 w h)) hown hK hP 0 rfl rfl 14 (by decide) (hts _ (List.mem_cons_of_mem _ mGB_16)) (fun _ h9 => h9) rfl dX12_isAhead_64 ?_
      refine lv_iload_n hx hb dX12_isAhead_67 rfl (lv_at hl 3 rfl) ?_
      refine va_iald hx hb hK hP 2 1 rfl rfl (gi_in gp1 (by decide)) dX12_isAhead_68 ?_
      refine lv_topi (fun x_46 ex_46 => ?_)
      have gx_46 : gi x_46 0 23 := ga_at gfm_reportMonth (gi_in gp1 (by decide)) ex_46
      refine lv_aload_n hx hb dX12_isAhead_69 rfl (lv_at hl 2 rfl) ?_
      refine va_get (D := (dC, dI)) (ci := 12) (v := .ref (mr 5)) (C := RX12) (T := TX12) (N := 57) hx hb hts (fun w h => List.mem_cons_of_mem _ (jnGB_X12 w h)) hown hK hP 0 rfl rfl 14 (by decide) (hts _ (List.mem_cons_of_mem _ mGB_16)) (fun _ h9 => h9) rfl dX12_isAhead_70 ?_
      refine lv_iload_n hx hb dX12_isAhead_73 rfl (lv_at hl 4 rfl) ?_
      refine va_iald hx hb hK hP 2 1 rfl rfl (gi_in gp2 (by decide)) dX12_isAhead_74 ?_
      refine lv_topi (fun x_47 ex_47 => ?_)
      have gx_47 : gi x_47 0 23 := ga_at gfm_reportMonth (gi_in gp2 (by decide)) ex_47
      refine lv_icmp_eq (tgt := 99) hx hb dX12_isAhead_75 (by decide) (fun c_48 => ?_) (fun c_48 => ?_)
      · refine lv_aload_n hx hb dX12_isAhead_99 rfl (lv_at hl 2 rfl) ?_
        refine va_get (D := (dC, dI)) (ci := 12) (v := .ref (mr 6)) (C := RX12) (T := TX12) (N := 57) hx hb hts (fun w h => List.mem_cons_of_mem _ (jnGB_X12 w h)) hown hK hP 0 rfl rfl 15 (by decide) (hts _ (List.mem_cons_of_mem _ mGB_17)) (fun _ h9 => h9) rfl dX12_isAhead_100 ?_
        refine lv_iload_n hx hb dX12_isAhead_103 rfl (lv_at hl 3 rfl) ?_
        refine va_iald hx hb hK hP 3 2 rfl rfl (gi_in gp1 (by decide)) dX12_isAhead_104 ?_
        refine lv_topi (fun x_49 ex_49 => ?_)
        have gx_49 : gi x_49 0 999 := ga_at gfm_reportDay (gi_in gp1 (by decide)) ex_49
        refine lv_aload_n hx hb dX12_isAhead_105 rfl (lv_at hl 2 rfl) ?_
        refine va_get (D := (dC, dI)) (ci := 12) (v := .ref (mr 6)) (C := RX12) (T := TX12) (N := 57) hx hb hts (fun w h => List.mem_cons_of_mem _ (jnGB_X12 w h)) hown hK hP 0 rfl rfl 15 (by decide) (hts _ (List.mem_cons_of_mem _ mGB_17)) (fun _ h9 => h9) rfl dX12_isAhead_106 ?_
        refine lv_iload_n hx hb dX12_isAhead_109 rfl (lv_at hl 4 rfl) ?_
        refine va_iald hx hb hK hP 3 2 rfl rfl (gi_in gp2 (by decide)) dX12_isAhead_110 ?_
        refine lv_topi (fun x_50 ex_50 => ?_)
        have gx_50 : gi x_50 0 999 := ga_at gfm_reportDay (gi_in gp2 (by decide)) ex_50
        refine lv_icmp_eq (tgt := 135) hx hb dX12_isAhead_111 (by decide) (fun c_51 => ?_) (fun c_51 => ?_)
        · refine lv_aload_n hx hb dX12_isAhead_135 rfl (lv_at hl 2 rfl) ?_
          refine va_get (D := (dC, dI)) (ci := 12) (v := .ref (mr 3)) (C := RX12) (T := TX12) (N := 57) hx hb hts (fun w h => List.mem_cons_of_mem _ (jnGB_X12 w h)) hown hK hP 0 rfl rfl 12 (by decide) (hts _ (List.mem_cons_of_mem _ mGB_13)) (fun _ h9 => h9) rfl dX12_isAhead_136 ?_
          refine lv_iload_n hx hb dX12_isAhead_139 rfl (lv_at hl 3 rfl) ?_
          refine va_iald hx hb hK hP 4 3 rfl rfl (gi_in gp1 (by decide)) dX12_isAhead_140 ?_
          refine lv_topi (fun x_52 ex_52 => ?_)
          refine lv_aload_n hx hb dX12_isAhead_141 rfl (lv_at hl 2 rfl) ?_
          refine va_get (D := (dC, dI)) (ci := 12) (v := .ref (mr 3)) (C := RX12) (T := TX12) (N := 57) hx hb hts (fun w h => List.mem_cons_of_mem _ (jnGB_X12 w h)) hown hK hP 0 rfl rfl 12 (by decide) (hts _ (List.mem_cons_of_mem _ mGB_13)) (fun _ h9 => h9) rfl dX12_isAhead_142 ?_
          refine lv_iload_n hx hb dX12_isAhead_145 rfl (lv_at hl 4 rfl) ?_
          refine va_iald hx hb hK hP 4 3 rfl rfl (gi_in gp2 (by decide)) dX12_isAhead_146 ?_
          refine lv_topi (fun x_53 ex_53 => ?_)
          refine lv_icmp_eq (tgt := 173) hx hb dX12_isAhead_147 (by decide) (fun c_54 => ?_) (fun c_54 => ?_)
          · refine lv_iload_n hx hb dX12_isAhead_173 rfl (lv_at hl 3 rfl) ?_
            refine lv_iload_n hx hb dX12_isAhead_174 rfl (lv_at hl 4 rfl) ?_
            refine lv_icmp_ge (tgt := 182) hx hb dX12_isAhead_175 (by decide) (fun c_55 => ?_) (fun c_55 => ?_)
            · refine lv_iconst (v := 0) hx hb dX12_isAhead_182 (by decide) ?_
              exact W.zret (v := 0) hx hb hr (by decide) (fun t ht hW => ⟨⟨0, (), rfl, (gi_w (gi_c 0 0 (by decide)) (by decide)), trivial⟩, hS.F ht⟩) hS.2.2 dX12_isAhead_183
            · have g_56 : gi p1 0 22 := gi_lt_l (Int32.not_le.mp c_55) gp1 gp2 (by decide)
              have g_57 : gi p2 1 23 := gi_lt_r (Int32.not_le.mp c_55) gp1 gp2 (by decide)
              refine lv_iconst (v := 1) hx hb dX12_isAhead_178 (by decide) ?_
              refine lv_goto (tgt := 183) hx hb dX12_isAhead_179 (by decide) ?_
              exact W.zret (v := 1) hx hb hr (by decide) (fun t ht hW => ⟨⟨1, (), rfl, (gi_w (gi_c 1 1 (by decide)) (by decide)), trivial⟩, hS.F ht⟩) hS.2.2 dX12_isAhead_183
          · refine lv_aload_n hx hb dX12_isAhead_150 rfl (lv_at hl 2 rfl) ?_
            refine va_get (D := (dC, dI)) (ci := 12) (v := .ref (mr 3)) (C := RX12) (T := TX12) (N := 57) hx hb hts (fun w h => List.mem_cons_of_mem _ (jnGB_X12 w h)) hown hK hP 0 rfl rfl 12 (by decide) (hts _ (List.mem_cons_of_mem _ mGB_13)) (fun _ h9 => h9) rfl dX12_isAhead_151 ?_
            refine lv_iload_n hx hb dX12_isAhead_154 rfl (lv_at hl 3 rfl) ?_
            refine va_iald hx hb hK hP 4 3 rfl rfl (gi_in gp1 (by decide)) dX12_isAhead_155 ?_
            refine lv_topi (fun x_58 ex_58 => ?_)
            refine lv_aload_n hx hb dX12_isAhead_156 rfl (lv_at hl 2 rfl) ?_
            refine va_get (D := (dC, dI)) (ci := 12) (v := .ref (mr 3)) (C := RX12) (T := TX12) (N := 57) hx hb hts (fun w h => List.mem_cons_of_mem _ (jnGB_X12 w h)) hown hK hP 0 rfl rfl 12 (by decide) (hts _ (List.mem_cons_of_mem _ mGB_13)) (fun _ h9 => h9) rfl dX12_isAhead_157 ?_
            refine lv_iload_n hx hb dX12_isAhead_160 rfl (lv_at hl 4 rfl) ?_
            refine va_iald hx hb hK hP 4 3 rfl rfl (gi_in gp2 (by decide)) dX12_isAhead_161 ?_
            refine lv_topi (fun x_59 ex_59 => ?_)
            refine lv_icmp_ge (tgt := 169) hx hb dX12_isAhead_162 (by decide) (fun c_60 => ?_) (fun c_60 => ?_)
            · refine lv_iconst (v := 0) hx hb dX12_isAhead_169 (by decide) ?_
              refine lv_goto (tgt := 183) hx hb dX12_isAhead_170 (by decide) ?_
              exact W.zret (v := 0) hx hb hr (by decide) (fun t ht hW => ⟨⟨0, (), rfl, (gi_w (gi_c 0 0 (by decide)) (by decide)), trivial⟩, hS.F ht⟩) hS.2.2 dX12_isAhead_183
            · have g_61 : gi x_58 (-2147483648) 2147483646 := gi_lt_l (Int32.not_le.mp c_60) (gi_any x_58) (gi_any x_59) (by decide)
              have g_62 : gi x_59 (-2147483647) 2147483647 := gi_lt_r (Int32.not_le.mp c_60) (gi_any x_58) (gi_any x_59) (by decide)
              refine lv_iconst (v := 1) hx hb dX12_isAhead_165 (by decide) ?_
              refine lv_goto (tgt := 183) hx hb dX12_isAhead_166 (by decide) ?_
              exact W.zret (v := 1) hx hb hr (by decide) (fun t ht hW => ⟨⟨1, (), rfl, (gi_w (gi_c 1 1 (by decide)) (by decide)), trivial⟩, hS.F ht⟩) hS.2.2 dX12_isAhead_183
        · refine lv_aload_n hx hb dX12_isAhead_114 rfl (lv_at hl 2 rfl) ?_
          refine va_get (D := (dC, dI)) (ci := 12) (v := .ref (mr 6)) (C := RX12) (T := TX12) (N := 57) hx hb hts (fun w h => List.mem_cons_of_mem _ (jnGB_X12 w h)) hown hK hP 0 rfl rfl 15 (by decide) (hts _ (List.mem_cons_of_mem _ mGB_17)) (fun _ h9 => h9) rfl dX12_isAhead_115 ?_
          refine lv_iload_n hx hb dX12_isAhead_118 rfl (lv_at hl 3 rfl) ?_
          refine va_iald hx hb hK hP 3 2 rfl rfl (gi_in gp1 (by decide)) dX12_isAhead_119 ?_
          refine lv_topi (fun x_63 ex_63 => ?_)
          have gx_63 : gi x_63 0 999 := ga_at gfm_reportDay (gi_in gp1 (by decide)) ex_63
          refine lv_aload_n hx hb dX12_isAhead_120 rfl (lv_at hl 2 rfl) ?_
          refine va_get (D := (dC, dI)) (ci := 12) (v := .ref (mr 6)) (C := RX12) (T := TX12) (N := 57) hx hb hts (fun w h => List.mem_cons_of_mem _ (jnGB_X12 w h)) hown hK hP 0 rfl rfl 15 (by decide) (hts _ (List.mem_cons_of_mem _ mGB_17)) (fun _ h9 => h9) rfl dX12_isAhead_121 ?_
          refine lv_iload_n hx hb dX12_isAhead_124 rfl (lv_at hl 4 rfl) ?_
          refine va_iald hx hb hK hP 3 2 rfl rfl (gi_in gp2 (by decide)) dX12_isAhead_125 ?_
          refine lv_topi (fun x_64 ex_64 => ?_)
          have gx_64 : gi x_64 0 999 := ga_at gfm_reportDay (gi_in gp2 (by decide)) ex_64
          refine lv_icmp_ge (tgt := 133) hx hb dX12_isAhead_126 (by decide) (fun c_65 => ?_) (fun c_65 => ?_)
          · refine lv_iconst (v := 0) hx hb dX12_isAhead_133 (by decide) ?_
            exact W.zret (v := 0) hx hb hr (by decide) (fun t ht hW => ⟨⟨0, (), rfl, (gi_w (gi_c 0 0 (by decide)) (by decide)), trivial⟩, hS.F ht⟩) hS.2.2 dX12_isAhead_134
          · have g_66 : gi x_63 0 998 := gi_lt_l (Int32.not_le.mp c_65) gx_63 gx_64 (by decide)
            have g_67 : gi x_64 1 999 := gi_lt_r (Int32.not_le.mp c_65) gx_63 gx_64 (by decide)
            refine lv_iconst (v := 1) hx hb dX12_isAhead_129 (by decide) ?_
            refine lv_goto (tgt := 134) hx hb dX12_isAhead_130 (by decide) ?_
            exact W.zret (v := 1) hx hb hr (by decide) (fun t ht hW => ⟨⟨1, (), rfl, (gi_w (gi_c 1 1 (by decide)) (by decide)), trivial⟩, hS.F ht⟩) hS.2.2 dX12_isAhead_134
      · refine lv_aload_n hx hb dX12_isAhead_78 rfl (lv_at hl 2 rfl) ?_
        refine va_get (D := (dC, dI)) (ci := 12) (v := .ref (mr 5)) (C := RX12) (T := TX12) (N := 57) hx hb hts (fun w h => List.mem_cons_of_mem _ (jnGB_X12 w h)) hown hK hP 0 rfl rfl 14 (by decide) (hts _ (List.mem_cons_of_mem _ mGB_16)) (fun _ h9 => h9) rfl dX12_isAhead_79 ?_
        refine lv_iload_n hx hb dX12_isAhead_82 rfl (lv_at hl 3 rfl) ?_
        refine va_iald hx hb hK hP 2 1 rfl rfl (gi_in gp1 (by decide)) dX12_isAhead_83 ?_
        refine lv_topi (fun x_68 ex_68 => ?_)
        have gx_68 : gi x_68 0 23 := ga_at gfm_reportMonth (gi_in gp1 (by decide)) ex_68
        refine lv_aload_n hx hb dX12_isAhead_84 rfl (lv_at hl 2 rfl) ?_
        refine va_get (D := (dC, dI)) (ci := 12) (v := .ref (mr 5)) (C := RX12) (T := TX12) (N := 57) hx hb hts (fun w h => List.mem_cons_of_mem _ (jnGB_X12 w h)) hown hK hP 0 rfl rfl 14 (by decide) (hts _ (List.mem_cons_of_mem _ mGB_16)) (fun _ h9 => h9) rfl dX12_isAhead_85 ?_
        refine lv_iload_n hx hb dX12_isAhead_88 rfl (lv_at hl 4 rfl) ?_
        refine va_iald hx hb hK hP 2 1 rfl rfl (gi_in gp2 (by decide)) dX12_isAhead_89 ?_
        refine lv_topi (fun x_69 ex_69 => ?_)
        have gx_69 : gi x_69 0 23 := ga_at gfm_reportMonth (gi_in gp2 (by decide)) ex_69
        refine lv_icmp_ge (tgt := 97) hx hb dX12_isAhead_90 (by decide) (fun c_70 => ?_) (fun c_70 => ?_)
        · refine lv_iconst (v := 0) hx hb dX12_isAhead_97 (by decide) ?_
          exact W.zret (v := 0) hx hb hr (by decide) (fun t ht hW => ⟨⟨0, (), rfl, (gi_w (gi_c 0 0 (by decide)) (by decide)), trivial⟩, hS.F ht⟩) hS.2.2 dX12_isAhead_98
        · have g_71 : gi x_68 0 22 := gi_lt_l (Int32.not_le.mp c_70) gx_68 gx_69 (by decide)
          have g_72 : gi x_69 1 23 := gi_lt_r (Int32.not_le.mp c_70) gx_68 gx_69 (by decide)
          refine lv_iconst (v := 1) hx hb dX12_isAhead_93 (by decide) ?_
          refine lv_goto (tgt := 98) hx hb dX12_isAhead_94 (by decide) ?_
          exact W.zret (v := 1) hx hb hr (by decide) (fun t ht hW => ⟨⟨1, (), rfl, (gi_w (gi_c 1 1 (by decide)) (by decide)), trivial⟩, hS.F ht⟩) hS.2.2 dX12_isAhead_98
    · refine lv_aload_n hx hb dX12_isAhead_55 rfl (lv_at hl 2 rfl) ?_
      refine lv_iload_n hx hb dX12_isAhead_56 rfl (lv_at hl 1 rfl) ?_
      refine lv_iload hx hb dX12_isAhead_57 (lv_at hl 0 rfl) ?_
      have hPc := hP.sub (ws' := [(h0, .inr (12, fsMM mi mr)), ((mr 1), .inl (km_letter, 36, .inl fm_letter))]) [0, 6] rfl
      have hKc := hK.sub (tys' := [(km_letter, .int)]) [5] rfl
      refine va_calli (va_runV (As := [.int x_40, .int x_41]) (rest := []) ⟨hx, hb, hml, hown, hts⟩ (sX12_isNameAhead l dC dI h0 mi mr km_letter fm_letter x_40 x_41 gmi_0 gmi_1 gmi_2 gmi_4 gmi_7 gmi_10 gmi_17 gmi_23 gmi_24 gmi_26 gmi_29 gmi_30 gmi_33 gmi_37 gmi_41 gmi_50 gmi_51 gmi_56 gx_40 gx_41) (cwV 2 hts (gz_gV mGB_228 mGB_229 mGB_230 mGB_1 mGB_231 goodGB) rfl rfl rfl (by decide +kernel) ⟨Nat.le_of_ble_eq_true rfl, Nat.le_of_ble_eq_true rfl⟩) ⟨fun a U g mk q => by obtain ⟨q0, qP, qK⟩ := q; exact ⟨q0, qP, va_K.moved (u := U) (U := U.calling g mk a) (Vm.Alike.refl U.vm) qK⟩, va_recv hKc hPc (ci := 12) (q0 := 0) rfl rfl, fun U hU hW => ⟨rfl, by rw [hU]; exact hPc, va_K.moved hW.alike hKc⟩⟩ rfl rfl hl.1 rfl (lv_room (Nat.le_of_ble_eq_true rfl)) dX12_isAhead_59 ⟨Nat.zero_le _, Nat.zero_le _⟩) hS (fun q _ h => h.elim) (fun q h => h.elim) (fun r_73 u t H1 locs ht hvm hw hB hz1 hk1 hS => ?_)
      have hP := gz_keep hP hk1
      generalize H1 = H at hP hS ⊢
      have gr_73 : gi r_73 0 1 := hw
      exact W.zret (v := r_73) hx hb hr (gz_nb gr_73) (fun t ht hW => ⟨⟨r_73, (), rfl, gr_73, trivial⟩, hS.F ht⟩) hS.2.2 dX12_isAhead_62
  · refine lv_aload_n hx hb dX12_isAhead_29 rfl (lv_at hl 2 rfl) ?_
    refine lv_iload_n hx hb dX12_isAhead_30 rfl (lv_at hl 1 rfl) ?_
    have hPc := hP.sub (ws' := [(h0, .inr (12, fsMM mi mr)), ((mr 0), .inl (km_trust, 6, .inl fm_trust))]) [0, 5] rfl
    have hKc := hK.sub (tys' := [(km_trust, .int)]) [4] rfl
    refine va_calli (va_runV (As := [.int x_40]) (rest := []) ⟨hx, hb, hml, hown, hts⟩ (sX12_trustOf l dC dI h0 mi mr km_trust fm_trust x_40 gmi_0 gmi_1 gmi_2 gmi_4 gmi_7 gmi_10 gmi_17 gmi_23 gmi_24 gmi_26 gmi_29 gmi_30 gmi_33 gmi_37 gmi_41 gmi_50 gmi_51 gmi_56 gx_40) (cwV 1 hts (gz_gV mGB_287 mGB_288 mGB_289 mGB_1 mGB_290 goodGB) rfl rfl rfl (by decide +kernel) ⟨Nat.le_of_ble_eq_true rfl, Nat.le_of_ble_eq_true rfl⟩) ⟨fun a U g mk q => by obtain ⟨q0, qP, qK⟩ := q; exact ⟨q0, qP, va_K.moved (u := U) (U := U.calling g mk a) (Vm.Alike.refl U.vm) qK⟩, va_recv hKc hPc (ci := 12) (q0 := 0) rfl rfl, fun U hU hW => ⟨rfl, by rw [hU]; exact hPc, va_K.moved hW.alike hKc⟩⟩ rfl rfl hl.1 rfl (lv_room (Nat.le_of_ble_eq_true rfl)) dX12_isAhead_31 ⟨Nat.zero_le _, Nat.zero_le _⟩) hS (fun q _ h => h.elim) (fun q h => h.elim) (fun r_74 u t H1 locs ht hvm hw hB hz1 hk1 hS => ?_)
    have hP := gz_keep hP hk1
    generalize H1 = H at hP hS ⊢
    refine lv_aload_n hx hb dX12_isAhead_34 rfl (lv_at hl 2 rfl) ?_
    refine lv_iload hx hb dX12_isAhead_35 (lv_at hl 0 rfl) ?_
    have hPc := hP.sub (ws' := [(h0, .inr (12, fsMM mi mr)), ((mr 0), .inl (km_trust, 6, .inl fm_trust))]) [0, 5] rfl
    have hKc := hK.sub (tys' := [(km_trust, .int)]) [4] rfl
    refine va_calli (va_runV (As := [.int x_41]) (rest := [.int r_74]) ⟨hx, hb, hml, hown, hts⟩ (sX12_trustOf l dC dI h0 mi mr km_trust fm_trust x_41 gmi_0 gmi_1 gmi_2 gmi_4 gmi_7 gmi_10 gmi_17 gmi_23 gmi_24 gmi_26 gmi_29 gmi_30 gmi_33 gmi_37 gmi_41 gmi_50 gmi_51 gmi_56 gx_41) (cwV 1 hts (gz_gV mGB_287 mGB_288 mGB_289 mGB_1 mGB_290 goodGB) rfl rfl rfl (by decide +kernel) ⟨Nat.le_of_ble_eq_true rfl, Nat.le_of_ble_eq_true rfl⟩) ⟨fun a U g mk q => by obtain ⟨q0, qP, qK⟩ := q; exact ⟨q0, qP, va_K.moved (u := U) (U := U.calling g mk a) (Vm.Alike.refl U.vm) qK⟩, va_recv hKc hPc (ci := 12) (q0 := 0) rfl rfl, fun U hU hW => ⟨rfl, by rw [hU]; exact hPc, va_K.moved hW.alike hKc⟩⟩ rfl rfl hl.1 rfl (lv_room (Nat.le_of_ble_eq_true rfl)) dX12_isAhead_37 ⟨Nat.zero_le _, Nat.zero_le _⟩) hS (fun q _ h => h.elim) (fun q h => h.elim) (fun r_75 u t H1 locs ht hvm hw hB hz1 hk1 hS => ?_)
    have hP := gz_keep hP hk1
    generalize H1 = H at hP hS ⊢
    refine lv_icmp_le (tgt := 47) hx hb dX12_isAhead_40 (by decide) (fun c_76 => ?_) (fun c_76 => ?_)
    · refine lv_iconst (v := 0) hx hb dX12_isAhead_47 (by decide) ?_
      exact W.zret (v := 0) hx hb hr (by decide) (fun t ht hW => ⟨⟨0, (), rfl, (gi_w (gi_c 0 0 (by decide)) (by decide)), trivial⟩, hS.F ht⟩) hS.2.2 dX12_isAhead_48
    · have g_77 : gi r_75 (-2147483648) 2147483646 := gi_lt_l (Int32.not_le.mp c_76) (gi_any r_75) (gi_any r_74) (by decide)
      have g_78 : gi r_74 (-2147483647) 2147483647 := gi_lt_r (Int32.not_le.mp c_76) (gi_any r_75) (gi_any r_74) (by decide)
      refine lv_iconst (v := 1) hx hb dX12_isAhead_43 (by decide) ?_
      refine lv_goto (tgt := 48) hx hb dX12_isAhead_44 (by decide) ?_
      exact W.zret (v := 1) hx hb hr (by decide) (fun t ht hW => ⟨⟨1, (), rfl, (gi_w (gi_c 1 1 (by decide)) (by decide)), trivial⟩, hS.F ht⟩) hS.2.2 dX12_isAhead_48
