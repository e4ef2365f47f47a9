theorem dJ0_coder_7d493_0 : decode cJ0_coder_7d493 0 = .ok (.getstatic 38, 3) := by decide +kernel
theorem dJ0_coder_7d493_3 : decode cJ0_coder_7d493 3 = .ok (.ifCond .eq 10, 3) := by decide +kernel
theorem dJ0_coder_7d493_6 : decode cJ0_coder_7d493 6 = .ok (.aload_n 0, 1) := by decide +kernel
theorem dJ0_coder_7d493_7 : decode cJ0_coder_7d493 7 = .ok (.getfield 15, 3) := by decide +kernel
theorem dJ0_coder_7d493_10 : decode cJ0_coder_7d493 10 = .ok (.goto 4, 3) := by decide +kernel
theorem dJ0_coder_7d493_13 : decode cJ0_coder_7d493 13 = .ok (.iconst 1, 1) := by decide +kernel
theorem dJ0_coder_7d493_14 : decode cJ0_coder_7d493 14 = .ok (.ireturn, 1) := by decide +kernel
theorem dJ0_isLatin1_aae02_0 : decode cJ0_isLatin1_aae02 0 = .ok (.getstatic 38, 3) := by decide +kernel
theorem dJ0_isLatin1_aae02_3 : decode cJ0_isLatin1_aae02 3 = .ok (.ifCond .eq 14, 3) := by decide +kernel
theorem dJ0_isLatin1_aae02_6 : decode cJ0_isLatin1_aae02 6 = .ok (.aload_n 0, 1) := by decide +kernel
theorem dJ0_isLatin1_aae02_7 : decode cJ0_isLatin1_aae02 7 = .ok (.getfield 15, 3) := by decide +kernel
theorem dJ0_isLatin1_aae02_10 : decode cJ0_isLatin1_aae02 10 = .ok (.ifCond .ne 7, 3) := by decide +kernel
theorem dJ0_isLatin1_aae02_13 : decode cJ0_isLatin1_aae02 13 = .ok (.iconst 1, 1) := by decide +kernel
theorem dJ0_isLatin1_aae02_14 : decode cJ0_isLatin1_aae02 14 = .ok (.goto 4, 3) := by decide +kernel
theorem dJ0_isLatin1_aae02_17 : decode cJ0_isLatin1_aae02 17 = .ok (.iconst 0, 1) := by decide +kernel
theorem dJ0_isLatin1_aae02_18 : decode cJ0_isLatin1_aae02 18 = .ok (.ireturn, 1) := by decide +kernel
theorem dJ0_length_8abf5_0 : decode cJ0_length_8abf5 0 = .ok (.aload_n 0, 1) := by decide +kernel
theorem dJ0_length_8abf5_1 : decode cJ0_length_8abf5 1 = .ok (.getfield 9, 3) := by decide +kernel
theorem dJ0_length_8abf5_4 : decode cJ0_length_8abf5 4 = .ok (.arraylength, 1) := by decide +kernel
theorem dJ0_length_8abf5_5 : decode cJ0_length_8abf5 5 = .ok (.aload_n 0, 1) := by decide +kernel
theorem dJ0_length_8abf5_6 : decode cJ0_length_8abf5 6 = .ok (.invokevirtual 335, 3) := by decide +kernel
theorem dJ0_length_8abf5_9 : decode cJ0_length_8abf5 9 = .ok (.ishr, 1) := by decide +kernel
theorem dJ0_length_8abf5_10 : decode cJ0_length_8abf5 10 = .ok (.ireturn, 1) := by decide +kernel
theorem dJ0_charAt_5068e_0 : decode cJ0_charAt_5068e 0 = .ok (.aload_n 0, 1) := by decide +kernel
theorem dJ0_charAt_5068e_1 : decode cJ0_charAt_5068e 1 = .ok (.invokevirtual 492, 3) := by decide +kernel
theorem dJ0_charAt_5068e_4 : decode cJ0_charAt_5068e 4 = .ok (.ifCond .eq 12, 3) := by decide +kernel
theorem dJ0_charAt_5068e_7 : decode cJ0_charAt_5068e 7 = .ok (.aload_n 0, 1) := by decide +kernel
theorem dJ0_charAt_5068e_8 : decode cJ0_charAt_5068e 8 = .ok (.getfield 9, 3) := by decide +kernel
theorem dJ0_charAt_5068e_11 : decode cJ0_charAt_5068e 11 = .ok (.iload_n 1, 1) := by decide +kernel
theorem dJ0_charAt_5068e_12 : decode cJ0_charAt_5068e 12 = .ok (.invokestatic 495, 3) := by decide +kernel
theorem dJ0_charAt_5068e_15 : decode cJ0_charAt_5068e 15 = .ok (.ireturn, 1) := by decide +kernel
theorem dJ0_charAt_5068e_16 : decode cJ0_charAt_5068e 16 = .ok (.aload_n 0, 1) := by decide +kernel
theorem dJ0_charAt_5068e_17 : decode cJ0_charAt_5068e 17 = .ok (.getfield 9, 3) := by decide +kernel
theorem dJ0_charAt_5068e_20 : decode cJ0_charAt_5068e 20 = .ok (.iload_n 1, 1) := by decide +kernel
theorem dJ0_charAt_5068e_21 : decode cJ0_charAt_5068e 21 = .ok (.invokestatic 498, 3) := by decide +kernel
theorem dJ0_charAt_5068e_24 : decode cJ0_charAt_5068e 24 = .ok (.ireturn, 1) := by decide +kernel
theorem dJ1_charAt_3b067_0 : decode cJ1_charAt_3b067 0 = .ok (.iload_n 1, 1) := by decide +kernel
theorem dJ1_charAt_3b067_1 : decode cJ1_charAt_3b067 1 = .ok (.aload_n 0, 1) := by decide +kernel
theorem dJ1_charAt_3b067_2 : decode cJ1_charAt_3b067 2 = .ok (.arraylength, 1) := by decide +kernel
theorem dJ1_charAt_3b067_3 : decode cJ1_charAt_3b067 3 = .ok (.invokestatic 9, 3) := by decide +kernel
theorem dJ1_charAt_3b067_6 : decode cJ1_charAt_3b067 6 = .ok (.aload_n 0, 1) := by decide +kernel
theorem dJ1_charAt_3b067_7 : decode cJ1_charAt_3b067 7 = .ok (.iload_n 1, 1) := by decide +kernel
theorem dJ1_charAt_3b067_8 : decode cJ1_charAt_3b067 8 = .ok (.baload, 1) := by decide +kernel
theorem dJ1_charAt_3b067_9 : decode cJ1_charAt_3b067 9 = .ok (.sipush 255, 3) := by decide +kernel
theorem dJ1_charAt_3b067_12 : decode cJ1_charAt_3b067 12 = .ok (.iand, 1) := by decide +kernel
theorem dJ1_charAt_3b067_13 : decode cJ1_charAt_3b067 13 = .ok (.i2c, 1) := by decide +kernel
theorem dJ1_charAt_3b067_14 : decode cJ1_charAt_3b067 14 = .ok (.ireturn, 1) := by decide +kernel
theorem dJ0_checkIndex_df160_0 : decode cJ0_checkIndex_df160 0 = .ok (.iload_n 0, 1) := by decide +kernel
theorem dJ0_checkIndex_df160_1 : decode cJ0_checkIndex_df160 1 = .ok (.iload_n 1, 1) := by decide +kernel
theorem dJ0_checkIndex_df160_2 : decode cJ0_checkIndex_df160 2 = .ok (.getstatic 1053, 3) := by decide +kernel
theorem dJ0_checkIndex_df160_5 : decode cJ0_checkIndex_df160 5 = .ok (.invokestatic 1059, 3) := by decide +kernel
theorem dJ0_checkIndex_df160_8 : decode cJ0_checkIndex_df160 8 = .ok (.pop, 1) := by decide +kernel
theorem dJ0_checkIndex_df160_9 : decode cJ0_checkIndex_df160 9 = .ok (.return_, 1) := by decide +kernel
theorem dJ3_checkIndex_8e157_0 : decode cJ3_checkIndex_8e157 0 = .ok (.iload_n 0, 1) := by decide +kernel
theorem dJ3_checkIndex_8e157_1 : decode cJ3_checkIndex_8e157 1 = .ok (.ifCond .lt 8, 3) := by decide +kernel
theorem dJ3_checkIndex_8e157_4 : decode cJ3_checkIndex_8e157 4 = .ok (.iload_n 0, 1) := by decide +kernel
theorem dJ3_checkIndex_8e157_5 : decode cJ3_checkIndex_8e157 5 = .ok (.iload_n 1, 1) := by decide +kernel
theorem dJ3_checkIndex_8e157_6 : decode cJ3_checkIndex_8e157 6 = .ok (.if_icmp .lt 10, 3) := by decide +kernel
theorem dJ3_checkIndex_8e157_9 : decode cJ3_checkIndex_8e157 9 = .ok (.aload_n 2, 1) := by decide +kernel
theorem dJ3_checkIndex_8e157_10 : decode cJ3_checkIndex_8e157 10 = .ok (.iload_n 0, 1) := by decide +kernel
theorem dJ3_checkIndex_8e157_11 : decode cJ3_checkIndex_8e157 11 = .ok (.iload_n 1, 1) := by decide +kernel
theorem dJ3_checkIndex_8e157_12 : decode cJ3_checkIndex_8e157 12 = .ok (.invokestatic 95, 3) := by decide +kernel
theorem dJ3_checkIndex_8e157_15 : decode cJ3_checkIndex_8e157 15 = .ok (.athrow, 1) := by decide +kernel
theorem dJ3_checkIndex_8e157_16 : decode cJ3_checkIndex_8e157 16 = .ok (.iload_n 0, 1) := by decide +kernel
theorem dJ3_checkIndex_8e157_17 : decode cJ3_checkIndex_8e157 17 = .ok (.ireturn, 1) := by decide +kernel
set_option maxHeartbeats 4000000 in
set_option maxRecDepth 100000 in
theorem sJ0_coderA (l : Launch) (a b : Nat) (L : List Int32) (zf : Value) : Met l yJ0_coder_7d493 (.code yJ0_coder_7d493 cJ0_coder_7d493 1 (some .byte) :: wsGA) ({ frames := 0, cells := 0, slots := 0, locals := 0 }) (va_Pc [.ref a] (fun U => gz_sp a b L zf (fun _ => False) U U.heap)) (va_Qi (fun (r : Int32) (u : Unit) => r = 0) (fun _ _ => True) (fun _ => False)) 0 0 (fun _ => False) := by
  refine Met.ofW (cc := cJ0_coder_7d493) (maxL := 1) (ret := (some .byte)) (by decide) rfl ?_
  intro p e s m args below meth c s₁ B hml hv
  obtain ⟨rfl, hsp⟩ := hv
  have hx := B.exec
  have hb := B.bytes
  have hr := B.returns
  have hts := atoms_spec (ws := (.code yJ0_coder_7d493 cJ0_coder_7d493 1 (some .byte) :: wsGA)) B.pre
  have hown : s.vm.findClass RJ0 = some m.cls := findClass_of_methodNamed B.named
  have hlocks := B.notSynchronized
  have hS : va_S (fun _ => False) s.heap s.heap [] := va_S.rf
  have hl := lv_entry ([.ref a]) (n := 1) (Nat.le_of_ble_eq_true rfl)
  rw [lg_entry_eq]
  generalize (lg_sl ([.ref a]) ++ List.replicate (1 - (lg_sl ([.ref a])).length) Slot.unset).toArray = ls at hl ⊢
  have hl : lv_has ls 1 [(0, .ref a)] := hl
  refine va_gets hx hb hsp.1 hS hown (hts _ (List.mem_cons_of_mem _ mGA_211)) (fun _ h9 => h9) dJ0_coder_7d493_0 ?_
  refine lv_if_eq (tgt := 13) hx hb dJ0_coder_7d493_3 (by decide) (fun c9 => absurd c9 (by decide)) (fun c9 => ?_)
  refine lv_aload_n hx hb dJ0_coder_7d493_6 rfl (lv_at hl 0 rfl) ?_
  refine vk_getf hx hb hsp.2.2.2.1 hS hown (hts _ (List.mem_cons_of_mem _ mGA_212)) (fun _ h9 => h9) dJ0_coder_7d493_7 ?_
  refine lv_goto (tgt := 14) hx hb dJ0_coder_7d493_10 (by decide) ?_
  exact W.zret (v := 0) hx hb hr rfl (fun t ht hW => ⟨⟨0, (), rfl, rfl, trivial⟩, hS.F ht⟩) hS.2.2 dJ0_coder_7d493_14
set_option maxHeartbeats 4000000 in
set_option maxRecDepth 100000 in
theorem sJ0_isLatin1A (l : Launch) (a b : Nat) (L : List Int32) (zf : Value) : Met l yJ0_isLatin1_aae02 (.code yJ0_isLatin1_aae02 cJ0_isLatin1_aae02 1 (some .boolean) :: wsGA) ({ frames := 0, cells := 0, slots := 0, locals := 0 }) (va_Pc [.ref a] (fun U => gz_sp a b L zf (fun _ => False) U U.heap)) (va_Qi (fun (r : Int32) (u : Unit) => r = 1) (fun _ _ => True) (fun _ => False)) 0 0 (fun _ => False) := by
  refine Met.ofW (cc := cJ0_isLatin1_aae02) (maxL := 1) (ret := (some .boolean)) (by decide) rfl ?_
  intro p e s m args below meth c s₁ B hml hv
  obtain ⟨rfl, hsp⟩ := hv
  have hx := B.exec
  have hb := B.bytes
  have hr := B.returns
  have hts := atoms_spec (ws := (.code yJ0_isLatin1_aae02 cJ0_isLatin1_aae02 1 (some .boolean) :: wsGA)) B.pre
  have hown : s.vm.findClass RJ0 = some m.cls := findClass_of_methodNamed B.named
  have hlocks := B.notSynchronized
  have hS : va_S (fun _ => False) s.heap s.heap [] := va_S.rf
  have hl := lv_entry ([.ref a]) (n := 1) (Nat.le_of_ble_eq_true rfl)
  rw [lg_entry_eq]
  generalize (lg_sl ([.ref a]) ++ List.replicate (1 - (lg_sl ([.ref a])).length) Slot.unset).toArray = ls at hl ⊢
  have hl : lv_has ls 1 [(0, .ref a)] := hl
  refine va_gets hx hb hsp.1 hS hown (hts _ (List.mem_cons_of_mem _ mGA_211)) (fun _ h9 => h9) dJ0_isLatin1_aae02_0 ?_
  refine lv_if_eq (tgt := 17) hx hb dJ0_isLatin1_aae02_3 (by decide) (fun c9 => absurd c9 (by decide)) (fun c9 => ?_)
  refine lv_aload_n hx hb dJ0_isLatin1_aae02_6 rfl (lv_at hl 0 rfl) ?_
  refine vk_getf hx hb hsp.2.2.2.1 hS hown (hts _ (List.mem_cons_of_mem _ mGA_212)) (fun _ h9 => h9) dJ0_isLatin1_aae02_7 ?_
  refine lv_if_ne (tgt := 17) hx hb dJ0_isLatin1_aae02_10 (by decide) (fun c9 => absurd rfl c9) (fun c9 => ?_)
  refine lv_iconst (v := 1) hx hb dJ0_isLatin1_aae02_13 (by decide) ?_
  refine lv_goto (tgt := 18) hx hb dJ0_isLatin1_aae02_14 (by decide) ?_
  exact W.zret (v := 1) hx hb hr rfl (fun t ht hW => ⟨⟨1, (), rfl, rfl, trivial⟩, hS.F ht⟩) hS.2.2 dJ0_isLatin1_aae02_18
set_option maxHeartbeats 4000000 in
set_option maxRecDepth 100000 in
theorem sJ0_lengthA (l : Launch) (a b : Nat) (L : List Int32) (zf : Value) (hL : L.length ≤ 7) : Met l yJ0_length_8abf5 (.code yJ0_length_8abf5 cJ0_length_8abf5 1 (some .int) :: wsGA) ({ frames := 1, cells := 0, slots := 0, locals := 20 }) (va_Pc [.ref a] (fun U => gz_sp a b L zf (fun _ => False) U U.heap)) (va_Qi (fun (r : Int32) (u : Unit) => r = nI L.length) (fun _ _ => True) (fun _ => False)) 0 0 (fun _ => False) := by
  refine Met.ofW (cc := cJ0_length_8abf5) (maxL := 1) (ret := (some .int)) (by decide) rfl ?_
  intro p e s m args below meth c s₁ B hml hv
  obtain ⟨rfl, hsp⟩ := hv
  have hx := B.exec
  have hb := B.bytes
  have hr := B.returns
  have hts := atoms_spec (ws := (.code yJ0_length_8abf5 cJ0_length_8abf5 1 (some .int) :: wsGA)) B.pre
  have hown : s.vm.findClass RJ0 = some m.cls := findClass_of_methodNamed B.named
  have hlocks := B.notSynchronized
  have hS : va_S (fun _ => False) s.heap s.heap [] := va_S.rf
  have hl := lv_entry ([.ref a]) (n := 1) (Nat.le_of_ble_eq_true rfl)
  rw [lg_entry_eq]
  generalize (lg_sl ([.ref a]) ++ List.replicate (1 - (lg_sl ([.ref a])).length) Slot.unset).toArray = ls at hl ⊢
  have hl : lv_has ls 1 [(0, .ref a)] := hl
  refine lv_aload_n hx hb dJ0_length_8abf5_0 rfl (lv_at hl 0 rfl) ?_
  refine vk_getf hx hb hsp.2.2.2.2.1 hS hown (hts _ (List.mem_cons_of_mem _ mGA_206)) (fun _ h9 => h9) dJ0_length_8abf5_1 ?_
  refine va_tlen (v := nI L.length) hx hb hsp.2.2.2.2.2 hS rfl dJ0_length_8abf5_4 ?_
  refine lv_aload_n hx hb dJ0_length_8abf5_5 rfl (lv_at hl 0 rfl) ?_
  refine va_calli (va_runV (As := []) (rest := [.int (nI L.length)]) ⟨hx, hb, hml, hown, hts⟩ (sJ0_coderA l a b L zf) (cwV 0 hts (gz_gV mGA_207 mGA_208 mGA_209 mGA_204 mGA_210 goodGA) rfl rfl rfl (by decide +kernel) ⟨Nat.le_of_ble_eq_true rfl, Nat.le_of_ble_eq_true rfl⟩) ⟨fun a U g mk q => ⟨q.1, gz_sp.moved (u := U) (U := U.calling g mk a) (Vm.Alike.refl U.vm) q.2⟩, (by obtain ⟨cell, h1, h2, h3, -⟩ := hsp.2.2.1.kept hS.2.1; exact ⟨cell, h1, h2, h3⟩), fun U hU hW => ⟨rfl, by show gz_sp _ _ _ _ _ U U.heap; rw [hU]; exact gz_sp.moved hW.alike (hsp.kept hS.2.1)⟩⟩ rfl rfl hl.1 rfl (lv_room (Nat.le_of_ble_eq_true rfl)) dJ0_length_8abf5_6 ⟨Nat.zero_le _, Nat.zero_le _⟩) hS (fun q _ h => h.elim) (fun q h => h.elim) (fun r u t H1 locs ht hvm hw hB hz1 hk1 hS => ?_)
  have hw : r = 0 := hw
  subst hw
  refine lv_ishr hx hb dJ0_length_8abf5_9 ?_
  refine gz_topi (y := nI L.length) (sc_shr0 (by omega)) ?_
  exact W.iret (v := nI L.length) hx hb hr (fun t ht hW => ⟨⟨nI L.length, (), rfl, rfl, trivial⟩, hS.F ht⟩) hS.2.2 dJ0_length_8abf5_10
set_option maxHeartbeats 4000000 in
set_option maxRecDepth 100000 in
theorem sJ3_checkNA (l : Launch) (i n : Int32) (h1 : ¬ i < 0) (h2 : i < n) : Met l yJ3_checkIndex_8e157 (.code yJ3_checkIndex_8e157 cJ3_checkIndex_8e157 3 (some .int) :: wsGA) ({ frames := 0, cells := 0, slots := 0, locals := 0 }) (va_Pc [.int i, .int n, .null] (fun U => True)) (va_Qi (fun (r : Int32) (u : Unit) => True) (fun _ _ => True) (fun _ => False)) 0 0 (fun _ => False) := by
  refine Met.ofW (cc := cJ3_checkIndex_8e157) (maxL := 3) (ret := (some .int)) (by decide) rfl ?_
  intro p e s m args below meth c s₁ B hml hv
  obtain ⟨rfl, -⟩ := hv
  have hx := B.exec
  have hb := B.bytes
  have hr := B.returns
  have hts := atoms_spec (ws := (.code yJ3_checkIndex_8e157 cJ3_checkIndex_8e157 3 (some .int) :: wsGA)) B.pre
  have hown : s.vm.findClass RJ3 = some m.cls := findClass_of_methodNamed B.named
  have hlocks := B.notSynchronized
  have hS : va_S (fun _ => False) s.heap s.heap [] := va_S.rf
  have hl := lv_entry ([.int i, .int n, .null]) (n := 3) (Nat.le_of_ble_eq_true rfl)
  rw [lg_entry_eq]
  generalize (lg_sl ([.int i, .int n, .null]) ++ List.replicate (3 - (lg_sl ([.int i, .int n, .null])).length) Slot.unset).toArray = ls at hl ⊢
  have hl : lv_has ls 3 [(0, .int i), (1, .int n), (2, .null)] := hl
  refine lv_iload_n hx hb dJ3_checkIndex_8e157_0 rfl (lv_at hl 0 rfl) ?_
  refine lv_if_lt (tgt := 9) hx hb dJ3_checkIndex_8e157_1 (by decide) (fun c9 => absurd c9 h1) (fun c9 => ?_)
  refine lv_iload_n hx hb dJ3_checkIndex_8e157_4 rfl (lv_at hl 0 rfl) ?_
  refine lv_iload_n hx hb dJ3_checkIndex_8e157_5 rfl (lv_at hl 1 rfl) ?_
  refine lv_icmp_lt (tgt := 16) hx hb dJ3_checkIndex_8e157_6 (by decide) (fun c9 => ?_) (fun c9 => absurd h2 c9)
  refine lv_iload_n hx hb dJ3_checkIndex_8e157_16 rfl (lv_at hl 0 rfl) ?_
  exact W.iret (v := i) hx hb hr (fun t ht hW => ⟨⟨i, (), rfl, trivial, trivial⟩, hS.F ht⟩) hS.2.2 dJ3_checkIndex_8e157_17
set_option maxHeartbeats 4000000 in
set_option maxRecDepth 100000 in
theorem sJ3_checkRA (l : Launch) (t : Nat) (i n : Int32) (h1 : ¬ i < 0) (h2 : i < n) : Met l yJ3_checkIndex_8e157 (.code yJ3_checkIndex_8e157 cJ3_checkIndex_8e157 3 (some .int) :: wsGA) ({ frames := 0, cells := 0, slots := 0, locals := 0 }) (va_Pc [.int i, .int n, .ref t] (fun U => True)) (va_Qi (fun (r : Int32) (u : Unit) => True) (fun _ _ => True) (fun _ => False)) 0 0 (fun _ => False) := by
  refine Met.ofW (cc := cJ3_checkIndex_8e157) (maxL := 3) (ret := (some .int)) (by decide) rfl ?_
  intro p e s m args below meth c s₁ B hml hv
  obtain ⟨rfl, -⟩ := hv
  have hx := B.exec
  have hb := B.bytes
  have hr := B.returns
  have hts := atoms_spec (ws := (.code yJ3_checkIndex_8e157 cJ3_checkIndex_8e157 3 (some .int) :: wsGA)) B.pre
  have hown : s.vm.findClass RJ3 = some m.cls := findClass_of_methodNamed B.named
  have hlocks := B.notSynchronized
  have hS : va_S (fun _ => False) s.heap s.heap [] := va_S.rf
  have hl := lv_entry ([.int i, .int n, .ref t]) (n := 3) (Nat.le_of_ble_eq_true rfl)
  rw [lg_entry_eq]
  generalize (lg_sl ([.int i, .int n, .ref t]) ++ List.replicate (3 - (lg_sl ([.int i, .int n, .ref t])).length) Slot.unset).toArray = ls at hl ⊢
  have hl : lv_has ls 3 [(0, .int i), (1, .int n), (2, .ref t)] := hl
  refine lv_iload_n hx hb dJ3_checkIndex_8e157_0 rfl (lv_at hl 0 rfl) ?_
  refine lv_if_lt (tgt := 9) hx hb dJ3_checkIndex_8e157_1 (by decide) (fun c9 => absurd c9 h1) (fun c9 => ?_)
  refine lv_iload_n hx hb dJ3_checkIndex_8e157_4 rfl (lv_at hl 0 rfl) ?_
  refine lv_iload_n hx hb dJ3_checkIndex_8e157_5 rfl (lv_at hl 1 rfl) ?_
  refine lv_icmp_lt (tgt := 16) hx hb dJ3_checkIndex_8e157_6 (by decide) (fun c9 => ?_) (fun c9 => absurd h2 c9)
  refine lv_iload_n hx hb dJ3_checkIndex_8e157_16 rfl (lv_at hl 0 rfl) ?_
  exact W.iret (v := i) hx hb hr (fun t ht hW => ⟨⟨i, (), rfl, trivial, trivial⟩, hS.F ht⟩) hS.2.2 dJ3_checkIndex_8e157_17
set_option maxHeartbeats 4000000 in
set_option maxRecDepth 100000 in
theorem sJ0_checkA (l : Launch) (a b : Nat) (L : List Int32) (zf : Value) (hzf : zf = .null ∨ ∃ t, zf = .ref t) (i n : Int32) (h1 : ¬ i < 0) (h2 : i < n) : Met l yJ0_checkIndex_df160 (.code yJ0_checkIndex_df160 cJ0_checkIndex_df160 2 none :: wsGA) ({ frames := 1, cells := 0, slots := 0, locals := 22 }) (va_Pc [.int i, .int n] (fun U => gz_sp a b L zf (fun _ => False) U U.heap)) (va_Qv (fun (u : Unit) => True) (fun _ _ => True) (fun _ => False)) 0 0 (fun _ => False) := by
  refine Met.ofW (cc := cJ0_checkIndex_df160) (maxL := 2) (ret := none) (by decide) rfl ?_
  intro p e s m args below meth c s₁ B hml hv
  obtain ⟨rfl, hsp⟩ := hv
  have hx := B.exec
  have hb := B.bytes
  have hr := B.returns
  have hts := atoms_spec (ws := (.code yJ0_checkIndex_df160 cJ0_checkIndex_df160 2 none :: wsGA)) B.pre
  have hown : s.vm.findClass RJ0 = some m.cls := findClass_of_methodNamed B.named
  have hlocks := B.notSynchronized
  have hS : va_S (fun _ => False) s.heap s.heap [] := va_S.rf
  have hl := lv_entry ([.int i, .int n]) (n := 2) (Nat.le_of_ble_eq_true rfl)
  rw [lg_entry_eq]
  generalize (lg_sl ([.int i, .int n]) ++ List.replicate (2 - (lg_sl ([.int i, .int n])).length) Slot.unset).toArray = ls at hl ⊢
  have hl : lv_has ls 2 [(0, .int i), (1, .int n)] := hl
  refine lv_iload_n hx hb dJ0_checkIndex_df160_0 rfl (lv_at hl 0 rfl) ?_
  refine lv_iload_n hx hb dJ0_checkIndex_df160_1 rfl (lv_at hl 1 rfl) ?_
  refine va_gets hx hb hsp.2.1 hS hown (hts _ (List.mem_cons_of_mem _ mGA_228)) (fun _ h9 => h9) dJ0_checkIndex_df160_2 ?_
  rcases hzf with rfl | ⟨t, rfl⟩
  · refine va_calli (va_runS (As := [.int i, .int n, .null]) (rest := []) ⟨hx, hb, hml, hown, hts⟩ (sJ3_checkNA l i n h1 h2) (⟨callB_of 3 hts (gz_gP mGA_232 goodGA) rfl rfl rfl (hts _ (List.mem_cons_of_mem _ mGA_231)) (hts _ (List.mem_cons_of_mem _ mGA_229)) (by decide +kernel) ⟨Nat.le_of_ble_eq_true rfl, Nat.le_of_ble_eq_true rfl⟩, (hts _ (List.mem_cons_of_mem _ mGA_230))⟩) ⟨fun a U g mk q => ⟨q.1, trivial⟩, fun U hU hW => ⟨rfl, trivial⟩⟩ rfl rfl hl.1 rfl (lv_room (Nat.le_of_ble_eq_true rfl)) dJ0_checkIndex_df160_5 ⟨Nat.zero_le _, Nat.zero_le _⟩) hS (fun q _ h => h.elim) (fun q h => h.elim) (fun r u t H1 locs ht hvm hw hB hz1 hk1 hS => ?_)
    refine lv_pop hx hb dJ0_checkIndex_df160_8 rfl ?_
    exact W.vret hx hb hr (fun t ht hW => ⟨⟨(), rfl, trivial, trivial⟩, hS.F ht⟩) hS.2.2 dJ0_checkIndex_df160_9
  · refine va_calli (va_runS (As := [.int i, .int n, .ref t]) (rest := []) ⟨hx, hb, hml, hown, hts⟩ (sJ3_checkRA l t i n h1 h2) (⟨callB_of 3 hts (gz_gP mGA_232 goodGA) rfl rfl rfl (hts _ (List.mem_cons_of_mem _ mGA_231)) (hts _ (List.mem_cons_of_mem _ mGA_229)) (by decide +kernel) ⟨Nat.le_of_ble_eq_true rfl, Nat.le_of_ble_eq_true rfl⟩, (hts _ (List.mem_cons_of_mem _ mGA_230))⟩) ⟨fun a U g mk q => ⟨q.1, trivial⟩, fun U hU hW => ⟨rfl, trivial⟩⟩ rfl rfl hl.1 rfl (lv_room (Nat.le_of_ble_eq_true rfl)) dJ0_checkIndex_df160_5 ⟨Nat.zero_le _, Nat.zero_le _⟩) hS (fun q _ h => h.elim) (fun q h => h.elim) (fun r u t H1 locs ht hvm hw hB hz1 hk1 hS => ?_)
    refine lv_pop hx hb dJ0_checkIndex_df160_8 rfl ?_
    exact W.vret hx hb hr (fun t ht hW => ⟨⟨(), rfl, trivial, trivial⟩, hS.F ht⟩) hS.2.2 dJ0_checkIndex_df160_9
set_option maxHeartbeats 4000000 in
set_option maxRecDepth 100000 in
theorem sJ1_charAtA (l : Launch) (a b : Nat) (L : List Int32) (zf : Value) (hzf : zf = .null ∨ ∃ t, zf = .ref t) (hL : L.length ≤ 7) (i : Int32) (h0 : ¬ i < 0) (hi : i.toNatClampNeg < L.length) : Met l yJ1_charAt_3b067 (.code yJ1_charAt_3b067 cJ1_charAt_3b067 2 (some .char) :: wsGA) ({ frames := 2, cells := 0, slots := 0, locals := 43 }) (va_Pc [.ref b, .int i] (fun U => gz_sp a b L zf (fun _ => False) U U.heap)) (va_Qi (fun (r : Int32) (u : Unit) => r = (L.getD i.toNatClampNeg 0 &&& 255)) (fun _ _ => True) (fun _ => False)) 0 0 (fun _ => False) := by
  refine Met.ofW (cc := cJ1_charAt_3b067) (maxL := 2) (ret := (some .char)) (by decide) rfl ?_
  intro p e s m args below meth c s₁ B hml hv
  obtain ⟨rfl, hsp⟩ := hv
  have hx := B.exec
  have hb := B.bytes
  have hr := B.returns
  have hts := atoms_spec (ws := (.code yJ1_charAt_3b067 cJ1_charAt_3b067 2 (some .char) :: wsGA)) B.pre
  have hown : s.vm.findClass RJ1 = some m.cls := findClass_of_methodNamed B.named
  have hlocks := B.notSynchronized
  have hS : va_S (fun _ => False) s.heap s.heap [] := va_S.rf
  have hl := lv_entry ([.ref b, .int i]) (n := 2) (Nat.le_of_ble_eq_true rfl)
  rw [lg_entry_eq]
  generalize (lg_sl ([.ref b, .int i]) ++ List.replicate (2 - (lg_sl ([.ref b, .int i])).length) Slot.unset).toArray = ls at hl ⊢
  have hl : lv_has ls 2 [(0, .ref b), (1, .int i)] := hl
  have h2 : i < nI L.length := by rw [Int32.lt_iff_toInt_lt, nI_toInt (by omega)]; have h9 : i.toInt.toNat < L.length := hi; omega
  refine lv_iload_n hx hb dJ1_charAt_3b067_0 rfl (lv_at hl 1 rfl) ?_
  refine lv_aload_n hx hb dJ1_charAt_3b067_1 rfl (lv_at hl 0 rfl) ?_
  refine va_tlen (v := nI L.length) hx hb hsp.2.2.2.2.2 hS rfl dJ1_charAt_3b067_2 ?_
  refine va_callv (va_runS (As := [.int i, .int (nI L.length)]) (rest := []) ⟨hx, hb, hml, hown, hts⟩ (sJ0_checkA l a b L zf hzf i (nI L.length) h0 h2) (⟨callB_of 2 hts (gz_gP mGA_227 goodGA) rfl rfl rfl (hts _ (List.mem_cons_of_mem _ mGA_204)) (hts _ (List.mem_cons_of_mem _ mGA_225)) (by decide +kernel) ⟨Nat.le_of_ble_eq_true rfl, Nat.le_of_ble_eq_true rfl⟩, (hts _ (List.mem_cons_of_mem _ mGA_226))⟩) ⟨fun a U g mk q => ⟨q.1, gz_sp.moved (u := U) (U := U.calling g mk a) (Vm.Alike.refl U.vm) q.2⟩, fun U hU hW => ⟨rfl, by show gz_sp _ _ _ _ _ U U.heap; rw [hU]; exact gz_sp.moved hW.alike (hsp.kept hS.2.1)⟩⟩ rfl rfl hl.1 rfl (lv_room (Nat.le_of_ble_eq_true rfl)) dJ1_charAt_3b067_3 ⟨Nat.zero_le _, Nat.zero_le _⟩) hS (fun q _ h => h.elim) (fun q h => h.elim) (fun u t H1 locs ht hvm hw hB hz1 hk1 hS => ?_)
  refine lv_aload_n hx hb dJ1_charAt_3b067_6 rfl (lv_at hl 0 rfl) ?_
  refine lv_iload_n hx hb dJ1_charAt_3b067_7 rfl (lv_at hl 1 rfl) ?_
  refine va_tb (v := .int (L.getD i.toNatClampNeg 0)) hx hb hsp.2.2.2.2.2 hS (fun q => q.elim h0 (fun q => absurd hi (Nat.not_lt.mpr q))) rfl dJ1_charAt_3b067_8 ?_
  refine lv_sipush (v := 255) hx hb dJ1_charAt_3b067_9 (by decide) ?_
  refine lv_iand hx hb dJ1_charAt_3b067_12 ?_
  refine lv_i2c (v := (L.getD i.toNatClampNeg 0 &&& 255)) hx hb dJ1_charAt_3b067_13 (sc_c2 _) ?_
  exact W.zret (v := (L.getD i.toNatClampNeg 0 &&& 255)) hx hb hr (sc_nar _) (fun t ht hW => ⟨⟨(L.getD i.toNatClampNeg 0 &&& 255), (), rfl, rfl, trivial⟩, hS.F ht⟩) hS.2.2 dJ1_charAt_3b067_14
set_option maxHeartbeats 4000000 in
set_option maxRecDepth 100000 in
theorem sJ0_charAtA (l : Launch) (a b : Nat) (L : List Int32) (zf : Value) (hzf : zf = .null ∨ ∃ t, zf = .ref t) (hL : L.length ≤ 7) (i : Int32) (h0 : ¬ i < 0) (hi : i.toNatClampNeg < L.length) : Met l yJ0_charAt_5068e (.code yJ0_charAt_5068e cJ0_charAt_5068e 2 (some .char) :: wsGA) ({ frames := 3, cells := 0, slots := 0, locals := 64 }) (va_Pc [.ref a, .int i] (fun U => gz_sp a b L zf (fun _ => False) U U.heap)) (va_Qi (fun (r : Int32) (u : Unit) => r = (L.getD i.toNatClampNeg 0 &&& 255)) (fun _ _ => True) (fun _ => False)) 0 0 (fun _ => False) := by
  refine Met.ofW (cc := cJ0_charAt_5068e) (maxL := 2) (ret := (some .char)) (by decide) rfl ?_
  intro p e s m args below meth c s₁ B hml hv
  obtain ⟨rfl, hsp⟩ := hv
  have hx := B.exec
  have hb := B.bytes
  have hr := B.returns
  have hts := atoms_spec (ws := (.code yJ0_charAt_5068e cJ0_charAt_5068e 2 (some .char) :: wsGA)) B.pre
  have hown : s.vm.findClass RJ0 = some m.cls := findClass_of_methodNamed B.named
  have hlocks := B.notSynchronized
  have hS : va_S (fun _ => False) s.heap s.heap [] := va_S.rf
  have hl := lv_entry ([.ref a, .int i]) (n := 2) (Nat.le_of_ble_eq_true rfl)
  rw [lg_entry_eq]
  generalize (lg_sl ([.ref a, .int i]) ++ List.replicate (2 - (lg_sl ([.ref a, .int i])).length) Slot.unset).toArray = ls at hl ⊢
  have hl : lv_has ls 2 [(0, .ref a), (1, .int i)] := hl
  refine lv_aload_n hx hb dJ0_charAt_5068e_0 rfl (lv_at hl 0 rfl) ?_
  refine va_calli (va_runV (As := []) (rest := []) ⟨hx, hb, hml, hown, hts⟩ (sJ0_isLatin1A l a b L zf) (cwV 0 hts (gz_gV mGA_217 mGA_218 mGA_219 mGA_204 mGA_220 goodGA) rfl rfl rfl (by decide +kernel) ⟨Nat.le_of_ble_eq_true rfl, Nat.le_of_ble_eq_true rfl⟩) ⟨fun a U g mk q => ⟨q.1, gz_sp.moved (u := U) (U := U.calling g mk a) (Vm.Alike.refl U.vm) q.2⟩, (by obtain ⟨cell, h1, h2, h3, -⟩ := hsp.2.2.1.kept hS.2.1; exact ⟨cell, h1, h2, h3⟩), fun U hU hW => ⟨rfl, by show gz_sp _ _ _ _ _ U U.heap; rw [hU]; exact gz_sp.moved hW.alike (hsp.kept hS.2.1)⟩⟩ rfl rfl hl.1 rfl (lv_room (Nat.le_of_ble_eq_true rfl)) dJ0_charAt_5068e_1 ⟨Nat.zero_le _, Nat.zero_le _⟩) hS (fun q _ h => h.elim) (fun q h => h.elim) (fun r u t H1 locs ht hvm hw hB hz1 hk1 hS => ?_)
  have hw : r = 1 := hw
  subst hw
  refine lv_if_eq (tgt := 16) hx hb dJ0_charAt_5068e_4 (by decide) (fun c9 => absurd c9 (by decide)) (fun c9 => ?_)
  refine lv_aload_n hx hb dJ0_charAt_5068e_7 rfl (lv_at hl 0 rfl) ?_
  refine vk_getf hx hb hsp.2.2.2.2.1 hS hown (hts _ (List.mem_cons_of_mem _ mGA_206)) (fun _ h9 => h9) dJ0_charAt_5068e_8 ?_
  refine lv_iload_n hx hb dJ0_charAt_5068e_11 rfl (lv_at hl 1 rfl) ?_
  refine va_calli (va_runS (As := [.ref b, .int i]) (rest := []) ⟨hx, hb, hml, hown, hts⟩ (sJ1_charAtA l a b L zf hzf hL i h0 hi) (⟨callB_of 2 hts (gz_gP mGA_224 goodGA) rfl rfl rfl (hts _ (List.mem_cons_of_mem _ mGA_223)) (hts _ (List.mem_cons_of_mem _ mGA_221)) (by decide +kernel) ⟨Nat.le_of_ble_eq_true rfl, Nat.le_of_ble_eq_true rfl⟩, (hts _ (List.mem_cons_of_mem _ mGA_222))⟩) ⟨fun a U g mk q => ⟨q.1, gz_sp.moved (u := U) (U := U.calling g mk a) (Vm.Alike.refl U.vm) q.2⟩, fun U hU hW => ⟨rfl, by show gz_sp _ _ _ _ _ U U.heap; rw [hU]; exact gz_sp.moved hW.alike (hsp.kept hS.2.1)⟩⟩ rfl rfl hl.1 rfl (lv_room (Nat.le_of_ble_eq_true rfl)) dJ0_charAt_5068e_12 ⟨Nat.zero_le _, Nat.zero_le _⟩) hS (fun q _ h => h.elim) (fun q h => h.elim) (fun r u t H1 locs ht hvm hw hB hz1 hk1 hS => ?_)
  have hw : r = (L.getD i.toNatClampNeg 0 &&& 255) := hw
  subst hw
  exact W.zret (v := (L.getD i.toNatClampNeg 0 &&& 255)) hx hb hr (sc_nar _) (fun t ht hW => ⟨⟨(L.getD i.toNatClampNeg 0 &&& 255), (), rfl, rfl, trivial⟩, hS.F ht⟩) hS.2.2 dJ0_charAt_5068e_15
set_option maxHeartbeats 4000000 in
set_option maxRecDepth 100000 in
theorem sJ0_coderB (l : Launch) (a b : Nat) (L : List Int32) (zf : Value) : Met l yJ0_coder_7d493 (.code yJ0_coder_7d493 cJ0_coder_7d493 1 (some .byte) :: wsGB) ({ frames := 0, cells := 0, slots := 0, locals := 0 }) (va_Pc [.ref a] (fun U => gz_sp a b L zf (fun _ => False) U U.heap)) (va_Qi (fun (r : Int32) (u : Unit) => r = 0) (fun _ _ => True) (fun _ => False)) 0 0 (fun _ => False) := by
  refine Met.ofW (cc := cJ0_coder_7d493) (maxL := 1) (ret := (some .byte)) (by decide) rfl ?_
  intro p e s m args below meth c s₁ B hml hv
  obtain ⟨rfl, hsp⟩ := hv
  have hx := B.exec
  have hb := B.bytes
  have hr := B.returns
  have hts := atoms_spec (ws := (.code yJ0_coder_7d493 cJ0_coder_7d493 1 (some .byte) :: wsGB)) B.pre
  have hown : s.vm.findClass RJ0 = some m.cls := findClass_of_methodNamed B.named
  have hlocks := B.notSynchronized
  have hS : va_S (fun _ => False) s.heap s.heap [] := va_S.rf
  have hl := lv_entry ([.ref a]) (n := 1) (Nat.le_of_ble_eq_true rfl)
  rw [lg_entry_eq]
  generalize (lg_sl ([.ref a]) ++ List.replicate (1 - (lg_sl ([.ref a])).length) Slot.unset).toArray = ls at hl ⊢
  have hl : lv_has ls 1 [(0, .ref a)] := hl
  refine va_gets hx hb hsp.1 hS hown (hts _ (List.mem_cons_of_mem _ mGB_59)) (fun _ h9 => h9) dJ0_coder_7d493_0 ?_
  refine lv_if_eq (tgt := 13) hx hb dJ0_coder_7d493_3 (by decide) (fun c9 => absurd c9 (by decide)) (fun c9 => ?_)
  refine lv_aload_n hx hb dJ0_coder_7d493_6 rfl (lv_at hl 0 rfl) ?_
  refine vk_getf hx hb hsp.2.2.2.1 hS hown (hts _ (List.mem_cons_of_mem _ mGB_60)) (fun _ h9 => h9) dJ0_coder_7d493_7 ?_
  refine lv_goto (tgt := 14) hx hb dJ0_coder_7d493_10 (by decide) ?_
  exact W.zret (v := 0) hx hb hr rfl (fun t ht hW => ⟨⟨0, (), rfl, rfl, trivial⟩, hS.F ht⟩) hS.2.2 dJ0_coder_7d493_14
set_option maxHeartbeats 4000000 in
set_option maxRecDepth 100000 in
theorem sJ0_isLatin1B (l : Launch) (a b : Nat) (L : List Int32) (zf : Value) : Met l yJ0_isLatin1_aae02 (.code yJ0_isLatin1_aae02 cJ0_isLatin1_aae02 1 (some .boolean) :: wsGB) ({ frames := 0, cells := 0, slots := 0, locals := 0 }) (va_Pc [.ref a] (fun U => gz_sp a b L zf (fun _ => False) U U.heap)) (va_Qi (fun (r : Int32) (u : Unit) => r = 1) (fun _ _ => True) (fun _ => False)) 0 0 (fun _ => False) := by
  refine Met.ofW (cc := cJ0_isLatin1_aae02) (maxL := 1) (ret := (some .boolean)) (by decide) rfl ?_
  intro p e s m args below meth c s₁ B hml hv
  obtain ⟨rfl, hsp⟩ := hv
  have hx := B.exec
  have hb := B.bytes
  have hr := B.returns
  have hts := atoms_spec (ws := (.code yJ0_isLatin1_aae02 cJ0_isLatin1_aae02 1 (some .boolean) :: wsGB)) B.pre
  have hown : s.vm.findClass RJ0 = some m.cls := findClass_of_methodNamed B.named
  have hlocks := B.notSynchronized
  have hS : va_S (fun _ => False) s.heap s.heap [] := va_S.rf
  have hl := lv_entry ([.ref a]) (n := 1) (Nat.le_of_ble_eq_true rfl)
  rw [lg_entry_eq]
  generalize (lg_sl ([.ref a]) ++ List.replicate (1 - (lg_sl ([.ref a])).length) Slot.unset).toArray = ls at hl ⊢
  have hl : lv_has ls 1 [(0, .ref a)] := hl
  refine va_gets hx hb hsp.1 hS hown (hts _ (List.mem_cons_of_mem _ mGB_59)) (fun _ h9 => h9) dJ0_isLatin1_aae02_0 ?_
  refine lv_if_eq (tgt := 17) hx hb dJ0_isLatin1_aae02_3 (by decide) (fun c9 => absurd c9 (by decide)) (fun c9 => ?_)
  refine lv_aload_n hx hb dJ0_isLatin1_aae02_6 rfl (lv_at hl 0 rfl) ?_
  refine vk_getf hx hb hsp.2.2.2.1 hS hown (hts _ (List.mem_cons_of_mem _ mGB_60)) (fun _ h9 => h9) dJ0_isLatin1_aae02_7 ?_
  refine lv_if_ne (tgt := 17) hx hb dJ0_isLatin1_aae02_10 (by decide) (fun c9 => absurd rfl c9) (fun c9 => ?_)
  refine lv_iconst (v := 1) hx hb dJ0_isLatin1_aae02_13 (by decide) ?_
  refine lv_goto (tgt := 18) hx hb dJ0_isLatin1_aae02_14 (by decide) ?_
  exact W.zret (v := 1) hx hb hr rfl (fun t ht hW => ⟨⟨1, (), rfl, rfl, trivial⟩, hS.F ht⟩) hS.2.2 dJ0_isLatin1_aae02_18
set_option maxHeartbeats 4000000 in
set_option maxRecDepth 100000 in
theorem sJ0_lengthB (l : Launch) (a b : Nat) (L : List Int32) (zf : Value) (hL : L.length ≤ 7) : Met l yJ0_length_8abf5 (.code yJ0_length_8abf5 cJ0_length_8abf5 1 (some .int) :: wsGB) ({ frames := 1, cells := 0, slots := 0, locals := 20 }) (va_Pc [.ref a] (fun U => gz_sp a b L zf (fun _ => False) U U.heap)) (va_Qi (fun (r : Int32) (u : Unit) => r = nI L.length) (fun _ _ => True) (fun _ => False)) 0 0 (fun _ => False) := by
  refine Met.ofW (cc := cJ0_length_8abf5) (maxL := 1) (ret := (some .int)) (by decide) rfl ?_
  intro p e s m args below meth c s₁ B hml hv
  obtain ⟨rfl, hsp⟩ := hv
  have hx := B.exec
  have hb := B.bytes
  have hr := B.returns
  have hts := atoms_spec (ws := (.code yJ0_length_8abf5 cJ0_length_8abf5 1 (some .int) :: wsGB)) B.pre
  have hown : s.vm.findClass RJ0 = some m.cls := findClass_of_methodNamed B.named
  have hlocks := B.notSynchronized
  have hS : va_S (fun _ => False) s.heap s.heap [] := va_S.rf
  have hl := lv_entry ([.ref a]) (n := 1) (Nat.le_of_ble_eq_true rfl)
  rw [lg_entry_eq]
  generalize (lg_sl ([.ref a]) ++ List.replicate (1 - (lg_sl ([.ref a])).length) Slot.unset).toArray = ls at hl ⊢
  have hl : lv_has ls 1 [(0, .ref a)] := hl
  refine lv_aload_n hx hb dJ0_length_8abf5_0 rfl (lv_at hl 0 rfl) ?_
  refine vk_getf hx hb hsp.2.2.2.2.1 hS hown (hts _ (List.mem_cons_of_mem _ mGB_54)) (fun _ h9 => h9) dJ0_length_8abf5_1 ?_
  refine va_tlen (v := nI L.length) hx hb hsp.2.2.2.2.2 hS rfl dJ0_length_8abf5_4 ?_
  refine lv_aload_n hx hb dJ0_length_8abf5_5 rfl (lv_at hl 0 rfl) ?_
  refine va_calli (va_runV (As := []) (rest := [.int (nI L.length)]) ⟨hx, hb, hml, hown, hts⟩ (sJ0_coderB l a b L zf) (cwV 0 hts (gz_gV mGB_55 mGB_56 mGB_57 mGB_52 mGB_58 goodGB) rfl rfl rfl (by decide +kernel) ⟨Nat.le_of_ble_eq_true rfl, Nat.le_of_ble_eq_true rfl⟩) ⟨fun a U g mk q => ⟨q.1, gz_sp.moved (u := U) (U := U.calling g mk a) (Vm.Alike.refl U.vm) q.2⟩, (by obtain ⟨cell, h1, h2, h3, -⟩ := hsp.2.2.1.kept hS.2.1; exact ⟨cell, h1, h2, h3⟩), fun U hU hW => ⟨rfl, by show gz_sp _ _ _ _ _ U U.heap; rw [hU]; exact gz_sp.moved hW.alike (hsp.kept hS.2.1)⟩⟩ rfl rfl hl.1 rfl (lv_room (Nat.le_of_ble_eq_true rfl)) dJ0_length_8abf5_6 ⟨Nat.zero_le _, Nat.zero_le _⟩) hS (fun q _ h => h.elim) (fun q h => h.elim) (fun r u t H1 locs ht hvm hw hB hz1 hk1 hS => ?_)
  have hw : r = 0 := hw
  subst hw
  refine lv_ishr hx hb dJ0_length_8abf5_9 ?_
  refine gz_topi (y := nI L.length) (sc_shr0 (by omega)) ?_
  exact W.iret (v := nI L.length) hx hb hr (fun t ht hW => ⟨⟨nI L.length, (), rfl, rfl, trivial⟩, hS.F ht⟩) hS.2.2 dJ0_length_8abf5_10
set_option maxHeartbeats 4000000 in
set_option maxRecDepth 100000 in
theorem sJ3_checkNB (l : Launch) (i n : Int32) (h1 : ¬ i < 0) (h2 : i < n) : Met l yJ3_checkIndex_8e157 (.code yJ3_checkIndex_8e157 cJ3_checkIndex_8e157 3 (some .int) :: wsGB) ({ frames := 0, cells := 0, slots := 0, locals := 0 }) (va_Pc [.int i, .int n, .null] (fun U => True)) (va_Qi (fun (r : Int32) (u : Unit) => True) (fun _ _ => True) (fun _ => False)) 0 0 (fun _ => False) := by
  refine Met.ofW (cc := cJ3_checkIndex_8e157) (maxL := 3) (ret := (some .int)) (by decide) rfl ?_
  intro p e s m args below meth c s₁ B hml hv
  obtain ⟨rfl, -⟩ := hv
  have hx := B.exec
  have hb := B.bytes
  have hr := B.returns
  have hts := atoms_spec (ws := (.code yJ3_checkIndex_8e157 cJ3_checkIndex_8e157 3 (some .int) :: wsGB)) B.pre
  have hown : s.vm.findClass RJ3 = some m.cls := findClass_of_methodNamed B.named
  have hlocks := B.notSynchronized
  have hS : va_S (fun _ => False) s.heap s.heap [] := va_S.rf
  have hl := lv_entry ([.int i, .int n, .null]) (n := 3) (Nat.le_of_ble_eq_true rfl)
  rw [lg_entry_eq]
  generalize (lg_sl ([.int i, .int n, .null]) ++ List.replicate (3 - (lg_sl ([.int i, .int n, .null])).length) Slot.unset).toArray = ls at hl ⊢
  have hl : lv_has ls 3 [(0, .int i), (1, .int n), (2, .null)] := hl
  refine lv_iload_n hx hb dJ3_checkIndex_8e157_0 rfl (lv_at hl 0 rfl) ?_
  refine lv_if_lt (tgt := 9) hx hb dJ3_checkIndex_8e157_1 (by decide) (fun c9 => absurd c9 h1) (fun c9 => ?_)
  refine lv_iload_n hx hb dJ3_checkIndex_8e157_4 rfl (lv_at hl 0 rfl) ?_
  refine lv_iload_n hx hb dJ3_checkIndex_8e157_5 rfl (lv_at hl 1 rfl) ?_
  refine lv_icmp_lt (tgt := 16) hx hb dJ3_checkIndex_8e157_6 (by decide) (fun c9 => ?_) (fun c9 => absurd h2 c9)
  refine lv_iload_n hx hb dJ3_checkIndex_8e157_16 rfl (lv_at hl 0 rfl) ?_
  exact W.iret (v := i) hx hb hr (fun t ht hW => ⟨⟨i, (), rfl, trivial, trivial⟩, hS.F ht⟩) hS.2.2 dJ3_checkIndex_8e157_17
set_option maxHeartbeats 4000000 in
set_option maxRecDepth 100000 in
theorem sJ3_checkRB (l : Launch) (t : Nat) (i n : Int32) (h1 : ¬ i < 0) (h2 : i < n) : Met l yJ3_checkIndex_8e157 (.code yJ3_checkIndex_8e157 cJ3_checkIndex_8e157 3 (some .int) :: wsGB) ({ frames := 0, cells := 0, slots := 0, locals := 0 }) (va_Pc [.int i, .int n, .ref t] (fun U => True)) (va_Qi (fun (r : Int32) (u : Unit) => True) (fun _ _ => True) (fun _ => False)) 0 0 (fun _ => False) := by
  refine Met.ofW (cc := cJ3_checkIndex_8e157) (maxL := 3) (ret := (some .int)) (by decide) rfl ?_
  intro p e s m args below meth c s₁ B hml hv
  obtain ⟨rfl, -⟩ := hv
  have hx := B.exec
  have hb := B.bytes
  have hr := B.returns
  have hts := atoms_spec (ws := (.code yJ3_checkIndex_8e157 cJ3_checkIndex_8e157 3 (some .int) :: wsGB)) B.pre
  have hown : s.vm.findClass RJ3 = some m.cls := findClass_of_methodNamed B.named
  have hlocks := B.notSynchronized
  have hS : va_S (fun _ => False) s.heap s.heap [] := va_S.rf
  have hl := lv_entry ([.int i, .int n, .ref t]) (n := 3) (Nat.le_of_ble_eq_true rfl)
  rw [lg_entry_eq]
  generalize (lg_sl ([.int i, .int n, .ref t]) ++ List.replicate (3 - (lg_sl ([.int i, .int n, .ref t])).length) Slot.unset).toArray = ls at hl ⊢
  have hl : lv_has ls 3 [(0, .int i), (1, .int n), (2, .ref t)] := hl
  refine lv_iload_n hx hb dJ3_checkIndex_8e157_0 rfl (lv_at hl 0 rfl) ?_
  refine lv_if_lt (tgt := 9) hx hb dJ3_checkIndex_8e157_1 (by decide) (fun c9 => absurd c9 h1) (fun c9 => ?_)
  refine lv_iload_n hx hb dJ3_checkIndex_8e157_4 rfl (lv_at hl 0 rfl) ?_
  refine lv_iload_n hx hb dJ3_checkIndex_8e157_5 rfl (lv_at hl 1 rfl) ?_
  refine lv_icmp_lt (tgt := 16) hx hb dJ3_checkIndex_8e157_6 (by decide) (fun c9 => ?_) (fun c9 => absurd h2 c9)
  refine lv_iload_n hx hb dJ3_checkIndex_8e157_16 rfl (lv_at hl 0 rfl) ?_
  exact W.iret (v := i) hx hb hr (fun t ht hW => ⟨⟨i, (), rfl, trivial, trivial⟩, hS.F ht⟩) hS.2.2 dJ3_checkIndex_8e157_17
set_option maxHeartbeats 4000000 in
set_option maxRecDepth 100000 in
theorem sJ0_checkB (l : Launch) (a b : Nat) (L : List Int32) (zf : Value) (hzf : zf = .null ∨ ∃ t, zf = .ref t) (i n : Int32) (h1 : ¬ i < 0) (h2 : i < n) : Met l yJ0_checkIndex_df160 (.code yJ0_checkIndex_df160 cJ0_checkIndex_df160 2 none :: wsGB) ({ frames := 1, cells := 0, slots := 0, locals := 22 }) (va_Pc [.int i, .int n] (fun U => gz_sp a b L zf (fun _ => False) U U.heap)) (va_Qv (fun (u : Unit) => True) (fun _ _ => True) (fun _ => False)) 0 0 (fun _ => False) := by
  refine Met.ofW (cc := cJ0_checkIndex_df160) (maxL := 2) (ret := none) (by decide) rfl ?_
  intro p e s m args below meth c s₁ B hml hv
  obtain ⟨rfl, hsp⟩ := hv
  have hx := B.exec
  have hb := B.bytes
  have hr := B.returns
  have hts := atoms_spec (ws := (.code yJ0_checkIndex_df160 cJ0_checkIndex_df160 2 none :: wsGB)) B.pre
  have hown : s.vm.findClass RJ0 = some m.cls := findClass_of_methodNamed B.named
  have hlocks := B.notSynchronized
  have hS : va_S (fun _ => False) s.heap s.heap [] := va_S.rf
  have hl := lv_entry ([.int i, .int n]) (n := 2) (Nat.le_of_ble_eq_true rfl)
  rw [lg_entry_eq]
  generalize (lg_sl ([.int i, .int n]) ++ List.replicate (2 - (lg_sl ([.int i, .int n])).length) Slot.unset).toArray = ls at hl ⊢
  have hl : lv_has ls 2 [(0, .int i), (1, .int n)] := hl
  refine lv_iload_n hx hb dJ0_checkIndex_df160_0 rfl (lv_at hl 0 rfl) ?_
  refine lv_iload_n hx hb dJ0_checkIndex_df160_1 rfl (lv_at hl 1 rfl) ?_
  refine va_gets hx hb hsp.2.1 hS hown (hts _ (List.mem_cons_of_mem _ mGB_75)) (fun _ h9 => h9) dJ0_checkIndex_df160_2 ?_
  rcases hzf with rfl | ⟨t, rfl⟩
  · refine va_calli (va_runS (As := [.int i, .int n, .null]) (rest := []) ⟨hx, hb, hml, hown, hts⟩ (sJ3_checkNB l i n h1 h2) (⟨callB_of 3 hts (gz_gP mGB_79 goodGB) rfl rfl rfl (hts _ (List.mem_cons_of_mem _ mGB_78)) (hts _ (List.mem_cons_of_mem _ mGB_76)) (by decide +kernel) ⟨Nat.le_of_ble_eq_true rfl, Nat.le_of_ble_eq_true rfl⟩, (hts _ (List.mem_cons_of_mem _ mGB_77))⟩) ⟨fun a U g mk q => ⟨q.1, trivial⟩, fun U hU hW => ⟨rfl, trivial⟩⟩ rfl rfl hl.1 rfl (lv_room (Nat.le_of_ble_eq_true rfl)) dJ0_checkIndex_df160_5 ⟨Nat.zero_le _, Nat.zero_le _⟩) hS (fun q _ h => h.elim) (fun q h => h.elim) (fun r u t H1 locs ht hvm hw hB hz1 hk1 hS => ?_)
    refine lv_pop hx hb dJ0_checkIndex_df160_8 rfl ?_
    exact W.vret hx hb hr (fun t ht hW => ⟨⟨(), rfl, trivial, trivial⟩, hS.F ht⟩) hS.2.2 dJ0_checkIndex_df160_9
  · refine va_calli (va_runS (As := [.int i, .int n, .ref t]) (rest := []) ⟨hx, hb, hml, hown, hts⟩ (sJ3_checkRB l t i n h1 h2) (⟨callB_of 3 hts (gz_gP mGB_79 goodGB) rfl rfl rfl (hts _ (List.mem_cons_of_mem _ mGB_78)) (hts _ (List.mem_cons_of_mem _ mGB_76)) (by decide +kernel) ⟨Nat.le_of_ble_eq_true rfl, Nat.le_of_ble_eq_true rfl⟩, (hts _ (List.mem_cons_of_mem _ mGB_77))⟩) ⟨fun a U g mk q => ⟨q.1, trivial⟩, fun U hU hW => ⟨rfl, trivial⟩⟩ rfl rfl hl.1 rfl (lv_room (Nat.le_of_ble_eq_true rfl)) dJ0_checkIndex_df160_5 ⟨Nat.zero_le _, Nat.zero_le _⟩) hS (fun q _ h => h.elim) (fun q h => h.elim) (fun r u t H1 locs ht hvm hw hB hz1 hk1 hS => ?_)
    refine lv_pop hx hb dJ0_checkIndex_df160_8 rfl ?_
    exact W.vret hx hb hr (fun t ht hW => ⟨⟨(), rfl, trivial, trivial⟩, hS.F ht⟩) hS.2.2 dJ0_checkIndex_df160_9
set_option maxHeartbeats 4000000 in
set_option maxRecDepth 100000 in
theorem sJ1_charAtB (l : Launch) (a b : Nat) (L : List Int32) (zf : Value) (hzf : zf = .null ∨ ∃ t, zf = .ref t) (hL : L.length ≤ 7) (i : Int32) (h0 : ¬ i < 0) (hi : i.toNatClampNeg < L.length) : Met l yJ1_charAt_3b067 (.code yJ1_charAt_3b067 cJ1_charAt_3b067 2 (some .char) :: wsGB) ({ frames := 2, cells := 0, slots := 0, locals := 43 }) (va_Pc [.ref b, .int i] (fun U => gz_sp a b L zf (fun _ => False) U U.heap)) (va_Qi (fun (r : Int32) (u : Unit) => r = (L.getD i.toNatClampNeg 0 &&& 255)) (fun _ _ => True) (fun _ => False)) 0 0 (fun _ => False) := by
  refine Met.ofW (cc := cJ1_charAt_3b067) (maxL := 2) (ret := (some .char)) (by decide) rfl ?_
  intro p e s m args below meth c s₁ B hml hv
  obtain ⟨rfl, hsp⟩ := hv
  have hx := B.exec
  have hb := B.bytes
  have hr := B.returns
  have hts := atoms_spec (ws := (.code yJ1_charAt_3b067 cJ1_charAt_3b067 2 (some .char) :: wsGB)) B.pre
  have hown : s.vm.findClass RJ1 = some m.cls := findClass_of_methodNamed B.named
  have hlocks := B.notSynchronized
  have hS : va_S (fun _ => False) s.heap s.heap [] := va_S.rf
  have hl := lv_entry ([.ref b, .int i]) (n := 2) (Nat.le_of_ble_eq_true rfl)
  rw [lg_entry_eq]
  generalize (lg_sl ([.ref b, .int i]) ++ List.replicate (2 - (lg_sl ([.ref b, .int i])).length) Slot.unset).toArray = ls at hl ⊢
  have hl : lv_has ls 2 [(0, .ref b), (1, .int i)] := hl
  have h2 : i < nI L.length := by rw [Int32.lt_iff_toInt_lt, nI_toInt (by omega)]; have h9 : i.toInt.toNat < L.length := hi; omega
  refine lv_iload_n hx hb dJ1_charAt_3b067_0 rfl (lv_at hl 1 rfl) ?_
  refine lv_aload_n hx hb dJ1_charAt_3b067_1 rfl (lv_at hl 0 rfl) ?_
  refine va_tlen (v := nI L.length) hx hb hsp.2.2.2.2.2 hS rfl dJ1_charAt_3b067_2 ?_
  refine va_callv (va_runS (As := [.int i, .int (nI L.length)]) (rest := []) ⟨hx, hb, hml, hown, hts⟩ (sJ0_checkB l a b L zf hzf i (nI L.length) h0 h2) (⟨callB_of 2 hts (gz_gP mGB_74 goodGB) rfl rfl rfl (hts _ (List.mem_cons_of_mem _ mGB_52)) (hts _ (List.mem_cons_of_mem _ mGB_72)) (by decide +kernel) ⟨Nat.le_of_ble_eq_true rfl, Nat.le_of_ble_eq_true rfl⟩, (hts _ (List.mem_cons_of_mem _ mGB_73))⟩) ⟨fun a U g mk q => ⟨q.1, gz_sp.moved (u := U) (U := U.calling g mk a) (Vm.Alike.refl U.vm) q.2⟩, fun U hU hW => ⟨rfl, by show gz_sp _ _ _ _ _ U U.heap; rw [hU]; exact gz_sp.moved hW.alike (hsp.kept hS.2.1)⟩⟩ rfl rfl hl.1 rfl (lv_room (Nat.le_of_ble_eq_true rfl)) dJ1_charAt_3b067_3 ⟨Nat.zero_le _, Nat.zero_le _⟩) hS (fun q _ h => h.elim) (fun q h => h.elim) (fun u t H1 locs ht hvm hw hB hz1 hk1 hS => ?_)
  refine lv_aload_n hx hb dJ1_charAt_3b067_6 rfl (lv_at hl 0 rfl) ?_
  refine lv_iload_n hx hb dJ1_charAt_3b067_7 rfl (lv_at hl 1 rfl) ?_
  refine va_tb (v := .int (L.getD i.toNatClampNeg 0)) hx hb hsp.2.2.2.2.2 hS (fun q => q.elim h0 (fun q => absurd hi (Nat.not_lt.mpr q))) rfl dJ1_charAt_3b067_8 ?_
  refine lv_sipush (v := 255) hx hb dJ1_charAt_3b067_9 (by decide) ?_
  refine lv_iand hx hb dJ1_charAt_3b067_12 ?_
  refine lv_i2c (v := (L.getD i.toNatClampNeg 0 &&& 255)) hx hb dJ1_charAt_3b067_13 (sc_c2 _) ?_
  exact W.zret (v := (L.getD i.toNatClampNeg 0 &&& 255)) hx hb hr (sc_nar _) (fun t ht hW => ⟨⟨(L.getD i.toNatClampNeg 0 &&& 255), (), rfl, rfl, trivial⟩, hS.F ht⟩) hS.2.2 dJ1_charAt_3b067_14
set_option maxHeartbeats 4000000 in
set_option maxRecDepth 100000 in
theorem sJ0_charAtB (l : Launch) (a b : Nat) (L : List Int32) (zf : Value) (hzf : zf = .null ∨ ∃ t, zf = .ref t) (hL : L.length ≤ 7) (i : Int32) (h0 : ¬ i < 0) (hi : i.toNatClampNeg < L.length) : Met l yJ0_charAt_5068e (.code yJ0_charAt_5068e cJ0_charAt_5068e 2 (some .char) :: wsGB) ({ frames := 3, cells := 0, slots := 0, locals := 64 }) (va_Pc [.ref a, .int i] (fun U => gz_sp a b L zf (fun _ => False) U U.heap)) (va_Qi (fun (r : Int32) (u : Unit) => r = (L.getD i.toNatClampNeg 0 &&& 255)) (fun _ _ => True) (fun _ => False)) 0 0 (fun _ => False) := by
  refine Met.ofW (cc := cJ0_charAt_5068e) (maxL := 2) (ret := (some .char)) (by decide) rfl ?_
  intro p e s m args below meth c s₁ B hml hv
  obtain ⟨rfl, hsp⟩ := hv
  have hx := B.exec
  have hb := B.bytes
  have hr := B.returns
  have hts := atoms_spec (ws := (.code yJ0_charAt_5068e cJ0_charAt_5068e 2 (some .char) :: wsGB)) B.pre
  have hown : s.vm.findClass RJ0 = some m.cls := findClass_of_methodNamed B.named
  have hlocks := B.notSynchronized
  have hS : va_S (fun _ => False) s.heap s.heap [] := va_S.rf
  have hl := lv_entry ([.ref a, .int i]) (n := 2) (Nat.le_of_ble_eq_true rfl)
  rw [lg_entry_eq]
  generalize (lg_sl ([.ref a, .int i]) ++ List.replicate (2 - (lg_sl ([.ref a, .int i])).length) Slot.unset).toArray = ls at hl ⊢
  have hl : lv_has ls 2 [(0, .ref a), (1, .int i)] := hl
  refine lv_aload_n hx hb dJ0_charAt_5068e_0 rfl (lv_at hl 0 rfl) ?_
  refine va_calli (va_runV (As := []) (rest := []) ⟨hx, hb, hml, hown, hts⟩ (sJ0_isLatin1B l a b L zf) (cwV 0 hts (gz_gV mGB_64 mGB_65 mGB_66 mGB_52 mGB_67 goodGB) rfl rfl rfl (by decide +kernel) ⟨Nat.le_of_ble_eq_true rfl, Nat.le_of_ble_eq_true rfl⟩) ⟨fun a U g mk q => ⟨q.1, gz_sp.moved (u := U) (U := U.calling g mk a) (Vm.Alike.refl U.vm) q.2⟩, (by obtain ⟨cell, h1, h2, h3, -⟩ := hsp.2.2.1.kept hS.2.1; exact ⟨cell, h1, h2, h3⟩), fun U hU hW => ⟨rfl, by show gz_sp _ _ _ _ _ U U.heap; rw [hU]; exact gz_sp.moved hW.alike (hsp.kept hS.2.1)⟩⟩ rfl rfl hl.1 rfl (lv_room (Nat.le_of_ble_eq_true rfl)) dJ0_charAt_5068e_1 ⟨Nat.zero_le _, Nat.zero_le _⟩) hS (fun q _ h => h.elim) (fun q h => h.elim) (fun r u t H1 locs ht hvm hw hB hz1 hk1 hS => ?_)
  have hw : r = 1 := hw
  subst hw
  refine lv_if_eq (tgt := 16) hx hb dJ0_charAt_5068e_4 (by decide) (fun c9 => absurd c9 (by decide)) (fun c9 => ?_)
  refine lv_aload_n hx hb dJ0_charAt_5068e_7 rfl (lv_at hl 0 rfl) ?_
  refine vk_getf hx hb hsp.2.2.2.2.1 hS hown (hts _ (List.mem_cons_of_mem _ mGB_54)) (fun _ h9 => h9) dJ0_charAt_5068e_8 ?_
  refine lv_iload_n hx hb dJ0_charAt_5068e_11 rfl (lv_at hl 1 rfl) ?_
  refine va_calli (va_runS (As := [.ref b, .int i]) (rest := []) ⟨hx, hb, hml, hown, hts⟩ (sJ1_charAtB l a b L zf hzf hL i h0 hi) (⟨callB_of 2 hts (gz_gP mGB_71 goodGB) rfl rfl rfl (hts _ (List.mem_cons_of_mem _ mGB_70)) (hts _ (List.mem_cons_of_mem _ mGB_68)) (by decide +kernel) ⟨Nat.le_of_ble_eq_true rfl, Nat.le_of_ble_eq_true rfl⟩, (hts _ (List.mem_cons_of_mem _ mGB_69))⟩) ⟨fun a U g mk q => ⟨q.1, gz_sp.moved (u := U) (U := U.calling g mk a) (Vm.Alike.refl U.vm) q.2⟩, fun U hU hW => ⟨rfl, by show gz_sp _ _ _ _ _ U U.heap; rw [hU]; exact gz_sp.moved hW.alike (hsp.kept hS.2.1)⟩⟩ rfl rfl hl.1 rfl (lv_room (Nat.le_of_ble_eq_true rfl)) dJ0_charAt_5068e_12 ⟨Nat.zero_le _, Nat.zero_le _⟩) hS (fun q _ h => h.elim) (fun q h => h.elim) (fun r u t H1 locs ht hvm hw hB hz1 hk1 hS => ?_)
  have hw : r = (L.getD i.toNatClampNeg 0 &&& 255) := hw
  subst hw
  exact W.zret (v := (L.getD i.toNatClampNeg 0 &&& 255)) hx hb hr (sc_nar _) (fun t ht hW => ⟨⟨(L.getD i.toNatClampNeg 0 &&& 255), (), rfl, rfl, trivial⟩, hS.F ht⟩) hS.2.2 dJ0_charAt_5068e_15
/-! a name's number among those told, by the first that is the same; -1: none -/
def pnG (f : Nat → Int32) (v : Int32) : Nat → Nat → Int
  | 0, _ => -1
  | k + 1, i => if f i = v then (i : Int) else pnG f v k (i + 1)
def pnF (f : Nat → Int32) (n v : Int32) : Int := pnG f v n.toInt.toNat 0
theorem pn_start (f : Nat → Int32) (n v : Int32) : pnF f n v = pnG f v (n.toInt - 0).toNat (0 : Int).toNat := by
  rw [Int.sub_zero]
  rfl
theorem pn_hit {f : Nat → Int32} {n v i : Int32} (h : pnF f n v = pnG f v (n.toInt - i.toInt).toNat i.toInt.toNat) (h0 : 0 ≤ i.toInt) (h1 : i.toInt < n.toInt) (e : f i.toNatClampNeg = v) : i.toInt = pnF f n v := by
  rw [h]
  obtain ⟨k, hk⟩ : ∃ k, (n.toInt - i.toInt).toNat = k + 1 := ⟨(n.toInt - i.toInt).toNat - 1, by omega⟩
  have e : f i.toInt.toNat = v := e
  rw [hk, pnG, if_pos e]
  omega
theorem pn_step {f : Nat → Int32} {n v i j : Int32} (h : pnF f n v = pnG f v (n.toInt - i.toInt).toNat i.toInt.toNat) (h0 : 0 ≤ i.toInt) (h1 : i.toInt < n.toInt) (e : ¬ f i.toNatClampNeg = v) (hj : j.toInt = i.toInt + 1) : pnF f n v = pnG f v (n.toInt - j.toInt).toNat j.toInt.toNat := by
  rw [h]
  obtain ⟨k, hk⟩ : ∃ k, (n.toInt - i.toInt).toNat = k + 1 := ⟨(n.toInt - i.toInt).toNat - 1, by omega⟩
  have e : ¬ f i.toInt.toNat = v := e
  rw [hk, pnG, if_neg e, hj, show (n.toInt - (i.toInt + 1)).toNat = k by omega, show (i.toInt + 1).toNat = i.toInt.toNat + 1 by omega]
theorem pn_end {f : Nat → Int32} {n v i : Int32} (h : pnF f n v = pnG f v (n.toInt - i.toInt).toNat i.toInt.toNat) (h1 : n.toInt ≤ i.toInt) : pnF f n v = -1 := by
  rw [h, show (n.toInt - i.toInt).toNat = 0 by omega]
  rfl
/-! whether a word of the text is this one -/
def wdP (ft : Nat → Int32) (b a tk : Int32) (L : List Int32) (n : Nat) : Prop := tk.toInt = 1 ∧ a.toInt - b.toInt = (L.length : Int) ∧ ∀ j, j < n → ft (b.toInt.toNat + j) = (L.getD j 0 &&& 255)
noncomputable def wdB (ft : Nat → Int32) (b a tk : Int32) (L : List Int32) : Int32 := @ite _ (wdP ft b a tk L L.length) (Classical.propDecidable _) 1 0
theorem wd_yes {ft : Nat → Int32} {b a tk : Int32} {L : List Int32} (h : wdP ft b a tk L L.length) : (wdB ft b a tk L).toInt = 1 := by
  unfold wdB
  rw [if_pos h]
  decide
theorem wd_not {ft : Nat → Int32} {b a tk : Int32} {L : List Int32} (h : ¬ wdP ft b a tk L L.length) : (wdB ft b a tk L).toInt = 0 := by
  unfold wdB
  rw [if_neg h]
  decide
theorem wd_le {ft : Nat → Int32} {b a tk : Int32} {L : List Int32} {n : Nat} (h : wdP ft b a tk L n) (hn : L.length ≤ n) : (wdB ft b a tk L).toInt = 1 := wd_yes ⟨h.1, h.2.1, fun j hj => h.2.2 j (by omega)⟩
theorem wd_0 {ft : Nat → Int32} {b a tk : Int32} {L : List Int32} (h1 : tk.toInt = 1) (h2 : a.toInt - b.toInt = (L.length : Int)) : wdP ft b a tk L (0 : Int).toNat := ⟨h1, h2, fun j hj => absurd hj (by simp)⟩
theorem wd_step {ft : Nat → Int32} {b a tk k i x y k2 : Int32} {L : List Int32} (h : wdP ft b a tk L k.toInt.toNat) (hk : 0 ≤ k.toInt) (hb : 0 ≤ b.toInt) (ei : i.toInt = b.toInt + k.toInt) (e1 : x = ft i.toNatClampNeg) (e2 : y = L.getD k.toNatClampNeg 0 &&& 255) (hxy : x = y) (e3 : k2.toInt = k.toInt + 1) : wdP ft b a tk L k2.toInt.toNat := by
  refine ⟨h.1, h.2.1, fun j hj => ?_⟩
  by_cases hj2 : j < k.toInt.toNat
  · exact h.2.2 j hj2
  · have hj3 : j = k.toInt.toNat := by omega
    have h5 : i.toNatClampNeg = b.toInt.toNat + j := by show i.toInt.toNat = _; omega
    rw [← h5, ← e1, hxy, e2, hj3]
    rfl
theorem wd_no {ft : Nat → Int32} {b a tk k i x y : Int32} {L : List Int32} (hk : 0 ≤ k.toInt) (hkl : k.toInt < (L.length : Int)) (hb : 0 ≤ b.toInt) (ei : i.toInt = b.toInt + k.toInt) (e1 : x = ft i.toNatClampNeg) (e2 : y = L.getD k.toNatClampNeg 0 &&& 255) (hxy : ¬ x = y) : (wdB ft b a tk L).toInt = 0 := by
  refine wd_not (fun h => hxy ?_)
  have h5 : i.toNatClampNeg = b.toInt.toNat + k.toInt.toNat := by show i.toInt.toNat = _; omega
  have h6 := h.2.2 k.toInt.toNat (by omega)
  rw [e1, h5, h6, e2]
  rfl
theorem gz_hddU {fk fm fl : Nat → Int32} {k : Nat} {vk vm vl : Int32} (h : ∀ j : Nat, j < 8 → ((fk j).toInt ≠ 0 ∨ (fm j).toInt + (fl j).toInt ≤ 23)) (hv : vk.toInt ≠ 0 ∨ vm.toInt + vl.toInt ≤ 23) : ∀ j : Nat, j < 8 → ((upd fk k vk j).toInt ≠ 0 ∨ (upd fm k vm j).toInt + (upd fl k vl j).toInt ≤ 23) := by
  intro j hj
  unfold upd
  by_cases hk : j = k
  · rw [if_pos hk, if_pos hk, if_pos hk]
    exact hv
  · rw [if_neg hk, if_neg hk, if_neg hk]
    exact h j hj
/-! a word of the text by the wide instruction -/
theorem gz_ldcwX {p : Program} {l : Launch} {e : Env} {R : Room} {s : State} {m : MethodId} {args : Array Value} {below : List Frame} {meth : Method} {c : Code} {T : State} {locs : List Loc} {cells slots : Nat} (X : Stand p l e R s m args below meth c T locs cells slots) (hexec : p.tables.exec = Jvm.exec) {own text : String} {index : Nat} {a : Addr} (hown : s.vm.findClass own = some m.cls) (hconst : (Cond.stringRef own index text).before args s = true) (hev : (Term.string own index).eval args s none [] s = some (.ref a)) {g : JFrame} (hg : g.method = m) (hdg : decode c.code g.pc = .ok (.ldc_w index, 3)) :
    ∀ target, Steps p.tables e below (T.setTop { g with pc := g.pc + 3, stack := .ref a :: g.stack }) target → Steps p.tables e below (T.setTop g) target := by
  obtain ⟨k, cf, i, a', hk, hcf, hcp, -, hr, hev'⟩ := Cond.stringRef_spec hown hconst
  cases hev.symm.trans hev'
  obtain ⟨k', hk', he⟩ := X.warmed.alike.2.2 _ _ hk
  have hr' : k'.resolved[index]? = some (some (.string a)) := by
    rcases X.warmed.entry hk hk' index with h | ⟨h, -⟩
    · rw [h]; exact hr
    · rw [hr] at h; cases h
  intro target hrest
  subst hg
  jvm_step X.here [hexec, hdg, ldc_w.wp_string (e := e) (s := T) (f := g) X.here.top hk' (by rw [he]; exact hcf) hcp hr']
  exact hrest
theorem gz_ldcwS {p : Program} {l : Launch} {e : Env} {R : Room} {s : State} {m : MethodId} {args : Array Value} {below : List Frame} {meth : Method} {c : Code} {H : Heap} {locs : List Loc} {cells slots : Nat} {Q : State → Prop} {cc : ByteArray} {pc : Nat} {ls : Array Slot} {rest : List Value} (hexec : p.tables.exec = Jvm.exec) (hb : c.code = cc) {own tx : String} {index q : Nat} (hown : s.vm.findClass own = some m.cls) (hZ : vk_R own index tx q s) (hdg : decode cc pc = .ok (.ldc_w index, 3)) (k : W p l e R s m args below meth c H locs cells slots Q (F0 m (pc + 3) ls (.ref q :: rest))) : W p l e R s m args below meth c H locs cells slots Q (F0 m pc ls rest) := by
  intro T hT X
  obtain ⟨t, a1, b1⟩ := k T hT X
  exact ⟨t, gz_ldcwX X hexec hown (text := tx) (a := q) hZ.1 hZ.2 (g := F0 m pc ls rest) rfl (by rw [hb]; exact hdg) t a1, b1⟩

theorem dX12_isWord_0 : decode cX12_isWord 0 = .ok (.aload_n 0, 1) := by decide +kernel
theorem dX12_isWord_1 : decode cX12_isWord 1 = .ok (.getfield 164, 3) := by decide +kernel
theorem dX12_isWord_4 : decode cX12_isWord 4 = .ok (.iconst 1, 1) := by decide +kernel
theorem dX12_isWord_5 : decode cX12_isWord 5 = .ok (.if_icmp .ne 23, 3) := by decide +kernel
theorem dX12_isWord_8 : decode cX12_isWord 8 = .ok (.aload_n 0, 1) := by decide +kernel
theorem dX12_isWord_9 : decode cX12_isWord 9 = .ok (.getfield 151, 3) := by decide +kernel
theorem dX12_isWord_12 : decode cX12_isWord 12 = .ok (.aload_n 0, 1) := by decide +kernel
theorem dX12_isWord_13 : decode cX12_isWord 13 = .ok (.getfield 158, 3) := by decide +kernel
theorem dX12_isWord_16 : decode cX12_isWord 16 = .ok (.isub, 1) := by decide +kernel
theorem dX12_isWord_17 : decode cX12_isWord 17 = .ok (.aload_n 1, 1) := by decide +kernel
theorem dX12_isWord_18 : decode cX12_isWord 18 = .ok (.invokevirtual 184, 3) := by decide +kernel
theorem dX12_isWord_21 : decode cX12_isWord 21 = .ok (.if_icmp .ne 7, 3) := by decide +kernel
theorem dX12_isWord_24 : decode cX12_isWord 24 = .ok (.iconst 1, 1) := by decide +kernel
theorem dX12_isWord_25 : decode cX12_isWord 25 = .ok (.goto 4, 3) := by decide +kernel
theorem dX12_isWord_28 : decode cX12_isWord 28 = .ok (.iconst 0, 1) := by decide +kernel
theorem dX12_isWord_29 : decode cX12_isWord 29 = .ok (.istore_n 2, 1) := by decide +kernel
theorem dX12_isWord_30 : decode cX12_isWord 30 = .ok (.iconst 0, 1) := by decide +kernel
theorem dX12_isWord_31 : decode cX12_isWord 31 = .ok (.istore_n 3, 1) := by decide +kernel
theorem dX12_isWord_32 : decode cX12_isWord 32 = .ok (.iload_n 3, 1) := by decide +kernel
theorem dX12_isWord_33 : decode cX12_isWord 33 = .ok (.aload_n 1, 1) := by decide +kernel
theorem dX12_isWord_34 : decode cX12_isWord 34 = .ok (.invokevirtual 184, 3) := by decide +kernel
theorem dX12_isWord_37 : decode cX12_isWord 37 = .ok (.if_icmp .ge 38, 3) := by decide +kernel
theorem dX12_isWord_40 : decode cX12_isWord 40 = .ok (.iload_n 2, 1) := by decide +kernel
theorem dX12_isWord_41 : decode cX12_isWord 41 = .ok (.ifCond .eq 34, 3) := by decide +kernel
theorem dX12_isWord_44 : decode cX12_isWord 44 = .ok (.aload_n 0, 1) := by decide +kernel
theorem dX12_isWord_45 : decode cX12_isWord 45 = .ok (.getfield 50, 3) := by decide +kernel
theorem dX12_isWord_48 : decode cX12_isWord 48 = .ok (.aload_n 0, 1) := by decide +kernel
theorem dX12_isWord_49 : decode cX12_isWord 49 = .ok (.getfield 158, 3) := by decide +kernel
theorem dX12_isWord_52 : decode cX12_isWord 52 = .ok (.iload_n 3, 1) := by decide +kernel
theorem dX12_isWord_53 : decode cX12_isWord 53 = .ok (.iadd, 1) := by decide +kernel
theorem dX12_isWord_54 : decode cX12_isWord 54 = .ok (.iaload, 1) := by decide +kernel
theorem dX12_isWord_55 : decode cX12_isWord 55 = .ok (.aload_n 1, 1) := by decide +kernel
theorem dX12_isWord_56 : decode cX12_isWord 56 = .ok (.iload_n 3, 1) := by decide +kernel
theorem dX12_isWord_57 : decode cX12_isWord 57 = .ok (.invokevirtual 190, 3) := by decide +kernel
theorem dX12_isWord_60 : decode cX12_isWord 60 = .ok (.if_icmp .ne 7, 3) := by decide +kernel
theorem dX12_isWord_63 : decode cX12_isWord 63 = .ok (.iconst 1, 1) := by decide +kernel
theorem dX12_isWord_64 : decode cX12_isWord 64 = .ok (.goto 4, 3) := by decide +kernel
theorem dX12_isWord_67 : decode cX12_isWord 67 = .ok (.iconst 0, 1) := by decide +kernel
theorem dX12_isWord_68 : decode cX12_isWord 68 = .ok (.istore_n 2, 1) := by decide +kernel
theorem dX12_isWord_69 : decode cX12_isWord 69 = .ok (.iinc 3 1, 3) := by decide +kernel
theorem dX12_isWord_72 : decode cX12_isWord 72 = .ok (.goto (-40), 3) := by decide +kernel
theorem dX12_isWord_75 : decode cX12_isWord 75 = .ok (.iload_n 2, 1) := by decide +kernel
theorem dX12_isWord_76 : decode cX12_isWord 76 = .ok (.ireturn, 1) := by decide +kernel
noncomputable def bfX12_isWord_29 (mi : Nat → Int32) (fm_tape : Nat → Int32) (wi : Nat) (K : (Int32 → Int32 → Int32)) (s0 : Int32) : Int32 := K s0 (0 : Int32)
noncomputable def bfX12_isWord_28 (mi : Nat → Int32) (fm_tape : Nat → Int32) (wi : Nat) (K : (Int32 → Int32 → Int32)) : Int32 := bfX12_isWord_29 mi fm_tape wi K (0 : Int32)
noncomputable def bfX12_isWord_68 (mi : Nat → Int32) (fm_tape : Nat → Int32) (wi : Nat) (K : (Int32 → Int32 → Int32)) (v3 : Int32) (s0 : Int32) : Int32 := K s0 (v3 + (1 : Int32))
noncomputable def bfX12_isWord_75 (mi : Nat → Int32) (fm_tape : Nat → Int32) (wi : Nat) (K : (Int32 → Int32 → Int32)) (v2 : Int32) : Int32 := v2
noncomputable def dfX12_isWord_32 (mi : Nat → Int32) (fm_tape : Nat → Int32) (wi : Nat) (K : (Int32 → Int32 → Int32)) (v2 : Int32) (v3 : Int32) : Int32 := if (nI (stL wi).length) ≤ v3 then (bfX12_isWord_75 mi fm_tape wi K v2) else (if v2 = (0 : Int32) then (bfX12_isWord_75 mi fm_tape wi K v2) else (if (fm_tape ((mi 30) + v3).toNatClampNeg) = ((stL wi).getD v3.toNatClampNeg 0 &&& 255) then (bfX12_isWord_68 mi fm_tape wi K v3 (1 : Int32)) else (bfX12_isWord_68 mi fm_tape wi K v3 (0 : Int32))))
noncomputable def lfX12_isWord (mi : Nat → Int32) (fm_tape : Nat → Int32) (wi : Nat) (z : Nat) : (Int32 → Int32 → Int32) := Nat.rec (motive := fun _ => (Int32 → Int32 → Int32)) (fun _ _ => (0)) (fun _ K => dfX12_isWord_32 mi fm_tape wi K) z
noncomputable def fX12_isWord (mi : Nat → Int32) (fm_tape : Nat → Int32) (wi : Nat) : Int32 := if (mi 31) = (1 : Int32) then (if ((mi 29) - (mi 30)) = (nI (stL wi).length) then (bfX12_isWord_29 mi fm_tape wi (lfX12_isWord mi fm_tape wi 1000000000) (1 : Int32)) else (bfX12_isWord_28 mi fm_tape wi (lfX12_isWord mi fm_tape wi 1000000000))) else (bfX12_isWord_28 mi fm_tape wi (lfX12_isWord mi fm_tape wi 1000000000))
set_option maxHeartbeats 4000000 in
set_option maxRecDepth 100000 in
theorem lp_sX12_isWordP {p : Program} {l : Launch} {e : Env} {R : Room} {s : State} {m : MethodId} {args : Array Value} {below : List Frame} {meth : Method} {c : Code} {Q : State → Prop} {A : Nat → Prop} {cells slots : Nat} {dC : Nat → ClassId} {dI : Nat → Nat → Nat} {RES : Int32} (h0 : Nat) (mi : Nat → Int32) (mr : Nat → Nat) (km_tape : ClassId) (fm_tape : Nat → Int32) (sa : Nat → Nat) (sb : Nat → Nat) (zf : Value) (wi : Nat) (gmi_0 : gi (mi 0) 0 100000) (gmi_1 : gi (mi 1) 0 100000) (gmi_2 : gi (mi 2) 0 100000) (gmi_4 : gi (mi 4) 0 1) (gmi_7 : gi (mi 7) 0 6) (gmi_10 : gi (mi 10) 0 24) (gmi_17 : gi (mi 17) 0 8) (gmi_23 : gi (mi 23) 0 300) (gmi_24 : gi (mi 24) 0 1) (gmi_26 : gi (mi 26) 0 1600) (gmi_29 : gi (mi 29) 0 1600) (gmi_30 : gi (mi 30) 0 1600) (gmi_32 : gi (mi 32) 0 100000) (gmi_33 : gi (mi 33) 0 1) (gmi_37 : gi (mi 37) 0 1) (gmi_41 : gi (mi 41) 0 24) (gmi_50 : gi (mi 50) 0 1) (gmi_51 : gi (mi 51) 0 1) (gmi_56 : gi (mi 56) 0 80) (hwi : wi < 18) (hpq0 : (mi 30).toInt ≤ (mi 29).toInt) (hpq1 : (mi 29).toInt ≤ (mi 26).toInt) (hpq2 : ((mi 31).toInt = 0 ∨ (mi 30).toInt < (mi 29).toInt)) (hx : p.tables.exec = Jvm.exec) (hb : c.code = cX12_isWord) (hml : c.maxLocals = 4) (hown : s.vm.findClass RX12 = some m.cls) (hts : ∀ w ∈ ((.code yX12_isWord cX12_isWord 4 (some .boolean) :: wsGB) : List Cond), w.before args s = true) (hK : va_K (dC, dI) vwCl [(km_tape, .int)] s) (hT : gz_ST RX12 stIB sa sb zf A s s.heap) (hRf : 4 ≤ R.frames) (hRl : 85 ≤ R.locals) (hRc : cells ≤ R.cells) (hRs : slots ≤ R.slots) (kr76 : ∀ (v : Int32) (H : Heap) (locs : List Loc) (ls : Array Slot), gi v 0 1 → v.toInt = (wdB fm_tape (mi 30) (mi 29) (mi 31) (stL wi)).toInt → v = RES → va_P (dC, dI) vwCl [(h0, .inr (12, fsMM mi mr)), ((mr 13), .inl (km_tape, 1600, .inl fm_tape))] H → va_S A s.heap H locs → lv_has ls 4 [] → W p l e R s m args below meth c H locs cells slots Q (F0 m 76 ls [.int v])) : ∀ z : Nat, (∀ (v2 : Int32) (v3 : Int32) (H : Heap) (locs : List Loc) (ls : Array Slot), gi v2 0 1 → gi v3 0 8 → (v2.toInt = 1 → wdP fm_tape (mi 30) (mi 29) (mi 31) (stL wi) (v3.toInt : Int).toNat) → (v2.toInt = 0 → (wdB fm_tape (mi 30) (mi 29) (mi 31) (stL wi)).toInt = 0) → (v2.toInt = 0 ∨ (mi 29).toInt - (mi 30).toInt = ((stL wi).length : Int)) → (lfX12_isWord mi fm_tape wi z) v2 v3 = RES → 17 + (-2) * v3.toInt < (z : Int) → va_P (dC, dI) vwCl [(h0, .inr (12, fsMM mi mr)), ((mr 13), .inl (km_tape, 1600, .inl fm_tape))] H → va_S A s.heap H locs → lv_has ls 4 [(0, .ref h0), (1, .ref (sa wi)), (2, .int v2), (3, .int v3)] → W p l e R s m args below meth c H locs cells slots Q (F0 m 32 ls [])) := by
  intro z
  induction z with
  | zero =>
    intro v2 v3 H locs ls gv2 gv3 hinv0 hinv1 hinv2 hF hmu hP hS hl
    exact absurd hmu (by have hv31 := gv3.1; have hv32 := gv3.2; omega)
  | succ z ih =>
      intro v2 v3 H locs ls gv2 gv3 hinv0 hinv1 hinv2 hF hmu hP hS hl
      have hF : dfX12_isWord_32 mi fm_tape wi (lfX12_isWord mi fm_tape wi z) v2 v3 = RES := hF
      refine lv_iload_n hx hb dX12_isWord_32 rfl (lv_at hl 3 rfl) ?_
      refine lv_aload_n hx hb dX12_isWord_33 rfl (lv_at hl 1 rfl) ?_
      refine va_calli (va_runV (As := []) (rest := [.int v3]) ⟨hx, hb, hml, hown, hts⟩ (sJ0_lengthB l (sa wi) (sb wi) (stL wi) zf (stL_len wi hwi)) (cwV 0 hts (gz_gV mGB_159 mGB_50 mGB_51 mGB_52 mGB_53 goodGB) rfl rfl rfl (by decide +kernel) ⟨Nat.le_trans (Nat.le_of_ble_eq_true rfl) hRf, Nat.le_trans (Nat.le_of_ble_eq_true rfl) hRl⟩) ⟨fun a U g mk q => ⟨q.1, gz_sp.moved (u := U) (U := U.calling g mk a) (Vm.Alike.refl U.vm) q.2⟩, (by obtain ⟨cell, h1, h2, h3, -⟩ := ((hT.2 wi hwi).2).2.2.1.kept hS.2.1; exact ⟨cell, h1, h2, h3⟩), fun U hU hW => ⟨rfl, by show gz_sp _ _ _ _ _ U U.heap; rw [hU]; exact gz_sp.moved hW.alike (((hT.2 wi hwi).2.kept hS.2.1).narrow (fun _ h => h.elim))⟩⟩ rfl rfl hl.1 rfl (lv_room (Nat.le_of_ble_eq_true rfl)) dX12_isWord_34 ⟨hRc, hRs⟩) hS (fun q _ h => h.elim) (fun q h => h.elim) (fun r_233 u t H1 locs ht hvm hw hB hz1 hk1 hS => ?_)
      have hP := gz_keep hP hk1
      generalize H1 = H at hP hS ⊢
      have ewr_233 : r_233 = nI (stL wi).length := hw
      have gr_233 : gi r_233 0 7 := gz_len hw (stL_len wi hwi)
      have hnr_233 : r_233.toInt = ((stL wi).length : Int) := gz_lenI hw (stL_len wi hwi)
      refine lv_icmp_ge (tgt := 75) hx hb dX12_isWord_37 (by decide) (fun c_234 => ?_) (fun c_234 => ?_)
      · have hF := gf_pos (by rw [ewr_233] at c_234; exact c_234) hF
        have hc_235 : r_233.toInt ≤ v3.toInt := by have h9 := Int32.le_iff_toInt_le.mp c_234; exact h9
        refine lv_iload_n hx hb dX12_isWord_75 rfl (lv_at hl 2 rfl) ?_
        exact kr76 v2 _ _ _ gv2 (show v2.toInt = (wdB fm_tape (mi 30) (mi 29) (mi 31) (stL wi)).toInt from by (rcases (show v2.toInt = 0 ∨ v2.toInt = 1 by have qgv3 := gv3.1; have rgv3 := gv3.2; have qgv2 := gv2.1; have rgv2 := gv2.2; have qgr_233 := gr_233.1; have rgr_233 := gr_233.2; have qgmi_30 := gmi_30.1; have rgmi_30 := gmi_30.2; have qgmi_29 := gmi_29.1; have rgmi_29 := gmi_29.2; have qgmi_26 := gmi_26.1; have rgmi_26 := gmi_26.2; omega) with h9 | h9); (have h8 := hinv1 h9; omega); (first | (have h8 := wd_le (hinv0 h9) (by have qgv3 := gv3.1; have rgv3 := gv3.2; have qgv2 := gv2.1; have rgv2 := gv2.2; have qgr_233 := gr_233.1; have rgr_233 := gr_233.2; have qgmi_30 := gmi_30.1; have rgmi_30 := gmi_30.2; have qgmi_29 := gmi_29.1; have rgmi_29 := gmi_29.2; have qgmi_26 := gmi_26.1; have rgmi_26 := gmi_26.2; omega); omega) | (have qgv3 := gv3.1; have rgv3 := gv3.2; have qgv2 := gv2.1; have rgv2 := gv2.2; have qgr_233 := gr_233.1; have rgr_233 := gr_233.2; have qgmi_30 := gmi_30.1; have rgmi_30 := gmi_30.2; have qgmi_29 := gmi_29.1; have rgmi_29 := gmi_29.2; have qgmi_26 := gmi_26.1; have rgmi_26 := gmi_26.2; omega))) hF hP hS (lv_sub hl [] rfl)
      · have hF := gf_neg (by rw [ewr_233] at c_234; exact c_234) hF
        have hc_236 : v3.toInt < r_233.toInt := by have h9 := Int32.lt_iff_toInt_lt.mp (Int32.not_le.mp c_234); exact h9
        have g_237 : gi v3 0 6 := gi_lt_l (Int32.not_le.mp c_234) gv3 gr_233 (by decide)
        have g_238 : gi r_233 1 7 := gi_lt_r (Int32.not_le.mp c_234) gv3 gr_233 (by decide)
        refine lv_iload_n hx hb dX12_isWord_40 rfl (lv_at hl 2 rfl) ?_
        refine lv_if_eq (tgt := 75) hx hb dX12_isWord_41 (by decide) (fun c_239 => ?_) (fun c_239 => ?_)
        · have hF := gf_pos c_239 hF
          have hc_240 : v2.toInt = 0 := by have h9 := congrArg Int32.toInt c_239; rw [show (0 : Int32).toInt = 0 from by decide] at h9; exact h9
          have g_241 : gi v2 0 0 := gi_eq c_239 (gi_c 0 0 (by decide))
          refine lv_iload_n hx hb dX12_isWord_75 rfl (lv_at hl 2 rfl) ?_
          exact kr76 v2 _ _ _ (gi_w g_241 (by decide)) (show v2.toInt = (wdB fm_tape (mi 30) (mi 29) (mi 31) (stL wi)).toInt from by (rcases (show v2.toInt = 0 ∨ v2.toInt = 1 by have qgv3 := g_237.1; have rgv3 := g_237.2; have qgv2 := g_241.1; have rgv2 := g_241.2; have qgr_233 := g_238.1; have rgr_233 := g_238.2; have qgmi_30 := gmi_30.1; have rgmi_30 := gmi_30.2; have qgmi_29 := gmi_29.1; have rgmi_29 := gmi_29.2; have qgmi_26 := gmi_26.1; have rgmi_26 := gmi_26.2; omega) with h9 | h9); (have h8 := hinv1 h9; omega); (first | (have h8 := wd_le (hinv0 h9) (by have qgv3 := g_237.1; have rgv3 := g_237.2; have qgv2 := g_241.1; have rgv2 := g_241.2; have qgr_233 := g_238.1; have rgr_233 := g_238.2; have qgmi_30 := gmi_30.1; have rgmi_30 := gmi_30.2; have qgmi_29 := gmi_29.1; have rgmi_29 := gmi_29.2; have qgmi_26 := gmi_26.1; have rgmi_26 := gmi_26.2; omega); omega) | (have qgv3 := g_237.1; have rgv3 := g_237.2; have qgv2 := g_241.1; have rgv2 := g_241.2; have qgr_233 := g_238.1; have rgr_233 := g_238.2; have qgmi_30 := gmi_30.1; have rgmi_30 := gmi_30.2; have qgmi_29 := gmi_29.1; have rgmi_29 := gmi_29.2; have qgmi_26 := gmi_26.1; have rgmi_26 := gmi_26.2; omega))) hF hP hS (lv_sub hl [] rfl)
        · have hF := gf_neg c_239 hF
          have hc_242 : v2.toInt ≠ 0 := fun h9 => c_239 (Int32.toInt_inj.mp (by rw [show (0 : Int32).toInt = 0 from by decide]; exact h9))
          have g_243 : gi v2 1 1 := gi_ne_lo c_239 gv2 (gi_c 0 0 (by decide)) (by decide)
          refine lv_aload_n hx hb dX12_isWord_44 rfl (lv_at hl 0 rfl) ?_
          refine va_get (D := (dC, dI)) (ci := 12) (v := .ref (mr 13)) (C := RX12) (T := TX12) (N := 57) hx hb hts (fun w h => List.mem_cons_of_mem _ (jnGB_X12 w h)) hown hK hP 0 rfl rfl 25 (by decide) (hts _ (List.mem_cons_of_mem _ mGB_24)) (fun _ h9 => h9) rfl dX12_isWord_45 ?_
          refine lv_aload_n hx hb dX12_isWord_48 rfl (lv_at hl 0 rfl) ?_
          refine va_get (D := (dC, dI)) (ci := 12) (v := .int (mi 30)) (C := RX12) (T := TX12) (N := 57) hx hb hts (fun w h => List.mem_cons_of_mem _ (jnGB_X12 w h)) hown hK hP 0 rfl rfl 30 (by decide) (hts _ (List.mem_cons_of_mem _ mGB_135)) (fun _ h9 => h9) rfl dX12_isWord_49 ?_
          refine lv_iload_n hx hb dX12_isWord_52 rfl (lv_at hl 3 rfl) ?_
          refine lv_iadd hx hb dX12_isWord_53 ?_
          refine lv_topi (fun x_244 ex_244 => ?_)
          have gx_244 : gi x_244 0 1606 := gi_add ex_244 gmi_30 g_237 (by decide)
          refine va_iald hx hb hK hP 1 0 rfl rfl (gz_inR (n := 1600) (by have qgx_244 := gx_244.1; have rgx_244 := gx_244.2; have igx_244 : x_244.toInt = (mi 30).toInt + v3.toInt := (by have h9 := gi_addI ex_244 (by have h1 := gmi_30.1; have h2 := g_237.1; have h3 := gmi_30.2; have h4 := g_237.2; omega) (by have h1 := gmi_30.1; have h2 := g_237.1; have h3 := gmi_30.2; have h4 := g_237.2; omega); exact h9); have qgv3 := g_237.1; have rgv3 := g_237.2; have qgmi_30 := gmi_30.1; have rgmi_30 := gmi_30.2; have qgv2 := g_243.1; have rgv2 := g_243.2; have qgr_233 := g_238.1; have rgr_233 := g_238.2; have qgmi_29 := gmi_29.1; have rgmi_29 := gmi_29.2; have qgmi_26 := gmi_26.1; have rgmi_26 := gmi_26.2; omega) (by have qgx_244 := gx_244.1; have rgx_244 := gx_244.2; have igx_244 : x_244.toInt = (mi 30).toInt + v3.toInt := (by have h9 := gi_addI ex_244 (by have h1 := gmi_30.1; have h2 := g_237.1; have h3 := gmi_30.2; have h4 := g_237.2; omega) (by have h1 := gmi_30.1; have h2 := g_237.1; have h3 := gmi_30.2; have h4 := g_237.2; omega); exact h9); have qgv3 := g_237.1; have rgv3 := g_237.2; have qgmi_30 := gmi_30.1; have rgmi_30 := gmi_30.2; have qgv2 := g_243.1; have rgv2 := g_243.2; have qgr_233 := g_238.1; have rgr_233 := g_238.2; have qgmi_29 := gmi_29.1; have rgmi_29 := gmi_29.2; have qgmi_26 := gmi_26.1; have rgmi_26 := gmi_26.2; omega)) dX12_isWord_54 ?_
          refine lv_topi (fun x_245 ex_245 => ?_)
          have hlx_245 : x_245.toInt = (fm_tape x_244.toNatClampNeg).toInt := congrArg Int32.toInt ex_245
          refine lv_aload_n hx hb dX12_isWord_55 rfl (lv_at hl 1 rfl) ?_
          refine lv_iload_n hx hb dX12_isWord_56 rfl (lv_at hl 3 rfl) ?_
          refine va_calli (va_runV (As := [.int v3]) (rest := [.int x_245]) ⟨hx, hb, hml, hown, hts⟩ (sJ0_charAtB l (sa wi) (sb wi) (stL wi) zf hT.1 (stL_len wi hwi) v3 (gz_nlt0 (by have qgv3 := g_237.1; have rgv3 := g_237.2; have qgv2 := g_243.1; have rgv2 := g_243.2; have qgr_233 := g_238.1; have rgr_233 := g_238.2; have qgmi_30 := gmi_30.1; have rgmi_30 := gmi_30.2; have qgmi_29 := gmi_29.1; have rgmi_29 := gmi_29.2; have qgmi_26 := gmi_26.1; have rgmi_26 := gmi_26.2; omega)) (gz_chi (by have qgv3 := g_237.1; have rgv3 := g_237.2; have qgv2 := g_243.1; have rgv2 := g_243.2; have qgr_233 := g_238.1; have rgr_233 := g_238.2; have qgmi_30 := gmi_30.1; have rgmi_30 := gmi_30.2; have qgmi_29 := gmi_29.1; have rgmi_29 := gmi_29.2; have qgmi_26 := gmi_26.1; have rgmi_26 := gmi_26.2; omega) (by have qgv3 := g_237.1; have rgv3 := g_237.2; have qgv2 := g_243.1; have rgv2 := g_243.2; have qgr_233 := g_238.1; have rgr_233 := g_238.2; have qgmi_30 := gmi_30.1; have rgmi_30 := gmi_30.2; have qgmi_29 := gmi_29.1; have rgmi_29 := gmi_29.2; have qgmi_26 := gmi_26.1; have rgmi_26 := gmi_26.2; omega))) (cwV 1 hts (gz_gV mGB_160 mGB_61 mGB_62 mGB_52 mGB_63 goodGB) rfl rfl rfl (by decide +kernel) ⟨Nat.le_trans (Nat.le_of_ble_eq_true rfl) hRf, Nat.le_trans (Nat.le_of_ble_eq_true rfl) hRl⟩) ⟨fun a U g mk q => ⟨q.1, gz_sp.moved (u := U) (U := U.calling g mk a) (Vm.Alike.refl U.vm) q.2⟩, (by obtain ⟨cell, h1, h2, h3, -⟩ := ((hT.2 wi hwi).2).2.2.1.kept hS.2.1; exact ⟨cell, h1, h2, h3⟩), fun U hU hW => ⟨rfl, by show gz_sp _ _ _ _ _ U U.heap; rw [hU]; exact gz_sp.moved hW.alike (((hT.2 wi hwi).2.kept hS.2.1).narrow (fun _ h => h.elim))⟩⟩ rfl rfl hl.1 rfl (lv_room (Nat.le_of_ble_eq_true rfl)) dX12_isWord_57 ⟨hRc, hRs⟩) hS (fun q _ h => h.elim) (fun q h => h.elim) (fun r_246 u t H1 locs ht hvm hw hB hz1 hk1 hS => ?_)
          have hP := gz_keep hP hk1
          generalize H1 = H at hP hS ⊢
          have her_246 : r_246 = (stL wi).getD v3.toNatClampNeg 0 &&& 255 := hw
          refine lv_icmp_ne (tgt := 67) hx hb dX12_isWord_60 (by decide) (fun c_247 => ?_) (fun c_247 => ?_)
          · have hF := gf_neg (by rw [her_246, ex_245, ex_244] at c_247; exact c_247) hF
            have hc_248 : x_245.toInt ≠ r_246.toInt := fun h9 => c_247 (Int32.toInt_inj.mp (by exact h9))
            refine lv_iconst (v := 0) hx hb dX12_isWord_67 (by decide) ?_
            refine lv_istore_n (lv' := [(2, .int 0), (0, .ref h0), (1, .ref (sa wi)), (3, .int v3)]) hx hb dX12_isWord_68 rfl hl (by decide) rfl (fun ls hl => ?_)
            obtain ⟨x_249, ex_249⟩ : ∃ y : Int32, y = v3 + 1 := ⟨_, rfl⟩
            have gx_249 : gi x_249 1 7 := gi_add ex_249 g_237 (gi_c 1 1 (by decide)) (by decide)
            refine lv_iinc (v := x_249) (lv' := [(3, .int x_249), (2, .int 0), (0, .ref h0), (1, .ref (sa wi))]) hx hb dX12_isWord_69 hl (k := 3) rfl (by rw [ex_249]; rfl) (by decide) rfl (fun ls hl => ?_)
            refine lv_goto (tgt := 32) hx hb dX12_isWord_72 (by decide) ?_
            exact ih 0 x_249 _ _ _ (gi_w (gi_c 0 0 (by decide)) (by decide)) (gi_w gx_249 (by decide)) (show ((0 : Int) = 1 → wdP fm_tape (mi 30) (mi 29) (mi 31) (stL wi) (x_249.toInt : Int).toNat) from by intro h9; exact absurd h9 (by decide)) (show ((0 : Int) = 0 → (wdB fm_tape (mi 30) (mi 29) (mi 31) (stL wi)).toInt = 0) from by intro h9; exact wd_no (by have qgv3 := g_237.1; have rgv3 := g_237.2; have qgv2 := g_243.1; have rgv2 := g_243.2; have qgr_233 := g_238.1; have rgr_233 := g_238.2; have qgmi_30 := gmi_30.1; have rgmi_30 := gmi_30.2; have qgmi_29 := gmi_29.1; have rgmi_29 := gmi_29.2; have qgmi_26 := gmi_26.1; have rgmi_26 := gmi_26.2; omega) (by have qgv3 := g_237.1; have rgv3 := g_237.2; have qgv2 := g_243.1; have rgv2 := g_243.2; have qgr_233 := g_238.1; have rgr_233 := g_238.2; have qgmi_30 := gmi_30.1; have rgmi_30 := gmi_30.2; have qgmi_29 := gmi_29.1; have rgmi_29 := gmi_29.2; have qgmi_26 := gmi_26.1; have rgmi_26 := gmi_26.2; omega) (by have qgv3 := g_237.1; have rgv3 := g_237.2; have qgv2 := g_243.1; have rgv2 := g_243.2; have qgr_233 := g_238.1; have rgr_233 := g_238.2; have qgmi_30 := gmi_30.1; have rgmi_30 := gmi_30.2; have qgmi_29 := gmi_29.1; have rgmi_29 := gmi_29.2; have qgmi_26 := gmi_26.1; have rgmi_26 := gmi_26.2; omega) (by have qgx_244 := gx_244.1; have rgx_244 := gx_244.2; have igx_244 : x_244.toInt = (mi 30).toInt + v3.toInt := (by have h9 := gi_addI ex_244 (by have h1 := gmi_30.1; have h2 := g_237.1; have h3 := gmi_30.2; have h4 := g_237.2; omega) (by have h1 := gmi_30.1; have h2 := g_237.1; have h3 := gmi_30.2; have h4 := g_237.2; omega); exact h9); have qgv3 := g_237.1; have rgv3 := g_237.2; have qgmi_30 := gmi_30.1; have rgmi_30 := gmi_30.2; have qgv2 := g_243.1; have rgv2 := g_243.2; have qgr_233 := g_238.1; have rgr_233 := g_238.2; have qgmi_29 := gmi_29.1; have rgmi_29 := gmi_29.2; have qgmi_26 := gmi_26.1; have rgmi_26 := gmi_26.2; omega) ex_245 her_246 c_247) (show ((0 : Int32).toInt = 0 ∨ (mi 29).toInt - (mi 30).toInt = ((stL wi).length : Int)) from by have k0 : (0 : Int32).toInt = 0 := (by decide); have qgv3 := g_237.1; have rgv3 := g_237.2; have qgv2 := g_243.1; have rgv2 := g_243.2; have qgr_233 := g_238.1; have rgr_233 := g_238.2; have qgmi_30 := gmi_30.1; have rgmi_30 := gmi_30.2; have qgmi_29 := gmi_29.1; have rgmi_29 := gmi_29.2; have qgmi_26 := gmi_26.1; have rgmi_26 := gmi_26.2; omega) (by rw [ex_249]; exact hF) (by have av3 := gv3.1; have bv3 := gv3.2; have qgx_249 := gx_249.1; have rgx_249 := gx_249.2; have igx_249 : x_249.toInt = v3.toInt + 1 := (by have hc1 : (1 : Int32).toInt = 1 := (by decide); have h9 := gi_addI ex_249 (by have h1 := g_237.1; have h2 := (gi_c 1 1 (by decide)).1; have h3 := g_237.2; have h4 := (gi_c 1 1 (by decide)).2; omega) (by have h1 := g_237.1; have h2 := (gi_c 1 1 (by decide)).1; have h3 := g_237.2; have h4 := (gi_c 1 1 (by decide)).2; omega); rw [hc1] at h9; exact h9); have qgv3 := g_237.1; have rgv3 := g_237.2; omega) hP hS (lv_sub hl [2, 3, 1, 0] rfl)
          · have hF := gf_pos (by rw [her_246, ex_245, ex_244] at c_247; exact c_247) hF
            have hc_250 : x_245.toInt = r_246.toInt := by have h9 := congrArg Int32.toInt c_247; exact h9
            refine lv_iconst (v := 1) hx hb dX12_isWord_63 (by decide) ?_
            refine lv_goto (tgt := 68) hx hb dX12_isWord_64 (by decide) ?_
            refine lv_istore_n (lv' := [(2, .int 1), (0, .ref h0), (1, .ref (sa wi)), (3, .int v3)]) hx hb dX12_isWord_68 rfl hl (by decide) rfl (fun ls hl => ?_)
            obtain ⟨x_251, ex_251⟩ : ∃ y : Int32, y = v3 + 1 := ⟨_, rfl⟩
            have gx_251 : gi x_251 1 7 := gi_add ex_251 g_237 (gi_c 1 1 (by decide)) (by decide)
            refine lv_iinc (v := x_251) (lv' := [(3, .int x_251), (2, .int 1), (0, .ref h0), (1, .ref (sa wi))]) hx hb dX12_isWord_69 hl (k := 3) rfl (by rw [ex_251]; rfl) (by decide) rfl (fun ls hl => ?_)
            refine lv_goto (tgt := 32) hx hb dX12_isWord_72 (by decide) ?_
            exact ih 1 x_251 _ _ _ (gi_w (gi_c 1 1 (by decide)) (by decide)) (gi_w gx_251 (by decide)) (show ((1 : Int) = 1 → wdP fm_tape (mi 30) (mi 29) (mi 31) (stL wi) (x_251.toInt : Int).toNat) from by intro h9; exact wd_step (hinv0 (by have qgv3 := g_237.1; have rgv3 := g_237.2; have qgv2 := g_243.1; have rgv2 := g_243.2; have qgr_233 := g_238.1; have rgr_233 := g_238.2; have qgmi_30 := gmi_30.1; have rgmi_30 := gmi_30.2; have qgmi_29 := gmi_29.1; have rgmi_29 := gmi_29.2; have qgmi_26 := gmi_26.1; have rgmi_26 := gmi_26.2; omega)) (by have qgv3 := g_237.1; have rgv3 := g_237.2; have qgv2 := g_243.1; have rgv2 := g_243.2; have qgr_233 := g_238.1; have rgr_233 := g_238.2; have qgmi_30 := gmi_30.1; have rgmi_30 := gmi_30.2; have qgmi_29 := gmi_29.1; have rgmi_29 := gmi_29.2; have qgmi_26 := gmi_26.1; have rgmi_26 := gmi_26.2; omega) (by have qgv3 := g_237.1; have rgv3 := g_237.2; have qgv2 := g_243.1; have rgv2 := g_243.2; have qgr_233 := g_238.1; have rgr_233 := g_238.2; have qgmi_30 := gmi_30.1; have rgmi_30 := gmi_30.2; have qgmi_29 := gmi_29.1; have rgmi_29 := gmi_29.2; have qgmi_26 := gmi_26.1; have rgmi_26 := gmi_26.2; omega) (by have qgx_244 := gx_244.1; have rgx_244 := gx_244.2; have igx_244 : x_244.toInt = (mi 30).toInt + v3.toInt := (by have h9 := gi_addI ex_244 (by have h1 := gmi_30.1; have h2 := g_237.1; have h3 := gmi_30.2; have h4 := g_237.2; omega) (by have h1 := gmi_30.1; have h2 := g_237.1; have h3 := gmi_30.2; have h4 := g_237.2; omega); exact h9); have qgv3 := g_237.1; have rgv3 := g_237.2; have qgmi_30 := gmi_30.1; have rgmi_30 := gmi_30.2; have qgv2 := g_243.1; have rgv2 := g_243.2; have qgr_233 := g_238.1; have rgr_233 := g_238.2; have qgmi_29 := gmi_29.1; have rgmi_29 := gmi_29.2; have qgmi_26 := gmi_26.1; have rgmi_26 := gmi_26.2; omega) ex_245 her_246 c_247 (by have qgx_251 := gx_251.1; have rgx_251 := gx_251.2; have igx_251 : x_251.toInt = v3.toInt + 1 := (by have hc1 : (1 : Int32).toInt = 1 := (by decide); have h9 := gi_addI ex_251 (by have h1 := g_237.1; have h2 := (gi_c 1 1 (by decide)).1; have h3 := g_237.2; have h4 := (gi_c 1 1 (by decide)).2; omega) (by have h1 := g_237.1; have h2 := (gi_c 1 1 (by decide)).1; have h3 := g_237.2; have h4 := (gi_c 1 1 (by decide)).2; omega); rw [hc1] at h9; exact h9); have qgv3 := g_237.1; have rgv3 := g_237.2; have qgv2 := g_243.1; have rgv2 := g_243.2; have qgr_233 := g_238.1; have rgr_233 := g_238.2; have qgmi_30 := gmi_30.1; have rgmi_30 := gmi_30.2; have qgmi_29 := gmi_29.1; have rgmi_29 := gmi_29.2; have qgmi_26 := gmi_26.1; have rgmi_26 := gmi_26.2; omega)) (show ((1 : Int) = 0 → (wdB fm_tape (mi 30) (mi 29) (mi 31) (stL wi)).toInt = 0) from by intro h9; exact absurd h9 (by decide)) (show ((1 : Int32).toInt = 0 ∨ (mi 29).toInt - (mi 30).toInt = ((stL wi).length : Int)) from by have k1 : (1 : Int32).toInt = 1 := (by decide); have qgv3 := g_237.1; have rgv3 := g_237.2; have qgv2 := g_243.1; have rgv2 := g_243.2; have qgr_233 := g_238.1; have rgr_233 := g_238.2; have qgmi_30 := gmi_30.1; have rgmi_30 := gmi_30.2; have qgmi_29 := gmi_29.1; have rgmi_29 := gmi_29.2; have qgmi_26 := gmi_26.1; have rgmi_26 := gmi_26.2; omega) (by rw [ex_251]; exact hF) (by have av3 := gv3.1; have bv3 := gv3.2; have qgx_251 := gx_251.1; have rgx_251 := gx_251.2; have igx_251 : x_251.toInt = v3.toInt + 1 := (by have hc1 : (1 : Int32).toInt = 1 := (by decide); have h9 := gi_addI ex_251 (by have h1 := g_237.1; have h2 := (gi_c 1 1 (by decide)).1; have h3 := g_237.2; have h4 := (gi_c 1 1 (by decide)).2; omega) (by have h1 := g_237.1; have h2 := (gi_c 1 1 (by decide)).1; have h3 := g_237.2; have h4 := (gi_c 1 1 (by decide)).2; omega); rw [hc1] at h9; exact h9); have qgv3 := g_237.1; have rgv3 := g_237.2; omega) hP hS (lv_sub hl [2, 3, 1, 0] rfl)
set_option maxHeartbeats 4000000 in
set_option maxRecDepth 100000 in
theorem sX12_isWordP (l : Launch) (dC : Nat → ClassId) (dI : Nat → Nat → Nat) (h0 : Nat) (mi : Nat → Int32) (mr : Nat → Nat) (km_tape : ClassId) (fm_tape : Nat → Int32) (sa : Nat → Nat) (sb : Nat → Nat) (zf : Value) (wi : Nat) (gmi_0 : gi (mi 0) 0 100000) (gmi_1 : gi (mi 1) 0 100000) (gmi_2 : gi (mi 2) 0 100000) (gmi_4 : gi (mi 4) 0 1) (gmi_7 : gi (mi 7) 0 6) (gmi_10 : gi (mi 10) 0 24) (gmi_17 : gi (mi 17) 0 8) (gmi_23 : gi (mi 23) 0 300) (gmi_24 : gi (mi 24) 0 1) (gmi_26 : gi (mi 26) 0 1600) (gmi_29 : gi (mi 29) 0 1600) (gmi_30 : gi (mi 30) 0 1600) (gmi_32 : gi (mi 32) 0 100000) (gmi_33 : gi (mi 33) 0 1) (gmi_37 : gi (mi 37) 0 1) (gmi_41 : gi (mi 41) 0 24) (gmi_50 : gi (mi 50) 0 1) (gmi_51 : gi (mi 51) 0 1) (gmi_56 : gi (mi 56) 0 80) (hwi : wi < 18) (hpq0 : (mi 30).toInt ≤ (mi 29).toInt) (hpq1 : (mi 29).toInt ≤ (mi 26).toInt) (hpq2 : ((mi 31).toInt = 0 ∨ (mi 30).toInt < (mi 29).toInt)) : Met l yX12_isWord (.code yX12_isWord cX12_isWord 4 (some .boolean) :: wsGB) ({ frames := 4, cells := 0, slots := 0, locals := 85 }) (va_Pc [.ref h0, .ref (sa wi)] (fun U => va_P (dC, dI) vwCl [(h0, .inr (12, fsMM mi mr)), ((mr 13), .inl (km_tape, 1600, .inl fm_tape))] U.heap ∧ va_K (dC, dI) vwCl [(km_tape, .int)] U ∧ gz_ST RX12 stIB sa sb zf (fun _ => False) U U.heap)) (va_Qi (fun (r : Int32) (u : Unit) => (gi r 0 1 ∧ r.toInt = (wdB fm_tape (mi 30) (mi 29) (mi 31) (stL wi)).toInt) ∧ r = fX12_isWord mi fm_tape wi) (fun _ _ => True) (fun _ => False)) 0 0 (fun _ => False) := by
  refine Met.ofW (cc := cX12_isWord) (maxL := 4) (ret := (some .boolean)) (by decide) rfl ?_
  intro p e s m args below meth c s₁ B hml hv
  obtain ⟨rfl, hP, hK, hT⟩ := hv
  have hx := B.exec
  have hb := B.bytes
  have hr := B.returns
  have hts := atoms_spec (ws := (.code yX12_isWord cX12_isWord 4 (some .boolean) :: wsGB)) B.pre
  have hown : s.vm.findClass RX12 = some m.cls := findClass_of_methodNamed B.named
  have hlocks := B.notSynchronized
  have hS : va_S (fun _ => False) s.heap s.heap [] := va_S.rf
  have hl := lv_entry ([.ref h0, .ref (sa wi)]) (n := 4) (Nat.le_of_ble_eq_true rfl)
  rw [lg_entry_eq]
  generalize (lg_sl ([.ref h0, .ref (sa wi)]) ++ List.replicate (4 - (lg_sl ([.ref h0, .ref (sa wi)])).length) Slot.unset).toArray = ls at hl ⊢
  have hl : lv_has ls 4 [(0, .ref h0), (1, .ref (sa wi))] := hl
  obtain ⟨RES, hF⟩ : ∃ R9, fX12_isWord mi fm_tape wi = R9 := ⟨_, rfl⟩
  have hR9 := hF
  refine lv_aload_n hx hb dX12_isWord_0 rfl (lv_at hl 0 rfl) ?_
  refine va_get (D := (dC, dI)) (ci := 12) (v := .int (mi 31)) (C := RX12) (T := TX12) (N := 57) hx hb hts (fun w h => List.mem_cons_of_mem _ (jnGB_X12 w h)) hown hK hP 0 rfl rfl 31 (by decide) (hts _ (List.mem_cons_of_mem _ mGB_116)) (fun _ h9 => h9) rfl dX12_isWord_1 ?_
  refine lv_iconst (v := 1) hx hb dX12_isWord_4 (by decide) ?_
  refine lv_icmp_ne (tgt := 28) hx hb dX12_isWord_5 (by decide) (fun c_252 => ?_) (fun c_252 => ?_)
  · have hF := gf_neg c_252 hF
    have hc_253 : (mi 31).toInt ≠ 1 := fun h9 => c_252 (Int32.toInt_inj.mp (by rw [show (1 : Int32).toInt = 1 from by decide]; exact h9))
    refine lv_iconst (v := 0) hx hb dX12_isWord_28 (by decide) ?_
    refine lv_istore_n (lv' := [(2, .int 0), (0, .ref h0), (1, .ref (sa wi))]) hx hb dX12_isWord_29 rfl hl (by decide) rfl (fun ls hl => ?_)
    refine lv_iconst (v := 0) hx hb dX12_isWord_30 (by decide) ?_
    refine lv_istore_n (lv' := [(3, .int 0), (2, .int 0), (0, .ref h0), (1, .ref (sa wi))]) hx hb dX12_isWord_31 rfl hl (by decide) rfl (fun ls hl => ?_)
    refine (lp_sX12_isWordP h0 mi mr km_tape fm_tape sa sb zf wi gmi_0 gmi_1 gmi_2 gmi_4 gmi_7 gmi_10 gmi_17 gmi_23 gmi_24 gmi_26 gmi_29 gmi_30 gmi_32 gmi_33 gmi_37 gmi_41 gmi_50 gmi_51 gmi_56 hwi hpq0 hpq1 hpq2 hx hb hml hown hts hK hT (Nat.le_of_ble_eq_true rfl) (Nat.le_of_ble_eq_true rfl) (Nat.zero_le _) (Nat.zero_le _) (fun v H locs ls gv hpx hF hP hS hl => ?_) 1000000000) 0 0 _ _ _ (gi_w (gi_c 0 0 (by decide)) (by decide)) (gi_w (gi_c 0 0 (by decide)) (by decide)) (show ((0 : Int) = 1 → wdP fm_tape (mi 30) (mi 29) (mi 31) (stL wi) ((0 : Int) : Int).toNat) from by intro h9; exact absurd h9 (by decide)) (show ((0 : Int) = 0 → (wdB fm_tape (mi 30) (mi 29) (mi 31) (stL wi)).toInt = 0) from by intro h9; exact wd_not (fun h8 => absurd h8.1 (by have qgmi_30 := gmi_30.1; have rgmi_30 := gmi_30.2; have qgmi_29 := gmi_29.1; have rgmi_29 := gmi_29.2; have qgmi_26 := gmi_26.1; have rgmi_26 := gmi_26.2; omega))) (show ((0 : Int32).toInt = 0 ∨ (mi 29).toInt - (mi 30).toInt = ((stL wi).length : Int)) from by have k0 : (0 : Int32).toInt = 0 := (by decide); have qgmi_30 := gmi_30.1; have rgmi_30 := gmi_30.2; have qgmi_29 := gmi_29.1; have rgmi_29 := gmi_29.2; have qgmi_26 := gmi_26.1; have rgmi_26 := gmi_26.2; omega) hF (by have k0 : (0 : Int32).toInt = 0 := (by decide); omega) hP hS (lv_sub hl [2, 3, 1, 0] rfl)
    · skip
      exact W.zret (v := v) hx hb hr (gz_nb gv) (fun t ht hW => ⟨⟨v, (), rfl, ⟨⟨gv, hpx⟩, hF.trans hR9.symm⟩, trivial⟩, hS.F ht⟩) hS.2.2 dX12_isWord_76
  · have hF := gf_pos c_252 hF
    have hc_254 : (mi 31).toInt = 1 := by have h9 := congrArg Int32.toInt c_252; rw [show (1 : Int32).toInt = 1 from by decide] at h9; exact h9
    have g_255 : gi (mi 31) 1 1 := gi_eq c_252 (gi_c 1 1 (by decide))
    refine lv_aload_n hx hb dX12_isWord_8 rfl (lv_at hl 0 rfl) ?_
    refine va_get (D := (dC, dI)) (ci := 12) (v := .int (mi 29)) (C := RX12) (T := TX12) (N := 57) hx hb hts (fun w h => List.mem_cons_of_mem _ (jnGB_X12 w h)) hown hK hP 0 rfl rfl 29 (by decide) (hts _ (List.mem_cons_of_mem _ mGB_113)) (fun _ h9 => h9) rfl dX12_isWord_9 ?_
    refine lv_aload_n hx hb dX12_isWord_12 rfl (lv_at hl 0 rfl) ?_
    refine va_get (D := (dC, dI)) (ci := 12) (v := .int (mi 30)) (C := RX12) (T := TX12) (N := 57) hx hb hts (fun w h => List.mem_cons_of_mem _ (jnGB_X12 w h)) hown hK hP 0 rfl rfl 30 (by decide) (hts _ (List.mem_cons_of_mem _ mGB_135)) (fun _ h9 => h9) rfl dX12_isWord_13 ?_
    refine lv_isub hx hb dX12_isWord_16 ?_
    refine lv_topi (fun x_256 ex_256 => ?_)
    have gx_256 : gi x_256 (-1600) 1600 := gi_sub ex_256 gmi_29 gmi_30 (by decide)
    refine lv_aload_n hx hb dX12_isWord_17 rfl (lv_at hl 1 rfl) ?_
    refine va_calli (va_runV (As := []) (rest := [.int x_256]) ⟨hx, hb, hml, hown, hts⟩ (sJ0_lengthB l (sa wi) (sb wi) (stL wi) zf (stL_len wi hwi)) (cwV 0 hts (gz_gV mGB_159 mGB_50 mGB_51 mGB_52 mGB_53 goodGB) rfl rfl rfl (by decide +kernel) ⟨Nat.le_of_ble_eq_true rfl, Nat.le_of_ble_eq_true rfl⟩) ⟨fun a U g mk q => ⟨q.1, gz_sp.moved (u := U) (U := U.calling g mk a) (Vm.Alike.refl U.vm) q.2⟩, (by obtain ⟨cell, h1, h2, h3, -⟩ := ((hT.2 wi hwi).2).2.2.1.kept hS.2.1; exact ⟨cell, h1, h2, h3⟩), fun U hU hW => ⟨rfl, by show gz_sp _ _ _ _ _ U U.heap; rw [hU]; exact gz_sp.moved hW.alike (((hT.2 wi hwi).2.kept hS.2.1).narrow (fun _ h => h.elim))⟩⟩ rfl rfl hl.1 rfl (lv_room (Nat.le_of_ble_eq_true rfl)) dX12_isWord_18 ⟨Nat.zero_le _, Nat.zero_le _⟩) hS (fun q _ h => h.elim) (fun q h => h.elim) (fun r_257 u t H1 locs ht hvm hw hB hz1 hk1 hS => ?_)
    have hP := gz_keep hP hk1
    generalize H1 = H at hP hS ⊢
    have ewr_257 : r_257 = nI (stL wi).length := hw
    have gr_257 : gi r_257 0 7 := gz_len hw (stL_len wi hwi)
    have hnr_257 : r_257.toInt = ((stL wi).length : Int) := gz_lenI hw (stL_len wi hwi)
    refine lv_icmp_ne (tgt := 28) hx hb dX12_isWord_21 (by decide) (fun c_258 => ?_) (fun c_258 => ?_)
    · have hF := gf_neg (by rw [ewr_257, ex_256] at c_258; exact c_258) hF
      have hc_259 : x_256.toInt ≠ r_257.toInt := fun h9 => c_258 (Int32.toInt_inj.mp (by exact h9))
      refine lv_iconst (v := 0) hx hb dX12_isWord_28 (by decide) ?_
      refine lv_istore_n (lv' := [(2, .int 0), (0, .ref h0), (1, .ref (sa wi))]) hx hb dX12_isWord_29 rfl hl (by decide) rfl (fun ls hl => ?_)
      refine lv_iconst (v := 0) hx hb dX12_isWord_30 (by decide) ?_
      refine lv_istore_n (lv' := [(3, .int 0), (2, .int 0), (0, .ref h0), (1, .ref (sa wi))]) hx hb dX12_isWord_31 rfl hl (by decide) rfl (fun ls hl => ?_)
      refine (lp_sX12_isWordP h0 mi mr km_tape fm_tape sa sb zf wi gmi_0 gmi_1 gmi_2 gmi_4 gmi_7 gmi_10 gmi_17 gmi_23 gmi_24 gmi_26 gmi_29 gmi_30 gmi_32 gmi_33 gmi_37 gmi_41 gmi_50 gmi_51 gmi_56 hwi hpq0 hpq1 hpq2 hx hb hml hown hts hK hT (Nat.le_of_ble_eq_true rfl) (Nat.le_of_ble_eq_true rfl) (Nat.zero_le _) (Nat.zero_le _) (fun v H locs ls gv hpx hF hP hS hl => ?_) 1000000000) 0 0 _ _ _ (gi_w (gi_c 0 0 (by decide)) (by decide)) (gi_w (gi_c 0 0 (by decide)) (by decide)) (show ((0 : Int) = 1 → wdP fm_tape (mi 30) (mi 29) (mi 31) (stL wi) ((0 : Int) : Int).toNat) from by intro h9; exact absurd h9 (by decide)) (show ((0 : Int) = 0 → (wdB fm_tape (mi 30) (mi 29) (mi 31) (stL wi)).toInt = 0) from by intro h9; exact wd_not (fun h8 => absurd h8.2.1 (by have qgx_256 := gx_256.1; have rgx_256 := gx_256.2; have igx_256 : x_256.toInt = (mi 29).toInt - (mi 30).toInt := (by have h9 := gi_subI ex_256 (by have h1 := gmi_29.1; have h2 := gmi_30.1; have h3 := gmi_29.2; have h4 := gmi_30.2; omega) (by have h1 := gmi_29.1; have h2 := gmi_30.1; have h3 := gmi_29.2; have h4 := gmi_30.2; omega); exact h9); have qgmi_30 := gmi_30.1; have rgmi_30 := gmi_30.2; have qgmi_29 := gmi_29.1; have rgmi_29 := gmi_29.2; have qgr_257 := gr_257.1; have rgr_257 := gr_257.2; have qgmi_31 := g_255.1; have rgmi_31 := g_255.2; have qgmi_26 := gmi_26.1; have rgmi_26 := gmi_26.2; omega))) (show ((0 : Int32).toInt = 0 ∨ (mi 29).toInt - (mi 30).toInt = ((stL wi).length : Int)) from by have k0 : (0 : Int32).toInt = 0 := (by decide); have qgx_256 := gx_256.1; have rgx_256 := gx_256.2; have igx_256 : x_256.toInt = (mi 29).toInt - (mi 30).toInt := (by have h9 := gi_subI ex_256 (by have h1 := gmi_29.1; have h2 := gmi_30.1; have h3 := gmi_29.2; have h4 := gmi_30.2; omega) (by have h1 := gmi_29.1; have h2 := gmi_30.1; have h3 := gmi_29.2; have h4 := gmi_30.2; omega); exact h9); have qgmi_30 := gmi_30.1; have rgmi_30 := gmi_30.2; have qgmi_29 := gmi_29.1; have rgmi_29 := gmi_29.2; have qgr_257 := gr_257.1; have rgr_257 := gr_257.2; have qgmi_31 := g_255.1; have rgmi_31 := g_255.2; have qgmi_26 := gmi_26.1; have rgmi_26 := gmi_26.2; omega) hF (by have k0 : (0 : Int32).toInt = 0 := (by decide); omega) hP hS (lv_sub hl [2, 3, 1, 0] rfl)
      · skip
        exact W.zret (v := v) hx hb hr (gz_nb gv) (fun t ht hW => ⟨⟨v, (), rfl, ⟨⟨gv, hpx⟩, hF.trans hR9.symm⟩, trivial⟩, hS.F ht⟩) hS.2.2 dX12_isWord_76
    · have hF := gf_pos (by rw [ewr_257, ex_256] at c_258; exact c_258) hF
      have hc_260 : x_256.toInt = r_257.toInt := by have h9 := congrArg Int32.toInt c_258; exact h9
      have g_261 : gi x_256 0 7 := gi_eq c_258 gr_257
      refine lv_iconst (v := 1) hx hb dX12_isWord_24 (by decide) ?_
      refine lv_goto (tgt := 29) hx hb dX12_isWord_25 (by decide) ?_
      refine lv_istore_n (lv' := [(2, .int 1), (0, .ref h0), (1, .ref (sa wi))]) hx hb dX12_isWord_29 rfl hl (by decide) rfl (fun ls hl => ?_)
      refine lv_iconst (v := 0) hx hb dX12_isWord_30 (by decide) ?_
      refine lv_istore_n (lv' := [(3, .int 0), (2, .int 1), (0, .ref h0), (1, .ref (sa wi))]) hx hb dX12_isWord_31 rfl hl (by decide) rfl (fun ls hl => ?_)
      refine (lp_sX12_isWordP h0 mi mr km_tape fm_tape sa sb zf wi gmi_0 gmi_1 gmi_2 gmi_4 gmi_7 gmi_10 gmi_17 gmi_23 gmi_24 gmi_26 gmi_29 gmi_30 gmi_32 gmi_33 gmi_37 gmi_41 gmi_50 gmi_51 gmi_56 hwi hpq0 hpq1 hpq2 hx hb hml hown hts hK hT (Nat.le_of_ble_eq_true rfl) (Nat.le_of_ble_eq_true rfl) (Nat.zero_le _) (Nat.zero_le _) (fun v H locs ls gv hpx hF hP hS hl => ?_) 1000000000) 1 0 _ _ _ (gi_w (gi_c 1 1 (by decide)) (by decide)) (gi_w (gi_c 0 0 (by decide)) (by decide)) (show ((1 : Int) = 1 → wdP fm_tape (mi 30) (mi 29) (mi 31) (stL wi) ((0 : Int) : Int).toNat) from by intro h9; exact wd_0 (by have qgx_256 := g_261.1; have rgx_256 := g_261.2; have igx_256 : x_256.toInt = (mi 29).toInt - (mi 30).toInt := (by have h9 := gi_subI ex_256 (by have h1 := gmi_29.1; have h2 := gmi_30.1; have h3 := gmi_29.2; have h4 := gmi_30.2; omega) (by have h1 := gmi_29.1; have h2 := gmi_30.1; have h3 := gmi_29.2; have h4 := gmi_30.2; omega); exact h9); have qgmi_30 := gmi_30.1; have rgmi_30 := gmi_30.2; have qgmi_29 := gmi_29.1; have rgmi_29 := gmi_29.2; have qgr_257 := gr_257.1; have rgr_257 := gr_257.2; have qgmi_31 := g_255.1; have rgmi_31 := g_255.2; have qgmi_26 := gmi_26.1; have rgmi_26 := gmi_26.2; omega) (by have qgx_256 := g_261.1; have rgx_256 := g_261.2; have igx_256 : x_256.toInt = (mi 29).toInt - (mi 30).toInt := (by have h9 := gi_subI ex_256 (by have h1 := gmi_29.1; have h2 := gmi_30.1; have h3 := gmi_29.2; have h4 := gmi_30.2; omega) (by have h1 := gmi_29.1; have h2 := gmi_30.1; have h3 := gmi_29.2; have h4 := gmi_30.2; omega); exact h9); have qgmi_30 := gmi_30.1; have rgmi_30 := gmi_30.2; have qgmi_29 := gmi_29.1; have rgmi_29 := gmi_29.2; have qgr_257 := gr_257.1; have rgr_257 := gr_257.2; have qgmi_31 := g_255.1; have rgmi_31 := g_255.2; have qgmi_26 := gmi_26.1; have rgmi_26 := gmi_26.2; omega)) (show ((1 : Int) = 0 → (wdB fm_tape (mi 30) (mi 29) (mi 31) (stL wi)).toInt = 0) from by intro h9; exact absurd h9 (by decide)) (show ((1 : Int32).toInt = 0 ∨ (mi 29).toInt - (mi 30).toInt = ((stL wi).length : Int)) from by have k1 : (1 : Int32).toInt = 1 := (by decide); have qgx_256 := g_261.1; have rgx_256 := g_261.2; have igx_256 : x_256.toInt = (mi 29).toInt - (mi 30).toInt := (by have h9 := gi_subI ex_256 (by have h1 := gmi_29.1; have h2 := gmi_30.1; have h3 := gmi_29.2; have h4 := gmi_30.2; omega) (by have h1 := gmi_29.1; have h2 := gmi_30.1; have h3 := gmi_29.2; have h4 := gmi_30.2; omega); exact h9); have qgmi_30 := gmi_30.1; have rgmi_30 := gmi_30.2; have qgmi_29 := gmi_29.1; have rgmi_29 := gmi_29.2; have qgr_257 := gr_257.1; have rgr_257 := gr_257.2; have qgmi_31 := g_255.1; have rgmi_31 := g_255.2; have qgmi_26 := gmi_26.1; have rgmi_26 := gmi_26.2; omega) hF (by have k0 : (0 : Int32).toInt = 0 := (by decide); omega) hP hS (lv_sub hl [2, 3, 1, 0] rfl)
      · skip
        exact W.zret (v := v) hx hb hr (gz_nb gv) (fun t ht hW => ⟨⟨v, (), rfl, ⟨⟨gv, hpx⟩, hF.trans hR9.symm⟩, trivial⟩, hS.F ht⟩) hS.2.2 dX12_isWord_76
theorem dX12_word_0 : decode cX12_word 0 = .ok (.aload_n 0, 1) := by decide +kernel
theorem dX12_word_1 : decode cX12_word 1 = .ok (.aload_n 0, 1) := by decide +kernel
theorem dX12_word_2 : decode cX12_word 2 = .ok (.getfield 174, 3) := by decide +kernel
theorem dX12_word_5 : decode cX12_word 5 = .ok (.ifCond .ne 11, 3) := by decide +kernel
theorem dX12_word_8 : decode cX12_word 8 = .ok (.aload_n 0, 1) := by decide +kernel
theorem dX12_word_9 : decode cX12_word 9 = .ok (.aload_n 1, 1) := by decide +kernel
theorem dX12_word_10 : decode cX12_word 10 = .ok (.invokevirtual 201, 3) := by decide +kernel
theorem dX12_word_13 : decode cX12_word 13 = .ok (.ifCond .eq 7, 3) := by decide +kernel
theorem dX12_word_16 : decode cX12_word 16 = .ok (.iconst 1, 1) := by decide +kernel
theorem dX12_word_17 : decode cX12_word 17 = .ok (.goto 4, 3) := by decide +kernel
theorem dX12_word_20 : decode cX12_word 20 = .ok (.iconst 0, 1) := by decide +kernel
theorem dX12_word_21 : decode cX12_word 21 = .ok (.invokevirtual 205, 3) := by decide +kernel
theorem dX12_word_24 : decode cX12_word 24 = .ok (.return_, 1) := by decide +kernel
noncomputable def bfX12_word_21 (mi : Nat → Int32) (fm_tape : Nat → Int32) (wi : Nat) (s0 : Int32) (w0_27 : Int32) (w0_28 : Int32) (w0_29 : Int32) (w0_30 : Int32) (w0_31 : Int32) (w0_32 : Int32) (w0_33 : Int32) : Int32 × Int32 × Int32 × Int32 × Int32 × Int32 × Int32 := cal (fun o2 => (o2.1, o2.2.1, o2.2.2.1, o2.2.2.2.1, o2.2.2.2.2.1, o2.2.2.2.2.2.1, o2.2.2.2.2.2.2)) (fX12_passes (upd (upd (upd (upd (upd (upd (upd mi 27 w0_27) 28 w0_28) 29 w0_29) 30 w0_30) 31 w0_31) 32 w0_32) 33 w0_33) fm_tape s0)
noncomputable def bfX12_word_16 (mi : Nat → Int32) (fm_tape : Nat → Int32) (wi : Nat) (w0_27 : Int32) (w0_28 : Int32) (w0_29 : Int32) (w0_30 : Int32) (w0_31 : Int32) (w0_32 : Int32) (w0_33 : Int32) : Int32 × Int32 × Int32 × Int32 × Int32 × Int32 × Int32 := bfX12_word_21 mi fm_tape wi (1 : Int32) w0_27 w0_28 w0_29 w0_30 w0_31 w0_32 w0_33
noncomputable def fX12_word (mi : Nat → Int32) (fm_tape : Nat → Int32) (wi : Nat) : Int32 × Int32 × Int32 × Int32 × Int32 × Int32 × Int32 := if (mi 33) = (0 : Int32) then (cal (fun o1 => if o1 = (0 : Int32) then (bfX12_word_21 mi fm_tape wi (0 : Int32) (mi 27) (mi 28) (mi 29) (mi 30) (mi 31) (mi 32) (mi 33)) else (bfX12_word_16 mi fm_tape wi (mi 27) (mi 28) (mi 29) (mi 30) (mi 31) (mi 32) (mi 33))) (fX12_isWord mi fm_tape wi)) else (bfX12_word_16 mi fm_tape wi (mi 27) (mi 28) (mi 29) (mi 30) (mi 31) (mi 32) (mi 33))
set_option maxHeartbeats 4000000 in
set_option maxRecDepth 100000 in
theorem sX12_wordP (l : Launch) (dC : Nat → ClassId) (dI : Nat → Nat → Nat) (sz : Nat) (h0 : Nat) (mi : Nat → Int32) (mr : Nat → Nat) (km_tape : ClassId) (fm_tape : Nat → Int32) (sa : Nat → Nat) (sb : Nat → Nat) (zf : Value) (wi : Nat) (gmi_0 : gi (mi 0) 0 100000) (gmi_1 : gi (mi 1) 0 100000) (gmi_2 : gi (mi 2) 0 100000) (gmi_4 : gi (mi 4) 0 1) (gmi_7 : gi (mi 7) 0 6) (gmi_10 : gi (mi 10) 0 24) (gmi_17 : gi (mi 17) 0 8) (gmi_23 : gi (mi 23) 0 300) (gmi_24 : gi (mi 24) 0 1) (gmi_26 : gi (mi 26) 0 1600) (gmi_29 : gi (mi 29) 0 1600) (gmi_30 : gi (mi 30) 0 1600) (gmi_32 : gi (mi 32) 0 100000) (gmi_33 : gi (mi 33) 0 1) (gmi_37 : gi (mi 37) 0 1) (gmi_41 : gi (mi 41) 0 24) (gmi_50 : gi (mi 50) 0 1) (gmi_51 : gi (mi 51) 0 1) (gmi_56 : gi (mi 56) 0 80) (hwi : wi < 18) (hpq0 : (mi 30).toInt ≤ (mi 29).toInt) (hpq1 : (mi 29).toInt ≤ (mi 26).toInt) (hpq2 : ((mi 31).toInt = 0 ∨ (mi 30).toInt < (mi 29).toInt)) : Met l yX12_word (.code yX12_word cX12_word 2 none :: wsGB) ({ frames := 5, cells := 0, slots := 0, locals := 108 }) (va_Pc [.ref h0, .ref (sa wi)] (fun U => U.heap.size = sz ∧ va_P (dC, dI) vwCl [(h0, .inr (12, fsMM mi mr)), ((mr 13), .inl (km_tape, 1600, .inl fm_tape))] U.heap ∧ va_K (dC, dI) vwCl [(km_tape, .int)] U ∧ va_D (fun _ => True) [(h0, .inr (12, fsMM mi mr)), ((mr 13), .inl (km_tape, 1600, .inl fm_tape))] ∧ gz_ST RX12 stIB sa sb zf (va_A [(h0, .inr (12, fsMM mi mr)), ((mr 13), .inl (km_tape, 1600, .inl fm_tape))] sz) U U.heap)) (va_Qv (fun (u : Unit) => True) (fun _ t => ∃ (w0_27 : Int32) (w0_28 : Int32) (w0_29 : Int32) (w0_30 : Int32) (w0_31 : Int32) (w0_32 : Int32) (w0_33 : Int32), gi w0_29 0 1600 ∧ gi w0_30 0 1600 ∧ gi w0_32 0 100000 ∧ gi w0_33 0 1 ∧ (mi 30).toInt ≤ w0_30.toInt ∧ w0_30.toInt ≤ w0_29.toInt ∧ w0_29.toInt ≤ (mi 26).toInt ∧ (w0_31.toInt = 0 ∨ w0_30.toInt < w0_29.toInt) ∧ (mi 33).toInt ≤ w0_33.toInt ∧ (w0_27, w0_28, w0_29, w0_30, w0_31, w0_32, w0_33) = fX12_word mi fm_tape wi ∧ va_P (dC, dI) vwCl [(h0, .inr (12, fsMM (upd (upd (upd (upd (upd (upd (upd mi 27 w0_27) 28 w0_28) 29 w0_29) 30 w0_30) 31 w0_31) 32 w0_32) 33 w0_33) mr)), ((mr 13), .inl (km_tape, 1600, .inl fm_tape))] t.heap ∧ va_D (va_A [(h0, .inr (12, fsMM mi mr)), ((mr 13), .inl (km_tape, 1600, .inl fm_tape))] sz) [(h0, .inr (12, fsMM (upd (upd (upd (upd (upd (upd (upd mi 27 w0_27) 28 w0_28) 29 w0_29) 30 w0_30) 31 w0_31) 32 w0_32) 33 w0_33) mr)), ((mr 13), .inl (km_tape, 1600, .inl fm_tape))]) (va_A [(h0, .inr (12, fsMM mi mr)), ((mr 13), .inl (km_tape, 1600, .inl fm_tape))] sz)) 0 0 (va_A [(h0, .inr (12, fsMM mi mr)), ((mr 13), .inl (km_tape, 1600, .inl fm_tape))] sz) := by
  refine Met.ofW (cc := cX12_word) (maxL := 2) (ret := none) (by decide) rfl ?_
  intro p e s m args below meth c s₁ B hml hv
  obtain ⟨rfl, hsz, hP, hK, hD0, hT⟩ := hv
  have hx := B.exec
  have hb := B.bytes
  have hr := B.returns
  have hts := atoms_spec (ws := (.code yX12_word cX12_word 2 none :: wsGB)) B.pre
  have hown : s.vm.findClass RX12 = some m.cls := findClass_of_methodNamed B.named
  have hlocks := B.notSynchronized
  subst hsz
  have hD := hD0.self (sz := s.heap.size)
  generalize hAe : va_A [(h0, .inr (12, fsMM mi mr)), ((mr 13), .inl (km_tape, 1600, .inl fm_tape))] s.heap.size = A at hD hT ⊢
  have hA : ∀ q : Nat, s.heap.size ≤ q → A q := fun q h => by rw [← hAe]; exact Or.inr h
  have hS : va_S A s.heap s.heap [] := va_S.rf
  have hl := lv_entry ([.ref h0, .ref (sa wi)]) (n := 2) (Nat.le_of_ble_eq_true rfl)
  rw [lg_entry_eq]
  generalize (lg_sl ([.ref h0, .ref (sa wi)]) ++ List.replicate (2 - (lg_sl ([.ref h0, .ref (sa wi)])).length) Slot.unset).toArray = ls at hl ⊢
  have hl : lv_has ls 2 [(0, .ref h0), (1, .ref (sa wi))] := hl
  obtain ⟨RES, hF⟩ : ∃ R9, fX12_word mi fm_tape wi = R9 := ⟨_, rfl⟩
  have hR9 := hF
  refine lv_aload_n hx hb dX12_word_0 rfl (lv_at hl 0 rfl) ?_
  refine lv_aload_n hx hb dX12_word_1 rfl (lv_at hl 0 rfl) ?_
  refine va_get (D := (dC, dI)) (ci := 12) (v := .int (mi 33)) (C := RX12) (T := TX12) (N := 57) hx hb hts (fun w h => List.mem_cons_of_mem _ (jnGB_X12 w h)) hown hK hP 0 rfl rfl 33 (by decide) (hts _ (List.mem_cons_of_mem _ mGB_114)) (fun _ h9 => h9) rfl dX12_word_2 ?_
  refine lv_if_ne (tgt := 16) hx hb dX12_word_5 (by decide) (fun c_77 => ?_) (fun c_77 => ?_)
  · have hF := gf_neg c_77 hF
    have hc_78 : (mi 33).toInt ≠ 0 := fun h9 => c_77 (Int32.toInt_inj.mp (by rw [show (0 : Int32).toInt = 0 from by decide]; exact h9))
    have g_79 : gi (mi 33) 1 1 := gi_ne_lo c_77 gmi_33 (gi_c 0 0 (by decide)) (by decide)
    refine lv_iconst (v := 1) hx hb dX12_word_16 (by decide) ?_
    refine lv_goto (tgt := 21) hx hb dX12_word_17 (by decide) ?_
    have hPc := hP.sub (ws' := [(h0, .inr (12, fsMM mi mr)), ((mr 13), .inl (km_tape, 1600, .inl fm_tape))]) [0, 1] rfl
    have hKc := hK.sub (tys' := [(km_tape, .int)]) [0] rfl
    have hDc := hD.sub (ws' := [(h0, .inr (12, fsMM mi mr)), ((mr 13), .inl (km_tape, 1600, .inl fm_tape))]) [0, 1] (by decide) rfl
    have hFc := va_free (wc := [(h0, .inr (12, fsMM mi mr)), ((mr 13), .inl (km_tape, 1600, .inl fm_tape))]) hD hS hA [0, 1] rfl
    refine va_callv (va_runV (As := [.int 1]) (rest := []) ⟨hx, hb, hml, hown, hts⟩ (sX12_passesP l dC dI s.heap.size h0 mi mr km_tape fm_tape 1 gmi_0 gmi_1 gmi_2 gmi_4 gmi_7 gmi_10 gmi_17 gmi_23 gmi_24 gmi_26 gmi_29 gmi_30 gmi_32 (gi_w g_79 (by decide)) gmi_37 gmi_41 gmi_50 gmi_51 gmi_56 (gi_w (gi_c 1 1 (by decide)) (by decide)) (show (mi 30).toInt ≤ (mi 29).toInt from by have qgmi_33 := g_79.1; have rgmi_33 := g_79.2; have qgmi_30 := gmi_30.1; have rgmi_30 := gmi_30.2; have qgmi_29 := gmi_29.1; have rgmi_29 := gmi_29.2; have qgmi_26 := gmi_26.1; have rgmi_26 := gmi_26.2; omega) (show (mi 29).toInt ≤ (mi 26).toInt from by have qgmi_33 := g_79.1; have rgmi_33 := g_79.2; have qgmi_30 := gmi_30.1; have rgmi_30 := gmi_30.2; have qgmi_29 := gmi_29.1; have rgmi_29 := gmi_29.2; have qgmi_26 := gmi_26.1; have rgmi_26 := gmi_26.2; omega) (show ((mi 31).toInt = 0 ∨ (mi 30).toInt < (mi 29).toInt) from by have qgmi_33 := g_79.1; have rgmi_33 := g_79.2; have qgmi_30 := gmi_30.1; have rgmi_30 := gmi_30.2; have qgmi_29 := gmi_29.1; have rgmi_29 := gmi_29.2; have qgmi_26 := gmi_26.1; have rgmi_26 := gmi_26.2; omega)) (cwV 1 hts (gz_gV mGB_161 mGB_162 mGB_163 mGB_1 mGB_164 goodGB) rfl rfl rfl (by decide +kernel) ⟨Nat.le_of_ble_eq_true rfl, Nat.le_of_ble_eq_true rfl⟩) ⟨fun a U g mk q => by obtain ⟨q0, q1, qP, qK, qD⟩ := q; exact ⟨q0, q1, qP, va_K.moved (u := U) (U := U.calling g mk a) (Vm.Alike.refl U.vm) qK, qD⟩, va_recv hKc hPc (ci := 12) (q0 := 0) rfl rfl, fun U hU hW => ⟨rfl, by rw [hU], by rw [hU]; exact hPc, va_K.moved hW.alike hKc, hDc.weaken (fun _ _ _ _ => trivial)⟩⟩ rfl rfl hl.1 rfl (lv_room (Nat.le_of_ble_eq_true rfl)) dX12_word_21 ⟨Nat.zero_le _, Nat.zero_le _⟩) hS (fun q _ h => hFc q h) hFc (fun u t H1 locs ht hvm hw hB hz1 hk1 hS => ?_)
    obtain ⟨y_81, y_82, y_83, y_84, y_85, y_86, y_87, gy_83, gy_84, gy_86, gy_87, hpr0_r_80, hpr1_r_80, hpr2_r_80, hpr3_r_80, hpr4_r_80, hpr5_r_80, hpr6_r_80, hE, hP1, hD1⟩ := hB
    rw [ht] at hP1
    obtain ⟨hP, hD⟩ := va_join (wr := []) (w1 := [(h0, .inr (12, fsMM (upd (upd (upd (upd (upd (upd (upd mi 27 y_81) 28 y_82) 29 y_83) 30 y_84) 31 y_85) 32 y_86) 33 y_87) mr)), ((mr 13), .inl (km_tape, 1600, .inl fm_tape))]) hP hD [0, 1] [] rfl rfl (by decide) (by decide) hk1 hFc hP1 hD1
    have hpr0_r_80 : (mi 30).toInt ≤ y_84.toInt := hpr0_r_80
    have hpr1_r_80 : y_84.toInt ≤ y_83.toInt := hpr1_r_80
    have hpr2_r_80 : y_83.toInt ≤ (mi 26).toInt := hpr2_r_80
    have hpr3_r_80 : Hid ((y_85.toInt = 0 ∨ y_84.toInt < y_83.toInt)) := hpr3_r_80
    have hpr4_r_80 : (mi 33).toInt ≤ y_87.toInt := hpr4_r_80
    have g_88 : gi y_87 1 1 := gi_relL (show (mi 33).toInt ≤ y_87.toInt from by omega) g_79 gy_87
    have hpr5_r_80 : Hid (((1 : Int) = 1 ∨ y_87.toInt = 1)) := by have h9 : ((1 : Int32).toInt = 1 ∨ y_87.toInt = 1) := hpr5_r_80; rw [show (1 : Int32).toInt = 1 from by decide] at h9; exact h9
    have hpr6_r_80 : Hid ((y_87.toInt = 1 ∨ (mi 29).toInt ≤ y_84.toInt)) := hpr6_r_80
    have hP := hP.sub (ws' := [(h0, .inr (12, fsMM (upd (upd (upd (upd (upd (upd (upd mi 27 y_81) 28 y_82) 29 y_83) 30 y_84) 31 y_85) 32 y_86) 33 y_87) mr)), ((mr 13), .inl (km_tape, 1600, .inl fm_tape))]) [0, 1] rfl
    have hD := hD.sub (ws' := [(h0, .inr (12, fsMM (upd (upd (upd (upd (upd (upd (upd mi 27 y_81) 28 y_82) 29 y_83) 30 y_84) 31 y_85) 32 y_86) 33 y_87) mr)), ((mr 13), .inl (km_tape, 1600, .inl fm_tape))]) [0, 1] (by decide) rfl
    have hF := gf_callm (a := (y_81, y_82, y_83, y_84, y_85, y_86, y_87)) hE hF (by first | with_reducible rfl | simp only [upd_same, upd_app, ↓reduceIte, Nat.reduceEqDiff])
    generalize H1 = H at hP hS ⊢
    exact W.vret hx hb hr (fun t ht hW => ⟨⟨(), rfl, trivial, y_81, y_82, y_83, y_84, y_85, y_86, y_87, gy_83, gy_84, gy_86, (gi_w g_88 (by decide)), hpr0_r_80, hpr1_r_80, hpr2_r_80, (Hid.un hpr3_r_80), hpr4_r_80, hF.trans hR9.symm, by rw [ht]; exact hP, hD⟩, hS.F ht⟩) hS.2.2 dX12_word_24
  · have hF := gf_pos c_77 hF
    have hc_89 : (mi 33).toInt = 0 := by have h9 := congrArg Int32.toInt c_77; rw [show (0 : Int32).toInt = 0 from by decide] at h9; exact h9
    have g_90 : gi (mi 33) 0 0 := gi_eq c_77 (gi_c 0 0 (by decide))
    refine lv_aload_n hx hb dX12_word_8 rfl (lv_at hl 0 rfl) ?_
    refine lv_aload_n hx hb dX12_word_9 rfl (lv_at hl 1 rfl) ?_
    have hPc := hP.sub (ws' := [(h0, .inr (12, fsMM mi mr)), ((mr 13), .inl (km_tape, 1600, .inl fm_tape))]) [0, 1] rfl
    have hKc := hK.sub (tys' := [(km_tape, .int)]) [0] rfl
    refine va_calli (va_runV (As := [.ref (sa wi)]) (rest := [.ref h0]) ⟨hx, hb, hml, hown, hts⟩ (sX12_isWordP l dC dI h0 mi mr km_tape fm_tape sa sb zf wi gmi_0 gmi_1 gmi_2 gmi_4 gmi_7 gmi_10 gmi_17 gmi_23 gmi_24 gmi_26 gmi_29 gmi_30 gmi_32 (gi_w g_90 (by decide)) gmi_37 gmi_41 gmi_50 gmi_51 gmi_56 hwi (show (mi 30).toInt ≤ (mi 29).toInt from by have qgmi_33 := g_90.1; have rgmi_33 := g_90.2; have qgmi_30 := gmi_30.1; have rgmi_30 := gmi_30.2; have qgmi_29 := gmi_29.1; have rgmi_29 := gmi_29.2; have qgmi_26 := gmi_26.1; have rgmi_26 := gmi_26.2; omega) (show (mi 29).toInt ≤ (mi 26).toInt from by have qgmi_33 := g_90.1; have rgmi_33 := g_90.2; have qgmi_30 := gmi_30.1; have rgmi_30 := gmi_30.2; have qgmi_29 := gmi_29.1; have rgmi_29 := gmi_29.2; have qgmi_26 := gmi_26.1; have rgmi_26 := gmi_26.2; omega) (show ((mi 31).toInt = 0 ∨ (mi 30).toInt < (mi 29).toInt) from by have qgmi_33 := g_90.1; have rgmi_33 := g_90.2; have qgmi_30 := gmi_30.1; have rgmi_30 := gmi_30.2; have qgmi_29 := gmi_29.1; have rgmi_29 := gmi_29.2; have qgmi_26 := gmi_26.1; have rgmi_26 := gmi_26.2; omega)) (cwV 1 hts (gz_gV mGB_155 mGB_156 mGB_157 mGB_1 mGB_158 goodGB) rfl rfl rfl (by decide +kernel) ⟨Nat.le_of_ble_eq_true rfl, Nat.le_of_ble_eq_true rfl⟩) ⟨fun a U g mk q => by obtain ⟨q0, qP, qK, qT⟩ := q; exact ⟨q0, qP, va_K.moved (u := U) (U := U.calling g mk a) (Vm.Alike.refl U.vm) qK, gz_ST.same rfl qT⟩, va_recv hKc hPc (ci := 12) (q0 := 0) rfl rfl, fun U hU hW => ⟨rfl, by rw [hU]; exact hPc, va_K.moved hW.alike hKc, by rw [hU]; exact ((hT.kept hS.2.1).narrow (fun _ h => h.elim)).warm hW⟩⟩ rfl rfl hl.1 rfl (lv_room (Nat.le_of_ble_eq_true rfl)) dX12_word_10 ⟨Nat.zero_le _, Nat.zero_le _⟩) hS (fun q _ h => h.elim) (fun q h => h.elim) (fun r_91 u t H1 locs ht hvm hw hB hz1 hk1 hS => ?_)
    obtain ⟨hw, hE⟩ := hw
    have hP := gz_keep hP hk1
    have hF := gf_callm (a := r_91) hE hF (by first | with_reducible rfl | simp only [upd_same, upd_app, ↓reduceIte, Nat.reduceEqDiff])
    generalize H1 = H at hP hS ⊢
    have gr_91 : gi r_91 0 1 := hw.1
    have hqr_91 := hw.2
    have hqr_91 : r_91.toInt = (wdB fm_tape (mi 30) (mi 29) (mi 31) (stL wi)).toInt := hqr_91
    clear hw
    refine lv_if_eq (tgt := 20) hx hb dX12_word_13 (by decide) (fun c_92 => ?_) (fun c_92 => ?_)
    · have hF := gf_pos c_92 hF
      have hc_93 : r_91.toInt = 0 := by have h9 := congrArg Int32.toInt c_92; rw [show (0 : Int32).toInt = 0 from by decide] at h9; exact h9
      have g_94 : gi r_91 0 0 := gi_eq c_92 (gi_c 0 0 (by decide))
      refine lv_iconst (v := 0) hx hb dX12_word_20 (by decide) ?_
      have hPc := hP.sub (ws' := [(h0, .inr (12, fsMM mi mr)), ((mr 13), .inl (km_tape, 1600, .inl fm_tape))]) [0, 1] rfl
      have hKc := hK.sub (tys' := [(km_tape, .int)]) [0] rfl
      have hDc := hD.sub (ws' := [(h0, .inr (12, fsMM mi mr)), ((mr 13), .inl (km_tape, 1600, .inl fm_tape))]) [0, 1] (by decide) rfl
      have hFc := va_free (wc := [(h0, .inr (12, fsMM mi mr)), ((mr 13), .inl (km_tape, 1600, .inl fm_tape))]) hD hS hA [0, 1] rfl
      refine va_callv (va_runV (As := [.int 0]) (rest := []) ⟨hx, hb, hml, hown, hts⟩ (sX12_passesP l dC dI H.size h0 mi mr km_tape fm_tape 0 gmi_0 gmi_1 gmi_2 gmi_4 gmi_7 gmi_10 gmi_17 gmi_23 gmi_24 gmi_26 gmi_29 gmi_30 gmi_32 (gi_w g_90 (by decide)) gmi_37 gmi_41 gmi_50 gmi_51 gmi_56 (gi_w (gi_c 0 0 (by decide)) (by decide)) (show (mi 30).toInt ≤ (mi 29).toInt from by have qgr_91 := g_94.1; have rgr_91 := g_94.2; have qgmi_33 := g_90.1; have rgmi_33 := g_90.2; have qgmi_30 := gmi_30.1; have rgmi_30 := gmi_30.2; have qgmi_29 := gmi_29.1; have rgmi_29 := gmi_29.2; have qgmi_26 := gmi_26.1; have rgmi_26 := gmi_26.2; omega) (show (mi 29).toInt ≤ (mi 26).toInt from by have qgr_91 := g_94.1; have rgr_91 := g_94.2; have qgmi_33 := g_90.1; have rgmi_33 := g_90.2; have qgmi_30 := gmi_30.1; have rgmi_30 := gmi_30.2; have qgmi_29 := gmi_29.1; have rgmi_29 := gmi_29.2; have qgmi_26 := gmi_26.1; have rgmi_26 := gmi_26.2; omega) (show ((mi 31).toInt = 0 ∨ (mi 30).toInt < (mi 29).toInt) from by have qgr_91 := g_94.1; have rgr_91 := g_94.2; have qgmi_33 := g_90.1; have rgmi_33 := g_90.2; have qgmi_30 := gmi_30.1; have rgmi_30 := gmi_30.2; have qgmi_29 := gmi_29.1; have rgmi_29 := gmi_29.2; have qgmi_26 := gmi_26.1; have rgmi_26 := gmi_26.2; omega)) (cwV 1 hts (gz_gV mGB_161 mGB_162 mGB_163 mGB_1 mGB_164 goodGB) rfl rfl rfl (by decide +kernel) ⟨Nat.le_of_ble_eq_true rfl, Nat.le_of_ble_eq_true rfl⟩) ⟨fun a U g mk q => by obtain ⟨q0, q1, qP, qK, qD⟩ := q; exact ⟨q0, q1, qP, va_K.moved (u := U) (U := U.calling g mk a) (Vm.Alike.refl U.vm) qK, qD⟩, va_recv hKc hPc (ci := 12) (q0 := 0) rfl rfl, fun U hU hW => ⟨rfl, by rw [hU], by rw [hU]; exact hPc, va_K.moved hW.alike hKc, hDc.weaken (fun _ _ _ _ => trivial)⟩⟩ rfl rfl hl.1 rfl (lv_room (Nat.le_of_ble_eq_true rfl)) dX12_word_21 ⟨Nat.zero_le _, Nat.zero_le _⟩) hS (fun q _ h => hFc q h) hFc (fun u t H1 locs ht hvm hw hB hz1 hk1 hS => ?_)
      obtain ⟨y_96, y_97, y_98, y_99, y_100, y_101, y_102, gy_98, gy_99, gy_101, gy_102, hpr0_r_95, hpr1_r_95, hpr2_r_95, hpr3_r_95, hpr4_r_95, hpr5_r_95, hpr6_r_95, hE, hP1, hD1⟩ := hB
      rw [ht] at hP1
      obtain ⟨hP, hD⟩ := va_join (wr := []) (w1 := [(h0, .inr (12, fsMM (upd (upd (upd (upd (upd (upd (upd mi 27 y_96) 28 y_97) 29 y_98) 30 y_99) 31 y_100) 32 y_101) 33 y_102) mr)), ((mr 13), .inl (km_tape, 1600, .inl fm_tape))]) hP hD [0, 1] [] rfl rfl (by decide) (by decide) hk1 hFc hP1 hD1
      have hpr0_r_95 : (mi 30).toInt ≤ y_99.toInt := hpr0_r_95
      have hpr1_r_95 : y_99.toInt ≤ y_98.toInt := hpr1_r_95
      have hpr2_r_95 : y_98.toInt ≤ (mi 26).toInt := hpr2_r_95
      have hpr3_r_95 : Hid ((y_100.toInt = 0 ∨ y_99.toInt < y_98.toInt)) := hpr3_r_95
      have hpr4_r_95 : (mi 33).toInt ≤ y_102.toInt := hpr4_r_95
      have hpr5_r_95 : Hid (((0 : Int) = 1 ∨ y_102.toInt = 1)) := by have h9 : ((0 : Int32).toInt = 1 ∨ y_102.toInt = 1) := hpr5_r_95; rw [show (0 : Int32).toInt = 0 from by decide] at h9; exact h9
      have hf_103 : y_102.toInt = 1 := Hid.resL hpr5_r_95 (by omega)
      have g_104 : gi y_102 1 1 := ⟨by omega, by omega⟩
      have hpr6_r_95 : Hid ((y_102.toInt = 1 ∨ (mi 29).toInt ≤ y_99.toInt)) := hpr6_r_95
      have hP := hP.sub (ws' := [(h0, .inr (12, fsMM (upd (upd (upd (upd (upd (upd (upd mi 27 y_96) 28 y_97) 29 y_98) 30 y_99) 31 y_100) 32 y_101) 33 y_102) mr)), ((mr 13), .inl (km_tape, 1600, .inl fm_tape))]) [0, 1] rfl
      have hD := hD.sub (ws' := [(h0, .inr (12, fsMM (upd (upd (upd (upd (upd (upd (upd mi 27 y_96) 28 y_97) 29 y_98) 30 y_99) 31 y_100) 32 y_101) 33 y_102) mr)), ((mr 13), .inl (km_tape, 1600, .inl fm_tape))]) [0, 1] (by decide) rfl
      have hF := gf_callm (a := (y_96, y_97, y_98, y_99, y_100, y_101, y_102)) hE hF (by first | with_reducible rfl | simp only [upd_same, upd_app, ↓reduceIte, Nat.reduceEqDiff])
      generalize H1 = H at hP hS ⊢
      exact W.vret hx hb hr (fun t ht hW => ⟨⟨(), rfl, trivial, y_96, y_97, y_98, y_99, y_100, y_101, y_102, gy_98, gy_99, gy_101, (gi_w g_104 (by decide)), hpr0_r_95, hpr1_r_95, hpr2_r_95, (Hid.un hpr3_r_95), hpr4_r_95, hF.trans hR9.symm, by rw [ht]; exact hP, hD⟩, hS.F ht⟩) hS.2.2 dX12_word_24
    · have hF := gf_neg c_92 hF
      have hc_105 : r_91.toInt ≠ 0 := fun h9 => c_92 (Int32.toInt_inj.mp (by rw [show (0 : Int32).toInt = 0 from by decide]; exact h9))
      have g_106 : gi r_91 1 1 := gi_ne_lo c_92 gr_91 (gi_c 0 0 (by decide)) (by decide)
      refine lv_iconst (v := 1) hx hb dX12_word_16 (by decide) ?_
      refine lv_goto (tgt := 21) hx hb dX12_word_17 (by decide) ?_
      have hPc := hP.sub (ws' := [(h0, .inr (12, fsMM mi mr)), ((mr 13), .inl (km_tape, 1600, .inl fm_tape))]) [0, 1] rfl
      have hKc := hK.sub (tys' := [(km_tape, .int)]) [0] rfl
      have hDc := hD.sub (ws' := [(h0, .inr (12, fsMM mi mr)), ((mr 13), .inl (km_tape, 1600, .inl fm_tape))]) [0, 1] (by decide) rfl
      have hFc := va_free (wc := [(h0, .inr (12, fsMM mi mr)), ((mr 13), .inl (km_tape, 1600, .inl fm_tape))]) hD hS hA [0, 1] rfl
      refine va_callv (va_runV (As := [.int 1]) (rest := []) ⟨hx, hb, hml, hown, hts⟩ (sX12_passesP l dC dI H.size h0 mi mr km_tape fm_tape 1 gmi_0 gmi_1 gmi_2 gmi_4 gmi_7 gmi_10 gmi_17 gmi_23 gmi_24 gmi_26 gmi_29 gmi_30 gmi_32 (gi_w g_90 (by decide)) gmi_37 gmi_41 gmi_50 gmi_51 gmi_56 (gi_w (gi_c 1 1 (by decide)) (by decide)) (show (mi 30).toInt ≤ (mi 29).toInt from by have qgr_91 := g_106.1; have rgr_91 := g_106.2; have qgmi_33 := g_90.1; have rgmi_33 := g_90.2; have qgmi_30 := gmi_30.1; have rgmi_30 := gmi_30.2; have qgmi_29 := gmi_29.1; have rgmi_29 := gmi_29.2; have qgmi_26 := gmi_26.1; have rgmi_26 := gmi_26.2; omega) (show (mi 29).toInt ≤ (mi 26).toInt from by have qgr_91 := g_106.1; have rgr_91 := g_106.2; have qgmi_33 := g_90.1; have rgmi_33 := g_90.2; have qgmi_30 := gmi_30.1; have rgmi_30 := gmi_30.2; have qgmi_29 := gmi_29.1; have rgmi_29 := gmi_29.2; have qgmi_26 := gmi_26.1; have rgmi_26 := gmi_26.2; omega) (show ((mi 31).toInt = 0 ∨ (mi 30).toInt < (mi 29).toInt) from by have qgr_91 := g_106.1; have rgr_91 := g_106.2; have qgmi_33 := g_90.1; have rgmi_33 := g_90.2; have qgmi_30 := gmi_30.1; have rgmi_30 := gmi_30.2; have qgmi_29 := gmi_29.1; have rgmi_29 := gmi_29.2; have qgmi_26 := gmi_26.1; have rgmi_26 := gmi_26.2; omega)) (cwV 1 hts (gz_gV mGB_161 mGB_162 mGB_163 mGB_1 mGB_164 goodGB) rfl rfl rfl (by decide +kernel) ⟨Nat.le_of_ble_eq_true rfl, Nat.le_of_ble_eq_true rfl⟩) ⟨fun a U g mk q => by obtain ⟨q0, q1, qP, qK, qD⟩ := q; exact ⟨q0, q1, qP, va_K.moved (u := U) (U := U.calling g mk a) (Vm.Alike.refl U.vm) qK, qD⟩, va_recv hKc hPc (ci := 12) (q0 := 0) rfl rfl, fun U hU hW => ⟨rfl, by rw [hU], by rw [hU]; exact hPc, va_K.moved hW.alike hKc, hDc.weaken (fun _ _ _ _ => trivial)⟩⟩ rfl rfl hl.1 rfl (lv_room (Nat.le_of_ble_eq_true rfl)) dX12_word_21 ⟨Nat.zero_le _, Nat.zero_le _⟩) hS (fun q _ h => hFc q h) hFc (fun u t H1 locs ht hvm hw hB hz1 hk1 hS => ?_)
      obtain ⟨y_108, y_109, y_110, y_111, y_112, y_113, y_114, gy_110, gy_111, gy_113, gy_114, hpr0_r_107, hpr1_r_107, hpr2_r_107, hpr3_r_107, hpr4_r_107, hpr5_r_107, hpr6_r_107, hE, hP1, hD1⟩ := hB
      rw [ht] at hP1
      obtain ⟨hP, hD⟩ := va_join (wr := []) (w1 := [(h0, .inr (12, fsMM (upd (upd (upd (upd (upd (upd (upd mi 27 y_108) 28 y_109) 29 y_110) 30 y_111) 31 y_112) 32 y_113) 33 y_114) mr)), ((mr 13), .inl (km_tape, 1600, .inl fm_tape))]) hP hD [0, 1] [] rfl rfl (by decide) (by decide) hk1 hFc hP1 hD1
      have hpr0_r_107 : (mi 30).toInt ≤ y_111.toInt := hpr0_r_107
      have hpr1_r_107 : y_111.toInt ≤ y_110.toInt := hpr1_r_107
      have hpr2_r_107 : y_110.toInt ≤ (mi 26).toInt := hpr2_r_107
      have hpr3_r_107 : Hid ((y_112.toInt = 0 ∨ y_111.toInt < y_110.toInt)) := hpr3_r_107
      have hpr4_r_107 : (mi 33).toInt ≤ y_114.toInt := hpr4_r_107
      have hpr5_r_107 : Hid (((1 : Int) = 1 ∨ y_114.toInt = 1)) := by have h9 : ((1 : Int32).toInt = 1 ∨ y_114.toInt = 1) := hpr5_r_107; rw [show (1 : Int32).toInt = 1 from by decide] at h9; exact h9
      have hpr6_r_107 : Hid ((y_114.toInt = 1 ∨ (mi 29).toInt ≤ y_111.toInt)) := hpr6_r_107
      have hP := hP.sub (ws' := [(h0, .inr (12, fsMM (upd (upd (upd (upd (upd (upd (upd mi 27 y_108) 28 y_109) 29 y_110) 30 y_111) 31 y_112) 32 y_113) 33 y_114) mr)), ((mr 13), .inl (km_tape, 1600, .inl fm_tape))]) [0, 1] rfl
      have hD := hD.sub (ws' := [(h0, .inr (12, fsMM (upd (upd (upd (upd (upd (upd (upd mi 27 y_108) 28 y_109) 29 y_110) 30 y_111) 31 y_112) 32 y_113) 33 y_114) mr)), ((mr 13), .inl (km_tape, 1600, .inl fm_tape))]) [0, 1] (by decide) rfl
      have hF := gf_callm (a := (y_108, y_109, y_110, y_111, y_112, y_113, y_114)) hE hF (by first | with_reducible rfl | simp only [upd_same, upd_app, ↓reduceIte, Nat.reduceEqDiff])
      generalize H1 = H at hP hS ⊢
      exact W.vret hx hb hr (fun t ht hW => ⟨⟨(), rfl, trivial, y_108, y_109, y_110, y_111, y_112, y_113, y_114, gy_110, gy_111, gy_113, gy_114, hpr0_r_107, hpr1_r_107, hpr2_r_107, (Hid.un hpr3_r_107), hpr4_r_107, hF.trans hR9.symm, by rw [ht]; exact hP, hD⟩, hS.F ht⟩) hS.2.2 dX12_word_24
theorem dX12_numberBehind_0 : decode cX12_numberBehind 0 = .ok (.aload_n 0, 1) := by decide +kernel
theorem dX12_numberBehind_1 : decode cX12_numberBehind 1 = .ok (.aload_n 1, 1) := by decide +kernel
theorem dX12_numberBehind_2 : decode cX12_numberBehind 2 = .ok (.invokevirtual 209, 3) := by decide +kernel
theorem dX12_numberBehind_5 : decode cX12_numberBehind 5 = .ok (.aload_n 0, 1) := by decide +kernel
theorem dX12_numberBehind_6 : decode cX12_numberBehind 6 = .ok (.iload_n 2, 1) := by decide +kernel
theorem dX12_numberBehind_7 : decode cX12_numberBehind 7 = .ok (.iload_n 3, 1) := by decide +kernel
theorem dX12_numberBehind_8 : decode cX12_numberBehind 8 = .ok (.invokevirtual 213, 3) := by decide +kernel
theorem dX12_numberBehind_11 : decode cX12_numberBehind 11 = .ok (.ireturn, 1) := by decide +kernel
noncomputable def fX12_numberBehind (mi : Nat → Int32) (fm_tape : Nat → Int32) (p2 : Int32) (p3 : Int32) (wi : Nat) : Int32 × Int32 × Int32 × Int32 × Int32 × Int32 × Int32 × Int32 := cal (fun o1 => cal (fun o2 => (o2.1, o2.2.1, o2.2.2.1, o2.2.2.2.1, o2.2.2.2.2.1, o2.2.2.2.2.2.1, o2.2.2.2.2.2.2.1, o2.2.2.2.2.2.2.2)) (fX12_number (upd (upd (upd (upd (upd (upd (upd mi 27 o1.1) 28 o1.2.1) 29 o1.2.2.1) 30 o1.2.2.2.1) 31 o1.2.2.2.2.1) 32 o1.2.2.2.2.2.1) 33 o1.2.2.2.2.2.2) fm_tape p2 p3)) (fX12_word mi fm_tape wi)
set_option maxHeartbeats 4000000 in
set_option maxRecDepth 100000 in
theorem sX12_numberBehindP (l : Launch) (dC : Nat → ClassId) (dI : Nat → Nat → Nat) (sz : Nat) (h0 : Nat) (mi : Nat → Int32) (mr : Nat → Nat) (km_tape : ClassId) (fm_tape : Nat → Int32) (p2 : Int32) (p3 : Int32) (sa : Nat → Nat) (sb : Nat → Nat) (zf : Value) (wi : Nat) (gmi_0 : gi (mi 0) 0 100000) (gmi_1 : gi (mi 1) 0 100000) (gmi_2 : gi (mi 2) 0 100000) (gmi_4 : gi (mi 4) 0 1) (gmi_7 : gi (mi 7) 0 6) (gmi_10 : gi (mi 10) 0 24) (gmi_17 : gi (mi 17) 0 8) (gmi_23 : gi (mi 23) 0 300) (gmi_24 : gi (mi 24) 0 1) (gmi_26 : gi (mi 26) 0 1600) (gmi_29 : gi (mi 29) 0 1600) (gmi_30 : gi (mi 30) 0 1600) (gmi_32 : gi (mi 32) 0 100000) (gmi_33 : gi (mi 33) 0 1) (gmi_37 : gi (mi 37) 0 1) (gmi_41 : gi (mi 41) 0 24) (gmi_50 : gi (mi 50) 0 1) (gmi_51 : gi (mi 51) 0 1) (gmi_56 : gi (mi 56) 0 80) (gp2 : gi p2 0 100000) (hwi : wi < 18) (hpq0 : (mi 30).toInt ≤ (mi 29).toInt) (hpq1 : (mi 29).toInt ≤ (mi 26).toInt) (hpq2 : ((mi 31).toInt = 0 ∨ (mi 30).toInt < (mi 29).toInt)) : Met l yX12_numberBehind (.code yX12_numberBehind cX12_numberBehind 4 (some .int) :: wsGB) ({ frames := 6, cells := 0, slots := 0, locals := 129 }) (va_Pc [.ref h0, .ref (sa wi), .int p2, .int p3] (fun U => U.heap.size = sz ∧ va_P (dC, dI) vwCl [(h0, .inr (12, fsMM mi mr)), ((mr 13), .inl (km_tape, 1600, .inl fm_tape))] U.heap ∧ va_K (dC, dI) vwCl [(km_tape, .int)] U ∧ va_D (fun _ => True) [(h0, .inr (12, fsMM mi mr)), ((mr 13), .inl (km_tape, 1600, .inl fm_tape))] ∧ gz_ST RX12 stIB sa sb zf (va_A [(h0, .inr (12, fsMM mi mr)), ((mr 13), .inl (km_tape, 1600, .inl fm_tape))] sz) U U.heap)) (va_Qi (fun (r : Int32) (u : Int32) => r = u ∧ gi r 0 100000) (fun r t => ∃ (w0_27 : Int32) (w0_28 : Int32) (w0_29 : Int32) (w0_30 : Int32) (w0_31 : Int32) (w0_32 : Int32) (w0_33 : Int32), gi w0_29 0 1600 ∧ gi w0_30 0 1600 ∧ gi w0_32 0 100000 ∧ gi w0_33 0 1 ∧ (mi 30).toInt ≤ w0_30.toInt ∧ w0_30.toInt ≤ w0_29.toInt ∧ w0_29.toInt ≤ (mi 26).toInt ∧ (w0_31.toInt = 0 ∨ w0_30.toInt < w0_29.toInt) ∧ (mi 33).toInt ≤ w0_33.toInt ∧ (w0_33.toInt = 1 ∨ (p2.toInt ≤ r.toInt ∧ r.toInt ≤ p3.toInt)) ∧ (r, w0_27, w0_28, w0_29, w0_30, w0_31, w0_32, w0_33) = fX12_numberBehind mi fm_tape p2 p3 wi ∧ va_P (dC, dI) vwCl [(h0, .inr (12, fsMM (upd (upd (upd (upd (upd (upd (upd mi 27 w0_27) 28 w0_28) 29 w0_29) 30 w0_30) 31 w0_31) 32 w0_32) 33 w0_33) mr)), ((mr 13), .inl (km_tape, 1600, .inl fm_tape))] t.heap ∧ va_D (va_A [(h0, .inr (12, fsMM mi mr)), ((mr 13), .inl (km_tape, 1600, .inl fm_tape))] sz) [(h0, .inr (12, fsMM (upd (upd (upd (upd (upd (upd (upd mi 27 w0_27) 28 w0_28) 29 w0_29) 30 w0_30) 31 w0_31) 32 w0_32) 33 w0_33) mr)), ((mr 13), .inl (km_tape, 1600, .inl fm_tape))]) (va_A [(h0, .inr (12, fsMM mi mr)), ((mr 13), .inl (km_tape, 1600, .inl fm_tape))] sz)) 0 0 (va_A [(h0, .inr (12, fsMM mi mr)), ((mr 13), .inl (km_tape, 1600, .inl fm_tape))] sz) := by
  refine Met.ofW (cc := cX12_numberBehind) (maxL := 4) (ret := (some .int)) (by decide) rfl ?_
  intro p e s m args below meth c s₁ B hml hv
  obtain ⟨rfl, hsz, hP, hK, hD0, hT⟩ := hv
  have hx := B.exec
  have hb := B.bytes
  have hr := B.returns
  have hts := atoms_spec (ws := (.code yX12_numberBehind cX12_numberBehind 4 (some .int) :: wsGB)) B.pre
  have hown : s.vm.findClass RX12 = some m.cls := findClass_of_methodNamed B.named
  have hlocks := B.notSynchronized
  subst hsz
  have hD := hD0.self (sz := s.heap.size)
  generalize hAe : va_A [(h0, .inr (12, fsMM mi mr)), ((mr 13), .inl (km_tape, 1600, .inl fm_tape))] s.heap.size = A at hD hT ⊢
  have hA : ∀ q : Nat, s.heap.size ≤ q → A q := fun q h => by rw [← hAe]; exact Or.inr h
  have hS : va_S A s.heap s.heap [] := va_S.rf
  have hl := lv_entry ([.ref h0, .ref (sa wi), .int p2, .int p3]) (n := 4) (Nat.le_of_ble_eq_true rfl)
  rw [lg_entry_eq]
  generalize (lg_sl ([.ref h0, .ref (sa wi), .int p2, .int p3]) ++ List.replicate (4 - (lg_sl ([.ref h0, .ref (sa wi), .int p2, .int p3])).length) Slot.unset).toArray = ls at hl ⊢
  have hl : lv_has ls 4 [(0, .ref h0), (1, .ref (sa wi)), (2, .int p2), (3, .int p3)] := hl
  obtain ⟨RES, hF⟩ : ∃ R9, fX12_numberBehind mi fm_tape p2 p3 wi = R9 := ⟨_, rfl⟩
  have hR9 := hF
  refine lv_aload_n hx hb dX12_numberBehind_0 rfl (lv_at hl 0 rfl) ?_
  refine lv_aload_n hx hb dX12_numberBehind_1 rfl (lv_at hl 1 rfl) ?_
  have hPc := hP.sub (ws' := [(h0, .inr (12, fsMM mi mr)), ((mr 13), .inl (km_tape, 1600, .inl fm_tape))]) [0, 1] rfl
  have hKc := hK.sub (tys' := [(km_tape, .int)]) [0] rfl
  have hDc := hD.sub (ws' := [(h0, .inr (12, fsMM mi mr)), ((mr 13), .inl (km_tape, 1600, .inl fm_tape))]) [0, 1] (by decide) rfl
  have hFc := va_free (wc := [(h0, .inr (12, fsMM mi mr)), ((mr 13), .inl (km_tape, 1600, .inl fm_tape))]) hD hS hA [0, 1] rfl
  refine va_callv (va_runV (As := [.ref (sa wi)]) (rest := []) ⟨hx, hb, hml, hown, hts⟩ (sX12_wordP l dC dI s.heap.size h0 mi mr km_tape fm_tape sa sb zf wi gmi_0 gmi_1 gmi_2 gmi_4 gmi_7 gmi_10 gmi_17 gmi_23 gmi_24 gmi_26 gmi_29 gmi_30 gmi_32 gmi_33 gmi_37 gmi_41 gmi_50 gmi_51 gmi_56 hwi (show (mi 30).toInt ≤ (mi 29).toInt from by have qgmi_30 := gmi_30.1; have rgmi_30 := gmi_30.2; have qgmi_29 := gmi_29.1; have rgmi_29 := gmi_29.2; have qgmi_26 := gmi_26.1; have rgmi_26 := gmi_26.2; omega) (show (mi 29).toInt ≤ (mi 26).toInt from by have qgmi_30 := gmi_30.1; have rgmi_30 := gmi_30.2; have qgmi_29 := gmi_29.1; have rgmi_29 := gmi_29.2; have qgmi_26 := gmi_26.1; have rgmi_26 := gmi_26.2; omega) (show ((mi 31).toInt = 0 ∨ (mi 30).toInt < (mi 29).toInt) from by have qgmi_30 := gmi_30.1; have rgmi_30 := gmi_30.2; have qgmi_29 := gmi_29.1; have rgmi_29 := gmi_29.2; have qgmi_26 := gmi_26.1; have rgmi_26 := gmi_26.2; omega)) (cwV 1 hts (gz_gV mGB_151 mGB_152 mGB_153 mGB_1 mGB_154 goodGB) rfl rfl rfl (by decide +kernel) ⟨Nat.le_of_ble_eq_true rfl, Nat.le_of_ble_eq_true rfl⟩) ⟨fun a U g mk q => by obtain ⟨q0, q1, qP, qK, qD, qT⟩ := q; exact ⟨q0, q1, qP, va_K.moved (u := U) (U := U.calling g mk a) (Vm.Alike.refl U.vm) qK, qD, gz_ST.same rfl qT⟩, va_recv hKc hPc (ci := 12) (q0 := 0) rfl rfl, fun U hU hW => ⟨rfl, by rw [hU], by rw [hU]; exact hPc, va_K.moved hW.alike hKc, hDc.weaken (fun _ _ _ _ => trivial), by rw [hU]; exact ((hT.kept hS.2.1).narrow (fun q h => hFc q h)).warm hW⟩⟩ rfl rfl hl.1 rfl (lv_room (Nat.le_of_ble_eq_true rfl)) dX12_numberBehind_2 ⟨Nat.zero_le _, Nat.zero_le _⟩) hS (fun q _ h => hFc q h) hFc (fun u t H1 locs ht hvm hw hB hz1 hk1 hS => ?_)
  obtain ⟨y_34, y_35, y_36, y_37, y_38, y_39, y_40, gy_36, gy_37, gy_39, gy_40, hpr0_r_33, hpr1_r_33, hpr2_r_33, hpr3_r_33, hpr4_r_33, hE, hP1, hD1⟩ := hB
  rw [ht] at hP1
  obtain ⟨hP, hD⟩ := va_join (wr := []) (w1 := [(h0, .inr (12, fsMM (upd (upd (upd (upd (upd (upd (upd mi 27 y_34) 28 y_35) 29 y_36) 30 y_37) 31 y_38) 32 y_39) 33 y_40) mr)), ((mr 13), .inl (km_tape, 1600, .inl fm_tape))]) hP hD [0, 1] [] rfl rfl (by decide) (by decide) hk1 hFc hP1 hD1
  have hpr0_r_33 : (mi 30).toInt ≤ y_37.toInt := hpr0_r_33
  have hpr1_r_33 : y_37.toInt ≤ y_36.toInt := hpr1_r_33
  have hpr2_r_33 : y_36.toInt ≤ (mi 26).toInt := hpr2_r_33
  have hpr3_r_33 : Hid ((y_38.toInt = 0 ∨ y_37.toInt < y_36.toInt)) := hpr3_r_33
  have hpr4_r_33 : (mi 33).toInt ≤ y_40.toInt := hpr4_r_33
  have hP := hP.sub (ws' := [(h0, .inr (12, fsMM (upd (upd (upd (upd (upd (upd (upd mi 27 y_34) 28 y_35) 29 y_36) 30 y_37) 31 y_38) 32 y_39) 33 y_40) mr)), ((mr 13), .inl (km_tape, 1600, .inl fm_tape))]) [0, 1] rfl
  have hD := hD.sub (ws' := [(h0, .inr (12, fsMM (upd (upd (upd (upd (upd (upd (upd mi 27 y_34) 28 y_35) 29 y_36) 30 y_37) 31 y_38) 32 y_39) 33 y_40) mr)), ((mr 13), .inl (km_tape, 1600, .inl fm_tape))]) [0, 1] (by decide) rfl
  have hF := gf_callm (a := (y_34, y_35, y_36, y_37, y_38, y_39, y_40)) hE hF (by first | with_reducible rfl | simp only [upd_same, upd_app, ↓reduceIte, Nat.reduceEqDiff])
  generalize H1 = H at hP hS ⊢
  refine lv_aload_n hx hb dX12_numberBehind_5 rfl (lv_at hl 0 rfl) ?_
  refine lv_iload_n hx hb dX12_numberBehind_6 rfl (lv_at hl 2 rfl) ?_
  refine lv_iload_n hx hb dX12_numberBehind_7 rfl (lv_at hl 3 rfl) ?_
  have hPc := hP.sub (ws' := [(h0, .inr (12, fsMM (upd (upd (upd (upd (upd (upd (upd mi 27 y_34) 28 y_35) 29 y_36) 30 y_37) 31 y_38) 32 y_39) 33 y_40) mr)), ((mr 13), .inl (km_tape, 1600, .inl fm_tape))]) [0, 1] rfl
  have hKc := hK.sub (tys' := [(km_tape, .int)]) [0] rfl
  have hDc := hD.sub (ws' := [(h0, .inr (12, fsMM (upd (upd (upd (upd (upd (upd (upd mi 27 y_34) 28 y_35) 29 y_36) 30 y_37) 31 y_38) 32 y_39) 33 y_40) mr)), ((mr 13), .inl (km_tape, 1600, .inl fm_tape))]) [0, 1] (by decide) rfl
  have hFc := va_free (wc := [(h0, .inr (12, fsMM (upd (upd (upd (upd (upd (upd (upd mi 27 y_34) 28 y_35) 29 y_36) 30 y_37) 31 y_38) 32 y_39) 33 y_40) mr)), ((mr 13), .inl (km_tape, 1600, .inl fm_tape))]) hD hS hA [0, 1] rfl
  refine va_calli (va_runV (As := [.int p2, .int p3]) (rest := []) ⟨hx, hb, hml, hown, hts⟩ (sX12_numberP l dC dI H.size h0 (upd (upd (upd (upd (upd (upd (upd mi 27 y_34) 28 y_35) 29 y_36) 30 y_37) 31 y_38) 32 y_39) 33 y_40) mr km_tape fm_tape p2 p3 gmi_0 gmi_1 gmi_2 gmi_4 gmi_7 gmi_10 gmi_17 gmi_23 gmi_24 gmi_26 gy_36 gy_37 gy_39 gy_40 gmi_37 gmi_41 gmi_50 gmi_51 gmi_56 gp2 (show y_37.toInt ≤ y_36.toInt from by have qgy_40 := gy_40.1; have rgy_40 := gy_40.2; have qgy_37 := gy_37.1; have rgy_37 := gy_37.2; have qgy_36 := gy_36.1; have rgy_36 := gy_36.2; have qgmi_33 := gmi_33.1; have rgmi_33 := gmi_33.2; have qgmi_30 := gmi_30.1; have rgmi_30 := gmi_30.2; have qgmi_29 := gmi_29.1; have rgmi_29 := gmi_29.2; have qgmi_26 := gmi_26.1; have rgmi_26 := gmi_26.2; omega) (show y_36.toInt ≤ (mi 26).toInt from by have qgy_40 := gy_40.1; have rgy_40 := gy_40.2; have qgy_37 := gy_37.1; have rgy_37 := gy_37.2; have qgy_36 := gy_36.1; have rgy_36 := gy_36.2; have qgmi_33 := gmi_33.1; have rgmi_33 := gmi_33.2; have qgmi_30 := gmi_30.1; have rgmi_30 := gmi_30.2; have qgmi_29 := gmi_29.1; have rgmi_29 := gmi_29.2; have qgmi_26 := gmi_26.1; have rgmi_26 := gmi_26.2; omega) (show (y_38.toInt = 0 ∨ y_37.toInt < y_36.toInt) from by have qgy_40 := gy_40.1; have rgy_40 := gy_40.2; have qgy_37 := gy_37.1; have rgy_37 := gy_37.2; have qgy_36 := gy_36.1; have rgy_36 := gy_36.2; have qgmi_33 := gmi_33.1; have rgmi_33 := gmi_33.2; have qgmi_30 := gmi_30.1; have rgmi_30 := gmi_30.2; have qgmi_29 := gmi_29.1; have rgmi_29 := gmi_29.2; have qgmi_26 := gmi_26.1; have rgmi_26 := gmi_26.2; omega)) (cwV 2 hts (gz_gV mGB_177 mGB_178 mGB_179 mGB_1 mGB_180 goodGB) rfl rfl rfl (by decide +kernel) ⟨Nat.le_of_ble_eq_true rfl, Nat.le_of_ble_eq_true rfl⟩) ⟨fun a U g mk q => by obtain ⟨q0, q1, qP, qK, qD⟩ := q; exact ⟨q0, q1, qP, va_K.moved (u := U) (U := U.calling g mk a) (Vm.Alike.refl U.vm) qK, qD⟩, va_recv hKc hPc (ci := 12) (q0 := 0) rfl rfl, fun U hU hW => ⟨rfl, by rw [hU], by rw [hU]; exact hPc, va_K.moved hW.alike hKc, hDc.weaken (fun _ _ _ _ => trivial)⟩⟩ rfl rfl hl.1 rfl (lv_room (Nat.le_of_ble_eq_true rfl)) dX12_numberBehind_8 ⟨Nat.zero_le _, Nat.zero_le _⟩) hS (fun q _ h => hFc q h) hFc (fun r_41 u t H1 locs ht hvm hw hB hz1 hk1 hS => ?_)
  obtain ⟨hu_, hw⟩ := hw
  subst hu_
  obtain ⟨y_42, y_43, y_44, y_45, y_46, y_47, y_48, gy_44, gy_45, gy_47, gy_48, hpr0_r_41, hpr1_r_41, hpr2_r_41, hpr3_r_41, hpr4_r_41, hpr5_r_41, hE, hP1, hD1⟩ := hB
  rw [ht] at hP1
  obtain ⟨hP, hD⟩ := va_join (wr := []) (w1 := [(h0, .inr (12, fsMM (upd (upd (upd (upd (upd (upd (upd mi 27 y_42) 28 y_43) 29 y_44) 30 y_45) 31 y_46) 32 y_47) 33 y_48) mr)), ((mr 13), .inl (km_tape, 1600, .inl fm_tape))]) hP hD [0, 1] [] rfl rfl (by decide) (by decide) hk1 hFc hP1 hD1
  have hpr0_r_41 : y_37.toInt ≤ y_45.toInt := hpr0_r_41
  have hpr1_r_41 : y_45.toInt ≤ y_44.toInt := hpr1_r_41
  have hpr2_r_41 : y_44.toInt ≤ (mi 26).toInt := hpr2_r_41
  have hpr3_r_41 : Hid ((y_46.toInt = 0 ∨ y_45.toInt < y_44.toInt)) := hpr3_r_41
  have hpr4_r_41 : y_40.toInt ≤ y_48.toInt := hpr4_r_41
  have hpr5_r_41 : Hid ((y_48.toInt = 1 ∨ (p2.toInt ≤ r_41.toInt ∧ r_41.toInt ≤ p3.toInt))) := hpr5_r_41
  have hP := hP.sub (ws' := [(h0, .inr (12, fsMM (upd (upd (upd (upd (upd (upd (upd mi 27 y_42) 28 y_43) 29 y_44) 30 y_45) 31 y_46) 32 y_47) 33 y_48) mr)), ((mr 13), .inl (km_tape, 1600, .inl fm_tape))]) [0, 1] rfl
  have hD := hD.sub (ws' := [(h0, .inr (12, fsMM (upd (upd (upd (upd (upd (upd (upd mi 27 y_42) 28 y_43) 29 y_44) 30 y_45) 31 y_46) 32 y_47) 33 y_48) mr)), ((mr 13), .inl (km_tape, 1600, .inl fm_tape))]) [0, 1] (by decide) rfl
  have hF := gf_callm (a := (r_41, y_42, y_43, y_44, y_45, y_46, y_47, y_48)) hE hF (by first | with_reducible rfl | simp only [upd_same, upd_app, ↓reduceIte, Nat.reduceEqDiff])
  generalize H1 = H at hP hS ⊢
  have gr_41 : gi r_41 0 100000 := hw
  exact W.iret (v := r_41) hx hb hr (fun t ht hW => ⟨⟨r_41, r_41, rfl, ⟨rfl, gr_41⟩, y_42, y_43, y_44, y_45, y_46, y_47, y_48, gy_44, gy_45, gy_47, gy_48, (show (mi 30).toInt ≤ y_45.toInt from by have qgy_48 := gy_48.1; have rgy_48 := gy_48.2; have qgy_45 := gy_45.1; have rgy_45 := gy_45.2; have qgy_44 := gy_44.1; have rgy_44 := gy_44.2; have qgy_40 := gy_40.1; have rgy_40 := gy_40.2; have qgy_37 := gy_37.1; have rgy_37 := gy_37.2; have qgy_36 := gy_36.1; have rgy_36 := gy_36.2; have qgmi_33 := gmi_33.1; have rgmi_33 := gmi_33.2; have qgmi_30 := gmi_30.1; have rgmi_30 := gmi_30.2; have qgmi_29 := gmi_29.1; have rgmi_29 := gmi_29.2; have qgmi_26 := gmi_26.1; have rgmi_26 := gmi_26.2; omega), hpr1_r_41, hpr2_r_41, (Hid.un hpr3_r_41), (show (mi 33).toInt ≤ y_48.toInt from by have qgy_48 := gy_48.1; have rgy_48 := gy_48.2; have qgy_45 := gy_45.1; have rgy_45 := gy_45.2; have qgy_44 := gy_44.1; have rgy_44 := gy_44.2; have qgy_40 := gy_40.1; have rgy_40 := gy_40.2; have qgy_37 := gy_37.1; have rgy_37 := gy_37.2; have qgy_36 := gy_36.1; have rgy_36 := gy_36.2; have qgmi_33 := gmi_33.1; have rgmi_33 := gmi_33.2; have qgmi_30 := gmi_30.1; have rgmi_30 := gmi_30.2; have qgmi_29 := gmi_29.1; have rgmi_29 := gmi_29.2; have qgmi_26 := gmi_26.1; have rgmi_26 := gmi_26.2; omega), (Hid.un hpr5_r_41), hF.trans hR9.symm, by rw [ht]; exact hP, hD⟩, hS.F ht⟩) hS.2.2 dX12_numberBehind_11
theorem dX12_readsHead_0 : decode cX12_readsHead 0 = .ok (.aload_n 0, 1) := by decide +kernel
theorem dX12_readsHead_1 : decode cX12_readsHead 1 = .ok (.ldc 250, 2) := by decide +kernel
theorem dX12_readsHead_3 : decode cX12_readsHead 3 = .ok (.invokevirtual 209, 3) := by decide +kernel
theorem dX12_readsHead_6 : decode cX12_readsHead 6 = .ok (.aload_n 0, 1) := by decide +kernel
theorem dX12_readsHead_7 : decode cX12_readsHead 7 = .ok (.aload_n 0, 1) := by decide +kernel
theorem dX12_readsHead_8 : decode cX12_readsHead 8 = .ok (.ldc 246, 2) := by decide +kernel
theorem dX12_readsHead_10 : decode cX12_readsHead 10 = .ok (.iconst 2, 1) := by decide +kernel
theorem dX12_readsHead_11 : decode cX12_readsHead 11 = .ok (.bipush 24, 2) := by decide +kernel
theorem dX12_readsHead_13 : decode cX12_readsHead 13 = .ok (.invokevirtual 223, 3) := by decide +kernel
theorem dX12_readsHead_16 : decode cX12_readsHead 16 = .ok (.putfield 117, 3) := by decide +kernel
theorem dX12_readsHead_19 : decode cX12_readsHead 19 = .ok (.aload_n 0, 1) := by decide +kernel
theorem dX12_readsHead_20 : decode cX12_readsHead 20 = .ok (.aload_n 0, 1) := by decide +kernel
theorem dX12_readsHead_21 : decode cX12_readsHead 21 = .ok (.ldc 252, 2) := by decide +kernel
theorem dX12_readsHead_23 : decode cX12_readsHead 23 = .ok (.iconst 1, 1) := by decide +kernel
theorem dX12_readsHead_24 : decode cX12_readsHead 24 = .ok (.iconst 5, 1) := by decide +kernel
theorem dX12_readsHead_25 : decode cX12_readsHead 25 = .ok (.invokevirtual 223, 3) := by decide +kernel
theorem dX12_readsHead_28 : decode cX12_readsHead 28 = .ok (.putfield 120, 3) := by decide +kernel
theorem dX12_readsHead_31 : decode cX12_readsHead 31 = .ok (.aload_n 0, 1) := by decide +kernel
theorem dX12_readsHead_32 : decode cX12_readsHead 32 = .ok (.aload_n 0, 1) := by decide +kernel
theorem dX12_readsHead_33 : decode cX12_readsHead 33 = .ok (.ldc 254, 2) := by decide +kernel
theorem dX12_readsHead_35 : decode cX12_readsHead 35 = .ok (.iconst 1, 1) := by decide +kernel
theorem dX12_readsHead_36 : decode cX12_readsHead 36 = .ok (.iconst 5, 1) := by decide +kernel
theorem dX12_readsHead_37 : decode cX12_readsHead 37 = .ok (.invokevirtual 223, 3) := by decide +kernel
theorem dX12_readsHead_40 : decode cX12_readsHead 40 = .ok (.putfield 123, 3) := by decide +kernel
theorem dX12_readsHead_43 : decode cX12_readsHead 43 = .ok (.return_, 1) := by decide +kernel
noncomputable def fX12_readsHead (mi : Nat → Int32) (fm_tape : Nat → Int32) : Int32 × Int32 × Int32 × Int32 × Int32 × Int32 × Int32 × Int32 × Int32 × Int32 := cal (fun o1 => cal (fun o2 => cal (fun o3 => cal (fun o4 => (o2.1, o3.1, o4.1, o4.2.1, o4.2.2.1, o4.2.2.2.1, o4.2.2.2.2.1, o4.2.2.2.2.2.1, o4.2.2.2.2.2.2.1, o4.2.2.2.2.2.2.2)) (fX12_numberBehind (upd (upd (upd (upd (upd (upd (upd (upd (upd mi 0 o2.1) 1 o3.1) 27 o3.2.1) 28 o3.2.2.1) 29 o3.2.2.2.1) 30 o3.2.2.2.2.1) 31 o3.2.2.2.2.2.1) 32 o3.2.2.2.2.2.2.1) 33 o3.2.2.2.2.2.2.2) fm_tape (1 : Int32) (5 : Int32) 9)) (fX12_numberBehind (upd (upd (upd (upd (upd (upd (upd (upd mi 0 o2.1) 27 o2.2.1) 28 o2.2.2.1) 29 o2.2.2.2.1) 30 o2.2.2.2.2.1) 31 o2.2.2.2.2.2.1) 32 o2.2.2.2.2.2.2.1) 33 o2.2.2.2.2.2.2.2) fm_tape (1 : Int32) (5 : Int32) 7)) (fX12_numberBehind (upd (upd (upd (upd (upd (upd (upd mi 27 o1.1) 28 o1.2.1) 29 o1.2.2.1) 30 o1.2.2.2.1) 31 o1.2.2.2.2.1) 32 o1.2.2.2.2.2.1) 33 o1.2.2.2.2.2.2) fm_tape (2 : Int32) (24 : Int32) 11)) (fX12_word mi fm_tape 0)
set_option maxHeartbeats 4000000 in
set_option maxRecDepth 100000 in
theorem sX12_readsHeadP (l : Launch) (dC : Nat → ClassId) (dI : Nat → Nat → Nat) (sz : Nat) (h0 : Nat) (mi : Nat → Int32) (mr : Nat → Nat) (km_tape : ClassId) (fm_tape : Nat → Int32) (sa : Nat → Nat) (sb : Nat → Nat) (zf : Value) (gmi_0 : gi (mi 0) 0 100000) (gmi_1 : gi (mi 1) 0 100000) (gmi_2 : gi (mi 2) 0 100000) (gmi_4 : gi (mi 4) 0 1) (gmi_7 : gi (mi 7) 0 6) (gmi_10 : gi (mi 10) 0 24) (gmi_17 : gi (mi 17) 0 8) (gmi_23 : gi (mi 23) 0 300) (gmi_24 : gi (mi 24) 0 1) (gmi_26 : gi (mi 26) 0 1600) (gmi_29 : gi (mi 29) 0 1600) (gmi_30 : gi (mi 30) 0 1600) (gmi_32 : gi (mi 32) 0 100000) (gmi_33 : gi (mi 33) 0 1) (gmi_37 : gi (mi 37) 0 1) (gmi_41 : gi (mi 41) 0 24) (gmi_50 : gi (mi 50) 0 1) (gmi_51 : gi (mi 51) 0 1) (gmi_56 : gi (mi 56) 0 80) (hpq0 : (mi 30).toInt ≤ (mi 29).toInt) (hpq1 : (mi 29).toInt ≤ (mi 26).toInt) (hpq2 : ((mi 31).toInt = 0 ∨ (mi 30).toInt < (mi 29).toInt)) : Met l yX12_readsHead (.code yX12_readsHead cX12_readsHead 1 none :: wsGB) ({ frames := 7, cells := 0, slots := 0, locals := 152 }) (va_Pc [.ref h0] (fun U => U.heap.size = sz ∧ va_P (dC, dI) vwCl [(h0, .inr (12, fsMM mi mr)), ((mr 13), .inl (km_tape, 1600, .inl fm_tape))] U.heap ∧ va_K (dC, dI) vwCl [(km_tape, .int)] U ∧ va_D (fun _ => True) [(h0, .inr (12, fsMM mi mr)), ((mr 13), .inl (km_tape, 1600, .inl fm_tape))] ∧ gz_ST RX12 stIB sa sb zf (va_A [(h0, .inr (12, fsMM mi mr)), ((mr 13), .inl (km_tape, 1600, .inl fm_tape))] sz) U U.heap)) (va_Qv (fun (u : Unit) => True) (fun _ t => ∃ (w0_0 : Int32) (w0_1 : Int32) (w0_2 : Int32) (w0_27 : Int32) (w0_28 : Int32) (w0_29 : Int32) (w0_30 : Int32) (w0_31 : Int32) (w0_32 : Int32) (w0_33 : Int32), gi w0_0 0 100000 ∧ gi w0_1 0 100000 ∧ gi w0_2 0 100000 ∧ gi w0_29 0 1600 ∧ gi w0_30 0 1600 ∧ gi w0_32 0 100000 ∧ gi w0_33 0 1 ∧ (mi 30).toInt ≤ w0_30.toInt ∧ w0_30.toInt ≤ w0_29.toInt ∧ w0_29.toInt ≤ (mi 26).toInt ∧ (w0_31.toInt = 0 ∨ w0_30.toInt < w0_29.toInt) ∧ (mi 33).toInt ≤ w0_33.toInt ∧ (w0_33.toInt = 1 ∨ (2 ≤ w0_0.toInt ∧ w0_0.toInt ≤ 24 ∧ 1 ≤ w0_1.toInt ∧ w0_1.toInt ≤ 5 ∧ 1 ≤ w0_2.toInt ∧ w0_2.toInt ≤ 5)) ∧ (w0_0, w0_1, w0_2, w0_27, w0_28, w0_29, w0_30, w0_31, w0_32, w0_33) = fX12_readsHead mi fm_tape ∧ va_P (dC, dI) vwCl [(h0, .inr (12, fsMM (upd (upd (upd (upd (upd (upd (upd (upd (upd (upd mi 0 w0_0) 1 w0_1) 2 w0_2) 27 w0_27) 28 w0_28) 29 w0_29) 30 w0_30) 31 w0_31) 32 w0_32) 33 w0_33) mr)), ((mr 13), .inl (km_tape, 1600, .inl fm_tape))] t.heap ∧ va_D (va_A [(h0, .inr (12, fsMM mi mr)), ((mr 13), .inl (km_tape, 1600, .inl fm_tape))] sz) [(h0, .inr (12, fsMM (upd (upd (upd (upd (upd (upd (upd (upd (upd (upd mi 0 w0_0) 1 w0_1) 2 w0_2) 27 w0_27) 28 w0_28) 29 w0_29) 30 w0_30) 31 w0_31) 32 w0_32) 33 w0_33) mr)), ((mr 13), .inl (km_tape, 1600, .inl fm_tape))]) (va_A [(h0, .inr (12, fsMM mi mr)), ((mr 13), .inl (km_tape, 1600, .inl fm_tape))] sz)) 0 0 (va_A [(h0, .inr (12, fsMM mi mr)), ((mr 13), .inl (km_tape, 1600, .inl fm_tape))] sz) := by
  refine Met.ofW (cc := cX12_readsHead) (maxL := 1) (ret := none) (by decide) rfl ?_
  intro p e s m args below meth c s₁ B hml hv
  obtain ⟨rfl, hsz, hP, hK, hD0, hT⟩ := hv
  have hx := B.exec
  have hb := B.bytes
  have hr := B.returns
  have hts := atoms_spec (ws := (.code yX12_readsHead cX12_readsHead 1 none :: wsGB)) B.pre
  have hown : s.vm.findClass RX12 = some m.cls := findClass_of_methodNamed B.named
  have hlocks := B.notSynchronized
  subst hsz
  have hD := hD0.self (sz := s.heap.size)
  generalize hAe : va_A [(h0, .inr (12, fsMM mi mr)), ((mr 13), .inl (km_tape, 1600, .inl fm_tape))] s.heap.size = A at hD hT ⊢
  have hA : ∀ q : Nat, s.heap.size ≤ q → A q := fun q h => by rw [← hAe]; exact Or.inr h
  have hS : va_S A s.heap s.heap [] := va_S.rf
  have hl := lv_entry ([.ref h0]) (n := 1) (Nat.le_of_ble_eq_true rfl)
  rw [lg_entry_eq]
  generalize (lg_sl ([.ref h0]) ++ List.replicate (1 - (lg_sl ([.ref h0])).length) Slot.unset).toArray = ls at hl ⊢
  have hl : lv_has ls 1 [(0, .ref h0)] := hl
  obtain ⟨RES, hF⟩ : ∃ R9, fX12_readsHead mi fm_tape = R9 := ⟨_, rfl⟩
  have hR9 := hF
  refine lv_aload_n hx hb dX12_readsHead_0 rfl (lv_at hl 0 rfl) ?_
  refine va_ldcS hx hb hown (show vk_R RX12 250 "almanac" (sa 0) s from (hT.2 0 (by decide)).1) dX12_readsHead_1 ?_
  have hPc := hP.sub (ws' := [(h0, .inr (12, fsMM mi mr)), ((mr 13), .inl (km_tape, 1600, .inl fm_tape))]) [0, 1] rfl
  have hKc := hK.sub (tys' := [(km_tape, .int)]) [0] rfl
  have hDc := hD.sub (ws' := [(h0, .inr (12, fsMM mi mr)), ((mr 13), .inl (km_tape, 1600, .inl fm_tape))]) [0, 1] (by decide) rfl
  have hFc := va_free (wc := [(h0, .inr (12, fsMM mi mr)), ((mr 13), .inl (km_tape, 1600, .inl fm_tape))]) hD hS hA [0, 1] rfl
  refine va_callv (va_runV (As := [.ref (sa 0)]) (rest := []) ⟨hx, hb, hml, hown, hts⟩ (sX12_wordP l dC dI s.heap.size h0 mi mr km_tape fm_tape sa sb zf 0 gmi_0 gmi_1 gmi_2 gmi_4 gmi_7 gmi_10 gmi_17 gmi_23 gmi_24 gmi_26 gmi_29 gmi_30 gmi_32 gmi_33 gmi_37 gmi_41 gmi_50 gmi_51 gmi_56 (by decide) (show (mi 30).toInt ≤ (mi 29).toInt from by have qgmi_30 := gmi_30.1; have rgmi_30 := gmi_30.2; have qgmi_29 := gmi_29.1; have rgmi_29 := gmi_29.2; have qgmi_26 := gmi_26.1; have rgmi_26 := gmi_26.2; omega) (show (mi 29).toInt ≤ (mi 26).toInt from by have qgmi_30 := gmi_30.1; have rgmi_30 := gmi_30.2; have qgmi_29 := gmi_29.1; have rgmi_29 := gmi_29.2; have qgmi_26 := gmi_26.1; have rgmi_26 := gmi_26.2; omega) (show ((mi 31).toInt = 0 ∨ (mi 30).toInt < (mi 29).toInt) from by have qgmi_30 := gmi_30.1; have rgmi_30 := gmi_30.2; have qgmi_29 := gmi_29.1; have rgmi_29 := gmi_29.2; have qgmi_26 := gmi_26.1; have rgmi_26 := gmi_26.2; omega)) (cwV 1 hts (gz_gV mGB_151 mGB_152 mGB_153 mGB_1 mGB_154 goodGB) rfl rfl rfl (by decide +kernel) ⟨Nat.le_of_ble_eq_true rfl, Nat.le_of_ble_eq_true rfl⟩) ⟨fun a U g mk q => by obtain ⟨q0, q1, qP, qK, qD, qT⟩ := q; exact ⟨q0, q1, qP, va_K.moved (u := U) (U := U.calling g mk a) (Vm.Alike.refl U.vm) qK, qD, gz_ST.same rfl qT⟩, va_recv hKc hPc (ci := 12) (q0 := 0) rfl rfl, fun U hU hW => ⟨rfl, by rw [hU], by rw [hU]; exact hPc, va_K.moved hW.alike hKc, hDc.weaken (fun _ _ _ _ => trivial), by rw [hU]; exact ((hT.kept hS.2.1).narrow (fun q h => hFc q h)).warm hW⟩⟩ rfl rfl hl.1 rfl (lv_room (Nat.le_of_ble_eq_true rfl)) dX12_readsHead_3 ⟨Nat.zero_le _, Nat.zero_le _⟩) hS (fun q _ h => hFc q h) hFc (fun u t H1 locs ht hvm hw hB hz1 hk1 hS => ?_)
  obtain ⟨y_66, y_67, y_68, y_69, y_70, y_71, y_72, gy_68, gy_69, gy_71, gy_72, hpr0_r_65, hpr1_r_65, hpr2_r_65, hpr3_r_65, hpr4_r_65, hE, hP1, hD1⟩ := hB
  rw [ht] at hP1
  obtain ⟨hP, hD⟩ := va_join (wr := []) (w1 := [(h0, .inr (12, fsMM (upd (upd (upd (upd (upd (upd (upd mi 27 y_66) 28 y_67) 29 y_68) 30 y_69) 31 y_70) 32 y_71) 33 y_72) mr)), ((mr 13), .inl (km_tape, 1600, .inl fm_tape))]) hP hD [0, 1] [] rfl rfl (by decide) (by decide) hk1 hFc hP1 hD1
  have hpr0_r_65 : (mi 30).toInt ≤ y_69.toInt := hpr0_r_65
  have hpr1_r_65 : y_69.toInt ≤ y_68.toInt := hpr1_r_65
  have hpr2_r_65 : y_68.toInt ≤ (mi 26).toInt := hpr2_r_65
  have hpr3_r_65 : Hid ((y_70.toInt = 0 ∨ y_69.toInt < y_68.toInt)) := hpr3_r_65
  have hpr4_r_65 : (mi 33).toInt ≤ y_72.toInt := hpr4_r_65
  have hP := hP.sub (ws' := [(h0, .inr (12, fsMM (upd (upd (upd (upd (upd (upd (upd mi 27 y_66) 28 y_67) 29 y_68) 30 y_69) 31 y_70) 32 y_71) 33 y_72) mr)), ((mr 13), .inl (km_tape, 1600, .inl fm_tape))]) [0, 1] rfl
  have hD := hD.sub (ws' := [(h0, .inr (12, fsMM (upd (upd (upd (upd (upd (upd (upd mi 27 y_66) 28 y_67) 29 y_68) 30 y_69) 31 y_70) 32 y_71) 33 y_72) mr)), ((mr 13), .inl (km_tape, 1600, .inl fm_tape))]) [0, 1] (by decide) rfl
  have hF := gf_callm (a := (y_66, y_67, y_68, y_69, y_70, y_71, y_72)) hE hF (by first | with_reducible rfl | simp only [upd_same, upd_app, ↓reduceIte, Nat.reduceEqDiff])
  generalize H1 = H at hP hS ⊢
  refine lv_aload_n hx hb dX12_readsHead_6 rfl (lv_at hl 0 rfl) ?_
  refine lv_aload_n hx hb dX12_readsHead_7 rfl (lv_at hl 0 rfl) ?_
  refine va_ldcS hx hb hown (show vk_R RX12 246 "months" (sa 11) s from (hT.2 11 (by decide)).1) dX12_readsHead_8 ?_
  refine lv_iconst (v := 2) hx hb dX12_readsHead_10 (by decide) ?_
  refine lv_bipush (v := 24) hx hb dX12_readsHead_11 (by decide) ?_
  have hPc := hP.sub (ws' := [(h0, .inr (12, fsMM (upd (upd (upd (upd (upd (upd (upd mi 27 y_66) 28 y_67) 29 y_68) 30 y_69) 31 y_70) 32 y_71) 33 y_72) mr)), ((mr 13), .inl (km_tape, 1600, .inl fm_tape))]) [0, 1] rfl
  have hKc := hK.sub (tys' := [(km_tape, .int)]) [0] rfl
  have hDc := hD.sub (ws' := [(h0, .inr (12, fsMM (upd (upd (upd (upd (upd (upd (upd mi 27 y_66) 28 y_67) 29 y_68) 30 y_69) 31 y_70) 32 y_71) 33 y_72) mr)), ((mr 13), .inl (km_tape, 1600, .inl fm_tape))]) [0, 1] (by decide) rfl
  have hFc := va_free (wc := [(h0, .inr (12, fsMM (upd (upd (upd (upd (upd (upd (upd mi 27 y_66) 28 y_67) 29 y_68) 30 y_69) 31 y_70) 32 y_71) 33 y_72) mr)), ((mr 13), .inl (km_tape, 1600, .inl fm_tape))]) hD hS hA [0, 1] rfl
  refine va_calli (va_runV (As := [.ref (sa 11), .int 2, .int 24]) (rest := [.ref h0]) ⟨hx, hb, hml, hown, hts⟩ (sX12_numberBehindP l dC dI H.size h0 (upd (upd (upd (upd (upd (upd (upd mi 27 y_66) 28 y_67) 29 y_68) 30 y_69) 31 y_70) 32 y_71) 33 y_72) mr km_tape fm_tape 2 24 sa sb zf 11 gmi_0 gmi_1 gmi_2 gmi_4 gmi_7 gmi_10 gmi_17 gmi_23 gmi_24 gmi_26 gy_68 gy_69 gy_71 gy_72 gmi_37 gmi_41 gmi_50 gmi_51 gmi_56 (gi_w (gi_c 2 2 (by decide)) (by decide)) (by decide) (show y_69.toInt ≤ y_68.toInt from by have qgy_72 := gy_72.1; have rgy_72 := gy_72.2; have qgy_69 := gy_69.1; have rgy_69 := gy_69.2; have qgy_68 := gy_68.1; have rgy_68 := gy_68.2; have qgmi_33 := gmi_33.1; have rgmi_33 := gmi_33.2; have qgmi_30 := gmi_30.1; have rgmi_30 := gmi_30.2; have qgmi_29 := gmi_29.1; have rgmi_29 := gmi_29.2; have qgmi_26 := gmi_26.1; have rgmi_26 := gmi_26.2; omega) (show y_68.toInt ≤ (mi 26).toInt from by have qgy_72 := gy_72.1; have rgy_72 := gy_72.2; have qgy_69 := gy_69.1; have rgy_69 := gy_69.2; have qgy_68 := gy_68.1; have rgy_68 := gy_68.2; have qgmi_33 := gmi_33.1; have rgmi_33 := gmi_33.2; have qgmi_30 := gmi_30.1; have rgmi_30 := gmi_30.2; have qgmi_29 := gmi_29.1; have rgmi_29 := gmi_29.2; have qgmi_26 := gmi_26.1; have rgmi_26 := gmi_26.2; omega) (show (y_70.toInt = 0 ∨ y_69.toInt < y_68.toInt) from by have qgy_72 := gy_72.1; have rgy_72 := gy_72.2; have qgy_69 := gy_69.1; have rgy_69 := gy_69.2; have qgy_68 := gy_68.1; have rgy_68 := gy_68.2; have qgmi_33 := gmi_33.1; have rgmi_33 := gmi_33.2; have qgmi_30 := gmi_30.1; have rgmi_30 := gmi_30.2; have qgmi_29 := gmi_29.1; have rgmi_29 := gmi_29.2; have qgmi_26 := gmi_26.1; have rgmi_26 := gmi_26.2; omega)) (cwV 3 hts (gz_gV mGB_173 mGB_174 mGB_175 mGB_1 mGB_176 goodGB) rfl rfl rfl (by decide +kernel) ⟨Nat.le_of_ble_eq_true rfl, Nat.le_of_ble_eq_true rfl⟩) ⟨fun a U g mk q => by obtain ⟨q0, q1, qP, qK, qD, qT⟩ := q; exact ⟨q0, q1, qP, va_K.moved (u := U) (U := U.calling g mk a) (Vm.Alike.refl U.vm) qK, qD, gz_ST.same rfl qT⟩, va_recv hKc hPc (ci := 12) (q0 := 0) rfl rfl, fun U hU hW => ⟨rfl, by rw [hU], by rw [hU]; exact hPc, va_K.moved hW.alike hKc, hDc.weaken (fun _ _ _ _ => trivial), by rw [hU]; exact ((hT.kept hS.2.1).narrow (fun q h => hFc q h)).warm hW⟩⟩ rfl rfl hl.1 rfl (lv_room (Nat.le_of_ble_eq_true rfl)) dX12_readsHead_13 ⟨Nat.zero_le _, Nat.zero_le _⟩) hS (fun q _ h => hFc q h) hFc (fun r_73 u t H1 locs ht hvm hw hB hz1 hk1 hS => ?_)
  obtain ⟨hu_, hw⟩ := hw
  subst hu_
  obtain ⟨y_74, y_75, y_76, y_77, y_78, y_79, y_80, gy_76, gy_77, gy_79, gy_80, hpr0_r_73, hpr1_r_73, hpr2_r_73, hpr3_r_73, hpr4_r_73, hpr5_r_73, hE, hP1, hD1⟩ := hB
  rw [ht] at hP1
  obtain ⟨hP, hD⟩ := va_join (wr := []) (w1 := [(h0, .inr (12, fsMM (upd (upd (upd (upd (upd (upd (upd mi 27 y_74) 28 y_75) 29 y_76) 30 y_77) 31 y_78) 32 y_79) 33 y_80) mr)), ((mr 13), .inl (km_tape, 1600, .inl fm_tape))]) hP hD [0, 1] [] rfl rfl (by decide) (by decide) hk1 hFc hP1 hD1
  have hpr0_r_73 : y_69.toInt ≤ y_77.toInt := hpr0_r_73
  have hpr1_r_73 : y_77.toInt ≤ y_76.toInt := hpr1_r_73
  have hpr2_r_73 : y_76.toInt ≤ (mi 26).toInt := hpr2_r_73
  have hpr3_r_73 : Hid ((y_78.toInt = 0 ∨ y_77.toInt < y_76.toInt)) := hpr3_r_73
  have hpr4_r_73 : y_72.toInt ≤ y_80.toInt := hpr4_r_73
  have hpr5_r_73 : Hid ((y_80.toInt = 1 ∨ ((2 : Int) ≤ r_73.toInt ∧ r_73.toInt ≤ (24 : Int)))) := by have h9 : (y_80.toInt = 1 ∨ ((2 : Int32).toInt ≤ r_73.toInt ∧ r_73.toInt ≤ (24 : Int32).toInt)) := hpr5_r_73; rw [show (2 : Int32).toInt = 2 from by decide] at h9; rw [show (24 : Int32).toInt = 24 from by decide] at h9; exact h9
  have hP := hP.sub (ws' := [(h0, .inr (12, fsMM (upd (upd (upd (upd (upd (upd (upd mi 27 y_74) 28 y_75) 29 y_76) 30 y_77) 31 y_78) 32 y_79) 33 y_80) mr)), ((mr 13), .inl (km_tape, 1600, .inl fm_tape))]) [0, 1] rfl
  have hD := hD.sub (ws' := [(h0, .inr (12, fsMM (upd (upd (upd (upd (upd (upd (upd mi 27 y_74) 28 y_75) 29 y_76) 30 y_77) 31 y_78) 32 y_79) 33 y_80) mr)), ((mr 13), .inl (km_tape, 1600, .inl fm_tape))]) [0, 1] (by decide) rfl
  have hF := gf_callm (a := (r_73, y_74, y_75, y_76, y_77, y_78, y_79, y_80)) hE hF (by first | with_reducible rfl | simp only [upd_same, upd_app, ↓reduceIte, Nat.reduceEqDiff])
  generalize H1 = H at hP hS ⊢
  have gr_73 : gi r_73 0 100000 := hw
  refine va_put (D := (dC, dI)) (ci := 12) (v := .int r_73) (ty := .int) (C := RX12) (T := TX12) (N := 57) hx hb hts (fun w h => List.mem_cons_of_mem _ (jnGB_X12 w h)) tyX12 tyX12_ok nmX12 hown hK hP hD hS 0 rfl rfl 0 (by decide) (hts _ (List.mem_cons_of_mem _ mGB_103)) (fun _ h9 => h9) rfl (by decide +kernel) rfl rfl (Nat.le_of_ble_eq_true rfl) dX12_readsHead_16 (fun H locs hP hD hS => ?_)
  have hP : va_P (dC, dI) vwCl [(h0, .inr (12, fsMM (upd (upd (upd (upd (upd (upd (upd (upd mi 0 r_73) 27 y_74) 28 y_75) 29 y_76) 30 y_77) 31 y_78) 32 y_79) 33 y_80) mr)), ((mr 13), .inl (km_tape, 1600, .inl fm_tape))] H := hP
  have hD : va_D A [(h0, .inr (12, fsMM (upd (upd (upd (upd (upd (upd (upd (upd mi 0 r_73) 27 y_74) 28 y_75) 29 y_76) 30 y_77) 31 y_78) 32 y_79) 33 y_80) mr)), ((mr 13), .inl (km_tape, 1600, .inl fm_tape))] := hD
  refine lv_aload_n hx hb dX12_readsHead_19 rfl (lv_at hl 0 rfl) ?_
  refine lv_aload_n hx hb dX12_readsHead_20 rfl (lv_at hl 0 rfl) ?_
  refine va_ldcS hx hb hown (show vk_R RX12 252 "full" (sa 7) s from (hT.2 7 (by decide)).1) dX12_readsHead_21 ?_
  refine lv_iconst (v := 1) hx hb dX12_readsHead_23 (by decide) ?_
  refine lv_iconst (v := 5) hx hb dX12_readsHead_24 (by decide) ?_
  have hPc := hP.sub (ws' := [(h0, .inr (12, fsMM (upd (upd (upd (upd (upd (upd (upd (upd mi 0 r_73) 27 y_74) 28 y_75) 29 y_76) 30 y_77) 31 y_78) 32 y_79) 33 y_80) mr)), ((mr 13), .inl (km_tape, 1600, .inl fm_tape))]) [0, 1] rfl
  have hKc := hK.sub (tys' := [(km_tape, .int)]) [0] rfl
  have hDc := hD.sub (ws' := [(h0, .inr (12, fsMM (upd (upd (upd (upd (upd (upd (upd (upd mi 0 r_73) 27 y_74) 28 y_75) 29 y_76) 30 y_77) 31 y_78) 32 y_79) 33 y_80) mr)), ((mr 13), .inl (km_tape, 1600, .inl fm_tape))]) [0, 1] (by decide) rfl
  have hFc := va_free (wc := [(h0, .inr (12, fsMM (upd (upd (upd (upd (upd (upd (upd (upd mi 0 r_73) 27 y_74) 28 y_75) 29 y_76) 30 y_77) 31 y_78) 32 y_79) 33 y_80) mr)), ((mr 13), .inl (km_tape, 1600, .inl fm_tape))]) hD hS hA [0, 1] rfl
  refine va_calli (va_runV (As := [.ref (sa 7), .int 1, .int 5]) (rest := [.ref h0]) ⟨hx, hb, hml, hown, hts⟩ (sX12_numberBehindP l dC dI H.size h0 (upd (upd (upd (upd (upd (upd (upd (upd mi 0 r_73) 27 y_74) 28 y_75) 29 y_76) 30 y_77) 31 y_78) 32 y_79) 33 y_80) mr km_tape fm_tape 1 5 sa sb zf 7 gr_73 gmi_1 gmi_2 gmi_4 gmi_7 gmi_10 gmi_17 gmi_23 gmi_24 gmi_26 gy_76 gy_77 gy_79 gy_80 gmi_37 gmi_41 gmi_50 gmi_51 gmi_56 (gi_w (gi_c 1 1 (by decide)) (by decide)) (by decide) (show y_77.toInt ≤ y_76.toInt from by have qgy_80 := gy_80.1; have rgy_80 := gy_80.2; have qgy_77 := gy_77.1; have rgy_77 := gy_77.2; have qgy_76 := gy_76.1; have rgy_76 := gy_76.2; have qgy_72 := gy_72.1; have rgy_72 := gy_72.2; have qgy_69 := gy_69.1; have rgy_69 := gy_69.2; have qgy_68 := gy_68.1; have rgy_68 := gy_68.2; have qgmi_33 := gmi_33.1; have rgmi_33 := gmi_33.2; have qgmi_30 := gmi_30.1; have rgmi_30 := gmi_30.2; have qgmi_29 := gmi_29.1; have rgmi_29 := gmi_29.2; have qgmi_26 := gmi_26.1; have rgmi_26 := gmi_26.2; omega) (show y_76.toInt ≤ (mi 26).toInt from by have qgy_80 := gy_80.1; have rgy_80 := gy_80.2; have qgy_77 := gy_77.1; have rgy_77 := gy_77.2; have qgy_76 := gy_76.1; have rgy_76 := gy_76.2; have qgy_72 := gy_72.1; have rgy_72 := gy_72.2; have qgy_69 := gy_69.1; have rgy_69 := gy_69.2; have qgy_68 := gy_68.1; have rgy_68 := gy_68.2; have qgmi_33 := gmi_33.1; have rgmi_33 := gmi_33.2; have qgmi_30 := gmi_30.1; have rgmi_30 := gmi_30.2; have qgmi_29 := gmi_29.1; have rgmi_29 := gmi_29.2; have qgmi_26 := gmi_26.1; have rgmi_26 := gmi_26.2; omega) (show (y_78.toInt = 0 ∨ y_77.toInt < y_76.toInt) from by have qgy_80 := gy_80.1; have rgy_80 := gy_80.2; have qgy_77 := gy_77.1; have rgy_77 := gy_77.2; have qgy_76 := gy_76.1; have rgy_76 := gy_76.2; have qgy_72 := gy_72.1; have rgy_72 := gy_72.2; have qgy_69 := gy_69.1; have rgy_69 := gy_69.2; have qgy_68 := gy_68.1; have rgy_68 := gy_68.2; have qgmi_33 := gmi_33.1; have rgmi_33 := gmi_33.2; have qgmi_30 := gmi_30.1; have rgmi_30 := gmi_30.2; have qgmi_29 := gmi_29.1; have rgmi_29 := gmi_29.2; have qgmi_26 := gmi_26.1; have rgmi_26 := gmi_26.2; omega)) (cwV 3 hts (gz_gV mGB_173 mGB_174 mGB_175 mGB_1 mGB_176 goodGB) rfl rfl rfl (by decide +kernel) ⟨Nat.le_of_ble_eq_true rfl, Nat.le_of_ble_eq_true rfl⟩) ⟨fun a U g mk q => by obtain ⟨q0, q1, qP, qK, qD, qT⟩ := q; exact ⟨q0, q1, qP, va_K.moved (u := U) (U := U.calling g mk a) (Vm.Alike.refl U.vm) qK, qD, gz_ST.same rfl qT⟩, va_recv hKc hPc (ci := 12) (q0 := 0) rfl rfl, fun U hU hW => ⟨rfl, by rw [hU], by rw [hU]; exact hPc, va_K.moved hW.alike hKc, hDc.weaken (fun _ _ _ _ => trivial), by rw [hU]; exact ((hT.kept hS.2.1).narrow (fun q h => hFc q h)).warm hW⟩⟩ rfl rfl hl.1 rfl (lv_room (Nat.le_of_ble_eq_true rfl)) dX12_readsHead_25 ⟨Nat.zero_le _, Nat.zero_le _⟩) hS (fun q _ h => hFc q h) hFc (fun r_81 u t H1 locs ht hvm hw hB hz1 hk1 hS => ?_)
  obtain ⟨hu_, hw⟩ := hw
  subst hu_
  obtain ⟨y_82, y_83, y_84, y_85, y_86, y_87, y_88, gy_84, gy_85, gy_87, gy_88, hpr0_r_81, hpr1_r_81, hpr2_r_81, hpr3_r_81, hpr4_r_81, hpr5_r_81, hE, hP1, hD1⟩ := hB
  rw [ht] at hP1
  obtain ⟨hP, hD⟩ := va_join (wr := []) (w1 := [(h0, .inr (12, fsMM (upd (upd (upd (upd (upd (upd (upd (upd mi 0 r_73) 27 y_82) 28 y_83) 29 y_84) 30 y_85) 31 y_86) 32 y_87) 33 y_88) mr)), ((mr 13), .inl (km_tape, 1600, .inl fm_tape))]) hP hD [0, 1] [] rfl rfl (by decide) (by decide) hk1 hFc hP1 hD1
  have hpr0_r_81 : y_77.toInt ≤ y_85.toInt := hpr0_r_81
  have hpr1_r_81 : y_85.toInt ≤ y_84.toInt := hpr1_r_81
  have hpr2_r_81 : y_84.toInt ≤ (mi 26).toInt := hpr2_r_81
  have hpr3_r_81 : Hid ((y_86.toInt = 0 ∨ y_85.toInt < y_84.toInt)) := hpr3_r_81
  have hpr4_r_81 : y_80.toInt ≤ y_88.toInt := hpr4_r_81
  have hpr5_r_81 : Hid ((y_88.toInt = 1 ∨ ((1 : Int) ≤ r_81.toInt ∧ r_81.toInt ≤ (5 : Int)))) := by have h9 : (y_88.toInt = 1 ∨ ((1 : Int32).toInt ≤ r_81.toInt ∧ r_81.toInt ≤ (5 : Int32).toInt)) := hpr5_r_81; rw [show (1 : Int32).toInt = 1 from by decide] at h9; rw [show (5 : Int32).toInt = 5 from by decide] at h9; exact h9
  have hP := hP.sub (ws' := [(h0, .inr (12, fsMM (upd (upd (upd (upd (upd (upd (upd (upd mi 0 r_73) 27 y_82) 28 y_83) 29 y_84) 30 y_85) 31 y_86) 32 y_87) 33 y_88) mr)), ((mr 13), .inl (km_tape, 1600, .inl fm_tape))]) [0, 1] rfl
  have hD := hD.sub (ws' := [(h0, .inr (12, fsMM (upd (upd (upd (upd (upd (upd (upd (upd mi 0 r_73) 27 y_82) 28 y_83) 29 y_84) 30 y_85) 31 y_86) 32 y_87) 33 y_88) mr)), ((mr 13), .inl (km_tape, 1600, .inl fm_tape))]) [0, 1] (by decide) rfl
  have hF := gf_callm (a := (r_81, y_82, y_83, y_84, y_85, y_86, y_87, y_88)) hE hF (by first | with_reducible rfl | simp only [upd_same, upd_app, ↓reduceIte, Nat.reduceEqDiff])
  generalize H1 = H at hP hS ⊢
  have gr_81 : gi r_81 0 100000 := hw
  refine va_put (D := (dC, dI)) (ci := 12) (v := .int r_81) (ty := .int) (C := RX12) (T := TX12) (N := 57) hx hb hts (fun w h => List.mem_cons_of_mem _ (jnGB_X12 w h)) tyX12 tyX12_ok nmX12 hown hK hP hD hS 0 rfl rfl 1 (by decide) (hts _ (List.mem_cons_of_mem _ mGB_104)) (fun _ h9 => h9) rfl (by decide +kernel) rfl rfl (Nat.le_of_ble_eq_true rfl) dX12_readsHead_28 (fun H locs hP hD hS => ?_)
  have hP : va_P (dC, dI) vwCl [(h0, .inr (12, fsMM (upd (upd (upd (upd (upd (upd (upd (upd (upd mi 0 r_73) 1 r_81) 27 y_82) 28 y_83) 29 y_84) 30 y_85) 31 y_86) 32 y_87) 33 y_88) mr)), ((mr 13), .inl (km_tape, 1600, .inl fm_tape))] H := hP
  have hD : va_D A [(h0, .inr (12, fsMM (upd (upd (upd (upd (upd (upd (upd (upd (upd mi 0 r_73) 1 r_81) 27 y_82) 28 y_83) 29 y_84) 30 y_85) 31 y_86) 32 y_87) 33 y_88) mr)), ((mr 13), .inl (km_tape, 1600, .inl fm_tape))] := hD
  refine lv_aload_n hx hb dX12_readsHead_31 rfl (lv_at hl 0 rfl) ?_
  refine lv_aload_n hx hb dX12_readsHead_32 rfl (lv_at hl 0 rfl) ?_
  refine va_ldcS hx hb hown (show vk_R RX12 254 "lean" (sa 9) s from (hT.2 9 (by decide)).1) dX12_readsHead_33 ?_
  refine lv_iconst (v := 1) hx hb dX12_readsHead_35 (by decide) ?_
  refine lv_iconst (v := 5) hx hb dX12_readsHead_36 (by decide) ?_
  have hPc := hP.sub (ws' := [(h0, .inr (12, fsMM (upd (upd (upd (upd (upd (upd (upd (upd (upd mi 0 r_73) 1 r_81) 27 y_82) 28 y_83) 29 y_84) 30 y_85) 31 y_86) 32 y_87) 33 y_88) mr)), ((mr 13), .inl (km_tape, 1600, .inl fm_tape))]) [0, 1] rfl
  have hKc := hK.sub (tys' := [(km_tape, .int)]) [0] rfl
  have hDc := hD.sub (ws' := [(h0, .inr (12, fsMM (upd (upd (upd (upd (upd (upd (upd (upd (upd mi 0 r_73) 1 r_81) 27 y_82) 28 y_83) 29 y_84) 30 y_85) 31 y_86) 32 y_87) 33 y_88) mr)), ((mr 13), .inl (km_tape, 1600, .inl fm_tape))]) [0, 1] (by decide) rfl
  have hFc := va_free (wc := [(h0, .inr (12, fsMM (upd (upd (upd (upd (upd (upd (upd (upd (upd mi 0 r_73) 1 r_81) 27 y_82) 28 y_83) 29 y_84) 30 y_85) 31 y_86) 32 y_87) 33 y_88) mr)), ((mr 13), .inl (km_tape, 1600, .inl fm_tape))]) hD hS hA [0, 1] rfl
  refine va_calli (va_runV (As := [.ref (sa 9), .int 1, .int 5]) (rest := [.ref h0]) ⟨hx, hb, hml, hown, hts⟩ (sX12_numberBehindP l dC dI H.size h0 (upd (upd (upd (upd (upd (upd (upd (upd (upd mi 0 r_73) 1 r_81) 27 y_82) 28 y_83) 29 y_84) 30 y_85) 31 y_86) 32 y_87) 33 y_88) mr km_tape fm_tape 1 5 sa sb zf 9 gr_73 gr_81 gmi_2 gmi_4 gmi_7 gmi_10 gmi_17 gmi_23 gmi_24 gmi_26 gy_84 gy_85 gy_87 gy_88 gmi_37 gmi_41 gmi_50 gmi_51 gmi_56 (gi_w (gi_c 1 1 (by decide)) (by decide)) (by decide) (show y_85.toInt ≤ y_84.toInt from by have qgy_88 := gy_88.1; have rgy_88 := gy_88.2; have qgy_85 := gy_85.1; have rgy_85 := gy_85.2; have qgy_84 := gy_84.1; have rgy_84 := gy_84.2; have qgy_80 := gy_80.1; have rgy_80 := gy_80.2; have qgy_77 := gy_77.1; have rgy_77 := gy_77.2; have qgy_76 := gy_76.1; have rgy_76 := gy_76.2; have qgy_72 := gy_72.1; have rgy_72 := gy_72.2; have qgy_69 := gy_69.1; have rgy_69 := gy_69.2; have qgy_68 := gy_68.1; have rgy_68 := gy_68.2; have qgmi_33 := gmi_33.1; have rgmi_33 := gmi_33.2; have qgmi_30 := gmi_30.1; have rgmi_30 := gmi_30.2; have qgmi_29 := gmi_29.1; have rgmi_29 := gmi_29.2; have qgmi_26 := gmi_26.1; have rgmi_26 := gmi_26.2; omega) (show y_84.toInt ≤ (mi 26).toInt from by have qgy_88 := gy_88.1; have rgy_88 := gy_88.2; have qgy_85 := gy_85.1; have rgy_85 := gy_85.2; have qgy_84 := gy_84.1; have rgy_84 := gy_84.2; have qgy_80 := gy_80.1; have rgy_80 := gy_80.2; have qgy_77 := gy_77.1; have rgy_77 := gy_77.2; have qgy_76 := gy_76.1; have rgy_76 := gy_76.2; have qgy_72 := gy_72.1; have rgy_72 := gy_72.2; have qgy_69 := gy_69.1; have rgy_69 := gy_69.2; have qgy_68 := gy_68.1; have rgy_68 := gy_68.2; have qgmi_33 := gmi_33.1; have rgmi_33 := gmi_33.2; have qgmi_30 := gmi_30.1; have rgmi_30 := gmi_30.2; have qgmi_29 := gmi_29.1; have rgmi_29 := gmi_29.2; have qgmi_26 := gmi_26.1; have rgmi_26 := gmi_26.2; omega) (show (y_86.toInt = 0 ∨ y_85.toInt < y_84.toInt) from by have qgy_88 := gy_88.1; have rgy_88 := gy_88.2; have qgy_85 := gy_85.1; have rgy_85 := gy_85.2; have qgy_84 := gy_84.1; have rgy_84 := gy_84.2; have qgy_80 := gy_80.1; have rgy_80 := gy_80.2; have qgy_77 := gy_77.1; have rgy_77 := gy_77.2; have qgy_76 := gy_76.1; have rgy_76 := gy_76.2; have qgy_72 := gy_72.1; have rgy_72 := gy_72.2; have qgy_69 := gy_69.1; have rgy_69 := gy_69.2; have qgy_68 := gy_68.1; have rgy_68 := gy_68.2; have qgmi_33 := gmi_33.1; have rgmi_33 := gmi_33.2; have qgmi_30 := gmi_30.1; have rgmi_30 := gmi_30.2; have qgmi_29 := gmi_29.1; have rgmi_29 := gmi_29.2; have qgmi_26 := gmi_26.1; have rgmi_26 := gmi_26.2; omega)) (cwV 3 hts (gz_gV mGB_173 mGB_174 mGB_175 mGB_1 mGB_176 goodGB) rfl rfl rfl (by decide +kernel) ⟨Nat.le_of_ble_eq_true rfl, Nat.le_of_ble_eq_true rfl⟩) ⟨fun a U g mk q => by obtain ⟨q0, q1, qP, qK, qD, qT⟩ := q; exact ⟨q0, q1, qP, va_K.moved (u := U) (U := U.calling g mk a) (Vm.Alike.refl U.vm) qK, qD, gz_ST.same rfl qT⟩, va_recv hKc hPc (ci := 12) (q0 := 0) rfl rfl, fun U hU hW => ⟨rfl, by rw [hU], by rw [hU]; exact hPc, va_K.moved hW.alike hKc, hDc.weaken (fun _ _ _ _ => trivial), by rw [hU]; exact ((hT.kept hS.2.1).narrow (fun q h => hFc q h)).warm hW⟩⟩ rfl rfl hl.1 rfl (lv_room (Nat.le_of_ble_eq_true rfl)) dX12_readsHead_37 ⟨Nat.zero_le _, Nat.zero_le _⟩) hS (fun q _ h => hFc q h) hFc (fun r_89 u t H1 locs ht hvm hw hB hz1 hk1 hS => ?_)
  obtain ⟨hu_, hw⟩ := hw
  subst hu_
  obtain ⟨y_90, y_91, y_92, y_93, y_94, y_95, y_96, gy_92, gy_93, gy_95, gy_96, hpr0_r_89, hpr1_r_89, hpr2_r_89, hpr3_r_89, hpr4_r_89, hpr5_r_89, hE, hP1, hD1⟩ := hB
  rw [ht] at hP1
  obtain ⟨hP, hD⟩ := va_join (wr := []) (w1 := [(h0, .inr (12, fsMM (upd (upd (upd (upd (upd (upd (upd (upd (upd mi 0 r_73) 1 r_81) 27 y_90) 28 y_91) 29 y_92) 30 y_93) 31 y_94) 32 y_95) 33 y_96) mr)), ((mr 13), .inl (km_tape, 1600, .inl fm_tape))]) hP hD [0, 1] [] rfl rfl (by decide) (by decide) hk1 hFc hP1 hD1
  have hpr0_r_89 : y_85.toInt ≤ y_93.toInt := hpr0_r_89
  have hpr1_r_89 : y_93.toInt ≤ y_92.toInt := hpr1_r_89
  have hpr2_r_89 : y_92.toInt ≤ (mi 26).toInt := hpr2_r_89
  have hpr3_r_89 : Hid ((y_94.toInt = 0 ∨ y_93.toInt < y_92.toInt)) := hpr3_r_89
  have hpr4_r_89 : y_88.toInt ≤ y_96.toInt := hpr4_r_89
  have hpr5_r_89 : Hid ((y_96.toInt = 1 ∨ ((1 : Int) ≤ r_89.toInt ∧ r_89.toInt ≤ (5 : Int)))) := by have h9 : (y_96.toInt = 1 ∨ ((1 : Int32).toInt ≤ r_89.toInt ∧ r_89.toInt ≤ (5 : Int32).toInt)) := hpr5_r_89; rw [show (1 : Int32).toInt = 1 from by decide] at h9; rw [show (5 : Int32).toInt = 5 from by decide] at h9; exact h9
  have hP := hP.sub (ws' := [(h0, .inr (12, fsMM (upd (upd (upd (upd (upd (upd (upd (upd (upd mi 0 r_73) 1 r_81) 27 y_90) 28 y_91) 29 y_92) 30 y_93) 31 y_94) 32 y_95) 33 y_96) mr)), ((mr 13), .inl (km_tape, 1600, .inl fm_tape))]) [0, 1] rfl
  have hD := hD.sub (ws' := [(h0, .inr (12, fsMM (upd (upd (upd (upd (upd (upd (upd (upd (upd mi 0 r_73) 1 r_81) 27 y_90) 28 y_91) 29 y_92) 30 y_93) 31 y_94) 32 y_95) 33 y_96) mr)), ((mr 13), .inl (km_tape, 1600, .inl fm_tape))]) [0, 1] (by decide) rfl
  have hF := gf_callm (a := (r_89, y_90, y_91, y_92, y_93, y_94, y_95, y_96)) hE hF (by first | with_reducible rfl | simp only [upd_same, upd_app, ↓reduceIte, Nat.reduceEqDiff])
  generalize H1 = H at hP hS ⊢
  have gr_89 : gi r_89 0 100000 := hw
  refine va_put (D := (dC, dI)) (ci := 12) (v := .int r_89) (ty := .int) (C := RX12) (T := TX12) (N := 57) hx hb hts (fun w h => List.mem_cons_of_mem _ (jnGB_X12 w h)) tyX12 tyX12_ok nmX12 hown hK hP hD hS 0 rfl rfl 2 (by decide) (hts _ (List.mem_cons_of_mem _ mGB_105)) (fun _ h9 => h9) rfl (by decide +kernel) rfl rfl (Nat.le_of_ble_eq_true rfl) dX12_readsHead_40 (fun H locs hP hD hS => ?_)
  have hP : va_P (dC, dI) vwCl [(h0, .inr (12, fsMM (upd (upd (upd (upd (upd (upd (upd (upd (upd (upd mi 0 r_73) 1 r_81) 2 r_89) 27 y_90) 28 y_91) 29 y_92) 30 y_93) 31 y_94) 32 y_95) 33 y_96) mr)), ((mr 13), .inl (km_tape, 1600, .inl fm_tape))] H := hP
  have hD : va_D A [(h0, .inr (12, fsMM (upd (upd (upd (upd (upd (upd (upd (upd (upd (upd mi 0 r_73) 1 r_81) 2 r_89) 27 y_90) 28 y_91) 29 y_92) 30 y_93) 31 y_94) 32 y_95) 33 y_96) mr)), ((mr 13), .inl (km_tape, 1600, .inl fm_tape))] := hD
  exact W.vret hx hb hr (fun t ht hW => ⟨⟨(), rfl, trivial, r_73, r_81, r_89, y_90, y_91, y_92, y_93, y_94, y_95, y_96, gr_73, gr_81, gr_89, gy_92, gy_93, gy_95, gy_96, (show (mi 30).toInt ≤ y_93.toInt from by have qgy_96 := gy_96.1; have rgy_96 := gy_96.2; have qgy_93 := gy_93.1; have rgy_93 := gy_93.2; have qgy_92 := gy_92.1; have rgy_92 := gy_92.2; have qgy_88 := gy_88.1; have rgy_88 := gy_88.2; have qgy_85 := gy_85.1; have rgy_85 := gy_85.2; have qgy_84 := gy_84.1; have rgy_84 := gy_84.2; have qgy_80 := gy_80.1; have rgy_80 := gy_80.2; have qgy_77 := gy_77.1; have rgy_77 := gy_77.2; have qgy_76 := gy_76.1; have rgy_76 := gy_76.2; have qgy_72 := gy_72.1; have rgy_72 := gy_72.2; have qgy_69 := gy_69.1; have rgy_69 := gy_69.2; have qgy_68 := gy_68.1; have rgy_68 := gy_68.2; have qgmi_33 := gmi_33.1; have rgmi_33 := gmi_33.2; have qgmi_30 := gmi_30.1; have rgmi_30 := gmi_30.2; have qgmi_29 := gmi_29.1; have rgmi_29 := gmi_29.2; have qgmi_26 := gmi_26.1; have rgmi_26 := gmi_26.2; omega), hpr1_r_89, hpr2_r_89, (Hid.un hpr3_r_89), (show (mi 33).toInt ≤ y_96.toInt from by have qgy_96 := gy_96.1; have rgy_96 := gy_96.2; have qgy_93 := gy_93.1; have rgy_93 := gy_93.2; have qgy_92 := gy_92.1; have rgy_92 := gy_92.2; have qgy_88 := gy_88.1; have rgy_88 := gy_88.2; have qgy_85 := gy_85.1; have rgy_85 := gy_85.2; have qgy_84 := gy_84.1; have rgy_84 := gy_84.2; have qgy_80 := gy_80.1; have rgy_80 := gy_80.2; have qgy_77 := gy_77.1; have rgy_77 := gy_77.2; have qgy_76 := gy_76.1; have rgy_76 := gy_76.2; have qgy_72 := gy_72.1; have rgy_72 := gy_72.2; have qgy_69 := gy_69.1; have rgy_69 := gy_69.2; have qgy_68 := gy_68.1; have rgy_68 := gy_68.2; have qgmi_33 := gmi_33.1; have rgmi_33 := gmi_33.2; have qgmi_30 := gmi_30.1; have rgmi_30 := gmi_30.2; have qgmi_29 := gmi_29.1; have rgmi_29 := gmi_29.2; have qgmi_26 := gmi_26.1; have rgmi_26 := gmi_26.2; omega), (show (y_96.toInt = 1 ∨ (2 ≤ r_73.toInt ∧ r_73.toInt ≤ 24 ∧ 1 ≤ r_81.toInt ∧ r_81.toInt ≤ 5 ∧ 1 ≤ r_89.toInt ∧ r_89.toInt ≤ 5)) from by by_cases h9 : y_96.toInt = 1; exact Or.inl h9; refine Or.inr ?_; have lgmi_33 := gmi_33.1; have mgmi_33 := gmi_33.2; have lgy_72 := gy_72.1; have mgy_72 := gy_72.2; have lgy_80 := gy_80.1; have mgy_80 := gy_80.2; have lgy_88 := gy_88.1; have mgy_88 := gy_88.2; have lgy_96 := gy_96.1; have mgy_96 := gy_96.2; have f0 := Hid.resL hpr5_r_73 (by omega); have f1 := Hid.resL hpr5_r_81 (by omega); have f2 := Hid.resL hpr5_r_89 (by omega); have qgy_96 := gy_96.1; have rgy_96 := gy_96.2; have qgy_93 := gy_93.1; have rgy_93 := gy_93.2; have qgy_92 := gy_92.1; have rgy_92 := gy_92.2; have qgy_88 := gy_88.1; have rgy_88 := gy_88.2; have qgy_85 := gy_85.1; have rgy_85 := gy_85.2; have qgy_84 := gy_84.1; have rgy_84 := gy_84.2; have qgy_80 := gy_80.1; have rgy_80 := gy_80.2; have qgy_77 := gy_77.1; have rgy_77 := gy_77.2; have qgy_76 := gy_76.1; have rgy_76 := gy_76.2; have qgy_72 := gy_72.1; have rgy_72 := gy_72.2; have qgy_69 := gy_69.1; have rgy_69 := gy_69.2; have qgy_68 := gy_68.1; have rgy_68 := gy_68.2; have qgr_89 := gr_89.1; have rgr_89 := gr_89.2; have qgr_81 := gr_81.1; have rgr_81 := gr_81.2; have qgr_73 := gr_73.1; have rgr_73 := gr_73.2; have qgmi_33 := gmi_33.1; have rgmi_33 := gmi_33.2; have qgmi_30 := gmi_30.1; have rgmi_30 := gmi_30.2; have qgmi_29 := gmi_29.1; have rgmi_29 := gmi_29.2; have qgmi_26 := gmi_26.1; have rgmi_26 := gmi_26.2; omega), hF.trans hR9.symm, by rw [ht]; exact hP, hD⟩, hS.F ht⟩) hS.2.2 dX12_readsHead_43
theorem dX12_readsMoon_0 : decode cX12_readsMoon 0 = .ok (.aload_n 0, 1) := by decide +kernel
theorem dX12_readsMoon_1 : decode cX12_readsMoon 1 = .ok (.getfield 129, 3) := by decide +kernel
theorem dX12_readsMoon_4 : decode cX12_readsMoon 4 = .ok (.ifCond .eq 8, 3) := by decide +kernel
theorem dX12_readsMoon_7 : decode cX12_readsMoon 7 = .ok (.aload_n 0, 1) := by decide +kernel
theorem dX12_readsMoon_8 : decode cX12_readsMoon 8 = .ok (.iconst 3, 1) := by decide +kernel
theorem dX12_readsMoon_9 : decode cX12_readsMoon 9 = .ok (.invokevirtual 194, 3) := by decide +kernel
theorem dX12_readsMoon_12 : decode cX12_readsMoon 12 = .ok (.aload_n 0, 1) := by decide +kernel
theorem dX12_readsMoon_13 : decode cX12_readsMoon 13 = .ok (.iconst 1, 1) := by decide +kernel
theorem dX12_readsMoon_14 : decode cX12_readsMoon 14 = .ok (.invokevirtual 205, 3) := by decide +kernel
theorem dX12_readsMoon_17 : decode cX12_readsMoon 17 = .ok (.aload_n 0, 1) := by decide +kernel
theorem dX12_readsMoon_18 : decode cX12_readsMoon 18 = .ok (.aload_n 0, 1) := by decide +kernel
theorem dX12_readsMoon_19 : decode cX12_readsMoon 19 = .ok (.iconst 0, 1) := by decide +kernel
theorem dX12_readsMoon_20 : decode cX12_readsMoon 20 = .ok (.ldc 247, 2) := by decide +kernel
theorem dX12_readsMoon_22 : decode cX12_readsMoon 22 = .ok (.invokevirtual 213, 3) := by decide +kernel
theorem dX12_readsMoon_25 : decode cX12_readsMoon 25 = .ok (.putfield 132, 3) := by decide +kernel
theorem dX12_readsMoon_28 : decode cX12_readsMoon 28 = .ok (.aload_n 0, 1) := by decide +kernel
theorem dX12_readsMoon_29 : decode cX12_readsMoon 29 = .ok (.aload_n 0, 1) := by decide +kernel
theorem dX12_readsMoon_30 : decode cX12_readsMoon 30 = .ok (.ldc 248, 2) := by decide +kernel
theorem dX12_readsMoon_32 : decode cX12_readsMoon 32 = .ok (.sipush 28000, 3) := by decide +kernel
theorem dX12_readsMoon_35 : decode cX12_readsMoon 35 = .ok (.sipush 31000, 3) := by decide +kernel
theorem dX12_readsMoon_38 : decode cX12_readsMoon 38 = .ok (.invokevirtual 223, 3) := by decide +kernel
theorem dX12_readsMoon_41 : decode cX12_readsMoon 41 = .ok (.putfield 135, 3) := by decide +kernel
theorem dX12_readsMoon_44 : decode cX12_readsMoon 44 = .ok (.aload_n 0, 1) := by decide +kernel
theorem dX12_readsMoon_45 : decode cX12_readsMoon 45 = .ok (.iconst 1, 1) := by decide +kernel
theorem dX12_readsMoon_46 : decode cX12_readsMoon 46 = .ok (.putfield 129, 3) := by decide +kernel
theorem dX12_readsMoon_49 : decode cX12_readsMoon 49 = .ok (.return_, 1) := by decide +kernel
noncomputable def bfX12_readsMoon_12 (mi : Nat → Int32) (fm_tape : Nat → Int32) (w0_4 : Int32) (w0_5 : Int32) (w0_6 : Int32) (w0_27 : Int32) (w0_28 : Int32) (w0_29 : Int32) (w0_30 : Int32) (w0_31 : Int32) (w0_32 : Int32) (w0_33 : Int32) : Int32 × Int32 × Int32 × Int32 × Int32 × Int32 × Int32 × Int32 × Int32 × Int32 := cal (fun o2 => cal (fun o3 => cal (fun o4 => ((1 : Int32), o3.1, o4.1, o4.2.1, o4.2.2.1, o4.2.2.2.1, o4.2.2.2.2.1, o4.2.2.2.2.2.1, o4.2.2.2.2.2.2.1, o4.2.2.2.2.2.2.2)) (fX12_numberBehind (upd (upd (upd (upd (upd (upd (upd (upd (upd (upd mi 4 w0_4) 5 o3.1) 6 w0_6) 27 o3.2.1) 28 o3.2.2.1) 29 o3.2.2.2.1) 30 o3.2.2.2.2.1) 31 o3.2.2.2.2.2.1) 32 o3.2.2.2.2.2.2.1) 33 o3.2.2.2.2.2.2.2) fm_tape (28000 : Int32) (31000 : Int32) 16)) (fX12_number (upd (upd (upd (upd (upd (upd (upd (upd (upd (upd mi 4 w0_4) 5 w0_5) 6 w0_6) 27 o2.1) 28 o2.2.1) 29 o2.2.2.1) 30 o2.2.2.2.1) 31 o2.2.2.2.2.1) 32 o2.2.2.2.2.2.1) 33 o2.2.2.2.2.2.2) fm_tape (0 : Int32) (99999 : Int32))) (fX12_passes (upd (upd (upd (upd (upd (upd (upd (upd (upd (upd mi 4 w0_4) 5 w0_5) 6 w0_6) 27 w0_27) 28 w0_28) 29 w0_29) 30 w0_30) 31 w0_31) 32 w0_32) 33 w0_33) fm_tape (1 : Int32))
noncomputable def fX12_readsMoon (mi : Nat → Int32) (fm_tape : Nat → Int32) : Int32 × Int32 × Int32 × Int32 × Int32 × Int32 × Int32 × Int32 × Int32 × Int32 := if (mi 4) = (0 : Int32) then (bfX12_readsMoon_12 mi fm_tape (mi 4) (mi 5) (mi 6) (mi 27) (mi 28) (mi 29) (mi 30) (mi 31) (mi 32) (mi 33)) else (cal (fun o1 => bfX12_readsMoon_12 mi fm_tape (mi 4) (mi 5) (mi 6) o1.1 o1.2.1 (mi 29) (mi 30) (mi 31) (mi 32) o1.2.2) (fX12_faults mi (3 : Int32)))
set_option maxHeartbeats 4000000 in
set_option maxRecDepth 100000 in
theorem sX12_readsMoonP (l : Launch) (dC : Nat → ClassId) (dI : Nat → Nat → Nat) (sz : Nat) (h0 : Nat) (mi : Nat → Int32) (mr : Nat → Nat) (km_tape : ClassId) (fm_tape : Nat → Int32) (sa : Nat → Nat) (sb : Nat → Nat) (zf : Value) (gmi_0 : gi (mi 0) 0 100000) (gmi_1 : gi (mi 1) 0 100000) (gmi_2 : gi (mi 2) 0 100000) (gmi_4 : gi (mi 4) 0 1) (gmi_7 : gi (mi 7) 0 6) (gmi_10 : gi (mi 10) 0 24) (gmi_17 : gi (mi 17) 0 8) (gmi_23 : gi (mi 23) 0 300) (gmi_24 : gi (mi 24) 0 1) (gmi_26 : gi (mi 26) 0 1600) (gmi_29 : gi (mi 29) 0 1600) (gmi_30 : gi (mi 30) 0 1600) (gmi_32 : gi (mi 32) 0 100000) (gmi_33 : gi (mi 33) 0 1) (gmi_37 : gi (mi 37) 0 1) (gmi_41 : gi (mi 41) 0 24) (gmi_50 : gi (mi 50) 0 1) (gmi_51 : gi (mi 51) 0 1) (gmi_56 : gi (mi 56) 0 80) (hpq0 : (mi 30).toInt ≤ (mi 29).toInt) (hpq1 : (mi 29).toInt ≤ (mi 26).toInt) (hpq2 : ((mi 31).toInt = 0 ∨ (mi 30).toInt < (mi 29).toInt)) : Met l yX12_readsMoon (.code yX12_readsMoon cX12_readsMoon 1 none :: wsGB) ({ frames := 7, cells := 0, slots := 0, locals := 152 }) (va_Pc [.ref h0] (fun U => U.heap.size = sz ∧ va_P (dC, dI) vwCl [(h0, .inr (12, fsMM mi mr)), ((mr 13), .inl (km_tape, 1600, .inl fm_tape))] U.heap ∧ va_K (dC, dI) vwCl [(km_tape, .int)] U ∧ va_D (fun _ => True) [(h0, .inr (12, fsMM mi mr)), ((mr 13), .inl (km_tape, 1600, .inl fm_tape))] ∧ gz_ST RX12 stIB sa sb zf (va_A [(h0, .inr (12, fsMM mi mr)), ((mr 13), .inl (km_tape, 1600, .inl fm_tape))] sz) U U.heap)) (va_Qv (fun (u : Unit) => True) (fun _ t => ∃ (w0_4 : Int32) (w0_5 : Int32) (w0_6 : Int32) (w0_27 : Int32) (w0_28 : Int32) (w0_29 : Int32) (w0_30 : Int32) (w0_31 : Int32) (w0_32 : Int32) (w0_33 : Int32), gi w0_4 0 1 ∧ gi w0_29 0 1600 ∧ gi w0_30 0 1600 ∧ gi w0_32 0 100000 ∧ gi w0_33 0 1 ∧ (mi 30).toInt ≤ w0_30.toInt ∧ w0_30.toInt ≤ w0_29.toInt ∧ w0_29.toInt ≤ (mi 26).toInt ∧ (w0_31.toInt = 0 ∨ w0_30.toInt < w0_29.toInt) ∧ (mi 33).toInt ≤ w0_33.toInt ∧ (w0_4, w0_5, w0_6, w0_27, w0_28, w0_29, w0_30, w0_31, w0_32, w0_33) = fX12_readsMoon mi fm_tape ∧ va_P (dC, dI) vwCl [(h0, .inr (12, fsMM (upd (upd (upd (upd (upd (upd (upd (upd (upd (upd mi 4 w0_4) 5 w0_5) 6 w0_6) 27 w0_27) 28 w0_28) 29 w0_29) 30 w0_30) 31 w0_31) 32 w0_32) 33 w0_33) mr)), ((mr 13), .inl (km_tape, 1600, .inl fm_tape))] t.heap ∧ va_D (va_A [(h0, .inr (12, fsMM mi mr)), ((mr 13), .inl (km_tape, 1600, .inl fm_tape))] sz) [(h0, .inr (12, fsMM (upd (upd (upd (upd (upd (upd (upd (upd (upd (upd mi 4 w0_4) 5 w0_5) 6 w0_6) 27 w0_27) 28 w0_28) 29 w0_29) 30 w0_30) 31 w0_31) 32 w0_32) 33 w0_33) mr)), ((mr 13), .inl (km_tape, 1600, .inl fm_tape))]) (va_A [(h0, .inr (12, fsMM mi mr)), ((mr 13), .inl (km_tape, 1600, .inl fm_tape))] sz)) 0 0 (va_A [(h0, .inr (12, fsMM mi mr)), ((mr 13), .inl (km_tape, 1600, .inl fm_tape))] sz) := by
  refine Met.ofW (cc := cX12_readsMoon) (maxL := 1) (ret := none) (by decide) rfl ?_
  intro p e s m args below meth c s₁ B hml hv
  obtain ⟨rfl, hsz, hP, hK, hD0, hT⟩ := hv
  have hx := B.exec
  have hb := B.bytes
  have hr := B.returns
  have hts := atoms_spec (ws := (.code yX12_readsMoon cX12_readsMoon 1 none :: wsGB)) B.pre
  have hown : s.vm.findClass RX12 = some m.cls := findClass_of_methodNamed B.named
  have hlocks := B.notSynchronized
  subst hsz
  have hD := hD0.self (sz := s.heap.size)
  generalize hAe : va_A [(h0, .inr (12, fsMM mi mr)), ((mr 13), .inl (km_tape, 1600, .inl fm_tape))] s.heap.size = A at hD hT ⊢
  have hA : ∀ q : Nat, s.heap.size ≤ q → A q := fun q h => by rw [← hAe]; exact Or.inr h
  have hS : va_S A s.heap s.heap [] := va_S.rf
  have hl := lv_entry ([.ref h0]) (n := 1) (Nat.le_of_ble_eq_true rfl)
  rw [lg_entry_eq]
  generalize (lg_sl ([.ref h0]) ++ List.replicate (1 - (lg_sl ([.ref h0])).length) Slot.unset).toArray = ls at hl ⊢
  have hl : lv_has ls 1 [(0, .ref h0)] := hl
  obtain ⟨RES, hF⟩ : ∃ R9, fX12_readsMoon mi fm_tape = R9 := ⟨_, rfl⟩
  have hR9 := hF
  refine lv_aload_n hx hb dX12_readsMoon_0 rfl (lv_at hl 0 rfl) ?_
  refine va_get (D := (dC, dI)) (ci := 12) (v := .int (mi 4)) (C := RX12) (T := TX12) (N := 57) hx hb hts (fun w h => List.mem_cons_of_mem _ (jnGB_X12 w h)) hown hK hP 0 rfl rfl 4 (by decide) (hts _ (List.mem_cons_of_mem _ mGB_107)) (fun _ h9 => h9) rfl dX12_readsMoon_1 ?_
  refine lv_if_eq (tgt := 12) hx hb dX12_readsMoon_4 (by decide) (fun c_123 => ?_) (fun c_123 => ?_)
  · have hF := gf_pos c_123 hF
    have hc_124 : (mi 4).toInt = 0 := by have h9 := congrArg Int32.toInt c_123; rw [show (0 : Int32).toInt = 0 from by decide] at h9; exact h9
    have g_125 : gi (mi 4) 0 0 := gi_eq c_123 (gi_c 0 0 (by decide))
    refine lv_aload_n hx hb dX12_readsMoon_12 rfl (lv_at hl 0 rfl) ?_
    refine lv_iconst (v := 1) hx hb dX12_readsMoon_13 (by decide) ?_
    have hPc := hP.sub (ws' := [(h0, .inr (12, fsMM mi mr)), ((mr 13), .inl (km_tape, 1600, .inl fm_tape))]) [0, 1] rfl
    have hKc := hK.sub (tys' := [(km_tape, .int)]) [0] rfl
    have hDc := hD.sub (ws' := [(h0, .inr (12, fsMM mi mr)), ((mr 13), .inl (km_tape, 1600, .inl fm_tape))]) [0, 1] (by decide) rfl
    have hFc := va_free (wc := [(h0, .inr (12, fsMM mi mr)), ((mr 13), .inl (km_tape, 1600, .inl fm_tape))]) hD hS hA [0, 1] rfl
    refine va_callv (va_runV (As := [.int 1]) (rest := []) ⟨hx, hb, hml, hown, hts⟩ (sX12_passesP l dC dI s.heap.size h0 mi mr km_tape fm_tape 1 gmi_0 gmi_1 gmi_2 (gi_w g_125 (by decide)) gmi_7 gmi_10 gmi_17 gmi_23 gmi_24 gmi_26 gmi_29 gmi_30 gmi_32 gmi_33 gmi_37 gmi_41 gmi_50 gmi_51 gmi_56 (gi_w (gi_c 1 1 (by decide)) (by decide)) (show (mi 30).toInt ≤ (mi 29).toInt from by have qgmi_4 := g_125.1; have rgmi_4 := g_125.2; have qgmi_30 := gmi_30.1; have rgmi_30 := gmi_30.2; have qgmi_29 := gmi_29.1; have rgmi_29 := gmi_29.2; have qgmi_26 := gmi_26.1; have rgmi_26 := gmi_26.2; omega) (show (mi 29).toInt ≤ (mi 26).toInt from by have qgmi_4 := g_125.1; have rgmi_4 := g_125.2; have qgmi_30 := gmi_30.1; have rgmi_30 := gmi_30.2; have qgmi_29 := gmi_29.1; have rgmi_29 := gmi_29.2; have qgmi_26 := gmi_26.1; have rgmi_26 := gmi_26.2; omega) (show ((mi 31).toInt = 0 ∨ (mi 30).toInt < (mi 29).toInt) from by have qgmi_4 := g_125.1; have rgmi_4 := g_125.2; have qgmi_30 := gmi_30.1; have rgmi_30 := gmi_30.2; have qgmi_29 := gmi_29.1; have rgmi_29 := gmi_29.2; have qgmi_26 := gmi_26.1; have rgmi_26 := gmi_26.2; omega)) (cwV 1 hts (gz_gV mGB_161 mGB_162 mGB_163 mGB_1 mGB_164 goodGB) rfl rfl rfl (by decide +kernel) ⟨Nat.le_of_ble_eq_true rfl, Nat.le_of_ble_eq_true rfl⟩) ⟨fun a U g mk q => by obtain ⟨q0, q1, qP, qK, qD⟩ := q; exact ⟨q0, q1, qP, va_K.moved (u := U) (U := U.calling g mk a) (Vm.Alike.refl U.vm) qK, qD⟩, va_recv hKc hPc (ci := 12) (q0 := 0) rfl rfl, fun U hU hW => ⟨rfl, by rw [hU], by rw [hU]; exact hPc, va_K.moved hW.alike hKc, hDc.weaken (fun _ _ _ _ => trivial)⟩⟩ rfl rfl hl.1 rfl (lv_room (Nat.le_of_ble_eq_true rfl)) dX12_readsMoon_14 ⟨Nat.zero_le _, Nat.zero_le _⟩) hS (fun q _ h => hFc q h) hFc (fun u t H1 locs ht hvm hw hB hz1 hk1 hS => ?_)
    obtain ⟨y_127, y_128, y_129, y_130, y_131, y_132, y_133, gy_129, gy_130, gy_132, gy_133, hpr0_r_126, hpr1_r_126, hpr2_r_126, hpr3_r_126, hpr4_r_126, hpr5_r_126, hpr6_r_126, hE, hP1, hD1⟩ := hB
    rw [ht] at hP1
    obtain ⟨hP, hD⟩ := va_join (wr := []) (w1 := [(h0, .inr (12, fsMM (upd (upd (upd (upd (upd (upd (upd mi 27 y_127) 28 y_128) 29 y_129) 30 y_130) 31 y_131) 32 y_132) 33 y_133) mr)), ((mr 13), .inl (km_tape, 1600, .inl fm_tape))]) hP hD [0, 1] [] rfl rfl (by decide) (by decide) hk1 hFc hP1 hD1
    have hpr0_r_126 : (mi 30).toInt ≤ y_130.toInt := hpr0_r_126
    have hpr1_r_126 : y_130.toInt ≤ y_129.toInt := hpr1_r_126
    have hpr2_r_126 : y_129.toInt ≤ (mi 26).toInt := hpr2_r_126
    have hpr3_r_126 : Hid ((y_131.toInt = 0 ∨ y_130.toInt < y_129.toInt)) := hpr3_r_126
    have hpr4_r_126 : (mi 33).toInt ≤ y_133.toInt := hpr4_r_126
    have hpr5_r_126 : Hid (((1 : Int) = 1 ∨ y_133.toInt = 1)) := by have h9 : ((1 : Int32).toInt = 1 ∨ y_133.toInt = 1) := hpr5_r_126; rw [show (1 : Int32).toInt = 1 from by decide] at h9; exact h9
    have hpr6_r_126 : Hid ((y_133.toInt = 1 ∨ (mi 29).toInt ≤ y_130.toInt)) := hpr6_r_126
    have hP := hP.sub (ws' := [(h0, .inr (12, fsMM (upd (upd (upd (upd (upd (upd (upd mi 27 y_127) 28 y_128) 29 y_129) 30 y_130) 31 y_131) 32 y_132) 33 y_133) mr)), ((mr 13), .inl (km_tape, 1600, .inl fm_tape))]) [0, 1] rfl
    have hD := hD.sub (ws' := [(h0, .inr (12, fsMM (upd (upd (upd (upd (upd (upd (upd mi 27 y_127) 28 y_128) 29 y_129) 30 y_130) 31 y_131) 32 y_132) 33 y_133) mr)), ((mr 13), .inl (km_tape, 1600, .inl fm_tape))]) [0, 1] (by decide) rfl
    have hF := gf_callm (a := (y_127, y_128, y_129, y_130, y_131, y_132, y_133)) hE hF (by first | with_reducible rfl | simp only [upd_same, upd_app, ↓reduceIte, Nat.reduceEqDiff])
    generalize H1 = H at hP hS ⊢
    refine lv_aload_n hx hb dX12_readsMoon_17 rfl (lv_at hl 0 rfl) ?_
    refine lv_aload_n hx hb dX12_readsMoon_18 rfl (lv_at hl 0 rfl) ?_
    refine lv_iconst (v := 0) hx hb dX12_readsMoon_19 (by decide) ?_
    refine lv_ldc (own := RX12) (v := 99999) hx hb hown (hts _ (List.mem_cons_of_mem _ mGB_185)) dX12_readsMoon_20 ?_
    have hPc := hP.sub (ws' := [(h0, .inr (12, fsMM (upd (upd (upd (upd (upd (upd (upd mi 27 y_127) 28 y_128) 29 y_129) 30 y_130) 31 y_131) 32 y_132) 33 y_133) mr)), ((mr 13), .inl (km_tape, 1600, .inl fm_tape))]) [0, 1] rfl
    have hKc := hK.sub (tys' := [(km_tape, .int)]) [0] rfl
    have hDc := hD.sub (ws' := [(h0, .inr (12, fsMM (upd (upd (upd (upd (upd (upd (upd mi 27 y_127) 28 y_128) 29 y_129) 30 y_130) 31 y_131) 32 y_132) 33 y_133) mr)), ((mr 13), .inl (km_tape, 1600, .inl fm_tape))]) [0, 1] (by decide) rfl
    have hFc := va_free (wc := [(h0, .inr (12, fsMM (upd (upd (upd (upd (upd (upd (upd mi 27 y_127) 28 y_128) 29 y_129) 30 y_130) 31 y_131) 32 y_132) 33 y_133) mr)), ((mr 13), .inl (km_tape, 1600, .inl fm_tape))]) hD hS hA [0, 1] rfl
    refine va_calli (va_runV (As := [.int 0, .int 99999]) (rest := [.ref h0]) ⟨hx, hb, hml, hown, hts⟩ (sX12_numberP l dC dI H.size h0 (upd (upd (upd (upd (upd (upd (upd mi 27 y_127) 28 y_128) 29 y_129) 30 y_130) 31 y_131) 32 y_132) 33 y_133) mr km_tape fm_tape 0 99999 gmi_0 gmi_1 gmi_2 (gi_w g_125 (by decide)) gmi_7 gmi_10 gmi_17 gmi_23 gmi_24 gmi_26 gy_129 gy_130 gy_132 gy_133 gmi_37 gmi_41 gmi_50 gmi_51 gmi_56 (gi_w (gi_c 0 0 (by decide)) (by decide)) (show y_130.toInt ≤ y_129.toInt from by have qgy_133 := gy_133.1; have rgy_133 := gy_133.2; have qgy_130 := gy_130.1; have rgy_130 := gy_130.2; have qgy_129 := gy_129.1; have rgy_129 := gy_129.2; have qgmi_4 := g_125.1; have rgmi_4 := g_125.2; have qgmi_33 := gmi_33.1; have rgmi_33 := gmi_33.2; have qgmi_30 := gmi_30.1; have rgmi_30 := gmi_30.2; have qgmi_29 := gmi_29.1; have rgmi_29 := gmi_29.2; have qgmi_26 := gmi_26.1; have rgmi_26 := gmi_26.2; omega) (show y_129.toInt ≤ (mi 26).toInt from by have qgy_133 := gy_133.1; have rgy_133 := gy_133.2; have qgy_130 := gy_130.1; have rgy_130 := gy_130.2; have qgy_129 := gy_129.1; have rgy_129 := gy_129.2; have qgmi_4 := g_125.1; have rgmi_4 := g_125.2; have qgmi_33 := gmi_33.1; have rgmi_33 := gmi_33.2; have qgmi_30 := gmi_30.1; have rgmi_30 := gmi_30.2; have qgmi_29 := gmi_29.1; have rgmi_29 := gmi_29.2; have qgmi_26 := gmi_26.1; have rgmi_26 := gmi_26.2; omega) (show (y_131.toInt = 0 ∨ y_130.toInt < y_129.toInt) from by have qgy_133 := gy_133.1; have rgy_133 := gy_133.2; have qgy_130 := gy_130.1; have rgy_130 := gy_130.2; have qgy_129 := gy_129.1; have rgy_129 := gy_129.2; have qgmi_4 := g_125.1; have rgmi_4 := g_125.2; have qgmi_33 := gmi_33.1; have rgmi_33 := gmi_33.2; have qgmi_30 := gmi_30.1; have rgmi_30 := gmi_30.2; have qgmi_29 := gmi_29.1; have rgmi_29 := gmi_29.2; have qgmi_26 := gmi_26.1; have rgmi_26 := gmi_26.2; omega)) (cwV 2 hts (gz_gV mGB_177 mGB_178 mGB_179 mGB_1 mGB_180 goodGB) rfl rfl rfl (by decide +kernel) ⟨Nat.le_of_ble_eq_true rfl, Nat.le_of_ble_eq_true rfl⟩) ⟨fun a U g mk q => by obtain ⟨q0, q1, qP, qK, qD⟩ := q; exact ⟨q0, q1, qP, va_K.moved (u := U) (U := U.calling g mk a) (Vm.Alike.refl U.vm) qK, qD⟩, va_recv hKc hPc (ci := 12) (q0 := 0) rfl rfl, fun U hU hW => ⟨rfl, by rw [hU], by rw [hU]; exact hPc, va_K.moved hW.alike hKc, hDc.weaken (fun _ _ _ _ => trivial)⟩⟩ rfl rfl hl.1 rfl (lv_room (Nat.le_of_ble_eq_true rfl)) dX12_readsMoon_22 ⟨Nat.zero_le _, Nat.zero_le _⟩) hS (fun q _ h => hFc q h) hFc (fun r_134 u t H1 locs ht hvm hw hB hz1 hk1 hS => ?_)
    obtain ⟨hu_, hw⟩ := hw
    subst hu_
    obtain ⟨y_135, y_136, y_137, y_138, y_139, y_140, y_141, gy_137, gy_138, gy_140, gy_141, hpr0_r_134, hpr1_r_134, hpr2_r_134, hpr3_r_134, hpr4_r_134, hpr5_r_134, hE, hP1, hD1⟩ := hB
    rw [ht] at hP1
    obtain ⟨hP, hD⟩ := va_join (wr := []) (w1 := [(h0, .inr (12, fsMM (upd (upd (upd (upd (upd (upd (upd mi 27 y_135) 28 y_136) 29 y_137) 30 y_138) 31 y_139) 32 y_140) 33 y_141) mr)), ((mr 13), .inl (km_tape, 1600, .inl fm_tape))]) hP hD [0, 1] [] rfl rfl (by decide) (by decide) hk1 hFc hP1 hD1
    have hpr0_r_134 : y_130.toInt ≤ y_138.toInt := hpr0_r_134
    have hpr1_r_134 : y_138.toInt ≤ y_137.toInt := hpr1_r_134
    have hpr2_r_134 : y_137.toInt ≤ (mi 26).toInt := hpr2_r_134
    have hpr3_r_134 : Hid ((y_139.toInt = 0 ∨ y_138.toInt < y_137.toInt)) := hpr3_r_134
    have hpr4_r_134 : y_133.toInt ≤ y_141.toInt := hpr4_r_134
    have hpr5_r_134 : Hid ((y_141.toInt = 1 ∨ ((0 : Int) ≤ r_134.toInt ∧ r_134.toInt ≤ (99999 : Int)))) := by have h9 : (y_141.toInt = 1 ∨ ((0 : Int32).toInt ≤ r_134.toInt ∧ r_134.toInt ≤ (99999 : Int32).toInt)) := hpr5_r_134; rw [show (0 : Int32).toInt = 0 from by decide] at h9; rw [show (99999 : Int32).toInt = 99999 from by decide] at h9; exact h9
    have hP := hP.sub (ws' := [(h0, .inr (12, fsMM (upd (upd (upd (upd (upd (upd (upd mi 27 y_135) 28 y_136) 29 y_137) 30 y_138) 31 y_139) 32 y_140) 33 y_141) mr)), ((mr 13), .inl (km_tape, 1600, .inl fm_tape))]) [0, 1] rfl
    have hD := hD.sub (ws' := [(h0, .inr (12, fsMM (upd (upd (upd (upd (upd (upd (upd mi 27 y_135) 28 y_136) 29 y_137) 30 y_138) 31 y_139) 32 y_140) 33 y_141) mr)), ((mr 13), .inl (km_tape, 1600, .inl fm_tape))]) [0, 1] (by decide) rfl
    have hF := gf_callm (a := (r_134, y_135, y_136, y_137, y_138, y_139, y_140, y_141)) hE hF (by first | with_reducible rfl | simp only [upd_same, upd_app, ↓reduceIte, Nat.reduceEqDiff])
    generalize H1 = H at hP hS ⊢
    have gr_134 : gi r_134 0 100000 := hw
    refine va_put (D := (dC, dI)) (ci := 12) (v := .int r_134) (ty := .int) (C := RX12) (T := TX12) (N := 57) hx hb hts (fun w h => List.mem_cons_of_mem _ (jnGB_X12 w h)) tyX12 tyX12_ok nmX12 hown hK hP hD hS 0 rfl rfl 5 (by decide) (hts _ (List.mem_cons_of_mem _ mGB_108)) (fun _ h9 => h9) rfl (by decide +kernel) rfl rfl (Nat.le_of_ble_eq_true rfl) dX12_readsMoon_25 (fun H locs hP hD hS => ?_)
    have hP : va_P (dC, dI) vwCl [(h0, .inr (12, fsMM (upd (upd (upd (upd (upd (upd (upd (upd mi 5 r_134) 27 y_135) 28 y_136) 29 y_137) 30 y_138) 31 y_139) 32 y_140) 33 y_141) mr)), ((mr 13), .inl (km_tape, 1600, .inl fm_tape))] H := hP
    have hD : va_D A [(h0, .inr (12, fsMM (upd (upd (upd (upd (upd (upd (upd (upd mi 5 r_134) 27 y_135) 28 y_136) 29 y_137) 30 y_138) 31 y_139) 32 y_140) 33 y_141) mr)), ((mr 13), .inl (km_tape, 1600, .inl fm_tape))] := hD
    refine lv_aload_n hx hb dX12_readsMoon_28 rfl (lv_at hl 0 rfl) ?_
    refine lv_aload_n hx hb dX12_readsMoon_29 rfl (lv_at hl 0 rfl) ?_
    refine va_ldcS hx hb hown (show vk_R RX12 248 "step" (sa 16) s from (hT.2 16 (by decide)).1) dX12_readsMoon_30 ?_
    refine lv_sipush (v := 28000) hx hb dX12_readsMoon_32 (by decide) ?_
    refine lv_sipush (v := 31000) hx hb dX12_readsMoon_35 (by decide) ?_
    have hPc := hP.sub (ws' := [(h0, .inr (12, fsMM (upd (upd (upd (upd (upd (upd (upd (upd mi 5 r_134) 27 y_135) 28 y_136) 29 y_137) 30 y_138) 31 y_139) 32 y_140) 33 y_141) mr)), ((mr 13), .inl (km_tape, 1600, .inl fm_tape))]) [0, 1] rfl
    have hKc := hK.sub (tys' := [(km_tape, .int)]) [0] rfl
    have hDc := hD.sub (ws' := [(h0, .inr (12, fsMM (upd (upd (upd (upd (upd (upd (upd (upd mi 5 r_134) 27 y_135) 28 y_136) 29 y_137) 30 y_138) 31 y_139) 32 y_140) 33 y_141) mr)), ((mr 13), .inl (km_tape, 1600, .inl fm_tape))]) [0, 1] (by decide) rfl
    have hFc := va_free (wc := [(h0, .inr (12, fsMM (upd (upd (upd (upd (upd (upd (upd (upd mi 5 r_134) 27 y_135) 28 y_136) 29 y_137) 30 y_138) 31 y_139) 32 y_140) 33 y_141) mr)), ((mr 13), .inl (km_tape, 1600, .inl fm_tape))]) hD hS hA [0, 1] rfl
    refine va_calli (va_runV (As := [.ref (sa 16), .int 28000, .int 31000]) (rest := [.ref h0]) ⟨hx, hb, hml, hown, hts⟩ (sX12_numberBehindP l dC dI H.size h0 (upd (upd (upd (upd (upd (upd (upd (upd mi 5 r_134) 27 y_135) 28 y_136) 29 y_137) 30 y_138) 31 y_139) 32 y_140) 33 y_141) mr km_tape fm_tape 28000 31000 sa sb zf 16 gmi_0 gmi_1 gmi_2 (gi_w g_125 (by decide)) gmi_7 gmi_10 gmi_17 gmi_23 gmi_24 gmi_26 gy_137 gy_138 gy_140 gy_141 gmi_37 gmi_41 gmi_50 gmi_51 gmi_56 (gi_w (gi_c 28000 28000 (by decide)) (by decide)) (by decide) (show y_138.toInt ≤ y_137.toInt from by have qgy_141 := gy_141.1; have rgy_141 := gy_141.2; have qgy_138 := gy_138.1; have rgy_138 := gy_138.2; have qgy_137 := gy_137.1; have rgy_137 := gy_137.2; have qgy_133 := gy_133.1; have rgy_133 := gy_133.2; have qgy_130 := gy_130.1; have rgy_130 := gy_130.2; have qgy_129 := gy_129.1; have rgy_129 := gy_129.2; have qgmi_4 := g_125.1; have rgmi_4 := g_125.2; have qgmi_33 := gmi_33.1; have rgmi_33 := gmi_33.2; have qgmi_30 := gmi_30.1; have rgmi_30 := gmi_30.2; have qgmi_29 := gmi_29.1; have rgmi_29 := gmi_29.2; have qgmi_26 := gmi_26.1; have rgmi_26 := gmi_26.2; omega) (show y_137.toInt ≤ (mi 26).toInt from by have qgy_141 := gy_141.1; have rgy_141 := gy_141.2; have qgy_138 := gy_138.1; have rgy_138 := gy_138.2; have qgy_137 := gy_137.1; have rgy_137 := gy_137.2; have qgy_133 := gy_133.1; have rgy_133 := gy_133.2; have qgy_130 := gy_130.1; have rgy_130 := gy_130.2; have qgy_129 := gy_129.1; have rgy_129 := gy_129.2; have qgmi_4 := g_125.1; have rgmi_4 := g_125.2; have qgmi_33 := gmi_33.1; have rgmi_33 := gmi_33.2; have qgmi_30 := gmi_30.1; have rgmi_30 := gmi_30.2; have qgmi_29 := gmi_29.1; have rgmi_29 := gmi_29.2; have qgmi_26 := gmi_26.1; have rgmi_26 := gmi_26.2; omega) (show (y_139.toInt = 0 ∨ y_138.toInt < y_137.toInt) from by have qgy_141 := gy_141.1; have rgy_141 := gy_141.2; have qgy_138 := gy_138.1; have rgy_138 := gy_138.2; have qgy_137 := gy_137.1; have rgy_137 := gy_137.2; have qgy_133 := gy_133.1; have rgy_133 := gy_133.2; have qgy_130 := gy_130.1; have rgy_130 := gy_130.2; have qgy_129 := gy_129.1; have rgy_129 := gy_129.2; have qgmi_4 := g_125.1; have rgmi_4 := g_125.2; have qgmi_33 := gmi_33.1; have rgmi_33 := gmi_33.2; have qgmi_30 := gmi_30.1; have rgmi_30 := gmi_30.2; have qgmi_29 := gmi_29.1; have rgmi_29 := gmi_29.2; have qgmi_26 := gmi_26.1; have rgmi_26 := gmi_26.2; omega)) (cwV 3 hts (gz_gV mGB_173 mGB_174 mGB_175 mGB_1 mGB_176 goodGB) rfl rfl rfl (by decide +kernel) ⟨Nat.le_of_ble_eq_true rfl, Nat.le_of_ble_eq_true rfl⟩) ⟨fun a U g mk q => by obtain ⟨q0, q1, qP, qK, qD, qT⟩ := q; exact ⟨q0, q1, qP, va_K.moved (u := U) (U := U.calling g mk a) (Vm.Alike.refl U.vm) qK, qD, gz_ST.same rfl qT⟩, va_recv hKc hPc (ci := 12) (q0 := 0) rfl rfl, fun U hU hW => ⟨rfl, by rw [hU], by rw [hU]; exact hPc, va_K.moved hW.alike hKc, hDc.weaken (fun _ _ _ _ => trivial), by rw [hU]; exact ((hT.kept hS.2.1).narrow (fun q h => hFc q h)).warm hW⟩⟩ rfl rfl hl.1 rfl (lv_room (Nat.le_of_ble_eq_true rfl)) dX12_readsMoon_38 ⟨Nat.zero_le _, Nat.zero_le _⟩) hS (fun q _ h => hFc q h) hFc (fun r_142 u t H1 locs ht hvm hw hB hz1 hk1 hS => ?_)
    obtain ⟨hu_, hw⟩ := hw
    subst hu_
    obtain ⟨y_143, y_144, y_145, y_146, y_147, y_148, y_149, gy_145, gy_146, gy_148, gy_149, hpr0_r_142, hpr1_r_142, hpr2_r_142, hpr3_r_142, hpr4_r_142, hpr5_r_142, hE, hP1, hD1⟩ := hB
    rw [ht] at hP1
    obtain ⟨hP, hD⟩ := va_join (wr := []) (w1 := [(h0, .inr (12, fsMM (upd (upd (upd (upd (upd (upd (upd (upd mi 5 r_134) 27 y_143) 28 y_144) 29 y_145) 30 y_146) 31 y_147) 32 y_148) 33 y_149) mr)), ((mr 13), .inl (km_tape, 1600, .inl fm_tape))]) hP hD [0, 1] [] rfl rfl (by decide) (by decide) hk1 hFc hP1 hD1
    have hpr0_r_142 : y_138.toInt ≤ y_146.toInt := hpr0_r_142
    have hpr1_r_142 : y_146.toInt ≤ y_145.toInt := hpr1_r_142
    have hpr2_r_142 : y_145.toInt ≤ (mi 26).toInt := hpr2_r_142
    have hpr3_r_142 : Hid ((y_147.toInt = 0 ∨ y_146.toInt < y_145.toInt)) := hpr3_r_142
    have hpr4_r_142 : y_141.toInt ≤ y_149.toInt := hpr4_r_142
    have hpr5_r_142 : Hid ((y_149.toInt = 1 ∨ ((28000 : Int) ≤ r_142.toInt ∧ r_142.toInt ≤ (31000 : Int)))) := by have h9 : (y_149.toInt = 1 ∨ ((28000 : Int32).toInt ≤ r_142.toInt ∧ r_142.toInt ≤ (31000 : Int32).toInt)) := hpr5_r_142; rw [show (28000 : Int32).toInt = 28000 from by decide] at h9; rw [show (31000 : Int32).toInt = 31000 from by decide] at h9; exact h9
    have hP := hP.sub (ws' := [(h0, .inr (12, fsMM (upd (upd (upd (upd (upd (upd (upd (upd mi 5 r_134) 27 y_143) 28 y_144) 29 y_145) 30 y_146) 31 y_147) 32 y_148) 33 y_149) mr)), ((mr 13), .inl (km_tape, 1600, .inl fm_tape))]) [0, 1] rfl
    have hD := hD.sub (ws' := [(h0, .inr (12, fsMM (upd (upd (upd (upd (upd (upd (upd (upd mi 5 r_134) 27 y_143) 28 y_144) 29 y_145) 30 y_146) 31 y_147) 32 y_148) 33 y_149) mr)), ((mr 13), .inl (km_tape, 1600, .inl fm_tape))]) [0, 1] (by decide) rfl
    have hF := gf_callm (a := (r_142, y_143, y_144, y_145, y_146, y_147, y_148, y_149)) hE hF (by first | with_reducible rfl | simp only [upd_same, upd_app, ↓reduceIte, Nat.reduceEqDiff])
    generalize H1 = H at hP hS ⊢
    have gr_142 : gi r_142 0 100000 := hw
    refine va_put (D := (dC, dI)) (ci := 12) (v := .int r_142) (ty := .int) (C := RX12) (T := TX12) (N := 57) hx hb hts (fun w h => List.mem_cons_of_mem _ (jnGB_X12 w h)) tyX12 tyX12_ok nmX12 hown hK hP hD hS 0 rfl rfl 6 (by decide) (hts _ (List.mem_cons_of_mem _ mGB_109)) (fun _ h9 => h9) rfl (by decide +kernel) rfl rfl (Nat.le_of_ble_eq_true rfl) dX12_readsMoon_41 (fun H locs hP hD hS => ?_)
    have hP : va_P (dC, dI) vwCl [(h0, .inr (12, fsMM (upd (upd (upd (upd (upd (upd (upd (upd (upd mi 5 r_134) 6 r_142) 27 y_143) 28 y_144) 29 y_145) 30 y_146) 31 y_147) 32 y_148) 33 y_149) mr)), ((mr 13), .inl (km_tape, 1600, .inl fm_tape))] H := hP
    have hD : va_D A [(h0, .inr (12, fsMM (upd (upd (upd (upd (upd (upd (upd (upd (upd mi 5 r_134) 6 r_142) 27 y_143) 28 y_144) 29 y_145) 30 y_146) 31 y_147) 32 y_148) 33 y_149) mr)), ((mr 13), .inl (km_tape, 1600, .inl fm_tape))] := hD
    refine lv_aload_n hx hb dX12_readsMoon_44 rfl (lv_at hl 0 rfl) ?_
    refine lv_iconst (v := 1) hx hb dX12_readsMoon_45 (by decide) ?_
    refine va_put (D := (dC, dI)) (ci := 12) (v := .int 1) (ty := .boolean) (C := RX12) (T := TX12) (N := 57) hx hb hts (fun w h => List.mem_cons_of_mem _ (jnGB_X12 w h)) tyX12 tyX12_ok nmX12 hown hK hP hD hS 0 rfl rfl 4 (by decide) (hts _ (List.mem_cons_of_mem _ mGB_107)) (fun _ h9 => h9) rfl (by decide +kernel) rfl rfl (Nat.le_of_ble_eq_true rfl) dX12_readsMoon_46 (fun H locs hP hD hS => ?_)
    have hP : va_P (dC, dI) vwCl [(h0, .inr (12, fsMM (upd (upd (upd (upd (upd (upd (upd (upd (upd (upd mi 4 1) 5 r_134) 6 r_142) 27 y_143) 28 y_144) 29 y_145) 30 y_146) 31 y_147) 32 y_148) 33 y_149) mr)), ((mr 13), .inl (km_tape, 1600, .inl fm_tape))] H := hP
    have hD : va_D A [(h0, .inr (12, fsMM (upd (upd (upd (upd (upd (upd (upd (upd (upd (upd mi 4 1) 5 r_134) 6 r_142) 27 y_143) 28 y_144) 29 y_145) 30 y_146) 31 y_147) 32 y_148) 33 y_149) mr)), ((mr 13), .inl (km_tape, 1600, .inl fm_tape))] := hD
    exact W.vret hx hb hr (fun t ht hW => ⟨⟨(), rfl, trivial, 1, r_134, r_142, y_143, y_144, y_145, y_146, y_147, y_148, y_149, (gi_w (gi_c 1 1 (by decide)) (by decide)), gy_145, gy_146, gy_148, gy_149, (show (mi 30).toInt ≤ y_146.toInt from by have qgy_149 := gy_149.1; have rgy_149 := gy_149.2; have qgy_146 := gy_146.1; have rgy_146 := gy_146.2; have qgy_145 := gy_145.1; have rgy_145 := gy_145.2; have qgy_141 := gy_141.1; have rgy_141 := gy_141.2; have qgy_138 := gy_138.1; have rgy_138 := gy_138.2; have qgy_137 := gy_137.1; have rgy_137 := gy_137.2; have qgy_133 := gy_133.1; have rgy_133 := gy_133.2; have qgy_130 := gy_130.1; have rgy_130 := gy_130.2; have qgy_129 := gy_129.1; have rgy_129 := gy_129.2; have qgmi_4 := g_125.1; have rgmi_4 := g_125.2; have qgmi_33 := gmi_33.1; have rgmi_33 := gmi_33.2; have qgmi_30 := gmi_30.1; have rgmi_30 := gmi_30.2; have qgmi_29 := gmi_29.1; have rgmi_29 := gmi_29.2; have qgmi_26 := gmi_26.1; have rgmi_26 := gmi_26.2; omega), hpr1_r_142, hpr2_r_142, (Hid.un hpr3_r_142), (show (mi 33).toInt ≤ y_149.toInt from by have qgy_149 := gy_149.1; have rgy_149 := gy_149.2; have qgy_146 := gy_146.1; have rgy_146 := gy_146.2; have qgy_145 := gy_145.1; have rgy_145 := gy_145.2; have qgy_141 := gy_141.1; have rgy_141 := gy_141.2; have qgy_138 := gy_138.1; have rgy_138 := gy_138.2; have qgy_137 := gy_137.1; have rgy_137 := gy_137.2; have qgy_133 := gy_133.1; have rgy_133 := gy_133.2; have qgy_130 := gy_130.1; have rgy_130 := gy_130.2; have qgy_129 := gy_129.1; have rgy_129 := gy_129.2; have qgmi_4 := g_125.1; have rgmi_4 := g_125.2; have qgmi_33 := gmi_33.1; have rgmi_33 := gmi_33.2; have qgmi_30 := gmi_30.1; have rgmi_30 := gmi_30.2; have qgmi_29 := gmi_29.1; have rgmi_29 := gmi_29.2; have qgmi_26 := gmi_26.1; have rgmi_26 := gmi_26.2; omega), hF.trans hR9.symm, by rw [ht]; exact hP, hD⟩, hS.F ht⟩) hS.2.2 dX12_readsMoon_49
  · have hF := gf_neg c_123 hF
    have hc_150 : (mi 4).toInt ≠ 0 := fun h9 => c_123 (Int32.toInt_inj.mp (by rw [show (0 : Int32).toInt = 0 from by decide]; exact h9))
    have g_151 : gi (mi 4) 1 1 := gi_ne_lo c_123 gmi_4 (gi_c 0 0 (by decide)) (by decide)
    refine lv_aload_n hx hb dX12_readsMoon_7 rfl (lv_at hl 0 rfl) ?_
    refine lv_iconst (v := 3) hx hb dX12_readsMoon_8 (by decide) ?_
    have hPc := hP.sub (ws' := [(h0, .inr (12, fsMM mi mr))]) [0] rfl
    have hKc := hK.sub (tys' := []) [] rfl
    have hDc := hD.sub (ws' := [(h0, .inr (12, fsMM mi mr))]) [0] (by decide) rfl
    have hFc := va_free (wc := [(h0, .inr (12, fsMM mi mr))]) hD hS hA [0] rfl
    refine va_callv (va_runV (As := [.int 3]) (rest := []) ⟨hx, hb, hml, hown, hts⟩ (sX12_faultsP l dC dI s.heap.size h0 mi mr 3 gmi_0 gmi_1 gmi_2 (gi_w g_151 (by decide)) gmi_7 gmi_10 gmi_17 gmi_23 gmi_24 gmi_26 gmi_29 gmi_30 gmi_32 gmi_33 gmi_37 gmi_41 gmi_50 gmi_51 gmi_56) (cwV 1 hts (gz_gV mGB_165 mGB_166 mGB_167 mGB_1 mGB_168 goodGB) rfl rfl rfl (by decide +kernel) ⟨Nat.le_of_ble_eq_true rfl, Nat.le_of_ble_eq_true rfl⟩) ⟨fun a U g mk q => by obtain ⟨q0, q1, qP, qK, qD⟩ := q; exact ⟨q0, q1, qP, va_K.moved (u := U) (U := U.calling g mk a) (Vm.Alike.refl U.vm) qK, qD⟩, va_recv hKc hPc (ci := 12) (q0 := 0) rfl rfl, fun U hU hW => ⟨rfl, by rw [hU], by rw [hU]; exact hPc, va_K.moved hW.alike hKc, hDc.weaken (fun _ _ _ _ => trivial)⟩⟩ rfl rfl hl.1 rfl (lv_room (Nat.le_of_ble_eq_true rfl)) dX12_readsMoon_9 ⟨Nat.zero_le _, Nat.zero_le _⟩) hS (fun q _ h => hFc q h) hFc (fun u t H1 locs ht hvm hw hB hz1 hk1 hS => ?_)
    obtain ⟨y_153, y_154, y_155, gy_155, hpr0_r_152, hE, hP1, hD1⟩ := hB
    rw [ht] at hP1
    obtain ⟨hP, hD⟩ := va_join (wr := [((mr 13), .inl (km_tape, 1600, .inl fm_tape))]) (w1 := [(h0, .inr (12, fsMM (upd (upd (upd mi 27 y_153) 28 y_154) 33 y_155) mr))]) hP hD [0] [1] rfl rfl (by decide) (by decide) hk1 hFc hP1 hD1
    have hpr0_r_152 : y_155.toInt = 1 := hpr0_r_152
    have g_156 : gi y_155 1 1 := ⟨by omega, by omega⟩
    have hP := hP.sub (ws' := [(h0, .inr (12, fsMM (upd (upd (upd mi 27 y_153) 28 y_154) 33 y_155) mr)), ((mr 13), .inl (km_tape, 1600, .inl fm_tape))]) [1, 0] rfl
    have hD := hD.sub (ws' := [(h0, .inr (12, fsMM (upd (upd (upd mi 27 y_153) 28 y_154) 33 y_155) mr)), ((mr 13), .inl (km_tape, 1600, .inl fm_tape))]) [1, 0] (by decide) rfl
    have hF := gf_callm (a := (y_153, y_154, y_155)) hE hF (by first | with_reducible rfl | simp only [upd_same, upd_app, ↓reduceIte, Nat.reduceEqDiff])
    generalize H1 = H at hP hS ⊢
    refine lv_aload_n hx hb dX12_readsMoon_12 rfl (lv_at hl 0 rfl) ?_
    refine lv_iconst (v := 1) hx hb dX12_readsMoon_13 (by decide) ?_
    have hPc := hP.sub (ws' := [(h0, .inr (12, fsMM (upd (upd (upd mi 27 y_153) 28 y_154) 33 y_155) mr)), ((mr 13), .inl (km_tape, 1600, .inl fm_tape))]) [0, 1] rfl
    have hKc := hK.sub (tys' := [(km_tape, .int)]) [0] rfl
    have hDc := hD.sub (ws' := [(h0, .inr (12, fsMM (upd (upd (upd mi 27 y_153) 28 y_154) 33 y_155) mr)), ((mr 13), .inl (km_tape, 1600, .inl fm_tape))]) [0, 1] (by decide) rfl
    have hFc := va_free (wc := [(h0, .inr (12, fsMM (upd (upd (upd mi 27 y_153) 28 y_154) 33 y_155) mr)), ((mr 13), .inl (km_tape, 1600, .inl fm_tape))]) hD hS hA [0, 1] rfl
    refine va_callv (va_runV (As := [.int 1]) (rest := []) ⟨hx, hb, hml, hown, hts⟩ (sX12_passesP l dC dI H.size h0 (upd (upd (upd mi 27 y_153) 28 y_154) 33 y_155) mr km_tape fm_tape 1 gmi_0 gmi_1 gmi_2 (gi_w g_151 (by decide)) gmi_7 gmi_10 gmi_17 gmi_23 gmi_24 gmi_26 gmi_29 gmi_30 gmi_32 (gi_w g_156 (by decide)) gmi_37 gmi_41 gmi_50 gmi_51 gmi_56 (gi_w (gi_c 1 1 (by decide)) (by decide)) (show (mi 30).toInt ≤ (mi 29).toInt from by have qgy_155 := g_156.1; have rgy_155 := g_156.2; have qgmi_4 := g_151.1; have rgmi_4 := g_151.2; have qgmi_30 := gmi_30.1; have rgmi_30 := gmi_30.2; have qgmi_29 := gmi_29.1; have rgmi_29 := gmi_29.2; have qgmi_26 := gmi_26.1; have rgmi_26 := gmi_26.2; omega) (show (mi 29).toInt ≤ (mi 26).toInt from by have qgy_155 := g_156.1; have rgy_155 := g_156.2; have qgmi_4 := g_151.1; have rgmi_4 := g_151.2; have qgmi_30 := gmi_30.1; have rgmi_30 := gmi_30.2; have qgmi_29 := gmi_29.1; have rgmi_29 := gmi_29.2; have qgmi_26 := gmi_26.1; have rgmi_26 := gmi_26.2; omega) (show ((mi 31).toInt = 0 ∨ (mi 30).toInt < (mi 29).toInt) from by have qgy_155 := g_156.1; have rgy_155 := g_156.2; have qgmi_4 := g_151.1; have rgmi_4 := g_151.2; have qgmi_30 := gmi_30.1; have rgmi_30 := gmi_30.2; have qgmi_29 := gmi_29.1; have rgmi_29 := gmi_29.2; have qgmi_26 := gmi_26.1; have rgmi_26 := gmi_26.2; omega)) (cwV 1 hts (gz_gV mGB_161 mGB_162 mGB_163 mGB_1 mGB_164 goodGB) rfl rfl rfl (by decide +kernel) ⟨Nat.le_of_ble_eq_true rfl, Nat.le_of_ble_eq_true rfl⟩) ⟨fun a U g mk q => by obtain ⟨q0, q1, qP, qK, qD⟩ := q; exact ⟨q0, q1, qP, va_K.moved (u := U) (U := U.calling g mk a) (Vm.Alike.refl U.vm) qK, qD⟩, va_recv hKc hPc (ci := 12) (q0 := 0) rfl rfl, fun U hU hW => ⟨rfl, by rw [hU], by rw [hU]; exact hPc, va_K.moved hW.alike hKc, hDc.weaken (fun _ _ _ _ => trivial)⟩⟩ rfl rfl hl.1 rfl (lv_room (Nat.le_of_ble_eq_true rfl)) dX12_readsMoon_14 ⟨Nat.zero_le _, Nat.zero_le _⟩) hS (fun q _ h => hFc q h) hFc (fun u t H1 locs ht hvm hw hB hz1 hk1 hS => ?_)
    obtain ⟨y_158, y_159, y_160, y_161, y_162, y_163, y_164, gy_160, gy_161, gy_163, gy_164, hpr0_r_157, hpr1_r_157, hpr2_r_157, hpr3_r_157, hpr4_r_157, hpr5_r_157, hpr6_r_157, hE, hP1, hD1⟩ := hB
    rw [ht] at hP1
    obtain ⟨hP, hD⟩ := va_join (wr := []) (w1 := [(h0, .inr (12, fsMM (upd (upd (upd (upd (upd (upd (upd mi 27 y_158) 28 y_159) 29 y_160) 30 y_161) 31 y_162) 32 y_163) 33 y_164) mr)), ((mr 13), .inl (km_tape, 1600, .inl fm_tape))]) hP hD [0, 1] [] rfl rfl (by decide) (by decide) hk1 hFc hP1 hD1
    have hpr0_r_157 : (mi 30).toInt ≤ y_161.toInt := hpr0_r_157
    have hpr1_r_157 : y_161.toInt ≤ y_160.toInt := hpr1_r_157
    have hpr2_r_157 : y_160.toInt ≤ (mi 26).toInt := hpr2_r_157
    have hpr3_r_157 : Hid ((y_162.toInt = 0 ∨ y_161.toInt < y_160.toInt)) := hpr3_r_157
    have hpr4_r_157 : y_155.toInt ≤ y_164.toInt := hpr4_r_157
    have g_165 : gi y_164 1 1 := gi_relL (show y_155.toInt ≤ y_164.toInt from by omega) g_156 gy_164
    have hpr5_r_157 : Hid (((1 : Int) = 1 ∨ y_164.toInt = 1)) := by have h9 : ((1 : Int32).toInt = 1 ∨ y_164.toInt = 1) := hpr5_r_157; rw [show (1 : Int32).toInt = 1 from by decide] at h9; exact h9
    have hpr6_r_157 : Hid ((y_164.toInt = 1 ∨ (mi 29).toInt ≤ y_161.toInt)) := hpr6_r_157
    have hP := hP.sub (ws' := [(h0, .inr (12, fsMM (upd (upd (upd (upd (upd (upd (upd mi 27 y_158) 28 y_159) 29 y_160) 30 y_161) 31 y_162) 32 y_163) 33 y_164) mr)), ((mr 13), .inl (km_tape, 1600, .inl fm_tape))]) [0, 1] rfl
    have hD := hD.sub (ws' := [(h0, .inr (12, fsMM (upd (upd (upd (upd (upd (upd (upd mi 27 y_158) 28 y_159) 29 y_160) 30 y_161) 31 y_162) 32 y_163) 33 y_164) mr)), ((mr 13), .inl (km_tape, 1600, .inl fm_tape))]) [0, 1] (by decide) rfl
    have hF := gf_callm (a := (y_158, y_159, y_160, y_161, y_162, y_163, y_164)) hE hF (by first | with_reducible rfl | simp only [upd_same, upd_app, ↓reduceIte, Nat.reduceEqDiff])
    generalize H1 = H at hP hS ⊢
    refine lv_aload_n hx hb dX12_readsMoon_17 rfl (lv_at hl 0 rfl) ?_
    refine lv_aload_n hx hb dX12_readsMoon_18 rfl (lv_at hl 0 rfl) ?_
    refine lv_iconst (v := 0) hx hb dX12_readsMoon_19 (by decide) ?_
    refine lv_ldc (own := RX12) (v := 99999) hx hb hown (hts _ (List.mem_cons_of_mem _ mGB_185)) dX12_readsMoon_20 ?_
    have hPc := hP.sub (ws' := [(h0, .inr (12, fsMM (upd (upd (upd (upd (upd (upd (upd mi 27 y_158) 28 y_159) 29 y_160) 30 y_161) 31 y_162) 32 y_163) 33 y_164) mr)), ((mr 13), .inl (km_tape, 1600, .inl fm_tape))]) [0, 1] rfl
    have hKc := hK.sub (tys' := [(km_tape, .int)]) [0] rfl
    have hDc := hD.sub (ws' := [(h0, .inr (12, fsMM (upd (upd (upd (upd (upd (upd (upd mi 27 y_158) 28 y_159) 29 y_160) 30 y_161) 31 y_162) 32 y_163) 33 y_164) mr)), ((mr 13), .inl (km_tape, 1600, .inl fm_tape))]) [0, 1] (by decide) rfl
    have hFc := va_free (wc := [(h0, .inr (12, fsMM (upd (upd (upd (upd (upd (upd (upd mi 27 y_158) 28 y_159) 29 y_160) 30 y_161) 31 y_162) 32 y_163) 33 y_164) mr)), ((mr 13), .inl (km_tape, 1600, .inl fm_tape))]) hD hS hA [0, 1] rfl
    refine va_calli (va_runV (As := [.int 0, .int 99999]) (rest := [.ref h0]) ⟨hx, hb, hml, hown, hts⟩ (sX12_numberP l dC dI H.size h0 (upd (upd (upd (upd (upd (upd (upd mi 27 y_158) 28 y_159) 29 y_160) 30 y_161) 31 y_162) 32 y_163) 33 y_164) mr km_tape fm_tape 0 99999 gmi_0 gmi_1 gmi_2 (gi_w g_151 (by decide)) gmi_7 gmi_10 gmi_17 gmi_23 gmi_24 gmi_26 gy_160 gy_161 gy_163 (gi_w g_165 (by decide)) gmi_37 gmi_41 gmi_50 gmi_51 gmi_56 (gi_w (gi_c 0 0 (by decide)) (by decide)) (show y_161.toInt ≤ y_160.toInt from by have qgy_164 := g_165.1; have rgy_164 := g_165.2; have qgy_161 := gy_161.1; have rgy_161 := gy_161.2; have qgy_160 := gy_160.1; have rgy_160 := gy_160.2; have qgy_155 := g_156.1; have rgy_155 := g_156.2; have qgmi_4 := g_151.1; have rgmi_4 := g_151.2; have qgmi_30 := gmi_30.1; have rgmi_30 := gmi_30.2; have qgmi_29 := gmi_29.1; have rgmi_29 := gmi_29.2; have qgmi_26 := gmi_26.1; have rgmi_26 := gmi_26.2; omega) (show y_160.toInt ≤ (mi 26).toInt from by have qgy_164 := g_165.1; have rgy_164 := g_165.2; have qgy_161 := gy_161.1; have rgy_161 := gy_161.2; have qgy_160 := gy_160.1; have rgy_160 := gy_160.2; have qgy_155 := g_156.1; have rgy_155 := g_156.2; have qgmi_4 := g_151.1; have rgmi_4 := g_151.2; have qgmi_30 := gmi_30.1; have rgmi_30 := gmi_30.2; have qgmi_29 := gmi_29.1; have rgmi_29 := gmi_29.2; have qgmi_26 := gmi_26.1; have rgmi_26 := gmi_26.2; omega) (show (y_162.toInt = 0 ∨ y_161.toInt < y_160.toInt) from by have qgy_164 := g_165.1; have rgy_164 := g_165.2; have qgy_161 := gy_161.1; have rgy_161 := gy_161.2; have qgy_160 := gy_160.1; have rgy_160 := gy_160.2; have qgy_155 := g_156.1; have rgy_155 := g_156.2; have qgmi_4 := g_151.1; have rgmi_4 := g_151.2; have qgmi_30 := gmi_30.1; have rgmi_30 := gmi_30.2; have qgmi_29 := gmi_29.1; have rgmi_29 := gmi_29.2; have qgmi_26 := gmi_26.1; have rgmi_26 := gmi_26.2; omega)) (cwV 2 hts (gz_gV mGB_177 mGB_178 mGB_179 mGB_1 mGB_180 goodGB) rfl rfl rfl (by decide +kernel) ⟨Nat.le_of_ble_eq_true rfl, Nat.le_of_ble_eq_true rfl⟩) ⟨fun a U g mk q => by obtain ⟨q0, q1, qP, qK, qD⟩ := q; exact ⟨q0, q1, qP, va_K.moved (u := U) (U := U.calling g mk a) (Vm.Alike.refl U.vm) qK, qD⟩, va_recv hKc hPc (ci := 12) (q0 := 0) rfl rfl, fun U hU hW => ⟨rfl, by rw [hU], by rw [hU]; exact hPc, va_K.moved hW.alike hKc, hDc.weaken (fun _ _ _ _ => trivial)⟩⟩ rfl rfl hl.1 rfl (lv_room (Nat.le_of_ble_eq_true rfl)) dX12_readsMoon_22 ⟨Nat.zero_le _, Nat.zero_le _⟩) hS (fun q _ h => hFc q h) hFc (fun r_166 u t H1 locs ht hvm hw hB hz1 hk1 hS => ?_)
    obtain ⟨hu_, hw⟩ := hw
    subst hu_
    obtain ⟨y_167, y_168, y_169, y_170, y_171, y_172, y_173, gy_169, gy_170, gy_172, gy_173, hpr0_r_166, hpr1_r_166, hpr2_r_166, hpr3_r_166, hpr4_r_166, hpr5_r_166, hE, hP1, hD1⟩ := hB
    rw [ht] at hP1
    obtain ⟨hP, hD⟩ := va_join (wr := []) (w1 := [(h0, .inr (12, fsMM (upd (upd (upd (upd (upd (upd (upd mi 27 y_167) 28 y_168) 29 y_169) 30 y_170) 31 y_171) 32 y_172) 33 y_173) mr)), ((mr 13), .inl (km_tape, 1600, .inl fm_tape))]) hP hD [0, 1] [] rfl rfl (by decide) (by decide) hk1 hFc hP1 hD1
    have hpr0_r_166 : y_161.toInt ≤ y_170.toInt := hpr0_r_166
    have hpr1_r_166 : y_170.toInt ≤ y_169.toInt := hpr1_r_166
    have hpr2_r_166 : y_169.toInt ≤ (mi 26).toInt := hpr2_r_166
    have hpr3_r_166 : Hid ((y_171.toInt = 0 ∨ y_170.toInt < y_169.toInt)) := hpr3_r_166
    have hpr4_r_166 : y_164.toInt ≤ y_173.toInt := hpr4_r_166
    have g_174 : gi y_173 1 1 := gi_relL (show y_164.toInt ≤ y_173.toInt from by omega) g_165 gy_173
    have hpr5_r_166 : Hid ((y_173.toInt = 1 ∨ ((0 : Int) ≤ r_166.toInt ∧ r_166.toInt ≤ (99999 : Int)))) := by have h9 : (y_173.toInt = 1 ∨ ((0 : Int32).toInt ≤ r_166.toInt ∧ r_166.toInt ≤ (99999 : Int32).toInt)) := hpr5_r_166; rw [show (0 : Int32).toInt = 0 from by decide] at h9; rw [show (99999 : Int32).toInt = 99999 from by decide] at h9; exact h9
    have hP := hP.sub (ws' := [(h0, .inr (12, fsMM (upd (upd (upd (upd (upd (upd (upd mi 27 y_167) 28 y_168) 29 y_169) 30 y_170) 31 y_171) 32 y_172) 33 y_173) mr)), ((mr 13), .inl (km_tape, 1600, .inl fm_tape))]) [0, 1] rfl
    have hD := hD.sub (ws' := [(h0, .inr (12, fsMM (upd (upd (upd (upd (upd (upd (upd mi 27 y_167) 28 y_168) 29 y_169) 30 y_170) 31 y_171) 32 y_172) 33 y_173) mr)), ((mr 13), .inl (km_tape, 1600, .inl fm_tape))]) [0, 1] (by decide) rfl
    have hF := gf_callm (a := (r_166, y_167, y_168, y_169, y_170, y_171, y_172, y_173)) hE hF (by first | with_reducible rfl | simp only [upd_same, upd_app, ↓reduceIte, Nat.reduceEqDiff])
    generalize H1 = H at hP hS ⊢
    have gr_166 : gi r_166 0 100000 := hw
    refine va_put (D := (dC, dI)) (ci := 12) (v := .int r_166) (ty := .int) (C := RX12) (T := TX12) (N := 57) hx hb hts (fun w h => List.mem_cons_of_mem _ (jnGB_X12 w h)) tyX12 tyX12_ok nmX12 hown hK hP hD hS 0 rfl rfl 5 (by decide) (hts _ (List.mem_cons_of_mem _ mGB_108)) (fun _ h9 => h9) rfl (by decide +kernel) rfl rfl (Nat.le_of_ble_eq_true rfl) dX12_readsMoon_25 (fun H locs hP hD hS => ?_)
    have hP : va_P (dC, dI) vwCl [(h0, .inr (12, fsMM (upd (upd (upd (upd (upd (upd (upd (upd mi 5 r_166) 27 y_167) 28 y_168) 29 y_169) 30 y_170) 31 y_171) 32 y_172) 33 y_173) mr)), ((mr 13), .inl (km_tape, 1600, .inl fm_tape))] H := hP
    have hD : va_D A [(h0, .inr (12, fsMM (upd (upd (upd (upd (upd (upd (upd (upd mi 5 r_166) 27 y_167) 28 y_168) 29 y_169) 30 y_170) 31 y_171) 32 y_172) 33 y_173) mr)), ((mr 13), .inl (km_tape, 1600, .inl fm_tape))] := hD
    refine lv_aload_n hx hb dX12_readsMoon_28 rfl (lv_at hl 0 rfl) ?_
    refine lv_aload_n hx hb dX12_readsMoon_29 rfl (lv_at hl 0 rfl) ?_
    refine va_ldcS hx hb hown (show vk_R RX12 248 "step" (sa 16) s from (hT.2 16 (by decide)).1) dX12_readsMoon_30 ?_
    refine lv_sipush (v := 28000) hx hb dX12_readsMoon_32 (by decide) ?_
    refine lv_sipush (v := 31000) hx hb dX12_readsMoon_35 (by decide) ?_
    have hPc := hP.sub (ws' := [(h0, .inr (12, fsMM (upd (upd (upd (upd (upd (upd (upd (upd mi 5 r_166) 27 y_167) 28 y_168) 29 y_169) 30 y_170) 31 y_171) 32 y_172) 33 y_173) mr)), ((mr 13), .inl (km_tape, 1600, .inl fm_tape))]) [0, 1] rfl
    have hKc := hK.sub (tys' := [(km_tape, .int)]) [0] rfl
    have hDc := hD.sub (ws' := [(h0, .inr (12, fsMM (upd (upd (upd (upd (upd (upd (upd (upd mi 5 r_166) 27 y_167) 28 y_168) 29 y_169) 30 y_170) 31 y_171) 32 y_172) 33 y_173) mr)), ((mr 13), .inl (km_tape, 1600, .inl fm_tape))]) [0, 1] (by decide) rfl
    have hFc := va_free (wc := [(h0, .inr (12, fsMM (upd (upd (upd (upd (upd (upd (upd (upd mi 5 r_166) 27 y_167) 28 y_168) 29 y_169) 30 y_170) 31 y_171) 32 y_172) 33 y_173) mr)), ((mr 13), .inl (km_tape, 1600, .inl fm_tape))]) hD hS hA [0, 1] rfl
    refine va_calli (va_runV (As := [.ref (sa 16), .int 28000, .int 31000]) (rest := [.ref h0]) ⟨hx, hb, hml, hown, hts⟩ (sX12_numberBehindP l dC dI H.size h0 (upd (upd (upd (upd (upd (upd (upd (upd mi 5 r_166) 27 y_167) 28 y_168) 29 y_169) 30 y_170) 31 y_171) 32 y_172) 33 y_173) mr km_tape fm_tape 28000 31000 sa sb zf 16 gmi_0 gmi_1 gmi_2 (gi_w g_151 (by decide)) gmi_7 gmi_10 gmi_17 gmi_23 gmi_24 gmi_26 gy_169 gy_170 gy_172 (gi_w g_174 (by decide)) gmi_37 gmi_41 gmi_50 gmi_51 gmi_56 (gi_w (gi_c 28000 28000 (by decide)) (by decide)) (by decide) (show y_170.toInt ≤ y_169.toInt from by have qgy_173 := g_174.1; have rgy_173 := g_174.2; have qgy_170 := gy_170.1; have rgy_170 := gy_170.2; have qgy_169 := gy_169.1; have rgy_169 := gy_169.2; have qgy_164 := g_165.1; have rgy_164 := g_165.2; have qgy_161 := gy_161.1; have rgy_161 := gy_161.2; have qgy_160 := gy_160.1; have rgy_160 := gy_160.2; have qgy_155 := g_156.1; have rgy_155 := g_156.2; have qgmi_4 := g_151.1; have rgmi_4 := g_151.2; have qgmi_30 := gmi_30.1; have rgmi_30 := gmi_30.2; have qgmi_29 := gmi_29.1; have rgmi_29 := gmi_29.2; have qgmi_26 := gmi_26.1; have rgmi_26 := gmi_26.2; omega) (show y_169.toInt ≤ (mi 26).toInt from by have qgy_173 := g_174.1; have rgy_173 := g_174.2; have qgy_170 := gy_170.1; have rgy_170 := gy_170.2; have qgy_169 := gy_169.1; have rgy_169 := gy_169.2; have qgy_164 := g_165.1; have rgy_164 := g_165.2; have qgy_161 := gy_161.1; have rgy_161 := gy_161.2; have qgy_160 := gy_160.1; have rgy_160 := gy_160.2; have qgy_155 := g_156.1; have rgy_155 := g_156.2; have qgmi_4 := g_151.1; have rgmi_4 := g_151.2; have qgmi_30 := gmi_30.1; have rgmi_30 := gmi_30.2; have qgmi_29 := gmi_29.1; have rgmi_29 := gmi_29.2; have qgmi_26 := gmi_26.1; have rgmi_26 := gmi_26.2; omega) (show (y_171.toInt = 0 ∨ y_170.toInt < y_169.toInt) from by have qgy_173 := g_174.1; have rgy_173 := g_174.2; have qgy_170 := gy_170.1; have rgy_170 := gy_170.2; have qgy_169 := gy_169.1; have rgy_169 := gy_169.2; have qgy_164 := g_165.1; have rgy_164 := g_165.2; have qgy_161 := gy_161.1; have rgy_161 := gy_161.2; have qgy_160 := gy_160.1; have rgy_160 := gy_160.2; have qgy_155 := g_156.1; have rgy_155 := g_156.2; have qgmi_4 := g_151.1; have rgmi_4 := g_151.2; have qgmi_30 := gmi_30.1; have rgmi_30 := gmi_30.2; have qgmi_29 := gmi_29.1; have rgmi_29 := gmi_29.2; have qgmi_26 := gmi_26.1; have rgmi_26 := gmi_26.2; omega)) (cwV 3 hts (gz_gV mGB_173 mGB_174 mGB_175 mGB_1 mGB_176 goodGB) rfl rfl rfl (by decide +kernel) ⟨Nat.le_of_ble_eq_true rfl, Nat.le_of_ble_eq_true rfl⟩) ⟨fun a U g mk q => by obtain ⟨q0, q1, qP, qK, qD, qT⟩ := q; exact ⟨q0, q1, qP, va_K.moved (u := U) (U := U.calling g mk a) (Vm.Alike.refl U.vm) qK, qD, gz_ST.same rfl qT⟩, va_recv hKc hPc (ci := 12) (q0 := 0) rfl rfl, fun U hU hW => ⟨rfl, by rw [hU], by rw [hU]; exact hPc, va_K.moved hW.alike hKc, hDc.weaken (fun _ _ _ _ => trivial), by rw [hU]; exact ((hT.kept hS.2.1).narrow (fun q h => hFc q h)).warm hW⟩⟩ rfl rfl hl.1 rfl (lv_room (Nat.le_of_ble_eq_true rfl)) dX12_readsMoon_38 ⟨Nat.zero_le _, Nat.zero_le _⟩) hS (fun q _ h => hFc q h) hFc (fun r_175 u t H1 locs ht hvm hw hB hz1 hk1 hS => ?_)
    obtain ⟨hu_, hw⟩ := hw
    subst hu_
    obtain ⟨y_176, y_177, y_178, y_179, y_180, y_181, y_182, gy_178, gy_179, gy_181, gy_182, hpr0_r_175, hpr1_r_175, hpr2_r_175, hpr3_r_175, hpr4_r_175, hpr5_r_175, hE, hP1, hD1⟩ := hB
    rw [ht] at hP1
    obtain ⟨hP, hD⟩ := va_join (wr := []) (w1 := [(h0, .inr (12, fsMM (upd (upd (upd (upd (upd (upd (upd (upd mi 5 r_166) 27 y_176) 28 y_177) 29 y_178) 30 y_179) 31 y_180) 32 y_181) 33 y_182) mr)), ((mr 13), .inl (km_tape, 1600, .inl fm_tape))]) hP hD [0, 1] [] rfl rfl (by decide) (by decide) hk1 hFc hP1 hD1
    have hpr0_r_175 : y_170.toInt ≤ y_179.toInt := hpr0_r_175
    have hpr1_r_175 : y_179.toInt ≤ y_178.toInt := hpr1_r_175
    have hpr2_r_175 : y_178.toInt ≤ (mi 26).toInt := hpr2_r_175
    have hpr3_r_175 : Hid ((y_180.toInt = 0 ∨ y_179.toInt < y_178.toInt)) := hpr3_r_175
    have hpr4_r_175 : y_173.toInt ≤ y_182.toInt := hpr4_r_175
    have g_183 : gi y_182 1 1 := gi_relL (show y_173.toInt ≤ y_182.toInt from by omega) g_174 gy_182
    have hpr5_r_175 : Hid ((y_182.toInt = 1 ∨ ((28000 : Int) ≤ r_175.toInt ∧ r_175.toInt ≤ (31000 : Int)))) := by have h9 : (y_182.toInt = 1 ∨ ((28000 : Int32).toInt ≤ r_175.toInt ∧ r_175.toInt ≤ (31000 : Int32).toInt)) := hpr5_r_175; rw [show (28000 : Int32).toInt = 28000 from by decide] at h9; rw [show (31000 : Int32).toInt = 31000 from by decide] at h9; exact h9
    have hP := hP.sub (ws' := [(h0, .inr (12, fsMM (upd (upd (upd (upd (upd (upd (upd (upd mi 5 r_166) 27 y_176) 28 y_177) 29 y_178) 30 y_179) 31 y_180) 32 y_181) 33 y_182) mr)), ((mr 13), .inl (km_tape, 1600, .inl fm_tape))]) [0, 1] rfl
    have hD := hD.sub (ws' := [(h0, .inr (12, fsMM (upd (upd (upd (upd (upd (upd (upd (upd mi 5 r_166) 27 y_176) 28 y_177) 29 y_178) 30 y_179) 31 y_180) 32 y_181) 33 y_182) mr)), ((mr 13), .inl (km_tape, 1600, .inl fm_tape))]) [0, 1] (by decide) rfl
    have hF := gf_callm (a := (r_175, y_176, y_177, y_178, y_179, y_180, y_181, y_182)) hE hF (by first | with_reducible rfl | simp only [upd_same, upd_app, ↓reduceIte, Nat.reduceEqDiff])
    generalize H1 = H at hP hS ⊢
    have gr_175 : gi r_175 0 100000 := hw
    refine va_put (D := (dC, dI)) (ci := 12) (v := .int r_175) (ty := .int) (C := RX12) (T := TX12) (N := 57) hx hb hts (fun w h => List.mem_cons_of_mem _ (jnGB_X12 w h)) tyX12 tyX12_ok nmX12 hown hK hP hD hS 0 rfl rfl 6 (by decide) (hts _ (List.mem_cons_of_mem _ mGB_109)) (fun _ h9 => h9) rfl (by decide +kernel) rfl rfl (Nat.le_of_ble_eq_true rfl) dX12_readsMoon_41 (fun H locs hP hD hS => ?_)
    have hP : va_P (dC, dI) vwCl [(h0, .inr (12, fsMM (upd (upd (upd (upd (upd (upd (upd (upd (upd mi 5 r_166) 6 r_175) 27 y_176) 28 y_177) 29 y_178) 30 y_179) 31 y_180) 32 y_181) 33 y_182) mr)), ((mr 13), .inl (km_tape, 1600, .inl fm_tape))] H := hP
    have hD : va_D A [(h0, .inr (12, fsMM (upd (upd (upd (upd (upd (upd (upd (upd (upd mi 5 r_166) 6 r_175) 27 y_176) 28 y_177) 29 y_178) 30 y_179) 31 y_180) 32 y_181) 33 y_182) mr)), ((mr 13), .inl (km_tape, 1600, .inl fm_tape))] := hD
    refine lv_aload_n hx hb dX12_readsMoon_44 rfl (lv_at hl 0 rfl) ?_
    refine lv_iconst (v := 1) hx hb dX12_readsMoon_45 (by decide) ?_
    refine va_put (D := (dC, dI)) (ci := 12) (v := .int 1) (ty := .boolean) (C := RX12) (T := TX12) (N := 57) hx hb hts (fun w h => List.mem_cons_of_mem _ (jnGB_X12 w h)) tyX12 tyX12_ok nmX12 hown hK hP hD hS 0 rfl rfl 4 (by decide) (hts _ (List.mem_cons_of_mem _ mGB_107)) (fun _ h9 => h9) rfl (by decide +kernel) rfl rfl (Nat.le_of_ble_eq_true rfl) dX12_readsMoon_46 (fun H locs hP hD hS => ?_)
    have hP : va_P (dC, dI) vwCl [(h0, .inr (12, fsMM (upd (upd (upd (upd (upd (upd (upd (upd (upd (upd mi 4 1) 5 r_166) 6 r_175) 27 y_176) 28 y_177) 29 y_178) 30 y_179) 31 y_180) 32 y_181) 33 y_182) mr)), ((mr 13), .inl (km_tape, 1600, .inl fm_tape))] H := hP
    have hD : va_D A [(h0, .inr (12, fsMM (upd (upd (upd (upd (upd (upd (upd (upd (upd (upd mi 4 1) 5 r_166) 6 r_175) 27 y_176) 28 y_177) 29 y_178) 30 y_179) 31 y_180) 32 y_181) 33 y_182) mr)), ((mr 13), .inl (km_tape, 1600, .inl fm_tape))] := hD
    exact W.vret hx hb hr (fun t ht hW => ⟨⟨(), rfl, trivial, 1, r_166, r_175, y_176, y_177, y_178, y_179, y_180, y_181, y_182, (gi_w (gi_c 1 1 (by decide)) (by decide)), gy_178, gy_179, gy_181, (gi_w g_183 (by decide)), (show (mi 30).toInt ≤ y_179.toInt from by have qgy_182 := g_183.1; have rgy_182 := g_183.2; have qgy_179 := gy_179.1; have rgy_179 := gy_179.2; have qgy_178 := gy_178.1; have rgy_178 := gy_178.2; have qgy_173 := g_174.1; have rgy_173 := g_174.2; have qgy_170 := gy_170.1; have rgy_170 := gy_170.2; have qgy_169 := gy_169.1; have rgy_169 := gy_169.2; have qgy_164 := g_165.1; have rgy_164 := g_165.2; have qgy_161 := gy_161.1; have rgy_161 := gy_161.2; have qgy_160 := gy_160.1; have rgy_160 := gy_160.2; have qgy_155 := g_156.1; have rgy_155 := g_156.2; have qgmi_4 := g_151.1; have rgmi_4 := g_151.2; have qgmi_30 := gmi_30.1; have rgmi_30 := gmi_30.2; have qgmi_29 := gmi_29.1; have rgmi_29 := gmi_29.2; have qgmi_26 := gmi_26.1; have rgmi_26 := gmi_26.2; omega), hpr1_r_175, hpr2_r_175, (Hid.un hpr3_r_175), (show (mi 33).toInt ≤ y_182.toInt from by have qgy_182 := g_183.1; have rgy_182 := g_183.2; have qgy_179 := gy_179.1; have rgy_179 := gy_179.2; have qgy_178 := gy_178.1; have rgy_178 := gy_178.2; have qgy_173 := g_174.1; have rgy_173 := g_174.2; have qgy_170 := gy_170.1; have rgy_170 := gy_170.2; have qgy_169 := gy_169.1; have rgy_169 := gy_169.2; have qgy_164 := g_165.1; have rgy_164 := g_165.2; have qgy_161 := gy_161.1; have rgy_161 := gy_161.2; have qgy_160 := gy_160.1; have rgy_160 := gy_160.2; have qgy_155 := g_156.1; have rgy_155 := g_156.2; have qgmi_4 := g_151.1; have rgmi_4 := g_151.2; have qgmi_33 := gmi_33.1; have rgmi_33 := gmi_33.2; have qgmi_30 := gmi_30.1; have rgmi_30 := gmi_30.2; have qgmi_29 := gmi_29.1; have rgmi_29 := gmi_29.2; have qgmi_26 := gmi_26.1; have rgmi_26 := gmi_26.2; omega), hF.trans hR9.symm, by rw [ht]; exact hP, hD⟩, hS.F ht⟩) hS.2.2 dX12_readsMoon_49
