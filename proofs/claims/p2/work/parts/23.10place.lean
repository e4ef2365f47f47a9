theorem dX12_place_0 : decode cX12_place 0 = .ok (.aload_n 0, 1) := by decide +kernel
theorem dX12_place_1 : decode cX12_place 1 = .ok (.iload_n 1, 1) := by decide +kernel
theorem dX12_place_2 : decode cX12_place 2 = .ok (.invokevirtual 294, 3) := by decide +kernel
theorem dX12_place_5 : decode cX12_place 5 = .ok (.ifCond .eq 15, 3) := by decide +kernel
theorem dX12_place_8 : decode cX12_place 8 = .ok (.iload_n 2, 1) := by decide +kernel
theorem dX12_place_9 : decode cX12_place 9 = .ok (.i2l, 1) := by decide +kernel
theorem dX12_place_10 : decode cX12_place 10 = .ok (.lconst 0, 1) := by decide +kernel
theorem dX12_place_11 : decode cX12_place 11 = .ok (.ldc2_w 298, 3) := by decide +kernel
theorem dX12_place_14 : decode cX12_place 14 = .ok (.invokestatic 102, 3) := by decide +kernel
theorem dX12_place_17 : decode cX12_place 17 = .ok (.ifCond .ne 6, 3) := by decide +kernel
theorem dX12_place_20 : decode cX12_place 20 = .ok (.bipush (-2), 2) := by decide +kernel
theorem dX12_place_22 : decode cX12_place 22 = .ok (.ireturn, 1) := by decide +kernel
theorem dX12_place_23 : decode cX12_place 23 = .ok (.iconst 0, 1) := by decide +kernel
theorem dX12_place_24 : decode cX12_place 24 = .ok (.istore_n 3, 1) := by decide +kernel
theorem dX12_place_25 : decode cX12_place 25 = .ok (.iconst 0, 1) := by decide +kernel
theorem dX12_place_26 : decode cX12_place 26 = .ok (.istore 4, 2) := by decide +kernel
theorem dX12_place_28 : decode cX12_place 28 = .ok (.iload 4, 2) := by decide +kernel
theorem dX12_place_30 : decode cX12_place 30 = .ok (.aload_n 0, 1) := by decide +kernel
theorem dX12_place_31 : decode cX12_place 31 = .ok (.getfield 138, 3) := by decide +kernel
theorem dX12_place_34 : decode cX12_place 34 = .ok (.if_icmp .ge 27, 3) := by decide +kernel
theorem dX12_place_37 : decode cX12_place 37 = .ok (.iload_n 3, 1) := by decide +kernel
theorem dX12_place_38 : decode cX12_place 38 = .ok (.aload_n 0, 1) := by decide +kernel
theorem dX12_place_39 : decode cX12_place 39 = .ok (.iload 4, 2) := by decide +kernel
theorem dX12_place_41 : decode cX12_place 41 = .ok (.iload_n 1, 1) := by decide +kernel
theorem dX12_place_42 : decode cX12_place 42 = .ok (.invokevirtual 300, 3) := by decide +kernel
theorem dX12_place_45 : decode cX12_place 45 = .ok (.ifCond .eq 7, 3) := by decide +kernel
theorem dX12_place_48 : decode cX12_place 48 = .ok (.iconst 1, 1) := by decide +kernel
theorem dX12_place_49 : decode cX12_place 49 = .ok (.goto 4, 3) := by decide +kernel
theorem dX12_place_52 : decode cX12_place 52 = .ok (.iconst 0, 1) := by decide +kernel
theorem dX12_place_53 : decode cX12_place 53 = .ok (.iadd, 1) := by decide +kernel
theorem dX12_place_54 : decode cX12_place 54 = .ok (.istore_n 3, 1) := by decide +kernel
theorem dX12_place_55 : decode cX12_place 55 = .ok (.iinc 4 1, 3) := by decide +kernel
theorem dX12_place_58 : decode cX12_place 58 = .ok (.goto (-30), 3) := by decide +kernel
theorem dX12_place_61 : decode cX12_place 61 = .ok (.iconst 0, 1) := by decide +kernel
theorem dX12_place_62 : decode cX12_place 62 = .ok (.istore 4, 2) := by decide +kernel
theorem dX12_place_64 : decode cX12_place 64 = .ok (.iconst 0, 1) := by decide +kernel
theorem dX12_place_65 : decode cX12_place 65 = .ok (.istore 5, 2) := by decide +kernel
theorem dX12_place_67 : decode cX12_place 67 = .ok (.iload 5, 2) := by decide +kernel
theorem dX12_place_69 : decode cX12_place 69 = .ok (.aload_n 0, 1) := by decide +kernel
theorem dX12_place_70 : decode cX12_place 70 = .ok (.getfield 141, 3) := by decide +kernel
theorem dX12_place_73 : decode cX12_place 73 = .ok (.if_icmp .ge 40, 3) := by decide +kernel
theorem dX12_place_76 : decode cX12_place 76 = .ok (.iload 4, 2) := by decide +kernel
theorem dX12_place_78 : decode cX12_place 78 = .ok (.aload_n 0, 1) := by decide +kernel
theorem dX12_place_79 : decode cX12_place 79 = .ok (.getfield 16, 3) := by decide +kernel
theorem dX12_place_82 : decode cX12_place 82 = .ok (.iload 5, 2) := by decide +kernel
theorem dX12_place_84 : decode cX12_place 84 = .ok (.iaload, 1) := by decide +kernel
theorem dX12_place_85 : decode cX12_place 85 = .ok (.iload_n 1, 1) := by decide +kernel
theorem dX12_place_86 : decode cX12_place 86 = .ok (.if_icmp .ne 17, 3) := by decide +kernel
theorem dX12_place_89 : decode cX12_place 89 = .ok (.aload_n 0, 1) := by decide +kernel
theorem dX12_place_90 : decode cX12_place 90 = .ok (.getfield 22, 3) := by decide +kernel
theorem dX12_place_93 : decode cX12_place 93 = .ok (.iload 5, 2) := by decide +kernel
theorem dX12_place_95 : decode cX12_place 95 = .ok (.baload, 1) := by decide +kernel
theorem dX12_place_96 : decode cX12_place 96 = .ok (.ifCond .ne 7, 3) := by decide +kernel
theorem dX12_place_99 : decode cX12_place 99 = .ok (.iconst 1, 1) := by decide +kernel
theorem dX12_place_100 : decode cX12_place 100 = .ok (.goto 4, 3) := by decide +kernel
theorem dX12_place_103 : decode cX12_place 103 = .ok (.iconst 0, 1) := by decide +kernel
theorem dX12_place_104 : decode cX12_place 104 = .ok (.iadd, 1) := by decide +kernel
theorem dX12_place_105 : decode cX12_place 105 = .ok (.istore 4, 2) := by decide +kernel
theorem dX12_place_107 : decode cX12_place 107 = .ok (.iinc 5 1, 3) := by decide +kernel
theorem dX12_place_110 : decode cX12_place 110 = .ok (.goto (-43), 3) := by decide +kernel
theorem dX12_place_113 : decode cX12_place 113 = .ok (.iload_n 2, 1) := by decide +kernel
theorem dX12_place_114 : decode cX12_place 114 = .ok (.ifCond .ne 12, 3) := by decide +kernel
theorem dX12_place_117 : decode cX12_place 117 = .ok (.aload_n 0, 1) := by decide +kernel
theorem dX12_place_118 : decode cX12_place 118 = .ok (.getfield 7, 3) := by decide +kernel
theorem dX12_place_121 : decode cX12_place 121 = .ok (.iload_n 1, 1) := by decide +kernel
theorem dX12_place_122 : decode cX12_place 122 = .ok (.iaload, 1) := by decide +kernel
theorem dX12_place_123 : decode cX12_place 123 = .ok (.goto 14, 3) := by decide +kernel
theorem dX12_place_126 : decode cX12_place 126 = .ok (.iload_n 2, 1) := by decide +kernel
theorem dX12_place_127 : decode cX12_place 127 = .ok (.iconst 1, 1) := by decide +kernel
theorem dX12_place_128 : decode cX12_place 128 = .ok (.if_icmp .ne 7, 3) := by decide +kernel
theorem dX12_place_131 : decode cX12_place 131 = .ok (.iload_n 3, 1) := by decide +kernel
theorem dX12_place_132 : decode cX12_place 132 = .ok (.goto 5, 3) := by decide +kernel
theorem dX12_place_135 : decode cX12_place 135 = .ok (.iload 4, 2) := by decide +kernel
theorem dX12_place_137 : decode cX12_place 137 = .ok (.ireturn, 1) := by decide +kernel
set_option maxHeartbeats 4000000 in
set_option maxRecDepth 100000 in
theorem lp_sX12_place {p : Program} {l : Launch} {e : Env} {R : Room} {s : State} {m : MethodId} {args : Array Value} {below : List Frame} {meth : Method} {c : Code} {Q : State → Prop} {A : Nat → Prop} {cells slots : Nat} {dC : Nat → ClassId} {dI : Nat → Nat → Nat} (h0 : Nat) (mi : Nat → Int32) (mr : Nat → Nat) (km_trust : ClassId) (fm_trust : Nat → Int32) (km_letter : ClassId) (fm_letter : Nat → Int32) (km_reportPlace : ClassId) (fm_reportPlace : Nat → Int32) (km_struck : ClassId) (fm_struck : Nat → Int32) (p1 : Int32) (p2 : Int32) (gmi_0 : gi (mi 0) 0 24) (gmi_1 : gi (mi 1) 0 5) (gmi_2 : gi (mi 2) 0 5) (gmi_4 : gi (mi 4) 0 1) (gmi_7 : gi (mi 7) 0 6) (gmi_10 : gi (mi 10) 0 24) (gmi_17 : gi (mi 17) 0 8) (gmi_23 : gi (mi 23) 0 300) (gmi_24 : gi (mi 24) 0 1) (gmi_26 : gi (mi 26) 0 1600) (gmi_29 : gi (mi 29) 0 1600) (gmi_30 : gi (mi 30) 0 1600) (gmi_33 : gi (mi 33) 0 1) (gmi_37 : gi (mi 37) 0 1) (gmi_41 : gi (mi 41) 0 24) (gmi_50 : gi (mi 50) 0 1) (gmi_51 : gi (mi 51) 0 1) (gmi_56 : gi (mi 56) 0 80) (gfm_reportPlace : ga fm_reportPlace 24 0 5) (gfm_struck : ga fm_struck 24 0 1) (hx : p.tables.exec = Jvm.exec) (hb : c.code = cX12_place) (hml : c.maxLocals = 6) (hown : s.vm.findClass RX12 = some m.cls) (hts : ∀ w ∈ ((.code yX12_place cX12_place 6 (some .int) :: wsGB) : List Cond), w.before args s = true) (hK : va_K (dC, dI) vwCl [(km_trust, .int), (km_letter, .int), (km_reportPlace, .int), (km_struck, .boolean)] s) (hRf : 2 ≤ R.frames) (hRl : 46 ≤ R.locals) (hRc : cells ≤ R.cells) (hRs : slots ≤ R.slots) (kr22 : ∀ (v : Int32) (H : Heap) (locs : List Loc) (ls : Array Slot), gi v (-2) (-2) → va_P (dC, dI) vwCl [(h0, .inr (12, fsMM mi mr)), ((mr 0), .inl (km_trust, 6, .inl fm_trust)), ((mr 1), .inl (km_letter, 36, .inl fm_letter)), ((mr 2), .inl (km_reportPlace, 24, .inl fm_reportPlace)), ((mr 4), .inl (km_struck, 24, .inl fm_struck))] H → va_S A s.heap H locs → lv_has ls 6 [] → W p l e R s m args below meth c H locs cells slots Q (F0 m 22 ls [.int v])) (kr137 : ∀ (v : Int32) (H : Heap) (locs : List Loc) (ls : Array Slot), va_P (dC, dI) vwCl [(h0, .inr (12, fsMM mi mr)), ((mr 0), .inl (km_trust, 6, .inl fm_trust)), ((mr 1), .inl (km_letter, 36, .inl fm_letter)), ((mr 2), .inl (km_reportPlace, 24, .inl fm_reportPlace)), ((mr 4), .inl (km_struck, 24, .inl fm_struck))] H → va_S A s.heap H locs → lv_has ls 6 [] → W p l e R s m args below meth c H locs cells slots Q (F0 m 137 ls [.int v])) : ∀ z : Nat, (∀ (v3 : Int32) (v4 : Int32) (H : Heap) (locs : List Loc) (ls : Array Slot), gi p1 0 5 → gi p2 0 2 → gi v4 0 6 → 65 + (-2) * v4.toInt < (z : Int) → va_P (dC, dI) vwCl [(h0, .inr (12, fsMM mi mr)), ((mr 0), .inl (km_trust, 6, .inl fm_trust)), ((mr 1), .inl (km_letter, 36, .inl fm_letter)), ((mr 2), .inl (km_reportPlace, 24, .inl fm_reportPlace)), ((mr 4), .inl (km_struck, 24, .inl fm_struck))] H → va_S A s.heap H locs → lv_has ls 6 [(0, .ref h0), (1, .int p1), (2, .int p2), (3, .int v3), (4, .int v4)] → W p l e R s m args below meth c H locs cells slots Q (F0 m 28 ls [])) ∧ (∀ (v3 : Int32) (v4 : Int32) (v5 : Int32) (H : Heap) (locs : List Loc) (ls : Array Slot), gi p1 0 5 → gi p2 0 2 → gi v5 0 24 → 49 + (-2) * v5.toInt < (z : Int) → va_P (dC, dI) vwCl [(h0, .inr (12, fsMM mi mr)), ((mr 0), .inl (km_trust, 6, .inl fm_trust)), ((mr 1), .inl (km_letter, 36, .inl fm_letter)), ((mr 2), .inl (km_reportPlace, 24, .inl fm_reportPlace)), ((mr 4), .inl (km_struck, 24, .inl fm_struck))] H → va_S A s.heap H locs → lv_has ls 6 [(0, .ref h0), (1, .int p1), (2, .int p2), (3, .int v3), (4, .int v4), (5, .int v5)] → W p l e R s m args below meth c H locs cells slots Q (F0 m 67 ls [])) := by
  intro z
  induction z with
  | zero =>
    refine ⟨?_, ?_⟩
    · intro v3 v4 H locs ls gf_p1 gf_p2 gv4 hmu hP hS hl
      exact absurd hmu (by have hv41 := gv4.1; have hv42 := gv4.2; omega)
    · intro v3 v4 v5 H locs ls gf_p1 gf_p2 gv5 hmu hP hS hl
      exact absurd hmu (by have hv51 := gv5.1; have hv52 := gv5.2; omega)
  | succ z ih =>
    refine ⟨?_, ?_⟩
    · intro v3 v4 H locs ls gf_p1 gf_p2 gv4 hmu hP hS hl
      refine lv_iload hx hb dX12_place_28 (lv_at hl 4 rfl) ?_
      refine lv_aload_n hx hb dX12_place_30 rfl (lv_at hl 0 rfl) ?_
      refine va_get (D := (dC, dI)) (ci := 12) (v := .int (mi 7)) (C := RX12) (T := TX12) (N := 57) hx hb hts (fun w h => List.mem_cons_of_mem _ (jnGB_X12 w h)) hown hK hP 0 rfl rfl 7 (by decide) (hts _ (List.mem_cons_of_mem _ mGB_110)) (fun _ h9 => h9) rfl dX12_place_31 ?_
      refine lv_icmp_ge (tgt := 61) hx hb dX12_place_34 (by decide) (fun c_1761 => ?_) (fun c_1761 => ?_)
      · refine lv_iconst (v := 0) hx hb dX12_place_61 (by decide) ?_
        refine lv_istore (lv' := [(4, .int 0), (0, .ref h0), (1, .int p1), (2, .int p2), (3, .int v3)]) hx hb dX12_place_62 hl (by decide) rfl (fun ls hl => ?_)
        refine lv_iconst (v := 0) hx hb dX12_place_64 (by decide) ?_
        refine lv_istore (lv' := [(5, .int 0), (4, .int 0), (0, .ref h0), (1, .int p1), (2, .int p2), (3, .int v3)]) hx hb dX12_place_65 hl (by decide) rfl (fun ls hl => ?_)
        exact ih.2 v3 0 0 _ _ _ gf_p1 gf_p2 (gi_w (gi_c 0 0 (by decide)) (by decide)) (by have k0 : (0 : Int32).toInt = 0 := (by decide); have av4 := gv4.1; have bv4 := gv4.2; omega) hP hS (lv_sub hl [2, 3, 4, 5, 1, 0] rfl)
      · have g_1762 : gi v4 0 5 := gi_lt_l (Int32.not_le.mp c_1761) gv4 gmi_7 (by decide)
        have g_1763 : gi (mi 7) 1 6 := gi_lt_r (Int32.not_le.mp c_1761) gv4 gmi_7 (by decide)
        refine lv_iload_n hx hb dX12_place_37 rfl (lv_at hl 3 rfl) ?_
        refine lv_aload_n hx hb dX12_place_38 rfl (lv_at hl 0 rfl) ?_
        refine lv_iload hx hb dX12_place_39 (lv_at hl 4 rfl) ?_
        refine lv_iload_n hx hb dX12_place_41 rfl (lv_at hl 1 rfl) ?_
        have hPc := hP.sub (ws' := [(h0, .inr (12, fsMM mi mr)), ((mr 1), .inl (km_letter, 36, .inl fm_letter))]) [0, 2] rfl
        have hKc := hK.sub (tys' := [(km_letter, .int)]) [1] rfl
        refine va_calli (va_runV (As := [.int v4, .int p1]) (rest := [.int v3]) ⟨hx, hb, hml, hown, hts⟩ (sX12_isNameAhead l dC dI h0 mi mr km_letter fm_letter v4 p1 gmi_0 gmi_1 gmi_2 gmi_4 (gi_w g_1763 (by decide)) gmi_10 gmi_17 gmi_23 gmi_24 gmi_26 gmi_29 gmi_30 gmi_33 gmi_37 gmi_41 gmi_50 gmi_51 gmi_56 g_1762 gf_p1) (cwV 2 hts (gz_gV mGB_228 mGB_229 mGB_230 mGB_1 mGB_231 goodGB) rfl rfl rfl (by decide +kernel) ⟨Nat.le_trans (Nat.le_of_ble_eq_true rfl) hRf, Nat.le_trans (Nat.le_of_ble_eq_true rfl) hRl⟩) ⟨fun a U g mk q => by obtain ⟨q0, qP, qK⟩ := q; exact ⟨q0, qP, va_K.moved (u := U) (U := U.calling g mk a) (Vm.Alike.refl U.vm) qK⟩, va_recv hKc hPc (ci := 12) (q0 := 0) rfl rfl, fun U hU hW => ⟨rfl, by rw [hU]; exact hPc, va_K.moved hW.alike hKc⟩⟩ rfl rfl hl.1 rfl (lv_room (Nat.le_of_ble_eq_true rfl)) dX12_place_42 ⟨hRc, hRs⟩) hS (fun q _ h => h.elim) (fun q h => h.elim) (fun r_1764 u t H1 locs ht hvm hw hB hz1 hk1 hS => ?_)
        have hP := gz_keep hP hk1
        generalize H1 = H at hP hS ⊢
        have gr_1764 : gi r_1764 0 1 := hw
        refine lv_if_eq (tgt := 52) hx hb dX12_place_45 (by decide) (fun c_1765 => ?_) (fun c_1765 => ?_)
        · have g_1766 : gi r_1764 0 0 := gi_eq c_1765 (gi_c 0 0 (by decide))
          refine lv_iconst (v := 0) hx hb dX12_place_52 (by decide) ?_
          refine lv_iadd hx hb dX12_place_53 ?_
          refine lv_topi (fun x_1767 ex_1767 => ?_)
          refine lv_istore_n (lv' := [(3, .int x_1767), (0, .ref h0), (1, .int p1), (2, .int p2), (4, .int v4)]) hx hb dX12_place_54 rfl hl (by decide) rfl (fun ls hl => ?_)
          obtain ⟨x_1768, ex_1768⟩ : ∃ y : Int32, y = v4 + 1 := ⟨_, rfl⟩
          have gx_1768 : gi x_1768 1 6 := gi_add ex_1768 g_1762 (gi_c 1 1 (by decide)) (by decide)
          refine lv_iinc (v := x_1768) (lv' := [(4, .int x_1768), (3, .int x_1767), (0, .ref h0), (1, .int p1), (2, .int p2)]) hx hb dX12_place_55 hl (k := 4) rfl (by rw [ex_1768]; rfl) (by decide) rfl (fun ls hl => ?_)
          refine lv_goto (tgt := 28) hx hb dX12_place_58 (by decide) ?_
          exact ih.1 x_1767 x_1768 _ _ _ gf_p1 gf_p2 (gi_w gx_1768 (by decide)) (by have av4 := gv4.1; have bv4 := gv4.2; have qgx_1768 := gx_1768.1; have rgx_1768 := gx_1768.2; have igx_1768 : x_1768.toInt = v4.toInt + 1 := (by have hc1 : (1 : Int32).toInt = 1 := (by decide); have h9 := gi_addI ex_1768 (by have h1 := g_1762.1; have h2 := (gi_c 1 1 (by decide)).1; have h3 := g_1762.2; have h4 := (gi_c 1 1 (by decide)).2; omega) (by have h1 := g_1762.1; have h2 := (gi_c 1 1 (by decide)).1; have h3 := g_1762.2; have h4 := (gi_c 1 1 (by decide)).2; omega); rw [hc1] at h9; exact h9); have qgv4 := g_1762.1; have rgv4 := g_1762.2; omega) hP hS (lv_sub hl [2, 3, 4, 1, 0] rfl)
        · have g_1769 : gi r_1764 1 1 := gi_ne_lo c_1765 gr_1764 (gi_c 0 0 (by decide)) (by decide)
          refine lv_iconst (v := 1) hx hb dX12_place_48 (by decide) ?_
          refine lv_goto (tgt := 53) hx hb dX12_place_49 (by decide) ?_
          refine lv_iadd hx hb dX12_place_53 ?_
          refine lv_topi (fun x_1770 ex_1770 => ?_)
          refine lv_istore_n (lv' := [(3, .int x_1770), (0, .ref h0), (1, .int p1), (2, .int p2), (4, .int v4)]) hx hb dX12_place_54 rfl hl (by decide) rfl (fun ls hl => ?_)
          obtain ⟨x_1771, ex_1771⟩ : ∃ y : Int32, y = v4 + 1 := ⟨_, rfl⟩
          have gx_1771 : gi x_1771 1 6 := gi_add ex_1771 g_1762 (gi_c 1 1 (by decide)) (by decide)
          refine lv_iinc (v := x_1771) (lv' := [(4, .int x_1771), (3, .int x_1770), (0, .ref h0), (1, .int p1), (2, .int p2)]) hx hb dX12_place_55 hl (k := 4) rfl (by rw [ex_1771]; rfl) (by decide) rfl (fun ls hl => ?_)
          refine lv_goto (tgt := 28) hx hb dX12_place_58 (by decide) ?_
          exact ih.1 x_1770 x_1771 _ _ _ gf_p1 gf_p2 (gi_w gx_1771 (by decide)) (by have av4 := gv4.1; have bv4 := gv4.2; have qgx_1771 := gx_1771.1; have rgx_1771 := gx_1771.2; have igx_1771 : x_1771.toInt = v4.toInt + 1 := (by have hc1 : (1 : Int32).toInt = 1 := (by decide); have h9 := gi_addI ex_1771 (by have h1 := g_1762.1; have h2 := (gi_c 1 1 (by decide)).1; have h3 := g_1762.2; have h4 := (gi_c 1 1 (by decide)).2; omega) (by have h1 := g_1762.1; have h2 := (gi_c 1 1 (by decide)).1; have h3 := g_1762.2; have h4 := (gi_c 1 1 (by decide)).2; omega); rw [hc1] at h9; exact h9); have qgv4 := g_1762.1; have rgv4 := g_1762.2; omega) hP hS (lv_sub hl [2, 3, 4, 1, 0] rfl)
    · intro v3 v4 v5 H locs ls gf_p1 gf_p2 gv5 hmu hP hS hl
      refine lv_iload hx hb dX12_place_67 (lv_at hl 5 rfl) ?_
      refine lv_aload_n hx hb dX12_place_69 rfl (lv_at hl 0 rfl) ?_
      refine va_get (D := (dC, dI)) (ci := 12) (v := .int (mi 10)) (C := RX12) (T := TX12) (N := 57) hx hb hts (fun w h => List.mem_cons_of_mem _ (jnGB_X12 w h)) hown hK hP 0 rfl rfl 10 (by decide) (hts _ (List.mem_cons_of_mem _ mGB_111)) (fun _ h9 => h9) rfl dX12_place_70 ?_
      refine lv_icmp_ge (tgt := 113) hx hb dX12_place_73 (by decide) (fun c_1772 => ?_) (fun c_1772 => ?_)
      · refine lv_iload_n hx hb dX12_place_113 rfl (lv_at hl 2 rfl) ?_
        refine lv_if_ne (tgt := 126) hx hb dX12_place_114 (by decide) (fun c_1773 => ?_) (fun c_1773 => ?_)
        · have g_1774 : gi p2 1 2 := gi_ne_lo c_1773 gf_p2 (gi_c 0 0 (by decide)) (by decide)
          refine lv_iload_n hx hb dX12_place_126 rfl (lv_at hl 2 rfl) ?_
          refine lv_iconst (v := 1) hx hb dX12_place_127 (by decide) ?_
          refine lv_icmp_ne (tgt := 135) hx hb dX12_place_128 (by decide) (fun c_1775 => ?_) (fun c_1775 => ?_)
          · have g_1776 : gi p2 2 2 := gi_ne_lo c_1775 g_1774 (gi_c 1 1 (by decide)) (by decide)
            refine lv_iload hx hb dX12_place_135 (lv_at hl 4 rfl) ?_
            exact kr137 v4 _ _ _ hP hS (lv_sub hl [] rfl)
          · have g_1777 : gi p2 1 1 := gi_eq c_1775 (gi_c 1 1 (by decide))
            refine lv_iload_n hx hb dX12_place_131 rfl (lv_at hl 3 rfl) ?_
            refine lv_goto (tgt := 137) hx hb dX12_place_132 (by decide) ?_
            exact kr137 v3 _ _ _ hP hS (lv_sub hl [] rfl)
        · have g_1778 : gi p2 0 0 := gi_eq c_1773 (gi_c 0 0 (by decide))
          refine lv_aload_n hx hb dX12_place_117 rfl (lv_at hl 0 rfl) ?_
          refine va_get (D := (dC, dI)) (ci := 12) (v := .ref (mr 0)) (C := RX12) (T := TX12) (N := 57) hx hb hts (fun w h => List.mem_cons_of_mem _ (jnGB_X12 w h)) hown hK hP 0 rfl rfl 8 (by decide) (hts _ (List.mem_cons_of_mem _ mGB_10)) (fun _ h9 => h9) rfl dX12_place_118 ?_
          refine lv_iload_n hx hb dX12_place_121 rfl (lv_at hl 1 rfl) ?_
          refine va_iald hx hb hK hP 1 0 rfl rfl (gi_in gf_p1 (by decide)) dX12_place_122 ?_
          refine lv_topi (fun x_1779 ex_1779 => ?_)
          refine lv_goto (tgt := 137) hx hb dX12_place_123 (by decide) ?_
          exact kr137 x_1779 _ _ _ hP hS (lv_sub hl [] rfl)
      · have g_1780 : gi v5 0 23 := gi_lt_l (Int32.not_le.mp c_1772) gv5 gmi_10 (by decide)
        have g_1781 : gi (mi 10) 1 24 := gi_lt_r (Int32.not_le.mp c_1772) gv5 gmi_10 (by decide)
        refine lv_iload hx hb dX12_place_76 (lv_at hl 4 rfl) ?_
        refine lv_aload_n hx hb dX12_place_78 rfl (lv_at hl 0 rfl) ?_
        refine va_get (D := (dC, dI)) (ci := 12) (v := .ref (mr 2)) (C := RX12) (T := TX12) (N := 57) hx hb hts (fun w h => List.mem_cons_of_mem _ (jnGB_X12 w h)) hown hK hP 0 rfl rfl 11 (by decide) (hts _ (List.mem_cons_of_mem _ mGB_12)) (fun _ h9 => h9) rfl dX12_place_79 ?_
        refine lv_iload hx hb dX12_place_82 (lv_at hl 5 rfl) ?_
        refine va_iald hx hb hK hP 3 2 rfl rfl (gi_in g_1780 (by decide)) dX12_place_84 ?_
        refine lv_topi (fun x_1782 ex_1782 => ?_)
        have gx_1782 : gi x_1782 0 5 := ga_at gfm_reportPlace (gi_in g_1780 (by decide)) ex_1782
        refine lv_iload_n hx hb dX12_place_85 rfl (lv_at hl 1 rfl) ?_
        refine lv_icmp_ne (tgt := 103) hx hb dX12_place_86 (by decide) (fun c_1783 => ?_) (fun c_1783 => ?_)
        · refine lv_iconst (v := 0) hx hb dX12_place_103 (by decide) ?_
          refine lv_iadd hx hb dX12_place_104 ?_
          refine lv_topi (fun x_1784 ex_1784 => ?_)
          refine lv_istore (lv' := [(4, .int x_1784), (0, .ref h0), (1, .int p1), (2, .int p2), (3, .int v3), (5, .int v5)]) hx hb dX12_place_105 hl (by decide) rfl (fun ls hl => ?_)
          obtain ⟨x_1785, ex_1785⟩ : ∃ y : Int32, y = v5 + 1 := ⟨_, rfl⟩
          have gx_1785 : gi x_1785 1 24 := gi_add ex_1785 g_1780 (gi_c 1 1 (by decide)) (by decide)
          refine lv_iinc (v := x_1785) (lv' := [(5, .int x_1785), (4, .int x_1784), (0, .ref h0), (1, .int p1), (2, .int p2), (3, .int v3)]) hx hb dX12_place_107 hl (k := 5) rfl (by rw [ex_1785]; rfl) (by decide) rfl (fun ls hl => ?_)
          refine lv_goto (tgt := 67) hx hb dX12_place_110 (by decide) ?_
          exact ih.2 v3 x_1784 x_1785 _ _ _ gf_p1 gf_p2 (gi_w gx_1785 (by decide)) (by have av5 := gv5.1; have bv5 := gv5.2; have qgx_1785 := gx_1785.1; have rgx_1785 := gx_1785.2; have igx_1785 : x_1785.toInt = v5.toInt + 1 := (by have hc1 : (1 : Int32).toInt = 1 := (by decide); have h9 := gi_addI ex_1785 (by have h1 := g_1780.1; have h2 := (gi_c 1 1 (by decide)).1; have h3 := g_1780.2; have h4 := (gi_c 1 1 (by decide)).2; omega) (by have h1 := g_1780.1; have h2 := (gi_c 1 1 (by decide)).1; have h3 := g_1780.2; have h4 := (gi_c 1 1 (by decide)).2; omega); rw [hc1] at h9; exact h9); have qgv5 := g_1780.1; have rgv5 := g_1780.2; omega) hP hS (lv_sub hl [2, 3, 4, 5, 1, 0] rfl)
        · refine lv_aload_n hx hb dX12_place_89 rfl (lv_at hl 0 rfl) ?_
          refine va_get (D := (dC, dI)) (ci := 12) (v := .ref (mr 4)) (C := RX12) (T := TX12) (N := 57) hx hb hts (fun w h => List.mem_cons_of_mem _ (jnGB_X12 w h)) hown hK hP 0 rfl rfl 13 (by decide) (hts _ (List.mem_cons_of_mem _ mGB_15)) (fun _ h9 => h9) rfl dX12_place_90 ?_
          refine lv_iload hx hb dX12_place_93 (lv_at hl 5 rfl) ?_
          refine va_zald hx hb hK hP 4 3 rfl rfl (gi_in g_1780 (by decide)) dX12_place_95 ?_
          refine lv_topi (fun x_1786 ex_1786 => ?_)
          have gx_1786 : gi x_1786 0 1 := ga_at gfm_struck (gi_in g_1780 (by decide)) ex_1786
          refine lv_if_ne (tgt := 103) hx hb dX12_place_96 (by decide) (fun c_1787 => ?_) (fun c_1787 => ?_)
          · have g_1788 : gi x_1786 1 1 := gi_ne_lo c_1787 gx_1786 (gi_c 0 0 (by decide)) (by decide)
            refine lv_iconst (v := 0) hx hb dX12_place_103 (by decide) ?_
            refine lv_iadd hx hb dX12_place_104 ?_
            refine lv_topi (fun x_1789 ex_1789 => ?_)
            refine lv_istore (lv' := [(4, .int x_1789), (0, .ref h0), (1, .int p1), (2, .int p2), (3, .int v3), (5, .int v5)]) hx hb dX12_place_105 hl (by decide) rfl (fun ls hl => ?_)
            obtain ⟨x_1790, ex_1790⟩ : ∃ y : Int32, y = v5 + 1 := ⟨_, rfl⟩
            have gx_1790 : gi x_1790 1 24 := gi_add ex_1790 g_1780 (gi_c 1 1 (by decide)) (by decide)
            refine lv_iinc (v := x_1790) (lv' := [(5, .int x_1790), (4, .int x_1789), (0, .ref h0), (1, .int p1), (2, .int p2), (3, .int v3)]) hx hb dX12_place_107 hl (k := 5) rfl (by rw [ex_1790]; rfl) (by decide) rfl (fun ls hl => ?_)
            refine lv_goto (tgt := 67) hx hb dX12_place_110 (by decide) ?_
            exact ih.2 v3 x_1789 x_1790 _ _ _ gf_p1 gf_p2 (gi_w gx_1790 (by decide)) (by have av5 := gv5.1; have bv5 := gv5.2; have qgx_1790 := gx_1790.1; have rgx_1790 := gx_1790.2; have igx_1790 : x_1790.toInt = v5.toInt + 1 := (by have hc1 : (1 : Int32).toInt = 1 := (by decide); have h9 := gi_addI ex_1790 (by have h1 := g_1780.1; have h2 := (gi_c 1 1 (by decide)).1; have h3 := g_1780.2; have h4 := (gi_c 1 1 (by decide)).2; omega) (by have h1 := g_1780.1; have h2 := (gi_c 1 1 (by decide)).1; have h3 := g_1780.2; have h4 := (gi_c 1 1 (by decide)).2; omega); rw [hc1] at h9; exact h9); have qgv5 := g_1780.1; have rgv5 := g_1780.2; omega) hP hS (lv_sub hl [2, 3, 4, 5, 1, 0] rfl)
          · have g_1791 : gi x_1786 0 0 := gi_eq c_1787 (gi_c 0 0 (by decide))
            refine lv_iconst (v := 1) hx hb dX12_place_99 (by decide) ?_
            refine lv_goto (tgt := 104) hx hb dX12_place_100 (by decide) ?_
            refine lv_iadd hx hb dX12_place_104 ?_
            refine lv_topi (fun x_1792 ex_1792 => ?_)
            refine lv_istore (lv' := [(4, .int x_1792), (0, .ref h0), (1, .int p1), (2, .int p2), (3, .int v3), (5, .int v5)]) hx hb dX12_place_105 hl (by decide) rfl (fun ls hl => ?_)
            obtain ⟨x_1793, ex_1793⟩ : ∃ y : Int32, y = v5 + 1 := ⟨_, rfl⟩
            have gx_1793 : gi x_1793 1 24 := gi_add ex_1793 g_1780 (gi_c 1 1 (by decide)) (by decide)
            refine lv_iinc (v := x_1793) (lv' := [(5, .int x_1793), (4, .int x_1792), (0, .ref h0), (1, .int p1), (2, .int p2), (3, .int v3)]) hx hb dX12_place_107 hl (k := 5) rfl (by rw [ex_1793]; rfl) (by decide) rfl (fun ls hl => ?_)
            refine lv_goto (tgt := 67) hx hb dX12_place_110 (by decide) ?_
            exact ih.2 v3 x_1792 x_1793 _ _ _ gf_p1 gf_p2 (gi_w gx_1793 (by decide)) (by have av5 := gv5.1; have bv5 := gv5.2; have qgx_1793 := gx_1793.1; have rgx_1793 := gx_1793.2; have igx_1793 : x_1793.toInt = v5.toInt + 1 := (by have hc1 : (1 : Int32).toInt = 1 := (by decide); have h9 := gi_addI ex_1793 (by have h1 := g_1780.1; have h2 := (gi_c 1 1 (by decide)).1; have h3 := g_1780.2; have h4 := (gi_c 1 1 (by decide)).2; omega) (by have h1 := g_1780.1; have h2 := (gi_c 1 1 (by decide)).1; have h3 := g_1780.2; have h4 := (gi_c 1 1 (by decide)).2; omega); rw [hc1] at h9; exact h9); have qgv5 := g_1780.1; have rgv5 := g_1780.2; omega) hP hS (lv_sub hl [2, 3, 4, 5, 1, 0] rfl)
set_option maxHeartbeats 4000000 in
set_option maxRecDepth 100000 in
theorem sX12_place (l : Launch) (dC : Nat → ClassId) (dI : Nat → Nat → Nat) (h0 : Nat) (mi : Nat → Int32) (mr : Nat → Nat) (km_trust : ClassId) (fm_trust : Nat → Int32) (km_letter : ClassId) (fm_letter : Nat → Int32) (km_reportPlace : ClassId) (fm_reportPlace : Nat → Int32) (km_struck : ClassId) (fm_struck : Nat → Int32) (p1 : Int32) (p2 : Int32) (gmi_0 : gi (mi 0) 0 24) (gmi_1 : gi (mi 1) 0 5) (gmi_2 : gi (mi 2) 0 5) (gmi_4 : gi (mi 4) 0 1) (gmi_7 : gi (mi 7) 0 6) (gmi_10 : gi (mi 10) 0 24) (gmi_17 : gi (mi 17) 0 8) (gmi_23 : gi (mi 23) 0 300) (gmi_24 : gi (mi 24) 0 1) (gmi_26 : gi (mi 26) 0 1600) (gmi_29 : gi (mi 29) 0 1600) (gmi_30 : gi (mi 30) 0 1600) (gmi_33 : gi (mi 33) 0 1) (gmi_37 : gi (mi 37) 0 1) (gmi_41 : gi (mi 41) 0 24) (gmi_50 : gi (mi 50) 0 1) (gmi_51 : gi (mi 51) 0 1) (gmi_56 : gi (mi 56) 0 80) (gfm_reportPlace : ga fm_reportPlace 24 0 5) (gfm_struck : ga fm_struck 24 0 1) : Met l yX12_place (.code yX12_place cX12_place 6 (some .int) :: wsGB) ({ frames := 2, cells := 0, slots := 0, locals := 46 }) (va_Pc [.ref h0, .int p1, .int p2] (fun U => va_P (dC, dI) vwCl [(h0, .inr (12, fsMM mi mr)), ((mr 0), .inl (km_trust, 6, .inl fm_trust)), ((mr 1), .inl (km_letter, 36, .inl fm_letter)), ((mr 2), .inl (km_reportPlace, 24, .inl fm_reportPlace)), ((mr 4), .inl (km_struck, 24, .inl fm_struck))] U.heap ∧ va_K (dC, dI) vwCl [(km_trust, .int), (km_letter, .int), (km_reportPlace, .int), (km_struck, .boolean)] U)) (va_Qi (fun (r : Int32) (u : Unit) => gi r (-2147483648) 2147483647) (fun _ _ => True) (fun _ => False)) 0 0 (fun _ => False) := by
  refine Met.ofW (cc := cX12_place) (maxL := 6) (ret := (some .int)) (by decide) rfl ?_
  intro p e s m args below meth c s₁ B hml hv
  obtain ⟨rfl, hP, hK⟩ := hv
  have hx := B.exec
  have hb := B.bytes
  have hr := B.returns
  have hts := atoms_spec (ws := (.code yX12_place cX12_place 6 (some .int) :: wsGB)) B.pre
  have hown : s.vm.findClass RX12 = some m.cls := findClass_of_methodNamed B.named
  have hlocks := B.notSynchronized
  have hS : va_S (fun _ => False) s.heap s.heap [] := va_S.rf
  have hl := lv_entry ([.ref h0, .int p1, .int p2]) (n := 6) (Nat.le_of_ble_eq_true rfl)
  rw [lg_entry_eq]
  generalize (lg_sl ([.ref h0, .int p1, .int p2]) ++ List.replicate (6 - (lg_sl ([.ref h0, .int p1, .int p2])).length) Slot.unset).toArray = ls at hl ⊢
  have hl : lv_has ls 6 [(0, .ref h0), (1, .int p1), (2, .int p2)] := hl
  refine lv_aload_n hx hb dX12_place_0 rfl (lv_at hl 0 rfl) ?_
  refine lv_iload_n hx hb dX12_place_1 rfl (lv_at hl 1 rfl) ?_
  have hPc := hP.sub (ws' := [(h0, .inr (12, fsMM mi mr))]) [0] rfl
  have hKc := hK.sub (tys' := []) [] rfl
  refine va_calli (va_runV (As := [.int p1]) (rest := []) ⟨hx, hb, hml, hown, hts⟩ (sX12_isPlace l dC dI h0 mi mr p1 gmi_0 gmi_1 gmi_2 gmi_4 gmi_7 gmi_10 gmi_17 gmi_23 gmi_24 gmi_26 gmi_29 gmi_30 gmi_33 gmi_37 gmi_41 gmi_50 gmi_51 gmi_56) (cwV 1 hts (gz_gV mGB_224 mGB_225 mGB_226 mGB_1 mGB_227 goodGB) rfl rfl rfl (by decide +kernel) ⟨Nat.le_of_ble_eq_true rfl, Nat.le_of_ble_eq_true rfl⟩) ⟨fun a U g mk q => by obtain ⟨q0, qP, qK⟩ := q; exact ⟨q0, qP, va_K.moved (u := U) (U := U.calling g mk a) (Vm.Alike.refl U.vm) qK⟩, va_recv hKc hPc (ci := 12) (q0 := 0) rfl rfl, fun U hU hW => ⟨rfl, by rw [hU]; exact hPc, va_K.moved hW.alike hKc⟩⟩ rfl rfl hl.1 rfl (lv_room (Nat.le_of_ble_eq_true rfl)) dX12_place_2 ⟨Nat.zero_le _, Nat.zero_le _⟩) hS (fun q _ h => h.elim) (fun q h => h.elim) (fun r_1794 u t H1 locs ht hvm hw hB hz1 hk1 hS => ?_)
  have hP := gz_keep hP hk1
  generalize H1 = H at hP hS ⊢
  have gr_1794 : gi r_1794 0 1 := hw.1
  have hqr_1794 := hw.2
  refine lv_if_eq (tgt := 20) hx hb dX12_place_5 (by decide) (fun c_1795 => ?_) (fun c_1795 => ?_)
  · have g_1796 : gi r_1794 0 0 := gi_eq c_1795 (gi_c 0 0 (by decide))
    refine lv_bipush (v := (-2)) hx hb dX12_place_20 (by decide) ?_
    exact W.iret (v := (-2)) hx hb hr (fun t ht hW => ⟨⟨(-2), (), rfl, (gi_any (-2)), trivial⟩, hS.F ht⟩) hS.2.2 dX12_place_22
  · have g_1797 : gi r_1794 1 1 := gi_ne_lo c_1795 gr_1794 (gi_c 0 0 (by decide)) (by decide)
    have g_1798 : gi p1 0 5 := gi_cap (gi_any p1) (hqr_1794 (gz_one g_1797)) (by decide)
    refine lv_iload_n hx hb dX12_place_8 rfl (lv_at hl 2 rfl) ?_
    refine lv_i2l (v := (p2).toInt64) hx hb dX12_place_9 rfl ?_
    refine lv_topl (fun l_1799 el_1799 => ?_)
    refine lv_lconst (v := 0) hx hb dX12_place_10 (by decide) ?_
    refine lv_ldc2 (own := RX12) (v := 2) hx hb hown (hts _ (List.mem_cons_of_mem _ mGB_223)) dX12_place_11 ?_
    have hPc := hP.sub (ws' := []) [] rfl
    have hKc := hK.sub (tys' := []) [] rfl
    refine va_calli (va_runS (As := [.long l_1799, .long 0, .long 2]) (rest := []) ⟨hx, hb, hml, hown, hts⟩ (sX12_in l dC dI l_1799 0 2) (cwS 3 hts (gz_gS mGB_47 mGB_48 mGB_1 mGB_49 goodGB) rfl rfl rfl (by decide +kernel) ⟨Nat.le_of_ble_eq_true rfl, Nat.le_of_ble_eq_true rfl⟩) ⟨fun a U g mk q => by obtain ⟨q0, qP, qK⟩ := q; exact ⟨q0, qP, va_K.moved (u := U) (U := U.calling g mk a) (Vm.Alike.refl U.vm) qK⟩, fun U hU hW => ⟨rfl, by rw [hU]; exact hPc, va_K.moved hW.alike hKc⟩⟩ rfl rfl hl.1 rfl (lv_room (Nat.le_of_ble_eq_true rfl)) dX12_place_14 ⟨Nat.zero_le _, Nat.zero_le _⟩) hS (fun q _ h => h.elim) (fun q h => h.elim) (fun r_1800 u t H1 locs ht hvm hw hB hz1 hk1 hS => ?_)
    have hP := gz_keep hP hk1
    generalize H1 = H at hP hS ⊢
    have gr_1800 : gi r_1800 0 1 := hw.1
    have hqr_1800 := hw.2
    refine lv_if_ne (tgt := 23) hx hb dX12_place_17 (by decide) (fun c_1801 => ?_) (fun c_1801 => ?_)
    · have g_1802 : gi r_1800 1 1 := gi_ne_lo c_1801 gr_1800 (gi_c 0 0 (by decide)) (by decide)
      have g_1803 : gi p2 0 2 := gi_cap (gi_any p2) (gz_inr (hqr_1800.1 (gz_one g_1802)) el_1799 (A := 0) (B := 2) (by decide) (by decide)) (by decide)
      refine lv_iconst (v := 0) hx hb dX12_place_23 (by decide) ?_
      refine lv_istore_n (lv' := [(3, .int 0), (0, .ref h0), (1, .int p1), (2, .int p2)]) hx hb dX12_place_24 rfl hl (by decide) rfl (fun ls hl => ?_)
      refine lv_iconst (v := 0) hx hb dX12_place_25 (by decide) ?_
      refine lv_istore (lv' := [(4, .int 0), (3, .int 0), (0, .ref h0), (1, .int p1), (2, .int p2)]) hx hb dX12_place_26 hl (by decide) rfl (fun ls hl => ?_)
      refine (lp_sX12_place h0 mi mr km_trust fm_trust km_letter fm_letter km_reportPlace fm_reportPlace km_struck fm_struck p1 p2 gmi_0 gmi_1 gmi_2 gmi_4 gmi_7 gmi_10 gmi_17 gmi_23 gmi_24 gmi_26 gmi_29 gmi_30 gmi_33 gmi_37 gmi_41 gmi_50 gmi_51 gmi_56 gfm_reportPlace gfm_struck hx hb hml hown hts hK (Nat.le_of_ble_eq_true rfl) (Nat.le_of_ble_eq_true rfl) (Nat.zero_le _) (Nat.zero_le _) (fun v H locs ls gv hP hS hl => ?_) (fun v H locs ls hP hS hl => ?_) 78).1 0 0 _ _ _ g_1798 g_1803 (gi_w (gi_c 0 0 (by decide)) (by decide)) (by have k0 : (0 : Int32).toInt = 0 := (by decide); omega) hP hS (lv_sub hl [2, 3, 4, 1, 0] rfl)
      · skip
        exact W.iret (v := v) hx hb hr (fun t ht hW => ⟨⟨v, (), rfl, (gi_any v), trivial⟩, hS.F ht⟩) hS.2.2 dX12_place_22
      · skip
        exact W.iret (v := v) hx hb hr (fun t ht hW => ⟨⟨v, (), rfl, (gi_any v), trivial⟩, hS.F ht⟩) hS.2.2 dX12_place_137
    · have g_1804 : gi r_1800 0 0 := gi_eq c_1801 (gi_c 0 0 (by decide))
      refine lv_bipush (v := (-2)) hx hb dX12_place_20 (by decide) ?_
      exact W.iret (v := (-2)) hx hb hr (fun t ht hW => ⟨⟨(-2), (), rfl, (gi_any (-2)), trivial⟩, hS.F ht⟩) hS.2.2 dX12_place_22
