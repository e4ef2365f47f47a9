theorem dX12_moves_0 : decode cX12_moves 0 = .ok (.aload_n 0, 1) := by decide +kernel
theorem dX12_moves_1 : decode cX12_moves 1 = .ok (.getfield 106, 3) := by decide +kernel
theorem dX12_moves_4 : decode cX12_moves 4 = .ok (.ifCond .eq 7, 3) := by decide +kernel
theorem dX12_moves_7 : decode cX12_moves 7 = .ok (.iload_n 1, 1) := by decide +kernel
theorem dX12_moves_8 : decode cX12_moves 8 = .ok (.goto 12, 3) := by decide +kernel
theorem dX12_moves_20 : decode cX12_moves 20 = .ok (.istore_n 2, 1) := by decide +kernel
theorem dX12_moves_21 : decode cX12_moves 21 = .ok (.aload_n 0, 1) := by decide +kernel
theorem dX12_moves_22 : decode cX12_moves 22 = .ok (.getfield 47, 3) := by decide +kernel
theorem dX12_moves_25 : decode cX12_moves 25 = .ok (.aload_n 0, 1) := by decide +kernel
theorem dX12_moves_26 : decode cX12_moves 26 = .ok (.getfield 110, 3) := by decide +kernel
theorem dX12_moves_29 : decode cX12_moves 29 = .ok (.iload_n 2, 1) := by decide +kernel
theorem dX12_moves_30 : decode cX12_moves 30 = .ok (.iastore, 1) := by decide +kernel
theorem dX12_moves_31 : decode cX12_moves 31 = .ok (.aload_n 0, 1) := by decide +kernel
theorem dX12_moves_32 : decode cX12_moves 32 = .ok (.dup, 1) := by decide +kernel
theorem dX12_moves_33 : decode cX12_moves 33 = .ok (.getfield 110, 3) := by decide +kernel
theorem dX12_moves_36 : decode cX12_moves 36 = .ok (.iconst 1, 1) := by decide +kernel
theorem dX12_moves_37 : decode cX12_moves 37 = .ok (.iadd, 1) := by decide +kernel
theorem dX12_moves_38 : decode cX12_moves 38 = .ok (.putfield 110, 3) := by decide +kernel
theorem dX12_moves_41 : decode cX12_moves 41 = .ok (.iload_n 2, 1) := by decide +kernel
theorem dX12_moves_42 : decode cX12_moves 42 = .ok (.ireturn, 1) := by decide +kernel
set_option maxHeartbeats 4000000 in
set_option maxRecDepth 100000 in
theorem fX12_moves (l : Launch) (dC : Nat → ClassId) (dI : Nat → Nat → Nat) (sz : Nat) (h0 : Nat) (r : Nat → Nat) (kf : Nat → ClassId) (a : Nat) (f : Nat → Int32) (p0 : Int32) (ha : a < 300) : Met l yX12_moves (.code yX12_moves cX12_moves 3 (some .int) :: wsGB) ({ frames := 0, cells := 0, slots := 0, locals := 0 }) (va_Pc [.ref h0, .int p0] (fun U => U.heap.size = sz ∧ va_P (dC, dI) vwCl [(h0, .inr (12, fsMk r (nI a) 1)), ((r 12), .inl ((kf 12), 300, .inl f))] U.heap ∧ va_K (dC, dI) vwCl [((kf 12), .int)] U ∧ va_D (fun _ => True) [(h0, .inr (12, fsMk r (nI a) 1)), ((r 12), .inl ((kf 12), 300, .inl f))])) (va_Qi (fun (r : Int32) (u : Unit) => r = p0) (fun _ t => ∃ (g : Nat → Int32), va_P (dC, dI) vwCl [(h0, .inr (12, fsMk r (nI (a + 1)) 1)), ((r 12), .inl ((kf 12), 300, .inl g))] t.heap ∧ va_K (dC, dI) vwCl [((kf 12), .int)] t ∧ va_D (va_A [(h0, .inr (12, fsMk r (nI a) 1)), ((r 12), .inl ((kf 12), 300, .inl f))] sz) [(h0, .inr (12, fsMk r (nI (a + 1)) 1)), ((r 12), .inl ((kf 12), 300, .inl g))]) (va_A [(h0, .inr (12, fsMk r (nI a) 1)), ((r 12), .inl ((kf 12), 300, .inl f))] sz)) 0 0 (va_A [(h0, .inr (12, fsMk r (nI a) 1)), ((r 12), .inl ((kf 12), 300, .inl f))] sz) := by
  refine Met.ofW (cc := cX12_moves) (maxL := 3) (ret := (some .int)) (by decide) rfl ?_
  intro p e s m args below meth c s₁ B hml hv
  obtain ⟨rfl, hsz, hP, hK, hD0⟩ := hv
  have hx := B.exec
  have hb := B.bytes
  have hr := B.returns
  have hts := atoms_spec (ws := (.code yX12_moves cX12_moves 3 (some .int) :: wsGB)) B.pre
  have hown : s.vm.findClass RX12 = some m.cls := findClass_of_methodNamed B.named
  have hlocks := B.notSynchronized
  subst hsz
  have hD := hD0.self (sz := s.heap.size)
  generalize hAe : va_A [(h0, .inr (12, fsMk r (nI a) 1)), ((r 12), .inl ((kf 12), 300, .inl f))] s.heap.size = A at hD ⊢
  have hA : ∀ q : Nat, s.heap.size ≤ q → A q := fun q h => by rw [← hAe]; exact Or.inr h
  have hS : va_S A s.heap s.heap [] := va_S.rf
  have hl := lv_entry ([.ref h0, .int p0]) (n := 3) (Nat.le_of_ble_eq_true rfl)
  rw [lg_entry_eq]
  generalize (lg_sl ([.ref h0, .int p0]) ++ List.replicate (3 - (lg_sl ([.ref h0, .int p0])).length) Slot.unset).toArray = ls at hl ⊢
  have hl : lv_has ls 3 [(0, .ref h0), (1, .int p0)] := hl
  refine lv_aload_n hx hb dX12_moves_0 rfl (lv_at hl 0 rfl) ?_
  refine va_get (D := (dC, dI)) (ci := 12) (v := .int 1) (C := RX12) (T := TX12) (N := 57) hx hb hts (fun w h => List.mem_cons_of_mem _ (jnGB_X12 w h)) hown hK hP 0 rfl rfl 24 (by decide) (hts _ (List.mem_cons_of_mem _ mGB_67)) (fun _ h9 => h9) rfl dX12_moves_1 ?_
  refine lv_if_eq (tgt := 11) hx hb dX12_moves_4 (by decide) (fun c_1 => absurd c_1 (by decide)) (fun c_1 => ?_)
  refine lv_iload_n hx hb dX12_moves_7 rfl (lv_at hl 1 rfl) ?_
  refine lv_goto (tgt := 20) hx hb dX12_moves_8 (by decide) ?_
  refine lv_istore_n (lv' := [(2, .int p0), (0, .ref h0), (1, .int p0)]) hx hb dX12_moves_20 rfl hl (by decide) rfl (fun ls hl => ?_)
  refine lv_aload_n hx hb dX12_moves_21 rfl (lv_at hl 1 rfl) ?_
  refine va_get (D := (dC, dI)) (ci := 12) (v := .ref (r 12)) (C := RX12) (T := TX12) (N := 57) hx hb hts (fun w h => List.mem_cons_of_mem _ (jnGB_X12 w h)) hown hK hP 0 rfl rfl 22 (by decide) (hts _ (List.mem_cons_of_mem _ mGB_51)) (fun _ h9 => h9) rfl dX12_moves_22 ?_
  refine lv_aload_n hx hb dX12_moves_25 rfl (lv_at hl 1 rfl) ?_
  refine va_get (D := (dC, dI)) (ci := 12) (v := .int (nI a)) (C := RX12) (T := TX12) (N := 57) hx hb hts (fun w h => List.mem_cons_of_mem _ (jnGB_X12 w h)) hown hK hP 0 rfl rfl 23 (by decide) (hts _ (List.mem_cons_of_mem _ mGB_68)) (fun _ h9 => h9) rfl dX12_moves_26 ?_
  refine lv_iload_n hx hb dX12_moves_29 rfl (lv_at hl 0 rfl) ?_
  refine va_iast hx hb hK hP hD hS 1 0 rfl rfl (vp_in_nI ha (by decide)) dX12_moves_30 (fun H locs hP hD hS => ?_)
  have hP : va_P (dC, dI) vwCl [(h0, .inr (12, fsMk r (nI a) 1)), ((r 12), .inl ((kf 12), 300, .inl (upd f (nI a : Int32).toNatClampNeg p0)))] H := hP
  have hD : va_D A [(h0, .inr (12, fsMk r (nI a) 1)), ((r 12), .inl ((kf 12), 300, .inl (upd f (nI a : Int32).toNatClampNeg p0)))] := hD
  generalize upd f (nI a : Int32).toNatClampNeg p0 = f_2 at hP hD
  refine lv_aload_n hx hb dX12_moves_31 rfl (lv_at hl 1 rfl) ?_
  refine lv_dup hx hb dX12_moves_32 rfl ?_
  refine va_get (D := (dC, dI)) (ci := 12) (v := .int (nI a)) (C := RX12) (T := TX12) (N := 57) hx hb hts (fun w h => List.mem_cons_of_mem _ (jnGB_X12 w h)) hown hK hP 0 rfl rfl 23 (by decide) (hts _ (List.mem_cons_of_mem _ mGB_68)) (fun _ h9 => h9) rfl dX12_moves_33 ?_
  refine lv_iconst (v := 1) hx hb dX12_moves_36 (by decide) ?_
  refine lv_iadd hx hb dX12_moves_37 ?_
  refine gz_topi (y := nI (a + 1)) (nI_1 a) ?_
  refine va_put (D := (dC, dI)) (ci := 12) (v := .int (nI (a + 1))) (ty := .int) (C := RX12) (T := TX12) (N := 57) hx hb hts (fun w h => List.mem_cons_of_mem _ (jnGB_X12 w h)) tyX12 tyX12_ok nmX12 hown hK hP hD hS 0 rfl rfl 23 (by decide) (hts _ (List.mem_cons_of_mem _ mGB_68)) (fun _ h9 => h9) rfl (by decide +kernel) rfl rfl (Nat.le_of_ble_eq_true rfl) dX12_moves_38 (fun H locs hP hD hS => ?_)
  have hP : va_P (dC, dI) vwCl [(h0, .inr (12, [.int 0, .int 0, .int 0, .int 0, .int 0, .int 0, .int 0, .int 0, .ref (r 0), .ref (r 1), .int 0, .ref (r 2), .ref (r 3), .ref (r 4), .ref (r 5), .ref (r 6), .ref (r 7), .int 0, .ref (r 8), .ref (r 9), .ref (r 10), .ref (r 11), .ref (r 12), .int (nI (a + 1)), .int 1, .ref (r 13), .int 0, .int 0, .int (-1), .int 0, .int 0, .int 0, .int 0, .int 0, .ref (r 14), .ref (r 15), .ref (r 16), .int 0, .ref (r 17), .ref (r 18), .ref (r 19), .int 0, .int (-1), .int (-1), .int (-1), .int (-1), .ref (r 20), .int 0, .int 0, .int 0, .int 0, .int 0, .ref (r 21), .ref (r 22), .int 0, .ref (r 23), .int 0])), ((r 12), .inl ((kf 12), 300, .inl f_2))] H := hP
  have hD : va_D A [(h0, .inr (12, [.int 0, .int 0, .int 0, .int 0, .int 0, .int 0, .int 0, .int 0, .ref (r 0), .ref (r 1), .int 0, .ref (r 2), .ref (r 3), .ref (r 4), .ref (r 5), .ref (r 6), .ref (r 7), .int 0, .ref (r 8), .ref (r 9), .ref (r 10), .ref (r 11), .ref (r 12), .int (nI (a + 1)), .int 1, .ref (r 13), .int 0, .int 0, .int (-1), .int 0, .int 0, .int 0, .int 0, .int 0, .ref (r 14), .ref (r 15), .ref (r 16), .int 0, .ref (r 17), .ref (r 18), .ref (r 19), .int 0, .int (-1), .int (-1), .int (-1), .int (-1), .ref (r 20), .int 0, .int 0, .int 0, .int 0, .int 0, .ref (r 21), .ref (r 22), .int 0, .ref (r 23), .int 0])), ((r 12), .inl ((kf 12), 300, .inl f_2))] := hD
  refine lv_iload_n hx hb dX12_moves_41 rfl (lv_at hl 0 rfl) ?_
  have hP9 := hP.sub (ws' := [(h0, .inr (12, [.int 0, .int 0, .int 0, .int 0, .int 0, .int 0, .int 0, .int 0, .ref (r 0), .ref (r 1), .int 0, .ref (r 2), .ref (r 3), .ref (r 4), .ref (r 5), .ref (r 6), .ref (r 7), .int 0, .ref (r 8), .ref (r 9), .ref (r 10), .ref (r 11), .ref (r 12), .int (nI (a + 1)), .int 1, .ref (r 13), .int 0, .int 0, .int (-1), .int 0, .int 0, .int 0, .int 0, .int 0, .ref (r 14), .ref (r 15), .ref (r 16), .int 0, .ref (r 17), .ref (r 18), .ref (r 19), .int 0, .int (-1), .int (-1), .int (-1), .int (-1), .ref (r 20), .int 0, .int 0, .int 0, .int 0, .int 0, .ref (r 21), .ref (r 22), .int 0, .ref (r 23), .int 0])), ((r 12), .inl ((kf 12), 300, .inl f_2))]) [0, 1] rfl
  have hD9 := hD.sub (ws' := [(h0, .inr (12, [.int 0, .int 0, .int 0, .int 0, .int 0, .int 0, .int 0, .int 0, .ref (r 0), .ref (r 1), .int 0, .ref (r 2), .ref (r 3), .ref (r 4), .ref (r 5), .ref (r 6), .ref (r 7), .int 0, .ref (r 8), .ref (r 9), .ref (r 10), .ref (r 11), .ref (r 12), .int (nI (a + 1)), .int 1, .ref (r 13), .int 0, .int 0, .int (-1), .int 0, .int 0, .int 0, .int 0, .int 0, .ref (r 14), .ref (r 15), .ref (r 16), .int 0, .ref (r 17), .ref (r 18), .ref (r 19), .int 0, .int (-1), .int (-1), .int (-1), .int (-1), .ref (r 20), .int 0, .int 0, .int 0, .int 0, .int 0, .ref (r 21), .ref (r 22), .int 0, .ref (r 23), .int 0])), ((r 12), .inl ((kf 12), 300, .inl f_2))]) [0, 1] (by decide) rfl
  have hK9 := hK.sub (tys' := [((kf 12), .int)]) [0] rfl
  refine W.widen (k := 0) (n := 0) (Nat.le_of_ble_eq_true rfl) (Nat.le_of_ble_eq_true rfl) ?_
  exact W.iret (v := p0) hx hb hr (fun t ht hW => ⟨⟨p0, (), rfl, rfl, f_2, by rw [ht]; exact hP9, va_K.moved hW.alike hK9, hD9⟩, hS.F ht⟩) hS.2.2 dX12_moves_42
theorem dX12_movesRow_0 : decode cX12_movesRow 0 = .ok (.iconst 0, 1) := by decide +kernel
theorem dX12_movesRow_1 : decode cX12_movesRow 1 = .ok (.istore_n 2, 1) := by decide +kernel
theorem dX12_movesRow_2 : decode cX12_movesRow 2 = .ok (.iload_n 2, 1) := by decide +kernel
theorem dX12_movesRow_3 : decode cX12_movesRow 3 = .ok (.aload_n 1, 1) := by decide +kernel
theorem dX12_movesRow_4 : decode cX12_movesRow 4 = .ok (.arraylength, 1) := by decide +kernel
theorem dX12_movesRow_5 : decode cX12_movesRow 5 = .ok (.if_icmp .ge 19, 3) := by decide +kernel
theorem dX12_movesRow_8 : decode cX12_movesRow 8 = .ok (.aload_n 1, 1) := by decide +kernel
theorem dX12_movesRow_9 : decode cX12_movesRow 9 = .ok (.iload_n 2, 1) := by decide +kernel
theorem dX12_movesRow_10 : decode cX12_movesRow 10 = .ok (.aload_n 0, 1) := by decide +kernel
theorem dX12_movesRow_11 : decode cX12_movesRow 11 = .ok (.aload_n 1, 1) := by decide +kernel
theorem dX12_movesRow_12 : decode cX12_movesRow 12 = .ok (.iload_n 2, 1) := by decide +kernel
theorem dX12_movesRow_13 : decode cX12_movesRow 13 = .ok (.iaload, 1) := by decide +kernel
theorem dX12_movesRow_14 : decode cX12_movesRow 14 = .ok (.invokevirtual 113, 3) := by decide +kernel
theorem dX12_movesRow_17 : decode cX12_movesRow 17 = .ok (.iastore, 1) := by decide +kernel
theorem dX12_movesRow_18 : decode cX12_movesRow 18 = .ok (.iinc 2 1, 3) := by decide +kernel
theorem dX12_movesRow_21 : decode cX12_movesRow 21 = .ok (.goto (-19), 3) := by decide +kernel
theorem dX12_movesRow_24 : decode cX12_movesRow 24 = .ok (.return_, 1) := by decide +kernel
set_option maxHeartbeats 4000000 in
set_option maxRecDepth 100000 in
theorem lpX12_movesRow {p : Program} {l : Launch} {e : Env} {R : Room} {s : State} {m : MethodId} {args : Array Value} {below : List Frame} {meth : Method} {c : Code} {Q : State → Prop} {A : Nat → Prop} {cells slots : Nat} {dC : Nat → ClassId} {dI : Nat → Nat → Nat} {h0 q n a : Nat} {r : Nat → Nat} {kf : Nat → ClassId} {k2 : ClassId} (hx : p.tables.exec = Jvm.exec) (hb : c.code = cX12_movesRow) (hml : c.maxLocals = 3) (hown : s.vm.findClass RX12 = some m.cls) (hts : ∀ w ∈ ((.code yX12_movesRow cX12_movesRow 3 none :: wsGB) : List Cond), w.before args s = true) (hA : ∀ q : Nat, s.heap.size ≤ q → A q) (hRf : 1 ≤ R.frames) (hRl : 22 ≤ R.locals) (hRc : cells ≤ R.cells) (hRs : slots ≤ R.slots) (han : a + n ≤ 300) (kk : ∀ (f g : Nat → Int32) (H : Heap) (locs : List Loc) (ls : Array Slot), va_K (dC, dI) vwCl [((kf 12), .int), (k2, .int)] s → va_P (dC, dI) vwCl [(h0, .inr (12, fsMk r (nI (a + n)) 1)), ((r 12), .inl ((kf 12), 300, .inl f)), (q, .inl (k2, n, .inl g))] H → va_D A [(h0, .inr (12, fsMk r (nI (a + n)) 1)), ((r 12), .inl ((kf 12), 300, .inl f)), (q, .inl (k2, n, .inl g))] → va_S A s.heap H locs → lv_has ls 3 [(0, .ref h0), (1, .ref q), (2, .int (nI n))] → W p l e R s m args below meth c H locs cells slots Q (F0 m 24 ls [])) : ∀ (z k : Nat) (f g : Nat → Int32), k ≤ n → n < k + z → ∀ (H : Heap) (locs : List Loc) (ls : Array Slot), va_K (dC, dI) vwCl [((kf 12), .int), (k2, .int)] s → va_P (dC, dI) vwCl [(h0, .inr (12, fsMk r (nI (a + k)) 1)), ((r 12), .inl ((kf 12), 300, .inl f)), (q, .inl (k2, n, .inl g))] H → va_D A [(h0, .inr (12, fsMk r (nI (a + k)) 1)), ((r 12), .inl ((kf 12), 300, .inl f)), (q, .inl (k2, n, .inl g))] → va_S A s.heap H locs → lv_has ls 3 [(0, .ref h0), (1, .ref q), (2, .int (nI k))] → W p l e R s m args below meth c H locs cells slots Q (F0 m 2 ls []) := by
  intro z
  induction z with
  | zero =>
    intro k f g h1 h2
    exact absurd h2 (by omega)
  | succ z ih =>
    intro k f g hk hz H locs ls hK hP hD hS hl
    refine lv_iload_n hx hb dX12_movesRow_2 rfl (lv_at hl 2 rfl) ?_
    refine lv_aload_n hx hb dX12_movesRow_3 rfl (lv_at hl 1 rfl) ?_
    refine va_alen (v := nI n) hx hb hK hP 2 1 rfl rfl rfl dX12_movesRow_4 ?_
    refine lv_icmp_ge (tgt := 24) hx hb dX12_movesRow_5 (by decide) (fun c_1 => ?_) (fun c_1 => ?_)
    · have hkn : k = n := Nat.le_antisymm hk ((nI_leI (by omega) (by omega)).mp c_1)
      subst hkn
      exact kk f g _ _ _ hK hP hD hS hl
    · have hkn : k < n := Nat.lt_of_not_le (fun q => c_1 (nI_le q (by omega)))
      refine lv_aload_n hx hb dX12_movesRow_8 rfl (lv_at hl 1 rfl) ?_
      refine lv_iload_n hx hb dX12_movesRow_9 rfl (lv_at hl 2 rfl) ?_
      refine lv_aload_n hx hb dX12_movesRow_10 rfl (lv_at hl 0 rfl) ?_
      refine lv_aload_n hx hb dX12_movesRow_11 rfl (lv_at hl 1 rfl) ?_
      refine lv_iload_n hx hb dX12_movesRow_12 rfl (lv_at hl 2 rfl) ?_
      refine va_iald hx hb hK hP 2 1 rfl rfl (vp_in_nI hkn (by omega)) dX12_movesRow_13 ?_
      refine lv_topi (fun x_2 ex_2 => ?_)
      have hPc := hP.sub (ws' := [(h0, .inr (12, fsMk r (nI (a + k)) 1)), ((r 12), .inl ((kf 12), 300, .inl f))]) [0, 1] rfl
      have hDc := hD.sub (ws' := [(h0, .inr (12, fsMk r (nI (a + k)) 1)), ((r 12), .inl ((kf 12), 300, .inl f))]) [0, 1] (by decide) rfl
      have hKc := hK.sub (tys' := [((kf 12), .int)]) [0] rfl
      have hFc := va_free (wc := [(h0, .inr (12, fsMk r (nI (a + k)) 1)), ((r 12), .inl ((kf 12), 300, .inl f))]) hD hS hA [0, 1] rfl
      refine va_calli (va_runV (As := [.int x_2]) (rest := [.int (nI k), .ref q]) ⟨hx, hb, hml, hown, hts⟩ (fX12_moves l dC dI H.size h0 r kf (a + k) f x_2 (by omega)) (cwV 1 hts (gz_gV mGB_70 mGB_71 mGB_72 mGB_5 mGB_69 goodGB) rfl rfl rfl (by decide +kernel) ⟨Nat.le_trans (Nat.le_of_ble_eq_true rfl) hRf, Nat.le_trans (Nat.le_of_ble_eq_true rfl) hRl⟩) ⟨fun a U g mk q => by obtain ⟨q0, q1, qP, qK, qD⟩ := q; exact ⟨q0, q1, qP, va_K.moved (u := U) (U := U.calling g mk a) (Vm.Alike.refl U.vm) qK, qD⟩, va_recv hKc hPc (ci := 12) (q0 := 0) rfl rfl, fun U hU hW => ⟨rfl, by rw [hU], by rw [hU]; exact hPc, va_K.moved hW.alike hKc, hDc.weaken (fun _ _ _ _ => trivial)⟩⟩ rfl rfl hl.1 rfl (lv_room (Nat.le_of_ble_eq_true rfl)) dX12_movesRow_14 ⟨hRc, hRs⟩) hS (fun q _ h => hFc q h) hFc (fun r_4 u t H1 locs ht hvm hw hB hz1 hk1 hS => ?_)
      obtain ⟨f_3, hP1, hK1, hD1⟩ := hB
      rw [ht] at hP1
      have hK1 := va_K.moved hvm.symm hK1
      obtain ⟨hP, hD⟩ := va_join (wr := [(q, .inl (k2, n, .inl g))]) (w1 := [(h0, .inr (12, fsMk r (nI (a + k + 1)) 1)), ((r 12), .inl ((kf 12), 300, .inl f_3))]) hP hD [0, 1] [2] rfl rfl (by decide) (by decide) hk1 hFc hP1 hD1
      generalize H1 = H at hP hS ⊢
      have hP : va_P (dC, dI) vwCl [(q, .inl (k2, n, .inl g)), (h0, .inr (12, fsMk r (nI (a + k + 1)) 1)), ((r 12), .inl ((kf 12), 300, .inl f_3))] H := hP
      have hD : va_D A [(q, .inl (k2, n, .inl g)), (h0, .inr (12, fsMk r (nI (a + k + 1)) 1)), ((r 12), .inl ((kf 12), 300, .inl f_3))] := hD
      have hP : va_P (dC, dI) vwCl [(q, .inl (k2, n, .inl g)), (h0, .inr (12, fsMk r (nI (a + k + 1)) 1)), ((r 12), .inl ((kf 12), 300, .inl f_3))] H := hP
      have hD : va_D A [(q, .inl (k2, n, .inl g)), (h0, .inr (12, fsMk r (nI (a + k + 1)) 1)), ((r 12), .inl ((kf 12), 300, .inl f_3))] := hD
      refine va_iast hx hb hK hP hD hS 0 1 rfl rfl (vp_in_nI hkn (by omega)) dX12_movesRow_17 (fun H locs hP hD hS => ?_)
      have hP : va_P (dC, dI) vwCl [(q, .inl (k2, n, .inl (upd g (nI k : Int32).toNatClampNeg r_4))), (h0, .inr (12, fsMk r (nI (a + k + 1)) 1)), ((r 12), .inl ((kf 12), 300, .inl f_3))] H := hP
      have hD : va_D A [(q, .inl (k2, n, .inl (upd g (nI k : Int32).toNatClampNeg r_4))), (h0, .inr (12, fsMk r (nI (a + k + 1)) 1)), ((r 12), .inl ((kf 12), 300, .inl f_3))] := hD
      generalize upd g (nI k : Int32).toNatClampNeg r_4 = f_5 at hP hD
      refine lv_iinc (v := nI (k + 1)) (lv' := [(2, .int (nI (k + 1))), (0, .ref h0), (1, .ref q)]) hx hb dX12_movesRow_18 hl (k := 2) rfl (nI_1 k) (by decide) rfl (fun ls hl => ?_)
      refine lv_goto (tgt := 2) hx hb dX12_movesRow_21 (by decide) ?_
      exact ih (k + 1) f_3 f_5 (by omega) (by omega) _ _ _ hK (hP.sub [1, 2, 0] rfl) (hD.sub [1, 2, 0] (by decide) rfl) hS (lv_sub hl [1, 2, 0] rfl)
set_option maxHeartbeats 4000000 in
set_option maxRecDepth 100000 in
theorem fX12_movesRow (l : Launch) (dC : Nat → ClassId) (dI : Nat → Nat → Nat) (sz : Nat) (h0 : Nat) (r : Nat → Nat) (kf : Nat → ClassId) (q : Nat) (k2 : ClassId) (n : Nat) (a : Nat) (f : Nat → Int32) (g : Nat → Int32) (han : a + n ≤ 300) : Met l yX12_movesRow (.code yX12_movesRow cX12_movesRow 3 none :: wsGB) ({ frames := 1, cells := 0, slots := 0, locals := 22 }) (va_Pc [.ref h0, .ref q] (fun U => U.heap.size = sz ∧ va_P (dC, dI) vwCl [(h0, .inr (12, fsMk r (nI a) 1)), ((r 12), .inl ((kf 12), 300, .inl f)), (q, .inl (k2, n, .inl g))] U.heap ∧ va_K (dC, dI) vwCl [((kf 12), .int), (k2, .int)] U ∧ va_D (fun _ => True) [(h0, .inr (12, fsMk r (nI a) 1)), ((r 12), .inl ((kf 12), 300, .inl f)), (q, .inl (k2, n, .inl g))])) (va_Qv (fun (u : Unit) => True) (fun _ t => ∃ (f9 : Nat → Int32) (g9 : Nat → Int32), va_P (dC, dI) vwCl [(h0, .inr (12, fsMk r (nI (a + n)) 1)), ((r 12), .inl ((kf 12), 300, .inl f9)), (q, .inl (k2, n, .inl g9))] t.heap ∧ va_K (dC, dI) vwCl [((kf 12), .int), (k2, .int)] t ∧ va_D (va_A [(h0, .inr (12, fsMk r (nI a) 1)), ((r 12), .inl ((kf 12), 300, .inl f)), (q, .inl (k2, n, .inl g))] sz) [(h0, .inr (12, fsMk r (nI (a + n)) 1)), ((r 12), .inl ((kf 12), 300, .inl f9)), (q, .inl (k2, n, .inl g9))]) (va_A [(h0, .inr (12, fsMk r (nI a) 1)), ((r 12), .inl ((kf 12), 300, .inl f)), (q, .inl (k2, n, .inl g))] sz)) 0 0 (va_A [(h0, .inr (12, fsMk r (nI a) 1)), ((r 12), .inl ((kf 12), 300, .inl f)), (q, .inl (k2, n, .inl g))] sz) := by
  refine Met.ofW (cc := cX12_movesRow) (maxL := 3) (ret := none) (by decide) rfl ?_
  intro p e s m args below meth c s₁ B hml hv
  obtain ⟨rfl, hsz, hP, hK, hD0⟩ := hv
  have hx := B.exec
  have hb := B.bytes
  have hr := B.returns
  have hts := atoms_spec (ws := (.code yX12_movesRow cX12_movesRow 3 none :: wsGB)) B.pre
  have hown : s.vm.findClass RX12 = some m.cls := findClass_of_methodNamed B.named
  have hlocks := B.notSynchronized
  subst hsz
  have hD := hD0.self (sz := s.heap.size)
  generalize hAe : va_A [(h0, .inr (12, fsMk r (nI a) 1)), ((r 12), .inl ((kf 12), 300, .inl f)), (q, .inl (k2, n, .inl g))] s.heap.size = A at hD ⊢
  have hA : ∀ q : Nat, s.heap.size ≤ q → A q := fun q h => by rw [← hAe]; exact Or.inr h
  have hS : va_S A s.heap s.heap [] := va_S.rf
  have hl := lv_entry ([.ref h0, .ref q]) (n := 3) (Nat.le_of_ble_eq_true rfl)
  rw [lg_entry_eq]
  generalize (lg_sl ([.ref h0, .ref q]) ++ List.replicate (3 - (lg_sl ([.ref h0, .ref q])).length) Slot.unset).toArray = ls at hl ⊢
  have hl : lv_has ls 3 [(0, .ref h0), (1, .ref q)] := hl
  refine lv_iconst (v := 0) hx hb dX12_movesRow_0 (by decide) ?_
  refine lv_istore_n (lv' := [(2, .int 0), (0, .ref h0), (1, .ref q)]) hx hb dX12_movesRow_1 rfl hl (by decide) rfl (fun ls hl => ?_)
  refine lpX12_movesRow (h0 := h0) (q := q) (n := n) (a := a) (r := r) (kf := kf) (k2 := k2) hx hb hml hown hts hA (Nat.le_of_ble_eq_true rfl) (Nat.le_of_ble_eq_true rfl) (Nat.zero_le _) (Nat.zero_le _) han (fun f9 g9 H locs ls hK hP hD hS hl => ?_) (n + 1) 0 f g (Nat.zero_le n) (by omega) _ _ _ hK hP hD hS (lv_sub hl [1, 2, 0] rfl)
  have hP9 := hP.sub (ws' := [(h0, .inr (12, fsMk r (nI (a + n)) 1)), ((r 12), .inl ((kf 12), 300, .inl f9)), (q, .inl (k2, n, .inl g9))]) [0, 1, 2] rfl
  have hD9 := hD.sub (ws' := [(h0, .inr (12, fsMk r (nI (a + n)) 1)), ((r 12), .inl ((kf 12), 300, .inl f9)), (q, .inl (k2, n, .inl g9))]) [0, 1, 2] (by decide) rfl
  have hK9 := hK.sub (tys' := [((kf 12), .int), (k2, .int)]) [0, 1] rfl
  exact W.vret hx hb hr (fun t ht hW => ⟨⟨(), rfl, trivial, f9, g9, by rw [ht]; exact hP9, va_K.moved hW.alike hK9, hD9⟩, hS.F ht⟩) hS.2.2 dX12_movesRow_24
