/-! THE CLAIM OUT OF ONE WALK OF THE LAW'S BODY. Your part is whole_start (and what it stands on); all else here is the same for every law, but numbers. -/
def R_law : String := "SightedMonthsLaw"
def lw_P (b : Addr) (xs : List Int32) (args : Array Value) (s : State) : Prop := args = #[.ref b] ∧ s.IntsAt b xs ∧ xs.length ≤ 3072 ∧ (Jvm.Cond.and given_1 narrow_1).before args s = true
def lw_Q (_ : Array Value) (s : State) (o : Outcome) (t : State) : Prop := o = .returned (some (.int 1)) ∧ Framed s o t [] 600000 7302250
def lw_Z (below : List Frame) (a : Array Value) (s : State) : State → Prop := fun t => ∃ o, t.status = .running ∧ Ended t below o ∧ lw_Q a s o t
/-- the law's own end, with 1 on the stack, nothing written that was there before, its room as the claim has it -/
theorem lw_ret {p : Program} {l : Launch} {e : Env} {s : State} {m : MethodId} {below : List Frame} {meth : Method} {c : Code} {b : Nat} (hx : p.tables.exec = Jvm.exec) (hb : c.code = code) (hr : meth.sig.returnType = ret) (hlocks : meth.locks = false) {pc : Nat} {H : Heap} {ls : Array Slot} (hdg : decode code pc = .ok (.ireturn, 1)) : W p l e room_1 s m #[Value.ref b] below meth c H [] 600000 7302250 (lw_Z below #[Value.ref b] s) (F0 m pc ls [.int 1]) := by
  intro T hT X
  obtain ⟨fs, hret, hrun, hended, hW, hframe⟩ := X.leave (v := some (.int 1)) (hlocks := hlocks) (fun h => by rw [hr] at h; cases h)
  have hmeth' : T.vm.method? m = some meth := X.method'
  refine ⟨T.setFrames fs, ?_, .returned (some (.int 1)), hrun, hended, rfl, ⟨_, rfl⟩, hW, hframe⟩
  jvm_step X.here [X.here.top, hx, hb, hdg, hmeth', hr, ret, narrow_b1]
  (try refine ⟨rfl, ?_⟩); (try refine ⟨rfl, ?_⟩)
  first | (intro acts; rw [hret _ acts rfl rfl rfl]) | rw [hret _ _ rfl rfl rfl]
  exact Steps.refl _
/-- what holds at the law's entry: the machine, the code, the tables' words (any of lw_tbl by 'hts w (by decide +kernel)'), the script of L ints xs at the cell b, what the Statement gives of the start (any of its parts by flat_of_before) -/
def lw_At (p : Program) (s : State) (m : MethodId) (meth : Method) (c : Code) (b L : Nat) (xs : Nat → Int32) : Prop :=
  p.tables.exec = Jvm.exec ∧ c.code = code ∧ meth.sig.returnType = ret ∧ c.maxLocals = 4 ∧ s.vm.findClass R_law = some m.cls ∧ (∀ w ∈ lw_tbl, w.before #[Value.ref b] s = true) ∧ va_X b L xs s s.heap ∧ b < s.heap.size ∧ meth.locks = false ∧ (Jvm.Cond.and given_1 narrow_1).before #[Value.ref b] s = true
def LInv (dC : Nat → ClassId) (dI : Nat → Nat → Nat) (s : State) (x0 hm : Nat) (H : Heap) : Prop := ∃ (ax : Nat → Nat) (kx : Nat → ClassId) (vx : Nat → Int32) (fx : Nat → Nat → Int32) (gx : Nat → Nat → Int64) (rx : Nat → Nat → Nat) (mi : Nat → Int32) (mr : Nat → Nat) (km : Nat → ClassId) (fm : Nat → Nat → Int32), ax 0 = x0 ∧ va_K (dC, dI) vwCl (XT kx ++ MT km) s ∧ XI vx fx ∧ MI mi fm ∧ REL vx fx gx mi fm ∧ va_P (dC, dI) vwCl (XW ax kx vx fx gx rx ++ MW hm mi mr km fm) H ∧ va_D (fun q : Nat => s.heap.size ≤ q) (XW ax kx vx fx gx rx ++ MW hm mi mr km fm)
theorem xw_recv {s : State} {H : Heap} {dC : Nat → ClassId} {dI : Nat → Nat → Nat} {tys : List (ClassId × FieldType)} {ax : Nat → Nat} {kx : Nat → ClassId} {vx : Nat → Int32} {fx : Nat → Nat → Int32} {gx : Nat → Nat → Int64} {rx : Nat → Nat → Nat} (hK : va_K (dC, dI) vwCl tys s) (hP : va_P (dC, dI) vwCl (XW ax kx vx fx gx rx) H) : ∃ cell : Cell, H[ax 0]? = some cell ∧ cell.vm.isStatics = false ∧ s.vm.findClass RX11 = some cell.cls := va_recv hK hP (ci := 11) (q0 := 0) rfl rfl
theorem mw2_recv {s : State} {H : Heap} {dC : Nat → ClassId} {dI : Nat → Nat → Nat} {tys : List (ClassId × FieldType)} {hm : Nat} {mi : Nat → Int32} {mr : Nat → Nat} {km : Nat → ClassId} {fm : Nat → Nat → Int32} (hK : va_K (dC, dI) vwCl tys s) (hP : va_P (dC, dI) vwCl (MW hm mi mr km fm) H) : ∃ cell : Cell, H[hm]? = some cell ∧ cell.vm.isStatics = false ∧ s.vm.findClass RX12 = some cell.cls := va_recv hK hP (ci := 12) (q0 := 0) rfl rfl
theorem gz_KL {D : va_G} {cl : List vw_C} {t1 t2 : List (ClassId × FieldType)} {U : State} (h : va_K D cl (t1 ++ t2) U) : va_K D cl t1 U := ⟨h.1, fun k q hk => h.2 k q (by rw [List.getElem?_append_left (List.getElem?_eq_some_iff.mp hk).1]; exact hk)⟩
theorem gz_KR {D : va_G} {cl : List vw_C} {t1 t2 : List (ClassId × FieldType)} {U : State} (h : va_K D cl (t1 ++ t2) U) : va_K D cl t2 U := ⟨h.1, fun k q hk => h.2 (t1.length + k) q (by rw [List.getElem?_append_right (by omega), Nat.add_sub_cancel_left]; exact hk)⟩
theorem gz_PL {D : va_G} {cl : List vw_C} {X M : va_W} {H : Heap} (h : va_P D cl (X ++ M) H) : va_P D cl X H := fun k q hk => h k q (by rw [List.getElem?_append_left (List.getElem?_eq_some_iff.mp hk).1]; exact hk)
theorem gz_PR {D : va_G} {cl : List vw_C} {X M : va_W} {H : Heap} (h : va_P D cl (X ++ M) H) : va_P D cl M H := fun k q hk => h (X.length + k) q (by rw [List.getElem?_append_right (by omega), Nat.add_sub_cancel_left]; exact hk)
theorem gz_DL {A : Nat → Prop} {X M : va_W} (h : va_D A (X ++ M)) : va_D A X := ⟨fun i j p q hi hj e => h.1 i j p q (by rw [List.getElem?_append_left (List.getElem?_eq_some_iff.mp hi).1]; exact hi) (by rw [List.getElem?_append_left (List.getElem?_eq_some_iff.mp hj).1]; exact hj) e, fun k q hk => h.2 k q (by rw [List.getElem?_append_left (List.getElem?_eq_some_iff.mp hk).1]; exact hk)⟩
theorem gz_DR {A : Nat → Prop} {X M : va_W} (h : va_D A (X ++ M)) : va_D A M := ⟨fun i j p q hi hj e => by
    have h1 := h.1 (X.length + i) (X.length + j) p q (by rw [List.getElem?_append_right (by omega), Nat.add_sub_cancel_left]; exact hi) (by rw [List.getElem?_append_right (by omega), Nat.add_sub_cancel_left]; exact hj) e
    omega, fun k q hk => h.2 (X.length + k) q (by rw [List.getElem?_append_right (by omega), Nat.add_sub_cancel_left]; exact hk)⟩
theorem gz_apLR {A : Nat → Prop} {X M : va_W} (h : va_D A (X ++ M)) {i j : Nat} {p q : Nat × va_E} (hi : X[i]? = some p) (hj : M[j]? = some q) : p.1 ≠ q.1 := by
  intro e
  have h1 := h.1 i (X.length + j) p q (by rw [List.getElem?_append_left (List.getElem?_eq_some_iff.mp hi).1]; exact hi) (by rw [List.getElem?_append_right (by omega), Nat.add_sub_cancel_left]; exact hj) e
  have h2 := (List.getElem?_eq_some_iff.mp hi).1
  omega
theorem gz_freeA {A : Nat → Prop} {X : va_W} {H0 H : Heap} {locs : List Loc} (hD : va_D A X) (hS : va_S A H0 H locs) (hA : ∀ q, H0.size ≤ q → A q) : ∀ q, va_A X H.size q → A q := by
  rintro q (⟨k, e, h⟩ | h)
  · exact hD.2 k (q, e) h
  · exact hA q (Nat.le_trans hS.1 h)
theorem gz_joinL {A : Nat → Prop} {D : va_G} {cl : List vw_C} {X X2 M : va_W} {H H1 : Heap} (hP : va_P D cl (X ++ M) H) (hD : va_D A (X ++ M)) (hk : ∀ q : Nat, q < H.size → ¬ va_A X H.size q → H1[q]? = H[q]?) (hF : ∀ q, va_A X H.size q → A q) (hP1 : va_P D cl X2 H1) (hD1 : va_D (va_A X H.size) X2) : va_P D cl (X2 ++ M) H1 ∧ va_D A (X2 ++ M) := by
  have out : ∀ (k : Nat) (q : Nat × va_E), M[k]? = some q → q.1 < H.size ∧ ¬ va_A X H.size q.1 := by
    intro k q hq
    have hl := (gz_PR hP k q hq).lt
    refine ⟨hl, ?_⟩
    rintro (⟨j, e, h⟩ | h)
    · exact gz_apLR hD h hq rfl
    · omega
  refine ⟨va_P.app hP1 (fun k q hq => ?_), va_D.app (hD1.weaken (fun k q _ h => hF q.1 h)) (gz_DR hD) (fun i j x y hx hy hxy => ?_)⟩
  · obtain ⟨g1, g2⟩ := out k q hq
    exact (gz_PR hP k q hq).kept (hk q.1 g1 g2)
  · exact (out j y hy).2 (by rw [← hxy]; exact hD1.2 i x hx)
theorem gz_joinR {A : Nat → Prop} {D : va_G} {cl : List vw_C} {X M M2 : va_W} {H H1 : Heap} (hP : va_P D cl (X ++ M) H) (hD : va_D A (X ++ M)) (hk : ∀ q : Nat, q < H.size → ¬ va_A M H.size q → H1[q]? = H[q]?) (hF : ∀ q, va_A M H.size q → A q) (hP1 : va_P D cl M2 H1) (hD1 : va_D (va_A M H.size) M2) : va_P D cl (X ++ M2) H1 ∧ va_D A (X ++ M2) := by
  have out : ∀ (k : Nat) (q : Nat × va_E), X[k]? = some q → q.1 < H.size ∧ ¬ va_A M H.size q.1 := by
    intro k q hq
    have hl := (gz_PL hP k q hq).lt
    refine ⟨hl, ?_⟩
    rintro (⟨j, e, h⟩ | h)
    · exact gz_apLR hD hq h rfl
    · omega
  refine ⟨va_P.app (fun k q hq => ?_) hP1, va_D.app (gz_DL hD) (hD1.weaken (fun k q _ h => hF q.1 h)) (fun i j x y hx hy hxy => ?_)⟩
  · obtain ⟨g1, g2⟩ := out k q hq
    exact (gz_PL hP k q hq).kept (hk q.1 g1 g2)
  · exact (out i x hx).2 (by rw [hxy]; exact hD1.2 j y hy)
theorem gz_ixn (n j : Nat) (x : Int32) (h : x = nI j) : nI (6 * n) + x = nI (6 * n + j) := by
  rw [h]
  exact nI_add _ _
theorem lw_arg {p : Program} {l : Launch} {e : Env} {R : Room} {s : State} {m : MethodId} {args : Array Value} {below : List Frame} {meth : Method} {c : Code} {H H0 : Heap} {locs : List Loc} {cells slots : Nat} {Q : State → Prop} {cc : ByteArray} {pc : Nat} {ls : Array Slot} {rest : List Value} {A : Nat → Prop} {b L n : Nat} {xs : Nat → Int32} {x0 hm : Nat} (hx : p.tables.exec = Jvm.exec) (hb : c.code = cc) (hX : va_X b L xs s H0) (hbl : b < H0.size) (hbA : ¬ A b) (hS : va_S A H0 H locs) (hl : lv_has ls 4 [(0, .ref b), (1, .ref x0), (2, .ref hm), (3, .int (nI (6 * n)))]) {i : Int} (d0 : decode cc pc = .ok (.aload_n 0, 1)) (d1 : decode cc (pc + 1) = .ok (.iload_n 3, 1)) (d2 : decode cc (pc + 2) = .ok (.iconst i, 1)) (d3 : decode cc (pc + 3) = .ok (.iadd, 1)) (d4 : decode cc (pc + 4) = .ok (.iaload, 1)) (k : Nat) (hi : Int32.ofInt i = nI k) (hk : k < 6) (hn : 6 * n + 6 ≤ L) (hL : L ≤ 3072) (kk : ∀ a : Int32, a = xs (nI (6 * n + k)).toNatClampNeg → W p l e R s m args below meth c H locs cells slots Q (F0 m (pc + 5) ls (.int a :: rest))) : W p l e R s m args below meth c H locs cells slots Q (F0 m pc ls rest) := by
  refine lv_aload_n hx hb d0 rfl (lv_at hl 0 rfl) ?_
  refine lv_iload_n hx hb d1 rfl (lv_at hl 3 rfl) ?_
  refine lv_iconst (v := nI k) hx hb d2 hi ?_
  refine lv_iadd hx hb d3 ?_
  refine gz_topi (nI_add (6 * n) k) ?_
  refine va_sld hx hb hX hbl hbA hS (vp_in_nI (show 6 * n + k < L by omega) (by omega)) d4 ?_
  exact kk _ rfl
theorem lw_rm {n L a b : Nat} (hn : 6 * n + 6 ≤ L) (hL : L ≤ 3072) (ha : a ≤ 1000) (hb : b ≤ 10000) : 400 + n + a ≤ room_1.cells ∧ 40000 + 5 * n + b ≤ room_1.slots := ⟨by show 400 + n + a ≤ 600000; omega, by show 40000 + 5 * n + b ≤ 7302250; omega⟩
theorem lw_rm2 {n L a b a2 b2 : Nat} (hn : 6 * n + 6 ≤ L) (hL : L ≤ 3072) (ha : a + a2 ≤ 1000) (hb : b + b2 ≤ 10000) : 400 + n + a + a2 ≤ room_1.cells ∧ 40000 + 5 * n + b + b2 ≤ room_1.slots := ⟨by show 400 + n + a + a2 ≤ 600000; omega, by show 40000 + 5 * n + b + b2 ≤ 7302250; omega⟩
theorem lw_cx {p : Program} {l : Launch} {e : Env} {s : State} {m : MethodId} {args : Array Value} {below : List Frame} {meth : Method} {c : Code} {dC : Nat → ClassId} {dI : Nat → Nat → Nat} {H : Heap} {locs : List Loc} {cells slots : Nat} {Q : State → Prop} {cc : ByteArray} {pc nL : Nat} {ls : Array Slot} {rest st : List Value} {ax : Nat → Nat} {kx : Nat → ClassId} {vx : Nat → Int32} {fx : Nat → Nat → Int32} {gx : Nat → Nat → Int64} {rx : Nat → Nat → Nat} {hm : Nat} {mi : Nat → Int32} {mr : Nat → Nat} {km : Nat → ClassId} {fm : Nat → Nat → Int32} {Ts : List Cond} {own : String} {y : MethodName} {cy : ByteArray} {maxL mc ms index n : Nat} {ret : Option FieldType} {ws : List Cond} {rm : Room} {As : List Value} {φ : Int32 → (Nat → Int32) → (Nat → Nat → Int32) → (Nat → Nat → Int64) → Prop} (hC : CallFix p m c cc nL s args Ts own) (hM : Met l y ws rm (va_Pc (.ref (ax 0) :: As) (fun U => U.heap.size = H.size ∧ va_P (dC, dI) vwCl (XW ax kx vx fx gx rx) U.heap ∧ va_K (dC, dI) vwCl (XT kx) U ∧ va_D (fun _ => True) (XW ax kx vx fx gx rx) ∧ nzA U)) (va_Qi (fun (r : Int32) (u : Int32) => r = u) (fun r t => XB dC dI ax kx vx fx gx rx H.size (fun v f g => φ r v f g) t) (va_A (XW ax kx vx fx gx rx) H.size)) mc ms (va_A (XW ax kx vx fx gx rx) H.size)) (cw : CallW room_1 s args own RX11 index y cy maxL ret ws rm mc ms n) (hn : As.length = n) (hst : st = As.reverse ++ .ref (ax 0) :: rest) (hls : ls.size = nL) (hro : (rest.map fun v => v.category).sum ≤ 8) (hdg : decode cc pc = .ok (.invokevirtual index, 3)) (hf : cells + mc ≤ room_1.cells ∧ slots + ms ≤ room_1.slots) (hz : nzA s) (hK : va_K (dC, dI) vwCl (XT kx ++ MT km) s) (hP : va_P (dC, dI) vwCl (XW ax kx vx fx gx rx ++ MW hm mi mr km fm) H) (hD : va_D (fun q : Nat => s.heap.size ≤ q) (XW ax kx vx fx gx rx ++ MW hm mi mr km fm)) (hS : va_S (fun q : Nat => s.heap.size ≤ q) s.heap H locs) (kk : ∀ (r : Int32) (ax2 : Nat → Nat) (kx2 : Nat → ClassId) (vx2 : Nat → Int32) (fx2 : Nat → Nat → Int32) (gx2 : Nat → Nat → Int64) (rx2 : Nat → Nat → Nat) (H : Heap) (locs : List Loc), ax2 0 = ax 0 → XI vx2 fx2 → φ r vx2 fx2 gx2 → va_K (dC, dI) vwCl (XT kx2 ++ MT km) s → va_P (dC, dI) vwCl (XW ax2 kx2 vx2 fx2 gx2 rx2 ++ MW hm mi mr km fm) H → va_D (fun q : Nat => s.heap.size ≤ q) (XW ax2 kx2 vx2 fx2 gx2 rx2 ++ MW hm mi mr km fm) → va_S (fun q : Nat => s.heap.size ≤ q) s.heap H locs → W p l e room_1 s m args below meth c H locs (cells + mc) (slots + ms) Q (F0 m (pc + 3) ls (.int r :: rest))) : W p l e room_1 s m args below meth c H locs cells slots Q (F0 m pc ls st) := by
  have hPx := gz_PL hP
  have hDx := gz_DL hD
  have hKx := gz_KL hK
  have hFx := gz_freeA hDx hS (fun _ h => h)
  refine va_calli (va_runV (rest := rest) hC hM cw ⟨bl_I (bl_a bl_sz (bl_a bl_P (bl_a bl_K (bl_a bl_c bl_nz)))), xw_recv hKx hPx, fun U hU hW => ⟨rfl, by rw [hU], by rw [hU]; exact hPx, va_K.moved hW.alike hKx, hDx.weaken (fun _ _ _ _ => trivial), nzA_warm hW hz⟩⟩ rfl hn hls hst (lv_room hro) hdg hf) hS (fun q _ h => hFx q h) hFx (fun r u t H1 locs ht hvm hw hB hz1 hk1 hS => ?_)
  obtain ⟨ax2, kx2, vx2, fx2, gx2, rx2, hKK, h0, hXI2, hrel, hP1, hD1⟩ := hB
  rw [ht] at hP1
  subst hw
  obtain ⟨hP, hD⟩ := gz_joinL hP hD hk1 hFx hP1 hD1
  exact kk r ax2 kx2 vx2 fx2 gx2 rx2 H1 locs h0 hXI2 hrel (va_K.app (hKK _ hKx) (gz_KR hK)) hP hD hS
theorem lw_cm {p : Program} {l : Launch} {e : Env} {s : State} {m : MethodId} {args : Array Value} {below : List Frame} {meth : Method} {c : Code} {dC : Nat → ClassId} {dI : Nat → Nat → Nat} {H : Heap} {locs : List Loc} {cells slots : Nat} {Q : State → Prop} {cc : ByteArray} {pc nL : Nat} {ls : Array Slot} {rest st : List Value} {ax : Nat → Nat} {kx : Nat → ClassId} {vx : Nat → Int32} {fx : Nat → Nat → Int32} {gx : Nat → Nat → Int64} {rx : Nat → Nat → Nat} {hm : Nat} {mi : Nat → Int32} {mr : Nat → Nat} {km : Nat → ClassId} {fm : Nat → Nat → Int32} {Ts : List Cond} {own : String} {y : MethodName} {cy : ByteArray} {maxL mc ms index n : Nat} {ret : Option FieldType} {ws : List Cond} {rm : Room} {As : List Value} {φ : Int32 → (Nat → Int32) → (Nat → Nat → Int32) → Prop} (hC : CallFix p m c cc nL s args Ts own) (hM : Met l y ws rm (va_Pc (.ref hm :: As) (fun U => U.heap.size = H.size ∧ va_P (dC, dI) vwCl (MW hm mi mr km fm) U.heap ∧ va_K (dC, dI) vwCl (MT km) U ∧ va_D (fun _ => True) (MW hm mi mr km fm))) (va_Qi (fun (r : Int32) (u : Int32) => r = u) (fun r t => MB dC dI hm mi mr km fm H.size (fun v f => φ r v f) t) (va_A (MW hm mi mr km fm) H.size)) mc ms (va_A (MW hm mi mr km fm) H.size)) (cw : CallW room_1 s args own RX12 index y cy maxL ret ws rm mc ms n) (hn : As.length = n) (hst : st = As.reverse ++ .ref hm :: rest) (hls : ls.size = nL) (hro : (rest.map fun v => v.category).sum ≤ 8) (hdg : decode cc pc = .ok (.invokevirtual index, 3)) (hf : cells + mc ≤ room_1.cells ∧ slots + ms ≤ room_1.slots) (hK : va_K (dC, dI) vwCl (XT kx ++ MT km) s) (hP : va_P (dC, dI) vwCl (XW ax kx vx fx gx rx ++ MW hm mi mr km fm) H) (hD : va_D (fun q : Nat => s.heap.size ≤ q) (XW ax kx vx fx gx rx ++ MW hm mi mr km fm)) (hS : va_S (fun q : Nat => s.heap.size ≤ q) s.heap H locs) (kk : ∀ (r : Int32) (mi2 : Nat → Int32) (fm2 : Nat → Nat → Int32) (H : Heap) (locs : List Loc), MI mi2 fm2 → φ r mi2 fm2 → va_P (dC, dI) vwCl (XW ax kx vx fx gx rx ++ MW hm mi2 mr km fm2) H → va_D (fun q : Nat => s.heap.size ≤ q) (XW ax kx vx fx gx rx ++ MW hm mi2 mr km fm2) → va_S (fun q : Nat => s.heap.size ≤ q) s.heap H locs → W p l e room_1 s m args below meth c H locs (cells + mc) (slots + ms) Q (F0 m (pc + 3) ls (.int r :: rest))) : W p l e room_1 s m args below meth c H locs cells slots Q (F0 m pc ls st) := by
  have hPx := gz_PR hP
  have hDx := gz_DR hD
  have hKx := gz_KR hK
  have hFx := gz_freeA hDx hS (fun _ h => h)
  refine va_calli (va_runV (rest := rest) hC hM cw ⟨bl_I (bl_a bl_sz (bl_a bl_P (bl_a bl_K bl_c))), mw2_recv hKx hPx, fun U hU hW => ⟨rfl, by rw [hU], by rw [hU]; exact hPx, va_K.moved hW.alike hKx, hDx.weaken (fun _ _ _ _ => trivial)⟩⟩ rfl hn hls hst (lv_room hro) hdg hf) hS (fun q _ h => hFx q h) hFx (fun r u t H1 locs ht hvm hw hB hz1 hk1 hS => ?_)
  obtain ⟨mi2, fm2, hMI2, hrel, hP1, hD1⟩ := hB
  rw [ht] at hP1
  subst hw
  obtain ⟨hP, hD⟩ := gz_joinR hP hD hk1 hFx hP1 hD1
  exact kk r mi2 fm2 H1 locs hMI2 hrel hP hD hS
/-! what the start says of the words of the text -/
theorem gz_STof {own : String} {ix : Nat → Nat} {args : Array Value} {s : State} {zf : Value} {A : Nat → Prop} (hA : ∀ a : Nat, a < s.heap.size → ¬ A a) (hc : va_Z "java/lang/String" "COMPACT_STRINGS" "Z" (.int 1) A s s.heap) (hzf : zf = .null ∨ ∃ t, zf = .ref t) (hf : va_Z "jdk/internal/util/Preconditions" "SIOOBE_FORMATTER" "Ljava/util/function/BiFunction;" zf A s s.heap)
    (hst : ∀ i : Nat, i < 18 → (Cond.stringRef own (ix i) (stT i)).before args s = true) (hex : ∀ i : Nat, i < 18 → (Cond.exactly (.string own (ix i)) "java/lang/String").before args s = true) (hco : ∀ i : Nat, i < 18 → (Cond.eq (.field (.string own (ix i)) "java/lang/String" "coder" "B") (.int 0)).before args s = true)
    (har : ∀ i : Nat, i < 18 → (Cond.arrayOf (.field (.string own (ix i)) "java/lang/String" "value" "[B") .byte).before args s = true) (hle : ∀ i : Nat, i < 18 → (Cond.eq (.length (.field (.string own (ix i)) "java/lang/String" "value" "[B")) (.int (Int32.ofNat (stL i).length))).before args s = true)
    (hel : ∀ i : Nat, i < 18 → ∀ j : Nat, j < (stL i).length → (Cond.eq (.elem (.field (.string own (ix i)) "java/lang/String" "value" "[B") (.int (Int32.ofNat j))) (.int ((stL i).getD j 0))).before args s = true) :
    ∃ sa sb : Nat → Nat, gz_ST own ix sa sb zf A s s.heap := by
  have h0 : ∀ i : Nat, ∃ q : Nat × Nat, i < 18 → vk_R own (ix i) (stT i) q.1 s ∧ gz_sp q.1 q.2 (stL i) zf A s s.heap := by
    intro i
    by_cases hi : i < 18
    · obtain ⟨a, c, cA, kA, q1, q2, q3, q4, q5, q6, -⟩ := Cond.exactly_spec (args := args) (first := s) (o := none) (s := s) (idx := []) (t := .string own (ix i)) (cls := "java/lang/String") (hex i hi)
      have hL := stL_len i hi
      obtain ⟨t, ht, hT⟩ := va_Tof (f := fun j => .int ((stL i).getD j 0)) (A := A) (show (stL i).length < 2 ^ 31 by omega) (har i hi) (va_eqt (hle i hi)) (fun j hj => va_eqt (hel i hi j hj)) hA
      exact ⟨(a, t), fun _ => ⟨vk_R.of (A := args) (hst i hi) q1, hc, hf, ⟨cA, q3, q5, by rw [q6]; exact q2, hA a (Array.getElem?_eq_some_iff.mp q3).1⟩, vk_OFof q1 (va_eqt (hco i hi)) hA, vk_OFof q1 ht hA, hT⟩⟩
    · exact ⟨(0, 0), fun h => absurd h hi⟩
  obtain ⟨ad, had⟩ := Classical.axiomOfChoice h0
  exact ⟨fun i => (ad i).1, fun i => (ad i).2, hzf, fun i hi => had i hi⟩
theorem ft_in {l w : List Jvm.Cond} {p n : Nat} (h : (l.drop p).take n = w) {c : Jvm.Cond} (hc : c ∈ w) : c ∈ l := List.mem_of_mem_drop (i := p) (List.mem_of_mem_take (i := n) (by rw [h]; exact hc))
theorem ftA_fl : ∀ i, i < 18 → ((flatC (Jvm.Cond.and given_1 narrow_1)).drop (([48, 151, 160, 177, 191, 169, 184, 69, 142, 77, 127, 59, 85, 136, 101, 119, 93, 110] : List Nat).getD i 0)).take (4 + (stL i).length) = Cond.exactly (.string RX6 (stIA i)) "java/lang/String" :: Cond.eq (.field (.string RX6 (stIA i)) "java/lang/String" "coder" "B") (.int 0) :: Cond.arrayOf (.field (.string RX6 (stIA i)) "java/lang/String" "value" "[B") .byte :: Cond.eq (.length (.field (.string RX6 (stIA i)) "java/lang/String" "value" "[B")) (.int (Int32.ofNat (stL i).length)) :: (List.range (stL i).length).map (fun j => Cond.eq (.elem (.field (.string RX6 (stIA i)) "java/lang/String" "value" "[B") (.int (Int32.ofNat j))) (.int ((stL i).getD j 0))) := by decide +kernel
theorem ftA_ex : ∀ i, i < 18 → Cond.exactly (.string RX6 (stIA i)) "java/lang/String" ∈ (flatC (Jvm.Cond.and given_1 narrow_1)) := fun i hi => ft_in (ftA_fl i hi) (.head _)
theorem ftA_co : ∀ i, i < 18 → Cond.eq (.field (.string RX6 (stIA i)) "java/lang/String" "coder" "B") (.int 0) ∈ (flatC (Jvm.Cond.and given_1 narrow_1)) := fun i hi => ft_in (ftA_fl i hi) (.tail _ (.head _))
theorem ftA_ar : ∀ i, i < 18 → Cond.arrayOf (.field (.string RX6 (stIA i)) "java/lang/String" "value" "[B") .byte ∈ (flatC (Jvm.Cond.and given_1 narrow_1)) := fun i hi => ft_in (ftA_fl i hi) (.tail _ (.tail _ (.head _)))
theorem ftA_le : ∀ i, i < 18 → Cond.eq (.length (.field (.string RX6 (stIA i)) "java/lang/String" "value" "[B")) (.int (Int32.ofNat (stL i).length)) ∈ (flatC (Jvm.Cond.and given_1 narrow_1)) := fun i hi => ft_in (ftA_fl i hi) (.tail _ (.tail _ (.tail _ (.head _))))
theorem ftA_el : ∀ i, i < 18 → ∀ j, j < (stL i).length → Cond.eq (.elem (.field (.string RX6 (stIA i)) "java/lang/String" "value" "[B") (.int (Int32.ofNat j))) (.int ((stL i).getD j 0)) ∈ (flatC (Jvm.Cond.and given_1 narrow_1)) := fun i hi j hj => ft_in (ftA_fl i hi) (.tail _ (.tail _ (.tail _ (.tail _ (List.mem_map.mpr ⟨j, List.mem_range.mpr hj, rfl⟩)))))
theorem ftB_fl : ∀ i, i < 18 → ((flatC (Jvm.Cond.and given_1 narrow_1)).drop (([199, 287, 297, 343, 359, 334, 351, 222, 324, 231, 307, 211, 240, 317, 258, 278, 249, 268] : List Nat).getD i 0)).take (4 + (stL i).length) = Cond.exactly (.string RX12 (stIB i)) "java/lang/String" :: Cond.eq (.field (.string RX12 (stIB i)) "java/lang/String" "coder" "B") (.int 0) :: Cond.arrayOf (.field (.string RX12 (stIB i)) "java/lang/String" "value" "[B") .byte :: Cond.eq (.length (.field (.string RX12 (stIB i)) "java/lang/String" "value" "[B")) (.int (Int32.ofNat (stL i).length)) :: (List.range (stL i).length).map (fun j => Cond.eq (.elem (.field (.string RX12 (stIB i)) "java/lang/String" "value" "[B") (.int (Int32.ofNat j))) (.int ((stL i).getD j 0))) := by decide +kernel
theorem ftB_ex : ∀ i, i < 18 → Cond.exactly (.string RX12 (stIB i)) "java/lang/String" ∈ (flatC (Jvm.Cond.and given_1 narrow_1)) := fun i hi => ft_in (ftB_fl i hi) (.head _)
theorem ftB_co : ∀ i, i < 18 → Cond.eq (.field (.string RX12 (stIB i)) "java/lang/String" "coder" "B") (.int 0) ∈ (flatC (Jvm.Cond.and given_1 narrow_1)) := fun i hi => ft_in (ftB_fl i hi) (.tail _ (.head _))
theorem ftB_ar : ∀ i, i < 18 → Cond.arrayOf (.field (.string RX12 (stIB i)) "java/lang/String" "value" "[B") .byte ∈ (flatC (Jvm.Cond.and given_1 narrow_1)) := fun i hi => ft_in (ftB_fl i hi) (.tail _ (.tail _ (.head _)))
theorem ftB_le : ∀ i, i < 18 → Cond.eq (.length (.field (.string RX12 (stIB i)) "java/lang/String" "value" "[B")) (.int (Int32.ofNat (stL i).length)) ∈ (flatC (Jvm.Cond.and given_1 narrow_1)) := fun i hi => ft_in (ftB_fl i hi) (.tail _ (.tail _ (.tail _ (.head _))))
theorem ftB_el : ∀ i, i < 18 → ∀ j, j < (stL i).length → Cond.eq (.elem (.field (.string RX12 (stIB i)) "java/lang/String" "value" "[B") (.int (Int32.ofNat j))) (.int ((stL i).getD j 0)) ∈ (flatC (Jvm.Cond.and given_1 narrow_1)) := fun i hi j hj => ft_in (ftB_fl i hi) (.tail _ (.tail _ (.tail _ (.tail _ (List.mem_map.mpr ⟨j, List.mem_range.mpr hj, rfl⟩)))))
theorem ft_cs : Cond.eq (.static "java/lang/String" "COMPACT_STRINGS" "Z") (.int 1) ∈ (flatC (Jvm.Cond.and given_1 narrow_1)) := by decide +kernel
theorem ft_sf : Cond.isRef (.static "jdk/internal/util/Preconditions" "SIOOBE_FORMATTER" "Ljava/util/function/BiFunction;") ∈ (flatC (Jvm.Cond.and given_1 narrow_1)) := by decide +kernel
