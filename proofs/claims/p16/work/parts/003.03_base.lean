/-! words: of a family's list, of the tables -/
theorem goodIn_app {big a b : List Cond} (ha : GoodIn big a) (hb : GoodIn big b) : GoodIn big (a ++ b) := fun w h => (List.mem_append.mp h).elim (ha w) (hb w)
theorem gz_gP {G : List Cond} {c0 c : Cond} (hc : c ∈ G) (hg : G.all goodWord = true) : GoodIn (c0 :: G) (c :: G) := fun w h => by
  have h1 : w ∈ G := (List.mem_cons.mp h).elim (fun e => e ▸ hc) id
  exact ⟨List.mem_cons_of_mem _ h1, good_of_word (List.all_eq_true.mp hg w h1)⟩
theorem gz_gm {G : List Cond} {c0 c : Cond} (hc : c ∈ G) (hg : G.all goodWord = true) : c ∈ c0 :: G ∧ ((c.onTables && c.keeps) = true ∨ ∃ ty, c = .arrayClass ty) := ⟨List.mem_cons_of_mem _ hc, good_of_word (List.all_eq_true.mp hg c hc)⟩
theorem goodIn_cons {big ws : List Cond} {c : Cond} (h : c ∈ big ∧ ((c.onTables && c.keeps) = true ∨ ∃ ty, c = .arrayClass ty)) (hb : GoodIn big ws) : GoodIn big (c :: ws) := fun w hw => (List.mem_cons.mp hw).elim (fun e => e ▸ h) (hb w)
theorem goodIn_nil {big : List Cond} : GoodIn big [] := fun _ h => absurd h List.not_mem_nil
theorem gz_gV {G : List Cond} {c0 c : Cond} {own C : String} {idx : Nat} {y : MethodName} (h1 : Cond.methodLink own idx y ∈ G) (h2 : Cond.instanceMethod y ∈ G) (h3 : Cond.selects C y y ∈ G) (h4 : Cond.initialized C ∈ G) (hc : c ∈ G) (hg : G.all goodWord = true) : GoodIn (c0 :: G) (wsV own idx C y (c :: G)) :=
  goodIn_app (goodIn_cons (gz_gm h1 hg) (goodIn_cons (gz_gm h2 hg) (goodIn_cons (gz_gm h3 hg) (goodIn_cons (gz_gm h4 hg) goodIn_nil)))) (gz_gP hc hg)
theorem gz_gS {G : List Cond} {c0 c : Cond} {own : String} {idx : Nat} {y : MethodName} (h1 : Cond.methodLink own idx y ∈ G) (h2 : Cond.static y ∈ G) (h4 : Cond.initialized own ∈ G) (hc : c ∈ G) (hg : G.all goodWord = true) : GoodIn (c0 :: G) (wsS own idx y (c :: G)) :=
  goodIn_app (goodIn_cons (gz_gm h1 hg) (goodIn_cons (gz_gm h2 hg) (goodIn_cons (gz_gm h4 hg) goodIn_nil))) (gz_gP hc hg)
theorem gz_lP {G : List Cond} {c : Cond} (hc : c ∈ lw_tbl) (hl : ∀ w ∈ G, w ∈ lw_tbl) (hg : G.all goodWord = true) (hw : goodWord c = true := by rfl) : GoodIn lw_tbl (c :: G) := fun w h => (List.mem_cons.mp h).elim (fun e => e ▸ ⟨hc, good_of_word hw⟩) (fun h1 => ⟨hl w h1, good_of_word (List.all_eq_true.mp hg w h1)⟩)
theorem gz_lV {G : List Cond} {c : Cond} {own C : String} {idx : Nat} {y : MethodName} (h1 : Cond.methodLink own idx y ∈ lw_tbl) (h2 : Cond.instanceMethod y ∈ lw_tbl) (h3 : Cond.selects C y y ∈ lw_tbl) (h4 : Cond.initialized C ∈ lw_tbl) (hc : c ∈ lw_tbl) (hl : ∀ w ∈ G, w ∈ lw_tbl) (hg : G.all goodWord = true) (hw : goodWord c = true := by rfl) : GoodIn lw_tbl (wsV own idx C y (c :: G)) :=
  goodIn_app (goodIn_cons ⟨h1, good_of_word rfl⟩ (goodIn_cons ⟨h2, good_of_word rfl⟩ (goodIn_cons ⟨h3, good_of_word rfl⟩ (goodIn_cons ⟨h4, good_of_word rfl⟩ goodIn_nil)))) (gz_lP hc hl hg hw)
/-! rows of our own that every walk uses -/
theorem gz_topi {p : Program} {l : Launch} {e : Env} {R : Room} {s : State} {m : MethodId} {args : Array Value} {below : List Frame} {meth : Method} {c : Code} {H : Heap} {locs : List Loc} {cells slots : Nat} {Q : State → Prop} {pc : Nat} {ls : Array Slot} {rest : List Value} {x y : Int32} (h : x = y) (k : W p l e R s m args below meth c H locs cells slots Q (F0 m pc ls (.int y :: rest))) : W p l e R s m args below meth c H locs cells slots Q (F0 m pc ls (.int x :: rest)) := h ▸ k
/-- a call that changes nothing: the world stays -/
theorem gz_keep {D : va_G} {cl : List vw_C} {ws : va_W} {H H1 : Heap} (hP : va_P D cl ws H) (hk : ∀ q : Nat, q < H.size → ¬ (fun _ : Nat => False) q → H1[q]? = H[q]?) : va_P D cl ws H1 := by
  intro k q hq
  have h := hP k q hq
  obtain ⟨a, o | o⟩ := q
  · have h : H[a]? = some (vp_cell o.1 o.2) := h
    show H1[a]? = some (vp_cell o.1 o.2)
    rw [hk a (Array.getElem?_eq_some_iff.mp h).1 (fun f => f)]
    exact h
  · obtain ⟨r, h1, h2⟩ := h
    obtain ⟨cell, hc, -⟩ := id h2
    exact ⟨r, h1, h2.kept (hk a (Array.getElem?_eq_some_iff.mp hc).1 (fun f => f))⟩
theorem gz_nle {x : Int32} (h : ¬ x < 0) : 0 ≤ x := Int32.not_lt.mp h
theorem gz_sw (x : Int32) (n : Nat) (hn : n < 2 ^ 31) {N : Int} (hN : N = (n : Int) := by rfl) : (x.toInt < 0 ∨ N < x.toInt) ∨ ∃ j : Nat, j ≤ n ∧ x = nI j := by
  subst hN
  by_cases h : x < 0
  · exact Or.inl (Or.inl (by simpa [Int32.lt_iff_toInt_lt] using h))
  · obtain ⟨j, hj, rfl⟩ := nI_of h
    by_cases hjn : j ≤ n
    · exact Or.inr ⟨j, hjn, rfl⟩
    · refine Or.inl (Or.inr ?_)
      rw [nI_toInt hj]
      omega
def gz_fault (x : Int32) : Int32 := if x = 0 then 0 else (-1)
def gz_count (x : Int32) : Int32 := if 0 ≤ x.toInt ∧ x.toInt ≤ 10 then 0 else (-1)
theorem gz_count_out {x : Int32} (h : x.toInt < 0 ∨ 10 < x.toInt) : (-1) = gz_count x := by
  unfold gz_count
  rw [if_neg (by omega)]
def gz_in (v lo hi : Int64) : Int32 := if lo ≤ v ∧ v ≤ hi then 1 else 0
theorem gz_in_lt {v lo hi : Int64} (h : lg_cmp v lo < 0) : 0 = gz_in v lo hi := by
  have h1 : v < lo := (lg_cmp_lt v lo).mp h
  unfold gz_in
  rw [if_neg (fun q => absurd (Int64.lt_of_le_of_lt q.1 h1) Int64.lt_irrefl)]
theorem gz_in_gt {v lo hi : Int64} (h : 0 < lg_cmp v hi) : 0 = gz_in v lo hi := by
  have h1 : hi < v := (lg_cmp_gt v hi).mp h
  unfold gz_in
  rw [if_neg (fun q => absurd (Int64.lt_of_le_of_lt q.2 h1) Int64.lt_irrefl)]
theorem gz_in_yes {v lo hi : Int64} (h : ¬ lg_cmp v lo < 0) (h2 : ¬ 0 < lg_cmp v hi) : 1 = gz_in v lo hi := by
  have h1 : lo ≤ v := Int64.not_lt.mp (fun q => h ((lg_cmp_lt v lo).mpr q))
  have h3 : v ≤ hi := Int64.not_lt.mp (fun q => h2 ((lg_cmp_gt v hi).mpr q))
  unfold gz_in
  rw [if_pos ⟨h1, h3⟩]
theorem gz_in_none (v : Int64) : gz_in v 0 (-1) = 0 := by
  unfold gz_in
  rw [if_neg (fun q => absurd (Int64.le_trans q.1 q.2) (by decide))]
theorem gz_P0 {D : va_G} {cl : List vw_C} {H : Heap} : va_P D cl [] H := fun k q h => by simp at h
theorem gz_D0 {A : Nat → Prop} : va_D A [] := ⟨fun i j p q h => by simp at h, fun k q h => by simp at h⟩
theorem gz_upd0z (k : Nat) : upd (fun _ => 0) k (vp_nar .boolean 0) = (fun _ => 0) := by
  funext j
  unfold upd
  split
  · rfl
  · rfl
def gz_end (x : Int32) : Int32 := if x = 0 then 0 else (-1)
theorem gz_end_neg {x : Int32} (h : x < 0) : (-1) = gz_end x := by
  unfold gz_end
  rw [if_neg (fun q => by rw [q] at h; exact absurd h (by decide))]
theorem gz_end_pos {x : Int32} (h : ¬ x ≤ 0) : (-1) = gz_end x := by
  unfold gz_end
  rw [if_neg (fun q => by rw [q] at h; exact absurd (by decide) h)]
theorem gz_z {x : Int32} (h : ¬ x < 0) (h2 : x ≤ 0) : x = 0 := Int32.le_antisymm h2 (Int32.not_lt.mp h)
theorem gz_end_z {x : Int32} (h : ¬ x < 0) (h2 : x ≤ 0) : x = gz_end x := by
  rw [gz_z h h2]
  rfl
theorem gz_in_end (x : Int32) : gz_in x.toInt64 0 0 = if x = 0 then 1 else 0 := by
  unfold gz_in
  by_cases h : x = 0
  · rw [h]
    rfl
  · rw [if_neg h, if_neg]
    intro q
    have h2 : x.toInt64 = 0 := Int64.le_antisymm q.2 q.1
    apply h
    have h3 : x.toInt64.toInt32 = (0 : Int64).toInt32 := by rw [h2]
    simpa using h3
theorem gz_end_in0 {x r : Int32} (hw : r = gz_in x.toInt64 0 0) (h : r = 0) : (-1) = gz_end x := by
  rw [gz_in_end] at hw
  unfold gz_end
  split at hw
  · rw [h] at hw
    exact absurd hw (by decide)
  · rename_i hx
    rw [if_neg hx]
theorem gz_end_in1 {x r : Int32} (hw : r = gz_in x.toInt64 0 0) (h : ¬ r = 0) : x = gz_end x := by
  rw [gz_in_end] at hw
  split at hw
  · rename_i hx
    rw [hx]
    rfl
  · exact absurd hw h
/-! numbers between bounds: what a walk needs to know so that nothing is thrown -/
def gi (x : Int32) (a b : Int) : Prop := a ≤ x.toInt ∧ x.toInt ≤ b
def ga (f : Nat → Int32) (n : Nat) (a b : Int) : Prop := ∀ j : Nat, j < n → gi (f j) a b
theorem gi_c (x : Int32) (n : Int) (h : x.toInt = n) : gi x n n := ⟨by omega, by omega⟩
theorem gi_w {x : Int32} {a b c d : Int} (h : gi x a b) (w : c ≤ a ∧ b ≤ d) : gi x c d := ⟨Int.le_trans w.1 h.1, Int.le_trans h.2 w.2⟩
theorem gi_any (x : Int32) : gi x (-2147483648) 2147483647 := by
  have h1 := Int32.le_toInt x
  have h2 := Int32.toInt_lt x
  exact ⟨by omega, by omega⟩
theorem gi_bm {t : Int} (h1 : -2147483648 ≤ t) (h2 : t ≤ 2147483647) : t.bmod (2 ^ 32) = t := by
  rw [Int.bmod_def]
  omega
theorem gi_addI {z x y : Int32} (e : z = x + y) (h1 : -2147483648 ≤ x.toInt + y.toInt) (h2 : x.toInt + y.toInt ≤ 2147483647) : z.toInt = x.toInt + y.toInt := by
  rw [e, Int32.toInt_add]
  exact gi_bm h1 h2
theorem gi_subI {z x y : Int32} (e : z = x - y) (h1 : -2147483648 ≤ x.toInt - y.toInt) (h2 : x.toInt - y.toInt ≤ 2147483647) : z.toInt = x.toInt - y.toInt := by
  rw [e, Int32.toInt_sub]
  exact gi_bm h1 h2
theorem gi_mulI {z x y : Int32} (e : z = x * y) (h1 : -2147483648 ≤ x.toInt * y.toInt) (h2 : x.toInt * y.toInt ≤ 2147483647) : z.toInt = x.toInt * y.toInt := by
  rw [e, Int32.toInt_mul]
  exact gi_bm h1 h2
theorem gi_addE {z x y : Int32} {a b c d : Int} (e : z = x + y) (hx : gi x a b) (hy : gi y c d) (h : -2147483648 ≤ a + c ∧ b + d ≤ 2147483647) : z.toInt = x.toInt + y.toInt := by
  have h1 := hx.1; have h2 := hx.2; have h3 := hy.1; have h4 := hy.2
  exact gi_addI e (by omega) (by omega)
theorem gi_subE {z x y : Int32} {a b c d : Int} (e : z = x - y) (hx : gi x a b) (hy : gi y c d) (h : -2147483648 ≤ a - d ∧ b - c ≤ 2147483647) : z.toInt = x.toInt - y.toInt := by
  have h1 := hx.1; have h2 := hx.2; have h3 := hy.1; have h4 := hy.2
  exact gi_subI e (by omega) (by omega)
theorem gi_add {z x y : Int32} {a b c d L H : Int} (e : z = x + y) (hx : gi x a b) (hy : gi y c d) (h : L = a + c ∧ H = b + d ∧ -2147483648 ≤ L ∧ H ≤ 2147483647) : gi z L H := by
  have h1 := hx.1; have h2 := hx.2; have h3 := hy.1; have h4 := hy.2
  have := gi_addI e (by omega) (by omega)
  exact ⟨by omega, by omega⟩
theorem gi_sub {z x y : Int32} {a b c d L H : Int} (e : z = x - y) (hx : gi x a b) (hy : gi y c d) (h : L = a - d ∧ H = b - c ∧ -2147483648 ≤ L ∧ H ≤ 2147483647) : gi z L H := by
  have h1 := hx.1; have h2 := hx.2; have h3 := hy.1; have h4 := hy.2
  have := gi_subI e (by omega) (by omega)
  exact ⟨by omega, by omega⟩
theorem gi_mul {z x y : Int32} {a b c d L H : Int} (e : z = x * y) (hx : gi x a b) (hy : gi y c d) (h : 0 ≤ a ∧ 0 ≤ c ∧ L = a * c ∧ H = b * d ∧ H ≤ 2147483647) : gi z L H := by
  obtain ⟨ha, hc, hL, hH, hm⟩ := h
  have h5 : x.toInt * y.toInt ≤ b * d := Int.mul_le_mul hx.2 hy.2 (Int.le_trans hc hy.1) (Int.le_trans (Int.le_trans ha hx.1) hx.2)
  have h6 : a * c ≤ x.toInt * y.toInt := Int.mul_le_mul hx.1 hy.1 hc (Int.le_trans ha hx.1)
  have h7 : 0 ≤ a * c := Int.mul_nonneg ha hc
  have := gi_mulI e (by omega) (by omega)
  exact ⟨by omega, by omega⟩
theorem gi_up {n : Nat} {v x : Int32} (h : gi x (n : Int) n) (hv : v = x) : gi v n n := hv ▸ h
theorem gi_lt_l {x y : Int32} {a b c d B : Int} (k : x < y) (hx : gi x a b) (hy : gi y c d) (h : B = d - 1) : gi x a B := by
  have := Int32.lt_iff_toInt_lt.mp k
  have := hy.2
  exact ⟨hx.1, by omega⟩
theorem gi_lt_r {x y : Int32} {a b c d C : Int} (k : x < y) (hx : gi x a b) (hy : gi y c d) (h : C = a + 1) : gi y C d := by
  have := Int32.lt_iff_toInt_lt.mp k
  have := hx.1
  exact ⟨by omega, hy.2⟩
theorem gi_le_l {x y : Int32} {a b c d : Int} (k : x ≤ y) (hx : gi x a b) (hy : gi y c d) : gi x a d := ⟨hx.1, Int.le_trans (Int32.le_iff_toInt_le.mp k) hy.2⟩
theorem gi_le_r {x y : Int32} {a b c d : Int} (k : x ≤ y) (hx : gi x a b) (hy : gi y c d) : gi y a d := ⟨Int.le_trans hx.1 (Int32.le_iff_toInt_le.mp k), hy.2⟩
theorem gi_eq {x y : Int32} {c d : Int} (k : x = y) (hy : gi y c d) : gi x c d := k ▸ hy
theorem gi_ne_lo {x y : Int32} {a b C : Int} (k : ¬ x = y) (hx : gi x a b) (hy : gi y a a) (h : C = a + 1) : gi x C b := by
  have h1 := hx.1; have h2 := hy.1; have h3 := hy.2
  have : x.toInt ≠ y.toInt := fun q => k (Int32.toInt_inj.mp q)
  exact ⟨by omega, hx.2⟩
theorem gi_ne_hi {x y : Int32} {a b C : Int} (k : ¬ x = y) (hx : gi x a b) (hy : gi y b b) (h : C = b - 1) : gi x a C := by
  have h1 := hx.2; have h2 := hy.1; have h3 := hy.2
  have : x.toInt ≠ y.toInt := fun q => k (Int32.toInt_inj.mp q)
  exact ⟨hx.1, by omega⟩
theorem gi_no_lt {x y : Int32} {a b c d : Int} (hx : gi x a b) (hy : gi y c d) (h : d ≤ a) : ¬ x < y := fun k => by
  have := Int32.lt_iff_toInt_lt.mp k
  have := hx.1; have := hy.2
  omega
theorem gi_no_le {x y : Int32} {a b c d : Int} (hx : gi x a b) (hy : gi y c d) (h : d < a) : ¬ x ≤ y := fun k => by
  have := Int32.le_iff_toInt_le.mp k
  have := hx.1; have := hy.2
  omega
theorem gi_no_eq {x y : Int32} {a b c d : Int} (hx : gi x a b) (hy : gi y c d) (h : d < a ∨ b < c) : ¬ x = y := fun k => by
  subst k
  have := hx.1; have := hy.2; have := hx.2; have := hy.1
  omega
theorem gi_is_lt {x y : Int32} {a b c d : Int} (hx : gi x a b) (hy : gi y c d) (h : b < c) : x < y := by
  rw [Int32.lt_iff_toInt_lt]
  have := hx.2; have := hy.1
  omega
theorem gi_is_le {x y : Int32} {a b c d : Int} (hx : gi x a b) (hy : gi y c d) (h : b ≤ c) : x ≤ y := by
  rw [Int32.le_iff_toInt_le]
  have := hx.2; have := hy.1
  omega
theorem gi_is_eq {x y : Int32} {a : Int} (hx : gi x a a) (hy : gi y a a) : x = y := by
  apply Int32.toInt_inj.mp
  have := hx.1; have := hx.2; have := hy.1; have := hy.2
  omega
theorem gi_in {x : Int32} {a b : Int} {n : Nat} (h : gi x a b) (hn : 0 ≤ a ∧ b < (n : Int)) : vp_in x n := by
  rw [vp_in_iff]
  have := h.1; have := h.2
  omega
theorem ga_at {f : Nat → Int32} {n : Nat} {a b : Int} {i x : Int32} (hf : ga f n a b) (hi : vp_in i n) (e : x = f i.toNatClampNeg) : gi x a b := by
  rw [e]
  refine hf _ ?_
  unfold vp_in at hi
  omega
theorem ga_upd {f : Nat → Int32} {n : Nat} {a b : Int} {k : Nat} {x : Int32} (hf : ga f n a b) (hx : gi x a b) : ga (upd f k x) n a b := by
  intro j hj
  unfold upd
  split
  · exact hx
  · exact hf j hj
theorem ga_w {f : Nat → Int32} {n : Nat} {a b c d : Int} (h : ga f n a b) (w : c ≤ a ∧ b ≤ d) : ga f n c d := fun j hj => gi_w (h j hj) w
theorem gi_div {z x y : Int32} {a b k L H : Int} (e : z = x / y) (hx : gi x a b) (hy : gi y k k) (h : 0 ≤ a ∧ 0 < k ∧ L = a / k ∧ H = b / k) : gi z L H := by
  obtain ⟨ha, hk, hL, hH⟩ := h
  have hy1 : y.toInt = k := by have := hy.1; have := hy.2; omega
  have hx1 := hx.1; have hx2 := hx.2; have hx3 := (gi_any x).2
  have h0 : 0 ≤ x.toInt := by omega
  have h5 : 0 ≤ x.toInt / k := Int.ediv_nonneg h0 (by omega)
  have h6 : x.toInt / k ≤ x.toInt := Int.ediv_le_self _ h0
  have h7 : z.toInt = x.toInt / k := by
    rw [e, Int32.toInt_div, hy1, Int.tdiv_eq_ediv_of_nonneg h0]
    exact gi_bm (by omega) (by omega)
  have h8 : a / k ≤ x.toInt / k := Int.ediv_le_ediv (by omega) hx1
  have h9 : x.toInt / k ≤ b / k := Int.ediv_le_ediv (by omega) hx2
  exact ⟨by omega, by omega⟩
theorem gi_and1 {z x : Int32} (e : z = x &&& 1) : gi z 0 1 := by
  obtain ⟨j, hj, ej⟩ := pk_andE x (m := 1) 1 (by decide)
  rw [e, ej]
  have hj : j < 2 := hj
  have := nI_toInt (n := j) (by omega)
  exact ⟨by omega, by omega⟩
theorem gi_step {H lo : Int} {v v' : Int32} {b : Int} {z : Nat} (e : v' = v + 1) (hv : gi v lo b) (hb : b < 2147483647 ∧ -2147483648 ≤ lo + 1) (hz : H - v.toInt < ((z + 1 : Nat) : Int)) : H - v'.toInt < (z : Int) := by
  have h1 := hv.1; have h2 := hv.2
  have h1v : (1 : Int32).toInt = 1 := by decide
  have := gi_addI e (by omega) (by omega)
  omega
theorem gi_stepD {L hi : Int} {v v' : Int32} {a : Int} {z : Nat} (e : v' = v + (-1)) (hv : gi v a hi) (hb : -2147483648 < a) (hz : v.toInt - L < ((z + 1 : Nat) : Int)) : v'.toInt - L < (z : Int) := by
  have h1 := hv.1; have h2 := (gi_any v).2
  have h1v : (-1 : Int32).toInt = -1 := by decide
  have := gi_addI e (by omega) (by omega)
  omega
theorem gi_z0 {H lo b : Int} {v : Int32} (hv : gi v lo b) (hb : b ≤ H) : ¬ H - v.toInt < ((0 : Nat) : Int) := by
  have := hv.2
  omega
theorem gi_z0D {L a hi : Int} {v : Int32} (hv : gi v a hi) (ha : L ≤ a) : ¬ v.toInt - L < ((0 : Nat) : Int) := by
  have := hv.1
  omega
theorem gi_zs {H a b : Int} {v : Int32} {z : Nat} (hv : gi v a b) (h : H - a < (z : Int)) : H - v.toInt < (z : Int) := by
  have := hv.1
  omega
theorem gi_zsD {L a b : Int} {v : Int32} {z : Nat} (hv : gi v a b) (h : b - L < (z : Int)) : v.toInt - L < (z : Int) := by
  have := hv.2
  omega
theorem gi_rel {x y : Int32} {a b c d : Int} (h : x.toInt ≤ y.toInt) (hx : gi x a b) (hy : gi y c d) : gi x a d := ⟨hx.1, Int.le_trans h hy.2⟩
theorem gz_nb {x : Int32} (h : gi x 0 1) : narrow .boolean (.int x) = .int x := by
  have h1 := h.1; have h2 := h.2
  rcases (show x.toInt = 0 ∨ x.toInt = 1 by omega) with h | h
  · have : x = 0 := Int32.toInt_inj.mp (by rw [h]; decide)
    rw [this]; rfl
  · have : x = 1 := Int32.toInt_inj.mp (by rw [h]; decide)
    rw [this]; rfl
theorem gi_min {z x y : Int32} {a b c d L H : Int} (e : z = if y < x then y else x) (hx : gi x a b) (hy : gi y c d) (h : L ≤ a ∧ L ≤ c ∧ (b ≤ H ∨ d ≤ H)) : gi z L H := by
  have h1 := hx.1; have h2 := hx.2; have h3 := hy.1; have h4 := hy.2
  rw [e]
  split
  · rename_i k
    have := Int32.lt_iff_toInt_lt.mp k
    exact ⟨by omega, by omega⟩
  · rename_i k
    have := Int32.le_iff_toInt_le.mp (Int32.not_lt.mp k)
    exact ⟨by omega, by omega⟩
theorem gi_max {z x y : Int32} {a b c d L H : Int} (e : z = if x < y then y else x) (hx : gi x a b) (hy : gi y c d) (h : b ≤ H ∧ d ≤ H ∧ (L ≤ a ∨ L ≤ c)) : gi z L H := by
  have h1 := hx.1; have h2 := hx.2; have h3 := hy.1; have h4 := hy.2
  rw [e]
  split
  · rename_i k
    have := Int32.lt_iff_toInt_lt.mp k
    exact ⟨by omega, by omega⟩
  · rename_i k
    have := Int32.le_iff_toInt_le.mp (Int32.not_lt.mp k)
    exact ⟨by omega, by omega⟩
theorem gi_nele {x y : Int32} {a b c d D : Int} (h : x.toInt ≤ y.toInt) (k : ¬ x = y) (hx : gi x a b) (hy : gi y c d) (hD : D = d - 1) : gi x a D := by
  have h1 := hx.1; have h2 := hy.2
  have : x.toInt ≠ y.toInt := fun q => k (Int32.toInt_inj.mp q)
  exact ⟨h1, by omega⟩
theorem gi_subrel {z x y : Int32} {a b c d H : Int} (e : z = x - y) (h : y.toInt ≤ x.toInt) (hx : gi x a b) (hy : gi y c d) (hH : H = b - c ∧ H ≤ 2147483647) : gi z 0 H := by
  have h1 := hx.1; have h2 := hx.2; have h3 := hy.1; have h4 := hy.2
  have := gi_subI e (by omega) (by omega)
  exact ⟨by omega, by omega⟩
/-! what is only looked at: cells and families of objects that lie apart from all that is written -/
def gz_ap (A : Nat → Prop) (ws : va_W) : Prop := ∀ (k : Nat) (q : Nat × va_E), ws[k]? = some q → ¬ A q.1
theorem gz_ap0 {ws : va_W} : gz_ap (fun _ => False) ws := fun _ _ _ h => h
theorem gz_ro {D : va_G} {cl : List vw_C} {A : Nat → Prop} {ws : va_W} {H0 H : Heap} {locs : List Loc} (hP : va_P D cl ws H0) (ha : gz_ap A ws) (hS : va_S A H0 H locs) : va_P D cl ws H := by
  intro k q hq
  have h := hP k q hq
  have hn := ha k q hq
  obtain ⟨a, o | o⟩ := q
  · have h : H0[a]? = some (vp_cell o.1 o.2) := h
    show H[a]? = some (vp_cell o.1 o.2)
    rw [hS.2.1 a (Array.getElem?_eq_some_iff.mp h).1 hn]
    exact h
  · obtain ⟨r, h1, h2⟩ := h
    obtain ⟨cell, hc, -⟩ := id h2
    exact ⟨r, h1, h2.kept (hS.2.1 a (Array.getElem?_eq_some_iff.mp hc).1 hn)⟩
def gz_fam (n : Nat) (ra : Nat → Nat) (ci : Nat) (g : Nat → List Value) : va_W := (List.range n).map (fun i => (ra i, .inr (ci, g i)))
theorem gz_fam_at {n : Nat} {ra : Nat → Nat} {ci : Nat} {g : Nat → List Value} {j : Nat} (h : j < n) : (gz_fam n ra ci g)[j]? = some (ra j, .inr (ci, g j)) := by
  unfold gz_fam
  rw [List.getElem?_map, List.getElem?_range h]
  rfl
theorem gz_clt {x : Int32} {n : Nat} (h : vp_in x n) : x.toNatClampNeg < n := by
  unfold vp_in at h
  omega
theorem gz_fam1 {D : va_G} {cl : List vw_C} {n : Nat} {ra : Nat → Nat} {ci : Nat} {g : Nat → List Value} {H : Heap} {j : Nat} (hP : va_P D cl (gz_fam n ra ci g) H) (h : j < n) : va_P D cl [(ra j, .inr (ci, g j))] H := by
  intro k q hq
  match k, hq with
  | 0, hq =>
    have hq : some (ra j, (.inr (ci, g j) : va_E)) = some q := hq
    cases hq
    exact hP j _ (gz_fam_at h)
  | k + 1, hq => simp at hq
theorem gz_cat {D : va_G} {cl : List vw_C} {w1 w2 : va_W} {H : Heap} (h1 : va_P D cl w1 H) (h2 : va_P D cl w2 H) : va_P D cl (w1 ++ w2) H := by
  intro k q hq
  rcases Nat.lt_or_ge k w1.length with h | h
  · rw [List.getElem?_append_left h] at hq
    exact h1 k q hq
  · rw [List.getElem?_append_right h] at hq
    exact h2 _ q hq
theorem gz_apc {A : Nat → Prop} {w1 w2 : va_W} (h1 : gz_ap A w1) (h2 : gz_ap A w2) : gz_ap A (w1 ++ w2) := by
  intro k q hq
  rcases Nat.lt_or_ge k w1.length with h | h
  · rw [List.getElem?_append_left h] at hq
    exact h1 k q hq
  · rw [List.getElem?_append_right h] at hq
    exact h2 _ q hq
theorem gz_ap1 {A : Nat → Prop} {ws : va_W} {q : Nat × va_E} (h : gz_ap A ws) (i : Nat) (hi : ws[i]? = some q) : gz_ap A [q] := by
  intro k p hp
  match k, hp with
  | 0, hp =>
    have hp : some q = some p := hp
    cases hp
    exact h i q hi
  | k + 1, hp => simp at hp
theorem gz_apR {A : Nat → Prop} {wc ws : va_W} {n : Nat} (h : gz_ap A ws) (hF : ∀ q, va_A wc n q → A q) : gz_ap (va_A wc n) ws := fun k q hq ha => h k q hq (hF _ ha)
theorem gz_apW {D : va_G} {cl : List vw_C} {A : Nat → Prop} {ws wc : va_W} {H : Heap} {q : Nat × va_E} (hD : va_D A ws) (hP : va_P D cl ws H) (isC : List Nat) (hC : isC.map (fun i => ws[i]?) = wc.map some) (i : Nat) (hi : i ∉ isC) (hq : ws[i]? = some q) : gz_ap (va_A wc H.size) [q] := by
  intro k p hp
  match k, hp with
  | 0, hp =>
    have hp : some q = some p := hp
    cases hp
    rintro (⟨j, e, hj⟩ | hge)
    · have h1 : (wc.map some)[j]? = some (some (q.1, e)) := by rw [List.getElem?_map, hj]; rfl
      rw [← hC, List.getElem?_map] at h1
      obtain ⟨i2, hi2, hw⟩ := Option.map_eq_some_iff.mp h1
      have : i = i2 := hD.1 i i2 q (q.1, e) hq hw rfl
      exact hi (this ▸ List.mem_of_getElem? hi2)
    · have h := hP i q hq
      obtain ⟨a, o | o⟩ := q
      · have h : H[a]? = some (vp_cell o.1 o.2) := h
        exact absurd (Array.getElem?_eq_some_iff.mp h).1 (Nat.not_lt.mpr hge)
      · obtain ⟨r, -, cell, hc, -⟩ := h
        exact absurd (Array.getElem?_eq_some_iff.mp hc).1 (Nat.not_lt.mpr hge)
  | k + 1, hp => simp at hp
theorem ga_ix {f : Nat → Int32} {n : Nat} {a b : Int} {i : Int32} (hf : ga f n a b) (hi : vp_in i n) : gi (f i.toNatClampNeg) a b := hf _ (gz_clt hi)
theorem gz_one {x : Int32} (h : gi x 1 1) : x.toInt = 1 := by
  have := h.1; have := h.2
  omega
theorem gi_cap {x : Int32} {a b c d A B : Int} (h1 : gi x a b) (h2 : gi x c d) (h : (A = a ∨ A = c) ∧ (B = b ∨ B = d)) : gi x A B := by
  have := h1.1; have := h1.2; have := h2.1; have := h2.2
  exact ⟨by omega, by omega⟩
theorem gz_inr {x : Int32} {l a b : Int64} {A B : Int} (h : a.toInt ≤ l.toInt ∧ l.toInt ≤ b.toInt) (e : l = x.toInt64) (ha : A ≤ a.toInt) (hb : b.toInt ≤ B) : gi x A B := by
  have h1 : l.toInt = x.toInt := by rw [e]; exact Int32.toInt_toInt64 x
  exact ⟨by omega, by omega⟩
theorem gz_l2l {y : Int32} {l : Int64} {A B : Int} (e : l = y.toInt64) (h : gi y A B) : A ≤ l.toInt := by
  rw [e, Int32.toInt_toInt64]
  exact h.1
theorem gz_l2u {y : Int32} {l : Int64} {A B : Int} (e : l = y.toInt64) (h : gi y A B) : l.toInt ≤ B := by
  rw [e, Int32.toInt_toInt64]
  exact h.2
theorem gz_lge {x y : Int64} (h : ¬ lg_cmp x y < 0) : y.toInt ≤ x.toInt := Int64.le_iff_toInt_le.mp (Int64.not_lt.mp (fun q => h ((lg_cmp_lt x y).mpr q)))
theorem gz_lle {x y : Int64} (h : ¬ 0 < lg_cmp x y) : x.toInt ≤ y.toInt := Int64.le_iff_toInt_le.mp (Int64.not_lt.mp (fun q => h ((lg_cmp_gt x y).mpr q)))
theorem ga_updz {f : Nat → Int32} {n : Nat} {k : Nat} {x : Int32} (hf : ga f n 0 1) (hx : gi x 0 1) : ga (upd f k (vp_nar .boolean x)) n 0 1 := by
  have h1 := hx.1; have h2 := hx.2
  have hv : vp_nar .boolean x = x := by
    rcases (show x.toInt = 0 ∨ x.toInt = 1 by omega) with h | h
    · have : x = 0 := Int32.toInt_inj.mp (by rw [h]; decide)
      rw [this]; rfl
    · have : x = 1 := Int32.toInt_inj.mp (by rw [h]; decide)
      rw [this]; rfl
  rw [hv]
  exact ga_upd hf hx
theorem gi_minI {z x y : Int32} (e : z = if y < x then y else x) : z.toInt = min x.toInt y.toInt := by
  rw [e]
  split
  · rename_i k
    have := Int32.lt_iff_toInt_lt.mp k
    omega
  · rename_i k
    have := Int32.le_iff_toInt_le.mp (Int32.not_lt.mp k)
    omega
theorem gz_deed {fk fm fl : Nat → Int32} {i x k mo le : Int32} (hdd : ∀ j : Nat, j < 8 → ((fk j).toInt ≠ 0 ∨ (fm j).toInt + (fl j).toInt ≤ 23)) (hi : vp_in i 8) (ek : k = fk i.toNatClampNeg) (hk : k = 0) (em : mo = fm i.toNatClampNeg) (el : le = fl i.toNatClampNeg) (e : x = mo + le) (gm : gi mo 0 23) (gl : gi le 0 600) : gi x 0 23 := by
  have h := hdd _ (gz_clt hi)
  rw [← ek, ← em, ← el] at h
  have h1 := gm.1; have h2 := gm.2; have h3 := gl.1; have h4 := gl.2
  have h0 : k.toInt = 0 := by rw [hk]; decide
  have := gi_addI e (by omega) (by omega)
  exact ⟨by omega, by omega⟩
theorem gz_zero {x : Int32} (h : gi x 0 0) : x = 0 := Int32.toInt_inj.mp (by have := h.1; have := h.2; have h0 : (0 : Int32).toInt = 0 := by decide
                                                                             omega)
theorem gz_zero1 {x : Int32} (h : gi x 0 0) : x.toInt = 0 := by
  have := h.1; have := h.2
  omega
theorem gz_l2e {y : Int32} {l : Int64} (e : l = y.toInt64) : l.toInt = y.toInt := by
  rw [e]
  exact Int32.toInt_toInt64 y
theorem gz_inF {x : Int32} {l a b : Int64} {A B : Int} (h : l.toInt < a.toInt ∨ b.toInt < l.toInt) (e : l = x.toInt64) (ha : a.toInt = A) (hb : b.toInt = B) : x.toInt < A ∨ B < x.toInt := by
  have h1 := gz_l2e e
  omega
theorem gz_inT {x : Int32} {l a b : Int64} {A B : Int} (h : a.toInt ≤ l.toInt ∧ l.toInt ≤ b.toInt) (e : l = x.toInt64) (ha : a.toInt = A) (hb : b.toInt = B) : A ≤ x.toInt ∧ x.toInt ≤ B := by
  have h1 := gz_l2e e
  omega
theorem gz_llt {x y : Int64} (h : lg_cmp x y < 0) : x.toInt < y.toInt := Int64.lt_iff_toInt_lt.mp ((lg_cmp_lt x y).mp h)
theorem gz_lgt {x y : Int64} (h : 0 < lg_cmp x y) : y.toInt < x.toInt := Int64.lt_iff_toInt_lt.mp ((lg_cmp_gt x y).mp h)
theorem upd_self (f : Nat → Int32) (k : Nat) : upd f k (f k) = f := by
  funext j
  unfold upd
  split
  · rename_i h
    rw [h]
  · rfl
/-! families of objects that are written -/
theorem gz_famlen {n : Nat} {ra : Nat → Nat} {ci : Nat} {g : Nat → List Value} : (gz_fam n ra ci g).length = n := by
  unfold gz_fam
  rw [List.length_map, List.length_range]
theorem gz_famW {X Y : va_W} {n : Nat} {ra : Nat → Nat} {ci : Nat} {g : Nat → List Value} {j : Nat} (h : j < n) : (X ++ gz_fam n ra ci g ++ Y)[X.length + j]? = some (ra j, .inr (ci, g j)) := by
  rw [List.getElem?_append_left (by rw [List.length_append, gz_famlen]; omega), List.getElem?_append_right (by omega), Nat.add_sub_cancel_left]
  exact gz_fam_at h
theorem gz_famS {X Y : va_W} {n : Nat} {ra : Nat → Nat} {ci : Nat} {g g2 : Nat → List Value} {j : Nat} {e : List Value} (h : j < n) (hj : g2 j = e) (hg : ∀ i, i ≠ j → g2 i = g i) : (X ++ gz_fam n ra ci g ++ Y).set (X.length + j) (ra j, .inr (ci, e)) = X ++ gz_fam n ra ci g2 ++ Y := by
  rw [List.append_assoc, List.append_assoc, List.set_append_right _ _ (by omega), Nat.add_sub_cancel_left, List.set_append_left _ _ (by rw [gz_famlen]; exact h)]
  congr 2
  apply List.ext_getElem?
  intro i
  by_cases hi : i = j
  · subst hi
    rw [List.getElem?_set_self (by rw [gz_famlen]; exact h), gz_fam_at h, hj]
  · rw [List.getElem?_set_ne (Ne.symm hi)]
    by_cases hn : i < n
    · rw [gz_fam_at hn, gz_fam_at hn, hg i hi]
    · rw [List.getElem?_eq_none (by rw [gz_famlen]; omega), List.getElem?_eq_none (by rw [gz_famlen]; omega)]
/-- cells of the written world that a callee only looks at lie apart from those that it writes -/
theorem gz_apWs {D : va_G} {cl : List vw_C} {A : Nat → Prop} {ws wc wf : va_W} {H : Heap} (hD : va_D A ws) (hP : va_P D cl ws H) (isC isF : List Nat) (hC : isC.map (fun i => ws[i]?) = wc.map some) (hF : isF.map (fun i => ws[i]?) = wf.map some) (hd : ∀ i ∈ isF, i ∉ isC) : gz_ap (va_A wc H.size) wf := by
  intro k p hp
  obtain ⟨i, hi, hq⟩ := va_in_of isF hF hp
  exact gz_apW (q := p) hD hP isC hC i (hd i (List.mem_of_getElem? hi)) hq 0 p rfl
theorem gz_fullF {A : Nat → Prop} {ws : va_W} {H0 H : Heap} {locs : List Loc} (hD : va_D A ws) (hS : va_S A H0 H locs) (hA : ∀ q, H0.size ≤ q → A q) : ∀ q, va_A ws H.size q → A q := fun q h => h.elim (fun ⟨k, e, h⟩ => hD.2 k (q, e) h) (fun h => hA q (Nat.le_trans hS.1 h))
theorem gz_fullD {A : Nat → Prop} {ws w1 : va_W} {n : Nat} (hF : ∀ q, va_A ws n q → A q) (hD1 : va_D (va_A ws n) w1) : va_D A w1 := hD1.weaken (fun _ _ _ h => hF _ h)
theorem gz_isc {x : Int32} {a : Int} (h : gi x a a) : x.toInt = a := Int.le_antisymm h.2 h.1
theorem gz_isnc {x : Int32} {a b c : Int} (h : gi x a b) (w : b < c ∨ c < a) : x.toInt ≠ c := by
  have := h.1; have := h.2
  omega
/-! what a call's entry keeps of a contract's start, piece by piece -/
def Bl (P : State → Prop) : Prop := ∀ (U : State) (g : JFrame) (mk : MethodId) (a : Array Value), P U → P (U.calling g mk a)
theorem bl_P {D : va_G} {cl : List vw_C} {ws : va_W} : Bl (fun U => va_P D cl ws U.heap) := fun _ _ _ _ h => h
theorem bl_sz {n : Nat} : Bl (fun U => U.heap.size = n) := fun _ _ _ _ h => h
theorem bl_K {D : va_G} {cl : List vw_C} {tys : List (ClassId × FieldType)} : Bl (fun U => va_K D cl tys U) := fun U g mk a h => va_K.moved (u := U) (U := U.calling g mk a) (Vm.Alike.refl U.vm) h
theorem bl_c {p : Prop} : Bl (fun _ => p) := fun _ _ _ _ h => h
theorem bl_a {P Q : State → Prop} (h1 : Bl P) (h2 : Bl Q) : Bl (fun U => P U ∧ Q U) := fun U g mk a h => ⟨h1 U g mk a h.1, h2 U g mk a h.2⟩
theorem bl_I {av : List Value} {P : State → Prop} (h : Bl P) : FrameBlind (va_Pc av P) := fun a U g mk q => ⟨q.1, h U g mk a q.2⟩
theorem bl_W {av : List Value} {n : Nat} {D : va_G} {cl : List vw_C} {ws : va_W} {tys : List (ClassId × FieldType)} : FrameBlind (va_Pc av (fun U => U.heap.size = n ∧ va_P D cl ws U.heap ∧ va_K D cl tys U ∧ va_D (fun _ => True) ws)) := bl_I (bl_a bl_sz (bl_a bl_P (bl_a bl_K bl_c)))
theorem bl_R {av : List Value} {D : va_G} {cl : List vw_C} {ws : va_W} {tys : List (ClassId × FieldType)} : FrameBlind (va_Pc av (fun U => va_P D cl ws U.heap ∧ va_K D cl tys U)) := bl_I (bl_a bl_P bl_K)
/-! a callee's cells out of the world, and back into their places -/
theorem gz_at {D : va_G} {cl : List vw_C} {w : va_W} {t : State} {H : Heap} (h : t.heap = H) (hP : va_P D cl w t.heap) : va_P D cl w H := h ▸ hP
theorem gz_both {D : va_G} {cl : List vw_C} {A : Nat → Prop} {w : va_W} {H : Heap} (hP : va_P D cl w H) (hD : va_D A w) : va_P D cl w H ∧ va_D A w := ⟨hP, hD⟩
theorem gz_cut {D : va_G} {cl : List vw_C} {A : Nat → Prop} {ws wc : va_W} {H0 H : Heap} {locs : List Loc} (hP : va_P D cl ws H) (hD : va_D A ws) (hS : va_S A H0 H locs) (hA : ∀ q, H0.size ≤ q → A q) (is : List Nat) (hn : va_nd is = true) (hC : is.map (fun i => ws[i]?) = wc.map some) : va_P D cl wc H ∧ va_D A wc ∧ ∀ q, va_A wc H.size q → A q := ⟨fun k q hk => (va_in_of is hC hk).elim (fun i h => hP i q h.2), hD.sub is hn hC, va_free hD hS hA is hC⟩
def gz_put (ws : va_W) : List Nat → va_W → va_W
  | i :: is, c :: cs => (gz_put ws is cs).set i c
  | _, _ => ws
theorem gz_put_at {ws : va_W} : ∀ (is : List Nat) (cs : va_W), cs.length = is.length → ∀ (k : Nat) (q : Nat × va_E), (gz_put ws is cs)[k]? = some q → (∃ j : Nat, is[j]? = some k ∧ cs[j]? = some q) ∨ (ws[k]? = some q ∧ k ∉ is)
  | [], [], _, k, q, h => Or.inr ⟨h, List.not_mem_nil⟩
  | [], _ :: _, hl, _, _, _ => by simp at hl
  | _ :: _, [], hl, _, _, _ => by simp at hl
  | i :: is, c :: cs, hl, k, q, h => by
    have h : ((gz_put ws is cs).set i c)[k]? = some q := h
    by_cases e : i = k
    · subst e
      have hlt : i < ((gz_put ws is cs).set i c).length := (List.getElem?_eq_some_iff.mp h).1
      rw [List.length_set] at hlt
      rw [List.getElem?_set_self hlt] at h
      exact Or.inl ⟨0, rfl, h⟩
    · rw [List.getElem?_set_ne e] at h
      rcases gz_put_at is cs (Nat.succ.inj hl) k q h with ⟨j, h1, h2⟩ | ⟨h1, h2⟩
      · exact Or.inl ⟨j + 1, h1, h2⟩
      · refine Or.inr ⟨h1, fun hm => ?_⟩
        rcases List.mem_cons.mp hm with h3 | h3
        · exact e h3.symm
        · exact h2 h3
theorem gz_back {A0 : Nat → Prop} {D : va_G} {cl : List vw_C} {ws wc w1 : va_W} {H H1 : Heap} (hP : va_P D cl ws H) (hD : va_D A0 ws) (hk : ∀ q : Nat, q < H.size → ¬ va_A wc H.size q → H1[q]? = H[q]?) (hF : ∀ q, va_A wc H.size q → A0 q) (hP1 : va_P D cl w1 H1) (hD1 : va_D (va_A wc H.size) w1) (is : List Nat) (hC : is.map (fun i => ws[i]?) = wc.map some) (hl : w1.length = is.length) : va_P D cl (gz_put ws is w1) H1 ∧ va_D A0 (gz_put ws is w1) := by
  have inC : ∀ (j : Nat) (q : Nat × va_E), wc[j]? = some q → ∃ i, is[j]? = some i ∧ ws[i]? = some q := by
    intro j q hq
    have h1 : (is.map (fun i => ws[i]?))[j]? = some (some q) := by rw [hC, List.getElem?_map, hq]; rfl
    rw [List.getElem?_map] at h1
    cases hi : is[j]? with
    | none => rw [hi] at h1; cases h1
    | some i => rw [hi] at h1; exact ⟨i, rfl, Option.some.inj h1⟩
  have out : ∀ (k : Nat) (q : Nat × va_E), ws[k]? = some q → k ∉ is → q.1 < H.size ∧ ¬ va_A wc H.size q.1 := by
    intro k q hq hni
    have hlt := (hP k q hq).lt
    refine ⟨hlt, fun h => ?_⟩
    rcases h with ⟨j, e, h⟩ | h
    · obtain ⟨i, h1, h2⟩ := inC j (q.1, e) h
      have : k = i := hD.1 k i q (q.1, e) hq h2 rfl
      exact hni (this ▸ List.mem_of_getElem? h1)
    · omega
  refine ⟨fun k q hq => ?_, fun i j p q hi hj hpq => ?_, fun k q hq => ?_⟩
  · rcases gz_put_at is w1 hl k q hq with ⟨j, -, h2⟩ | ⟨h1, h2⟩
    · exact hP1 j q h2
    · obtain ⟨g1, g2⟩ := out k q h1 h2
      exact (hP k q h1).kept (hk q.1 g1 g2)
  · rcases gz_put_at is w1 hl i p hi with ⟨a, h1, h2⟩ | ⟨h1, h2⟩
    · rcases gz_put_at is w1 hl j q hj with ⟨b, h3, h4⟩ | ⟨h3, h4⟩
      · have hab : a = b := hD1.1 a b p q h2 h4 hpq
        subst hab
        exact Option.some.inj (h1.symm.trans h3)
      · exact ((out j q h3 h4).2 (by rw [← hpq]; exact hD1.2 a p h2)).elim
    · rcases gz_put_at is w1 hl j q hj with ⟨b, h3, h4⟩ | ⟨h3, h4⟩
      · exact ((out i p h1 h2).2 (by rw [hpq]; exact hD1.2 b q h4)).elim
      · exact hD.1 i j p q h1 h3 hpq
  · rcases gz_put_at is w1 hl k q hq with ⟨j, -, h2⟩ | ⟨h1, -⟩
    · exact hF _ (hD1.2 j q h2)
    · exact hD.2 k q h1
/-! a method's instructions, all at once -/
def dkAll (c : ByteArray) : List (Nat × Instr × Nat) → Bool
  | [] => true
  | q :: l => decide (decode c q.1 = .ok (q.2.1, q.2.2)) && dkAll c l
theorem dk_at {c : ByteArray} {L : List (Nat × Instr × Nat)} (h : dkAll c L = true) (k : Nat) {pc n : Nat} {i : Instr} (hk : L[k]? = some (pc, i, n)) : decode c pc = .ok (i, n) := by
  induction L generalizing k with
  | nil => simp at hk
  | cons q l ih =>
    have h : (decide (decode c q.1 = .ok (q.2.1, q.2.2)) && dkAll c l) = true := h
    rw [Bool.and_eq_true] at h
    cases k with
    | zero =>
      have e : some q = some (pc, i, n) := hk
      cases e
      exact of_decide_eq_true h.1
    | succ k => exact ih h.2 k hk
/-! words one by one; a walk beside its plain function -/
theorem gz_all {w : Cond} {l : List Cond} (h1 : goodWord w = true) (h2 : l.all goodWord = true) : (w :: l).all goodWord = true := by
  rw [List.all_cons, h1, h2]
  rfl
def cal {α β : Type} (f : α → β) (a : α) : β := f a
theorem gf_pos {α : Type} {c : Prop} {h : Decidable c} {a b r : α} (hc : c) (hF : (@ite α c h a b) = r) : a = r := by rw [if_pos hc] at hF; exact hF
theorem gf_neg {α : Type} {c : Prop} {h : Decidable c} {a b r : α} (hc : ¬ c) (hF : (@ite α c h a b) = r) : b = r := by rw [if_neg hc] at hF; exact hF
theorem gf_call {α β : Type} {f : α → β} {a b : α} {r : β} (hE : a = b) (hF : cal f b = r) : f a = r := by rw [hE]; exact hF

