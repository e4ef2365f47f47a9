/-! words: of a family's list, of the tables -/
theorem goodIn_app {big a b : List Cond} (ha : GoodIn big a) (hb : GoodIn big b) : GoodIn big (a ++ b) := fun w h => (List.mem_append.mp h).elim (ha w) (hb w)
theorem gz_gP {G : List Cond} {c0 c : Cond} (hc : c ∈ G) (hg : G.all goodWord = true) : GoodIn (c0 :: G) (c :: G) := fun w h => by
  have h1 : w ∈ G := (List.mem_cons.mp h).elim (fun e => e ▸ hc) id
  exact ⟨List.mem_cons_of_mem _ h1, good_of_word (List.all_eq_true.mp hg w h1)⟩
theorem gz_gm {G : List Cond} {c0 c : Cond} (hc : c ∈ G) (hg : G.all goodWord = true) : c ∈ c0 :: G ∧ ((c.onTables && c.keeps) = true ∨ ∃ ty, c = .arrayClass ty) := ⟨List.mem_cons_of_mem _ hc, good_of_word (List.all_eq_true.mp hg c hc)⟩
theorem goodIn_cons {big ws : List Cond} {c : Cond} (h : c ∈ big ∧ ((c.onTables && c.keeps) = true ∨ ∃ ty, c = .arrayClass ty)) (hb : GoodIn big ws) : GoodIn big (c :: ws) := fun w hw => (List.mem_cons.mp hw).elim (fun e => e ▸ h) (hb w)
theorem goodIn_nil {big : List Cond} : GoodIn big [] := fun _ h => absurd h List.not_mem_nil
theorem gz_gV {G : List Cond} {c0 c : Cond} {own C : String} {idx : Nat} {y : MethodName} (h1 : Cond.methodLink own idx y ∈ G) (h2 : Cond.instanceMethod y ∈ G) (h3 : Cond.selects C y y ∈ G) (h4 : Cond.initialized C ∈ G) (hc : c ∈ G) (hg : G.all goodWord = true) : GoodIn (c0 :: G) (wsV own idx C y (c :: G)) :=
  goodIn_app (goodIn_cons (gz_gm h1 hg) (goodIn_cons (gz_gm h2 hg) (goodIn_cons (gz_gm h3 hg) (goodIn_cons (gz_gm h4 hg) goodIn_nil)))) (gz_gP hc hg)
theorem gz_gS {G : List Cond} {c0 c : Cond} {own : String} {idx : Nat} {y : MethodName} (h1 : Cond.methodLink own idx y ∈ G) (h2 : Cond.static y ∈ G) (h4 : Cond.initialized own ∈ G) (hc : c ∈ G) (hg : G.all goodWord = true) : GoodIn (c0 :: G) (wsS own idx y (c :: G)) :=
  goodIn_app (goodIn_cons (gz_gm h1 hg) (goodIn_cons (gz_gm h2 hg) (goodIn_cons (gz_gm h4 hg) goodIn_nil))) (gz_gP hc hg)
theorem gz_lP {G : List Cond} {c : Cond} (hc : c ∈ lw_tbl) (hl : ∀ w ∈ G, w ∈ lw_tbl) (hg : G.all goodWord = true) (hw : goodWord c = true := by rfl) : GoodIn lw_tbl (c :: G) := fun w h => (List.mem_cons.mp h).elim (fun e => e ▸ ⟨hc, good_of_word hw⟩) (fun h1 => ⟨hl w h1, good_of_word (List.all_eq_true.mp hg w h1)⟩)
theorem gz_lV {G : List Cond} {c : Cond} {own C : String} {idx : Nat} {y : MethodName} (h1 : Cond.methodLink own idx y ∈ lw_tbl) (h2 : Cond.instanceMethod y ∈ lw_tbl) (h3 : Cond.selects C y y ∈ lw_tbl) (h4 : Cond.initialized C ∈ lw_tbl) (hc : c ∈ lw_tbl) (hl : ∀ w ∈ G, w ∈ lw_tbl) (hg : G.all goodWord = true) (hw : goodWord c = true := by rfl) : GoodIn lw_tbl (wsV own idx C y (c :: G)) :=
  goodIn_app (goodIn_cons ⟨h1, good_of_word rfl⟩ (goodIn_cons ⟨h2, good_of_word rfl⟩ (goodIn_cons ⟨h3, good_of_word rfl⟩ (goodIn_cons ⟨h4, good_of_word rfl⟩ goodIn_nil)))) (gz_lP hc hl hg hw)
/-! rows of our own that every walk uses -/
theorem gz_topi {p : Program} {l : Launch} {e : Env} {R : Room} {s : State} {m : MethodId} {args : Array Value} {below : List Frame} {meth : Method} {c : Code} {H : Heap} {locs : List Loc} {cells slots : Nat} {Q : State → Prop} {pc : Nat} {ls : Array Slot} {rest : List Value} {x y : Int32} (h : x = y) (k : W p l e R s m args below meth c H locs cells slots Q (F0 m pc ls (.int y :: rest))) : W p l e R s m args below meth c H locs cells slots Q (F0 m pc ls (.int x :: rest)) := h ▸ k
/-- a call that changes nothing: the world stays -/
theorem gz_keep {D : va_G} {cl : List vw_C} {ws : va_W} {H H1 : Heap} (hP : va_P D cl ws H) (hk : ∀ q : Nat, q < H.size → ¬ (fun _ : Nat => False) q → H1[q]? = H[q]?) : va_P D cl ws H1 := by
  intro k q hq
  have h := hP k q hq
  obtain ⟨a, o | o⟩ := q
  · have h : H[a]? = some (vp_cell o.1 o.2) := h
    show H1[a]? = some (vp_cell o.1 o.2)
    rw [hk a (Array.getElem?_eq_some_iff.mp h).1 (fun f => f)]
    exact h
  · obtain ⟨r, h1, h2⟩ := h
    obtain ⟨cell, hc, -⟩ := id h2
    exact ⟨r, h1, h2.kept (hk a (Array.getElem?_eq_some_iff.mp hc).1 (fun f => f))⟩
theorem gz_nle {x : Int32} (h : ¬ x < 0) : 0 ≤ x := Int32.not_lt.mp h
theorem gz_sw (x : Int32) (n : Nat) (hn : n < 2 ^ 31) {N : Int} (hN : N = (n : Int) := by rfl) : (x.toInt < 0 ∨ N < x.toInt) ∨ ∃ j : Nat, j ≤ n ∧ x = nI j := by
  subst hN
  by_cases h : x < 0
  · exact Or.inl (Or.inl (by simpa [Int32.lt_iff_toInt_lt] using h))
  · obtain ⟨j, hj, rfl⟩ := nI_of h
    by_cases hjn : j ≤ n
    · exact Or.inr ⟨j, hjn, rfl⟩
    · refine Or.inl (Or.inr ?_)
      rw [nI_toInt hj]
      omega
def gz_fault (x : Int32) : Int32 := if x = 0 then 0 else (-1)
def gz_count (x : Int32) : Int32 := if 0 ≤ x.toInt ∧ x.toInt ≤ 10 then 0 else (-1)
theorem gz_count_out {x : Int32} (h : x.toInt < 0 ∨ 10 < x.toInt) : (-1) = gz_count x := by
  unfold gz_count
  rw [if_neg (by omega)]
def gz_in (v lo hi : Int64) : Int32 := if lo ≤ v ∧ v ≤ hi then 1 else 0
theorem gz_in_lt {v lo hi : Int64} (h : lg_cmp v lo < 0) : 0 = gz_in v lo hi := by
  have h1 : v < lo := (lg_cmp_lt v lo).mp h
  unfold gz_in
  rw [if_neg (fun q => absurd (Int64.lt_of_le_of_lt q.1 h1) Int64.lt_irrefl)]
theorem gz_in_gt {v lo hi : Int64} (h : 0 < lg_cmp v hi) : 0 = gz_in v lo hi := by
  have h1 : hi < v := (lg_cmp_gt v hi).mp h
  unfold gz_in
  rw [if_neg (fun q => absurd (Int64.lt_of_le_of_lt q.2 h1) Int64.lt_irrefl)]
theorem gz_in_yes {v lo hi : Int64} (h : ¬ lg_cmp v lo < 0) (h2 : ¬ 0 < lg_cmp v hi) : 1 = gz_in v lo hi := by
  have h1 : lo ≤ v := Int64.not_lt.mp (fun q => h ((lg_cmp_lt v lo).mpr q))
  have h3 : v ≤ hi := Int64.not_lt.mp (fun q => h2 ((lg_cmp_gt v hi).mpr q))
  unfold gz_in
  rw [if_pos ⟨h1, h3⟩]
theorem gz_in_none (v : Int64) : gz_in v 0 (-1) = 0 := by
  unfold gz_in
  rw [if_neg (fun q => absurd (Int64.le_trans q.1 q.2) (by decide))]
theorem gz_P0 {D : va_G} {cl : List vw_C} {H : Heap} : va_P D cl [] H := fun k q h => by simp at h
theorem gz_D0 {A : Nat → Prop} : va_D A [] := ⟨fun i j p q h => by simp at h, fun k q h => by simp at h⟩
theorem gz_upd0z (k : Nat) : upd (fun _ => 0) k (vp_nar .boolean 0) = (fun _ => 0) := by
  funext j
  unfold upd
  split
  · rfl
  · rfl
def gz_end (x : Int32) : Int32 := if x = 0 then 0 else (-1)
theorem gz_end_neg {x : Int32} (h : x < 0) : (-1) = gz_end x := by
  unfold gz_end
  rw [if_neg (fun q => by rw [q] at h; exact absurd h (by decide))]
theorem gz_end_pos {x : Int32} (h : ¬ x ≤ 0) : (-1) = gz_end x := by
  unfold gz_end
  rw [if_neg (fun q => by rw [q] at h; exact absurd (by decide) h)]
theorem gz_z {x : Int32} (h : ¬ x < 0) (h2 : x ≤ 0) : x = 0 := Int32.le_antisymm h2 (Int32.not_lt.mp h)
theorem gz_end_z {x : Int32} (h : ¬ x < 0) (h2 : x ≤ 0) : x = gz_end x := by
  rw [gz_z h h2]
  rfl
theorem gz_in_end (x : Int32) : gz_in x.toInt64 0 0 = if x = 0 then 1 else 0 := by
  unfold gz_in
  by_cases h : x = 0
  · rw [h]
    rfl
  · rw [if_neg h, if_neg]
    intro q
    have h2 : x.toInt64 = 0 := Int64.le_antisymm q.2 q.1
    apply h
    have h3 : x.toInt64.toInt32 = (0 : Int64).toInt32 := by rw [h2]
    simpa using h3
theorem gz_end_in0 {x r : Int32} (hw : r = gz_in x.toInt64 0 0) (h : r = 0) : (-1) = gz_end x := by
  rw [gz_in_end] at hw
  unfold gz_end
  split at hw
  · rw [h] at hw
    exact absurd hw (by decide)
  · rename_i hx
    rw [if_neg hx]
theorem gz_end_in1 {x r : Int32} (hw : r = gz_in x.toInt64 0 0) (h : ¬ r = 0) : x = gz_end x := by
  rw [gz_in_end] at hw
  split at hw
  · rename_i hx
    rw [hx]
    rfl
  · exact absurd hw h

