/-! rows of our own that every walk uses -/
theorem gz_topi {p : Program} {l : Launch} {e : Env} {R : Room} {s : State} {m : MethodId} {args : Array Value} {below : List Frame} {meth : Method} {c : Code} {H : Heap} {locs : List Loc} {cells slots : Nat} {Q : State → Prop} {pc : Nat} {ls : Array Slot} {rest : List Value} {x y : Int32} (h : x = y) (k : W p l e R s m args below meth c H locs cells slots Q (F0 m pc ls (.int y :: rest))) : W p l e R s m args below meth c H locs cells slots Q (F0 m pc ls (.int x :: rest)) := h ▸ k
/-- a call that changes nothing: the world stays -/
theorem gz_keep {D : va_G} {cl : List vw_C} {ws : va_W} {H H1 : Heap} (hP : va_P D cl ws H) (hk : ∀ q : Nat, q < H.size → ¬ (fun _ : Nat => False) q → H1[q]? = H[q]?) : va_P D cl ws H1 := by
  intro k q hq
  have h := hP k q hq
  obtain ⟨a, o | o⟩ := q
  · have h : H[a]? = some (vp_cell o.1 o.2) := h
    show H1[a]? = some (vp_cell o.1 o.2)
    rw [hk a (Array.getElem?_eq_some_iff.mp h).1 (fun f => f)]
    exact h
  · obtain ⟨r, h1, h2⟩ := h
    obtain ⟨cell, hc, -⟩ := id h2
    exact ⟨r, h1, h2.kept (hk a (Array.getElem?_eq_some_iff.mp hc).1 (fun f => f))⟩
theorem gz_nle {x : Int32} (h : ¬ x < 0) : 0 ≤ x := Int32.not_lt.mp h
theorem gz_sw (x : Int32) (n : Nat) (hn : n < 2 ^ 31) {N : Int} (hN : N = (n : Int) := by rfl) : (x.toInt < 0 ∨ N < x.toInt) ∨ ∃ j : Nat, j ≤ n ∧ x = nI j := by
  subst hN
  by_cases h : x < 0
  · exact Or.inl (Or.inl (by simpa [Int32.lt_iff_toInt_lt] using h))
  · obtain ⟨j, hj, rfl⟩ := nI_of h
    by_cases hjn : j ≤ n
    · exact Or.inr ⟨j, hjn, rfl⟩
    · refine Or.inl (Or.inr ?_)
      rw [nI_toInt hj]
      omega
def gz_fault (x : Int32) : Int32 := if x = 0 then 0 else (-1)
def gz_count (x : Int32) : Int32 := if 0 ≤ x.toInt ∧ x.toInt ≤ 10 then 0 else (-1)
theorem gz_count_out {x : Int32} (h : x.toInt < 0 ∨ 10 < x.toInt) : (-1) = gz_count x := by
  unfold gz_count
  rw [if_neg (by omega)]
def gz_in (v lo hi : Int64) : Int32 := if lo ≤ v ∧ v ≤ hi then 1 else 0
theorem gz_in_lt {v lo hi : Int64} (h : lg_cmp v lo < 0) : 0 = gz_in v lo hi := by
  have h1 : v < lo := (lg_cmp_lt v lo).mp h
  unfold gz_in
  rw [if_neg (fun q => absurd (Int64.lt_of_le_of_lt q.1 h1) (Int64.lt_irrefl lo))]
theorem gz_in_gt {v lo hi : Int64} (h : 0 < lg_cmp v hi) : 0 = gz_in v lo hi := by
  have h1 : hi < v := (lg_cmp_gt v hi).mp h
  unfold gz_in
  rw [if_neg (fun q => absurd (Int64.lt_of_le_of_lt q.2 h1) (Int64.lt_irrefl v))]
theorem gz_in_yes {v lo hi : Int64} (h : ¬ lg_cmp v lo < 0) (h2 : ¬ 0 < lg_cmp v hi) : 1 = gz_in v lo hi := by
  have h1 : lo ≤ v := Int64.not_lt.mp (fun q => h ((lg_cmp_lt v lo).mpr q))
  have h3 : v ≤ hi := Int64.not_lt.mp (fun q => h2 ((lg_cmp_gt v hi).mpr q))
  unfold gz_in
  rw [if_pos ⟨h1, h3⟩]
theorem gz_in_none (v : Int64) : gz_in v 0 (-1) = 0 := by
  unfold gz_in
  rw [if_neg (fun q => absurd (Int64.le_trans q.1 q.2) (by decide))]

