/-! what is kept, and laid back -/
theorem mv_k {kept row kept' : Nat → Int32} {at0 a k k2 x : Int32} (h : ∀ j : Nat, (j : Int) < k.toInt → kept (at0.toNatClampNeg + j) = row j) (hk0 : 0 ≤ k.toInt) (ha0 : 0 ≤ at0.toInt) (ha : a.toInt = at0.toInt + k.toInt) (ex : x = row k.toNatClampNeg) (e : kept' = upd kept a.toNatClampNeg x) (hk : k2.toInt = k.toInt + 1) : ∀ j : Nat, (j : Int) < k2.toInt → kept' (at0.toNatClampNeg + j) = row j := by
  intro j hj
  have h1 : a.toNatClampNeg = at0.toNatClampNeg + k.toNatClampNeg := by show a.toInt.toNat = at0.toInt.toNat + k.toInt.toNat; omega
  have h2 : (k.toNatClampNeg : Int) = k.toInt := by show ((k.toInt.toNat : Nat) : Int) = _; omega
  rw [e, h1]
  unfold upd
  by_cases hjk : j = k.toNatClampNeg
  · rw [if_pos (by omega), ex, hjk]
  · rw [if_neg (by omega)]
    exact h j (by omega)
theorem mv_f {kept kept0 kept' : Nat → Int32} {at0 a k x : Int32} (h : ∀ j : Nat, j < at0.toNatClampNeg → kept j = kept0 j) (hk0 : 0 ≤ k.toInt) (ha0 : 0 ≤ at0.toInt) (ha : a.toInt = at0.toInt + k.toInt) (e : kept' = upd kept a.toNatClampNeg x) : ∀ j : Nat, j < at0.toNatClampNeg → kept' j = kept0 j := by
  intro j hj
  have h1 : a.toNatClampNeg = at0.toNatClampNeg + k.toNatClampNeg := by show a.toInt.toNat = at0.toInt.toNat + k.toInt.toNat; omega
  rw [e]
  unfold upd
  rw [if_neg (by omega)]
  exact h j hj
theorem mv_r {kept row row' : Nat → Int32} {at0 a k k2 x : Int32} (h : ∀ j : Nat, (j : Int) < k.toInt → row j = kept (at0.toNatClampNeg + j)) (hk0 : 0 ≤ k.toInt) (ha0 : 0 ≤ at0.toInt) (ha : a.toInt = at0.toInt + k.toInt) (ex : x = kept a.toNatClampNeg) (e : upd row k.toNatClampNeg x = row') (hk : k2.toInt = k.toInt + 1) : ∀ j : Nat, (j : Int) < k2.toInt → row' j = kept (at0.toNatClampNeg + j) := by
  intro j hj
  have h1 : a.toNatClampNeg = at0.toNatClampNeg + k.toNatClampNeg := by show a.toInt.toNat = at0.toInt.toNat + k.toInt.toNat; omega
  have h2 : (k.toNatClampNeg : Int) = k.toInt := by show ((k.toInt.toNat : Nat) : Int) = _; omega
  rw [← e]
  unfold upd
  by_cases hjk : j = k.toNatClampNeg
  · rw [if_pos hjk, ex, h1, hjk]
  · rw [if_neg hjk]
    exact h j (by omega)
theorem gz_cn {x : Int32} {n : Nat} {a b : Int} (h : gi x a b) (ha : a = (n : Int) ∧ b = (n : Int)) : x.toNatClampNeg = n := by
  have h1 := h.1; have h2 := h.2
  show x.toInt.toNat = n
  omega
def rkP (k : Nat → Int32) : Prop := gi (k 0) 0 24 ∧ gi (k 1) 0 5 ∧ gi (k 2) 0 5 ∧ gi (k 7) 0 6 ∧ gi (k 8) 0 24 ∧ gi (k 9) 0 8 ∧ ((k 3).toInt = 0 ∨ (2 ≤ (k 0).toInt ∧ (k 0).toInt ≤ 24 ∧ 1 ≤ (k 1).toInt ∧ (k 1).toInt ≤ 5 ∧ 1 ≤ (k 2).toInt ∧ (k 2).toInt ≤ 5)) ∧ ga (fun j => k (52 + j)) 24 0 5 ∧ ga (fun j => k (100 + j)) 24 0 23 ∧ ga (fun j => k (124 + j)) 24 0 999 ∧ ga (fun j => k (148 + j)) 24 0 999 ∧ ga (fun j => k (172 + j)) 8 0 23 ∧ ga (fun j => k (188 + j)) 8 0 600 ∧ ∀ j : Nat, j < 8 → ((k (196 + j)).toInt ≠ 0 ∨ (k (172 + j)).toInt + (k (188 + j)).toInt ≤ 23)
theorem rk_congr {k k' : Nat → Int32} (h : ∀ j : Nat, j < 204 → k' j = k j) (hk : rkP k) : rkP k' := by
  obtain ⟨h0, h1, h2, h3, h4, h5, h6, h7, h8, h9, h10, h11, h12, h13⟩ := hk
  have e : ∀ j : Nat, j < 204 → k' j = k j := h
  have ag : ∀ (o n : Nat) (a b : Int), o + n ≤ 204 → ga (fun j => k (o + j)) n a b → ga (fun j => k' (o + j)) n a b := fun o n a b ho hg j hj => by
    show gi (k' (o + j)) a b
    rw [e (o + j) (by omega)]
    exact hg j hj
  refine ⟨?_, ?_, ?_, ?_, ?_, ?_, ?_, ag 52 24 0 5 (by omega) h7, ag 100 24 0 23 (by omega) h8, ag 124 24 0 999 (by omega) h9, ag 148 24 0 999 (by omega) h10, ag 172 8 0 23 (by omega) h11, ag 188 8 0 600 (by omega) h12, fun j hj => ?_⟩
  · rw [e 0 (by omega)]; exact h0
  · rw [e 1 (by omega)]; exact h1
  · rw [e 2 (by omega)]; exact h2
  · rw [e 7 (by omega)]; exact h3
  · rw [e 8 (by omega)]; exact h4
  · rw [e 9 (by omega)]; exact h5
  · rw [e 3 (by omega), e 0 (by omega), e 1 (by omega), e 2 (by omega)]; exact h6
  · rw [e (196 + j) (by omega), e (172 + j) (by omega), e (188 + j) (by omega)]; exact h13 j hj
theorem rk_upd {k k' : Nat → Int32} {a x : Int32} {A B : Int} (hk : rkP k) (e : k' = upd k a.toNatClampNeg x) (ha : gi a A B) (hA : 204 ≤ A) : rkP k' := by
  refine rk_congr (k := k) (fun j hj => ?_) hk
  have h1 := ha.1
  have h2 : 204 ≤ a.toNatClampNeg := by show 204 ≤ a.toInt.toNat; omega
  rw [e]
  unfold upd
  rw [if_neg (by omega)]
/-- a row that is laid back has the bounds of what was kept -/
theorem ga_back {row kept : Nat → Int32} {at0 : Int32} {o n : Nat} {a b : Int} (h : ∀ j : Nat, (j : Int) < (n : Int) → row j = kept (at0.toNatClampNeg + j)) (h0 : at0.toNatClampNeg = o) (hg : ga (fun j => kept (o + j)) n a b) : ga row n a b := by
  intro j hj
  rw [h j (by omega), h0]
  exact hg j hj

