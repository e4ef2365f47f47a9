theorem pcod_le (g : Nat → Int) : ∀ (k j : Nat) (v : Int), v * 27 ^ k ≤ pcod g k j v ∧ pcod g k j v < (v + 1) * 27 ^ k := by
  sorry
def lexl (g h : Nat → Int) : Nat → Nat → Bool
  | 0, _ => false
  | k + 1, j => if g j = h j then lexl g h k (j + 1) else decide (g j < h j)
theorem lexl_s (g h : Nat → Int) (k j : Nat) : lexl g h (k + 1) j = if g j = h j then lexl g h k (j + 1) else decide (g j < h j) := rfl
theorem pdg_mono {x y : Int} (hx : isz x) (hy : isz y) (h : x < y) : pdg x < pdg y := by
  sorry
theorem pcod_lt {g h : Nat → Int} : ∀ (k j : Nat) (v : Int), (∀ i, j ≤ i → i < j + k → isz (g i) ∧ isz (h i)) → (pcod g k j v < pcod h k j v ↔ lexl g h k j = true) := by
  sorry
theorem na_s (lt : Nat → Int32) (a b : Int32) (z : Nat) (v : Int32) : lfX12_isNameAhead lt a b (z + 1) v = dfX12_isNameAhead_2 lt a b (lfX12_isNameAhead lt a b z) v := rfl
theorem na_L {lt : Nat → Int32} {p q : Nat} (hp : p ≤ 6) (hq : q ≤ 6) : ∀ (k j z : Nat), j + k = 6 → k < z → lfX12_isNameAhead lt (nI p) (nI q) z (nI j) = if lexl (fun i => (lt (6 * p + i)).toInt) (fun i => (lt (6 * q + i)).toInt) k j = true then 1 else 0 := by
  sorry
theorem na_eq {nm lt : Nat → Int32} {m p q : Nat} (hm : m ≤ 6) (hN : NM m nm lt) (hp : p < m) (hq : q < m) : fX12_isNameAhead lt (nI p) (nI q) = if (nm p).toInt < (nm q).toInt then 1 else 0 := by
  sorry
theorem nh_s (pc : Int32) (nm : Nat → Int32) (p : Int32) (z : Nat) (a b : Int32) : lfX0_namesAhead pc nm p (z + 1) a b = dfX0_namesAhead_4 pc nm p (lfX0_namesAhead pc nm p z) a b := rfl
theorem nh_L {nm : Nat → Int32} {m : Nat} (hm : m ≤ 6) (p : Int32) : ∀ (k i a z : Nat), i + k = m → k < z → lfX0_namesAhead (nI m) nm p z (nI a) (nI i) = nI (a + cs (fun j => decide ((nm j).toInt < (nm p.toNatClampNeg).toInt)) k i) := by
  sorry
theorem pc_s1 (mi tr lt rp st : Nat → Int32) (p1 p2 : Int32) (z : Nat) (a b : Int32) : (lfX12_place mi tr lt rp st p1 p2 (z + 1)).1 a b = dfX12_place_28 mi tr lt rp st p1 p2 (lfX12_place mi tr lt rp st p1 p2 z) a b := rfl
theorem pc_s2 (mi tr lt rp st : Nat → Int32) (p1 p2 : Int32) (z : Nat) (a b c : Int32) : (lfX12_place mi tr lt rp st p1 p2 (z + 1)).2 a b c = dfX12_place_67 mi tr lt rp st p1 p2 (lfX12_place mi tr lt rp st p1 p2 z) a b c := rfl
theorem pc_L2 {mi tr lt rp st : Nat → Int32} {r : Nat} {p1 p2 : Int32} (hr : r ≤ 24) (h10 : mi 10 = nI r) (x : Int32) : ∀ (k i a z : Nat), i + k = r → k < z → (lfX12_place mi tr lt rp st p1 p2 z).2 x (nI a) (nI i) = if p2 = 0 then tr p1.toNatClampNeg else if p2 = 1 then x else nI (a + cs (fun j => decide (rp j = p1 ∧ st j = 0)) k i) := by
  sorry
theorem pc_L1 {mi tr lt rp st nm : Nat → Int32} {m r : Nat} {p1 p2 : Int32} (hm : m ≤ 6) (hr : r ≤ 24) (h7 : mi 7 = nI m) (h10 : mi 10 = nI r) (hN : NM m nm lt) (hp : p1.toNatClampNeg < m) (hp1 : p1 = nI p1.toNatClampNeg) : ∀ (k i a z : Nat), i + k = m → k + r + 1 < z → (lfX12_place mi tr lt rp st p1 p2 z).1 (nI a) (nI i) = if p2 = 0 then tr p1.toNatClampNeg else if p2 = 1 then nI (a + cs (fun j => decide ((nm j).toInt < (nm p1.toNatClampNeg).toInt)) k i) else nI (cs (fun j => decide (rp j = p1 ∧ st j = 0)) r 0) := by
  sorry
theorem fl_place {mi nm lt xt yt xp yp xs ys : Nat → Int32} {m r : Nat} (hm : m ≤ 6) (hr : r ≤ 24) (h7 : mi 7 = nI m) (h10 : mi 10 = nI r) (hN : NM m nm lt) (hE1 : ∀ j, j < m → xt j = yt j) (hE2 : ∀ j, j < r → xp j = yp j ∧ xs j = ys j) (p1 p2 : Int32) : fX11_place (nI m) (nI r) nm xt xp xs p1 p2 = fX12_place mi yt lt yp ys p1 p2 := by
  sorry
