theorem i32le {a b : Int32} : a ≤ b ↔ a.toInt ≤ b.toInt := Int32.le_iff_toInt_le
theorem i32lt {a b : Int32} : a < b ↔ a.toInt < b.toInt := Int32.lt_iff_toInt_lt
theorem fl_trusts {mi xt yt : Nat → Int32} {m : Nat} (hm : m ≤ 6) (h7 : mi 7 = nI m) (hE : ∀ j, j < m → xt j = yt j) (cs ts hs p1 p2 : Int32) : (fX11_trusts cs ts hs (nI m) xt p1 p2).1 = (fX12_trusts mi yt p1 p2).1 ∧ ∀ j, j < m → (fX11_trusts cs ts hs (nI m) xt p1 p2).2.2.2.2 j = (fX12_trusts mi yt p1 p2).2 j := by
  sorry
theorem fl_moon {mi : Nat → Int32} (hM : 0 < (mi 0).toInt ↔ ¬ mi 3 = 0) (cs ts hs p1 p2 : Int32) : (fX11_moon cs ts hs (mi 0) (mi 4) (mi 5) (mi 6) p1 p2).1 = (fX12_moon mi p1 p2).1 ∧ (fX11_moon cs ts hs (mi 0) (mi 4) (mi 5) (mi 6) p1 p2).2.2.2.2 = (fX12_moon mi p1 p2).2 := by
  sorry
def cs (P : Nat → Bool) : Nat → Nat → Nat
  | 0, _ => 0
  | k + 1, i => (if P i = true then 1 else 0) + cs P k (i + 1)
theorem cs_0 (P : Nat → Bool) (i : Nat) : cs P 0 i = 0 := rfl
theorem cs_s (P : Nat → Bool) (k i : Nat) : cs P (k + 1) i = (if P i = true then 1 else 0) + cs P k (i + 1) := rfl
theorem so_s (rc : Int32) (xp st : Nat → Int32) (p : Int32) (z : Nat) (a b : Int32) : lfX0_standingOf rc xp st p (z + 1) a b = dfX0_standingOf_4 rc xp st p (lfX0_standingOf rc xp st p z) a b := rfl
theorem so_L {xp st : Nat → Int32} {r : Nat} (hr : r ≤ 24) (p : Int32) : ∀ (k i a z : Nat), i + k = r → k < z → lfX0_standingOf (nI r) xp st p z (nI a) (nI i) = nI (a + cs (fun j => decide (xp j = p ∧ st j = 0)) k i) := by
  sorry
def css (xp st : Nat → Int32) (r i : Nat) : Nat → Nat → Nat
  | 0, _ => 0
  | k + 1, q => cs (fun j => decide (xp j = nI q ∧ st j = 0)) r i + css xp st r i k (q + 1)
theorem css_0 (xp st : Nat → Int32) (r i q : Nat) : css xp st r i 0 q = 0 := rfl
theorem css_s (xp st : Nat → Int32) (r i k q : Nat) : css xp st r i (k + 1) q = cs (fun j => decide (xp j = nI q ∧ st j = 0)) r i + css xp st r i k (q + 1) := rfl
theorem sg_s (pc rc : Int32) (xp st : Nat → Int32) (z : Nat) (a b : Int32) : lfX0_standing pc rc xp st (z + 1) a b = dfX0_standing_4 pc rc xp st (lfX0_standing pc rc xp st z) a b := rfl
theorem sg_L {xp st : Nat → Int32} {m r : Nat} (hm : m ≤ 6) (hr : r ≤ 24) : ∀ (k q a z : Nat), q + k = m → k < z → lfX0_standing (nI m) (nI r) xp st z (nI a) (nI q) = nI (a + css xp st r 0 k q) := by
  sorry
def c1 (xp st : Nat → Int32) (i : Nat) : Nat → Nat → Nat
  | 0, _ => 0
  | k + 1, q => (if decide (xp i = nI q ∧ st i = 0) = true then 1 else 0) + c1 xp st i k (q + 1)
theorem c1_s (xp st : Nat → Int32) (i k q : Nat) : c1 xp st i (k + 1) q = (if decide (xp i = nI q ∧ st i = 0) = true then 1 else 0) + c1 xp st i k (q + 1) := rfl
theorem css_step (xp st : Nat → Int32) (r i : Nat) : ∀ k q : Nat, css xp st (r + 1) i k q = c1 xp st i k q + css xp st r (i + 1) k q := by
  sorry
theorem c1_no {xp st : Nat → Int32} {i w : Nat} (hw : xp i = nI w) (hw6 : w < 1000) : ∀ k q : Nat, q + k < 1000 → (w < q ∨ q + k ≤ w) → c1 xp st i k q = 0 := by
  sorry
theorem c1_yes {xp st : Nat → Int32} {i w : Nat} (hw : xp i = nI w) (hw6 : w < 1000) : ∀ k q : Nat, q + k < 1000 → q ≤ w → w < q + k → c1 xp st i k q = if decide (st i = 0) = true then 1 else 0 := by
  sorry
theorem css_all {xp st : Nat → Int32} {m : Nat} (hm : m ≤ 6) : ∀ (r i : Nat), (∀ j, i ≤ j → j < i + r → ∃ q, q < m ∧ xp j = nI q) → css xp st r i m 0 = cs (fun j => decide (st j = 0)) r i := by
  sorry
theorem sk_s (mi fs : Nat → Int32) (p1 : Int32) (z : Nat) (a b : Int32) (s : Nat → Int32) : lfX12_strikes mi fs p1 (z + 1) a b s = dfX12_strikes_34 mi fs p1 (lfX12_strikes mi fs p1 z) a b s := rfl
theorem sk_L {mi fs s : Nat → Int32} {r : Nat} {p1 : Int32} (hr : r ≤ 24) (h10 : mi 10 = nI r) : ∀ (k i a z : Nat), i + k = r → k < z → lfX12_strikes mi fs p1 z (nI a) (nI i) s = (nI (a + cs (fun j => decide (s j = 0)) k i), s) := by
  sorry
theorem cs_eq {P Q : Nat → Bool} : ∀ k i : Nat, (∀ j, i ≤ j → j < i + k → P j = Q j) → cs P k i = cs Q k i := by
  sorry
theorem fl_strikes {mi xp xs ys : Nat → Int32} {m r : Nat} (hm : m ≤ 6) (hr : r ≤ 24) (h10 : mi 10 = nI r) (hE : ∀ j, j < r → xs j = ys j ∧ ∃ q, q < m ∧ xp j = nI q) (cs_ ts hs p1 : Int32) : (fX11_strikes cs_ ts hs (nI m) (nI r) xp xs p1).1 = (fX12_strikes mi ys p1).1 ∧ ∀ j, j < r → (fX11_strikes cs_ ts hs (nI m) (nI r) xp xs p1).2.2.2.2 j = (fX12_strikes mi ys p1).2 j := by
  sorry
