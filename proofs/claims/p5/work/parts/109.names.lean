def pfst (Q : Nat → Bool) : Nat → Nat → Int32
  | 0, _ => -1
  | k + 1, p => if Q p = true then nI p else pfst Q k (p + 1)
theorem pfst_eq {P Q : Nat → Bool} : ∀ k p : Nat, (∀ j, p ≤ j → j < p + k → P j = Q j) → pfst P k p = pfst Q k p := by
  sorry
theorem pfst_cases (Q : Nat → Bool) : ∀ k p : Nat, pfst Q k p = -1 ∨ ∃ j, p ≤ j ∧ j < p + k ∧ Q j = true ∧ pfst Q k p = nI j := by
  sorry
theorem px_placeNamedL {m : Nat} (nm : Nat → Int32) (x : Int32) (hm : m ≤ 6) : ∀ k p z : Nat, p + k = m → k < z → lfX0_placeNamed (nI m) nm x z (nI p) = pfst (fun j => decide (nm j = x)) k p := by
  sorry
theorem px_placeNamed {m : Nat} (nm : Nat → Int32) (x : Int32) (hm : m ≤ 6) : fX0_placeNamed (nI m) nm x = pfst (fun j => decide (nm j = x)) m 0 := px_placeNamedL nm x hm m 0 1000000000 (by omega) (by omega)
def gsn (f : Nat → Int32) (s e k : Nat) : Int32 := if k < e - s then f (s + k) else 0
theorem gsn_lt {f : Nat → Int32} {s e k : Nat} (h : k < e - s) : gsn f s e k = f (s + k) := if_pos h
theorem gsn_ge {f : Nat → Int32} {s e k : Nat} (h : ¬ k < e - s) : gsn f s e k = 0 := if_neg h
def gall (lt f : Nat → Int32) (s e p : Nat) : Nat → Nat → Bool
  | 0, _ => true
  | k + 1, j => if lt (6 * p + j) = gsn f s e j then gall lt f s e p k (j + 1) else false
theorem gall_s (lt f : Nat → Int32) (s e p k j : Nat) : gall lt f s e p (k + 1) j = if lt (6 * p + j) = gsn f s e j then gall lt f s e p k (j + 1) else false := rfl
def gmt (lt f : Nat → Int32) (s e p : Nat) : Bool := if e - s ≤ 6 then gall lt f s e p 6 0 else false
theorem pr_ix {p j : Nat} (hp : p ≤ 6) (hj : j ≤ 6) : (((6 : Int32) * nI p) + nI j).toNatClampNeg = 6 * p + j := by
  sorry
theorem pr_namedI {mi tp lt : Nat → Int32} {n m s e p k : Nat} (hm : m ≤ 6) (hp : p + (k + 1) = m) (hn : n ≤ 1600) (hse : s ≤ e) (hen : e ≤ n) (h29 : mi 29 = nI e) (h30 : mi 30 = nI s) (ih : ∀ z : Nat, 10 * k + 2 < z → (lfX12_named mi tp lt z).1 (nI (p + 1)) = pfst (gmt lt tp s e) k (p + 1)) : ∀ i j z : Nat, j + i = 6 → 10 * k + i + 4 < z → ((lfX12_named mi tp lt z).2 (nI p) 1 (nI j) = if gall lt tp s e p i j = true then nI p else pfst (gmt lt tp s e) k (p + 1)) ∧ (lfX12_named mi tp lt z).2 (nI p) 0 (nI j) = pfst (gmt lt tp s e) k (p + 1) := by
  sorry
theorem pr_namedL {mi tp lt : Nat → Int32} {n m s e : Nat} (hm : m ≤ 6) (hn : n ≤ 1600) (hse : s ≤ e) (hen : e ≤ n) (h7 : mi 7 = nI m) (h29 : mi 29 = nI e) (h30 : mi 30 = nI s) : ∀ k p z : Nat, p + k = m → 10 * k + 2 < z → (lfX12_named mi tp lt z).1 (nI p) = pfst (gmt lt tp s e) k p := by
  sorry
theorem pr_named {mi tp lt : Nat → Int32} {n m s e : Nat} (hm : m ≤ 6) (hn : n ≤ 1600) (hse : s ≤ e) (hen : e ≤ n) (h7 : mi 7 = nI m) (h29 : mi 29 = nI e) (h30 : mi 30 = nI s) : fX12_named mi tp lt = pfst (gmt lt tp s e) m 0 := pr_namedL hm hn hse hen h7 h29 h30 m 0 1000000000 (by omega) (by omega)
def pdg (x : Int) : Int := if cL x = true then x - 96 else 0
theorem pdg_m : pdg (-1 : Int32).toInt = pdg (0 : Int32).toInt := by decide
theorem pdg_le (x : Int) : 0 ≤ pdg x ∧ pdg x ≤ 26 := by
  sorry
def pcod (g : Nat → Int) : Nat → Nat → Int → Int
  | 0, _, v => v
  | k + 1, j, v => pcod g k (j + 1) (27 * v + pdg (g j))
theorem pcod_s (g : Nat → Int) (k j : Nat) (v : Int) : pcod g (k + 1) j v = pcod g k (j + 1) (27 * v + pdg (g j)) := rfl
theorem pw27 : ∀ i : Nat, (1 : Int) ≤ 27 ^ i := by
  sorry
theorem lnh_s (a b c : Int32) (bt : Nat → Int32) (z : Nat) (v j : Int32) : lfX6_nameHere a b c bt (z + 1) v j = dfX6_nameHere_4 a b c bt (lfX6_nameHere a b c bt z) v j := rfl
theorem px_nh1 {bt : Nat → Int32} {n s e j : Nat} {K : Int32 → Int32 → Int32} {v : Int32} (hn : n ≤ 1600) (hse : s ≤ e) (hen : e ≤ n) (hj : j < 6) (h1 : j < e - s) : dfX6_nameHere_4 (nI s) (nI e) (nI n) bt K v (nI j) = bfX6_nameHere_37 (nI s) (nI e) (nI n) bt K v (nI j) (bt (s + j)) := by
  sorry
theorem px_nh0 {bt : Nat → Int32} {n s e j : Nat} {K : Int32 → Int32 → Int32} {v : Int32} (hn : n ≤ 1600) (hse : s ≤ e) (hen : e ≤ n) (hj : j < 6) (h1 : ¬ j < e - s) : dfX6_nameHere_4 (nI s) (nI e) (nI n) bt K v (nI j) = bfX6_nameHere_37 (nI s) (nI e) (nI n) bt K v (nI j) (-1) := by
  sorry
theorem px_nameL {bt : Nat → Int32} {n s e : Nat} (hn : n ≤ 1600) (hse : s ≤ e) (hen : e ≤ n) : ∀ (i j z : Nat) (v : Int32) (V : Int), j + i = 6 → i < z → v.toInt = V → 0 ≤ V → V * 27 ^ i + 27 ^ i ≤ 387420489 → (lfX6_nameHere (nI s) (nI e) (nI n) bt z v (nI j)).toInt = pcod (fun k => (gsn bt s e k).toInt) i j V := by
  sorry
theorem px_name {bt : Nat → Int32} {n s e : Nat} (hn : n ≤ 1600) (hse : s ≤ e) (hen : e ≤ n) : (fX6_nameHere (nI s) (nI e) (nI n) bt).toInt = pcod (fun k => (gsn bt s e k).toInt) 6 0 0 := by
  sorry
theorem pcod_inj {g h : Nat → Int} : ∀ (k j : Nat) (u v : Int), pcod g k j u = pcod h k j v ↔ (u = v ∧ ∀ i, j ≤ i → i < j + k → pdg (g i) = pdg (h i)) := by
  sorry
