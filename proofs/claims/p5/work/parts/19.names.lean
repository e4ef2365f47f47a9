/-! names of places -/
def pfst (Q : Nat → Bool) : Nat → Nat → Int32
  | 0, _ => -1
  | k + 1, p => if Q p = true then nI p else pfst Q k (p + 1)
theorem pfst_eq {P Q : Nat → Bool} : ∀ k p : Nat, (∀ j, p ≤ j → j < p + k → P j = Q j) → pfst P k p = pfst Q k p := by
  intro k
  induction k with
  | zero => intro p _; rfl
  | succ k ih =>
    intro p h
    unfold pfst
    rw [h p (Nat.le_refl _) (by omega), ih (p + 1) (fun j h1 h2 => h j (by omega) (by omega))]
theorem pfst_cases (Q : Nat → Bool) : ∀ k p : Nat, pfst Q k p = -1 ∨ ∃ j, p ≤ j ∧ j < p + k ∧ Q j = true ∧ pfst Q k p = nI j := by
  intro k
  induction k with
  | zero => intro p; exact Or.inl rfl
  | succ k ih =>
    intro p
    unfold pfst
    by_cases h : Q p = true
    · rw [if_pos h]
      exact Or.inr ⟨p, Nat.le_refl _, by omega, h, rfl⟩
    · rw [if_neg h]
      rcases ih (p + 1) with h1 | ⟨j, h1, h2, h3, h4⟩
      · exact Or.inl h1
      · exact Or.inr ⟨j, by omega, by omega, h3, h4⟩
theorem px_placeNamedL {m : Nat} (nm : Nat → Int32) (x : Int32) (hm : m ≤ 6) : ∀ k p z : Nat, p + k = m → k < z → lfX0_placeNamed (nI m) nm x z (nI p) = pfst (fun j => decide (nm j = x)) k p := by
  intro k
  induction k with
  | zero =>
    intro p z hp hz
    obtain ⟨z, rfl⟩ : ∃ y, z = y + 1 := ⟨z - 1, by omega⟩
    show dfX0_placeNamed_2 (nI m) nm x (lfX0_placeNamed (nI m) nm x z) (nI p) = _
    unfold dfX0_placeNamed_2
    rw [if_pos (nI_le (by omega) (by omega))]
    rfl
  | succ k ih =>
    intro p z hp hz
    obtain ⟨z, rfl⟩ : ∃ y, z = y + 1 := ⟨z - 1, by omega⟩
    show dfX0_placeNamed_2 (nI m) nm x (lfX0_placeNamed (nI m) nm x z) (nI p) = _
    unfold dfX0_placeNamed_2 pfst
    rw [if_neg (nI_ge (by omega) (by omega)), nI_clamp (by omega), ← nI_succ, ih (p + 1) z (by omega) (by omega)]
    by_cases h : nm p = x
    · rw [if_pos h, if_pos (decide_eq_true h)]
    · rw [if_neg h, if_neg (fun q => h (of_decide_eq_true q))]
theorem px_placeNamed {m : Nat} (nm : Nat → Int32) (x : Int32) (hm : m ≤ 6) : fX0_placeNamed (nI m) nm x = pfst (fun j => decide (nm j = x)) m 0 := px_placeNamedL nm x hm m 0 1000000000 (by omega) (by omega)
/-- the sign of a word at k, 0 behind it -/
def gsn (f : Nat → Int32) (s e k : Nat) : Int32 := if k < e - s then f (s + k) else 0
theorem gsn_lt {f : Nat → Int32} {s e k : Nat} (h : k < e - s) : gsn f s e k = f (s + k) := if_pos h
theorem gsn_ge {f : Nat → Int32} {s e k : Nat} (h : ¬ k < e - s) : gsn f s e k = 0 := if_neg h
/-- that a place's letters are those of the word, from j on -/
def gall (lt f : Nat → Int32) (s e p : Nat) : Nat → Nat → Bool
  | 0, _ => true
  | k + 1, j => if lt (6 * p + j) = gsn f s e j then gall lt f s e p k (j + 1) else false
theorem gall_s (lt f : Nat → Int32) (s e p k j : Nat) : gall lt f s e p (k + 1) j = if lt (6 * p + j) = gsn f s e j then gall lt f s e p k (j + 1) else false := rfl
def gmt (lt f : Nat → Int32) (s e p : Nat) : Bool := if e - s ≤ 6 then gall lt f s e p 6 0 else false
theorem pr_ix {p j : Nat} (hp : p ≤ 6) (hj : j ≤ 6) : (((6 : Int32) * nI p) + nI j).toNatClampNeg = 6 * p + j := by
  have k1 : (6 : Int32).toInt = 6 := by decide
  have h1 := nI_toInt (n := p) (by omega)
  have h2 := nI_toInt (n := j) (by omega)
  have h3 := gi_mulI (z := (6 : Int32) * nI p) rfl (by rw [k1]; omega) (by rw [k1]; omega)
  have h4 := gi_addI (z := (6 : Int32) * nI p + nI j) rfl (by rw [h3, k1]; omega) (by rw [h3, k1]; omega)
  show (((6 : Int32) * nI p) + nI j).toInt.toNat = _
  rw [h4, h3, k1, h1, h2]
  omega
theorem pr_namedI {mi tp lt : Nat → Int32} {n m s e p k : Nat} (hm : m ≤ 6) (hp : p + (k + 1) = m) (hn : n ≤ 1600) (hse : s ≤ e) (hen : e ≤ n) (h29 : mi 29 = nI e) (h30 : mi 30 = nI s) (ih : ∀ z : Nat, 10 * k + 2 < z → (lfX12_named mi tp lt z).1 (nI (p + 1)) = pfst (gmt lt tp s e) k (p + 1)) : ∀ i j z : Nat, j + i = 6 → 10 * k + i + 4 < z → ((lfX12_named mi tp lt z).2 (nI p) 1 (nI j) = if gall lt tp s e p i j = true then nI p else pfst (gmt lt tp s e) k (p + 1)) ∧ (lfX12_named mi tp lt z).2 (nI p) 0 (nI j) = pfst (gmt lt tp s e) k (p + 1) := by
  have hz0 : ∀ j z : Nat, 10 * k + 3 < z → (lfX12_named mi tp lt z).2 (nI p) 0 (nI j) = pfst (gmt lt tp s e) k (p + 1) := by
    intro j z hz
    obtain ⟨z, rfl⟩ : ∃ y, z = y + 1 := ⟨z - 1, by omega⟩
    show dfX12_named_32 mi tp lt (lfX12_named mi tp lt z) (nI p) 0 (nI j) = _
    unfold dfX12_named_32 bfX12_named_96
    rw [if_pos rfl, if_pos rfl, ← nI_succ, ih z (by omega)]
    split
    · rfl
    · rfl
  intro i
  induction i with
  | zero =>
    intro j z hj hz
    refine ⟨?_, hz0 j z (by omega)⟩
    obtain ⟨z, rfl⟩ : ∃ y, z = y + 1 := ⟨z - 1, by omega⟩
    show dfX12_named_32 mi tp lt (lfX12_named mi tp lt z) (nI p) 1 (nI j) = _
    unfold dfX12_named_32 bfX12_named_96
    rw [if_pos (show (6 : Int32) ≤ nI j from nI_le (a := 6) (by omega) (by omega)), if_neg (by decide)]
    exact (if_pos rfl).symm
  | succ i ih2 =>
    intro j z hj hz
    refine ⟨?_, hz0 j z (by omega)⟩
    obtain ⟨z, rfl⟩ : ∃ y, z = y + 1 := ⟨z - 1, by omega⟩
    obtain ⟨g1, g2⟩ := ih2 (j + 1) z (by omega) (by omega)
    show dfX12_named_32 mi tp lt (lfX12_named mi tp lt z) (nI p) 1 (nI j) = _
    unfold dfX12_named_32 bfX12_named_81 bfX12_named_89
    rw [if_neg (show ¬ (6 : Int32) ≤ nI j from nI_ge (b := 6) (by omega) (by omega)), if_neg (by decide), h29, h30, pz_nsub hse (by omega), pr_ix (by omega) (by omega), nI_add, nI_clamp (by omega), ← nI_succ, g1, g2]
    rw [gall_s]
    unfold gsn
    by_cases h1 : j < e - s
    · rw [if_neg (nI_ge h1 (by omega)), if_pos h1]
      by_cases h2 : lt (6 * p + j) = tp (s + j)
      · rw [if_pos h2, if_pos h2]
      · rw [if_neg h2, if_neg h2, if_neg (by decide)]
    · rw [if_pos (nI_le (by omega) (by omega)), if_neg h1]
      by_cases h2 : lt (6 * p + j) = 0
      · rw [if_pos h2, if_pos h2]
      · rw [if_neg h2, if_neg h2, if_neg (by decide)]
theorem pr_namedL {mi tp lt : Nat → Int32} {n m s e : Nat} (hm : m ≤ 6) (hn : n ≤ 1600) (hse : s ≤ e) (hen : e ≤ n) (h7 : mi 7 = nI m) (h29 : mi 29 = nI e) (h30 : mi 30 = nI s) : ∀ k p z : Nat, p + k = m → 10 * k + 2 < z → (lfX12_named mi tp lt z).1 (nI p) = pfst (gmt lt tp s e) k p := by
  intro k
  induction k with
  | zero =>
    intro p z hp hz
    obtain ⟨z, rfl⟩ : ∃ y, z = y + 1 := ⟨z - 1, by omega⟩
    show dfX12_named_2 mi tp lt (lfX12_named mi tp lt z) (nI p) = _
    unfold dfX12_named_2
    rw [h7, if_pos (nI_le (by omega) (by omega))]
    rfl
  | succ k ih =>
    intro p z hp hz
    obtain ⟨z, rfl⟩ : ∃ y, z = y + 1 := ⟨z - 1, by omega⟩
    obtain ⟨g1, g2⟩ := pr_namedI (tp := tp) (lt := lt) hm hp hn hse hen h29 h30 (fun z hz => ih (p + 1) z (by omega) hz) 6 0 z (by omega) (by omega)
    show dfX12_named_2 mi tp lt (lfX12_named mi tp lt z) (nI p) = _
    unfold dfX12_named_2 bfX12_named_29 pfst gmt
    rw [h7, if_neg (nI_ge (by omega) (by omega)), h29, h30, pz_nsub hse (by omega)]
    by_cases h1 : e - s ≤ 6
    · rw [if_neg (show ¬ (6 : Int32) < nI (e - s) from nI_nlt (a := 6) (b := e - s) h1 (by omega)), if_pos h1]
      exact g1
    · rw [if_pos (show (6 : Int32) < nI (e - s) from nI_lt (a := 6) (by omega) (by omega)), if_neg h1, if_neg (by decide)]
      exact g2
theorem pr_named {mi tp lt : Nat → Int32} {n m s e : Nat} (hm : m ≤ 6) (hn : n ≤ 1600) (hse : s ≤ e) (hen : e ≤ n) (h7 : mi 7 = nI m) (h29 : mi 29 = nI e) (h30 : mi 30 = nI s) : fX12_named mi tp lt = pfst (gmt lt tp s e) m 0 := pr_namedL hm hn hse hen h7 h29 h30 m 0 1000000000 (by omega) (by omega)
/-- a sign as a digit -/
def pdg (x : Int) : Int := if cL x = true then x - 96 else 0
theorem pdg_m : pdg (-1 : Int32).toInt = pdg (0 : Int32).toInt := by decide
theorem pdg_le (x : Int) : 0 ≤ pdg x ∧ pdg x ≤ 26 := by
  unfold pdg
  split
  · rename_i h
    have h1 : 97 ≤ x ∧ x ≤ 122 := of_decide_eq_true h
    omega
  · omega
def pcod (g : Nat → Int) : Nat → Nat → Int → Int
  | 0, _, v => v
  | k + 1, j, v => pcod g k (j + 1) (27 * v + pdg (g j))
theorem pcod_s (g : Nat → Int) (k j : Nat) (v : Int) : pcod g (k + 1) j v = pcod g k (j + 1) (27 * v + pdg (g j)) := rfl
theorem pw27 : ∀ i : Nat, (1 : Int) ≤ 27 ^ i := by
  intro i
  induction i with
  | zero => decide
  | succ i ih => rw [Int.pow_succ]; omega
theorem lnh_s (a b c : Int32) (bt : Nat → Int32) (z : Nat) (v j : Int32) : lfX6_nameHere a b c bt (z + 1) v j = dfX6_nameHere_4 a b c bt (lfX6_nameHere a b c bt z) v j := rfl
theorem px_nh1 {bt : Nat → Int32} {n s e j : Nat} {K : Int32 → Int32 → Int32} {v : Int32} (hn : n ≤ 1600) (hse : s ≤ e) (hen : e ≤ n) (hj : j < 6) (h1 : j < e - s) : dfX6_nameHere_4 (nI s) (nI e) (nI n) bt K v (nI j) = bfX6_nameHere_37 (nI s) (nI e) (nI n) bt K v (nI j) (bt (s + j)) := by
  unfold dfX6_nameHere_4
  rw [if_neg (show ¬ (6 : Int32) ≤ nI j from nI_ge (b := 6) hj (by omega)), nI_add, if_neg (nI_ge (by omega) (by omega)), cal_b, px_byteAt bt (by omega) (by omega)]
theorem px_nh0 {bt : Nat → Int32} {n s e j : Nat} {K : Int32 → Int32 → Int32} {v : Int32} (hn : n ≤ 1600) (hse : s ≤ e) (hen : e ≤ n) (hj : j < 6) (h1 : ¬ j < e - s) : dfX6_nameHere_4 (nI s) (nI e) (nI n) bt K v (nI j) = bfX6_nameHere_37 (nI s) (nI e) (nI n) bt K v (nI j) (-1) := by
  unfold dfX6_nameHere_4
  rw [if_neg (show ¬ (6 : Int32) ≤ nI j from nI_ge (b := 6) hj (by omega)), nI_add, if_pos (nI_le (a := e) (b := s + j) (by omega) (by omega))]
/-- the class's name of a word -/
theorem px_nameL {bt : Nat → Int32} {n s e : Nat} (hn : n ≤ 1600) (hse : s ≤ e) (hen : e ≤ n) : ∀ (i j z : Nat) (v : Int32) (V : Int), j + i = 6 → i < z → v.toInt = V → 0 ≤ V → V * 27 ^ i + 27 ^ i ≤ 387420489 → (lfX6_nameHere (nI s) (nI e) (nI n) bt z v (nI j)).toInt = pcod (fun k => (gsn bt s e k).toInt) i j V := by
  intro i
  have k27 : (27 : Int32).toInt = 27 := by decide
  have k97 : (97 : Int32).toInt = 97 := by decide
  have k1 : (1 : Int32).toInt = 1 := by decide
  have k0 : (0 : Int32).toInt = 0 := by decide
  induction i with
  | zero =>
    intro j z v V hj hz hv h0 hb
    obtain ⟨z, rfl⟩ : ∃ y, z = y + 1 := ⟨z - 1, by omega⟩
    rw [lnh_s]
    unfold dfX6_nameHere_4
    rw [if_pos (show (6 : Int32) ≤ nI j from nI_le (a := 6) (by omega) (by omega))]
    rw [hv]
    rfl
  | succ i ih =>
    intro j z v V hj hz hv h0 hb
    obtain ⟨z, rfl⟩ : ∃ y, z = y + 1 := ⟨z - 1, by omega⟩
    have hpow : (27 : Int) ^ (i + 1) = 27 * 27 ^ i := by rw [Int.pow_succ]; omega
    have hp1 : (1 : Int) ≤ 27 ^ i := pw27 i
    rw [hpow] at hb
    have hV : V * 27 + 27 ≤ 387420489 := by
      have h1 : V * (27 * 27 ^ i) = (V * 27) * 27 ^ i := by rw [Int.mul_assoc]
      have h2 : (V * 27) * 1 ≤ (V * 27) * 27 ^ i := Int.mul_le_mul_of_nonneg_left hp1 (by omega)
      omega
    have m1 := gi_mulI (z := v * (27 : Int32)) rfl (by rw [k27]; omega) (by rw [k27]; omega)
    rw [hv, k27] at m1
    have key : ∀ s0 : Int32, (bfX6_nameHere_37 (nI s) (nI e) (nI n) bt (lfX6_nameHere (nI s) (nI e) (nI n) bt z) v (nI j) s0).toInt = pcod (fun k => (gsn bt s e k).toInt) i (j + 1) (27 * V + pdg s0.toInt) := by
      intro s0
      have hd := pdg_le s0.toInt
      have hb2 : (27 * V + pdg s0.toInt) * 27 ^ i + 27 ^ i ≤ 387420489 := by
        have h1 : V * (27 * 27 ^ i) = 27 * V * 27 ^ i := by rw [← Int.mul_assoc, Int.mul_comm V 27]
        have h2 : pdg s0.toInt * 27 ^ i ≤ 26 * 27 ^ i := Int.mul_le_mul_of_nonneg_right hd.2 (by omega)
        have h3 : (27 * V + pdg s0.toInt) * 27 ^ i = 27 * V * 27 ^ i + pdg s0.toInt * 27 ^ i := Int.add_mul _ _ _
        omega
      unfold bfX6_nameHere_37 bfX6_nameHere_59 cal
      dsimp only
      rw [px_isLetter, ← nI_succ]
      by_cases h : cL s0.toInt = true
      · have hl : 97 ≤ s0.toInt ∧ s0.toInt ≤ 122 := of_decide_eq_true h
        have m2 := gi_subI (z := s0 - (97 : Int32)) rfl (by rw [k97]; omega) (by rw [k97]; omega)
        have m3 := gi_addI (z := s0 - (97 : Int32) + (1 : Int32)) rfl (by rw [m2, k97, k1]; omega) (by rw [m2, k97, k1]; omega)
        have m4 := gi_addI (z := v * (27 : Int32) + (s0 - (97 : Int32) + (1 : Int32))) rfl (by rw [m1, m3, m2, k97, k1]; omega) (by rw [m1, m3, m2, k97, k1]; omega)
        rw [m1, m3, m2, k97, k1] at m4
        have e1 : pdg s0.toInt = s0.toInt - 96 := if_pos h
        rw [if_pos h, if_neg (by decide)]
        exact ih (j + 1) z _ _ (by omega) (by omega) (by rw [m4, e1]; omega) (by omega) hb2
      · have m4 := gi_addI (z := v * (27 : Int32) + (0 : Int32)) rfl (by rw [m1, k0]; omega) (by rw [m1, k0]; omega)
        rw [m1, k0] at m4
        have e1 : pdg s0.toInt = 0 := if_neg h
        rw [if_neg h, if_pos rfl]
        exact ih (j + 1) z _ _ (by omega) (by omega) (by rw [m4, e1]; omega) (by omega) hb2
    rw [pcod_s, lnh_s]
    by_cases h1 : j < e - s
    · rw [px_nh1 hn hse hen (by omega) h1, key]
      show _ = pcod (fun k => (gsn bt s e k).toInt) i (j + 1) (27 * V + pdg (gsn bt s e j).toInt)
      rw [gsn_lt h1]
    · rw [px_nh0 hn hse hen (by omega) h1, key]
      show _ = pcod (fun k => (gsn bt s e k).toInt) i (j + 1) (27 * V + pdg (gsn bt s e j).toInt)
      rw [gsn_ge h1, pdg_m]
theorem px_name {bt : Nat → Int32} {n s e : Nat} (hn : n ≤ 1600) (hse : s ≤ e) (hen : e ≤ n) : (fX6_nameHere (nI s) (nI e) (nI n) bt).toInt = pcod (fun k => (gsn bt s e k).toInt) 6 0 0 := by
  unfold fX6_nameHere
  exact px_nameL hn hse hen 6 0 1000000000 0 0 (by omega) (by omega) (by decide) (by decide) (by decide)
/-- the codes are one where the digits are -/
theorem pcod_inj {g h : Nat → Int} : ∀ (k j : Nat) (u v : Int), pcod g k j u = pcod h k j v ↔ (u = v ∧ ∀ i, j ≤ i → i < j + k → pdg (g i) = pdg (h i)) := by
  intro k
  induction k with
  | zero =>
    intro j u v
    exact ⟨fun q => ⟨q, fun i h1 h2 => absurd h2 (by omega)⟩, fun q => q.1⟩
  | succ k ih =>
    intro j u v
    have h1 := pdg_le (g j)
    have h2 := pdg_le (h j)
    show pcod g k (j + 1) (27 * u + pdg (g j)) = pcod h k (j + 1) (27 * v + pdg (h j)) ↔ _
    rw [ih (j + 1)]
    constructor
    · rintro ⟨q1, q2⟩
      refine ⟨by omega, fun i g1 g2 => ?_⟩
      by_cases q3 : i = j
      · rw [q3]
        omega
      · exact q2 i (by omega) (by omega)
    · rintro ⟨q1, q2⟩
      have q3 := q2 j (Nat.le_refl _) (by omega)
      exact ⟨by omega, fun i g1 g2 => q2 i (by omega) (by omega)⟩
