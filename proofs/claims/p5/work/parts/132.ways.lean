def jn (F L r k : Nat) : Nat := if k = 1 then (if r ≤ 5 then (if r + 1 ≤ F then r + 1 else 0) else (if 1 ≤ F then 1 else 0)) else (if r ≤ 5 then (if 1 ≤ L then 6 else 0) else (if r ≤ L + 4 then r + 1 else 0))
def wy (F L : Nat) (ok : Nat → Nat → Bool) : Nat → Nat → Nat → Nat → Nat
  | 0, m, a, _ => if ok m a = true then 1 else 0
  | d + 1, m, a, r => if ok m a = true then (if jn F L r 0 = 0 then 0 else wy F L ok d (m + 1) a (jn F L r 0)) + (if jn F L r 1 = 0 then 0 else wy F L ok d (m + 1) (a + 1) (jn F L r 1)) else 0
theorem wy_0 {F L : Nat} {ok : Nat → Nat → Bool} {d m a r : Nat} (h : ¬ ok m a = true) : wy F L ok d m a r = 0 := by
  cases d with
  | zero => rw [wy, if_neg h]
  | succ d => rw [wy, if_neg h]
theorem wy_le (F L : Nat) (ok : Nat → Nat → Bool) : ∀ d m a r : Nat, wy F L ok d m a r ≤ 2 ^ d := by
  intro d
  induction d with
  | zero =>
    intro m a r
    rw [wy]
    split <;> simp
  | succ d ih =>
    intro m a r
    rw [wy]
    have h1 := ih (m + 1) a (jn F L r 0)
    have h2 := ih (m + 1) (a + 1) (jn F L r 1)
    have h3 : 2 ^ (d + 1) = 2 ^ d + 2 ^ d := by rw [Nat.pow_succ]; omega
    rw [h3]
    split
    · split <;> split <;> omega
    · omega
theorem jn_le (F L r k : Nat) (hF : F ≤ 5) (hL : L ≤ 5) : jn F L r k ≤ 10 := by
  unfold jn
  repeat' split
  all_goals omega
theorem pj_rb0 : ∀ F < 6, ∀ L < 6, ∀ r < 11, ∀ k < 2, fX12_runBehind (fun i => if i = 1 then nI F else nI L) (nI r) (nI k) = if jn F L r k = 0 then -1 else nI (jn F L r k) := by
  decide +kernel
theorem pj_rbc {mi mj : Nat → Int32} (h1 : mi 1 = mj 1) (h2 : mi 2 = mj 2) (x y : Int32) : fX12_runBehind mi x y = fX12_runBehind mj x y := by
  unfold fX12_runBehind bfX12_runBehind_34 bfX12_runBehind_52 bfX12_runBehind_69
  rw [h1, h2]
theorem pj_rb {mi : Nat → Int32} {F L r k : Nat} (h1 : mi 1 = nI F) (h2 : mi 2 = nI L) (hF : F ≤ 5) (hL : L ≤ 5) (hr : r ≤ 10) (hk : k ≤ 1) : fX12_runBehind mi (nI r) (nI k) = if jn F L r k = 0 then -1 else nI (jn F L r k) := by
  rw [pj_rbc (mj := fun i => if i = 1 then nI F else nI L) h1 h2]
  exact pj_rb0 F (by omega) L (by omega) r (by omega) k (by omega)
theorem pj_place (m a r : Nat) : fX12_placeOf (nI m) (nI a) (nI r) = nI (275 * m + 11 * a + r) := by
  unfold fX12_placeOf
  rw [show (275 : Int32) = nI 275 from rfl, show (11 : Int32) = nI 11 from rfl, pk_mul, pk_mul, nI_add, nI_add]
theorem pj_ways {mi w : Nat → Int32} {F L r k m a W : Nat} (h1 : mi 1 = nI F) (h2 : mi 2 = nI L) (hF : F ≤ 5) (hL : L ≤ 5) (hr : r ≤ 10) (hk : k ≤ 1) (hm : m ≤ 24) (ha : a ≤ 24) (hW : ¬ jn F L r k = 0 → w (275 * (m + 1) + 11 * (a + k) + jn F L r k) = nI W) : fX12_waysBy mi w (nI m) (nI a) (nI r) (nI k) = nI (if jn F L r k = 0 then 0 else W) := by
  have hj := jn_le F L r k hF hL
  unfold fX12_waysBy bfX12_waysBy_36
  rw [cal_b, pj_rb h1 h2 hF hL hr hk]
  by_cases hz : jn F L r k = 0
  · rw [if_pos hz, if_pos hz, if_pos rfl]
    rfl
  · rw [if_neg hz, if_neg hz, if_neg (fun q => by
      have q1 := congrArg Int32.toInt q
      rw [nI_toInt (by omega), show (-1 : Int32).toInt = -1 from by decide] at q1
      omega)]
    rw [cal_b, nI_1, nI_add, pj_place, nI_clamp (by omega)]
    exact hW hz
def wT (F L M : Nat) (ok : Nat → Nat → Bool) (w : Nat → Int32) (m a r : Nat) : Prop := ∀ m' a' r' : Nat, m' ≤ M → a' ≤ m' → r' ≤ 10 → (m < m' ∨ (m = m' ∧ (a' < a ∨ (a' = a ∧ r' < r)))) → w (275 * m' + 11 * a' + r') = nI (wy F L ok (M - m') m' a' r')
theorem wT_set {F L M : Nat} {ok : Nat → Nat → Bool} {w : Nat → Int32} {m a r : Nat} {v : Int32} (h : wT F L M ok w m a r) (hm : m ≤ M) (ha : a ≤ m) (hr : r ≤ 10) (hM : M ≤ 24) (hv : v = nI (wy F L ok (M - m) m a r)) : wT F L M ok (upd w (275 * m + 11 * a + r) v) m a (r + 1) := by
  intro m' a' r' h1 h2 h3 h4
  unfold upd
  by_cases hj : 275 * m' + 11 * a' + r' = 275 * m + 11 * a + r
  · rw [if_pos hj, hv]
    have e1 : m' = m := by omega
    have e2 : a' = a := by omega
    have e3 : r' = r := by omega
    rw [e1, e2, e3]
  · rw [if_neg hj]
    exact h m' a' r' h1 h2 h3 (by omega)
theorem pc_run {mi must least pin ways : Nat → Int32} {F L M : Nat} {ok : Nat → Nat → Bool} (h0 : mi 0 = nI M) (hM : M ≤ 24) (h1 : mi 1 = nI F) (h2 : mi 2 = nI L) (hF : F ≤ 5) (hL : L ≤ 5) {m a : Nat} (hm : m ≤ M) (ha : a ≤ m) {Q : Int32 × (Nat → Int32) → Prop} {z0 : Nat} (hK : ∀ (w : Nat → Int32) (z : Nat), z0 ≤ z → wT F L M ok w m (a + 1) 0 → Q ((lfX12_counts mi must least pin ways z).2.1 (nI m) (nI (a + 1)) w)) :
    ∀ (k r z : Nat) (w : Nat → Int32), r + k = 11 → z0 + k + 1 ≤ z → wT F L M ok w m a r → Q ((lfX12_counts mi must least pin ways z).2.2 (nI m) (nI a) (if ok m a = true then 1 else 0) (nI r) w) := by
  intro k
  induction k with
  | zero =>
    intro r z w hr hz hw
    obtain ⟨z, rfl⟩ : ∃ y, z = y + 1 := ⟨z - 1, by omega⟩
    show Q (dfX12_counts_46 mi must least pin ways (lfX12_counts mi must least pin ways z) (nI m) (nI a) (if ok m a = true then 1 else 0) (nI r) w)
    unfold dfX12_counts_46
    rw [if_pos (show (10 : Int32) < nI r from nI_lt (a := 10) (by omega) (by omega)), nI_1 a]
    exact hK w z (by omega) (fun m' a' r' q1 q2 q3 q4 => hw m' a' r' q1 q2 q3 (by omega))
  | succ k ih =>
    intro r z w hr hz hw
    obtain ⟨z, rfl⟩ : ∃ y, z = y + 1 := ⟨z - 1, by omega⟩
    show Q (dfX12_counts_46 mi must least pin ways (lfX12_counts mi must least pin ways z) (nI m) (nI a) (if ok m a = true then 1 else 0) (nI r) w)
    unfold dfX12_counts_46
    rw [if_neg (show ¬ (10 : Int32) < nI r from nI_nlt (a := 10) (by omega) (by omega))]
    have hset : ∀ v : Int32, v = nI (wy F L ok (M - m) m a r) → Q (bfX12_counts_92 mi must least pin ways (lfX12_counts mi must least pin ways z) (nI m) (nI a) (if ok m a = true then 1 else 0) (nI r) v w) := by
      intro v hv
      unfold bfX12_counts_92
      rw [cal_b, pj_place, nI_clamp (by omega), nI_1]
      exact ih (r + 1) z _ (by omega) (by omega) (wT_set hw hm ha (by omega) hM hv)
    by_cases hok : ok m a = true
    · rw [if_pos hok] at hset ⊢
      rw [if_neg (by decide : ¬ (1 : Int32) = 0)]
      by_cases hMm : m = M
      · rw [if_pos (by rw [h0, hMm])]
        exact hset 1 (by rw [hMm, Nat.sub_self, wy, if_pos (hMm ▸ hok)]; rfl)
      · rw [if_neg (fun q => hMm ((nI_eq (by omega) (by omega)).1 (q.trans h0)))]
        obtain ⟨d, hd⟩ : ∃ d, M - m = d + 1 := ⟨M - m - 1, by omega⟩
        have hd2 : M - (m + 1) = d := by omega
        have g : ∀ k : Nat, k ≤ 1 → ¬ jn F L r k = 0 → w (275 * (m + 1) + 11 * (a + k) + jn F L r k) = nI (wy F L ok d (m + 1) (a + k) (jn F L r k)) := by
          intro k hk _
          have q := hw (m + 1) (a + k) (jn F L r k) (by omega) (by omega) (jn_le F L r k hF hL) (by omega)
          rw [hd2] at q
          exact q
        have e0 := pj_ways (mi := mi) (w := w) (k := 0) h1 h2 hF hL (show r ≤ 10 by omega) (by omega) (show m ≤ 24 by omega) (show a ≤ 24 by omega) (g 0 (by omega))
        have e1 := pj_ways (mi := mi) (w := w) (k := 1) h1 h2 hF hL (show r ≤ 10 by omega) (by omega) (show m ≤ 24 by omega) (show a ≤ 24 by omega) (g 1 (by omega))
        rw [nI_0] at e0
        rw [show nI 1 = (1 : Int32) from rfl] at e1
        rw [cal_b, cal_b, e0, e1]
        exact hset _ (by rw [nI_add, hd, wy, if_pos hok]; rfl)
    · rw [if_neg hok] at hset ⊢
      rw [if_pos rfl]
      exact hset 0 (by rw [wy_0 hok]; rfl)
theorem pc_full {mi must least pin ways : Nat → Int32} {F L M : Nat} {ok : Nat → Nat → Bool} (h0 : mi 0 = nI M) (hM : M ≤ 24) (h1 : mi 1 = nI F) (h2 : mi 2 = nI L) (hF : F ≤ 5) (hL : L ≤ 5) {m : Nat} (hm : m ≤ M) (hok : ∀ a : Nat, a ≤ m → (ok m a = true ↔ (mi 37 = 0 ∧ ¬ fX12_isOpen must least pin (nI m) (nI (29 * m + a)) = 0))) {Q : Int32 × (Nat → Int32) → Prop} {z0 : Nat} (hK : ∀ (w : Nat → Int32) (z : Nat), z0 ≤ z → wT F L M ok w m (m + 1) 0 → Q ((lfX12_counts mi must least pin ways z).1 (nI m + (-1 : Int32)) w)) :
    ∀ (k a z : Nat) (w : Nat → Int32), a + k = m + 1 → z0 + 13 * k + 1 ≤ z → wT F L M ok w m a 0 → Q ((lfX12_counts mi must least pin ways z).2.1 (nI m) (nI a) w) := by
  intro k
  induction k with
  | zero =>
    intro a z w ha hz hw
    obtain ⟨z, rfl⟩ : ∃ y, z = y + 1 := ⟨z - 1, by omega⟩
    show Q (dfX12_counts_11 mi must least pin ways (lfX12_counts mi must least pin ways z) (nI m) (nI a) w)
    unfold dfX12_counts_11
    rw [if_pos (nI_lt (show m < a by omega) (by omega))]
    have ea : a = m + 1 := by omega
    subst ea
    exact hK w z (by omega) hw
  | succ k ih =>
    intro a z w ha hz hw
    obtain ⟨z, rfl⟩ : ∃ y, z = y + 1 := ⟨z - 1, by omega⟩
    show Q (dfX12_counts_11 mi must least pin ways (lfX12_counts mi must least pin ways z) (nI m) (nI a) w)
    unfold dfX12_counts_11
    rw [if_neg (nI_nlt (show a ≤ m by omega) (by omega)), show (29 : Int32) * nI m + nI a = nI (29 * m + a) from by rw [show (29 : Int32) = nI 29 from rfl, pk_mul, nI_add]]
    have hgo : Q (bfX12_counts_42 mi must least pin ways (lfX12_counts mi must least pin ways z) (nI m) (nI a) (if ok m a = true then 1 else 0) w) := by
      unfold bfX12_counts_42
      rw [← nI_0]
      exact pc_run h0 hM h1 h2 hF hL hm (by omega) (z0 := z0 + 13 * k + 1) (fun w z q1 q2 => ih (a + 1) z w (by omega) q1 q2) 11 0 z w rfl (by omega) hw
    have ho := hok a (by omega)
    by_cases h37 : mi 37 = 0
    · rw [if_pos h37, cal_b]
      by_cases hi : fX12_isOpen must least pin (nI m) (nI (29 * m + a)) = 0
      · rw [if_pos hi]
        rw [if_neg (fun q => (ho.1 q).2 hi)] at hgo
        exact hgo
      · rw [if_neg hi]
        rw [if_pos (ho.2 ⟨h37, hi⟩)] at hgo
        exact hgo
    · rw [if_neg h37]
      rw [if_neg (fun q => h37 (ho.1 q).1)] at hgo
      exact hgo
theorem pc_outer {mi must least pin ways : Nat → Int32} {F L M : Nat} {ok : Nat → Nat → Bool} (h0 : mi 0 = nI M) (hM : M ≤ 24) (h1 : mi 1 = nI F) (h2 : mi 2 = nI L) (hF : F ≤ 5) (hL : L ≤ 5) (hok : ∀ m a : Nat, m ≤ M → a ≤ m → (ok m a = true ↔ (mi 37 = 0 ∧ ¬ fX12_isOpen must least pin (nI m) (nI (29 * m + a)) = 0))) :
    ∀ (k z : Nat) (w : Nat → Int32), k ≤ M + 1 → 400 * k + 2 ≤ z → (∀ m' a' r' : Nat, m' ≤ M → a' ≤ m' → r' ≤ 10 → k ≤ m' → w (275 * m' + 11 * a' + r') = nI (wy F L ok (M - m') m' a' r')) →
      ((lfX12_counts mi must least pin ways z).1 (nI k - (1 : Int32)) w).1 = nI (wy F L ok M 0 0 0) ∧ ∀ m' a' r' : Nat, m' ≤ M → a' ≤ m' → r' ≤ 10 → ((lfX12_counts mi must least pin ways z).1 (nI k - (1 : Int32)) w).2 (275 * m' + 11 * a' + r') = nI (wy F L ok (M - m') m' a' r') := by
  intro k
  induction k with
  | zero =>
    intro z w _ hz hw
    obtain ⟨z, rfl⟩ : ∃ y, z = y + 1 := ⟨z - 1, by omega⟩
    have e : (lfX12_counts mi must least pin ways (z + 1)).1 (nI 0 - (1 : Int32)) w = (w 0, w) := by
      show dfX12_counts_5 mi must least pin ways (lfX12_counts mi must least pin ways z) (nI 0 - (1 : Int32)) w = _
      unfold dfX12_counts_5
      rw [if_pos (by decide)]
      rfl
    rw [e]
    exact ⟨hw 0 0 0 (by omega) (by omega) (by omega) (by omega), fun m' a' r' q1 q2 q3 => hw m' a' r' q1 q2 q3 (by omega)⟩
  | succ k ih =>
    intro z w hk hz hw
    obtain ⟨z, rfl⟩ : ∃ y, z = y + 1 := ⟨z - 1, by omega⟩
    have e : (lfX12_counts mi must least pin ways (z + 1)).1 (nI (k + 1) - (1 : Int32)) w = (lfX12_counts mi must least pin ways z).2.1 (nI k) (nI 0) w := by
      show dfX12_counts_5 mi must least pin ways (lfX12_counts mi must least pin ways z) (nI (k + 1) - (1 : Int32)) w = _
      unfold dfX12_counts_5
      rw [nI_pred, if_neg (nI_pos (by omega)), nI_0]
    rw [e]
    refine pc_full (Q := fun o => o.1 = nI (wy F L ok M 0 0 0) ∧ ∀ m' a' r' : Nat, m' ≤ M → a' ≤ m' → r' ≤ 10 → o.2 (275 * m' + 11 * a' + r') = nI (wy F L ok (M - m') m' a' r')) (z0 := 400 * k + 2) h0 hM h1 h2 hF hL (m := k) (by omega) (fun a ha => hok k a (by omega) ha) ?_ (k + 1) 0 z w (by omega) (by omega) ?_
    · intro w z hz hw
      rw [show nI k + (-1 : Int32) = nI k - (1 : Int32) from by rw [Int32.sub_eq_add_neg]]
      exact ih z w (by omega) hz (fun m' a' r' q1 q2 q3 q4 => hw m' a' r' q1 q2 q3 (by omega))
    · exact fun m' a' r' q1 q2 q3 q4 => hw m' a' r' q1 q2 q3 (by omega)
theorem pc_counts {mi must least pin ways : Nat → Int32} {F L M : Nat} {ok : Nat → Nat → Bool} (h0 : mi 0 = nI M) (hM : M ≤ 24) (h1 : mi 1 = nI F) (h2 : mi 2 = nI L) (hF : F ≤ 5) (hL : L ≤ 5) (hok : ∀ m a : Nat, m ≤ M → a ≤ m → (ok m a = true ↔ (mi 37 = 0 ∧ ¬ fX12_isOpen must least pin (nI m) (nI (29 * m + a)) = 0))) :
    (fX12_counts mi must least pin ways).1 = nI (wy F L ok M 0 0 0) ∧ ∀ m' a' r' : Nat, m' ≤ M → a' ≤ m' → r' ≤ 10 → (fX12_counts mi must least pin ways).2 (275 * m' + 11 * a' + r') = nI (wy F L ok (M - m') m' a' r') := by
  unfold fX12_counts
  rw [h0, show nI M = nI (M + 1) - (1 : Int32) from (nI_pred M).symm]
  exact pc_outer h0 hM h1 h2 hF hL hok (M + 1) 1000000000 ways (by omega) (by omega) (fun m' a' r' q1 q2 q3 q4 => absurd q4 (by omega))
