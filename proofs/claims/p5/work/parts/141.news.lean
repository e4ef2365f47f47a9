theorem kb_eq (kn st t : Int32) : (¬ fX7_isKnownBy kn st t = 0) ↔ (st = 0 ∧ ¬ t < kn) := by
  have n1 : ¬ (1 : Int32) = 0 := by decide
  unfold fX7_isKnownBy bfX7_isKnownBy_19 bfX7_isKnownBy_20
  by_cases h1 : st = 0
  · rw [if_pos h1]
    by_cases h2 : t < kn
    · rw [if_pos h2]
      exact ⟨fun q => absurd rfl q, fun q => absurd h2 q.2⟩
    · rw [if_neg h2]
      exact ⟨fun _ => ⟨h1, h2⟩, fun _ => n1⟩
  · rw [if_neg h1]
    exact ⟨fun q => absurd rfl q, fun q => absurd q.1 h1⟩
theorem ln_s (a : Int32) (b c : Nat → Int32) (t : Int32) (z : Nat) (x y : Int32) : lfX0_latestNews a b c t (z + 1) x y = dfX0_latestNews_4 a b c t (lfX0_latestNews a b c t z) x y := rfl
theorem ln_L {n : Nat} {rn rs : Nat → Int32} {t : Int32} (hn : n ≤ 24) : ∀ (k i z : Nat) (v : Int32), i + k = n → k < z → v ≤ lfX0_latestNews (nI n) rn rs t z v (nI i) ∧ (∀ j, i ≤ j → j < n → ¬ fX7_isKnownBy (rn j) (rs j) t = 0 → rn j ≤ lfX0_latestNews (nI n) rn rs t z v (nI i)) ∧ (lfX0_latestNews (nI n) rn rs t z v (nI i) = v ∨ ∃ j, j < n ∧ ¬ fX7_isKnownBy (rn j) (rs j) t = 0 ∧ lfX0_latestNews (nI n) rn rs t z v (nI i) = rn j) := by
  intro k
  induction k with
  | zero =>
    intro i z v hi hz
    obtain ⟨z, rfl⟩ : ∃ y, z = y + 1 := ⟨z - 1, by omega⟩
    have e : i = n := by omega
    subst e
    have e1 : lfX0_latestNews (nI i) rn rs t (z + 1) v (nI i) = v := by
      rw [ln_s]
      unfold dfX0_latestNews_4
      rw [if_pos (Int32.le_refl _)]
    rw [e1]
    exact ⟨Int32.le_refl _, fun j q1 q2 => absurd q1 (by omega), Or.inl rfl⟩
  | succ k ih =>
    intro i z v hi hz
    obtain ⟨z, rfl⟩ : ∃ y, z = y + 1 := ⟨z - 1, by omega⟩
    have e1 : lfX0_latestNews (nI n) rn rs t (z + 1) v (nI i) = lfX0_latestNews (nI n) rn rs t z (if fX7_isKnownBy (rn i) (rs i) t = 0 then v else if v < rn i then rn i else v) (nI (i + 1)) := by
      rw [ln_s]
      unfold dfX0_latestNews_4 bfX0_latestNews_39
      rw [if_neg (fun w => by have := (nI_leI (by omega) (by omega)).1 w; omega), nI_clamp (by omega), cal_b, nI_1]
      by_cases h : fX7_isKnownBy (rn i) (rs i) t = 0
      · rw [if_pos h, if_pos h]
      · rw [if_neg h, if_neg h]
    obtain ⟨i1, i2, i3⟩ := ih (i + 1) z (if fX7_isKnownBy (rn i) (rs i) t = 0 then v else if v < rn i then rn i else v) (by omega) (by omega)
    rw [← e1] at i1 i2 i3
    generalize lfX0_latestNews (nI n) rn rs t (z + 1) v (nI i) = res at i1 i2 i3 ⊢
    by_cases h : fX7_isKnownBy (rn i) (rs i) t = 0
    · rw [if_pos h] at i1 i3
      refine ⟨i1, fun j q1 q2 q3 => ?_, i3⟩
      by_cases e : j = i
      · rw [e] at q3
        exact absurd h q3
      · exact i2 j (by omega) q2 q3
    · rw [if_neg h] at i1 i3
      by_cases h2 : v < rn i
      · rw [if_pos h2] at i1 i3
        refine ⟨Int32.le_trans (Int32.le_of_lt h2) i1, fun j q1 q2 q3 => ?_, ?_⟩
        · by_cases e : j = i
          · rw [e]
            exact i1
          · exact i2 j (by omega) q2 q3
        · rcases i3 with i3 | i3
          · exact Or.inr ⟨i, by omega, h, i3⟩
          · exact Or.inr i3
      · rw [if_neg h2] at i1 i3
        refine ⟨i1, fun j q1 q2 q3 => ?_, i3⟩
        by_cases e : j = i
        · rw [e]
          exact Int32.le_trans (Int32.not_lt.mp h2) i1
        · exact i2 j (by omega) q2 q3
theorem ln_eq {n : Nat} {rn rs : Nat → Int32} {t : Int32} (hn : n ≤ 24) : (∀ j, j < n → ¬ fX7_isKnownBy (rn j) (rs j) t = 0 → rn j ≤ fX0_latestNews (nI n) rn rs t) ∧ (fX0_latestNews (nI n) rn rs t = -1 ∨ ∃ j, j < n ∧ ¬ fX7_isKnownBy (rn j) (rs j) t = 0 ∧ fX0_latestNews (nI n) rn rs t = rn j) := by
  obtain ⟨_, h2, h3⟩ := ln_L (rn := rn) (rs := rs) (t := t) hn n 0 1000000000 (-1) (by omega) (by omega)
  unfold fX0_latestNews
  rw [nI_0] at h2 h3
  exact ⟨fun j hj => h2 j (by omega) hj, h3⟩
theorem ln_imp {n : Nat} {rn rs : Nat → Int32} {t t' : Int32} (hn : n ≤ 24) (h0 : ∀ j, j < n → 0 ≤ (rn j).toInt) (he : fX0_latestNews (nI n) rn rs t = fX0_latestNews (nI n) rn rs t') {j : Nat} (hj : j < n) (hk : ¬ fX7_isKnownBy (rn j) (rs j) t = 0) : ¬ fX7_isKnownBy (rn j) (rs j) t' = 0 := by
  obtain ⟨a1, _⟩ := ln_eq (rn := rn) (rs := rs) (t := t) hn
  obtain ⟨_, b2⟩ := ln_eq (rn := rn) (rs := rs) (t := t') hn
  have h1 := a1 j hj hk
  rw [he] at h1
  have h2 := (kb_eq _ _ _).1 hk
  rcases b2 with b2 | ⟨i, i1, i2, i3⟩
  · rw [b2] at h1
    have q := Int32.le_iff_toInt_le.mp h1
    rw [show (-1 : Int32).toInt = -1 from by decide] at q
    have := h0 j hj
    omega
  · rw [i3] at h1
    have h3 := (kb_eq _ _ _).1 i2
    refine (kb_eq _ _ _).2 ⟨h2.1, fun q => h3.2 ?_⟩
    have q1 := Int32.lt_iff_toInt_lt.mp q
    have q2 := Int32.le_iff_toInt_le.mp h1
    exact Int32.lt_iff_toInt_lt.mpr (by omega)
theorem ln_same {n : Nat} {rn rs : Nat → Int32} {t t' : Int32} (hn : n ≤ 24) (h0 : ∀ j, j < n → 0 ≤ (rn j).toInt) (he : fX0_latestNews (nI n) rn rs t = fX0_latestNews (nI n) rn rs t') : ∀ j, j < n → (¬ fX7_isKnownBy (rn j) (rs j) t = 0 ↔ ¬ fX7_isKnownBy (rn j) (rs j) t' = 0) := fun _ hj => ⟨ln_imp hn h0 he hj, ln_imp hn h0 he.symm hj⟩
