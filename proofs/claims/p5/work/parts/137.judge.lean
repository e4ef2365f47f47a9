def ofs (F L M : Nat) (ok : Nat → Nat → Bool) : Nat → Nat × Nat
  | 0 => (0, 0)
  | m + 1 => if ¬ jn F L (ofs F L M ok m).2 1 = 0 ∧ 0 < wy F L ok (M - (m + 1)) (m + 1) ((ofs F L M ok m).1 + 1) (jn F L (ofs F L M ok m).2 1) then ((ofs F L M ok m).1 + 1, jn F L (ofs F L M ok m).2 1) else ((ofs F L M ok m).1, jn F L (ofs F L M ok m).2 0)
theorem ofs_ok {F L M : Nat} {ok : Nat → Nat → Bool} (hF : F ≤ 5) (hL : L ≤ 5) (hw : 0 < wy F L ok M 0 0 0) : ∀ m : Nat, m ≤ M → 0 < wy F L ok (M - m) m (ofs F L M ok m).1 (ofs F L M ok m).2 ∧ (ofs F L M ok m).1 ≤ m ∧ (ofs F L M ok m).2 ≤ 10 ∧ (1 ≤ m → 1 ≤ (ofs F L M ok m).2) := by
  intro m
  induction m with
  | zero =>
    intro _
    rw [ofs]
    exact ⟨hw, Nat.le_refl 0, by omega, fun h => absurd h (by omega)⟩
  | succ m ih =>
    intro hm
    obtain ⟨h1, h2, h3, _⟩ := ih (by omega)
    obtain ⟨d, hd⟩ : ∃ d, M - m = d + 1 := ⟨M - m - 1, by omega⟩
    have hd2 : M - (m + 1) = d := by omega
    have j1 := jn_le F L (ofs F L M ok m).2 1 hF hL
    have j0 := jn_le F L (ofs F L M ok m).2 0 hF hL
    rw [ofs, hd2]
    generalize (ofs F L M ok m).1 = a at h1 h2 j1 j0 ⊢
    generalize (ofs F L M ok m).2 = r at h1 h3 j1 j0 ⊢
    rw [hd, wy] at h1
    by_cases hok : ok m a = true
    · rw [if_pos hok] at h1
      by_cases hc : ¬ jn F L r 1 = 0 ∧ 0 < wy F L ok d (m + 1) (a + 1) (jn F L r 1)
      · rw [if_pos hc]
        exact ⟨hc.2, by omega, j1, fun _ => by have := hc.1; omega⟩
      · rw [if_neg hc]
        have e : (if jn F L r 1 = 0 then 0 else wy F L ok d (m + 1) (a + 1) (jn F L r 1)) = 0 := by
          by_cases hz : jn F L r 1 = 0
          · rw [if_pos hz]
          · rw [if_neg hz]
            have : ¬ 0 < wy F L ok d (m + 1) (a + 1) (jn F L r 1) := fun q => hc ⟨hz, q⟩
            omega
        rw [e, Nat.add_zero] at h1
        by_cases hz : jn F L r 0 = 0
        · rw [if_pos hz] at h1
          omega
        · rw [if_neg hz] at h1
          exact ⟨h1, by omega, j0, fun _ => by omega⟩
    · rw [if_neg hok] at h1
      omega
theorem dv_day (m a : Nat) : fX11_dayOf (nI m) (nI a) = nI (29 * m + a) := by
  unfold fX11_dayOf
  rw [show (29 : Int32) = nI 29 from rfl, pk_mul, nI_add]
theorem bt_sr1 (x : Int32) {k : Nat} (hk : k < 32) : ((x >>> (nI k &&& 31)) &&& (1 : Int32)) = 0 ↔ bt x k = false := by
  rw [bt_and1, b_sshr k hk x (by omega), Nat.add_zero, if_pos hk]
theorem bi_s (a b c : Int32) (f g : Nat → Int32) (z : Nat) (x y w : Int32) (h : Nat → Int32) : lfX3_beginsInto a b c f g (z + 1) x y w h = dfX3_beginsInto_11 a b c f g (lfX3_beginsInto a b c f g z) x y w h := rfl
theorem bi_L {F L M : Nat} {ok : Nat → Nat → Bool} {fon fbg : Nat → Int32} (hM : M ≤ 24) (hF1 : 1 ≤ F) (hL1 : 1 ≤ L) (hF : F ≤ 5) (hL : L ≤ 5) (hw : 0 < wy F L ok M 0 0 0) (hZ : oZ fon) (hE : ∀ m' c' : Nat, m' ≤ M → oV F L m' c' → oE F L M ok (fon (11 * m' + c')) m' c') : ∀ (k m c z : Nat) (bg : Nat → Int32), m + k = M → k < z → oV F L m c → rho F c = (ofs F L M ok m).2 → (∀ j, m < j → j ≤ M → lfX3_beginsInto (nI M) (nI F) (nI L) fon fbg z (nI (ofs F L M ok m).1) (nI c) (nI m) bg j = nI (29 * j + (ofs F L M ok j).1)) ∧ ∀ j, j ≤ m → lfX3_beginsInto (nI M) (nI F) (nI L) fon fbg z (nI (ofs F L M ok m).1) (nI c) (nI m) bg j = bg j := by
  intro k
  induction k with
  | zero =>
    intro m c z bg hm hz hc hr
    obtain ⟨z, rfl⟩ : ∃ y, z = y + 1 := ⟨z - 1, by omega⟩
    have e : m = M := by omega
    subst e
    have e1 : lfX3_beginsInto (nI m) (nI F) (nI L) fon fbg (z + 1) (nI (ofs F L m ok m).1) (nI c) (nI m) bg = bg := by
      rw [bi_s]
      unfold dfX3_beginsInto_11
      rw [if_pos (Int32.le_refl _)]
    rw [e1]
    exact ⟨fun j q1 q2 => absurd q1 (by omega), fun j _ => rfl⟩
  | succ k ih =>
    intro m c z bg hm hz hc hr
    obtain ⟨z, rfl⟩ : ∃ y, z = y + 1 := ⟨z - 1, by omega⟩
    obtain ⟨w1, w2, w3, w4⟩ := ofs_ok hF hL hw m (by omega)
    obtain ⟨v1, v2, v3, v4⟩ := ofs_ok hF hL hw (m + 1) (by omega)
    have hcle : c ≤ F + L := by rcases hc with hc | hc <;> omega
    obtain ⟨j1, j0, l1, l0⟩ := cf_jn hF1 hL1 hF hL hcle
    rw [hr] at j1 j0
    have hstep : ∃ c', oV F L (m + 1) c' ∧ rho F c' = (ofs F L M ok (m + 1)).2 ∧ lfX3_beginsInto (nI M) (nI F) (nI L) fon fbg (z + 1) (nI (ofs F L M ok m).1) (nI c) (nI m) bg = lfX3_beginsInto (nI M) (nI F) (nI L) fon fbg z (nI (ofs F L M ok (m + 1)).1) (nI c') (nI (m + 1)) (upd bg (m + 1) (nI (29 * (m + 1) + (ofs F L M ok (m + 1)).1))) := by
      have hbit : bt (fon (11 * (m + 1) + cf F c)) ((ofs F L M ok m).1 + 1) = decide (¬ jn F L (ofs F L M ok m).2 1 = 0 ∧ 0 < wy F L ok (M - (m + 1)) (m + 1) ((ofs F L M ok m).1 + 1) (jn F L (ofs F L M ok m).2 1)) := by
        by_cases hz : cf F c = 0
        · rw [hz, Nat.add_zero, hZ (m + 1) (by omega) (by omega), b_0, j1, if_pos hz]
          simp
        · rw [hE (m + 1) (cf F c) (by omega) (Or.inr ⟨by omega, by omega, by omega⟩) _ (by omega), j1, if_neg hz]
          have := rho_0 (F := F) hz
          have h5 : (ofs F L M ok m).1 + 1 ≤ m + 1 := by omega
          simp [this, h5]
      rw [bi_s]
      unfold dfX3_beginsInto_11 bfX3_beginsInto_76
      rw [if_neg (fun q => by have := (nI_leI (by omega) (by omega)).1 q; omega), cal_b, pj_rf hF (by omega), nI_1, nI_1, show nI (m + 1) * (11 : Int32) + nI (cf F c) = nI (11 * (m + 1) + cf F c) from by rw [show (11 : Int32) = nI 11 from rfl, pk_mul, nI_add, Nat.mul_comm], nI_clamp (by omega)]
      by_cases hcnd : ¬ jn F L (ofs F L M ok m).2 1 = 0 ∧ 0 < wy F L ok (M - (m + 1)) (m + 1) ((ofs F L M ok m).1 + 1) (jn F L (ofs F L M ok m).2 1)
      · have e : ofs F L M ok (m + 1) = ((ofs F L M ok m).1 + 1, jn F L (ofs F L M ok m).2 1) := by rw [ofs, if_pos hcnd]
        have hz : ¬ cf F c = 0 := fun q => hcnd.1 (by rw [j1, if_pos q])
        rw [if_neg (fun q => by rw [bt_sr1 _ (by omega), hbit, decide_eq_false_iff_not] at q; exact q hcnd)]
        refine ⟨cf F c, Or.inr ⟨by omega, by omega, l1⟩, by rw [e, j1, if_neg hz], ?_⟩
        rw [cal_b, dv_day, nI_clamp (by omega), e]
      · have e : ofs F L M ok (m + 1) = ((ofs F L M ok m).1, jn F L (ofs F L M ok m).2 0) := by rw [ofs, if_neg hcnd]
        have hz : ¬ cl F L c = 0 := fun q => by
          have h6 := v4 (by omega)
          rw [e, j0, if_pos q] at h6
          exact absurd h6 (Nat.not_succ_le_zero 0)
        rw [if_pos (by rw [bt_sr1 _ (by omega), hbit, decide_eq_false_iff_not]; exact hcnd)]
        refine ⟨cl F L c, Or.inr ⟨by omega, by omega, l0⟩, by rw [e, j0, if_neg hz], ?_⟩
        rw [cal_b, cal_b, pj_rl hF hL (by omega), dv_day, nI_clamp (by omega), e]
    obtain ⟨c', g1, g2, g3⟩ := hstep
    rw [g3]
    obtain ⟨i1, i2⟩ := ih (m + 1) c' z (upd bg (m + 1) (nI (29 * (m + 1) + (ofs F L M ok (m + 1)).1))) (by omega) (by omega) g1 g2
    refine ⟨fun j q1 q2 => ?_, fun j q => ?_⟩
    · by_cases e : j = m + 1
      · rw [i2 j (by omega), e]
        exact if_pos rfl
      · exact i1 j (by omega) q2
    · rw [i2 j (by omega)]
      exact if_neg (by omega)
theorem bi_begins {F L M : Nat} {ok : Nat → Nat → Bool} {fon fbg : Nat → Int32} (hM : M ≤ 24) (hF1 : 1 ≤ F) (hL1 : 1 ≤ L) (hF : F ≤ 5) (hL : L ≤ 5) (hw : 0 < wy F L ok M 0 0 0) (hZ : oZ fon) (hE : ∀ m' c' : Nat, m' ≤ M → oV F L m' c' → oE F L M ok (fon (11 * m' + c')) m' c') : ∀ j, j ≤ M → fX3_beginsInto (nI M) (nI F) (nI L) fon fbg j = nI (29 * j + (ofs F L M ok j).1) := by
  intro j hj
  have h := bi_L (fbg := fbg) hM hF1 hL1 hF hL hw hZ hE M 0 0 1000000000 (upd fbg 0 (0 : Int32)) (by omega) (by omega) (Or.inl ⟨rfl, rfl⟩) (by rw [ofs]; unfold rho; rw [if_pos (by omega)])
  rw [show (ofs F L M ok 0).1 = 0 from by rw [ofs], nI_0] at h
  unfold fX3_beginsInto
  rw [show (0 : Int32).toNatClampNeg = 0 from rfl]
  by_cases e : j = 0
  · rw [e, h.2 0 (by omega), show (ofs F L M ok 0).1 = 0 from by rw [ofs]]
    exact if_pos rfl
  · exact h.1 j (by omega) hj
