def cf (F c : Nat) : Nat := if c = 0 ∨ F < c then 1 else if c < F then c + 1 else 0
def cl (F L c : Nat) : Nat := if c ≤ F then F + 1 else if c < F + L then c + 1 else 0
def rho (F c : Nat) : Nat := if c ≤ F then c else c - F + 5
theorem pj_rwf0 : ∀ F < 6, ∀ c < 11, fX11_runWithFull (nI c) (nI F) = nI (cf F c) := by
  decide +kernel
theorem pj_rwl0 : ∀ F < 6, ∀ L < 6, ∀ c < 11, fX11_runWithLean (nI c) (nI F) (nI L) = nI (cl F L c) := by
  decide +kernel
theorem pj_rf {F c : Nat} (hF : F ≤ 5) (hc : c ≤ 10) : fX11_runWithFull (nI c) (nI F) = nI (cf F c) := pj_rwf0 F (by omega) c (by omega)
theorem pj_rl {F L c : Nat} (hF : F ≤ 5) (hL : L ≤ 5) (hc : c ≤ 10) : fX11_runWithLean (nI c) (nI F) (nI L) = nI (cl F L c) := pj_rwl0 F (by omega) L (by omega) c (by omega)
theorem cf_jn0 : ∀ F < 6, ∀ L < 6, ∀ c < 11, (¬ (1 ≤ F ∧ 1 ≤ L ∧ c ≤ F + L)) ∨ (jn F L (rho F c) 1 = (if cf F c = 0 then 0 else rho F (cf F c)) ∧ jn F L (rho F c) 0 = (if cl F L c = 0 then 0 else rho F (cl F L c)) ∧ cf F c ≤ F + L ∧ cl F L c ≤ F + L) := by
  decide +kernel
theorem cf_jn {F L c : Nat} (hF1 : 1 ≤ F) (hL1 : 1 ≤ L) (hF : F ≤ 5) (hL : L ≤ 5) (hc : c ≤ F + L) : jn F L (rho F c) 1 = (if cf F c = 0 then 0 else rho F (cf F c)) ∧ jn F L (rho F c) 0 = (if cl F L c = 0 then 0 else rho F (cl F L c)) ∧ cf F c ≤ F + L ∧ cl F L c ≤ F + L := (cf_jn0 F (by omega) L (by omega) c (by omega)).resolve_left (fun q => q ⟨hF1, hL1, hc⟩)
theorem rho_0 {F c : Nat} (h : ¬ c = 0) : ¬ rho F c = 0 := by
  unfold rho
  split <;> omega
def oV (F L m c : Nat) : Prop := (m = 0 ∧ c = 0) ∨ (1 ≤ m ∧ 1 ≤ c ∧ c ≤ F + L)
def oE (F L M : Nat) (ok : Nat → Nat → Bool) (x : Int32) (m c : Nat) : Prop := ∀ i : Nat, i < 32 → bt x i = decide (i ≤ m ∧ 0 < wy F L ok (M - m) m i (rho F c))
def oT (F L M : Nat) (ok : Nat → Nat → Bool) (f : Nat → Int32) (m c : Nat) : Prop := ∀ m' c' : Nat, m' ≤ M → oV F L m' c' → (m < m' ∨ (m = m' ∧ c' < c)) → oE F L M ok (f (11 * m' + c')) m' c'
def oZ (f : Nat → Int32) : Prop := ∀ m : Nat, 1 ≤ m → m ≤ 24 → f (11 * m) = 0
theorem oT_set {F L M : Nat} {ok : Nat → Nat → Bool} {f : Nat → Int32} {m c : Nat} {v : Int32} (h : oT F L M ok f m c) (hFL : F + L ≤ 10) (hc : c ≤ F + L) (hv : oE F L M ok v m c) : oT F L M ok (upd f (11 * m + c) v) m (c + 1) := by
  intro m' c' h1 h2 h4
  have hc' : c' ≤ 10 := by
    rcases h2 with h2 | h2 <;> omega
  unfold upd
  by_cases hj : 11 * m' + c' = 11 * m + c
  · rw [if_pos hj]
    have e1 : m' = m := by omega
    have e2 : c' = c := by omega
    rw [e1, e2]
    exact hv
  · rw [if_neg hj]
    exact h m' c' h1 h2 (by omega)
theorem oZ_set {f : Nat → Int32} {k : Nat} {v : Int32} (h : oZ f) (hk : ∀ m : Nat, 1 ≤ m → ¬ 11 * m = k) : oZ (upd f k v) := by
  intro m h1 h2
  unfold upd
  rw [if_neg (hk m h1)]
  exact h m h1 h2
theorem oE_last {F L M : Nat} {ok : Nat → Nat → Bool} {x : Int32} {c : Nat} (hx : ∀ i : Nat, i < 32 → bt x i = (decide (i ≤ M) && ok M i)) : oE F L M ok x M c := by
  intro i hi
  rw [hx i hi, Nat.sub_self, wy]
  by_cases h1 : i ≤ M
  · by_cases h2 : ok M i = true
    · rw [if_pos h2, h2]
      simp [h1]
    · rw [if_neg h2]
      simp [h1, h2]
  · simp [h1]
theorem oE_cell {F L M m c : Nat} {ok : Nat → Nat → Bool} {x y0 y1 : Int32} (hF1 : 1 ≤ F) (hL1 : 1 ≤ L) (hF : F ≤ 5) (hL : L ≤ 5) (hc : c ≤ F + L) (hm : m < M) (hM : M ≤ 24) (hx : ∀ i : Nat, i < 32 → bt x i = (decide (i ≤ m) && ok m i)) (h1 : if cf F c = 0 then y1 = 0 else oE F L M ok y1 (m + 1) (cf F c)) (h0 : if cl F L c = 0 then y0 = 0 else oE F L M ok y0 (m + 1) (cl F L c)) : oE F L M ok (x &&& ((y1 >>> ((1 : Int32) &&& 31)) ||| y0)) m c := by
  intro i hi
  obtain ⟨j1, j0, _, _⟩ := cf_jn hF1 hL1 hF hL hc
  rw [b_and, b_or, hx i hi]
  by_cases him : i ≤ m
  · have hs := b_sshr 1 (by omega) y1 hi
    rw [show nI 1 = (1 : Int32) from rfl, if_pos (by omega)] at hs
    rw [hs]
    obtain ⟨d, hd⟩ : ∃ d, M - m = d + 1 := ⟨M - m - 1, by omega⟩
    have hd2 : M - (m + 1) = d := by omega
    rw [hd, wy]
    by_cases hok : ok m i = true
    · rw [if_pos hok, hok, j1, j0]
      have e1 : bt y1 (1 + i) = decide (0 < (if (if cf F c = 0 then 0 else rho F (cf F c)) = 0 then 0 else wy F L ok d (m + 1) (i + 1) (if cf F c = 0 then 0 else rho F (cf F c)))) := by
        by_cases hz : cf F c = 0
        · rw [if_pos hz] at h1
          rw [h1, b_0, if_pos hz, if_pos rfl]
          rfl
        · rw [if_neg hz] at h1
          have q := h1 (1 + i) (by omega)
          rw [hd2] at q
          rw [if_neg hz, if_neg (rho_0 hz), q, show 1 + i = i + 1 from by omega]
          simp [him]
      have e0 : bt y0 i = decide (0 < (if (if cl F L c = 0 then 0 else rho F (cl F L c)) = 0 then 0 else wy F L ok d (m + 1) i (if cl F L c = 0 then 0 else rho F (cl F L c)))) := by
        by_cases hz : cl F L c = 0
        · rw [if_pos hz] at h0
          rw [h0, b_0, if_pos hz, if_pos rfl]
          rfl
        · rw [if_neg hz] at h0
          have q := h0 i hi
          rw [hd2] at q
          rw [if_neg hz, if_neg (rho_0 hz), q]
          have : i ≤ m + 1 := by omega
          simp [this]
      rw [e1, e0]
      generalize (if (if cf F c = 0 then 0 else rho F (cf F c)) = 0 then 0 else wy F L ok d (m + 1) (i + 1) (if cf F c = 0 then 0 else rho F (cf F c))) = A
      generalize (if (if cl F L c = 0 then 0 else rho F (cl F L c)) = 0 then 0 else wy F L ok d (m + 1) i (if cl F L c = 0 then 0 else rho F (cl F L c))) = B
      by_cases hA : 0 < A
      · have : 0 < B + A := by omega
        simp [him, hA, this]
      · have hA0 : A = 0 := by omega
        rw [hA0]
        simp [him]
    · rw [if_neg hok]
      simp [hok]
  · simp [him]
def fxA (f : Nat → Int32) (M : Nat) (ok : Nat → Nat → Bool) : Prop := ∀ m : Nat, m ≤ M → ∀ i : Nat, i < 32 → bt (f m) i = (decide (i ≤ m) && ok m i)
theorem pf_run {fal fon : Nat → Int32} {F L M : Nat} {ok : Nat → Nat → Bool} (hM : M ≤ 24) (hF1 : 1 ≤ F) (hL1 : 1 ≤ L) (hF : F ≤ 5) (hL : L ≤ 5) (hA : fxA fal M ok) {m : Nat} (hm : m < M) {Q : Int32 × (Nat → Int32) → Prop} {z0 : Nat} (hK : ∀ (w : Nat → Int32) (z : Nat), z0 ≤ z → oZ w → oT F L M ok w m 11 → Q ((lfX3_fits (nI M) (nI F) (nI L) fal fon z).2.1 (nI m + (-1 : Int32)) w)) :
    ∀ (k c z : Nat) (w : Nat → Int32), c + k = (if m = 0 then 0 else F + L) + 1 → (if m = 0 then 0 else 1) ≤ c → z0 + k + 1 ≤ z → oZ w → oT F L M ok w m c → Q ((lfX3_fits (nI M) (nI F) (nI L) fal fon z).2.2 (nI m) (nI (11 * (m + 1))) (nI c) w) := by
  have hlast : fX11_lastRun (nI m) (nI F) (nI L) = nI (if m = 0 then 0 else F + L) := by
    unfold fX11_lastRun bfX11_lastRun_11
    by_cases h : m = 0
    · rw [h, if_pos rfl, if_pos nI_0]
      rfl
    · rw [if_neg h, if_neg (nI_ne0 (by omega) (by omega)), nI_add]
  intro k
  induction k with
  | zero =>
    intro c z w hc hc1 hz hZ hw
    obtain ⟨z, rfl⟩ : ∃ y, z = y + 1 := ⟨z - 1, by omega⟩
    show Q (dfX3_fits_67 (nI M) (nI F) (nI L) fal fon (lfX3_fits (nI M) (nI F) (nI L) fal fon z) (nI m) (nI (11 * (m + 1))) (nI c) w)
    unfold dfX3_fits_67
    have hle : (if m = 0 then 0 else F + L) ≤ 10 := by split <;> omega
    rw [cal_b, hlast, if_pos (nI_lt (by omega) (by omega))]
    refine hK w z (by omega) hZ (fun m' c' q1 q2 q3 => hw m' c' q1 q2 ?_)
    rcases q3 with q3 | ⟨q3, q4⟩
    · exact Or.inl q3
    · refine Or.inr ⟨q3, ?_⟩
      rcases q2 with ⟨q5, q6⟩ | ⟨q5, q6, q7⟩
      · rw [if_pos (by omega)] at hc
        omega
      · rw [if_neg (by omega)] at hc
        omega
  | succ k ih =>
    intro c z w hc hc1 hz hZ hw
    obtain ⟨z, rfl⟩ : ∃ y, z = y + 1 := ⟨z - 1, by omega⟩
    show Q (dfX3_fits_67 (nI M) (nI F) (nI L) fal fon (lfX3_fits (nI M) (nI F) (nI L) fal fon z) (nI m) (nI (11 * (m + 1))) (nI c) w)
    unfold dfX3_fits_67
    have hle : (if m = 0 then 0 else F + L) ≤ F + L := by split <;> omega
    have hcv : oV F L m c := by
      by_cases h : m = 0
      · rw [if_pos h] at hc
        exact Or.inl ⟨h, by omega⟩
      · rw [if_neg h] at hc hc1
        exact Or.inr ⟨by omega, by omega, by omega⟩
    obtain ⟨_, _, j1, j0⟩ := cf_jn hF1 hL1 hF hL (show c ≤ F + L by omega)
    rw [cal_b, hlast, if_neg (nI_nlt (by omega) (by omega)), cal_b, cal_b, pj_rf hF (by omega), pj_rl hF hL (by omega), nI_add, nI_add, nI_clamp (by omega), nI_clamp (by omega), nI_clamp (by omega), show nI m * (11 : Int32) + nI c = nI (11 * m + c) from by rw [show (11 : Int32) = nI 11 from rfl, pk_mul, nI_add, Nat.mul_comm], nI_clamp (by omega), nI_1]
    have hcell : oE F L M ok (fal m &&& ((w (11 * (m + 1) + cf F c) >>> ((1 : Int32) &&& 31)) ||| w (11 * (m + 1) + cl F L c))) m c := by
      refine oE_cell hF1 hL1 hF hL (by omega) hm hM (hA m (by omega)) ?_ ?_
      · by_cases h : cf F c = 0
        · rw [if_pos h, h]
          exact hZ (m + 1) (by omega) (by omega)
        · rw [if_neg h]
          exact hw (m + 1) (cf F c) (by omega) (Or.inr ⟨by omega, by omega, by omega⟩) (Or.inl (by omega))
      · by_cases h : cl F L c = 0
        · rw [if_pos h, h]
          exact hZ (m + 1) (by omega) (by omega)
        · rw [if_neg h]
          exact hw (m + 1) (cl F L c) (by omega) (Or.inr ⟨by omega, by omega, by omega⟩) (Or.inl (by omega))
    refine ih (c + 1) z _ (by omega) (by omega) (by omega) (oZ_set hZ ?_) (oT_set hw (by omega) (by omega) hcell)
    intro m' q1 q2
    rcases hcv with ⟨q3, q4⟩ | ⟨q3, q4, q5⟩ <;> omega
theorem pf_outer {fal fon : Nat → Int32} {F L M : Nat} {ok : Nat → Nat → Bool} (hM : M ≤ 24) (hF1 : 1 ≤ F) (hL1 : 1 ≤ L) (hF : F ≤ 5) (hL : L ≤ 5) (hA : fxA fal M ok) :
    ∀ (k z : Nat) (w : Nat → Int32), k ≤ M → 20 * k + 2 ≤ z → oZ w → (∀ m' c' : Nat, m' ≤ M → oV F L m' c' → k ≤ m' → oE F L M ok (w (11 * m' + c')) m' c') →
      ((lfX3_fits (nI M) (nI F) (nI L) fal fon z).2.1 (nI k - (1 : Int32)) w).1 = (if 0 < wy F L ok M 0 0 0 then 1 else 0) ∧ oZ ((lfX3_fits (nI M) (nI F) (nI L) fal fon z).2.1 (nI k - (1 : Int32)) w).2 ∧ ∀ m' c' : Nat, m' ≤ M → oV F L m' c' → oE F L M ok (((lfX3_fits (nI M) (nI F) (nI L) fal fon z).2.1 (nI k - (1 : Int32)) w).2 (11 * m' + c')) m' c' := by
  intro k
  induction k with
  | zero =>
    intro z w _ hz hZ hw
    obtain ⟨z, rfl⟩ : ∃ y, z = y + 1 := ⟨z - 1, by omega⟩
    have h00 := hw 0 0 (by omega) (Or.inl ⟨rfl, rfl⟩) (by omega) 0 (by omega)
    have hr0 : rho F 0 = 0 := by unfold rho; rw [if_pos (by omega)]
    rw [Nat.sub_zero, hr0] at h00
    have e : (lfX3_fits (nI M) (nI F) (nI L) fal fon (z + 1)).2.1 (nI 0 - (1 : Int32)) w = ((if 0 < wy F L ok M 0 0 0 then 1 else 0), w) := by
      show dfX3_fits_51 (nI M) (nI F) (nI L) fal fon (lfX3_fits (nI M) (nI F) (nI L) fal fon z) (nI 0 - (1 : Int32)) w = _
      unfold dfX3_fits_51 bfX3_fits_174
      rw [if_pos (by decide)]
      have hb : (w (0 : Int32).toNatClampNeg &&& (1 : Int32)) = 0 ↔ bt (w 0) 0 = false := by
        rw [show (0 : Int32).toNatClampNeg = 0 from rfl]
        exact bt_and1 (w 0)
      by_cases h : 0 < wy F L ok M 0 0 0
      · rw [if_neg (fun q => by rw [hb.1 q] at h00; simp [h] at h00), if_pos h]
      · rw [if_pos (hb.2 (by rw [h00]; simp [h])), if_neg h]
    rw [e]
    exact ⟨rfl, hZ, fun m' c' q1 q2 => hw m' c' q1 q2 (by omega)⟩
  | succ k ih =>
    intro z w hk hz hZ hw
    obtain ⟨z, rfl⟩ : ∃ y, z = y + 1 := ⟨z - 1, by omega⟩
    have e : (lfX3_fits (nI M) (nI F) (nI L) fal fon (z + 1)).2.1 (nI (k + 1) - (1 : Int32)) w = (lfX3_fits (nI M) (nI F) (nI L) fal fon z).2.2 (nI k) (nI (11 * (k + 1))) (nI (if k = 0 then 0 else 1)) w := by
      show dfX3_fits_51 (nI M) (nI F) (nI L) fal fon (lfX3_fits (nI M) (nI F) (nI L) fal fon z) (nI (k + 1) - (1 : Int32)) w = _
      unfold dfX3_fits_51
      rw [nI_pred, if_neg (nI_pos (by omega)), cal_b, nI_1, show nI (k + 1) * (11 : Int32) = nI (11 * (k + 1)) from by rw [show (11 : Int32) = nI 11 from rfl, pk_mul, Nat.mul_comm]]
      have ef : fX11_firstRun (nI k) = nI (if k = 0 then 0 else 1) := by
        unfold fX11_firstRun bfX11_firstRun_9
        by_cases h : k = 0
        · rw [h, if_pos rfl, if_pos nI_0]
          rfl
        · rw [if_neg h, if_neg (nI_ne0 (by omega) (by omega))]
          rfl
      rw [ef]
    rw [e]
    have hb : (if k = 0 then 0 else 1) ≤ (if k = 0 then 0 else F + L) + 1 ∧ (if k = 0 then 0 else F + L) + 1 - (if k = 0 then 0 else 1) ≤ 11 := by
      split <;> constructor <;> omega
    refine pf_run (Q := fun o => o.1 = (if 0 < wy F L ok M 0 0 0 then 1 else 0) ∧ oZ o.2 ∧ ∀ m' c' : Nat, m' ≤ M → oV F L m' c' → oE F L M ok (o.2 (11 * m' + c')) m' c') (z0 := 20 * k + 2) hM hF1 hL1 hF hL hA (m := k) (by omega) ?_ ((if k = 0 then 0 else F + L) + 1 - (if k = 0 then 0 else 1)) (if k = 0 then 0 else 1) z w (by omega) (Nat.le_refl _) (by omega) hZ ?_
    · intro w z hz hZ hw
      rw [show nI k + (-1 : Int32) = nI k - (1 : Int32) from by rw [Int32.sub_eq_add_neg]]
      refine ih z w (by omega) hz hZ (fun m' c' q1 q2 q3 => hw m' c' q1 q2 ?_)
      have : c' ≤ 10 := by rcases q2 with q2 | q2 <;> omega
      omega
    · intro m' c' q1 q2 q3
      refine hw m' c' q1 q2 ?_
      rcases q3 with q3 | ⟨q3, q4⟩
      · omega
      · exfalso
        rcases q2 with ⟨q5, q6⟩ | ⟨q5, q6, q7⟩
        · rw [if_pos (by omega)] at q4
          omega
        · rw [if_neg (by omega)] at q4
          omega
theorem pf_top {fal fon : Nat → Int32} {F L M : Nat} {ok : Nat → Nat → Bool} (hM1 : 1 ≤ M) (hM : M ≤ 24) (hF1 : 1 ≤ F) (hL1 : 1 ≤ L) (hF : F ≤ 5) (hL : L ≤ 5) (hA : fxA fal M ok) {Q : Int32 × (Nat → Int32) → Prop} {z0 : Nat} (hK : ∀ (w : Nat → Int32) (z : Nat), z0 ≤ z → oZ w → oT F L M ok w M 11 → Q ((lfX3_fits (nI M) (nI F) (nI L) fal fon z).2.1 (nI M - (1 : Int32)) w)) :
    ∀ (k c z : Nat) (w : Nat → Int32), c + k = F + L + 1 → 1 ≤ c → z0 + k + 1 ≤ z → oZ w → oT F L M ok w M c → Q ((lfX3_fits (nI M) (nI F) (nI L) fal fon z).1 (nI c) w) := by
  intro k
  induction k with
  | zero =>
    intro c z w hc hc1 hz hZ hw
    obtain ⟨z, rfl⟩ : ∃ y, z = y + 1 := ⟨z - 1, by omega⟩
    show Q (dfX3_fits_2 (nI M) (nI F) (nI L) fal fon (lfX3_fits (nI M) (nI F) (nI L) fal fon z) (nI c) w)
    unfold dfX3_fits_2
    rw [nI_add, if_pos (nI_lt (by omega) (by omega))]
    refine hK w z (by omega) hZ (fun m' c' q1 q2 q3 => hw m' c' q1 q2 ?_)
    rcases q2 with q2 | q2 <;> omega
  | succ k ih =>
    intro c z w hc hc1 hz hZ hw
    obtain ⟨z, rfl⟩ : ∃ y, z = y + 1 := ⟨z - 1, by omega⟩
    show Q (dfX3_fits_2 (nI M) (nI F) (nI L) fal fon (lfX3_fits (nI M) (nI F) (nI L) fal fon z) (nI c) w)
    unfold dfX3_fits_2
    rw [nI_add, if_neg (nI_nlt (by omega) (by omega)), nI_1, show nI M * (11 : Int32) + nI c = nI (11 * M + c) from by rw [show (11 : Int32) = nI 11 from rfl, pk_mul, nI_add, Nat.mul_comm], nI_clamp (by omega), nI_clamp (by omega)]
    exact ih (c + 1) z _ (by omega) (by omega) (by omega) (oZ_set hZ (fun m' q1 q2 => by omega)) (oT_set hw (by omega) (by omega) (oE_last (hA M (Nat.le_refl _))))
theorem pf_fits {fal fon : Nat → Int32} {F L M : Nat} {ok : Nat → Nat → Bool} (hM1 : 1 ≤ M) (hM : M ≤ 24) (hF1 : 1 ≤ F) (hL1 : 1 ≤ L) (hF : F ≤ 5) (hL : L ≤ 5) (hA : fxA fal M ok) (hZ : oZ fon) :
    (fX3_fits (nI M) (nI F) (nI L) fal fon).1 = (if 0 < wy F L ok M 0 0 0 then 1 else 0) ∧ oZ (fX3_fits (nI M) (nI F) (nI L) fal fon).2 ∧ ∀ m' c' : Nat, m' ≤ M → oV F L m' c' → oE F L M ok ((fX3_fits (nI M) (nI F) (nI L) fal fon).2 (11 * m' + c')) m' c' := by
  unfold fX3_fits
  rw [show (1 : Int32) = nI 1 from rfl]
  refine pf_top (Q := fun o => o.1 = (if 0 < wy F L ok M 0 0 0 then 1 else 0) ∧ oZ o.2 ∧ ∀ m' c' : Nat, m' ≤ M → oV F L m' c' → oE F L M ok (o.2 (11 * m' + c')) m' c') (z0 := 1000) hM1 hM hF1 hL1 hF hL hA ?_ (F + L) 1 1000000000 fon (by omega) (by omega) (by omega) hZ ?_
  · intro w z hz hZ hw
    exact pf_outer hM hF1 hL1 hF hL hA M z w (Nat.le_refl _) (by omega) hZ (fun m' c' q1 q2 q3 => hw m' c' q1 q2 (by rcases q2 with q2 | q2 <;> omega))
  · intro m' c' q1 q2 q3
    rcases q2 with q2 | q2 <;> omega
