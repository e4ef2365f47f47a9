theorem n10 : ¬ (1 : Int32) = 0 := by decide
theorem fl_report {mi xp xk xm xd xn xs yp yk ym yd yn ys : Nat → Int32} {r : Nat} (hr : r ≤ 24) (h10 : mi 10 = nI r) (hE : ∀ j, j < r → (xp j = yp j ∧ xk j = yk j ∧ xm j = ym j ∧ xd j = yd j ∧ xn j = yn j ∧ xs j = ys j)) (p1 p2 : Int32) : fX11_report (nI r) xp xk xm xd xn xs p1 p2 = fX12_report mi ys yn yp ym yd yk p1 p2 := by
  unfold fX11_report fX12_report bfX11_report_76 bfX12_report_74
  repeat rw [cal_b]
  rw [dx_hasReport (by omega), dr_isReport h10 (by omega)]
  by_cases h : 0 ≤ p1.toInt ∧ p1.toInt < (r : Int)
  · obtain ⟨q1, -⟩ := clampI h
    obtain ⟨e1, e2, e3, e4, e5, e6⟩ := hE _ q1
    rw [if_pos h, if_neg n10, if_neg n10, e1, e2, e3, e4, e5, e6]
  · rw [if_neg h, if_pos rfl, if_pos rfl]
theorem fl_deed {mi xa xb xl xi ya yb yl yi : Nat → Int32} {d : Nat} (hd : d ≤ 8) (h17 : mi 17 = nI d) (hE : ∀ j, j < d → xa j = ya j ∧ xb j = yb j ∧ xl j = yl j ∧ xi j = yi j) (hk : ∀ j, j < d → xi j = 0 ∨ xi j = 1) (p1 p2 : Int32) : fX11_deed (nI d) xa xb xl xi p1 p2 = fX12_deed mi ya yl yi yb p1 p2 := by
  unfold fX11_deed fX12_deed bfX11_deed_79
  repeat rw [cal_b]
  rw [dx_hasDeed (by omega), dr_isDeed h17 (by omega)]
  by_cases h : 0 ≤ p1.toInt ∧ p1.toInt < (d : Int)
  · obtain ⟨q1, -⟩ := clampI h
    obtain ⟨e1, e2, e3, e4⟩ := hE _ q1
    have g9 := hk _ q1
    rw [e4] at g9
    rw [if_pos h, if_neg n10, if_neg n10, e1, e2, e3, e4]
    have e5 : (if yi p1.toNatClampNeg = 0 then (0 : Int32) else 1) = yi p1.toNatClampNeg := by
      rcases g9 with g | g
      · rw [if_pos g, g]
      · rw [if_neg (by rw [g]; decide), g]
    rw [e5]
  · rw [if_neg h, if_pos rfl, if_pos rfl]
theorem fl_early {mi : Nat → Int32} (p1 : Int32) : fX11_early (mi 0) (mi 4) (mi 5) (mi 6) p1 = fX12_early mi p1 := by
  have k1 : (1 : Int32).toInt = 1 := by decide
  unfold fX11_early fX12_early bfX11_early_26 bfX12_early_29 bfX12_early_31 fX0_earlyOf fX12_earlyOf
  repeat rw [cal_b]
  rw [dx_month, dr_in, o64, k1, Int32.toInt_toInt64]
  by_cases h : 1 ≤ p1.toInt ∧ p1.toInt ≤ (mi 0).toInt
  · rw [if_pos h, if_pos (show 0 < (mi 0).toInt ∧ 1 ≤ p1.toInt ∧ p1.toInt ≤ (mi 0).toInt by omega), if_neg n10]
  · rw [if_neg h, if_neg (show ¬ (0 < (mi 0).toInt ∧ 1 ≤ p1.toInt ∧ p1.toInt ≤ (mi 0).toInt) from fun q => h q.2), if_pos rfl]
theorem kn_eq (xn xs : Nat → Int32) (v p1 : Int32) : fX7_isKnownBy (xn v.toNatClampNeg) (xs v.toNatClampNeg) p1 = fX12_isKnown xs xn v p1 := rfl
theorem bl_x (a b : Int32) (xk xm xn xs : Nat → Int32) (p1 p2 : Int32) (z : Nat) (v3 v4 : Int32) : lfX11_blind a b xk xm xn xs p1 p2 (z + 1) v3 v4 = dfX11_blind_34 a b xk xm xn xs p1 p2 (lfX11_blind a b xk xm xn xs p1 p2 z) v3 v4 := rfl
theorem bl_m (mi ys yn ym yk : Nat → Int32) (p1 p2 : Int32) (z : Nat) (v3 v4 : Int32) : lfX12_blind mi ys yn ym yk p1 p2 (z + 1) v3 v4 = dfX12_blind_32 mi ys yn ym yk p1 p2 (lfX12_blind mi ys yn ym yk p1 p2 z) v3 v4 := rfl
theorem bl_loop {mi xk xm xn xs yk ym yn ys : Nat → Int32} {mo : Int32} {r : Nat} (hr : r ≤ 24) (h10 : mi 10 = nI r) (hE : ∀ j, j < r → xk j = yk j ∧ xm j = ym j ∧ xn j = yn j ∧ xs j = ys j) (p1 p2 : Int32) : ∀ (k i z y : Nat) (v : Int32), i + k = r → k < z → k < y → (v = 0 ∨ v = 1) → lfX11_blind mo (nI r) xk xm xn xs p1 p2 z v (nI i) = lfX12_blind mi ys yn ym yk p1 p2 y v (nI i) := by
  intro k
  induction k with
  | zero =>
    intro i z y v hi hz hy hv
    obtain ⟨z, rfl⟩ : ∃ q, z = q + 1 := ⟨z - 1, by omega⟩
    obtain ⟨y, rfl⟩ : ∃ q, y = q + 1 := ⟨y - 1, by omega⟩
    rw [bl_x, bl_m]
    unfold dfX11_blind_34 dfX12_blind_32 bfX12_blind_95
    rw [h10, if_pos (nI_le (by omega) (by omega)), if_pos (nI_le (by omega) (by omega))]
    rcases hv with h | h
    · rw [if_pos h, h]
    · rw [if_neg (by rw [h]; decide), h]
  | succ k ih =>
    intro i z y v hi hz hy hv
    obtain ⟨z, rfl⟩ : ∃ q, z = q + 1 := ⟨z - 1, by omega⟩
    obtain ⟨y, rfl⟩ : ∃ q, y = q + 1 := ⟨y - 1, by omega⟩
    have a1 := ih (i + 1) z y v (by omega) (by omega) (by omega) hv
    have a2 := ih (i + 1) z y 1 (by omega) (by omega) (by omega) (Or.inr rfl)
    obtain ⟨e2, e3, e5, e6⟩ := hE i (by omega)
    have ek : fX7_isKnownBy (yn i) (ys i) p1 = fX12_isKnown ys yn (nI i) p1 := by
      have g := kn_eq yn ys (nI i) p1
      rw [nI_clamp (by omega)] at g
      exact g
    rw [bl_x, bl_m]
    unfold dfX11_blind_34 dfX12_blind_32 bfX11_blind_89 bfX12_blind_80
    rw [h10, if_neg (nI_ge (by omega) (by omega)), if_neg (nI_ge (by omega) (by omega)), nI_clamp (show i < 2147483648 by omega), e2, e3, e5, e6, ek, cal_b, cal_b, ← nI_succ, a1, a2]
    by_cases g1 : fX12_isKnown ys yn (nI i) p1 = 0
    · rw [if_pos g1, if_pos g1]
      split
      · rfl
      · rfl
    · rw [if_neg g1, if_neg g1]
theorem fl_blind {mi xk xm xn xs yk ym yn ys : Nat → Int32} {r : Nat} (hr : r ≤ 24) (h10 : mi 10 = nI r) (hE : ∀ j, j < r → xk j = yk j ∧ xm j = ym j ∧ xn j = yn j ∧ xs j = ys j) (hM : 0 < (mi 0).toInt ↔ 0 < (mi 3).toInt) (h0 : 0 ≤ (mi 0).toInt) (h1 : (mi 0).toInt ≤ 24) (p1 p2 : Int32) : fX11_blind (mi 0) (nI r) xk xm xn xs p1 p2 = fX12_blind mi ys yn ym yk p1 p2 := by
  have k1 : (1 : Int32).toInt = 1 := by decide
  have ks : (mi 0 - (1 : Int32)).toInt = (mi 0).toInt - 1 := by
    have q := gi_subI (z := mi 0 - (1 : Int32)) rfl (by rw [k1]; omega) (by rw [k1]; omega)
    rw [q, k1]
  have hl := bl_loop (mo := mi 0) hr h10 hE p1 p2 r 0 1000000000 1000000000 0 (by omega) (by omega) (by omega) (Or.inl rfl)
  unfold fX11_blind fX12_blind bfX11_blind_26 bfX12_blind_24
  repeat rw [cal_b]
  rw [dx_time, dr_time, dx_month, dr_in, o64, k1, Int32.toInt_toInt64, ks]
  by_cases h : 0 < (mi 0).toInt ∧ 0 ≤ p1.toInt ∧ p1.toInt ≤ 999
  · rw [if_pos h, if_pos (show 0 < (mi 3).toInt ∧ 0 ≤ p1.toInt ∧ p1.toInt ≤ 999 from ⟨hM.mp h.1, h.2⟩), if_neg n10, if_neg n10]
    by_cases g : 1 ≤ p2.toInt ∧ p2.toInt ≤ (mi 0).toInt - 1
    · rw [if_pos g, if_pos (show 0 < (mi 0).toInt ∧ 1 ≤ p2.toInt ∧ p2.toInt ≤ (mi 0).toInt - 1 from ⟨h.1, g⟩), if_neg n10, if_neg n10]
      exact hl
    · rw [if_neg g, if_neg (show ¬ (0 < (mi 0).toInt ∧ 1 ≤ p2.toInt ∧ p2.toInt ≤ (mi 0).toInt - 1) from fun q => g q.2), if_pos rfl, if_pos rfl]
  · rw [if_neg h, if_neg (show ¬ (0 < (mi 3).toInt ∧ 0 ≤ p1.toInt ∧ p1.toInt ≤ 999) from fun q => h ⟨hM.mpr q.1, q.2⟩), if_pos rfl, if_pos rfl]
theorem i32le {a b : Int32} : a ≤ b ↔ a.toInt ≤ b.toInt := Int32.le_iff_toInt_le
theorem i32lt {a b : Int32} : a < b ↔ a.toInt < b.toInt := Int32.lt_iff_toInt_lt
theorem fl_trusts {mi xt yt : Nat → Int32} {m : Nat} (hm : m ≤ 6) (h7 : mi 7 = nI m) (hE : ∀ j, j < m → xt j = yt j) (cs ts hs p1 p2 : Int32) : (fX11_trusts cs ts hs (nI m) xt p1 p2).1 = (fX12_trusts mi yt p1 p2).1 ∧ ∀ j, j < m → (fX11_trusts cs ts hs (nI m) xt p1 p2).2.2.2.2 j = (fX12_trusts mi yt p1 p2).2 j := by
  have k9 : (9 : Int32).toInt = 9 := by decide
  have k9l : (9 : Int64).toInt = 9 := by decide
  unfold fX11_trusts fX12_trusts bfX11_trusts_18 bfX12_trusts_20
  repeat rw [cal_b]
  rw [dx_hasPlace (by omega), dr_isPlace h7 (by omega), dr_in, z64, k9l]
  by_cases h : 0 ≤ p1.toInt ∧ p1.toInt < (m : Int)
  · obtain ⟨q1, -⟩ := clampI h
    rw [if_pos h, if_neg n10, if_neg n10]
    by_cases h1 : 0 ≤ p2.toInt ∧ p2.toInt ≤ 9
    · rw [if_pos h1, if_neg n10, if_neg (show ¬ p2 < 0 from fun q => absurd (i32lt.mp q) (by rw [z32]; omega)), if_pos (show p2 ≤ 9 from i32le.mpr (by rw [k9]; omega))]
      refine ⟨hE _ q1, fun j hj => ?_⟩
      show upd xt p1.toNatClampNeg p2 j = upd yt p1.toNatClampNeg p2 j
      unfold upd
      split
      · rfl
      · exact hE j hj
    · rw [if_neg h1, if_pos rfl]
      by_cases h2 : p2 < 0
      · rw [if_pos h2]
        exact ⟨rfl, hE⟩
      · have h3 : ¬ p2.toInt < 0 := fun q => h2 (i32lt.mpr (by rw [z32]; exact q))
        rw [if_neg h2, if_neg (show ¬ p2 ≤ 9 from fun q => absurd (i32le.mp q) (by rw [k9]; omega))]
        exact ⟨rfl, hE⟩
  · rw [if_neg h, if_pos rfl, if_pos rfl]
    exact ⟨rfl, hE⟩
theorem fl_moon {mi : Nat → Int32} (hM : 0 < (mi 0).toInt ↔ ¬ mi 3 = 0) (cs ts hs p1 p2 : Int32) : (fX11_moon cs ts hs (mi 0) (mi 4) (mi 5) (mi 6) p1 p2).1 = (fX12_moon mi p1 p2).1 ∧ (fX11_moon cs ts hs (mi 0) (mi 4) (mi 5) (mi 6) p1 p2).2.2.2.2 = (fX12_moon mi p1 p2).2 := by
  have ka : (99999 : Int32).toInt = 99999 := by decide
  have kb : (28000 : Int32).toInt = 28000 := by decide
  have kc : (31000 : Int32).toInt = 31000 := by decide
  have la : (99999 : Int64).toInt = 99999 := by decide
  have lb : (28000 : Int64).toInt = 28000 := by decide
  have lc : (31000 : Int64).toInt = 31000 := by decide
  unfold fX11_moon fX12_moon bfX11_moon_32 bfX12_moon_33 fX0_setMoon fX0_earlyOf fX12_earlyOf
  repeat rw [cal_b]
  rw [dx_told, dr_in, dr_in, z64, la, lb, lc]
  by_cases h : mi 3 = 0
  · rw [if_pos h, if_neg (fun q => (hM.mp q) h), if_pos rfl]
    exact ⟨rfl, rfl⟩
  · rw [if_neg h, if_pos (hM.mpr h), if_neg n10]
    by_cases h1 : 0 ≤ p1.toInt ∧ p1.toInt ≤ 99999
    · rw [if_pos h1, if_neg n10, if_neg (show ¬ p1 < 0 from fun q => absurd (i32lt.mp q) (by rw [z32]; omega)), if_neg (show ¬ (99999 : Int32) < p1 from fun q => absurd (i32lt.mp q) (by rw [ka]; omega))]
      by_cases h2 : 28000 ≤ p2.toInt ∧ p2.toInt ≤ 31000
      · rw [if_pos h2, if_neg n10, if_neg (show ¬ p2 < 28000 from fun q => absurd (i32lt.mp q) (by rw [kb]; omega)), if_pos (show p2 ≤ 31000 from i32le.mpr (by rw [kc]; omega))]
        exact ⟨rfl, rfl⟩
      · rw [if_neg h2, if_pos rfl]
        by_cases h3 : p2 < 28000
        · rw [if_pos h3]
          exact ⟨rfl, rfl⟩
        · have h4 : ¬ p2.toInt < 28000 := fun q => h3 (i32lt.mpr (by rw [kb]; exact q))
          rw [if_neg h3, if_neg (show ¬ p2 ≤ 31000 from fun q => absurd (i32le.mp q) (by rw [kc]; omega))]
          exact ⟨rfl, rfl⟩
    · rw [if_neg h1, if_pos rfl]
      by_cases h3 : p1 < 0
      · rw [if_pos h3]
        exact ⟨rfl, rfl⟩
      · have h4 : ¬ p1.toInt < 0 := fun q => h3 (i32lt.mpr (by rw [z32]; exact q))
        rw [if_neg h3, if_pos (show (99999 : Int32) < p1 from i32lt.mpr (by rw [ka]; omega))]
        exact ⟨rfl, rfl⟩
def cs (P : Nat → Bool) : Nat → Nat → Nat
  | 0, _ => 0
  | k + 1, i => (if P i = true then 1 else 0) + cs P k (i + 1)
theorem cs_0 (P : Nat → Bool) (i : Nat) : cs P 0 i = 0 := rfl
theorem cs_s (P : Nat → Bool) (k i : Nat) : cs P (k + 1) i = (if P i = true then 1 else 0) + cs P k (i + 1) := rfl
theorem so_s (rc : Int32) (xp st : Nat → Int32) (p : Int32) (z : Nat) (a b : Int32) : lfX0_standingOf rc xp st p (z + 1) a b = dfX0_standingOf_4 rc xp st p (lfX0_standingOf rc xp st p z) a b := rfl
theorem so_L {xp st : Nat → Int32} {r : Nat} (hr : r ≤ 24) (p : Int32) : ∀ (k i a z : Nat), i + k = r → k < z → lfX0_standingOf (nI r) xp st p z (nI a) (nI i) = nI (a + cs (fun j => decide (xp j = p ∧ st j = 0)) k i) := by
  intro k
  induction k with
  | zero =>
    intro i a z hi hz
    obtain ⟨z, rfl⟩ : ∃ q, z = q + 1 := ⟨z - 1, by omega⟩
    rw [so_s, cs_0]
    unfold dfX0_standingOf_4
    rw [if_pos (nI_le (by omega) (by omega))]
    rfl
  | succ k ih =>
    intro i a z hi hz
    obtain ⟨z, rfl⟩ : ∃ q, z = q + 1 := ⟨z - 1, by omega⟩
    rw [so_s, cs_s]
    unfold dfX0_standingOf_4 bfX0_standingOf_40
    rw [if_neg (nI_ge (by omega) (by omega)), nI_clamp (show i < 2147483648 by omega), ← nI_succ, ← nI_succ, ih (i + 1) (a + 1) z (by omega) (by omega), ih (i + 1) a z (by omega) (by omega)]
    by_cases h1 : xp i = p
    · rw [if_pos h1]
      by_cases h2 : st i = 0
      · rw [if_pos h2, if_pos (decide_eq_true ⟨h1, h2⟩), Nat.add_assoc]
      · rw [if_neg h2, if_neg (fun q => h2 (of_decide_eq_true q).2), Nat.zero_add]
    · rw [if_neg h1, if_neg (fun q => h1 (of_decide_eq_true q).1), Nat.zero_add]
def css (xp st : Nat → Int32) (r i : Nat) : Nat → Nat → Nat
  | 0, _ => 0
  | k + 1, q => cs (fun j => decide (xp j = nI q ∧ st j = 0)) r i + css xp st r i k (q + 1)
theorem css_0 (xp st : Nat → Int32) (r i q : Nat) : css xp st r i 0 q = 0 := rfl
theorem css_s (xp st : Nat → Int32) (r i k q : Nat) : css xp st r i (k + 1) q = cs (fun j => decide (xp j = nI q ∧ st j = 0)) r i + css xp st r i k (q + 1) := rfl
theorem sg_s (pc rc : Int32) (xp st : Nat → Int32) (z : Nat) (a b : Int32) : lfX0_standing pc rc xp st (z + 1) a b = dfX0_standing_4 pc rc xp st (lfX0_standing pc rc xp st z) a b := rfl
theorem sg_L {xp st : Nat → Int32} {m r : Nat} (hm : m ≤ 6) (hr : r ≤ 24) : ∀ (k q a z : Nat), q + k = m → k < z → lfX0_standing (nI m) (nI r) xp st z (nI a) (nI q) = nI (a + css xp st r 0 k q) := by
  intro k
  induction k with
  | zero =>
    intro q a z hq hz
    obtain ⟨z, rfl⟩ : ∃ y, z = y + 1 := ⟨z - 1, by omega⟩
    rw [sg_s, css_0]
    unfold dfX0_standing_4
    rw [if_pos (nI_le (by omega) (by omega))]
    rfl
  | succ k ih =>
    intro q a z hq hz
    obtain ⟨z, rfl⟩ : ∃ y, z = y + 1 := ⟨z - 1, by omega⟩
    have e : fX0_standingOf (nI r) xp st (nI q) = nI (cs (fun j => decide (xp j = nI q ∧ st j = 0)) r 0) := by
      have g := so_L (xp := xp) (st := st) hr (nI q) r 0 0 1000000000 (by omega) (by omega)
      rw [Nat.zero_add] at g
      exact g
    rw [sg_s, css_s]
    unfold dfX0_standing_4
    rw [if_neg (nI_ge (by omega) (by omega)), e, cal_b, nI_add, ← nI_succ, ih (q + 1) _ z (by omega) (by omega), Nat.add_assoc]
def c1 (xp st : Nat → Int32) (i : Nat) : Nat → Nat → Nat
  | 0, _ => 0
  | k + 1, q => (if decide (xp i = nI q ∧ st i = 0) = true then 1 else 0) + c1 xp st i k (q + 1)
theorem c1_s (xp st : Nat → Int32) (i k q : Nat) : c1 xp st i (k + 1) q = (if decide (xp i = nI q ∧ st i = 0) = true then 1 else 0) + c1 xp st i k (q + 1) := rfl
theorem css_step (xp st : Nat → Int32) (r i : Nat) : ∀ k q : Nat, css xp st (r + 1) i k q = c1 xp st i k q + css xp st r (i + 1) k q := by
  intro k
  induction k with
  | zero => intro q; rfl
  | succ k ih =>
    intro q
    rw [css_s, css_s, c1_s, ih (q + 1), cs_s]
    omega
theorem c1_no {xp st : Nat → Int32} {i w : Nat} (hw : xp i = nI w) (hw6 : w < 1000) : ∀ k q : Nat, q + k < 1000 → (w < q ∨ q + k ≤ w) → c1 xp st i k q = 0 := by
  intro k
  induction k with
  | zero => intro q _ _; rfl
  | succ k ih =>
    intro q hq h
    rw [c1_s, ih (q + 1) (by omega) (by omega), if_neg (fun g => absurd (pz_ninj (by omega) (by omega) (hw.symm.trans (of_decide_eq_true g).1)) (by omega))]
theorem c1_yes {xp st : Nat → Int32} {i w : Nat} (hw : xp i = nI w) (hw6 : w < 1000) : ∀ k q : Nat, q + k < 1000 → q ≤ w → w < q + k → c1 xp st i k q = if decide (st i = 0) = true then 1 else 0 := by
  intro k
  induction k with
  | zero => intro q _ _ _; omega
  | succ k ih =>
    intro q hq h1 h2
    rw [c1_s]
    by_cases h3 : w = q
    · rw [c1_no hw hw6 k (q + 1) (by omega) (by omega), Nat.add_zero]
      by_cases h4 : st i = 0
      · rw [if_pos (decide_eq_true ⟨by rw [hw, h3], h4⟩), if_pos (decide_eq_true h4)]
      · rw [if_neg (fun g => h4 (of_decide_eq_true g).2), if_neg (fun g => h4 (of_decide_eq_true g))]
    · rw [ih (q + 1) (by omega) (by omega) (by omega), if_neg (fun g => absurd (pz_ninj (by omega) (by omega) (hw.symm.trans (of_decide_eq_true g).1)) h3), Nat.zero_add]
theorem css_all {xp st : Nat → Int32} {m : Nat} (hm : m ≤ 6) : ∀ (r i : Nat), (∀ j, i ≤ j → j < i + r → ∃ q, q < m ∧ xp j = nI q) → css xp st r i m 0 = cs (fun j => decide (st j = 0)) r i := by
  intro r
  induction r with
  | zero =>
    intro i _
    have g : ∀ k q : Nat, css xp st 0 i k q = 0 := by
      intro k
      induction k with
      | zero => intro q; rfl
      | succ k ih => intro q; rw [css_s, cs_0, ih (q + 1)]
    rw [g, cs_0]
  | succ r ih =>
    intro i h
    obtain ⟨w, hw1, hw2⟩ := h i (Nat.le_refl _) (by omega)
    rw [css_step, cs_s, ih (i + 1) (fun j g1 g2 => h j (by omega) (by omega)), c1_yes hw2 (by omega) m 0 (by omega) (by omega) (by omega)]
theorem sk_s (mi fs : Nat → Int32) (p1 : Int32) (z : Nat) (a b : Int32) (s : Nat → Int32) : lfX12_strikes mi fs p1 (z + 1) a b s = dfX12_strikes_34 mi fs p1 (lfX12_strikes mi fs p1 z) a b s := rfl
theorem sk_L {mi fs s : Nat → Int32} {r : Nat} {p1 : Int32} (hr : r ≤ 24) (h10 : mi 10 = nI r) : ∀ (k i a z : Nat), i + k = r → k < z → lfX12_strikes mi fs p1 z (nI a) (nI i) s = (nI (a + cs (fun j => decide (s j = 0)) k i), s) := by
  intro k
  induction k with
  | zero =>
    intro i a z hi hz
    obtain ⟨z, rfl⟩ : ∃ q, z = q + 1 := ⟨z - 1, by omega⟩
    rw [sk_s, cs_0]
    unfold dfX12_strikes_34
    rw [h10, if_pos (nI_le (by omega) (by omega))]
    rfl
  | succ k ih =>
    intro i a z hi hz
    obtain ⟨z, rfl⟩ : ∃ q, z = q + 1 := ⟨z - 1, by omega⟩
    rw [sk_s, cs_s]
    unfold dfX12_strikes_34 bfX12_strikes_57
    rw [h10, if_neg (nI_ge (by omega) (by omega)), nI_clamp (show i < 2147483648 by omega), show nI a + (1 : Int32) = nI (a + 1) from nI_add a 1, show nI a + (0 : Int32) = nI (a + 0) from nI_add a 0, ← nI_succ, ih (i + 1) (a + 1) z (by omega) (by omega), ih (i + 1) (a + 0) z (by omega) (by omega)]
    by_cases h2 : s i = 0
    · rw [if_pos h2, if_pos (decide_eq_true h2), Nat.add_assoc]
    · rw [if_neg h2, if_neg (fun q => h2 (of_decide_eq_true q)), Nat.add_zero, Nat.zero_add]
theorem cs_eq {P Q : Nat → Bool} : ∀ k i : Nat, (∀ j, i ≤ j → j < i + k → P j = Q j) → cs P k i = cs Q k i := by
  intro k
  induction k with
  | zero => intro i _; rfl
  | succ k ih =>
    intro i h
    rw [cs_s, cs_s, h i (Nat.le_refl _) (by omega), ih (i + 1) (fun j g1 g2 => h j (by omega) (by omega))]
theorem fl_strikes {mi xp xs ys : Nat → Int32} {m r : Nat} (hm : m ≤ 6) (hr : r ≤ 24) (h10 : mi 10 = nI r) (hE : ∀ j, j < r → xs j = ys j ∧ ∃ q, q < m ∧ xp j = nI q) (cs_ ts hs p1 : Int32) : (fX11_strikes cs_ ts hs (nI m) (nI r) xp xs p1).1 = (fX12_strikes mi ys p1).1 ∧ ∀ j, j < r → (fX11_strikes cs_ ts hs (nI m) (nI r) xp xs p1).2.2.2.2 j = (fX12_strikes mi ys p1).2 j := by
  have n1 : vp_nar .boolean (1 : Int32) = 1 := by decide
  unfold fX11_strikes fX12_strikes
  repeat rw [cal_b]
  rw [dx_hasReport (by omega), dr_isReport h10 (by omega), n1]
  by_cases h : 0 ≤ p1.toInt ∧ p1.toInt < (r : Int)
  · obtain ⟨q1, -⟩ := clampI h
    have hu : ∀ j, j < r → upd xs p1.toNatClampNeg 1 j = upd ys p1.toNatClampNeg 1 j := by
      intro j hj
      unfold upd
      split
      · rfl
      · exact (hE j hj).1
    rw [if_pos h, if_neg n10, if_neg n10, (hE _ q1).1]
    by_cases h1 : ys p1.toNatClampNeg = 0
    · have e1 : fX0_standing (nI m) (nI r) xp (upd xs p1.toNatClampNeg 1) = nI (cs (fun j => decide (upd xs p1.toNatClampNeg 1 j = 0)) r 0) := by
        have g := sg_L (xp := xp) (st := upd xs p1.toNatClampNeg 1) hm hr m 0 0 1000000000 (by omega) (by omega)
        rw [Nat.zero_add, css_all hm r 0 (fun j _ g2 => (hE j (by omega)).2)] at g
        exact g
      have e2 := sk_L (mi := mi) (fs := ys) (s := upd ys p1.toNatClampNeg 1) (p1 := p1) hr h10 r 0 0 1000000000 (by omega) (by omega)
      have e2 : lfX12_strikes mi ys p1 1000000000 0 0 (upd ys p1.toNatClampNeg 1) = (nI (0 + cs (fun j => decide (upd ys p1.toNatClampNeg 1 j = 0)) r 0), upd ys p1.toNatClampNeg 1) := e2
      rw [if_pos h1, if_pos h1, e1, e2, Nat.zero_add, cs_eq (Q := fun j => decide (upd ys p1.toNatClampNeg 1 j = 0)) r 0 (fun j _ g2 => by rw [hu j (by omega)])]
      exact ⟨rfl, hu⟩
    · rw [if_neg h1, if_neg h1]
      exact ⟨rfl, fun j hj => (hE j hj).1⟩
  · rw [if_neg h, if_pos rfl, if_pos rfl]
    exact ⟨rfl, fun j hj => (hE j hj).1⟩
theorem px_reports1 {mi xp xk xm xd xn xs : Nat → Int32} {m r : Nat} (hm : m ≤ 6) (hr : r ≤ 24) (h0 : 0 ≤ (mi 0).toInt) (h0b : (mi 0).toInt ≤ 24) (cs_ ts hs p1 p2 p3 p4 p5 : Int32) (h : ((0 ≤ p1.toInt ∧ p1.toInt < (m : Int)) ∧ (0 ≤ p2.toInt ∧ p2.toInt ≤ 2) ∧ (0 < (mi 0).toInt ∧ 1 ≤ p3.toInt ∧ p3.toInt ≤ (mi 0).toInt - 1) ∧ 0 ≤ p4.toInt ∧ p4.toInt ≤ p5.toInt ∧ p5.toInt ≤ 999)) : fX11_reports cs_ ts hs (mi 0) (nI m) (nI r) xp xk xm xd xn xs p1 p2 p3 p4 p5 = (if r < 24 then (nI (r + 1) - 1, 0, 0, 0, nI (r + 1), upd xp r p1, upd xk r p2, upd xm r p3, upd xd r p4, upd xn r p5, upd xs r 0) else (-5, cs_, ts, hs, nI r, xp, xk, xm, xd, xn, xs)) := by
  have k1 : (1 : Int32).toInt = 1 := by decide
  have k2 : (2 : Int32).toInt = 2 := by decide
  have k9 : (999 : Int32).toInt = 999 := by decide
  have l2 : (2 : Int64).toInt = 2 := by decide
  have l9 : (999 : Int64).toInt = 999 := by decide
  have ks : (mi 0 - (1 : Int32)).toInt = (mi 0).toInt - 1 := by
    have q := gi_subI (z := mi 0 - (1 : Int32)) rfl (by rw [k1]; omega) (by rw [k1]; omega)
    rw [q, k1]
  have ea : r < 24 → fX0_addReport (nI r) xp xk xm xd xn xs p1 p2 p3 p4 p5 = (nI (r + 1), upd xp r p1, upd xk r p2, upd xm r p3, upd xd r p4, upd xn r p5, upd xs r 0) := by
    intro g
    unfold fX0_addReport bfX0_addReport_68
    rw [if_neg (show ¬ (24 : Int32) ≤ nI r from nI_ge (b := 24) g (by omega)), nI_clamp (by omega), ← nI_succ]
  unfold fX11_reports bfX11_reports_39 bfX11_reports_40 bfX11_reports_67
  repeat rw [cal_b]
  rw [dx_hasPlace (by omega), dx_month, k1, ks, if_neg n10]
  rw [if_pos h.1, if_pos h.2.2.1, if_neg (show ¬ p2 < 0 from fun q => absurd (i32lt.mp q) (by rw [z32]; omega)), if_neg (show ¬ (2 : Int32) < p2 from fun q => absurd (i32lt.mp q) (by rw [k2]; omega)), if_neg (show ¬ p4 < 0 from fun q => absurd (i32lt.mp q) (by rw [z32]; omega)), if_neg (show ¬ p5 < p4 from fun q => absurd (i32lt.mp q) (by omega)), if_pos (show p5 ≤ 999 from i32le.mpr (by rw [k9]; omega))]
  repeat rw [if_neg n10]
  by_cases g : r < 24
  · rw [if_pos g, if_pos (show nI r < 24 from nI_lt (b := 24) g (by omega)), ea g]
    rfl
  · rw [if_neg g, if_neg (show ¬ nI r < 24 from nI_nlt (b := 24) (by omega) (by omega))]
theorem px_reports0 {mi xp xk xm xd xn xs : Nat → Int32} {m r : Nat} (hm : m ≤ 6) (hr : r ≤ 24) (h0 : 0 ≤ (mi 0).toInt) (h0b : (mi 0).toInt ≤ 24) (cs_ ts hs p1 p2 p3 p4 p5 : Int32) (h : ¬ ((0 ≤ p1.toInt ∧ p1.toInt < (m : Int)) ∧ (0 ≤ p2.toInt ∧ p2.toInt ≤ 2) ∧ (0 < (mi 0).toInt ∧ 1 ≤ p3.toInt ∧ p3.toInt ≤ (mi 0).toInt - 1) ∧ 0 ≤ p4.toInt ∧ p4.toInt ≤ p5.toInt ∧ p5.toInt ≤ 999)) : fX11_reports cs_ ts hs (mi 0) (nI m) (nI r) xp xk xm xd xn xs p1 p2 p3 p4 p5 = (-2, cs_, ts, hs, nI r, xp, xk, xm, xd, xn, xs) := by
  have k1 : (1 : Int32).toInt = 1 := by decide
  have k2 : (2 : Int32).toInt = 2 := by decide
  have k9 : (999 : Int32).toInt = 999 := by decide
  have l2 : (2 : Int64).toInt = 2 := by decide
  have l9 : (999 : Int64).toInt = 999 := by decide
  have ks : (mi 0 - (1 : Int32)).toInt = (mi 0).toInt - 1 := by
    have q := gi_subI (z := mi 0 - (1 : Int32)) rfl (by rw [k1]; omega) (by rw [k1]; omega)
    rw [q, k1]
  have ea : r < 24 → fX0_addReport (nI r) xp xk xm xd xn xs p1 p2 p3 p4 p5 = (nI (r + 1), upd xp r p1, upd xk r p2, upd xm r p3, upd xd r p4, upd xn r p5, upd xs r 0) := by
    intro g
    unfold fX0_addReport bfX0_addReport_68
    rw [if_neg (show ¬ (24 : Int32) ≤ nI r from nI_ge (b := 24) g (by omega)), nI_clamp (by omega), ← nI_succ]
  unfold fX11_reports bfX11_reports_39 bfX11_reports_40 bfX11_reports_67
  repeat rw [cal_b]
  rw [dx_hasPlace (by omega), dx_month, k1, ks, if_neg n10]
  rw [if_pos (show (0 : Int32) = 0 from rfl)]
  by_cases a1 : 0 ≤ p1.toInt ∧ p1.toInt < (m : Int)
  · rw [if_pos a1, if_neg n10]
    by_cases a2 : p2 < 0
    · exact if_pos a2
    · have b2 : ¬ p2.toInt < 0 := fun q => a2 (i32lt.mpr (by rw [z32]; exact q))
      rw [if_neg a2]
      by_cases a3 : (2 : Int32) < p2
      · exact if_pos a3
      · have b3 : ¬ 2 < p2.toInt := fun q => a3 (i32lt.mpr (by rw [k2]; exact q))
        rw [if_neg a3]
        by_cases a4 : 0 < (mi 0).toInt ∧ 1 ≤ p3.toInt ∧ p3.toInt ≤ (mi 0).toInt - 1
        · rw [if_pos a4, if_neg n10]
          by_cases a5 : p4 < 0
          · exact if_pos a5
          · have b5 : ¬ p4.toInt < 0 := fun q => a5 (i32lt.mpr (by rw [z32]; exact q))
            rw [if_neg a5]
            by_cases a6 : p5 < p4
            · exact if_pos a6
            · have b6 : ¬ p5.toInt < p4.toInt := fun q => a6 (i32lt.mpr q)
              rw [if_neg a6]
              refine if_neg (fun q => ?_)
              have b7 := i32le.mp q
              rw [k9] at b7
              exact h ⟨a1, ⟨by omega, by omega⟩, a4, by omega, by omega, b7⟩
        · rw [if_neg a4]
          exact if_pos rfl
  · rw [if_neg a1]
    exact if_pos rfl
theorem mr_reports1 {mi yp yk ym yd yn ys : Nat → Int32} {m r : Nat} (hm : m ≤ 6) (hr : r ≤ 24) (h7 : mi 7 = nI m) (h10 : mi 10 = nI r) (hM : 0 < (mi 0).toInt ↔ ¬ mi 3 = 0) (h0 : 0 ≤ (mi 0).toInt) (h0b : (mi 0).toInt ≤ 24) (p1 p2 p3 p4 p5 : Int32) (h : ((0 ≤ p1.toInt ∧ p1.toInt < (m : Int)) ∧ (0 ≤ p2.toInt ∧ p2.toInt ≤ 2) ∧ (0 < (mi 0).toInt ∧ 1 ≤ p3.toInt ∧ p3.toInt ≤ (mi 0).toInt - 1) ∧ 0 ≤ p4.toInt ∧ p4.toInt ≤ p5.toInt ∧ p5.toInt ≤ 999)) : fX12_reports mi yp yk ym yd yn ys p1 p2 p3 p4 p5 = (if r < 24 then (nI (r + 1) - 1, nI (r + 1), upd yp r p1, upd yk r p2, upd ym r p3, upd yd r p4, upd yn r p5, upd ys r 0) else (-5, nI r, yp, yk, ym, yd, yn, ys)) := by
  have k1 : (1 : Int32).toInt = 1 := by decide
  have k2 : (2 : Int32).toInt = 2 := by decide
  have k9 : (999 : Int32).toInt = 999 := by decide
  have l2 : (2 : Int64).toInt = 2 := by decide
  have l9 : (999 : Int64).toInt = 999 := by decide
  have ks : (mi 0 - (1 : Int32)).toInt = (mi 0).toInt - 1 := by
    have q := gi_subI (z := mi 0 - (1 : Int32)) rfl (by rw [k1]; omega) (by rw [k1]; omega)
    rw [q, k1]
  unfold fX12_reports bfX12_reports_71
  repeat rw [cal_b]
  rw [dr_isPlace h7 (by omega), dr_in p2 0 2, dr_in p3 1 _, dr_in p4 0 999, dr_in p5 _ 999, z64, l2, o64, l9, Int32.toInt_toInt64, Int32.toInt_toInt64, ks]
  rw [if_neg (hM.mp h.2.2.1.1), if_pos h.1, if_pos h.2.1, if_pos h.2.2.1.2, if_pos (show 0 ≤ p4.toInt ∧ p4.toInt ≤ 999 by omega), if_pos (show p4.toInt ≤ p5.toInt ∧ p5.toInt ≤ 999 by omega)]
  repeat rw [if_neg n10]
  unfold fX12_lays
  rw [h10]
  by_cases g : r < 24
  · rw [if_pos g, if_neg (show ¬ nI r = 24 from fun q => absurd (pz_ninj (b := 24) (by omega) (by omega) q) (by omega)), nI_clamp (by omega), ← nI_succ, show vp_nar .boolean (0 : Int32) = 0 from by decide]
  · rw [if_neg g, if_pos (show nI r = 24 by rw [show r = 24 by omega]; rfl)]
theorem mr_reports0 {mi yp yk ym yd yn ys : Nat → Int32} {m r : Nat} (hm : m ≤ 6) (hr : r ≤ 24) (h7 : mi 7 = nI m) (h10 : mi 10 = nI r) (hM : 0 < (mi 0).toInt ↔ ¬ mi 3 = 0) (h0 : 0 ≤ (mi 0).toInt) (h0b : (mi 0).toInt ≤ 24) (p1 p2 p3 p4 p5 : Int32) (h : ¬ ((0 ≤ p1.toInt ∧ p1.toInt < (m : Int)) ∧ (0 ≤ p2.toInt ∧ p2.toInt ≤ 2) ∧ (0 < (mi 0).toInt ∧ 1 ≤ p3.toInt ∧ p3.toInt ≤ (mi 0).toInt - 1) ∧ 0 ≤ p4.toInt ∧ p4.toInt ≤ p5.toInt ∧ p5.toInt ≤ 999)) : fX12_reports mi yp yk ym yd yn ys p1 p2 p3 p4 p5 = (-2, nI r, yp, yk, ym, yd, yn, ys) := by
  have k1 : (1 : Int32).toInt = 1 := by decide
  have k2 : (2 : Int32).toInt = 2 := by decide
  have k9 : (999 : Int32).toInt = 999 := by decide
  have l2 : (2 : Int64).toInt = 2 := by decide
  have l9 : (999 : Int64).toInt = 999 := by decide
  have ks : (mi 0 - (1 : Int32)).toInt = (mi 0).toInt - 1 := by
    have q := gi_subI (z := mi 0 - (1 : Int32)) rfl (by rw [k1]; omega) (by rw [k1]; omega)
    rw [q, k1]
  unfold fX12_reports bfX12_reports_71
  repeat rw [cal_b]
  rw [dr_isPlace h7 (by omega), dr_in p2 0 2, dr_in p3 1 _, dr_in p4 0 999, dr_in p5 _ 999, z64, l2, o64, l9, Int32.toInt_toInt64, Int32.toInt_toInt64, ks]
  rw [h10]
  by_cases a0 : mi 3 = 0
  · exact if_pos a0
  · rw [if_neg a0]
    have c0 := hM.mpr a0
    by_cases a1 : 0 ≤ p1.toInt ∧ p1.toInt < (m : Int)
    · rw [if_pos a1, if_neg n10]
      by_cases a2 : 0 ≤ p2.toInt ∧ p2.toInt ≤ 2
      · rw [if_pos a2, if_neg n10]
        by_cases a3 : 1 ≤ p3.toInt ∧ p3.toInt ≤ (mi 0).toInt - 1
        · rw [if_pos a3, if_neg n10]
          by_cases a4 : 0 ≤ p4.toInt ∧ p4.toInt ≤ 999
          · rw [if_pos a4, if_neg n10, if_neg (show ¬ (p4.toInt ≤ p5.toInt ∧ p5.toInt ≤ 999) from fun q => h ⟨a1, a2, ⟨c0, a3⟩, a4.1, q⟩)]
            exact if_pos rfl
          · rw [if_neg a4]
            exact if_pos rfl
        · rw [if_neg a3]
          exact if_pos rfl
      · rw [if_neg a2]
        exact if_pos rfl
    · rw [if_neg a1]
      exact if_pos rfl
theorem pcod_le (g : Nat → Int) : ∀ (k j : Nat) (v : Int), v * 27 ^ k ≤ pcod g k j v ∧ pcod g k j v < (v + 1) * 27 ^ k := by
  intro k
  induction k with
  | zero =>
    intro j v
    show v * 27 ^ 0 ≤ v ∧ v < (v + 1) * 27 ^ 0
    rw [Int.pow_zero]
    omega
  | succ k ih =>
    intro j v
    rw [pcod_s]
    obtain ⟨h1, h2⟩ := ih (j + 1) (27 * v + pdg (g j))
    have h3 := pdg_le (g j)
    have hp := pw27 k
    have e : (27 : Int) ^ (k + 1) = 27 * 27 ^ k := by rw [Int.pow_succ]; omega
    have a1 : v * 27 ^ (k + 1) ≤ (27 * v + pdg (g j)) * 27 ^ k := by
      rw [e, ← Int.mul_assoc, Int.mul_comm v 27]
      exact Int.mul_le_mul_of_nonneg_right (by omega) (by omega)
    have a2 : (27 * v + pdg (g j) + 1) * 27 ^ k ≤ (v + 1) * 27 ^ (k + 1) := by
      rw [e, ← Int.mul_assoc, Int.mul_comm (v + 1) 27]
      exact Int.mul_le_mul_of_nonneg_right (by omega) (by omega)
    exact ⟨Int.le_trans a1 h1, Int.lt_of_lt_of_le h2 a2⟩
def lexl (g h : Nat → Int) : Nat → Nat → Bool
  | 0, _ => false
  | k + 1, j => if g j = h j then lexl g h k (j + 1) else decide (g j < h j)
theorem lexl_s (g h : Nat → Int) (k j : Nat) : lexl g h (k + 1) j = if g j = h j then lexl g h k (j + 1) else decide (g j < h j) := rfl
theorem pdg_mono {x y : Int} (hx : isz x) (hy : isz y) (h : x < y) : pdg x < pdg y := by
  have e : ∀ z : Int, isz z → pdg z = if z = 0 then 0 else z - 96 := by
    intro z hz
    unfold pdg
    by_cases h : cL z = true
    · have h1 : 97 ≤ z ∧ z ≤ 122 := of_decide_eq_true h
      rw [if_pos h, if_neg (by omega)]
    · rw [if_neg h]
      rcases hz with h2 | h2
      · rw [if_pos h2]
      · exact absurd (decide_eq_true h2) h
  rw [e x hx, e y hy]
  unfold isz at hx hy
  split
  · split
    · omega
    · omega
  · split
    · omega
    · omega
theorem pcod_lt {g h : Nat → Int} : ∀ (k j : Nat) (v : Int), (∀ i, j ≤ i → i < j + k → isz (g i) ∧ isz (h i)) → (pcod g k j v < pcod h k j v ↔ lexl g h k j = true) := by
  intro k
  induction k with
  | zero =>
    intro j v _
    exact ⟨fun q => absurd q (Int.lt_irrefl _), fun q => absurd q (by intro q; cases q)⟩
  | succ k ih =>
    intro j v hz
    obtain ⟨z1, z2⟩ := hz j (Nat.le_refl _) (by omega)
    rw [pcod_s, pcod_s, lexl_s]
    by_cases h1 : g j = h j
    · rw [if_pos h1, h1]
      exact ih (j + 1) _ (fun i g1 g2 => hz i (by omega) (by omega))
    · rw [if_neg h1]
      have hp := pw27 k
      obtain ⟨a1, a2⟩ := pcod_le g k (j + 1) (27 * v + pdg (g j))
      obtain ⟨b1, b2⟩ := pcod_le h k (j + 1) (27 * v + pdg (h j))
      by_cases h2 : g j < h j
      · have h3 := pdg_mono z1 z2 h2
        have h4 : (27 * v + pdg (g j) + 1) * 27 ^ k ≤ (27 * v + pdg (h j)) * 27 ^ k := Int.mul_le_mul_of_nonneg_right (by omega) (by omega)
        exact ⟨fun _ => decide_eq_true h2, fun _ => by omega⟩
      · have h3 := pdg_mono z2 z1 (by omega)
        have h4 : (27 * v + pdg (h j) + 1) * 27 ^ k ≤ (27 * v + pdg (g j)) * 27 ^ k := Int.mul_le_mul_of_nonneg_right (by omega) (by omega)
        exact ⟨fun q => by omega, fun q => absurd (of_decide_eq_true q) h2⟩
theorem na_s (lt : Nat → Int32) (a b : Int32) (z : Nat) (v : Int32) : lfX12_isNameAhead lt a b (z + 1) v = dfX12_isNameAhead_2 lt a b (lfX12_isNameAhead lt a b z) v := rfl
theorem na_L {lt : Nat → Int32} {p q : Nat} (hp : p ≤ 6) (hq : q ≤ 6) : ∀ (k j z : Nat), j + k = 6 → k < z → lfX12_isNameAhead lt (nI p) (nI q) z (nI j) = if lexl (fun i => (lt (6 * p + i)).toInt) (fun i => (lt (6 * q + i)).toInt) k j = true then 1 else 0 := by
  intro k
  induction k with
  | zero =>
    intro j z hj hz
    obtain ⟨z, rfl⟩ : ∃ y, z = y + 1 := ⟨z - 1, by omega⟩
    rw [na_s]
    unfold dfX12_isNameAhead_2
    exact if_pos (show (6 : Int32) ≤ nI j from nI_le (a := 6) (by omega) (by omega))
  | succ k ih =>
    intro j z hj hz
    obtain ⟨z, rfl⟩ : ∃ y, z = y + 1 := ⟨z - 1, by omega⟩
    rw [na_s, lexl_s]
    unfold dfX12_isNameAhead_2 bfX12_isNameAhead_53
    rw [if_neg (show ¬ (6 : Int32) ≤ nI j from nI_ge (b := 6) (by omega) (by omega)), pr_ix hp (by omega), pr_ix hq (by omega), ← nI_succ, ih (j + 1) z (by omega) (by omega)]
    by_cases h1 : lt (6 * p + j) = lt (6 * q + j)
    · rw [if_pos h1, if_pos (show (lt (6 * p + j)).toInt = (lt (6 * q + j)).toInt by rw [h1])]
    · have h2 : ¬ (lt (6 * p + j)).toInt = (lt (6 * q + j)).toInt := fun q => h1 (Int32.toInt_inj.mp q)
      rw [if_neg h1, if_neg h2]
      by_cases h3 : lt (6 * q + j) ≤ lt (6 * p + j)
      · have h4 := i32le.mp h3
        rw [if_pos h3, if_neg (fun g => absurd (of_decide_eq_true g) (by omega))]
      · have h4 : ¬ (lt (6 * q + j)).toInt ≤ (lt (6 * p + j)).toInt := fun q => h3 (i32le.mpr q)
        rw [if_neg h3, if_pos (decide_eq_true (by omega))]
theorem na_eq {nm lt : Nat → Int32} {m p q : Nat} (hm : m ≤ 6) (hN : NM m nm lt) (hp : p < m) (hq : q < m) : fX12_isNameAhead lt (nI p) (nI q) = if (nm p).toInt < (nm q).toInt then 1 else 0 := by
  have h1 := na_L (lt := lt) (p := p) (q := q) (by omega) (by omega) 6 0 1000000000 (by omega) (by omega)
  obtain ⟨a1, a2⟩ := hN p hp
  obtain ⟨b1, b2⟩ := hN q hq
  have h2 := pcod_lt (g := fun i => (lt (6 * p + i)).toInt) (h := fun i => (lt (6 * q + i)).toInt) 6 0 0 (fun i _ g2 => ⟨a2 i (by omega), b2 i (by omega)⟩)
  rw [← a1, ← b1] at h2
  unfold fX12_isNameAhead
  refine (show lfX12_isNameAhead lt (nI p) (nI q) 1000000000 0 = _ from h1).trans ?_
  by_cases h3 : (nm p).toInt < (nm q).toInt
  · rw [if_pos h3, if_pos (h2.mp h3)]
  · rw [if_neg h3, if_neg (fun g => h3 (h2.mpr g))]
theorem nh_s (pc : Int32) (nm : Nat → Int32) (p : Int32) (z : Nat) (a b : Int32) : lfX0_namesAhead pc nm p (z + 1) a b = dfX0_namesAhead_4 pc nm p (lfX0_namesAhead pc nm p z) a b := rfl
theorem nh_L {nm : Nat → Int32} {m : Nat} (hm : m ≤ 6) (p : Int32) : ∀ (k i a z : Nat), i + k = m → k < z → lfX0_namesAhead (nI m) nm p z (nI a) (nI i) = nI (a + cs (fun j => decide ((nm j).toInt < (nm p.toNatClampNeg).toInt)) k i) := by
  intro k
  induction k with
  | zero =>
    intro i a z hi hz
    obtain ⟨z, rfl⟩ : ∃ q, z = q + 1 := ⟨z - 1, by omega⟩
    rw [nh_s, cs_0]
    unfold dfX0_namesAhead_4
    rw [if_pos (nI_le (by omega) (by omega))]
    rfl
  | succ k ih =>
    intro i a z hi hz
    obtain ⟨z, rfl⟩ : ∃ q, z = q + 1 := ⟨z - 1, by omega⟩
    rw [nh_s, cs_s]
    unfold dfX0_namesAhead_4 bfX0_namesAhead_36
    rw [if_neg (nI_ge (by omega) (by omega)), nI_clamp (show i < 2147483648 by omega), ← nI_succ, ← nI_succ, ih (i + 1) (a + 1) z (by omega) (by omega), ih (i + 1) a z (by omega) (by omega)]
    by_cases h1 : nm p.toNatClampNeg ≤ nm i
    · have h2 := i32le.mp h1
      rw [if_pos h1, if_neg (fun g => absurd (of_decide_eq_true g) (by omega)), Nat.zero_add]
    · have h2 : ¬ (nm p.toNatClampNeg).toInt ≤ (nm i).toInt := fun q => h1 (i32le.mpr q)
      rw [if_neg h1, if_pos (decide_eq_true (by omega)), Nat.add_assoc]
theorem pc_s1 (mi tr lt rp st : Nat → Int32) (p1 p2 : Int32) (z : Nat) (a b : Int32) : (lfX12_place mi tr lt rp st p1 p2 (z + 1)).1 a b = dfX12_place_28 mi tr lt rp st p1 p2 (lfX12_place mi tr lt rp st p1 p2 z) a b := rfl
theorem pc_s2 (mi tr lt rp st : Nat → Int32) (p1 p2 : Int32) (z : Nat) (a b c : Int32) : (lfX12_place mi tr lt rp st p1 p2 (z + 1)).2 a b c = dfX12_place_67 mi tr lt rp st p1 p2 (lfX12_place mi tr lt rp st p1 p2 z) a b c := rfl
theorem pc_L2 {mi tr lt rp st : Nat → Int32} {r : Nat} {p1 p2 : Int32} (hr : r ≤ 24) (h10 : mi 10 = nI r) (x : Int32) : ∀ (k i a z : Nat), i + k = r → k < z → (lfX12_place mi tr lt rp st p1 p2 z).2 x (nI a) (nI i) = if p2 = 0 then tr p1.toNatClampNeg else if p2 = 1 then x else nI (a + cs (fun j => decide (rp j = p1 ∧ st j = 0)) k i) := by
  intro k
  induction k with
  | zero =>
    intro i a z hi hz
    obtain ⟨z, rfl⟩ : ∃ q, z = q + 1 := ⟨z - 1, by omega⟩
    rw [pc_s2, cs_0]
    unfold dfX12_place_67 bfX12_place_137
    rw [h10, if_pos (nI_le (by omega) (by omega))]
    rfl
  | succ k ih =>
    intro i a z hi hz
    obtain ⟨z, rfl⟩ : ∃ q, z = q + 1 := ⟨z - 1, by omega⟩
    rw [pc_s2, cs_s]
    unfold dfX12_place_67 bfX12_place_103 bfX12_place_104
    rw [h10, if_neg (nI_ge (by omega) (by omega)), nI_clamp (show i < 2147483648 by omega), show nI a + (1 : Int32) = nI (a + 1) from nI_add a 1, show nI a + (0 : Int32) = nI (a + 0) from nI_add a 0, ← nI_succ, ih (i + 1) (a + 1) z (by omega) (by omega), ih (i + 1) (a + 0) z (by omega) (by omega)]
    by_cases h1 : rp i = p1
    · rw [if_pos h1]
      by_cases h2 : st i = 0
      · rw [if_pos h2, if_pos (show decide (rp i = p1 ∧ st i = 0) = true from decide_eq_true ⟨h1, h2⟩), Nat.add_assoc]
      · rw [if_neg h2, if_neg (show ¬ decide (rp i = p1 ∧ st i = 0) = true from fun q => h2 (of_decide_eq_true q).2), Nat.add_zero, Nat.zero_add]
    · rw [if_neg h1, if_neg (show ¬ decide (rp i = p1 ∧ st i = 0) = true from fun q => h1 (of_decide_eq_true q).1), Nat.add_zero, Nat.zero_add]
theorem pc_L1 {mi tr lt rp st nm : Nat → Int32} {m r : Nat} {p1 p2 : Int32} (hm : m ≤ 6) (hr : r ≤ 24) (h7 : mi 7 = nI m) (h10 : mi 10 = nI r) (hN : NM m nm lt) (hp : p1.toNatClampNeg < m) (hp1 : p1 = nI p1.toNatClampNeg) : ∀ (k i a z : Nat), i + k = m → k + r + 1 < z → (lfX12_place mi tr lt rp st p1 p2 z).1 (nI a) (nI i) = if p2 = 0 then tr p1.toNatClampNeg else if p2 = 1 then nI (a + cs (fun j => decide ((nm j).toInt < (nm p1.toNatClampNeg).toInt)) k i) else nI (cs (fun j => decide (rp j = p1 ∧ st j = 0)) r 0) := by
  intro k
  induction k with
  | zero =>
    intro i a z hi hz
    obtain ⟨z, rfl⟩ : ∃ q, z = q + 1 := ⟨z - 1, by omega⟩
    rw [pc_s1, cs_0]
    unfold dfX12_place_28
    rw [h7, if_pos (nI_le (by omega) (by omega))]
    have g := pc_L2 (mi := mi) (tr := tr) (lt := lt) (rp := rp) (st := st) (p1 := p1) (p2 := p2) hr h10 (nI a) r 0 0 z (by omega) (by omega)
    rw [Nat.zero_add] at g
    exact g
  | succ k ih =>
    intro i a z hi hz
    obtain ⟨z, rfl⟩ : ∃ q, z = q + 1 := ⟨z - 1, by omega⟩
    rw [pc_s1, cs_s]
    unfold dfX12_place_28 bfX12_place_53
    have e : fX12_isNameAhead lt (nI i) p1 = if (nm i).toInt < (nm p1.toNatClampNeg).toInt then 1 else 0 := by
      have g := na_eq hm hN (show i < m by omega) hp
      rw [← hp1] at g
      exact g
    rw [h7, if_neg (nI_ge (by omega) (by omega)), e, cal_b, show nI a + (1 : Int32) = nI (a + 1) from nI_add a 1, show nI a + (0 : Int32) = nI (a + 0) from nI_add a 0, ← nI_succ, ih (i + 1) (a + 1) z (by omega) (by omega), ih (i + 1) (a + 0) z (by omega) (by omega)]
    by_cases h1 : (nm i).toInt < (nm p1.toNatClampNeg).toInt
    · rw [if_pos h1, if_neg n10, if_pos (show decide ((nm i).toInt < (nm p1.toNatClampNeg).toInt) = true from decide_eq_true h1), Nat.add_assoc]
    · rw [if_neg h1, if_pos rfl, if_neg (show ¬ decide ((nm i).toInt < (nm p1.toNatClampNeg).toInt) = true from fun q => h1 (of_decide_eq_true q)), Nat.add_zero, Nat.zero_add]
theorem fl_place {mi nm lt xt yt xp yp xs ys : Nat → Int32} {m r : Nat} (hm : m ≤ 6) (hr : r ≤ 24) (h7 : mi 7 = nI m) (h10 : mi 10 = nI r) (hN : NM m nm lt) (hE1 : ∀ j, j < m → xt j = yt j) (hE2 : ∀ j, j < r → xp j = yp j ∧ xs j = ys j) (p1 p2 : Int32) : fX11_place (nI m) (nI r) nm xt xp xs p1 p2 = fX12_place mi yt lt yp ys p1 p2 := by
  have l2 : (2 : Int64).toInt = 2 := by decide
  have k0 := z32
  have k1 : (1 : Int32).toInt = 1 := by decide
  have k2 : (2 : Int32).toInt = 2 := by decide
  unfold fX11_place fX12_place bfX12_place_20
  repeat rw [cal_b]
  rw [dx_hasPlace (by omega), dr_isPlace h7 (by omega), dr_in, z64, l2]
  by_cases h : 0 ≤ p1.toInt ∧ p1.toInt < (m : Int)
  · obtain ⟨q1, q2⟩ := clampI h
    rw [if_pos h, if_neg n10, if_neg n10]
    have g1 := nh_L (nm := nm) hm p1 m 0 0 1000000000 (by omega) (by omega)
    have g2 := so_L (xp := xp) (st := xs) hr p1 r 0 0 1000000000 (by omega) (by omega)
    have g3 := pc_L1 (mi := mi) (tr := yt) (rp := yp) (st := ys) (p2 := p2) hm hr h7 h10 hN q1 q2 m 0 0 1000000000 (by omega) (by omega)
    rw [Nat.zero_add] at g1 g2 g3
    rw [cs_eq (Q := fun j => decide (yp j = p1 ∧ ys j = 0)) r 0 (fun j _ w => by rw [(hE2 j (by omega)).1, (hE2 j (by omega)).2])] at g2
    have g1 : fX0_namesAhead (nI m) nm p1 = _ := g1
    have g2 : fX0_standingOf (nI r) xp xs p1 = _ := g2
    have g3 : (lfX12_place mi yt lt yp ys p1 p2 1000000000).1 0 0 = _ := g3
    rw [g1, g2, hE1 _ q1]
    by_cases h1 : p2 = 0
    · have c : 0 ≤ p2.toInt ∧ p2.toInt ≤ 2 := by rw [h1, k0]; omega
      rw [if_pos c, if_neg n10, g3, if_pos h1, if_pos h1]
    · by_cases h2 : p2 = 1
      · have c : 0 ≤ p2.toInt ∧ p2.toInt ≤ 2 := by rw [h2, k1]; omega
        rw [if_pos c, if_neg n10, g3, if_neg h1, if_neg h1, if_pos h2, if_pos h2]
      · by_cases h3 : p2 = 2
        · have c : 0 ≤ p2.toInt ∧ p2.toInt ≤ 2 := by rw [h3, k2]; omega
          rw [if_pos c, if_neg n10, g3, if_neg h1, if_neg h1, if_neg h2, if_neg h2, if_pos h3]
        · have b0 : ¬ p2.toInt = 0 := fun q => h1 (Int32.toInt_inj.mp (by rw [k0]; exact q))
          have b1 : ¬ p2.toInt = 1 := fun q => h2 (Int32.toInt_inj.mp (by rw [k1]; exact q))
          have b2 : ¬ p2.toInt = 2 := fun q => h3 (Int32.toInt_inj.mp (by rw [k2]; exact q))
          rw [if_neg (show ¬ (0 ≤ p2.toInt ∧ p2.toInt ≤ 2) by omega), if_neg h1, if_neg h2, if_neg h3]
          exact (if_pos rfl).symm
  · rw [if_neg h, if_pos rfl, if_pos rfl]
noncomputable def xt_count (vx : Nat → Int32) (fx : Nat → Nat → Int32) (gx : Nat → Nat → Int64) (o : Int32) : Int32 × (Nat → Int32) × (Nat → Nat → Int32) × (Nat → Nat → Int64) := (o, vx, fx, gx)
noncomputable def xs_count (vx : Nat → Int32) (fx : Nat → Nat → Int32) (gx : Nat → Nat → Int64) (p1 : Int32) : Int32 × (Nat → Int32) × (Nat → Nat → Int32) × (Nat → Nat → Int64) := xt_count vx fx gx (fX11_count (vx 0) (vx 11) (vx 12) (vx 13) (vx 14) (vx 16) (vx 17) (vx 18) (vx 19) (vx 20) (vx 10) p1)
set_option maxHeartbeats 4000000 in
set_option maxRecDepth 100000 in
theorem uX11_count (l : Launch) (dC : Nat → ClassId) (dI : Nat → Nat → Nat) (sz : Nat) (ax : Nat → Nat) (kx : Nat → ClassId) (vx : Nat → Int32) (fx : Nat → Nat → Int32) (gx : Nat → Nat → Int64) (rx : Nat → Nat → Nat) (hI : XI vx fx) (p1 : Int32) : Met l yX11_count (.code yX11_count cX11_count 2 (some .int) :: wsGA) ({ frames := 0, cells := 0, slots := 0, locals := 0 }) (va_Pc [.ref (ax 0), .int p1] (fun U => U.heap.size = sz ∧ va_P (dC, dI) vwCl (XW ax kx vx fx gx rx) U.heap ∧ va_K (dC, dI) vwCl (XT kx) U ∧ va_D (fun _ => True) (XW ax kx vx fx gx rx) ∧ nzA U)) (va_Qi (fun (r : Int32) (u : Int32) => r = u) (fun r t => XB dC dI ax kx vx fx gx rx sz (fun v f g => (r, v, f, g) = xs_count vx fx gx p1) t) (va_A (XW ax kx vx fx gx rx) sz)) 0 0 (va_A (XW ax kx vx fx gx rx) sz) := by
  have hC : List.map (fun i => (XW ax kx vx fx gx rx)[i]?) [0, 4, 1, 2] = ([((ax 0), .inr (11, [.ref (ax 1), .ref (ax 4), .ref (ax 8), .ref (ax 16), .ref (ax 19), .ref (ax 27), .ref (ax 35), .ref (ax 39), .ref (ax 42), .ref (ax 45), .ref (ax 46), .int (vx 0), .int (vx 1), .int (vx 2), .int (vx 3), .int (vx 4)])), ((ax 4), .inr (0, [.int (vx 11), .int (vx 12), .int (vx 13), .int (vx 14), .int (vx 15), .int (vx 16), .int (vx 17), .int (vx 18), .int (vx 19), .int (vx 20), .ref (ax 5), .ref (ax 6), .ref (ax 7)])), ((ax 1), .inr (6, [.ref (ax 2), .ref (ax 12), .int (vx 5), .int (vx 6), .int (vx 7), .int (vx 8), .int (vx 9)])), ((ax 2), .inr (10, [.ref (ax 3), .int (vx 10)]))] : va_W).map some := (gz_ixL (gz_ixL (gz_ixL (gz_ixL (gz_ixL (gz_ixL (gz_ixL (gz_ixL (gz_ixL rfl)))))))))
  refine gz_mono (sX11_count l dC dI (ax 0) (ax 4) (ax 1) (ax 2) (ax 8) (ax 16) (ax 19) (ax 27) (ax 35) (ax 39) (ax 42) (ax 45) (ax 46) (vx 0) (vx 1) (vx 2) (vx 3) (vx 4) (vx 11) (vx 12) (vx 13) (vx 14) (vx 15) (vx 16) (vx 17) (vx 18) (vx 19) (vx 20) (ax 5) (ax 6) (ax 7) (ax 12) (vx 5) (vx 6) (vx 7) (vx 8) (vx 9) (ax 3) (vx 10) p1 hI.1 hI.2.1 hI.2.2.1 hI.2.2.2.1 hI.2.2.2.2.2.2.2.2.1 hI.2.2.2.2.2.2.2.2.2.1 hI.2.2.2.2.2.2.2.2.2.2.1 hI.2.2.2.2.2.2.2.2.2.2.2.1 hI.2.2.2.2.2.2.2.2.2.2.2.2.1 hI.2.2.2.2.2.2.2.2.2.2.2.2.2.1 hI.2.2.2.2.2.2.2.2.2.2.2.2.2.2.1 hI.2.2.2.2.2.1 hI.2.2.2.2.2.2.1 hI.2.2.2.2.2.2.2.1) ?_ ?_ ?_
  · rintro args s ⟨rfl, hsz, hP, hK, hD, hz⟩
    exact ⟨rfl, (gz_sub hP [0, 4, 1, 2] hC), hK.sub [] rfl, hz⟩
  · rintro args s o t ⟨rfl, hsz, hP, hK, hD, hz⟩ ⟨⟨r, u, ho, hw, hB⟩, hF⟩
    subst hsz
    exact ⟨⟨r, r, ho, rfl, ax, kx, vx, fx, gx, rx, fun U h => h, rfl, hI, congrArg (xt_count vx fx gx) hw.2, gz_keep hP hF.2, hD.self⟩, hF.1, fun q h1 h2 => hF.2 q h1 (fun h => h.elim)⟩
  · exact fun q h => h.elim
noncomputable def xt_place (vx : Nat → Int32) (fx : Nat → Nat → Int32) (gx : Nat → Nat → Int64) (o : Int32) : Int32 × (Nat → Int32) × (Nat → Nat → Int32) × (Nat → Nat → Int64) := (o, vx, fx, gx)
noncomputable def xs_place (vx : Nat → Int32) (fx : Nat → Nat → Int32) (gx : Nat → Nat → Int64) (p1 : Int32) (p2 : Int32) : Int32 × (Nat → Int32) × (Nat → Nat → Int32) × (Nat → Nat → Int64) := xt_place vx fx gx (fX11_place (vx 18) (vx 19) (fx 22) (fx 23) (fx 24) (fx 29) p1 p2)
set_option maxHeartbeats 4000000 in
set_option maxRecDepth 100000 in
theorem uX11_place (l : Launch) (dC : Nat → ClassId) (dI : Nat → Nat → Nat) (sz : Nat) (ax : Nat → Nat) (kx : Nat → ClassId) (vx : Nat → Int32) (fx : Nat → Nat → Int32) (gx : Nat → Nat → Int64) (rx : Nat → Nat → Nat) (hI : XI vx fx) (p1 : Int32) (p2 : Int32) : Met l yX11_place (.code yX11_place cX11_place 3 (some .int) :: wsGA) ({ frames := 1, cells := 0, slots := 0, locals := 23 }) (va_Pc [.ref (ax 0), .int p1, .int p2] (fun U => U.heap.size = sz ∧ va_P (dC, dI) vwCl (XW ax kx vx fx gx rx) U.heap ∧ va_K (dC, dI) vwCl (XT kx) U ∧ va_D (fun _ => True) (XW ax kx vx fx gx rx) ∧ nzA U)) (va_Qi (fun (r : Int32) (u : Int32) => r = u) (fun r t => XB dC dI ax kx vx fx gx rx sz (fun v f g => (r, v, f, g) = xs_place vx fx gx p1 p2) t) (va_A (XW ax kx vx fx gx rx) sz)) 0 0 (va_A (XW ax kx vx fx gx rx) sz) := by
  have hC : List.map (fun i => (XW ax kx vx fx gx rx)[i]?) [0, 4, 5, 6] = ([((ax 0), .inr (11, [.ref (ax 1), .ref (ax 4), .ref (ax 8), .ref (ax 16), .ref (ax 19), .ref (ax 27), .ref (ax 35), .ref (ax 39), .ref (ax 42), .ref (ax 45), .ref (ax 46), .int (vx 0), .int (vx 1), .int (vx 2), .int (vx 3), .int (vx 4)])), ((ax 4), .inr (0, [.int (vx 11), .int (vx 12), .int (vx 13), .int (vx 14), .int (vx 15), .int (vx 16), .int (vx 17), .int (vx 18), .int (vx 19), .int (vx 20), .ref (ax 5), .ref (ax 6), .ref (ax 7)])), ((ax 5), .inl ((kx 1), 6, .inr (.inr (.inr (.inr (fun i => some (rx 0 i))))))), ((ax 6), .inl ((kx 2), 24, .inr (.inr (.inr (.inr (fun i => some (rx 1 i)))))))] : va_W).map some := (gz_ixL (gz_ixL (gz_ixL (gz_ixL (gz_ixL (gz_ixL (gz_ixL (gz_ixL (gz_ixL rfl)))))))))
  have hCF0 : List.map (fun i => (XW ax kx vx fx gx rx)[i]?) ([] ++ List.range' 47 6) = ((([] : va_W) ++ (gz_fam 6 (rx 0) 5 (fun i => [.int ((fx 22) i), .int ((fx 23) i)]))) : va_W).map some := (gz_ixapp (gz_ixL (gz_ixL (gz_ixL (gz_ixL (gz_ixL (gz_ixL (gz_ixL (gz_ixL (gz_ixL rfl))))))))) (gz_ixL (gz_ixL (gz_ixL (gz_ixL (gz_ixL (gz_ixL (gz_ixL (gz_ixL (gz_ixR (m := 47) (by simp only [List.length_append, gz_famlen, List.length_cons, List.length_nil]) gz_ixSelf))))))))))
  have hCF1 : List.map (fun i => (XW ax kx vx fx gx rx)[i]?) ([] ++ List.range' 53 24) = ((([] : va_W) ++ (gz_fam 24 (rx 1) 7 (fun i => [.int ((fx 24) i), .int ((fx 25) i), .int ((fx 26) i), .int ((fx 27) i), .int ((fx 28) i), .int ((fx 29) i)]))) : va_W).map some := (gz_ixapp (gz_ixL (gz_ixL (gz_ixL (gz_ixL (gz_ixL (gz_ixL (gz_ixL (gz_ixL (gz_ixL rfl))))))))) (gz_ixL (gz_ixL (gz_ixL (gz_ixL (gz_ixL (gz_ixL (gz_ixL (gz_ixR (m := 53) (by simp only [List.length_append, gz_famlen, List.length_cons, List.length_nil]) gz_ixSelf)))))))))
  refine gz_mono (sX11_place l dC dI (ax 0) (ax 4) (ax 5) (ax 6) (ax 1) (ax 8) (ax 16) (ax 19) (ax 27) (ax 35) (ax 39) (ax 42) (ax 45) (ax 46) (vx 0) (vx 1) (vx 2) (vx 3) (vx 4) (vx 11) (vx 12) (vx 13) (vx 14) (vx 15) (vx 16) (vx 17) (vx 18) (vx 19) (vx 20) (ax 7) (kx 1) (kx 2) (rx 0) (fx 22) (fx 23) (rx 1) (fx 24) (fx 25) (fx 26) (fx 27) (fx 28) (fx 29) p1 p2 hI.1 hI.2.1 hI.2.2.1 hI.2.2.2.1 hI.2.2.2.2.2.2.2.2.1 hI.2.2.2.2.2.2.2.2.2.1 hI.2.2.2.2.2.2.2.2.2.2.1 hI.2.2.2.2.2.2.2.2.2.2.2.1 hI.2.2.2.2.2.2.2.2.2.2.2.2.1 hI.2.2.2.2.2.2.2.2.2.2.2.2.2.1 hI.2.2.2.2.2.2.2.2.2.2.2.2.2.2.1 hI.2.2.2.2.2.2.2.2.2.2.2.2.2.2.2.2.2.2.2.2.2.2.2.2.2.2.2.2.2.2.2.2.2.2.2.2.2.2.2.2.2.2.2.2.2.2.2.2.2.1 hI.2.2.2.2.2.2.2.2.2.2.2.2.2.2.2.2.2.2.2.2.2.2.2.2.2.2.2.2.2.2.2.2.2.2.2.2.2.2.2.2.2.2.2.2.2.2.2.2.2.2.1 hI.2.2.2.2.2.2.2.2.2.2.2.2.2.2.2.2.2.2.2.2.2.2.2.2.2.2.2.2.2.2.2.2.2.2.2.2.2.2.2.2.2.2.2.2.2.2.2.2.2.2.2.1) ?_ ?_ ?_
  · rintro args s ⟨rfl, hsz, hP, hK, hD, hz⟩
    exact ⟨rfl, (gz_sub hP [0, 4, 5, 6] hC), hK.sub [1, 2] rfl, hz, (gz_sub hP ([] ++ List.range' 47 6) hCF0), (gz_sub hP ([] ++ List.range' 53 24) hCF1)⟩
  · rintro args s o t ⟨rfl, hsz, hP, hK, hD, hz⟩ ⟨⟨r, u, ho, hw, hB⟩, hF⟩
    subst hsz
    exact ⟨⟨r, r, ho, rfl, ax, kx, vx, fx, gx, rx, fun U h => h, rfl, hI, congrArg (xt_place vx fx gx) hw.2, gz_keep hP hF.2, hD.self⟩, hF.1, fun q h1 h2 => hF.2 q h1 (fun h => h.elim)⟩
  · exact fun q h => h.elim
noncomputable def xt_report (vx : Nat → Int32) (fx : Nat → Nat → Int32) (gx : Nat → Nat → Int64) (o : Int32) : Int32 × (Nat → Int32) × (Nat → Nat → Int32) × (Nat → Nat → Int64) := (o, vx, fx, gx)
noncomputable def xs_report (vx : Nat → Int32) (fx : Nat → Nat → Int32) (gx : Nat → Nat → Int64) (p1 : Int32) (p2 : Int32) : Int32 × (Nat → Int32) × (Nat → Nat → Int32) × (Nat → Nat → Int64) := xt_report vx fx gx (fX11_report (vx 19) (fx 24) (fx 25) (fx 26) (fx 27) (fx 28) (fx 29) p1 p2)
set_option maxHeartbeats 4000000 in
set_option maxRecDepth 100000 in
theorem uX11_report (l : Launch) (dC : Nat → ClassId) (dI : Nat → Nat → Nat) (sz : Nat) (ax : Nat → Nat) (kx : Nat → ClassId) (vx : Nat → Int32) (fx : Nat → Nat → Int32) (gx : Nat → Nat → Int64) (rx : Nat → Nat → Nat) (hI : XI vx fx) (p1 : Int32) (p2 : Int32) : Met l yX11_report (.code yX11_report cX11_report 4 (some .int) :: wsGA) ({ frames := 1, cells := 0, slots := 0, locals := 21 }) (va_Pc [.ref (ax 0), .int p1, .int p2] (fun U => U.heap.size = sz ∧ va_P (dC, dI) vwCl (XW ax kx vx fx gx rx) U.heap ∧ va_K (dC, dI) vwCl (XT kx) U ∧ va_D (fun _ => True) (XW ax kx vx fx gx rx) ∧ nzA U)) (va_Qi (fun (r : Int32) (u : Int32) => r = u) (fun r t => XB dC dI ax kx vx fx gx rx sz (fun v f g => (r, v, f, g) = xs_report vx fx gx p1 p2) t) (va_A (XW ax kx vx fx gx rx) sz)) 0 0 (va_A (XW ax kx vx fx gx rx) sz) := by
  have hC : List.map (fun i => (XW ax kx vx fx gx rx)[i]?) [0, 4, 6] = ([((ax 0), .inr (11, [.ref (ax 1), .ref (ax 4), .ref (ax 8), .ref (ax 16), .ref (ax 19), .ref (ax 27), .ref (ax 35), .ref (ax 39), .ref (ax 42), .ref (ax 45), .ref (ax 46), .int (vx 0), .int (vx 1), .int (vx 2), .int (vx 3), .int (vx 4)])), ((ax 4), .inr (0, [.int (vx 11), .int (vx 12), .int (vx 13), .int (vx 14), .int (vx 15), .int (vx 16), .int (vx 17), .int (vx 18), .int (vx 19), .int (vx 20), .ref (ax 5), .ref (ax 6), .ref (ax 7)])), ((ax 6), .inl ((kx 2), 24, .inr (.inr (.inr (.inr (fun i => some (rx 1 i)))))))] : va_W).map some := (gz_ixL (gz_ixL (gz_ixL (gz_ixL (gz_ixL (gz_ixL (gz_ixL (gz_ixL (gz_ixL rfl)))))))))
  have hCF0 : List.map (fun i => (XW ax kx vx fx gx rx)[i]?) ([] ++ List.range' 53 24) = ((([] : va_W) ++ (gz_fam 24 (rx 1) 7 (fun i => [.int ((fx 24) i), .int ((fx 25) i), .int ((fx 26) i), .int ((fx 27) i), .int ((fx 28) i), .int ((fx 29) i)]))) : va_W).map some := (gz_ixapp (gz_ixL (gz_ixL (gz_ixL (gz_ixL (gz_ixL (gz_ixL (gz_ixL (gz_ixL (gz_ixL rfl))))))))) (gz_ixL (gz_ixL (gz_ixL (gz_ixL (gz_ixL (gz_ixL (gz_ixL (gz_ixR (m := 53) (by simp only [List.length_append, gz_famlen, List.length_cons, List.length_nil]) gz_ixSelf)))))))))
  refine gz_mono (sX11_report l dC dI (ax 0) (ax 4) (ax 6) (ax 1) (ax 8) (ax 16) (ax 19) (ax 27) (ax 35) (ax 39) (ax 42) (ax 45) (ax 46) (vx 0) (vx 1) (vx 2) (vx 3) (vx 4) (vx 11) (vx 12) (vx 13) (vx 14) (vx 15) (vx 16) (vx 17) (vx 18) (vx 19) (vx 20) (ax 5) (ax 7) (kx 2) (rx 1) (fx 24) (fx 25) (fx 26) (fx 27) (fx 28) (fx 29) p1 p2 hI.1 hI.2.1 hI.2.2.1 hI.2.2.2.1 hI.2.2.2.2.2.2.2.2.1 hI.2.2.2.2.2.2.2.2.2.1 hI.2.2.2.2.2.2.2.2.2.2.1 hI.2.2.2.2.2.2.2.2.2.2.2.1 hI.2.2.2.2.2.2.2.2.2.2.2.2.1 hI.2.2.2.2.2.2.2.2.2.2.2.2.2.1 hI.2.2.2.2.2.2.2.2.2.2.2.2.2.2.1 hI.2.2.2.2.2.2.2.2.2.2.2.2.2.2.2.2.2.2.2.2.2.2.2.2.2.2.2.2.2.2.2.2.2.2.2.2.2.2.2.2.2.2.2.2.2.2.2.2.2.1 hI.2.2.2.2.2.2.2.2.2.2.2.2.2.2.2.2.2.2.2.2.2.2.2.2.2.2.2.2.2.2.2.2.2.2.2.2.2.2.2.2.2.2.2.2.2.2.2.2.2.2.1 hI.2.2.2.2.2.2.2.2.2.2.2.2.2.2.2.2.2.2.2.2.2.2.2.2.2.2.2.2.2.2.2.2.2.2.2.2.2.2.2.2.2.2.2.2.2.2.2.2.2.2.2.1) ?_ ?_ ?_
  · rintro args s ⟨rfl, hsz, hP, hK, hD, hz⟩
    exact ⟨rfl, (gz_sub hP [0, 4, 6] hC), hK.sub [2] rfl, hz, (gz_sub hP ([] ++ List.range' 53 24) hCF0)⟩
  · rintro args s o t ⟨rfl, hsz, hP, hK, hD, hz⟩ ⟨⟨r, u, ho, hw, hB⟩, hF⟩
    subst hsz
    exact ⟨⟨r, r, ho, rfl, ax, kx, vx, fx, gx, rx, fun U h => h, rfl, hI, congrArg (xt_report vx fx gx) hw.2, gz_keep hP hF.2, hD.self⟩, hF.1, fun q h1 h2 => hF.2 q h1 (fun h => h.elim)⟩
  · exact fun q h => h.elim
noncomputable def lsX11_judged : List (Nat × Instr × Nat) := [(0, .aload_n 0, 1), (1, .iload_n 1, 1), (2, .invokevirtual 216, 3), (5, .ifCond .eq 11, 3), (8, .aload_n 0, 1), (9, .iload_n 2, 1), (10, .invokevirtual 164, 3), (13, .ifCond .ne 6, 3), (16, .bipush (-2), 2), (18, .ireturn, 1), (19, .aload_n 0, 1), (20, .iload_n 1, 1), (21, .invokevirtual 219, 3), (24, .getfield 223, 3), (27, .iload_n 2, 1), (28, .iaload, 1), (29, .ireturn, 1)]
theorem dkX11_judged : dkAll cX11_judged lsX11_judged = true := by decide +kernel
abbrev pb_sX11_judged (dC : Nat → ClassId) (dI : Nat → Nat → Nat) (A9 : Nat → Prop) (h0 : Nat) (co : Nat) (ve : Nat) (qu : Nat) (tu : Nat) (cb : Nat) (fr : Nat) (fal : Nat) (fon : Nat) (am : Nat) (pl : Nat) (re : Nat) (xr : Nat) (xs : Nat) (xf : Nat) (oc : Nat) (ta : Nat) (xq : Nat) (xh : Nat) (xk : Nat) (xo : Nat) (x_outLength : Int32) (x_courtStands : Int32) (x_courtNews : Int32) (x_tallyStands : Int32) (x_historyStands : Int32) (c_queueLength : Int32) (c_takenBits : Int32) (kve : ClassId) (fve : Nat → Int32) (kqu : ClassId) (fqu : Nat → Int32) (ktu : ClassId) (ftu : Nat → Int64) (kcb : ClassId) (fcb : Nat → Int32) (fmonths : Int32) (ffull : Int32) (flean : Int32) (kfal : ClassId) (ffal : Nat → Int32) (kfon : ClassId) (ffon : Nat → Int32) (amonths : Int32) (afull : Int32) (alean : Int32) (alines : Int32) (ahasMoon : Int32) (amoonStart : Int32) (amoonStep : Int32) (aplaceCount : Int32) (areportCount : Int32) (adeedCount : Int32) (de : Nat) (kpl : ClassId) (kre : ClassId) (pa : Nat → Nat) (p_name : Nat → Int32) (p_trust : Nat → Int32) (ra : Nat → Nat) (r_place : Nat → Int32) (r_kind : Nat → Int32) (r_month : Nat → Int32) (r_day : Nat → Int32) (r_known : Nat → Int32) (r_struck : Nat → Int32) (p1 : Int32) (p2 : Int32) (w0_12 : Int32) (w0_13 : Int32) (w0_14 : Int32) (w1_5 : Int32) (w1_6 : Int32) (w6_0 : Int32) (w6_1 : Int32) (w6_2 : Int32) (z2 : Nat → Int32) (z3 : Nat → Int32) (z4 : Nat → Int64) (z5 : Nat → Int32) (z7 : Nat → Int32) (z8 : Nat → Int32) (t : State) : Prop := gi w0_12 0 1 ∧ gi w0_14 0 1 ∧ gi w1_5 0 24 ∧ gi w6_0 0 24 ∧ gi w6_1 0 5 ∧ gi w6_2 0 5 ∧ ga z3 24 0 23 ∧ va_P (dC, dI) vwCl [(h0, .inr (11, [.ref xr, .ref am, .ref xs, .ref xf, .ref co, .ref oc, .ref ta, .ref xq, .ref xh, .ref xk, .ref xo, .int x_outLength, .int w0_12, .int w0_13, .int w0_14, .int x_historyStands])), (co, .inr (1, [.ref fr, .ref ve, .ref qu, .ref tu, .ref cb, .int w1_5, .int w1_6])), (ve, .inl (kve, 24, .inl z2)), (qu, .inl (kqu, 24, .inl z3)), (tu, .inl (ktu, 24, .inr (.inl z4))), (cb, .inl (kcb, 25, .inl z5)), (fr, .inr (3, [.int w6_0, .int w6_1, .int w6_2, .ref fal, .ref fon])), (fal, .inl (kfal, 25, .inl z7)), (fon, .inl (kfon, 275, .inl z8))] t.heap ∧ va_D A9 [(h0, .inr (11, [.ref xr, .ref am, .ref xs, .ref xf, .ref co, .ref oc, .ref ta, .ref xq, .ref xh, .ref xk, .ref xo, .int x_outLength, .int w0_12, .int w0_13, .int w0_14, .int x_historyStands])), (co, .inr (1, [.ref fr, .ref ve, .ref qu, .ref tu, .ref cb, .int w1_5, .int w1_6])), (ve, .inl (kve, 24, .inl z2)), (qu, .inl (kqu, 24, .inl z3)), (tu, .inl (ktu, 24, .inr (.inl z4))), (cb, .inl (kcb, 25, .inl z5)), (fr, .inr (3, [.int w6_0, .int w6_1, .int w6_2, .ref fal, .ref fon])), (fal, .inl (kfal, 25, .inl z7)), (fon, .inl (kfon, 275, .inl z8))]
set_option maxHeartbeats 4000000 in
set_option maxRecDepth 100000 in
theorem sX11_judged (l : Launch) (dC : Nat → ClassId) (dI : Nat → Nat → Nat) (sz : Nat) (h0 : Nat) (co : Nat) (ve : Nat) (qu : Nat) (tu : Nat) (cb : Nat) (fr : Nat) (fal : Nat) (fon : Nat) (am : Nat) (pl : Nat) (re : Nat) (xr : Nat) (xs : Nat) (xf : Nat) (oc : Nat) (ta : Nat) (xq : Nat) (xh : Nat) (xk : Nat) (xo : Nat) (x_outLength : Int32) (x_courtStands : Int32) (x_courtNews : Int32) (x_tallyStands : Int32) (x_historyStands : Int32) (c_queueLength : Int32) (c_takenBits : Int32) (kve : ClassId) (fve : Nat → Int32) (kqu : ClassId) (fqu : Nat → Int32) (ktu : ClassId) (ftu : Nat → Int64) (kcb : ClassId) (fcb : Nat → Int32) (fmonths : Int32) (ffull : Int32) (flean : Int32) (kfal : ClassId) (ffal : Nat → Int32) (kfon : ClassId) (ffon : Nat → Int32) (amonths : Int32) (afull : Int32) (alean : Int32) (alines : Int32) (ahasMoon : Int32) (amoonStart : Int32) (amoonStep : Int32) (aplaceCount : Int32) (areportCount : Int32) (adeedCount : Int32) (de : Nat) (kpl : ClassId) (kre : ClassId) (pa : Nat → Nat) (p_name : Nat → Int32) (p_trust : Nat → Int32) (ra : Nat → Nat) (r_place : Nat → Int32) (r_kind : Nat → Int32) (r_month : Nat → Int32) (r_day : Nat → Int32) (r_known : Nat → Int32) (r_struck : Nat → Int32) (p1 : Int32) (p2 : Int32) (gx_outLength : gi x_outLength 0 72) (gx_courtStands : gi x_courtStands 0 1) (gx_tallyStands : gi x_tallyStands 0 1) (gx_historyStands : gi x_historyStands 0 1) (gc_queueLength : gi c_queueLength 0 24) (gfqu : ga fqu 24 0 23) (gfmonths : gi fmonths 0 24) (gffull : gi ffull 0 5) (gflean : gi flean 0 5) (gamonths : gi amonths 0 24) (gafull : gi afull 0 5) (galean : gi alean 0 5) (gahasMoon : gi ahasMoon 0 1) (gaplaceCount : gi aplaceCount 0 6) (gareportCount : gi areportCount 0 24) (gadeedCount : gi adeedCount 0 8) (gr_place : ga r_place 24 0 5) (gr_month : ga r_month 24 0 23) (gr_struck : ga r_struck 24 0 1) : Met l yX11_judged (.code yX11_judged cX11_judged 3 (some .int) :: wsGA) ({ frames := 5, cells := 0, slots := 0, locals := 117 }) (va_Pc [.ref h0, .int p1, .int p2] (fun U => U.heap.size = sz ∧ va_P (dC, dI) vwCl [(h0, .inr (11, [.ref xr, .ref am, .ref xs, .ref xf, .ref co, .ref oc, .ref ta, .ref xq, .ref xh, .ref xk, .ref xo, .int x_outLength, .int x_courtStands, .int x_courtNews, .int x_tallyStands, .int x_historyStands])), (co, .inr (1, [.ref fr, .ref ve, .ref qu, .ref tu, .ref cb, .int c_queueLength, .int c_takenBits])), (ve, .inl (kve, 24, .inl fve)), (qu, .inl (kqu, 24, .inl fqu)), (tu, .inl (ktu, 24, .inr (.inl ftu))), (cb, .inl (kcb, 25, .inl fcb)), (fr, .inr (3, [.int fmonths, .int ffull, .int flean, .ref fal, .ref fon])), (fal, .inl (kfal, 25, .inl ffal)), (fon, .inl (kfon, 275, .inl ffon))] U.heap ∧ va_K (dC, dI) vwCl [(kve, .int), (kqu, .int), (ktu, .long), (kcb, .int), (kfal, .int), (kfon, .int), (kpl, .object RX5), (kre, .object RX7)] U ∧ va_D (fun _ => True) [(h0, .inr (11, [.ref xr, .ref am, .ref xs, .ref xf, .ref co, .ref oc, .ref ta, .ref xq, .ref xh, .ref xk, .ref xo, .int x_outLength, .int x_courtStands, .int x_courtNews, .int x_tallyStands, .int x_historyStands])), (co, .inr (1, [.ref fr, .ref ve, .ref qu, .ref tu, .ref cb, .int c_queueLength, .int c_takenBits])), (ve, .inl (kve, 24, .inl fve)), (qu, .inl (kqu, 24, .inl fqu)), (tu, .inl (ktu, 24, .inr (.inl ftu))), (cb, .inl (kcb, 25, .inl fcb)), (fr, .inr (3, [.int fmonths, .int ffull, .int flean, .ref fal, .ref fon])), (fal, .inl (kfal, 25, .inl ffal)), (fon, .inl (kfon, 275, .inl ffon))] ∧ nzA U ∧ va_P (dC, dI) vwCl [(am, .inr (0, [.int amonths, .int afull, .int alean, .int alines, .int ahasMoon, .int amoonStart, .int amoonStep, .int aplaceCount, .int areportCount, .int adeedCount, .ref pl, .ref re, .ref de])), (pl, .inl (kpl, 6, .inr (.inr (.inr (.inr (fun i => some (pa i))))))), (re, .inl (kre, 24, .inr (.inr (.inr (.inr (fun i => some (ra i)))))))] U.heap ∧ gz_ap (va_A [(h0, .inr (11, [.ref xr, .ref am, .ref xs, .ref xf, .ref co, .ref oc, .ref ta, .ref xq, .ref xh, .ref xk, .ref xo, .int x_outLength, .int x_courtStands, .int x_courtNews, .int x_tallyStands, .int x_historyStands])), (co, .inr (1, [.ref fr, .ref ve, .ref qu, .ref tu, .ref cb, .int c_queueLength, .int c_takenBits])), (ve, .inl (kve, 24, .inl fve)), (qu, .inl (kqu, 24, .inl fqu)), (tu, .inl (ktu, 24, .inr (.inl ftu))), (cb, .inl (kcb, 25, .inl fcb)), (fr, .inr (3, [.int fmonths, .int ffull, .int flean, .ref fal, .ref fon])), (fal, .inl (kfal, 25, .inl ffal)), (fon, .inl (kfon, 275, .inl ffon))] sz) [(am, .inr (0, [.int amonths, .int afull, .int alean, .int alines, .int ahasMoon, .int amoonStart, .int amoonStep, .int aplaceCount, .int areportCount, .int adeedCount, .ref pl, .ref re, .ref de])), (pl, .inl (kpl, 6, .inr (.inr (.inr (.inr (fun i => some (pa i))))))), (re, .inl (kre, 24, .inr (.inr (.inr (.inr (fun i => some (ra i)))))))] ∧ va_P (dC, dI) vwCl (gz_fam 6 pa 5 (fun i => [.int (p_name i), .int (p_trust i)])) U.heap ∧ gz_ap (va_A [(h0, .inr (11, [.ref xr, .ref am, .ref xs, .ref xf, .ref co, .ref oc, .ref ta, .ref xq, .ref xh, .ref xk, .ref xo, .int x_outLength, .int x_courtStands, .int x_courtNews, .int x_tallyStands, .int x_historyStands])), (co, .inr (1, [.ref fr, .ref ve, .ref qu, .ref tu, .ref cb, .int c_queueLength, .int c_takenBits])), (ve, .inl (kve, 24, .inl fve)), (qu, .inl (kqu, 24, .inl fqu)), (tu, .inl (ktu, 24, .inr (.inl ftu))), (cb, .inl (kcb, 25, .inl fcb)), (fr, .inr (3, [.int fmonths, .int ffull, .int flean, .ref fal, .ref fon])), (fal, .inl (kfal, 25, .inl ffal)), (fon, .inl (kfon, 275, .inl ffon))] sz) (gz_fam 6 pa 5 (fun i => [.int (p_name i), .int (p_trust i)])) ∧ va_P (dC, dI) vwCl (gz_fam 24 ra 7 (fun i => [.int (r_place i), .int (r_kind i), .int (r_month i), .int (r_day i), .int (r_known i), .int (r_struck i)])) U.heap ∧ gz_ap (va_A [(h0, .inr (11, [.ref xr, .ref am, .ref xs, .ref xf, .ref co, .ref oc, .ref ta, .ref xq, .ref xh, .ref xk, .ref xo, .int x_outLength, .int x_courtStands, .int x_courtNews, .int x_tallyStands, .int x_historyStands])), (co, .inr (1, [.ref fr, .ref ve, .ref qu, .ref tu, .ref cb, .int c_queueLength, .int c_takenBits])), (ve, .inl (kve, 24, .inl fve)), (qu, .inl (kqu, 24, .inl fqu)), (tu, .inl (ktu, 24, .inr (.inl ftu))), (cb, .inl (kcb, 25, .inl fcb)), (fr, .inr (3, [.int fmonths, .int ffull, .int flean, .ref fal, .ref fon])), (fal, .inl (kfal, 25, .inl ffal)), (fon, .inl (kfon, 275, .inl ffon))] sz) (gz_fam 24 ra 7 (fun i => [.int (r_place i), .int (r_kind i), .int (r_month i), .int (r_day i), .int (r_known i), .int (r_struck i)])))) (va_Qi (fun (r : Int32) (u : Unit) => gi r (-2147483648) 2147483647) (fun _ t => ∃ (w0_12 : Int32) (w0_13 : Int32) (w0_14 : Int32) (w1_5 : Int32) (w1_6 : Int32) (w6_0 : Int32) (w6_1 : Int32) (w6_2 : Int32) (z2 : Nat → Int32) (z3 : Nat → Int32) (z4 : Nat → Int64) (z5 : Nat → Int32) (z7 : Nat → Int32) (z8 : Nat → Int32), pb_sX11_judged dC dI (va_A [(h0, .inr (11, [.ref xr, .ref am, .ref xs, .ref xf, .ref co, .ref oc, .ref ta, .ref xq, .ref xh, .ref xk, .ref xo, .int x_outLength, .int x_courtStands, .int x_courtNews, .int x_tallyStands, .int x_historyStands])), (co, .inr (1, [.ref fr, .ref ve, .ref qu, .ref tu, .ref cb, .int c_queueLength, .int c_takenBits])), (ve, .inl (kve, 24, .inl fve)), (qu, .inl (kqu, 24, .inl fqu)), (tu, .inl (ktu, 24, .inr (.inl ftu))), (cb, .inl (kcb, 25, .inl fcb)), (fr, .inr (3, [.int fmonths, .int ffull, .int flean, .ref fal, .ref fon])), (fal, .inl (kfal, 25, .inl ffal)), (fon, .inl (kfon, 275, .inl ffon))] sz) h0 co ve qu tu cb fr fal fon am pl re xr xs xf oc ta xq xh xk xo x_outLength x_courtStands x_courtNews x_tallyStands x_historyStands c_queueLength c_takenBits kve fve kqu fqu ktu ftu kcb fcb fmonths ffull flean kfal ffal kfon ffon amonths afull alean alines ahasMoon amoonStart amoonStep aplaceCount areportCount adeedCount de kpl kre pa p_name p_trust ra r_place r_kind r_month r_day r_known r_struck p1 p2 w0_12 w0_13 w0_14 w1_5 w1_6 w6_0 w6_1 w6_2 z2 z3 z4 z5 z7 z8 t) (va_A [(h0, .inr (11, [.ref xr, .ref am, .ref xs, .ref xf, .ref co, .ref oc, .ref ta, .ref xq, .ref xh, .ref xk, .ref xo, .int x_outLength, .int x_courtStands, .int x_courtNews, .int x_tallyStands, .int x_historyStands])), (co, .inr (1, [.ref fr, .ref ve, .ref qu, .ref tu, .ref cb, .int c_queueLength, .int c_takenBits])), (ve, .inl (kve, 24, .inl fve)), (qu, .inl (kqu, 24, .inl fqu)), (tu, .inl (ktu, 24, .inr (.inl ftu))), (cb, .inl (kcb, 25, .inl fcb)), (fr, .inr (3, [.int fmonths, .int ffull, .int flean, .ref fal, .ref fon])), (fal, .inl (kfal, 25, .inl ffal)), (fon, .inl (kfon, 275, .inl ffon))] sz)) 0 0 (va_A [(h0, .inr (11, [.ref xr, .ref am, .ref xs, .ref xf, .ref co, .ref oc, .ref ta, .ref xq, .ref xh, .ref xk, .ref xo, .int x_outLength, .int x_courtStands, .int x_courtNews, .int x_tallyStands, .int x_historyStands])), (co, .inr (1, [.ref fr, .ref ve, .ref qu, .ref tu, .ref cb, .int c_queueLength, .int c_takenBits])), (ve, .inl (kve, 24, .inl fve)), (qu, .inl (kqu, 24, .inl fqu)), (tu, .inl (ktu, 24, .inr (.inl ftu))), (cb, .inl (kcb, 25, .inl fcb)), (fr, .inr (3, [.int fmonths, .int ffull, .int flean, .ref fal, .ref fon])), (fal, .inl (kfal, 25, .inl ffal)), (fon, .inl (kfon, 275, .inl ffon))] sz) := by
  refine Met.ofW (cc := cX11_judged) (maxL := 3) (ret := (some .int)) (by decide) rfl ?_
  intro p e s m args below meth c s₁ B hml hv
  obtain ⟨rfl, hsz, hP, hK, hD0, hz, hR, hRA, hF0, hFA0, hF1, hFA1⟩ := hv
  have hx := B.exec
  have hb := B.bytes
  have hr := B.returns
  have hts := atoms_spec (ws := (.code yX11_judged cX11_judged 3 (some .int) :: wsGA)) B.pre
  have hown : s.vm.findClass RX11 = some m.cls := findClass_of_methodNamed B.named
  have hlocks := B.notSynchronized
  subst hsz
  have hD := hD0.self (sz := s.heap.size)
  generalize hAe : va_A [(h0, .inr (11, [.ref xr, .ref am, .ref xs, .ref xf, .ref co, .ref oc, .ref ta, .ref xq, .ref xh, .ref xk, .ref xo, .int x_outLength, .int x_courtStands, .int x_courtNews, .int x_tallyStands, .int x_historyStands])), (co, .inr (1, [.ref fr, .ref ve, .ref qu, .ref tu, .ref cb, .int c_queueLength, .int c_takenBits])), (ve, .inl (kve, 24, .inl fve)), (qu, .inl (kqu, 24, .inl fqu)), (tu, .inl (ktu, 24, .inr (.inl ftu))), (cb, .inl (kcb, 25, .inl fcb)), (fr, .inr (3, [.int fmonths, .int ffull, .int flean, .ref fal, .ref fon])), (fal, .inl (kfal, 25, .inl ffal)), (fon, .inl (kfon, 275, .inl ffon))] s.heap.size = A at hD hRA hFA0 hFA1 ⊢
  have hA : ∀ q : Nat, s.heap.size ≤ q → A q := fun q h => by rw [← hAe]; exact Or.inr h
  have hS : va_S A s.heap s.heap [] := va_S.rf
  have hl := lv_entry ([.ref h0, .int p1, .int p2]) (n := 3) (Nat.le_of_ble_eq_true rfl)
  rw [lg_entry_eq]
  generalize (lg_sl ([.ref h0, .int p1, .int p2]) ++ List.replicate (3 - (lg_sl ([.ref h0, .int p1, .int p2])).length) Slot.unset).toArray = ls at hl ⊢
  have hl : lv_has ls 3 [(0, .ref h0), (1, .int p1), (2, .int p2)] := hl
  refine lv_aload_n hx hb (dk_at dkX11_judged 0 rfl) rfl (lv_at hl 0 rfl) ?_
  refine lv_iload_n hx hb (dk_at dkX11_judged 1 rfl) rfl (lv_at hl 1 rfl) ?_
  have hPc : va_P (dC, dI) vwCl [(h0, .inr (11, [.ref xr, .ref am, .ref xs, .ref xf, .ref co, .ref oc, .ref ta, .ref xq, .ref xh, .ref xk, .ref xo, .int x_outLength, .int x_courtStands, .int x_courtNews, .int x_tallyStands, .int x_historyStands])), (am, .inr (0, [.int amonths, .int afull, .int alean, .int alines, .int ahasMoon, .int amoonStart, .int amoonStep, .int aplaceCount, .int areportCount, .int adeedCount, .ref pl, .ref re, .ref de]))] s.heap := (gz_cat (hP.sub [0] rfl) ((gz_ro hR hRA hS).sub [0] rfl))
  have hKc := hK.sub (tys' := []) [] rfl
  refine va_calli (va_runV (As := [.int p1]) (rest := []) ⟨hx, hb, hml, hown, hts⟩ (sX11_hasTime l dC dI h0 am xr xs xf co oc ta xq xh xk xo x_outLength x_courtStands x_courtNews x_tallyStands x_historyStands amonths afull alean alines ahasMoon amoonStart amoonStep aplaceCount areportCount adeedCount pl re de p1 gx_outLength gx_courtStands gx_tallyStands gx_historyStands gamonths gafull galean gahasMoon gaplaceCount gareportCount gadeedCount) (cwV 1 hts (gz_gV mGA_424 mGA_425 mGA_426 mGA_1 mGA_427 goodGA) rfl rfl rfl (by decide +kernel) ⟨Nat.le_of_ble_eq_true rfl, Nat.le_of_ble_eq_true rfl⟩) ⟨bl_I (bl_a bl_P (bl_a bl_K bl_nz)), va_recv hKc hPc (ci := 11) (q0 := 0) rfl rfl, fun U hU hW => ⟨rfl, by rw [hU]; exact hPc, va_K.moved hW.alike hKc, nzA_warm hW hz⟩⟩ rfl rfl hl.1 rfl (lv_room (Nat.le_of_ble_eq_true rfl)) (dk_at dkX11_judged 2 rfl) ⟨Nat.zero_le _, Nat.zero_le _⟩) hS (fun q _ h => h.elim) (fun q h => h.elim) (fun r_53 u t H1 locs ht hvm hw hB hz1 hk1 hS => ?_)
  obtain ⟨hw, hE⟩ := hw
  have hP := gz_keep hP hk1
  generalize H1 = H at hP hS ⊢
  have gr_53 : gi r_53 0 1 := hw.1
  have hqr_53 := hw.2
  refine lv_if_eq (tgt := 16) hx hb (dk_at dkX11_judged 3 rfl) (by decide) (fun c_54 => ?_) (fun c_54 => ?_)
  · have g_55 : gi r_53 0 0 := gi_eq c_54 (gi_c 0 0 (by decide))
    refine lv_bipush (v := (-2)) hx hb (dk_at dkX11_judged 8 rfl) (by decide) ?_
    exact W.iret (v := (-2)) hx hb hr (fun t ht hW => ⟨⟨(-2), (), rfl, (gi_any (-2)), x_courtStands, x_courtNews, x_tallyStands, c_queueLength, c_takenBits, fmonths, ffull, flean, fve, fqu, ftu, fcb, ffal, ffon, gx_courtStands, gx_tallyStands, gc_queueLength, gfmonths, gffull, gflean, gfqu, by rw [ht]; exact hP, hD⟩, hS.F ht⟩) hS.2.2 (dk_at dkX11_judged 9 rfl)
  · have g_56 : gi r_53 1 1 := gi_ne_lo c_54 gr_53 (gi_c 0 0 (by decide)) (by decide)
    have g_57 : gi p1 0 999 := gi_cap (gi_any p1) (hqr_53 (gz_one g_56)) (by decide)
    refine lv_aload_n hx hb (dk_at dkX11_judged 4 rfl) rfl (lv_at hl 0 rfl) ?_
    refine lv_iload_n hx hb (dk_at dkX11_judged 5 rfl) rfl (lv_at hl 2 rfl) ?_
    have hPc : va_P (dC, dI) vwCl [(h0, .inr (11, [.ref xr, .ref am, .ref xs, .ref xf, .ref co, .ref oc, .ref ta, .ref xq, .ref xh, .ref xk, .ref xo, .int x_outLength, .int x_courtStands, .int x_courtNews, .int x_tallyStands, .int x_historyStands])), (am, .inr (0, [.int amonths, .int afull, .int alean, .int alines, .int ahasMoon, .int amoonStart, .int amoonStep, .int aplaceCount, .int areportCount, .int adeedCount, .ref pl, .ref re, .ref de]))] H := (gz_cat (hP.sub [0] rfl) ((gz_ro hR hRA hS).sub [0] rfl))
    have hKc := hK.sub (tys' := []) [] rfl
    refine va_calli (va_runV (As := [.int p2]) (rest := []) ⟨hx, hb, hml, hown, hts⟩ (sX11_hasReport l dC dI h0 am xr xs xf co oc ta xq xh xk xo x_outLength x_courtStands x_courtNews x_tallyStands x_historyStands amonths afull alean alines ahasMoon amoonStart amoonStep aplaceCount areportCount adeedCount pl re de p2 gx_outLength gx_courtStands gx_tallyStands gx_historyStands gamonths gafull galean gahasMoon gaplaceCount gareportCount gadeedCount) (cwV 1 hts (gz_gV mGA_388 mGA_389 mGA_390 mGA_1 mGA_391 goodGA) rfl rfl rfl (by decide +kernel) ⟨Nat.le_of_ble_eq_true rfl, Nat.le_of_ble_eq_true rfl⟩) ⟨bl_I (bl_a bl_P (bl_a bl_K bl_nz)), va_recv hKc hPc (ci := 11) (q0 := 0) rfl rfl, fun U hU hW => ⟨rfl, by rw [hU]; exact hPc, va_K.moved hW.alike hKc, nzA_warm hW hz⟩⟩ rfl rfl hl.1 rfl (lv_room (Nat.le_of_ble_eq_true rfl)) (dk_at dkX11_judged 6 rfl) ⟨Nat.zero_le _, Nat.zero_le _⟩) hS (fun q _ h => h.elim) (fun q h => h.elim) (fun r_58 u t H1 locs ht hvm hw hB hz1 hk1 hS => ?_)
    obtain ⟨hw, hE⟩ := hw
    have hP := gz_keep hP hk1
    generalize H1 = H at hP hS ⊢
    have gr_58 : gi r_58 0 1 := hw.1
    have hqr_58 := hw.2
    refine lv_if_ne (tgt := 19) hx hb (dk_at dkX11_judged 7 rfl) (by decide) (fun c_59 => ?_) (fun c_59 => ?_)
    · have g_60 : gi r_58 1 1 := gi_ne_lo c_59 gr_58 (gi_c 0 0 (by decide)) (by decide)
      have g_61 : gi p2 0 23 := gi_cap (gi_any p2) (hqr_58 (gz_one g_60)) (by decide)
      refine lv_aload_n hx hb (dk_at dkX11_judged 10 rfl) rfl (lv_at hl 0 rfl) ?_
      refine lv_iload_n hx hb (dk_at dkX11_judged 11 rfl) rfl (lv_at hl 1 rfl) ?_
      obtain ⟨hPc, hDc, hFc⟩ := gz_cut (wc := [(h0, .inr (11, [.ref xr, .ref am, .ref xs, .ref xf, .ref co, .ref oc, .ref ta, .ref xq, .ref xh, .ref xk, .ref xo, .int x_outLength, .int x_courtStands, .int x_courtNews, .int x_tallyStands, .int x_historyStands])), (co, .inr (1, [.ref fr, .ref ve, .ref qu, .ref tu, .ref cb, .int c_queueLength, .int c_takenBits])), (ve, .inl (kve, 24, .inl fve)), (qu, .inl (kqu, 24, .inl fqu)), (tu, .inl (ktu, 24, .inr (.inl ftu))), (cb, .inl (kcb, 25, .inl fcb)), (fr, .inr (3, [.int fmonths, .int ffull, .int flean, .ref fal, .ref fon])), (fal, .inl (kfal, 25, .inl ffal)), (fon, .inl (kfon, 275, .inl ffon))]) hP hD hS hA [0, 1, 2, 3, 4, 5, 6, 7, 8] (by decide) rfl
      have hKc := hK.sub (tys' := [(kve, .int), (kqu, .int), (ktu, .long), (kcb, .int), (kfal, .int), (kfon, .int), (kpl, .object RX5), (kre, .object RX7)]) [0, 1, 2, 3, 4, 5, 6, 7] rfl
      have hRc_ : va_P (dC, dI) vwCl [(am, .inr (0, [.int amonths, .int afull, .int alean, .int alines, .int ahasMoon, .int amoonStart, .int amoonStep, .int aplaceCount, .int areportCount, .int adeedCount, .ref pl, .ref re, .ref de])), (pl, .inl (kpl, 6, .inr (.inr (.inr (.inr (fun i => some (pa i))))))), (re, .inl (kre, 24, .inr (.inr (.inr (.inr (fun i => some (ra i)))))))] H := (gz_cat ((gz_ro hR hRA hS).sub [0] rfl) (gz_cat ((gz_ro hR hRA hS).sub [1] rfl) ((gz_ro hR hRA hS).sub [2] rfl)))
      have hRa_ : gz_ap (va_A [(h0, .inr (11, [.ref xr, .ref am, .ref xs, .ref xf, .ref co, .ref oc, .ref ta, .ref xq, .ref xh, .ref xk, .ref xo, .int x_outLength, .int x_courtStands, .int x_courtNews, .int x_tallyStands, .int x_historyStands])), (co, .inr (1, [.ref fr, .ref ve, .ref qu, .ref tu, .ref cb, .int c_queueLength, .int c_takenBits])), (ve, .inl (kve, 24, .inl fve)), (qu, .inl (kqu, 24, .inl fqu)), (tu, .inl (ktu, 24, .inr (.inl ftu))), (cb, .inl (kcb, 25, .inl fcb)), (fr, .inr (3, [.int fmonths, .int ffull, .int flean, .ref fal, .ref fon])), (fal, .inl (kfal, 25, .inl ffal)), (fon, .inl (kfon, 275, .inl ffon))] H.size) [(am, .inr (0, [.int amonths, .int afull, .int alean, .int alines, .int ahasMoon, .int amoonStart, .int amoonStep, .int aplaceCount, .int areportCount, .int adeedCount, .ref pl, .ref re, .ref de])), (pl, .inl (kpl, 6, .inr (.inr (.inr (.inr (fun i => some (pa i))))))), (re, .inl (kre, 24, .inr (.inr (.inr (.inr (fun i => some (ra i)))))))] := (gz_apc (gz_apR (gz_ap1 hRA 0 rfl) hFc) (gz_apc (gz_apR (gz_ap1 hRA 1 rfl) hFc) (gz_apR (gz_ap1 hRA 2 rfl) hFc)))
      refine va_callr (va_runV (As := [.int p1]) (rest := []) ⟨hx, hb, hml, hown, hts⟩ (sX11_courtBy l dC dI H.size h0 co ve qu tu cb fr fal fon am pl re xr xs xf oc ta xq xh xk xo x_outLength x_courtStands x_courtNews x_tallyStands x_historyStands c_queueLength c_takenBits kve fve kqu fqu ktu ftu kcb fcb fmonths ffull flean kfal ffal kfon ffon amonths afull alean alines ahasMoon amoonStart amoonStep aplaceCount areportCount adeedCount de kpl kre pa p_name p_trust ra r_place r_kind r_month r_day r_known r_struck p1 gx_outLength gx_courtStands gx_tallyStands gx_historyStands gc_queueLength gfqu gfmonths gffull gflean gamonths gafull galean gahasMoon gaplaceCount gareportCount gadeedCount gr_place gr_month gr_struck) (cwV 1 hts (gz_gV mGA_428 mGA_429 mGA_430 mGA_1 mGA_431 goodGA) rfl rfl rfl (by decide +kernel) ⟨Nat.le_of_ble_eq_true rfl, Nat.le_of_ble_eq_true rfl⟩) ⟨bl_I (bl_a bl_sz (bl_a bl_P (bl_a bl_K (bl_a bl_c (bl_a bl_nz (bl_a bl_P (bl_a bl_c (bl_a bl_P (bl_a bl_c (bl_a bl_P bl_c)))))))))), va_recv hKc hPc (ci := 11) (q0 := 0) rfl rfl, fun U hU hW => ⟨rfl, by rw [hU], by rw [hU]; exact hPc, va_K.moved hW.alike hKc, hDc.weaken (fun _ _ _ _ => trivial), nzA_warm hW hz, by rw [hU]; exact hRc_, hRa_, by rw [hU]; exact gz_ro hF0 hFA0 hS, gz_apR hFA0 hFc, by rw [hU]; exact gz_ro hF1 hFA1 hS, gz_apR hFA1 hFc⟩⟩ rfl rfl hl.1 rfl (lv_room (Nat.le_of_ble_eq_true rfl)) (dk_at dkX11_judged 12 rfl) ⟨Nat.zero_le _, Nat.zero_le _⟩) hS (fun q _ h => hFc q h) hFc (fun u r_62 t H1 locs ht hvm hw hB hz1 hk1 hS => ?_)
      obtain ⟨hra, hB⟩ := hB
      have hra := hra.symm
      subst hra
      obtain ⟨y_63, y_64, y_65, y_66, y_67, y_68, y_69, y_70, f_71, f_72, f_73, f_74, f_75, f_76, hB⟩ := hB
      obtain ⟨gy_63, gy_65, gy_66, gy_68, gy_69, gy_70, gf_72, hP1, hD1⟩ := hB
      rw [ht] at hP1
      obtain ⟨hP, hD⟩ := gz_back hP hD hk1 hFc hP1 hD1 [0, 1, 2, 3, 4, 5, 6, 7, 8] rfl rfl
      obtain ⟨hP, hD⟩ := gz_both (w := [(h0, .inr (11, [.ref xr, .ref am, .ref xs, .ref xf, .ref co, .ref oc, .ref ta, .ref xq, .ref xh, .ref xk, .ref xo, .int x_outLength, .int y_63, .int y_64, .int y_65, .int x_historyStands])), (co, .inr (1, [.ref fr, .ref ve, .ref qu, .ref tu, .ref cb, .int y_66, .int y_67])), (ve, .inl (kve, 24, .inl f_71)), (qu, .inl (kqu, 24, .inl f_72)), (tu, .inl (ktu, 24, .inr (.inl f_73))), (cb, .inl (kcb, 25, .inl f_74)), (fr, .inr (3, [.int y_68, .int y_69, .int y_70, .ref fal, .ref fon])), (fal, .inl (kfal, 25, .inl f_75)), (fon, .inl (kfon, 275, .inl f_76))]) hP hD
      generalize H1 = H at hP hS ⊢
      refine va_get (D := (dC, dI)) (ci := 1) (v := .ref ve) (C := RX1) (T := TX1) (N := 7) hx hb hts (fun w h => List.mem_cons_of_mem _ (jnGA_X1 w h)) hown hK hP 1 rfl rfl 1 (by decide) (hts _ (List.mem_cons_of_mem _ mGA_423)) (fun _ h9 => h9) rfl (dk_at dkX11_judged 13 rfl) ?_
      refine lv_iload_n hx hb (dk_at dkX11_judged 14 rfl) rfl (lv_at hl 2 rfl) ?_
      refine va_iald hx hb hK hP 2 0 rfl rfl (gi_in g_61 (by decide)) (dk_at dkX11_judged 15 rfl) ?_
      refine lv_topi (fun x_77 ex_77 => ?_)
      exact W.iret (v := x_77) hx hb hr (fun t ht hW => ⟨⟨x_77, (), rfl, (gi_any x_77), y_63, y_64, y_65, y_66, y_67, y_68, y_69, y_70, f_71, f_72, f_73, f_74, f_75, f_76, gy_63, gy_65, gy_66, gy_68, gy_69, gy_70, gf_72, by rw [ht]; exact hP, hD⟩, hS.F ht⟩) hS.2.2 (dk_at dkX11_judged 16 rfl)
    · have g_78 : gi r_58 0 0 := gi_eq c_59 (gi_c 0 0 (by decide))
      refine lv_bipush (v := (-2)) hx hb (dk_at dkX11_judged 8 rfl) (by decide) ?_
      exact W.iret (v := (-2)) hx hb hr (fun t ht hW => ⟨⟨(-2), (), rfl, (gi_any (-2)), x_courtStands, x_courtNews, x_tallyStands, c_queueLength, c_takenBits, fmonths, ffull, flean, fve, fqu, ftu, fcb, ffal, ffon, gx_courtStands, gx_tallyStands, gc_queueLength, gfmonths, gffull, gflean, gfqu, by rw [ht]; exact hP, hD⟩, hS.F ht⟩) hS.2.2 (dk_at dkX11_judged 9 rfl)
noncomputable def xt_deed (vx : Nat → Int32) (fx : Nat → Nat → Int32) (gx : Nat → Nat → Int64) (o : Int32) : Int32 × (Nat → Int32) × (Nat → Nat → Int32) × (Nat → Nat → Int64) := (o, vx, fx, gx)
noncomputable def xs_deed (vx : Nat → Int32) (fx : Nat → Nat → Int32) (gx : Nat → Nat → Int64) (p1 : Int32) (p2 : Int32) : Int32 × (Nat → Int32) × (Nat → Nat → Int32) × (Nat → Nat → Int64) := xt_deed vx fx gx (fX11_deed (vx 20) (fx 30) (fx 31) (fx 32) (fx 33) p1 p2)
set_option maxHeartbeats 4000000 in
set_option maxRecDepth 100000 in
theorem uX11_deed (l : Launch) (dC : Nat → ClassId) (dI : Nat → Nat → Nat) (sz : Nat) (ax : Nat → Nat) (kx : Nat → ClassId) (vx : Nat → Int32) (fx : Nat → Nat → Int32) (gx : Nat → Nat → Int64) (rx : Nat → Nat → Nat) (hI : XI vx fx) (p1 : Int32) (p2 : Int32) : Met l yX11_deed (.code yX11_deed cX11_deed 4 (some .int) :: wsGA) ({ frames := 1, cells := 0, slots := 0, locals := 21 }) (va_Pc [.ref (ax 0), .int p1, .int p2] (fun U => U.heap.size = sz ∧ va_P (dC, dI) vwCl (XW ax kx vx fx gx rx) U.heap ∧ va_K (dC, dI) vwCl (XT kx) U ∧ va_D (fun _ => True) (XW ax kx vx fx gx rx) ∧ nzA U)) (va_Qi (fun (r : Int32) (u : Int32) => r = u) (fun r t => XB dC dI ax kx vx fx gx rx sz (fun v f g => (r, v, f, g) = xs_deed vx fx gx p1 p2) t) (va_A (XW ax kx vx fx gx rx) sz)) 0 0 (va_A (XW ax kx vx fx gx rx) sz) := by
  have hC : List.map (fun i => (XW ax kx vx fx gx rx)[i]?) [0, 4, 7] = ([((ax 0), .inr (11, [.ref (ax 1), .ref (ax 4), .ref (ax 8), .ref (ax 16), .ref (ax 19), .ref (ax 27), .ref (ax 35), .ref (ax 39), .ref (ax 42), .ref (ax 45), .ref (ax 46), .int (vx 0), .int (vx 1), .int (vx 2), .int (vx 3), .int (vx 4)])), ((ax 4), .inr (0, [.int (vx 11), .int (vx 12), .int (vx 13), .int (vx 14), .int (vx 15), .int (vx 16), .int (vx 17), .int (vx 18), .int (vx 19), .int (vx 20), .ref (ax 5), .ref (ax 6), .ref (ax 7)])), ((ax 7), .inl ((kx 3), 8, .inr (.inr (.inr (.inr (fun i => some (rx 2 i)))))))] : va_W).map some := (gz_ixL (gz_ixL (gz_ixL (gz_ixL (gz_ixL (gz_ixL (gz_ixL (gz_ixL (gz_ixL rfl)))))))))
  have hCF0 : List.map (fun i => (XW ax kx vx fx gx rx)[i]?) ([] ++ List.range' 77 8) = ((([] : va_W) ++ (gz_fam 8 (rx 2) 2 (fun i => [.int ((fx 30) i), .int ((fx 31) i), .int ((fx 32) i), .int ((fx 33) i)]))) : va_W).map some := (gz_ixapp (gz_ixL (gz_ixL (gz_ixL (gz_ixL (gz_ixL (gz_ixL (gz_ixL (gz_ixL (gz_ixL rfl))))))))) (gz_ixL (gz_ixL (gz_ixL (gz_ixL (gz_ixL (gz_ixL (gz_ixR (m := 77) (by simp only [List.length_append, gz_famlen, List.length_cons, List.length_nil]) gz_ixSelf))))))))
  refine gz_mono (sX11_deed l dC dI (ax 0) (ax 4) (ax 7) (ax 1) (ax 8) (ax 16) (ax 19) (ax 27) (ax 35) (ax 39) (ax 42) (ax 45) (ax 46) (vx 0) (vx 1) (vx 2) (vx 3) (vx 4) (vx 11) (vx 12) (vx 13) (vx 14) (vx 15) (vx 16) (vx 17) (vx 18) (vx 19) (vx 20) (ax 5) (ax 6) (kx 3) (rx 2) (fx 30) (fx 31) (fx 32) (fx 33) p1 p2 hI.1 hI.2.1 hI.2.2.1 hI.2.2.2.1 hI.2.2.2.2.2.2.2.2.1 hI.2.2.2.2.2.2.2.2.2.1 hI.2.2.2.2.2.2.2.2.2.2.1 hI.2.2.2.2.2.2.2.2.2.2.2.1 hI.2.2.2.2.2.2.2.2.2.2.2.2.1 hI.2.2.2.2.2.2.2.2.2.2.2.2.2.1 hI.2.2.2.2.2.2.2.2.2.2.2.2.2.2.1 hI.2.2.2.2.2.2.2.2.2.2.2.2.2.2.2.2.2.2.2.2.2.2.2.2.2.2.2.2.2.2.2.2.2.2.2.2.2.2.2.2.2.2.2.2.2.2.2.2.2.2.2.2.1 hI.2.2.2.2.2.2.2.2.2.2.2.2.2.2.2.2.2.2.2.2.2.2.2.2.2.2.2.2.2.2.2.2.2.2.2.2.2.2.2.2.2.2.2.2.2.2.2.2.2.2.2.2.2.1 hI.2.2.2.2.2.2.2.2.2.2.2.2.2.2.2.2.2.2.2.2.2.2.2.2.2.2.2.2.2.2.2.2.2.2.2.2.2.2.2.2.2.2.2.2.2.2.2.2.2.2.2.2.2.2.1) ?_ ?_ ?_
  · rintro args s ⟨rfl, hsz, hP, hK, hD, hz⟩
    exact ⟨rfl, (gz_sub hP [0, 4, 7] hC), hK.sub [3] rfl, hz, (gz_sub hP ([] ++ List.range' 77 8) hCF0)⟩
  · rintro args s o t ⟨rfl, hsz, hP, hK, hD, hz⟩ ⟨⟨r, u, ho, hw, hB⟩, hF⟩
    subst hsz
    exact ⟨⟨r, r, ho, rfl, ax, kx, vx, fx, gx, rx, fun U h => h, rfl, hI, congrArg (xt_deed vx fx gx) hw.2, gz_keep hP hF.2, hD.self⟩, hF.1, fun q h1 h2 => hF.2 q h1 (fun h => h.elim)⟩
  · exact fun q h => h.elim
noncomputable def xt_early (vx : Nat → Int32) (fx : Nat → Nat → Int32) (gx : Nat → Nat → Int64) (o : Int32) : Int32 × (Nat → Int32) × (Nat → Nat → Int32) × (Nat → Nat → Int64) := (o, vx, fx, gx)
noncomputable def xs_early (vx : Nat → Int32) (fx : Nat → Nat → Int32) (gx : Nat → Nat → Int64) (p1 : Int32) : Int32 × (Nat → Int32) × (Nat → Nat → Int32) × (Nat → Nat → Int64) := xt_early vx fx gx (fX11_early (vx 11) (vx 15) (vx 16) (vx 17) p1)
set_option maxHeartbeats 4000000 in
set_option maxRecDepth 100000 in
theorem uX11_early (l : Launch) (dC : Nat → ClassId) (dI : Nat → Nat → Nat) (sz : Nat) (ax : Nat → Nat) (kx : Nat → ClassId) (vx : Nat → Int32) (fx : Nat → Nat → Int32) (gx : Nat → Nat → Int64) (rx : Nat → Nat → Nat) (hI : XI vx fx) (p1 : Int32) : Met l yX11_early (.code yX11_early cX11_early 2 (some .int) :: wsGA) ({ frames := 2, cells := 0, slots := 0, locals := 43 }) (va_Pc [.ref (ax 0), .int p1] (fun U => U.heap.size = sz ∧ va_P (dC, dI) vwCl (XW ax kx vx fx gx rx) U.heap ∧ va_K (dC, dI) vwCl (XT kx) U ∧ va_D (fun _ => True) (XW ax kx vx fx gx rx) ∧ nzA U)) (va_Qi (fun (r : Int32) (u : Int32) => r = u) (fun r t => XB dC dI ax kx vx fx gx rx sz (fun v f g => (r, v, f, g) = xs_early vx fx gx p1) t) (va_A (XW ax kx vx fx gx rx) sz)) 0 0 (va_A (XW ax kx vx fx gx rx) sz) := by
  have hC : List.map (fun i => (XW ax kx vx fx gx rx)[i]?) [0, 4] = ([((ax 0), .inr (11, [.ref (ax 1), .ref (ax 4), .ref (ax 8), .ref (ax 16), .ref (ax 19), .ref (ax 27), .ref (ax 35), .ref (ax 39), .ref (ax 42), .ref (ax 45), .ref (ax 46), .int (vx 0), .int (vx 1), .int (vx 2), .int (vx 3), .int (vx 4)])), ((ax 4), .inr (0, [.int (vx 11), .int (vx 12), .int (vx 13), .int (vx 14), .int (vx 15), .int (vx 16), .int (vx 17), .int (vx 18), .int (vx 19), .int (vx 20), .ref (ax 5), .ref (ax 6), .ref (ax 7)]))] : va_W).map some := (gz_ixL (gz_ixL (gz_ixL (gz_ixL (gz_ixL (gz_ixL (gz_ixL (gz_ixL (gz_ixL rfl)))))))))
  refine gz_mono (sX11_early l dC dI (ax 0) (ax 4) (ax 1) (ax 8) (ax 16) (ax 19) (ax 27) (ax 35) (ax 39) (ax 42) (ax 45) (ax 46) (vx 0) (vx 1) (vx 2) (vx 3) (vx 4) (vx 11) (vx 12) (vx 13) (vx 14) (vx 15) (vx 16) (vx 17) (vx 18) (vx 19) (vx 20) (ax 5) (ax 6) (ax 7) p1 hI.1 hI.2.1 hI.2.2.1 hI.2.2.2.1 hI.2.2.2.2.2.2.2.2.1 hI.2.2.2.2.2.2.2.2.2.1 hI.2.2.2.2.2.2.2.2.2.2.1 hI.2.2.2.2.2.2.2.2.2.2.2.1 hI.2.2.2.2.2.2.2.2.2.2.2.2.1 hI.2.2.2.2.2.2.2.2.2.2.2.2.2.1 hI.2.2.2.2.2.2.2.2.2.2.2.2.2.2.1) ?_ ?_ ?_
  · rintro args s ⟨rfl, hsz, hP, hK, hD, hz⟩
    exact ⟨rfl, (gz_sub hP [0, 4] hC), hK.sub [] rfl, hz⟩
  · rintro args s o t ⟨rfl, hsz, hP, hK, hD, hz⟩ ⟨⟨r, u, ho, hw, hB⟩, hF⟩
    subst hsz
    exact ⟨⟨r, r, ho, rfl, ax, kx, vx, fx, gx, rx, fun U h => h, rfl, hI, congrArg (xt_early vx fx gx) hw.2, gz_keep hP hF.2, hD.self⟩, hF.1, fun q h1 h2 => hF.2 q h1 (fun h => h.elim)⟩
  · exact fun q h => h.elim
set_option maxHeartbeats 4000000 in
set_option maxRecDepth 100000 in
theorem uX11_judged (l : Launch) (dC : Nat → ClassId) (dI : Nat → Nat → Nat) (sz : Nat) (ax : Nat → Nat) (kx : Nat → ClassId) (vx : Nat → Int32) (fx : Nat → Nat → Int32) (gx : Nat → Nat → Int64) (rx : Nat → Nat → Nat) (hI : XI vx fx) (p1 : Int32) (p2 : Int32) : Met l yX11_judged (.code yX11_judged cX11_judged 3 (some .int) :: wsGA) ({ frames := 5, cells := 0, slots := 0, locals := 117 }) (va_Pc [.ref (ax 0), .int p1, .int p2] (fun U => U.heap.size = sz ∧ va_P (dC, dI) vwCl (XW ax kx vx fx gx rx) U.heap ∧ va_K (dC, dI) vwCl (XT kx) U ∧ va_D (fun _ => True) (XW ax kx vx fx gx rx) ∧ nzA U)) (va_Qi (fun (r : Int32) (u : Unit) => True) (fun _ t => XB dC dI ax kx vx fx gx rx sz (fun v f g => styX vx fx v f) t) (va_A (XW ax kx vx fx gx rx) sz)) 0 0 (va_A (XW ax kx vx fx gx rx) sz) := by
  have hC : List.map (fun i => (XW ax kx vx fx gx rx)[i]?) [0, 19, 20, 21, 22, 23, 24, 25, 26] = ([((ax 0), .inr (11, [.ref (ax 1), .ref (ax 4), .ref (ax 8), .ref (ax 16), .ref (ax 19), .ref (ax 27), .ref (ax 35), .ref (ax 39), .ref (ax 42), .ref (ax 45), .ref (ax 46), .int (vx 0), .int (vx 1), .int (vx 2), .int (vx 3), .int (vx 4)])), ((ax 19), .inr (1, [.ref (ax 24), .ref (ax 20), .ref (ax 21), .ref (ax 22), .ref (ax 23), .int (vx 44), .int (vx 45)])), ((ax 20), .inl ((kx 12), 24, .inl (fx 3))), ((ax 21), .inl ((kx 13), 24, .inl (fx 4))), ((ax 22), .inl ((kx 14), 24, .inr (.inl (gx 0)))), ((ax 23), .inl ((kx 15), 25, .inl (fx 5))), ((ax 24), .inr (3, [.int (vx 46), .int (vx 47), .int (vx 48), .ref (ax 25), .ref (ax 26)])), ((ax 25), .inl ((kx 16), 25, .inl (fx 6))), ((ax 26), .inl ((kx 17), 275, .inl (fx 7)))] : va_W).map some := (gz_ixL (gz_ixL (gz_ixL (gz_ixL (gz_ixL (gz_ixL (gz_ixL (gz_ixL (gz_ixL rfl)))))))))
  have hnd : va_nd [0, 19, 20, 21, 22, 23, 24, 25, 26] = true := (by decide +kernel)
  have hCR : List.map (fun i => (XW ax kx vx fx gx rx)[i]?) [4, 5, 6] = ([((ax 4), .inr (0, [.int (vx 11), .int (vx 12), .int (vx 13), .int (vx 14), .int (vx 15), .int (vx 16), .int (vx 17), .int (vx 18), .int (vx 19), .int (vx 20), .ref (ax 5), .ref (ax 6), .ref (ax 7)])), ((ax 5), .inl ((kx 1), 6, .inr (.inr (.inr (.inr (fun i => some (rx 0 i))))))), ((ax 6), .inl ((kx 2), 24, .inr (.inr (.inr (.inr (fun i => some (rx 1 i)))))))] : va_W).map some := (gz_ixL (gz_ixL (gz_ixL (gz_ixL (gz_ixL (gz_ixL (gz_ixL (gz_ixL (gz_ixL rfl)))))))))
  have hCF0 : List.map (fun i => (XW ax kx vx fx gx rx)[i]?) ([] ++ List.range' 47 6) = ((([] : va_W) ++ (gz_fam 6 (rx 0) 5 (fun i => [.int ((fx 22) i), .int ((fx 23) i)]))) : va_W).map some := (gz_ixapp (gz_ixL (gz_ixL (gz_ixL (gz_ixL (gz_ixL (gz_ixL (gz_ixL (gz_ixL (gz_ixL rfl))))))))) (gz_ixL (gz_ixL (gz_ixL (gz_ixL (gz_ixL (gz_ixL (gz_ixL (gz_ixL (gz_ixR (m := 47) (by simp only [List.length_append, gz_famlen, List.length_cons, List.length_nil]) gz_ixSelf))))))))))
  have hCF1 : List.map (fun i => (XW ax kx vx fx gx rx)[i]?) ([] ++ List.range' 53 24) = ((([] : va_W) ++ (gz_fam 24 (rx 1) 7 (fun i => [.int ((fx 24) i), .int ((fx 25) i), .int ((fx 26) i), .int ((fx 27) i), .int ((fx 28) i), .int ((fx 29) i)]))) : va_W).map some := (gz_ixapp (gz_ixL (gz_ixL (gz_ixL (gz_ixL (gz_ixL (gz_ixL (gz_ixL (gz_ixL (gz_ixL rfl))))))))) (gz_ixL (gz_ixL (gz_ixL (gz_ixL (gz_ixL (gz_ixL (gz_ixL (gz_ixR (m := 53) (by simp only [List.length_append, gz_famlen, List.length_cons, List.length_nil]) gz_ixSelf)))))))))
  refine gz_mono (sX11_judged l dC dI sz (ax 0) (ax 19) (ax 20) (ax 21) (ax 22) (ax 23) (ax 24) (ax 25) (ax 26) (ax 4) (ax 5) (ax 6) (ax 1) (ax 8) (ax 16) (ax 27) (ax 35) (ax 39) (ax 42) (ax 45) (ax 46) (vx 0) (vx 1) (vx 2) (vx 3) (vx 4) (vx 44) (vx 45) (kx 12) (fx 3) (kx 13) (fx 4) (kx 14) (gx 0) (kx 15) (fx 5) (vx 46) (vx 47) (vx 48) (kx 16) (fx 6) (kx 17) (fx 7) (vx 11) (vx 12) (vx 13) (vx 14) (vx 15) (vx 16) (vx 17) (vx 18) (vx 19) (vx 20) (ax 7) (kx 1) (kx 2) (rx 0) (fx 22) (fx 23) (rx 1) (fx 24) (fx 25) (fx 26) (fx 27) (fx 28) (fx 29) p1 p2 hI.1 hI.2.1 hI.2.2.1 hI.2.2.2.1 hI.2.2.2.2.2.2.2.2.2.2.2.2.2.2.2.2.2.2.2.2.2.2.2.2.2.2.2.2.2.2.2.2.1 hI.2.2.2.2.2.2.2.2.2.2.2.2.2.2.2.2.2.2.2.2.2.2.2.2.2.2.2.2.2.2.2.2.2.1 hI.2.2.2.2.2.2.2.2.2.2.2.2.2.2.2.2.2.2.2.2.2.2.2.2.2.2.2.2.2.2.2.2.2.2.1 hI.2.2.2.2.2.2.2.2.2.2.2.2.2.2.2.2.2.2.2.2.2.2.2.2.2.2.2.2.2.2.2.2.2.2.2.1 hI.2.2.2.2.2.2.2.2.2.2.2.2.2.2.2.2.2.2.2.2.2.2.2.2.2.2.2.2.2.2.2.2.2.2.2.2.1 hI.2.2.2.2.2.2.2.2.1 hI.2.2.2.2.2.2.2.2.2.1 hI.2.2.2.2.2.2.2.2.2.2.1 hI.2.2.2.2.2.2.2.2.2.2.2.1 hI.2.2.2.2.2.2.2.2.2.2.2.2.1 hI.2.2.2.2.2.2.2.2.2.2.2.2.2.1 hI.2.2.2.2.2.2.2.2.2.2.2.2.2.2.1 hI.2.2.2.2.2.2.2.2.2.2.2.2.2.2.2.2.2.2.2.2.2.2.2.2.2.2.2.2.2.2.2.2.2.2.2.2.2.2.2.2.2.2.2.2.2.2.2.2.2.1 hI.2.2.2.2.2.2.2.2.2.2.2.2.2.2.2.2.2.2.2.2.2.2.2.2.2.2.2.2.2.2.2.2.2.2.2.2.2.2.2.2.2.2.2.2.2.2.2.2.2.2.1 hI.2.2.2.2.2.2.2.2.2.2.2.2.2.2.2.2.2.2.2.2.2.2.2.2.2.2.2.2.2.2.2.2.2.2.2.2.2.2.2.2.2.2.2.2.2.2.2.2.2.2.2.1) ?_ ?_ ?_
  · rintro args s ⟨rfl, hsz, hP, hK, hD, hz⟩
    exact ⟨rfl, hsz, (gz_sub hP [0, 19, 20, 21, 22, 23, 24, 25, 26] hC), hK.sub [12, 13, 14, 15, 16, 17, 1, 2] rfl, hD.sub [0, 19, 20, 21, 22, 23, 24, 25, 26] hnd hC, hz, (gz_sub hP [4, 5, 6] hCR), (gz_ap_of hsz hD hP [0, 19, 20, 21, 22, 23, 24, 25, 26] [4, 5, 6] hC hCR (by decide +kernel)), (gz_sub hP ([] ++ List.range' 47 6) hCF0), (gz_ap_of hsz hD hP [0, 19, 20, 21, 22, 23, 24, 25, 26] ([] ++ List.range' 47 6) hC hCF0 (by decide +kernel)), (gz_sub hP ([] ++ List.range' 53 24) hCF1), (gz_ap_of hsz hD hP [0, 19, 20, 21, 22, 23, 24, 25, 26] ([] ++ List.range' 53 24) hC hCF1 (by decide +kernel))⟩
  · rintro args s o t ⟨rfl, hsz, hP, hK, hD, hz⟩ ⟨⟨r, u, ho, hw, hB⟩, hF⟩
    obtain ⟨w0_12, w0_13, w0_14, w1_5, w1_6, w6_0, w6_1, w6_2, z2, z3, z4, z5, z7, z8, hB⟩ := hB
    obtain ⟨gw0_12, gw0_14, gw1_5, gw6_0, gw6_1, gw6_2, gz3, hP1, hD1⟩ := hB
    subst hsz
    have hD0 := hD.self (sz := s.heap.size)
    have hFr := gz_freeS (n := s.heap.size) [0, 19, 20, 21, 22, 23, 24, 25, 26] hC
    obtain ⟨hP2, hD2⟩ := va_join (wr := (([((ax 1), .inr (6, [.ref (ax 2), .ref (ax 12), .int (vx 5), .int (vx 6), .int (vx 7), .int (vx 8), .int (vx 9)])), ((ax 2), .inr (10, [.ref (ax 3), .int (vx 10)])), ((ax 3), .inl ((kx 0), 1600, .inl (fx 0))), ((ax 4), .inr (0, [.int (vx 11), .int (vx 12), .int (vx 13), .int (vx 14), .int (vx 15), .int (vx 16), .int (vx 17), .int (vx 18), .int (vx 19), .int (vx 20), .ref (ax 5), .ref (ax 6), .ref (ax 7)])), ((ax 5), .inl ((kx 1), 6, .inr (.inr (.inr (.inr (fun i => some (rx 0 i))))))), ((ax 6), .inl ((kx 2), 24, .inr (.inr (.inr (.inr (fun i => some (rx 1 i))))))), ((ax 7), .inl ((kx 3), 8, .inr (.inr (.inr (.inr (fun i => some (rx 2 i))))))), ((ax 8), .inr (0, [.int (vx 21), .int (vx 22), .int (vx 23), .int (vx 24), .int (vx 25), .int (vx 26), .int (vx 27), .int (vx 28), .int (vx 29), .int (vx 30), .ref (ax 9), .ref (ax 10), .ref (ax 11)])), ((ax 9), .inl ((kx 4), 6, .inr (.inr (.inr (.inr (fun i => some (rx 3 i))))))), ((ax 10), .inl ((kx 5), 24, .inr (.inr (.inr (.inr (fun i => some (rx 4 i))))))), ((ax 11), .inl ((kx 6), 8, .inr (.inr (.inr (.inr (fun i => some (rx 5 i))))))), ((ax 12), .inr (0, [.int (vx 31), .int (vx 32), .int (vx 33), .int (vx 34), .int (vx 35), .int (vx 36), .int (vx 37), .int (vx 38), .int (vx 39), .int (vx 40), .ref (ax 13), .ref (ax 14), .ref (ax 15)])), ((ax 13), .inl ((kx 7), 6, .inr (.inr (.inr (.inr (fun i => some (rx 6 i))))))), ((ax 14), .inl ((kx 8), 24, .inr (.inr (.inr (.inr (fun i => some (rx 7 i))))))), ((ax 15), .inl ((kx 9), 8, .inr (.inr (.inr (.inr (fun i => some (rx 8 i))))))), ((ax 16), .inr (3, [.int (vx 41), .int (vx 42), .int (vx 43), .ref (ax 17), .ref (ax 18)])), ((ax 17), .inl ((kx 10), 25, .inl (fx 1))), ((ax 18), .inl ((kx 11), 275, .inl (fx 2))), ((ax 27), .inr (1, [.ref (ax 32), .ref (ax 28), .ref (ax 29), .ref (ax 30), .ref (ax 31), .int (vx 49), .int (vx 50)])), ((ax 28), .inl ((kx 18), 24, .inl (fx 8))), ((ax 29), .inl ((kx 19), 24, .inl (fx 9))), ((ax 30), .inl ((kx 20), 24, .inr (.inl (gx 1)))), ((ax 31), .inl ((kx 21), 25, .inl (fx 10))), ((ax 32), .inr (3, [.int (vx 51), .int (vx 52), .int (vx 53), .ref (ax 33), .ref (ax 34)])), ((ax 33), .inl ((kx 22), 25, .inl (fx 11))), ((ax 34), .inl ((kx 23), 275, .inl (fx 12))), ((ax 35), .inr (9, [.ref (ax 36), .ref (ax 37), .ref (ax 38), .int (vx 54), .int (vx 55), .int (vx 56)])), ((ax 36), .inl ((kx 24), 3575, .inl (fx 13))), ((ax 37), .inl ((kx 25), 3575, .inl (fx 14))), ((ax 38), .inl ((kx 26), 325, .inl (fx 15))), ((ax 39), .inr (8, [.ref (ax 40), .ref (ax 41), .int (vx 57), .int (vx 58), .int (vx 59)])), ((ax 40), .inl ((kx 27), 325, .inl (fx 16))), ((ax 41), .inl ((kx 28), 3575, .inl (fx 17))), ((ax 42), .inr (4, [.ref (ax 43), .ref (ax 44), .int (vx 60)])), ((ax 43), .inl ((kx 29), 25, .inl (fx 18))), ((ax 44), .inl ((kx 30), 625, .inl (fx 19))), ((ax 45), .inl ((kx 31), 25, .inl (fx 20))), ((ax 46), .inl ((kx 32), 72, .inl (fx 21)))] : va_W) ++ (gz_fam 6 (rx 0) 5 (fun i => [.int ((fx 22) i), .int ((fx 23) i)])) ++ (gz_fam 24 (rx 1) 7 (fun i => [.int ((fx 24) i), .int ((fx 25) i), .int ((fx 26) i), .int ((fx 27) i), .int ((fx 28) i), .int ((fx 29) i)])) ++ (gz_fam 8 (rx 2) 2 (fun i => [.int ((fx 30) i), .int ((fx 31) i), .int ((fx 32) i), .int ((fx 33) i)])) ++ (gz_fam 6 (rx 3) 5 (fun i => [.int ((fx 34) i), .int ((fx 35) i)])) ++ (gz_fam 24 (rx 4) 7 (fun i => [.int ((fx 36) i), .int ((fx 37) i), .int ((fx 38) i), .int ((fx 39) i), .int ((fx 40) i), .int ((fx 41) i)])) ++ (gz_fam 8 (rx 5) 2 (fun i => [.int ((fx 42) i), .int ((fx 43) i), .int ((fx 44) i), .int ((fx 45) i)])) ++ (gz_fam 6 (rx 6) 5 (fun i => [.int ((fx 46) i), .int ((fx 47) i)])) ++ (gz_fam 24 (rx 7) 7 (fun i => [.int ((fx 48) i), .int ((fx 49) i), .int ((fx 50) i), .int ((fx 51) i), .int ((fx 52) i), .int ((fx 53) i)])) ++ (gz_fam 8 (rx 8) 2 (fun i => [.int ((fx 54) i), .int ((fx 55) i), .int ((fx 56) i), .int ((fx 57) i)])))) (w1 := [((ax 0), .inr (11, [.ref (ax 1), .ref (ax 4), .ref (ax 8), .ref (ax 16), .ref (ax 19), .ref (ax 27), .ref (ax 35), .ref (ax 39), .ref (ax 42), .ref (ax 45), .ref (ax 46), .int (vx 0), .int w0_12, .int w0_13, .int w0_14, .int (vx 4)])), ((ax 19), .inr (1, [.ref (ax 24), .ref (ax 20), .ref (ax 21), .ref (ax 22), .ref (ax 23), .int w1_5, .int w1_6])), ((ax 20), .inl ((kx 12), 24, .inl z2)), ((ax 21), .inl ((kx 13), 24, .inl z3)), ((ax 22), .inl ((kx 14), 24, .inr (.inl z4))), ((ax 23), .inl ((kx 15), 25, .inl z5)), ((ax 24), .inr (3, [.int w6_0, .int w6_1, .int w6_2, .ref (ax 25), .ref (ax 26)])), ((ax 25), .inl ((kx 16), 25, .inl z7)), ((ax 26), .inl ((kx 17), 275, .inl z8))]) hP hD0 [0, 19, 20, 21, 22, 23, 24, 25, 26] ([1, 2, 3, 4, 5, 6, 7, 8, 9, 10, 11, 12, 13, 14, 15, 16, 17, 18, 27, 28, 29, 30, 31, 32, 33, 34, 35, 36, 37, 38, 39, 40, 41, 42, 43, 44, 45, 46] ++ List.range' 47 6 ++ List.range' 53 24 ++ List.range' 77 8 ++ List.range' 85 6 ++ List.range' 91 24 ++ List.range' 115 8 ++ List.range' 123 6 ++ List.range' 129 24 ++ List.range' 153 8) hC (gz_ixapp (gz_ixapp (gz_ixapp (gz_ixapp (gz_ixapp (gz_ixapp (gz_ixapp (gz_ixapp (gz_ixapp (gz_ixL (gz_ixL (gz_ixL (gz_ixL (gz_ixL (gz_ixL (gz_ixL (gz_ixL (gz_ixL rfl))))))))) (gz_ixL (gz_ixL (gz_ixL (gz_ixL (gz_ixL (gz_ixL (gz_ixL (gz_ixL (gz_ixR (m := 47) (by simp only [List.length_append, gz_famlen, List.length_cons, List.length_nil]) gz_ixSelf)))))))))) (gz_ixL (gz_ixL (gz_ixL (gz_ixL (gz_ixL (gz_ixL (gz_ixL (gz_ixR (m := 53) (by simp only [List.length_append, gz_famlen, List.length_cons, List.length_nil]) gz_ixSelf))))))))) (gz_ixL (gz_ixL (gz_ixL (gz_ixL (gz_ixL (gz_ixL (gz_ixR (m := 77) (by simp only [List.length_append, gz_famlen, List.length_cons, List.length_nil]) gz_ixSelf)))))))) (gz_ixL (gz_ixL (gz_ixL (gz_ixL (gz_ixL (gz_ixR (m := 85) (by simp only [List.length_append, gz_famlen, List.length_cons, List.length_nil]) gz_ixSelf))))))) (gz_ixL (gz_ixL (gz_ixL (gz_ixL (gz_ixR (m := 91) (by simp only [List.length_append, gz_famlen, List.length_cons, List.length_nil]) gz_ixSelf)))))) (gz_ixL (gz_ixL (gz_ixL (gz_ixR (m := 115) (by simp only [List.length_append, gz_famlen, List.length_cons, List.length_nil]) gz_ixSelf))))) (gz_ixL (gz_ixL (gz_ixR (m := 123) (by simp only [List.length_append, gz_famlen, List.length_cons, List.length_nil]) gz_ixSelf)))) (gz_ixL (gz_ixR (m := 129) (by simp only [List.length_append, gz_famlen, List.length_cons, List.length_nil]) gz_ixSelf))) (gz_ixR (m := 153) (by simp only [List.length_append, gz_famlen, List.length_cons, List.length_nil]) gz_ixSelf)) (by decide +kernel) (by decide +kernel) hF.2 hFr hP1 hD1
    have hN := gz_sub (gw_PA (gw_PR hP2) (gw_PL (gw_PL (gw_PL (gw_PL (gw_PL (gw_PL (gw_PL (gw_PL (gw_PL (gw_PL hP2))))))))))) (ws' := [((ax 0), .inr (11, [.ref (ax 1), .ref (ax 4), .ref (ax 8), .ref (ax 16), .ref (ax 19), .ref (ax 27), .ref (ax 35), .ref (ax 39), .ref (ax 42), .ref (ax 45), .ref (ax 46), .int (vx 0), .int w0_12, .int w0_13, .int w0_14, .int (vx 4)])), ((ax 1), .inr (6, [.ref (ax 2), .ref (ax 12), .int (vx 5), .int (vx 6), .int (vx 7), .int (vx 8), .int (vx 9)])), ((ax 2), .inr (10, [.ref (ax 3), .int (vx 10)])), ((ax 3), .inl ((kx 0), 1600, .inl (fx 0))), ((ax 4), .inr (0, [.int (vx 11), .int (vx 12), .int (vx 13), .int (vx 14), .int (vx 15), .int (vx 16), .int (vx 17), .int (vx 18), .int (vx 19), .int (vx 20), .ref (ax 5), .ref (ax 6), .ref (ax 7)])), ((ax 5), .inl ((kx 1), 6, .inr (.inr (.inr (.inr (fun i => some (rx 0 i))))))), ((ax 6), .inl ((kx 2), 24, .inr (.inr (.inr (.inr (fun i => some (rx 1 i))))))), ((ax 7), .inl ((kx 3), 8, .inr (.inr (.inr (.inr (fun i => some (rx 2 i))))))), ((ax 8), .inr (0, [.int (vx 21), .int (vx 22), .int (vx 23), .int (vx 24), .int (vx 25), .int (vx 26), .int (vx 27), .int (vx 28), .int (vx 29), .int (vx 30), .ref (ax 9), .ref (ax 10), .ref (ax 11)])), ((ax 9), .inl ((kx 4), 6, .inr (.inr (.inr (.inr (fun i => some (rx 3 i))))))), ((ax 10), .inl ((kx 5), 24, .inr (.inr (.inr (.inr (fun i => some (rx 4 i))))))), ((ax 11), .inl ((kx 6), 8, .inr (.inr (.inr (.inr (fun i => some (rx 5 i))))))), ((ax 12), .inr (0, [.int (vx 31), .int (vx 32), .int (vx 33), .int (vx 34), .int (vx 35), .int (vx 36), .int (vx 37), .int (vx 38), .int (vx 39), .int (vx 40), .ref (ax 13), .ref (ax 14), .ref (ax 15)])), ((ax 13), .inl ((kx 7), 6, .inr (.inr (.inr (.inr (fun i => some (rx 6 i))))))), ((ax 14), .inl ((kx 8), 24, .inr (.inr (.inr (.inr (fun i => some (rx 7 i))))))), ((ax 15), .inl ((kx 9), 8, .inr (.inr (.inr (.inr (fun i => some (rx 8 i))))))), ((ax 16), .inr (3, [.int (vx 41), .int (vx 42), .int (vx 43), .ref (ax 17), .ref (ax 18)])), ((ax 17), .inl ((kx 10), 25, .inl (fx 1))), ((ax 18), .inl ((kx 11), 275, .inl (fx 2))), ((ax 19), .inr (1, [.ref (ax 24), .ref (ax 20), .ref (ax 21), .ref (ax 22), .ref (ax 23), .int w1_5, .int w1_6])), ((ax 20), .inl ((kx 12), 24, .inl z2)), ((ax 21), .inl ((kx 13), 24, .inl z3)), ((ax 22), .inl ((kx 14), 24, .inr (.inl z4))), ((ax 23), .inl ((kx 15), 25, .inl z5)), ((ax 24), .inr (3, [.int w6_0, .int w6_1, .int w6_2, .ref (ax 25), .ref (ax 26)])), ((ax 25), .inl ((kx 16), 25, .inl z7)), ((ax 26), .inl ((kx 17), 275, .inl z8)), ((ax 27), .inr (1, [.ref (ax 32), .ref (ax 28), .ref (ax 29), .ref (ax 30), .ref (ax 31), .int (vx 49), .int (vx 50)])), ((ax 28), .inl ((kx 18), 24, .inl (fx 8))), ((ax 29), .inl ((kx 19), 24, .inl (fx 9))), ((ax 30), .inl ((kx 20), 24, .inr (.inl (gx 1)))), ((ax 31), .inl ((kx 21), 25, .inl (fx 10))), ((ax 32), .inr (3, [.int (vx 51), .int (vx 52), .int (vx 53), .ref (ax 33), .ref (ax 34)])), ((ax 33), .inl ((kx 22), 25, .inl (fx 11))), ((ax 34), .inl ((kx 23), 275, .inl (fx 12))), ((ax 35), .inr (9, [.ref (ax 36), .ref (ax 37), .ref (ax 38), .int (vx 54), .int (vx 55), .int (vx 56)])), ((ax 36), .inl ((kx 24), 3575, .inl (fx 13))), ((ax 37), .inl ((kx 25), 3575, .inl (fx 14))), ((ax 38), .inl ((kx 26), 325, .inl (fx 15))), ((ax 39), .inr (8, [.ref (ax 40), .ref (ax 41), .int (vx 57), .int (vx 58), .int (vx 59)])), ((ax 40), .inl ((kx 27), 325, .inl (fx 16))), ((ax 41), .inl ((kx 28), 3575, .inl (fx 17))), ((ax 42), .inr (4, [.ref (ax 43), .ref (ax 44), .int (vx 60)])), ((ax 43), .inl ((kx 29), 25, .inl (fx 18))), ((ax 44), .inl ((kx 30), 625, .inl (fx 19))), ((ax 45), .inl ((kx 31), 25, .inl (fx 20))), ((ax 46), .inl ((kx 32), 72, .inl (fx 21)))]) [0, 9, 10, 11, 12, 13, 14, 15, 16, 17, 18, 19, 20, 21, 22, 23, 24, 25, 26, 1, 2, 3, 4, 5, 6, 7, 8, 27, 28, 29, 30, 31, 32, 33, 34, 35, 36, 37, 38, 39, 40, 41, 42, 43, 44, 45, 46] rfl
    have hP3 : va_P (dC, dI) vwCl (([((ax 0), .inr (11, [.ref (ax 1), .ref (ax 4), .ref (ax 8), .ref (ax 16), .ref (ax 19), .ref (ax 27), .ref (ax 35), .ref (ax 39), .ref (ax 42), .ref (ax 45), .ref (ax 46), .int (vx 0), .int w0_12, .int w0_13, .int w0_14, .int (vx 4)])), ((ax 1), .inr (6, [.ref (ax 2), .ref (ax 12), .int (vx 5), .int (vx 6), .int (vx 7), .int (vx 8), .int (vx 9)])), ((ax 2), .inr (10, [.ref (ax 3), .int (vx 10)])), ((ax 3), .inl ((kx 0), 1600, .inl (fx 0))), ((ax 4), .inr (0, [.int (vx 11), .int (vx 12), .int (vx 13), .int (vx 14), .int (vx 15), .int (vx 16), .int (vx 17), .int (vx 18), .int (vx 19), .int (vx 20), .ref (ax 5), .ref (ax 6), .ref (ax 7)])), ((ax 5), .inl ((kx 1), 6, .inr (.inr (.inr (.inr (fun i => some (rx 0 i))))))), ((ax 6), .inl ((kx 2), 24, .inr (.inr (.inr (.inr (fun i => some (rx 1 i))))))), ((ax 7), .inl ((kx 3), 8, .inr (.inr (.inr (.inr (fun i => some (rx 2 i))))))), ((ax 8), .inr (0, [.int (vx 21), .int (vx 22), .int (vx 23), .int (vx 24), .int (vx 25), .int (vx 26), .int (vx 27), .int (vx 28), .int (vx 29), .int (vx 30), .ref (ax 9), .ref (ax 10), .ref (ax 11)])), ((ax 9), .inl ((kx 4), 6, .inr (.inr (.inr (.inr (fun i => some (rx 3 i))))))), ((ax 10), .inl ((kx 5), 24, .inr (.inr (.inr (.inr (fun i => some (rx 4 i))))))), ((ax 11), .inl ((kx 6), 8, .inr (.inr (.inr (.inr (fun i => some (rx 5 i))))))), ((ax 12), .inr (0, [.int (vx 31), .int (vx 32), .int (vx 33), .int (vx 34), .int (vx 35), .int (vx 36), .int (vx 37), .int (vx 38), .int (vx 39), .int (vx 40), .ref (ax 13), .ref (ax 14), .ref (ax 15)])), ((ax 13), .inl ((kx 7), 6, .inr (.inr (.inr (.inr (fun i => some (rx 6 i))))))), ((ax 14), .inl ((kx 8), 24, .inr (.inr (.inr (.inr (fun i => some (rx 7 i))))))), ((ax 15), .inl ((kx 9), 8, .inr (.inr (.inr (.inr (fun i => some (rx 8 i))))))), ((ax 16), .inr (3, [.int (vx 41), .int (vx 42), .int (vx 43), .ref (ax 17), .ref (ax 18)])), ((ax 17), .inl ((kx 10), 25, .inl (fx 1))), ((ax 18), .inl ((kx 11), 275, .inl (fx 2))), ((ax 19), .inr (1, [.ref (ax 24), .ref (ax 20), .ref (ax 21), .ref (ax 22), .ref (ax 23), .int w1_5, .int w1_6])), ((ax 20), .inl ((kx 12), 24, .inl z2)), ((ax 21), .inl ((kx 13), 24, .inl z3)), ((ax 22), .inl ((kx 14), 24, .inr (.inl z4))), ((ax 23), .inl ((kx 15), 25, .inl z5)), ((ax 24), .inr (3, [.int w6_0, .int w6_1, .int w6_2, .ref (ax 25), .ref (ax 26)])), ((ax 25), .inl ((kx 16), 25, .inl z7)), ((ax 26), .inl ((kx 17), 275, .inl z8)), ((ax 27), .inr (1, [.ref (ax 32), .ref (ax 28), .ref (ax 29), .ref (ax 30), .ref (ax 31), .int (vx 49), .int (vx 50)])), ((ax 28), .inl ((kx 18), 24, .inl (fx 8))), ((ax 29), .inl ((kx 19), 24, .inl (fx 9))), ((ax 30), .inl ((kx 20), 24, .inr (.inl (gx 1)))), ((ax 31), .inl ((kx 21), 25, .inl (fx 10))), ((ax 32), .inr (3, [.int (vx 51), .int (vx 52), .int (vx 53), .ref (ax 33), .ref (ax 34)])), ((ax 33), .inl ((kx 22), 25, .inl (fx 11))), ((ax 34), .inl ((kx 23), 275, .inl (fx 12))), ((ax 35), .inr (9, [.ref (ax 36), .ref (ax 37), .ref (ax 38), .int (vx 54), .int (vx 55), .int (vx 56)])), ((ax 36), .inl ((kx 24), 3575, .inl (fx 13))), ((ax 37), .inl ((kx 25), 3575, .inl (fx 14))), ((ax 38), .inl ((kx 26), 325, .inl (fx 15))), ((ax 39), .inr (8, [.ref (ax 40), .ref (ax 41), .int (vx 57), .int (vx 58), .int (vx 59)])), ((ax 40), .inl ((kx 27), 325, .inl (fx 16))), ((ax 41), .inl ((kx 28), 3575, .inl (fx 17))), ((ax 42), .inr (4, [.ref (ax 43), .ref (ax 44), .int (vx 60)])), ((ax 43), .inl ((kx 29), 25, .inl (fx 18))), ((ax 44), .inl ((kx 30), 625, .inl (fx 19))), ((ax 45), .inl ((kx 31), 25, .inl (fx 20))), ((ax 46), .inl ((kx 32), 72, .inl (fx 21)))] : va_W) ++ (gz_fam 6 (rx 0) 5 (fun i => [.int ((fx 22) i), .int ((fx 23) i)])) ++ (gz_fam 24 (rx 1) 7 (fun i => [.int ((fx 24) i), .int ((fx 25) i), .int ((fx 26) i), .int ((fx 27) i), .int ((fx 28) i), .int ((fx 29) i)])) ++ (gz_fam 8 (rx 2) 2 (fun i => [.int ((fx 30) i), .int ((fx 31) i), .int ((fx 32) i), .int ((fx 33) i)])) ++ (gz_fam 6 (rx 3) 5 (fun i => [.int ((fx 34) i), .int ((fx 35) i)])) ++ (gz_fam 24 (rx 4) 7 (fun i => [.int ((fx 36) i), .int ((fx 37) i), .int ((fx 38) i), .int ((fx 39) i), .int ((fx 40) i), .int ((fx 41) i)])) ++ (gz_fam 8 (rx 5) 2 (fun i => [.int ((fx 42) i), .int ((fx 43) i), .int ((fx 44) i), .int ((fx 45) i)])) ++ (gz_fam 6 (rx 6) 5 (fun i => [.int ((fx 46) i), .int ((fx 47) i)])) ++ (gz_fam 24 (rx 7) 7 (fun i => [.int ((fx 48) i), .int ((fx 49) i), .int ((fx 50) i), .int ((fx 51) i), .int ((fx 52) i), .int ((fx 53) i)])) ++ (gz_fam 8 (rx 8) 2 (fun i => [.int ((fx 54) i), .int ((fx 55) i), .int ((fx 56) i), .int ((fx 57) i)]))) t.heap := (gw_PA (gw_PA (gw_PA (gw_PA (gw_PA (gw_PA (gw_PA (gw_PA (gw_PA hN (gw_PR (gw_PL (gw_PL (gw_PL (gw_PL (gw_PL (gw_PL (gw_PL (gw_PL (gw_PL hP2))))))))))) (gw_PR (gw_PL (gw_PL (gw_PL (gw_PL (gw_PL (gw_PL (gw_PL (gw_PL hP2)))))))))) (gw_PR (gw_PL (gw_PL (gw_PL (gw_PL (gw_PL (gw_PL (gw_PL hP2))))))))) (gw_PR (gw_PL (gw_PL (gw_PL (gw_PL (gw_PL (gw_PL hP2)))))))) (gw_PR (gw_PL (gw_PL (gw_PL (gw_PL (gw_PL hP2))))))) (gw_PR (gw_PL (gw_PL (gw_PL (gw_PL hP2)))))) (gw_PR (gw_PL (gw_PL (gw_PL hP2))))) (gw_PR (gw_PL (gw_PL hP2)))) (gw_PR (gw_PL hP2)))
    have hD3 : va_D _ (([((ax 0), .inr (11, [.ref (ax 1), .ref (ax 4), .ref (ax 8), .ref (ax 16), .ref (ax 19), .ref (ax 27), .ref (ax 35), .ref (ax 39), .ref (ax 42), .ref (ax 45), .ref (ax 46), .int (vx 0), .int w0_12, .int w0_13, .int w0_14, .int (vx 4)])), ((ax 1), .inr (6, [.ref (ax 2), .ref (ax 12), .int (vx 5), .int (vx 6), .int (vx 7), .int (vx 8), .int (vx 9)])), ((ax 2), .inr (10, [.ref (ax 3), .int (vx 10)])), ((ax 3), .inl ((kx 0), 1600, .inl (fx 0))), ((ax 4), .inr (0, [.int (vx 11), .int (vx 12), .int (vx 13), .int (vx 14), .int (vx 15), .int (vx 16), .int (vx 17), .int (vx 18), .int (vx 19), .int (vx 20), .ref (ax 5), .ref (ax 6), .ref (ax 7)])), ((ax 5), .inl ((kx 1), 6, .inr (.inr (.inr (.inr (fun i => some (rx 0 i))))))), ((ax 6), .inl ((kx 2), 24, .inr (.inr (.inr (.inr (fun i => some (rx 1 i))))))), ((ax 7), .inl ((kx 3), 8, .inr (.inr (.inr (.inr (fun i => some (rx 2 i))))))), ((ax 8), .inr (0, [.int (vx 21), .int (vx 22), .int (vx 23), .int (vx 24), .int (vx 25), .int (vx 26), .int (vx 27), .int (vx 28), .int (vx 29), .int (vx 30), .ref (ax 9), .ref (ax 10), .ref (ax 11)])), ((ax 9), .inl ((kx 4), 6, .inr (.inr (.inr (.inr (fun i => some (rx 3 i))))))), ((ax 10), .inl ((kx 5), 24, .inr (.inr (.inr (.inr (fun i => some (rx 4 i))))))), ((ax 11), .inl ((kx 6), 8, .inr (.inr (.inr (.inr (fun i => some (rx 5 i))))))), ((ax 12), .inr (0, [.int (vx 31), .int (vx 32), .int (vx 33), .int (vx 34), .int (vx 35), .int (vx 36), .int (vx 37), .int (vx 38), .int (vx 39), .int (vx 40), .ref (ax 13), .ref (ax 14), .ref (ax 15)])), ((ax 13), .inl ((kx 7), 6, .inr (.inr (.inr (.inr (fun i => some (rx 6 i))))))), ((ax 14), .inl ((kx 8), 24, .inr (.inr (.inr (.inr (fun i => some (rx 7 i))))))), ((ax 15), .inl ((kx 9), 8, .inr (.inr (.inr (.inr (fun i => some (rx 8 i))))))), ((ax 16), .inr (3, [.int (vx 41), .int (vx 42), .int (vx 43), .ref (ax 17), .ref (ax 18)])), ((ax 17), .inl ((kx 10), 25, .inl (fx 1))), ((ax 18), .inl ((kx 11), 275, .inl (fx 2))), ((ax 19), .inr (1, [.ref (ax 24), .ref (ax 20), .ref (ax 21), .ref (ax 22), .ref (ax 23), .int w1_5, .int w1_6])), ((ax 20), .inl ((kx 12), 24, .inl z2)), ((ax 21), .inl ((kx 13), 24, .inl z3)), ((ax 22), .inl ((kx 14), 24, .inr (.inl z4))), ((ax 23), .inl ((kx 15), 25, .inl z5)), ((ax 24), .inr (3, [.int w6_0, .int w6_1, .int w6_2, .ref (ax 25), .ref (ax 26)])), ((ax 25), .inl ((kx 16), 25, .inl z7)), ((ax 26), .inl ((kx 17), 275, .inl z8)), ((ax 27), .inr (1, [.ref (ax 32), .ref (ax 28), .ref (ax 29), .ref (ax 30), .ref (ax 31), .int (vx 49), .int (vx 50)])), ((ax 28), .inl ((kx 18), 24, .inl (fx 8))), ((ax 29), .inl ((kx 19), 24, .inl (fx 9))), ((ax 30), .inl ((kx 20), 24, .inr (.inl (gx 1)))), ((ax 31), .inl ((kx 21), 25, .inl (fx 10))), ((ax 32), .inr (3, [.int (vx 51), .int (vx 52), .int (vx 53), .ref (ax 33), .ref (ax 34)])), ((ax 33), .inl ((kx 22), 25, .inl (fx 11))), ((ax 34), .inl ((kx 23), 275, .inl (fx 12))), ((ax 35), .inr (9, [.ref (ax 36), .ref (ax 37), .ref (ax 38), .int (vx 54), .int (vx 55), .int (vx 56)])), ((ax 36), .inl ((kx 24), 3575, .inl (fx 13))), ((ax 37), .inl ((kx 25), 3575, .inl (fx 14))), ((ax 38), .inl ((kx 26), 325, .inl (fx 15))), ((ax 39), .inr (8, [.ref (ax 40), .ref (ax 41), .int (vx 57), .int (vx 58), .int (vx 59)])), ((ax 40), .inl ((kx 27), 325, .inl (fx 16))), ((ax 41), .inl ((kx 28), 3575, .inl (fx 17))), ((ax 42), .inr (4, [.ref (ax 43), .ref (ax 44), .int (vx 60)])), ((ax 43), .inl ((kx 29), 25, .inl (fx 18))), ((ax 44), .inl ((kx 30), 625, .inl (fx 19))), ((ax 45), .inl ((kx 31), 25, .inl (fx 20))), ((ax 46), .inl ((kx 32), 72, .inl (fx 21)))] : va_W) ++ (gz_fam 6 (rx 0) 5 (fun i => [.int ((fx 22) i), .int ((fx 23) i)])) ++ (gz_fam 24 (rx 1) 7 (fun i => [.int ((fx 24) i), .int ((fx 25) i), .int ((fx 26) i), .int ((fx 27) i), .int ((fx 28) i), .int ((fx 29) i)])) ++ (gz_fam 8 (rx 2) 2 (fun i => [.int ((fx 30) i), .int ((fx 31) i), .int ((fx 32) i), .int ((fx 33) i)])) ++ (gz_fam 6 (rx 3) 5 (fun i => [.int ((fx 34) i), .int ((fx 35) i)])) ++ (gz_fam 24 (rx 4) 7 (fun i => [.int ((fx 36) i), .int ((fx 37) i), .int ((fx 38) i), .int ((fx 39) i), .int ((fx 40) i), .int ((fx 41) i)])) ++ (gz_fam 8 (rx 5) 2 (fun i => [.int ((fx 42) i), .int ((fx 43) i), .int ((fx 44) i), .int ((fx 45) i)])) ++ (gz_fam 6 (rx 6) 5 (fun i => [.int ((fx 46) i), .int ((fx 47) i)])) ++ (gz_fam 24 (rx 7) 7 (fun i => [.int ((fx 48) i), .int ((fx 49) i), .int ((fx 50) i), .int ((fx 51) i), .int ((fx 52) i), .int ((fx 53) i)])) ++ (gz_fam 8 (rx 8) 2 (fun i => [.int ((fx 54) i), .int ((fx 55) i), .int ((fx 56) i), .int ((fx 57) i)]))) := gw_D hD0 (gw_ma (gw_ma (gw_ma (gw_ma (gw_ma (gw_ma (gw_ma (gw_ma (gw_ma rfl gw_mf) gw_mf) gw_mf) gw_mf) gw_mf) gw_mf) gw_mf) gw_mf) gw_mf)
    exact ⟨⟨r, (), ho, trivial, ax, kx, (upd (upd (upd (upd (upd (upd (upd (upd vx 1 w0_12) 2 w0_13) 3 w0_14) 44 w1_5) 45 w1_6) 46 w6_0) 47 w6_1) 48 w6_2), (updF (updF (updF (updF (updF fx 3 z2) 4 z3) 5 z5) 6 z7) 7 z8), (updG gx 0 z4), rx, fun U h => h, rfl, ⟨hI.1, gw0_12, gw0_14, hI.2.2.2.1, hI.2.2.2.2.1, hI.2.2.2.2.2.1, hI.2.2.2.2.2.2.1, hI.2.2.2.2.2.2.2.1, hI.2.2.2.2.2.2.2.2.1, hI.2.2.2.2.2.2.2.2.2.1, hI.2.2.2.2.2.2.2.2.2.2.1, hI.2.2.2.2.2.2.2.2.2.2.2.1, hI.2.2.2.2.2.2.2.2.2.2.2.2.1, hI.2.2.2.2.2.2.2.2.2.2.2.2.2.1, hI.2.2.2.2.2.2.2.2.2.2.2.2.2.2.1, hI.2.2.2.2.2.2.2.2.2.2.2.2.2.2.2.1, hI.2.2.2.2.2.2.2.2.2.2.2.2.2.2.2.2.1, hI.2.2.2.2.2.2.2.2.2.2.2.2.2.2.2.2.2.1, hI.2.2.2.2.2.2.2.2.2.2.2.2.2.2.2.2.2.2.1, hI.2.2.2.2.2.2.2.2.2.2.2.2.2.2.2.2.2.2.2.1, hI.2.2.2.2.2.2.2.2.2.2.2.2.2.2.2.2.2.2.2.2.1, hI.2.2.2.2.2.2.2.2.2.2.2.2.2.2.2.2.2.2.2.2.2.1, hI.2.2.2.2.2.2.2.2.2.2.2.2.2.2.2.2.2.2.2.2.2.2.1, hI.2.2.2.2.2.2.2.2.2.2.2.2.2.2.2.2.2.2.2.2.2.2.2.1, hI.2.2.2.2.2.2.2.2.2.2.2.2.2.2.2.2.2.2.2.2.2.2.2.2.1, hI.2.2.2.2.2.2.2.2.2.2.2.2.2.2.2.2.2.2.2.2.2.2.2.2.2.1, hI.2.2.2.2.2.2.2.2.2.2.2.2.2.2.2.2.2.2.2.2.2.2.2.2.2.2.1, hI.2.2.2.2.2.2.2.2.2.2.2.2.2.2.2.2.2.2.2.2.2.2.2.2.2.2.2.1, hI.2.2.2.2.2.2.2.2.2.2.2.2.2.2.2.2.2.2.2.2.2.2.2.2.2.2.2.2.1, hI.2.2.2.2.2.2.2.2.2.2.2.2.2.2.2.2.2.2.2.2.2.2.2.2.2.2.2.2.2.1, hI.2.2.2.2.2.2.2.2.2.2.2.2.2.2.2.2.2.2.2.2.2.2.2.2.2.2.2.2.2.2.1, hI.2.2.2.2.2.2.2.2.2.2.2.2.2.2.2.2.2.2.2.2.2.2.2.2.2.2.2.2.2.2.2.1, gw1_5, gz3, gw6_0, gw6_1, gw6_2, hI.2.2.2.2.2.2.2.2.2.2.2.2.2.2.2.2.2.2.2.2.2.2.2.2.2.2.2.2.2.2.2.2.2.2.2.2.2.1, hI.2.2.2.2.2.2.2.2.2.2.2.2.2.2.2.2.2.2.2.2.2.2.2.2.2.2.2.2.2.2.2.2.2.2.2.2.2.2.1, hI.2.2.2.2.2.2.2.2.2.2.2.2.2.2.2.2.2.2.2.2.2.2.2.2.2.2.2.2.2.2.2.2.2.2.2.2.2.2.2.1, hI.2.2.2.2.2.2.2.2.2.2.2.2.2.2.2.2.2.2.2.2.2.2.2.2.2.2.2.2.2.2.2.2.2.2.2.2.2.2.2.2.1, hI.2.2.2.2.2.2.2.2.2.2.2.2.2.2.2.2.2.2.2.2.2.2.2.2.2.2.2.2.2.2.2.2.2.2.2.2.2.2.2.2.2.1, hI.2.2.2.2.2.2.2.2.2.2.2.2.2.2.2.2.2.2.2.2.2.2.2.2.2.2.2.2.2.2.2.2.2.2.2.2.2.2.2.2.2.2.1, hI.2.2.2.2.2.2.2.2.2.2.2.2.2.2.2.2.2.2.2.2.2.2.2.2.2.2.2.2.2.2.2.2.2.2.2.2.2.2.2.2.2.2.2.1, hI.2.2.2.2.2.2.2.2.2.2.2.2.2.2.2.2.2.2.2.2.2.2.2.2.2.2.2.2.2.2.2.2.2.2.2.2.2.2.2.2.2.2.2.2.1, hI.2.2.2.2.2.2.2.2.2.2.2.2.2.2.2.2.2.2.2.2.2.2.2.2.2.2.2.2.2.2.2.2.2.2.2.2.2.2.2.2.2.2.2.2.2.1, hI.2.2.2.2.2.2.2.2.2.2.2.2.2.2.2.2.2.2.2.2.2.2.2.2.2.2.2.2.2.2.2.2.2.2.2.2.2.2.2.2.2.2.2.2.2.2.1, hI.2.2.2.2.2.2.2.2.2.2.2.2.2.2.2.2.2.2.2.2.2.2.2.2.2.2.2.2.2.2.2.2.2.2.2.2.2.2.2.2.2.2.2.2.2.2.2.1, hI.2.2.2.2.2.2.2.2.2.2.2.2.2.2.2.2.2.2.2.2.2.2.2.2.2.2.2.2.2.2.2.2.2.2.2.2.2.2.2.2.2.2.2.2.2.2.2.2.1, hI.2.2.2.2.2.2.2.2.2.2.2.2.2.2.2.2.2.2.2.2.2.2.2.2.2.2.2.2.2.2.2.2.2.2.2.2.2.2.2.2.2.2.2.2.2.2.2.2.2.1, hI.2.2.2.2.2.2.2.2.2.2.2.2.2.2.2.2.2.2.2.2.2.2.2.2.2.2.2.2.2.2.2.2.2.2.2.2.2.2.2.2.2.2.2.2.2.2.2.2.2.2.1, hI.2.2.2.2.2.2.2.2.2.2.2.2.2.2.2.2.2.2.2.2.2.2.2.2.2.2.2.2.2.2.2.2.2.2.2.2.2.2.2.2.2.2.2.2.2.2.2.2.2.2.2.1, hI.2.2.2.2.2.2.2.2.2.2.2.2.2.2.2.2.2.2.2.2.2.2.2.2.2.2.2.2.2.2.2.2.2.2.2.2.2.2.2.2.2.2.2.2.2.2.2.2.2.2.2.2.1, hI.2.2.2.2.2.2.2.2.2.2.2.2.2.2.2.2.2.2.2.2.2.2.2.2.2.2.2.2.2.2.2.2.2.2.2.2.2.2.2.2.2.2.2.2.2.2.2.2.2.2.2.2.2.1, hI.2.2.2.2.2.2.2.2.2.2.2.2.2.2.2.2.2.2.2.2.2.2.2.2.2.2.2.2.2.2.2.2.2.2.2.2.2.2.2.2.2.2.2.2.2.2.2.2.2.2.2.2.2.2.1, hI.2.2.2.2.2.2.2.2.2.2.2.2.2.2.2.2.2.2.2.2.2.2.2.2.2.2.2.2.2.2.2.2.2.2.2.2.2.2.2.2.2.2.2.2.2.2.2.2.2.2.2.2.2.2.2.1, hI.2.2.2.2.2.2.2.2.2.2.2.2.2.2.2.2.2.2.2.2.2.2.2.2.2.2.2.2.2.2.2.2.2.2.2.2.2.2.2.2.2.2.2.2.2.2.2.2.2.2.2.2.2.2.2.2.1, hI.2.2.2.2.2.2.2.2.2.2.2.2.2.2.2.2.2.2.2.2.2.2.2.2.2.2.2.2.2.2.2.2.2.2.2.2.2.2.2.2.2.2.2.2.2.2.2.2.2.2.2.2.2.2.2.2.2.1, hI.2.2.2.2.2.2.2.2.2.2.2.2.2.2.2.2.2.2.2.2.2.2.2.2.2.2.2.2.2.2.2.2.2.2.2.2.2.2.2.2.2.2.2.2.2.2.2.2.2.2.2.2.2.2.2.2.2.2.1, hI.2.2.2.2.2.2.2.2.2.2.2.2.2.2.2.2.2.2.2.2.2.2.2.2.2.2.2.2.2.2.2.2.2.2.2.2.2.2.2.2.2.2.2.2.2.2.2.2.2.2.2.2.2.2.2.2.2.2.2.1, hI.2.2.2.2.2.2.2.2.2.2.2.2.2.2.2.2.2.2.2.2.2.2.2.2.2.2.2.2.2.2.2.2.2.2.2.2.2.2.2.2.2.2.2.2.2.2.2.2.2.2.2.2.2.2.2.2.2.2.2.2.1, hI.2.2.2.2.2.2.2.2.2.2.2.2.2.2.2.2.2.2.2.2.2.2.2.2.2.2.2.2.2.2.2.2.2.2.2.2.2.2.2.2.2.2.2.2.2.2.2.2.2.2.2.2.2.2.2.2.2.2.2.2.2.1, hI.2.2.2.2.2.2.2.2.2.2.2.2.2.2.2.2.2.2.2.2.2.2.2.2.2.2.2.2.2.2.2.2.2.2.2.2.2.2.2.2.2.2.2.2.2.2.2.2.2.2.2.2.2.2.2.2.2.2.2.2.2.2.1, hI.2.2.2.2.2.2.2.2.2.2.2.2.2.2.2.2.2.2.2.2.2.2.2.2.2.2.2.2.2.2.2.2.2.2.2.2.2.2.2.2.2.2.2.2.2.2.2.2.2.2.2.2.2.2.2.2.2.2.2.2.2.2.2.1, hI.2.2.2.2.2.2.2.2.2.2.2.2.2.2.2.2.2.2.2.2.2.2.2.2.2.2.2.2.2.2.2.2.2.2.2.2.2.2.2.2.2.2.2.2.2.2.2.2.2.2.2.2.2.2.2.2.2.2.2.2.2.2.2.2.1, hI.2.2.2.2.2.2.2.2.2.2.2.2.2.2.2.2.2.2.2.2.2.2.2.2.2.2.2.2.2.2.2.2.2.2.2.2.2.2.2.2.2.2.2.2.2.2.2.2.2.2.2.2.2.2.2.2.2.2.2.2.2.2.2.2.2.1, hI.2.2.2.2.2.2.2.2.2.2.2.2.2.2.2.2.2.2.2.2.2.2.2.2.2.2.2.2.2.2.2.2.2.2.2.2.2.2.2.2.2.2.2.2.2.2.2.2.2.2.2.2.2.2.2.2.2.2.2.2.2.2.2.2.2.2.1, hI.2.2.2.2.2.2.2.2.2.2.2.2.2.2.2.2.2.2.2.2.2.2.2.2.2.2.2.2.2.2.2.2.2.2.2.2.2.2.2.2.2.2.2.2.2.2.2.2.2.2.2.2.2.2.2.2.2.2.2.2.2.2.2.2.2.2.2.1, hI.2.2.2.2.2.2.2.2.2.2.2.2.2.2.2.2.2.2.2.2.2.2.2.2.2.2.2.2.2.2.2.2.2.2.2.2.2.2.2.2.2.2.2.2.2.2.2.2.2.2.2.2.2.2.2.2.2.2.2.2.2.2.2.2.2.2.2.2⟩, ⟨rfl, rfl, rfl, rfl, rfl, rfl, rfl, rfl, rfl, rfl, rfl, rfl, rfl, rfl, rfl, rfl, rfl, rfl, rfl, rfl, rfl, rfl, rfl, rfl⟩, hP3, hD3⟩, hF.1, fun q h1 h2 => hF.2 q h1 (fun h => h2 (hFr q h))⟩
  · exact gz_freeS (n := sz) [0, 19, 20, 21, 22, 23, 24, 25, 26] hC
noncomputable def lsX11_begin : List (Nat × Instr × Nat) := [(0, .aload_n 0, 1), (1, .iload_n 1, 1), (2, .invokevirtual 216, 3), (5, .ifCond .eq 19, 3), (8, .aload_n 0, 1), (9, .iload_n 2, 1), (10, .iconst 0, 1), (11, .aload_n 0, 1), (12, .getfield 19, 3), (15, .getfield 120, 3), (18, .invokevirtual 209, 3), (21, .ifCond .ne 6, 3), (24, .bipush (-2), 2), (26, .ireturn, 1), (27, .aload_n 0, 1), (28, .iload_n 1, 1), (29, .invokevirtual 219, 3), (32, .getfield 258, 3), (35, .iload_n 2, 1), (36, .iaload, 1), (37, .ireturn, 1)]
theorem dkX11_begin : dkAll cX11_begin lsX11_begin = true := by decide +kernel
abbrev pb_sX11_begin (dC : Nat → ClassId) (dI : Nat → Nat → Nat) (A9 : Nat → Prop) (h0 : Nat) (co : Nat) (ve : Nat) (qu : Nat) (tu : Nat) (cb : Nat) (fr : Nat) (fal : Nat) (fon : Nat) (am : Nat) (pl : Nat) (re : Nat) (xr : Nat) (xs : Nat) (xf : Nat) (oc : Nat) (ta : Nat) (xq : Nat) (xh : Nat) (xk : Nat) (xo : Nat) (x_outLength : Int32) (x_courtStands : Int32) (x_courtNews : Int32) (x_tallyStands : Int32) (x_historyStands : Int32) (c_queueLength : Int32) (c_takenBits : Int32) (kve : ClassId) (fve : Nat → Int32) (kqu : ClassId) (fqu : Nat → Int32) (ktu : ClassId) (ftu : Nat → Int64) (kcb : ClassId) (fcb : Nat → Int32) (fmonths : Int32) (ffull : Int32) (flean : Int32) (kfal : ClassId) (ffal : Nat → Int32) (kfon : ClassId) (ffon : Nat → Int32) (amonths : Int32) (afull : Int32) (alean : Int32) (alines : Int32) (ahasMoon : Int32) (amoonStart : Int32) (amoonStep : Int32) (aplaceCount : Int32) (areportCount : Int32) (adeedCount : Int32) (de : Nat) (kpl : ClassId) (kre : ClassId) (pa : Nat → Nat) (p_name : Nat → Int32) (p_trust : Nat → Int32) (ra : Nat → Nat) (r_place : Nat → Int32) (r_kind : Nat → Int32) (r_month : Nat → Int32) (r_day : Nat → Int32) (r_known : Nat → Int32) (r_struck : Nat → Int32) (p1 : Int32) (p2 : Int32) (w0_12 : Int32) (w0_13 : Int32) (w0_14 : Int32) (w1_5 : Int32) (w1_6 : Int32) (w6_0 : Int32) (w6_1 : Int32) (w6_2 : Int32) (z2 : Nat → Int32) (z3 : Nat → Int32) (z4 : Nat → Int64) (z5 : Nat → Int32) (z7 : Nat → Int32) (z8 : Nat → Int32) (t : State) : Prop := gi w0_12 0 1 ∧ gi w0_14 0 1 ∧ gi w1_5 0 24 ∧ gi w6_0 0 24 ∧ gi w6_1 0 5 ∧ gi w6_2 0 5 ∧ ga z3 24 0 23 ∧ va_P (dC, dI) vwCl [(h0, .inr (11, [.ref xr, .ref am, .ref xs, .ref xf, .ref co, .ref oc, .ref ta, .ref xq, .ref xh, .ref xk, .ref xo, .int x_outLength, .int w0_12, .int w0_13, .int w0_14, .int x_historyStands])), (co, .inr (1, [.ref fr, .ref ve, .ref qu, .ref tu, .ref cb, .int w1_5, .int w1_6])), (ve, .inl (kve, 24, .inl z2)), (qu, .inl (kqu, 24, .inl z3)), (tu, .inl (ktu, 24, .inr (.inl z4))), (cb, .inl (kcb, 25, .inl z5)), (fr, .inr (3, [.int w6_0, .int w6_1, .int w6_2, .ref fal, .ref fon])), (fal, .inl (kfal, 25, .inl z7)), (fon, .inl (kfon, 275, .inl z8))] t.heap ∧ va_D A9 [(h0, .inr (11, [.ref xr, .ref am, .ref xs, .ref xf, .ref co, .ref oc, .ref ta, .ref xq, .ref xh, .ref xk, .ref xo, .int x_outLength, .int w0_12, .int w0_13, .int w0_14, .int x_historyStands])), (co, .inr (1, [.ref fr, .ref ve, .ref qu, .ref tu, .ref cb, .int w1_5, .int w1_6])), (ve, .inl (kve, 24, .inl z2)), (qu, .inl (kqu, 24, .inl z3)), (tu, .inl (ktu, 24, .inr (.inl z4))), (cb, .inl (kcb, 25, .inl z5)), (fr, .inr (3, [.int w6_0, .int w6_1, .int w6_2, .ref fal, .ref fon])), (fal, .inl (kfal, 25, .inl z7)), (fon, .inl (kfon, 275, .inl z8))]
set_option maxHeartbeats 4000000 in
set_option maxRecDepth 100000 in
theorem sX11_begin (l : Launch) (dC : Nat → ClassId) (dI : Nat → Nat → Nat) (sz : Nat) (h0 : Nat) (co : Nat) (ve : Nat) (qu : Nat) (tu : Nat) (cb : Nat) (fr : Nat) (fal : Nat) (fon : Nat) (am : Nat) (pl : Nat) (re : Nat) (xr : Nat) (xs : Nat) (xf : Nat) (oc : Nat) (ta : Nat) (xq : Nat) (xh : Nat) (xk : Nat) (xo : Nat) (x_outLength : Int32) (x_courtStands : Int32) (x_courtNews : Int32) (x_tallyStands : Int32) (x_historyStands : Int32) (c_queueLength : Int32) (c_takenBits : Int32) (kve : ClassId) (fve : Nat → Int32) (kqu : ClassId) (fqu : Nat → Int32) (ktu : ClassId) (ftu : Nat → Int64) (kcb : ClassId) (fcb : Nat → Int32) (fmonths : Int32) (ffull : Int32) (flean : Int32) (kfal : ClassId) (ffal : Nat → Int32) (kfon : ClassId) (ffon : Nat → Int32) (amonths : Int32) (afull : Int32) (alean : Int32) (alines : Int32) (ahasMoon : Int32) (amoonStart : Int32) (amoonStep : Int32) (aplaceCount : Int32) (areportCount : Int32) (adeedCount : Int32) (de : Nat) (kpl : ClassId) (kre : ClassId) (pa : Nat → Nat) (p_name : Nat → Int32) (p_trust : Nat → Int32) (ra : Nat → Nat) (r_place : Nat → Int32) (r_kind : Nat → Int32) (r_month : Nat → Int32) (r_day : Nat → Int32) (r_known : Nat → Int32) (r_struck : Nat → Int32) (p1 : Int32) (p2 : Int32) (gx_outLength : gi x_outLength 0 72) (gx_courtStands : gi x_courtStands 0 1) (gx_tallyStands : gi x_tallyStands 0 1) (gx_historyStands : gi x_historyStands 0 1) (gc_queueLength : gi c_queueLength 0 24) (gfqu : ga fqu 24 0 23) (gfmonths : gi fmonths 0 24) (gffull : gi ffull 0 5) (gflean : gi flean 0 5) (gamonths : gi amonths 0 24) (gafull : gi afull 0 5) (galean : gi alean 0 5) (gahasMoon : gi ahasMoon 0 1) (gaplaceCount : gi aplaceCount 0 6) (gareportCount : gi areportCount 0 24) (gadeedCount : gi adeedCount 0 8) (gr_place : ga r_place 24 0 5) (gr_month : ga r_month 24 0 23) (gr_struck : ga r_struck 24 0 1) : Met l yX11_begin (.code yX11_begin cX11_begin 3 (some .int) :: wsGA) ({ frames := 5, cells := 0, slots := 0, locals := 117 }) (va_Pc [.ref h0, .int p1, .int p2] (fun U => U.heap.size = sz ∧ va_P (dC, dI) vwCl [(h0, .inr (11, [.ref xr, .ref am, .ref xs, .ref xf, .ref co, .ref oc, .ref ta, .ref xq, .ref xh, .ref xk, .ref xo, .int x_outLength, .int x_courtStands, .int x_courtNews, .int x_tallyStands, .int x_historyStands])), (co, .inr (1, [.ref fr, .ref ve, .ref qu, .ref tu, .ref cb, .int c_queueLength, .int c_takenBits])), (ve, .inl (kve, 24, .inl fve)), (qu, .inl (kqu, 24, .inl fqu)), (tu, .inl (ktu, 24, .inr (.inl ftu))), (cb, .inl (kcb, 25, .inl fcb)), (fr, .inr (3, [.int fmonths, .int ffull, .int flean, .ref fal, .ref fon])), (fal, .inl (kfal, 25, .inl ffal)), (fon, .inl (kfon, 275, .inl ffon))] U.heap ∧ va_K (dC, dI) vwCl [(kve, .int), (kqu, .int), (ktu, .long), (kcb, .int), (kfal, .int), (kfon, .int), (kpl, .object RX5), (kre, .object RX7)] U ∧ va_D (fun _ => True) [(h0, .inr (11, [.ref xr, .ref am, .ref xs, .ref xf, .ref co, .ref oc, .ref ta, .ref xq, .ref xh, .ref xk, .ref xo, .int x_outLength, .int x_courtStands, .int x_courtNews, .int x_tallyStands, .int x_historyStands])), (co, .inr (1, [.ref fr, .ref ve, .ref qu, .ref tu, .ref cb, .int c_queueLength, .int c_takenBits])), (ve, .inl (kve, 24, .inl fve)), (qu, .inl (kqu, 24, .inl fqu)), (tu, .inl (ktu, 24, .inr (.inl ftu))), (cb, .inl (kcb, 25, .inl fcb)), (fr, .inr (3, [.int fmonths, .int ffull, .int flean, .ref fal, .ref fon])), (fal, .inl (kfal, 25, .inl ffal)), (fon, .inl (kfon, 275, .inl ffon))] ∧ nzA U ∧ va_P (dC, dI) vwCl [(am, .inr (0, [.int amonths, .int afull, .int alean, .int alines, .int ahasMoon, .int amoonStart, .int amoonStep, .int aplaceCount, .int areportCount, .int adeedCount, .ref pl, .ref re, .ref de])), (pl, .inl (kpl, 6, .inr (.inr (.inr (.inr (fun i => some (pa i))))))), (re, .inl (kre, 24, .inr (.inr (.inr (.inr (fun i => some (ra i)))))))] U.heap ∧ gz_ap (va_A [(h0, .inr (11, [.ref xr, .ref am, .ref xs, .ref xf, .ref co, .ref oc, .ref ta, .ref xq, .ref xh, .ref xk, .ref xo, .int x_outLength, .int x_courtStands, .int x_courtNews, .int x_tallyStands, .int x_historyStands])), (co, .inr (1, [.ref fr, .ref ve, .ref qu, .ref tu, .ref cb, .int c_queueLength, .int c_takenBits])), (ve, .inl (kve, 24, .inl fve)), (qu, .inl (kqu, 24, .inl fqu)), (tu, .inl (ktu, 24, .inr (.inl ftu))), (cb, .inl (kcb, 25, .inl fcb)), (fr, .inr (3, [.int fmonths, .int ffull, .int flean, .ref fal, .ref fon])), (fal, .inl (kfal, 25, .inl ffal)), (fon, .inl (kfon, 275, .inl ffon))] sz) [(am, .inr (0, [.int amonths, .int afull, .int alean, .int alines, .int ahasMoon, .int amoonStart, .int amoonStep, .int aplaceCount, .int areportCount, .int adeedCount, .ref pl, .ref re, .ref de])), (pl, .inl (kpl, 6, .inr (.inr (.inr (.inr (fun i => some (pa i))))))), (re, .inl (kre, 24, .inr (.inr (.inr (.inr (fun i => some (ra i)))))))] ∧ va_P (dC, dI) vwCl (gz_fam 6 pa 5 (fun i => [.int (p_name i), .int (p_trust i)])) U.heap ∧ gz_ap (va_A [(h0, .inr (11, [.ref xr, .ref am, .ref xs, .ref xf, .ref co, .ref oc, .ref ta, .ref xq, .ref xh, .ref xk, .ref xo, .int x_outLength, .int x_courtStands, .int x_courtNews, .int x_tallyStands, .int x_historyStands])), (co, .inr (1, [.ref fr, .ref ve, .ref qu, .ref tu, .ref cb, .int c_queueLength, .int c_takenBits])), (ve, .inl (kve, 24, .inl fve)), (qu, .inl (kqu, 24, .inl fqu)), (tu, .inl (ktu, 24, .inr (.inl ftu))), (cb, .inl (kcb, 25, .inl fcb)), (fr, .inr (3, [.int fmonths, .int ffull, .int flean, .ref fal, .ref fon])), (fal, .inl (kfal, 25, .inl ffal)), (fon, .inl (kfon, 275, .inl ffon))] sz) (gz_fam 6 pa 5 (fun i => [.int (p_name i), .int (p_trust i)])) ∧ va_P (dC, dI) vwCl (gz_fam 24 ra 7 (fun i => [.int (r_place i), .int (r_kind i), .int (r_month i), .int (r_day i), .int (r_known i), .int (r_struck i)])) U.heap ∧ gz_ap (va_A [(h0, .inr (11, [.ref xr, .ref am, .ref xs, .ref xf, .ref co, .ref oc, .ref ta, .ref xq, .ref xh, .ref xk, .ref xo, .int x_outLength, .int x_courtStands, .int x_courtNews, .int x_tallyStands, .int x_historyStands])), (co, .inr (1, [.ref fr, .ref ve, .ref qu, .ref tu, .ref cb, .int c_queueLength, .int c_takenBits])), (ve, .inl (kve, 24, .inl fve)), (qu, .inl (kqu, 24, .inl fqu)), (tu, .inl (ktu, 24, .inr (.inl ftu))), (cb, .inl (kcb, 25, .inl fcb)), (fr, .inr (3, [.int fmonths, .int ffull, .int flean, .ref fal, .ref fon])), (fal, .inl (kfal, 25, .inl ffal)), (fon, .inl (kfon, 275, .inl ffon))] sz) (gz_fam 24 ra 7 (fun i => [.int (r_place i), .int (r_kind i), .int (r_month i), .int (r_day i), .int (r_known i), .int (r_struck i)])))) (va_Qi (fun (r : Int32) (u : Unit) => gi r (-2147483648) 2147483647) (fun _ t => ∃ (w0_12 : Int32) (w0_13 : Int32) (w0_14 : Int32) (w1_5 : Int32) (w1_6 : Int32) (w6_0 : Int32) (w6_1 : Int32) (w6_2 : Int32) (z2 : Nat → Int32) (z3 : Nat → Int32) (z4 : Nat → Int64) (z5 : Nat → Int32) (z7 : Nat → Int32) (z8 : Nat → Int32), pb_sX11_begin dC dI (va_A [(h0, .inr (11, [.ref xr, .ref am, .ref xs, .ref xf, .ref co, .ref oc, .ref ta, .ref xq, .ref xh, .ref xk, .ref xo, .int x_outLength, .int x_courtStands, .int x_courtNews, .int x_tallyStands, .int x_historyStands])), (co, .inr (1, [.ref fr, .ref ve, .ref qu, .ref tu, .ref cb, .int c_queueLength, .int c_takenBits])), (ve, .inl (kve, 24, .inl fve)), (qu, .inl (kqu, 24, .inl fqu)), (tu, .inl (ktu, 24, .inr (.inl ftu))), (cb, .inl (kcb, 25, .inl fcb)), (fr, .inr (3, [.int fmonths, .int ffull, .int flean, .ref fal, .ref fon])), (fal, .inl (kfal, 25, .inl ffal)), (fon, .inl (kfon, 275, .inl ffon))] sz) h0 co ve qu tu cb fr fal fon am pl re xr xs xf oc ta xq xh xk xo x_outLength x_courtStands x_courtNews x_tallyStands x_historyStands c_queueLength c_takenBits kve fve kqu fqu ktu ftu kcb fcb fmonths ffull flean kfal ffal kfon ffon amonths afull alean alines ahasMoon amoonStart amoonStep aplaceCount areportCount adeedCount de kpl kre pa p_name p_trust ra r_place r_kind r_month r_day r_known r_struck p1 p2 w0_12 w0_13 w0_14 w1_5 w1_6 w6_0 w6_1 w6_2 z2 z3 z4 z5 z7 z8 t) (va_A [(h0, .inr (11, [.ref xr, .ref am, .ref xs, .ref xf, .ref co, .ref oc, .ref ta, .ref xq, .ref xh, .ref xk, .ref xo, .int x_outLength, .int x_courtStands, .int x_courtNews, .int x_tallyStands, .int x_historyStands])), (co, .inr (1, [.ref fr, .ref ve, .ref qu, .ref tu, .ref cb, .int c_queueLength, .int c_takenBits])), (ve, .inl (kve, 24, .inl fve)), (qu, .inl (kqu, 24, .inl fqu)), (tu, .inl (ktu, 24, .inr (.inl ftu))), (cb, .inl (kcb, 25, .inl fcb)), (fr, .inr (3, [.int fmonths, .int ffull, .int flean, .ref fal, .ref fon])), (fal, .inl (kfal, 25, .inl ffal)), (fon, .inl (kfon, 275, .inl ffon))] sz)) 0 0 (va_A [(h0, .inr (11, [.ref xr, .ref am, .ref xs, .ref xf, .ref co, .ref oc, .ref ta, .ref xq, .ref xh, .ref xk, .ref xo, .int x_outLength, .int x_courtStands, .int x_courtNews, .int x_tallyStands, .int x_historyStands])), (co, .inr (1, [.ref fr, .ref ve, .ref qu, .ref tu, .ref cb, .int c_queueLength, .int c_takenBits])), (ve, .inl (kve, 24, .inl fve)), (qu, .inl (kqu, 24, .inl fqu)), (tu, .inl (ktu, 24, .inr (.inl ftu))), (cb, .inl (kcb, 25, .inl fcb)), (fr, .inr (3, [.int fmonths, .int ffull, .int flean, .ref fal, .ref fon])), (fal, .inl (kfal, 25, .inl ffal)), (fon, .inl (kfon, 275, .inl ffon))] sz) := by
  refine Met.ofW (cc := cX11_begin) (maxL := 3) (ret := (some .int)) (by decide) rfl ?_
  intro p e s m args below meth c s₁ B hml hv
  obtain ⟨rfl, hsz, hP, hK, hD0, hz, hR, hRA, hF0, hFA0, hF1, hFA1⟩ := hv
  have hx := B.exec
  have hb := B.bytes
  have hr := B.returns
  have hts := atoms_spec (ws := (.code yX11_begin cX11_begin 3 (some .int) :: wsGA)) B.pre
  have hown : s.vm.findClass RX11 = some m.cls := findClass_of_methodNamed B.named
  have hlocks := B.notSynchronized
  subst hsz
  have hD := hD0.self (sz := s.heap.size)
  generalize hAe : va_A [(h0, .inr (11, [.ref xr, .ref am, .ref xs, .ref xf, .ref co, .ref oc, .ref ta, .ref xq, .ref xh, .ref xk, .ref xo, .int x_outLength, .int x_courtStands, .int x_courtNews, .int x_tallyStands, .int x_historyStands])), (co, .inr (1, [.ref fr, .ref ve, .ref qu, .ref tu, .ref cb, .int c_queueLength, .int c_takenBits])), (ve, .inl (kve, 24, .inl fve)), (qu, .inl (kqu, 24, .inl fqu)), (tu, .inl (ktu, 24, .inr (.inl ftu))), (cb, .inl (kcb, 25, .inl fcb)), (fr, .inr (3, [.int fmonths, .int ffull, .int flean, .ref fal, .ref fon])), (fal, .inl (kfal, 25, .inl ffal)), (fon, .inl (kfon, 275, .inl ffon))] s.heap.size = A at hD hRA hFA0 hFA1 ⊢
  have hA : ∀ q : Nat, s.heap.size ≤ q → A q := fun q h => by rw [← hAe]; exact Or.inr h
  have hS : va_S A s.heap s.heap [] := va_S.rf
  have hl := lv_entry ([.ref h0, .int p1, .int p2]) (n := 3) (Nat.le_of_ble_eq_true rfl)
  rw [lg_entry_eq]
  generalize (lg_sl ([.ref h0, .int p1, .int p2]) ++ List.replicate (3 - (lg_sl ([.ref h0, .int p1, .int p2])).length) Slot.unset).toArray = ls at hl ⊢
  have hl : lv_has ls 3 [(0, .ref h0), (1, .int p1), (2, .int p2)] := hl
  refine lv_aload_n hx hb (dk_at dkX11_begin 0 rfl) rfl (lv_at hl 0 rfl) ?_
  refine lv_iload_n hx hb (dk_at dkX11_begin 1 rfl) rfl (lv_at hl 1 rfl) ?_
  have hPc : va_P (dC, dI) vwCl [(h0, .inr (11, [.ref xr, .ref am, .ref xs, .ref xf, .ref co, .ref oc, .ref ta, .ref xq, .ref xh, .ref xk, .ref xo, .int x_outLength, .int x_courtStands, .int x_courtNews, .int x_tallyStands, .int x_historyStands])), (am, .inr (0, [.int amonths, .int afull, .int alean, .int alines, .int ahasMoon, .int amoonStart, .int amoonStep, .int aplaceCount, .int areportCount, .int adeedCount, .ref pl, .ref re, .ref de]))] s.heap := (gz_cat (hP.sub [0] rfl) ((gz_ro hR hRA hS).sub [0] rfl))
  have hKc := hK.sub (tys' := []) [] rfl
  refine va_calli (va_runV (As := [.int p1]) (rest := []) ⟨hx, hb, hml, hown, hts⟩ (sX11_hasTime l dC dI h0 am xr xs xf co oc ta xq xh xk xo x_outLength x_courtStands x_courtNews x_tallyStands x_historyStands amonths afull alean alines ahasMoon amoonStart amoonStep aplaceCount areportCount adeedCount pl re de p1 gx_outLength gx_courtStands gx_tallyStands gx_historyStands gamonths gafull galean gahasMoon gaplaceCount gareportCount gadeedCount) (cwV 1 hts (gz_gV mGA_424 mGA_425 mGA_426 mGA_1 mGA_427 goodGA) rfl rfl rfl (by decide +kernel) ⟨Nat.le_of_ble_eq_true rfl, Nat.le_of_ble_eq_true rfl⟩) ⟨bl_I (bl_a bl_P (bl_a bl_K bl_nz)), va_recv hKc hPc (ci := 11) (q0 := 0) rfl rfl, fun U hU hW => ⟨rfl, by rw [hU]; exact hPc, va_K.moved hW.alike hKc, nzA_warm hW hz⟩⟩ rfl rfl hl.1 rfl (lv_room (Nat.le_of_ble_eq_true rfl)) (dk_at dkX11_begin 2 rfl) ⟨Nat.zero_le _, Nat.zero_le _⟩) hS (fun q _ h => h.elim) (fun q h => h.elim) (fun r_53 u t H1 locs ht hvm hw hB hz1 hk1 hS => ?_)
  obtain ⟨hw, hE⟩ := hw
  have hP := gz_keep hP hk1
  generalize H1 = H at hP hS ⊢
  have gr_53 : gi r_53 0 1 := hw.1
  have hqr_53 := hw.2
  refine lv_if_eq (tgt := 24) hx hb (dk_at dkX11_begin 3 rfl) (by decide) (fun c_54 => ?_) (fun c_54 => ?_)
  · have g_55 : gi r_53 0 0 := gi_eq c_54 (gi_c 0 0 (by decide))
    refine lv_bipush (v := (-2)) hx hb (dk_at dkX11_begin 12 rfl) (by decide) ?_
    exact W.iret (v := (-2)) hx hb hr (fun t ht hW => ⟨⟨(-2), (), rfl, (gi_any (-2)), x_courtStands, x_courtNews, x_tallyStands, c_queueLength, c_takenBits, fmonths, ffull, flean, fve, fqu, ftu, fcb, ffal, ffon, gx_courtStands, gx_tallyStands, gc_queueLength, gfmonths, gffull, gflean, gfqu, by rw [ht]; exact hP, hD⟩, hS.F ht⟩) hS.2.2 (dk_at dkX11_begin 13 rfl)
  · have g_56 : gi r_53 1 1 := gi_ne_lo c_54 gr_53 (gi_c 0 0 (by decide)) (by decide)
    have g_57 : gi p1 0 999 := gi_cap (gi_any p1) (hqr_53 (gz_one g_56)) (by decide)
    refine lv_aload_n hx hb (dk_at dkX11_begin 4 rfl) rfl (lv_at hl 0 rfl) ?_
    refine lv_iload_n hx hb (dk_at dkX11_begin 5 rfl) rfl (lv_at hl 2 rfl) ?_
    refine lv_iconst (v := 0) hx hb (dk_at dkX11_begin 6 rfl) (by decide) ?_
    refine lv_aload_n hx hb (dk_at dkX11_begin 7 rfl) rfl (lv_at hl 0 rfl) ?_
    refine va_get (D := (dC, dI)) (ci := 11) (v := .ref am) (C := RX11) (T := TX11) (N := 16) hx hb hts (fun w h => List.mem_cons_of_mem _ (jnGA_X11 w h)) hown hK hP 0 rfl rfl 1 (by decide) (hts _ (List.mem_cons_of_mem _ mGA_14)) (fun _ h9 => h9) rfl (dk_at dkX11_begin 8 rfl) ?_
    refine va_get (D := (dC, dI)) (ci := 0) (v := .int amonths) (C := RX0) (T := TX0) (N := 13) hx hb hts (fun w h => List.mem_cons_of_mem _ (jnGA_X0 w h)) hown hK (gz_ro hR hRA hS) 0 rfl rfl 0 (by decide) (hts _ (List.mem_cons_of_mem _ mGA_353)) (fun _ h9 => h9) rfl (dk_at dkX11_begin 9 rfl) ?_
    have hPc : va_P (dC, dI) vwCl [(h0, .inr (11, [.ref xr, .ref am, .ref xs, .ref xf, .ref co, .ref oc, .ref ta, .ref xq, .ref xh, .ref xk, .ref xo, .int x_outLength, .int x_courtStands, .int x_courtNews, .int x_tallyStands, .int x_historyStands])), (am, .inr (0, [.int amonths, .int afull, .int alean, .int alines, .int ahasMoon, .int amoonStart, .int amoonStep, .int aplaceCount, .int areportCount, .int adeedCount, .ref pl, .ref re, .ref de]))] H := (gz_cat (hP.sub [0] rfl) ((gz_ro hR hRA hS).sub [0] rfl))
    have hKc := hK.sub (tys' := []) [] rfl
    refine va_calli (va_runV (As := [.int p2, .int 0, .int amonths]) (rest := []) ⟨hx, hb, hml, hown, hts⟩ (sX11_hasMonthB l dC dI h0 am xr xs xf co oc ta xq xh xk xo x_outLength x_courtStands x_courtNews x_tallyStands x_historyStands amonths afull alean alines ahasMoon amoonStart amoonStep aplaceCount areportCount adeedCount pl re de p2 0 amonths gx_outLength gx_courtStands gx_tallyStands gx_historyStands gamonths gafull galean gahasMoon gaplaceCount gareportCount gadeedCount (gi_w (gi_c 0 0 (by decide)) (by decide)) gamonths) (cwV 3 hts (gz_gV mGA_408 mGA_409 mGA_410 mGA_1 mGA_411 goodGA) rfl rfl rfl (by decide +kernel) ⟨Nat.le_of_ble_eq_true rfl, Nat.le_of_ble_eq_true rfl⟩) ⟨bl_I (bl_a bl_P (bl_a bl_K bl_nz)), va_recv hKc hPc (ci := 11) (q0 := 0) rfl rfl, fun U hU hW => ⟨rfl, by rw [hU]; exact hPc, va_K.moved hW.alike hKc, nzA_warm hW hz⟩⟩ rfl rfl hl.1 rfl (lv_room (Nat.le_of_ble_eq_true rfl)) (dk_at dkX11_begin 10 rfl) ⟨Nat.zero_le _, Nat.zero_le _⟩) hS (fun q _ h => h.elim) (fun q h => h.elim) (fun r_58 u t H1 locs ht hvm hw hB hz1 hk1 hS => ?_)
    obtain ⟨hw, hE⟩ := hw
    have hP := gz_keep hP hk1
    generalize H1 = H at hP hS ⊢
    have gr_58 : gi r_58 0 1 := hw.1
    have hqr_58 := hw.2
    refine lv_if_ne (tgt := 27) hx hb (dk_at dkX11_begin 11 rfl) (by decide) (fun c_59 => ?_) (fun c_59 => ?_)
    · have g_60 : gi r_58 1 1 := gi_ne_lo c_59 gr_58 (gi_c 0 0 (by decide)) (by decide)
      have g_61 : gi p2 0 24 := gi_cap (gi_any p2) (hqr_58 (gz_one g_60)) (by decide)
      refine lv_aload_n hx hb (dk_at dkX11_begin 14 rfl) rfl (lv_at hl 0 rfl) ?_
      refine lv_iload_n hx hb (dk_at dkX11_begin 15 rfl) rfl (lv_at hl 1 rfl) ?_
      obtain ⟨hPc, hDc, hFc⟩ := gz_cut (wc := [(h0, .inr (11, [.ref xr, .ref am, .ref xs, .ref xf, .ref co, .ref oc, .ref ta, .ref xq, .ref xh, .ref xk, .ref xo, .int x_outLength, .int x_courtStands, .int x_courtNews, .int x_tallyStands, .int x_historyStands])), (co, .inr (1, [.ref fr, .ref ve, .ref qu, .ref tu, .ref cb, .int c_queueLength, .int c_takenBits])), (ve, .inl (kve, 24, .inl fve)), (qu, .inl (kqu, 24, .inl fqu)), (tu, .inl (ktu, 24, .inr (.inl ftu))), (cb, .inl (kcb, 25, .inl fcb)), (fr, .inr (3, [.int fmonths, .int ffull, .int flean, .ref fal, .ref fon])), (fal, .inl (kfal, 25, .inl ffal)), (fon, .inl (kfon, 275, .inl ffon))]) hP hD hS hA [0, 1, 2, 3, 4, 5, 6, 7, 8] (by decide) rfl
      have hKc := hK.sub (tys' := [(kve, .int), (kqu, .int), (ktu, .long), (kcb, .int), (kfal, .int), (kfon, .int), (kpl, .object RX5), (kre, .object RX7)]) [0, 1, 2, 3, 4, 5, 6, 7] rfl
      have hRc_ : va_P (dC, dI) vwCl [(am, .inr (0, [.int amonths, .int afull, .int alean, .int alines, .int ahasMoon, .int amoonStart, .int amoonStep, .int aplaceCount, .int areportCount, .int adeedCount, .ref pl, .ref re, .ref de])), (pl, .inl (kpl, 6, .inr (.inr (.inr (.inr (fun i => some (pa i))))))), (re, .inl (kre, 24, .inr (.inr (.inr (.inr (fun i => some (ra i)))))))] H := (gz_cat ((gz_ro hR hRA hS).sub [0] rfl) (gz_cat ((gz_ro hR hRA hS).sub [1] rfl) ((gz_ro hR hRA hS).sub [2] rfl)))
      have hRa_ : gz_ap (va_A [(h0, .inr (11, [.ref xr, .ref am, .ref xs, .ref xf, .ref co, .ref oc, .ref ta, .ref xq, .ref xh, .ref xk, .ref xo, .int x_outLength, .int x_courtStands, .int x_courtNews, .int x_tallyStands, .int x_historyStands])), (co, .inr (1, [.ref fr, .ref ve, .ref qu, .ref tu, .ref cb, .int c_queueLength, .int c_takenBits])), (ve, .inl (kve, 24, .inl fve)), (qu, .inl (kqu, 24, .inl fqu)), (tu, .inl (ktu, 24, .inr (.inl ftu))), (cb, .inl (kcb, 25, .inl fcb)), (fr, .inr (3, [.int fmonths, .int ffull, .int flean, .ref fal, .ref fon])), (fal, .inl (kfal, 25, .inl ffal)), (fon, .inl (kfon, 275, .inl ffon))] H.size) [(am, .inr (0, [.int amonths, .int afull, .int alean, .int alines, .int ahasMoon, .int amoonStart, .int amoonStep, .int aplaceCount, .int areportCount, .int adeedCount, .ref pl, .ref re, .ref de])), (pl, .inl (kpl, 6, .inr (.inr (.inr (.inr (fun i => some (pa i))))))), (re, .inl (kre, 24, .inr (.inr (.inr (.inr (fun i => some (ra i)))))))] := (gz_apc (gz_apR (gz_ap1 hRA 0 rfl) hFc) (gz_apc (gz_apR (gz_ap1 hRA 1 rfl) hFc) (gz_apR (gz_ap1 hRA 2 rfl) hFc)))
      refine va_callr (va_runV (As := [.int p1]) (rest := []) ⟨hx, hb, hml, hown, hts⟩ (sX11_courtBy l dC dI H.size h0 co ve qu tu cb fr fal fon am pl re xr xs xf oc ta xq xh xk xo x_outLength x_courtStands x_courtNews x_tallyStands x_historyStands c_queueLength c_takenBits kve fve kqu fqu ktu ftu kcb fcb fmonths ffull flean kfal ffal kfon ffon amonths afull alean alines ahasMoon amoonStart amoonStep aplaceCount areportCount adeedCount de kpl kre pa p_name p_trust ra r_place r_kind r_month r_day r_known r_struck p1 gx_outLength gx_courtStands gx_tallyStands gx_historyStands gc_queueLength gfqu gfmonths gffull gflean gamonths gafull galean gahasMoon gaplaceCount gareportCount gadeedCount gr_place gr_month gr_struck) (cwV 1 hts (gz_gV mGA_428 mGA_429 mGA_430 mGA_1 mGA_431 goodGA) rfl rfl rfl (by decide +kernel) ⟨Nat.le_of_ble_eq_true rfl, Nat.le_of_ble_eq_true rfl⟩) ⟨bl_I (bl_a bl_sz (bl_a bl_P (bl_a bl_K (bl_a bl_c (bl_a bl_nz (bl_a bl_P (bl_a bl_c (bl_a bl_P (bl_a bl_c (bl_a bl_P bl_c)))))))))), va_recv hKc hPc (ci := 11) (q0 := 0) rfl rfl, fun U hU hW => ⟨rfl, by rw [hU], by rw [hU]; exact hPc, va_K.moved hW.alike hKc, hDc.weaken (fun _ _ _ _ => trivial), nzA_warm hW hz, by rw [hU]; exact hRc_, hRa_, by rw [hU]; exact gz_ro hF0 hFA0 hS, gz_apR hFA0 hFc, by rw [hU]; exact gz_ro hF1 hFA1 hS, gz_apR hFA1 hFc⟩⟩ rfl rfl hl.1 rfl (lv_room (Nat.le_of_ble_eq_true rfl)) (dk_at dkX11_begin 16 rfl) ⟨Nat.zero_le _, Nat.zero_le _⟩) hS (fun q _ h => hFc q h) hFc (fun u r_62 t H1 locs ht hvm hw hB hz1 hk1 hS => ?_)
      obtain ⟨hra, hB⟩ := hB
      have hra := hra.symm
      subst hra
      obtain ⟨y_63, y_64, y_65, y_66, y_67, y_68, y_69, y_70, f_71, f_72, f_73, f_74, f_75, f_76, hB⟩ := hB
      obtain ⟨gy_63, gy_65, gy_66, gy_68, gy_69, gy_70, gf_72, hP1, hD1⟩ := hB
      rw [ht] at hP1
      obtain ⟨hP, hD⟩ := gz_back hP hD hk1 hFc hP1 hD1 [0, 1, 2, 3, 4, 5, 6, 7, 8] rfl rfl
      obtain ⟨hP, hD⟩ := gz_both (w := [(h0, .inr (11, [.ref xr, .ref am, .ref xs, .ref xf, .ref co, .ref oc, .ref ta, .ref xq, .ref xh, .ref xk, .ref xo, .int x_outLength, .int y_63, .int y_64, .int y_65, .int x_historyStands])), (co, .inr (1, [.ref fr, .ref ve, .ref qu, .ref tu, .ref cb, .int y_66, .int y_67])), (ve, .inl (kve, 24, .inl f_71)), (qu, .inl (kqu, 24, .inl f_72)), (tu, .inl (ktu, 24, .inr (.inl f_73))), (cb, .inl (kcb, 25, .inl f_74)), (fr, .inr (3, [.int y_68, .int y_69, .int y_70, .ref fal, .ref fon])), (fal, .inl (kfal, 25, .inl f_75)), (fon, .inl (kfon, 275, .inl f_76))]) hP hD
      generalize H1 = H at hP hS ⊢
      refine va_get (D := (dC, dI)) (ci := 1) (v := .ref cb) (C := RX1) (T := TX1) (N := 7) hx hb hts (fun w h => List.mem_cons_of_mem _ (jnGA_X1 w h)) hown hK hP 1 rfl rfl 4 (by decide) (hts _ (List.mem_cons_of_mem _ mGA_614)) (fun _ h9 => h9) rfl (dk_at dkX11_begin 17 rfl) ?_
      refine lv_iload_n hx hb (dk_at dkX11_begin 18 rfl) rfl (lv_at hl 2 rfl) ?_
      refine va_iald hx hb hK hP 5 3 rfl rfl (gi_in g_61 (by decide)) (dk_at dkX11_begin 19 rfl) ?_
      refine lv_topi (fun x_77 ex_77 => ?_)
      exact W.iret (v := x_77) hx hb hr (fun t ht hW => ⟨⟨x_77, (), rfl, (gi_any x_77), y_63, y_64, y_65, y_66, y_67, y_68, y_69, y_70, f_71, f_72, f_73, f_74, f_75, f_76, gy_63, gy_65, gy_66, gy_68, gy_69, gy_70, gf_72, by rw [ht]; exact hP, hD⟩, hS.F ht⟩) hS.2.2 (dk_at dkX11_begin 20 rfl)
    · have g_78 : gi r_58 0 0 := gi_eq c_59 (gi_c 0 0 (by decide))
      refine lv_bipush (v := (-2)) hx hb (dk_at dkX11_begin 12 rfl) (by decide) ?_
      exact W.iret (v := (-2)) hx hb hr (fun t ht hW => ⟨⟨(-2), (), rfl, (gi_any (-2)), x_courtStands, x_courtNews, x_tallyStands, c_queueLength, c_takenBits, fmonths, ffull, flean, fve, fqu, ftu, fcb, ffal, ffon, gx_courtStands, gx_tallyStands, gc_queueLength, gfmonths, gffull, gflean, gfqu, by rw [ht]; exact hP, hD⟩, hS.F ht⟩) hS.2.2 (dk_at dkX11_begin 13 rfl)
noncomputable def lsX11_ways : List (Nat × Instr × Nat) := [(0, .aload_n 0, 1), (1, .iload_n 1, 1), (2, .invokevirtual 216, 3), (5, .ifCond .eq 14, 3), (8, .aload_n 0, 1), (9, .iload_n 1, 1), (10, .invokevirtual 275, 3), (13, .invokevirtual 279, 3), (16, .goto 5, 3), (19, .bipush (-2), 2), (21, .ireturn, 1)]
theorem dkX11_ways : dkAll cX11_ways lsX11_ways = true := by decide +kernel
abbrev pb_sX11_ways (dC : Nat → ClassId) (dI : Nat → Nat → Nat) (A9 : Nat → Prop) (h0 : Nat) (co : Nat) (ve : Nat) (qu : Nat) (tu : Nat) (cb : Nat) (fr : Nat) (fal : Nat) (fon : Nat) (ta : Nat) (bf : Nat) (bh : Nat) (sa : Nat) (am : Nat) (pl : Nat) (re : Nat) (xr : Nat) (xs : Nat) (xf : Nat) (oc : Nat) (xq : Nat) (xh : Nat) (xk : Nat) (xo : Nat) (x_outLength : Int32) (x_courtStands : Int32) (x_courtNews : Int32) (x_tallyStands : Int32) (x_historyStands : Int32) (c_queueLength : Int32) (c_takenBits : Int32) (kve : ClassId) (fve : Nat → Int32) (kqu : ClassId) (fqu : Nat → Int32) (ktu : ClassId) (ftu : Nat → Int64) (kcb : ClassId) (fcb : Nat → Int32) (fmonths : Int32) (ffull : Int32) (flean : Int32) (kfal : ClassId) (ffal : Nat → Int32) (kfon : ClassId) (ffon : Nat → Int32) (t_months : Int32) (t_full : Int32) (t_lean : Int32) (kbf : ClassId) (fbf : Nat → Int32) (kbh : ClassId) (fbh : Nat → Int32) (ksa : ClassId) (fsa : Nat → Int32) (amonths : Int32) (afull : Int32) (alean : Int32) (alines : Int32) (ahasMoon : Int32) (amoonStart : Int32) (amoonStep : Int32) (aplaceCount : Int32) (areportCount : Int32) (adeedCount : Int32) (de : Nat) (kpl : ClassId) (kre : ClassId) (pa : Nat → Nat) (p_name : Nat → Int32) (p_trust : Nat → Int32) (ra : Nat → Nat) (r_place : Nat → Int32) (r_kind : Nat → Int32) (r_month : Nat → Int32) (r_day : Nat → Int32) (r_known : Nat → Int32) (r_struck : Nat → Int32) (p1 : Int32) (w0_12 : Int32) (w0_13 : Int32) (w0_14 : Int32) (w1_5 : Int32) (w1_6 : Int32) (w6_0 : Int32) (w6_1 : Int32) (w6_2 : Int32) (w9_3 : Int32) (w9_4 : Int32) (w9_5 : Int32) (z2 : Nat → Int32) (z3 : Nat → Int32) (z4 : Nat → Int64) (z5 : Nat → Int32) (z7 : Nat → Int32) (z8 : Nat → Int32) (z10 : Nat → Int32) (z11 : Nat → Int32) (z12 : Nat → Int32) (t : State) : Prop := gi w0_12 0 1 ∧ gi w0_14 0 1 ∧ gi w1_5 0 24 ∧ gi w6_0 0 24 ∧ gi w6_1 0 5 ∧ gi w6_2 0 5 ∧ gi w9_3 0 24 ∧ gi w9_4 0 5 ∧ gi w9_5 0 5 ∧ ga z3 24 0 23 ∧ va_P (dC, dI) vwCl [(h0, .inr (11, [.ref xr, .ref am, .ref xs, .ref xf, .ref co, .ref oc, .ref ta, .ref xq, .ref xh, .ref xk, .ref xo, .int x_outLength, .int w0_12, .int w0_13, .int w0_14, .int x_historyStands])), (co, .inr (1, [.ref fr, .ref ve, .ref qu, .ref tu, .ref cb, .int w1_5, .int w1_6])), (ve, .inl (kve, 24, .inl z2)), (qu, .inl (kqu, 24, .inl z3)), (tu, .inl (ktu, 24, .inr (.inl z4))), (cb, .inl (kcb, 25, .inl z5)), (fr, .inr (3, [.int w6_0, .int w6_1, .int w6_2, .ref fal, .ref fon])), (fal, .inl (kfal, 25, .inl z7)), (fon, .inl (kfon, 275, .inl z8)), (ta, .inr (9, [.ref bf, .ref bh, .ref sa, .int w9_3, .int w9_4, .int w9_5])), (bf, .inl (kbf, 3575, .inl z10)), (bh, .inl (kbh, 3575, .inl z11)), (sa, .inl (ksa, 325, .inl z12))] t.heap ∧ va_D A9 [(h0, .inr (11, [.ref xr, .ref am, .ref xs, .ref xf, .ref co, .ref oc, .ref ta, .ref xq, .ref xh, .ref xk, .ref xo, .int x_outLength, .int w0_12, .int w0_13, .int w0_14, .int x_historyStands])), (co, .inr (1, [.ref fr, .ref ve, .ref qu, .ref tu, .ref cb, .int w1_5, .int w1_6])), (ve, .inl (kve, 24, .inl z2)), (qu, .inl (kqu, 24, .inl z3)), (tu, .inl (ktu, 24, .inr (.inl z4))), (cb, .inl (kcb, 25, .inl z5)), (fr, .inr (3, [.int w6_0, .int w6_1, .int w6_2, .ref fal, .ref fon])), (fal, .inl (kfal, 25, .inl z7)), (fon, .inl (kfon, 275, .inl z8)), (ta, .inr (9, [.ref bf, .ref bh, .ref sa, .int w9_3, .int w9_4, .int w9_5])), (bf, .inl (kbf, 3575, .inl z10)), (bh, .inl (kbh, 3575, .inl z11)), (sa, .inl (ksa, 325, .inl z12))]
set_option maxHeartbeats 4000000 in
set_option maxRecDepth 100000 in
theorem sX11_ways (l : Launch) (dC : Nat → ClassId) (dI : Nat → Nat → Nat) (sz : Nat) (h0 : Nat) (co : Nat) (ve : Nat) (qu : Nat) (tu : Nat) (cb : Nat) (fr : Nat) (fal : Nat) (fon : Nat) (ta : Nat) (bf : Nat) (bh : Nat) (sa : Nat) (am : Nat) (pl : Nat) (re : Nat) (xr : Nat) (xs : Nat) (xf : Nat) (oc : Nat) (xq : Nat) (xh : Nat) (xk : Nat) (xo : Nat) (x_outLength : Int32) (x_courtStands : Int32) (x_courtNews : Int32) (x_tallyStands : Int32) (x_historyStands : Int32) (c_queueLength : Int32) (c_takenBits : Int32) (kve : ClassId) (fve : Nat → Int32) (kqu : ClassId) (fqu : Nat → Int32) (ktu : ClassId) (ftu : Nat → Int64) (kcb : ClassId) (fcb : Nat → Int32) (fmonths : Int32) (ffull : Int32) (flean : Int32) (kfal : ClassId) (ffal : Nat → Int32) (kfon : ClassId) (ffon : Nat → Int32) (t_months : Int32) (t_full : Int32) (t_lean : Int32) (kbf : ClassId) (fbf : Nat → Int32) (kbh : ClassId) (fbh : Nat → Int32) (ksa : ClassId) (fsa : Nat → Int32) (amonths : Int32) (afull : Int32) (alean : Int32) (alines : Int32) (ahasMoon : Int32) (amoonStart : Int32) (amoonStep : Int32) (aplaceCount : Int32) (areportCount : Int32) (adeedCount : Int32) (de : Nat) (kpl : ClassId) (kre : ClassId) (pa : Nat → Nat) (p_name : Nat → Int32) (p_trust : Nat → Int32) (ra : Nat → Nat) (r_place : Nat → Int32) (r_kind : Nat → Int32) (r_month : Nat → Int32) (r_day : Nat → Int32) (r_known : Nat → Int32) (r_struck : Nat → Int32) (p1 : Int32) (gx_outLength : gi x_outLength 0 72) (gx_courtStands : gi x_courtStands 0 1) (gx_tallyStands : gi x_tallyStands 0 1) (gx_historyStands : gi x_historyStands 0 1) (gc_queueLength : gi c_queueLength 0 24) (gfqu : ga fqu 24 0 23) (gfmonths : gi fmonths 0 24) (gffull : gi ffull 0 5) (gflean : gi flean 0 5) (gt_months : gi t_months 0 24) (gt_full : gi t_full 0 5) (gt_lean : gi t_lean 0 5) (gamonths : gi amonths 0 24) (gafull : gi afull 0 5) (galean : gi alean 0 5) (gahasMoon : gi ahasMoon 0 1) (gaplaceCount : gi aplaceCount 0 6) (gareportCount : gi areportCount 0 24) (gadeedCount : gi adeedCount 0 8) (gr_place : ga r_place 24 0 5) (gr_month : ga r_month 24 0 23) (gr_struck : ga r_struck 24 0 1) : Met l yX11_ways (.code yX11_ways cX11_ways 2 (some .int) :: wsGA) ({ frames := 6, cells := 0, slots := 0, locals := 139 }) (va_Pc [.ref h0, .int p1] (fun U => U.heap.size = sz ∧ va_P (dC, dI) vwCl [(h0, .inr (11, [.ref xr, .ref am, .ref xs, .ref xf, .ref co, .ref oc, .ref ta, .ref xq, .ref xh, .ref xk, .ref xo, .int x_outLength, .int x_courtStands, .int x_courtNews, .int x_tallyStands, .int x_historyStands])), (co, .inr (1, [.ref fr, .ref ve, .ref qu, .ref tu, .ref cb, .int c_queueLength, .int c_takenBits])), (ve, .inl (kve, 24, .inl fve)), (qu, .inl (kqu, 24, .inl fqu)), (tu, .inl (ktu, 24, .inr (.inl ftu))), (cb, .inl (kcb, 25, .inl fcb)), (fr, .inr (3, [.int fmonths, .int ffull, .int flean, .ref fal, .ref fon])), (fal, .inl (kfal, 25, .inl ffal)), (fon, .inl (kfon, 275, .inl ffon)), (ta, .inr (9, [.ref bf, .ref bh, .ref sa, .int t_months, .int t_full, .int t_lean])), (bf, .inl (kbf, 3575, .inl fbf)), (bh, .inl (kbh, 3575, .inl fbh)), (sa, .inl (ksa, 325, .inl fsa))] U.heap ∧ va_K (dC, dI) vwCl [(kve, .int), (kqu, .int), (ktu, .long), (kcb, .int), (kfal, .int), (kfon, .int), (kbf, .int), (kbh, .int), (ksa, .int), (kpl, .object RX5), (kre, .object RX7)] U ∧ va_D (fun _ => True) [(h0, .inr (11, [.ref xr, .ref am, .ref xs, .ref xf, .ref co, .ref oc, .ref ta, .ref xq, .ref xh, .ref xk, .ref xo, .int x_outLength, .int x_courtStands, .int x_courtNews, .int x_tallyStands, .int x_historyStands])), (co, .inr (1, [.ref fr, .ref ve, .ref qu, .ref tu, .ref cb, .int c_queueLength, .int c_takenBits])), (ve, .inl (kve, 24, .inl fve)), (qu, .inl (kqu, 24, .inl fqu)), (tu, .inl (ktu, 24, .inr (.inl ftu))), (cb, .inl (kcb, 25, .inl fcb)), (fr, .inr (3, [.int fmonths, .int ffull, .int flean, .ref fal, .ref fon])), (fal, .inl (kfal, 25, .inl ffal)), (fon, .inl (kfon, 275, .inl ffon)), (ta, .inr (9, [.ref bf, .ref bh, .ref sa, .int t_months, .int t_full, .int t_lean])), (bf, .inl (kbf, 3575, .inl fbf)), (bh, .inl (kbh, 3575, .inl fbh)), (sa, .inl (ksa, 325, .inl fsa))] ∧ nzA U ∧ va_P (dC, dI) vwCl [(am, .inr (0, [.int amonths, .int afull, .int alean, .int alines, .int ahasMoon, .int amoonStart, .int amoonStep, .int aplaceCount, .int areportCount, .int adeedCount, .ref pl, .ref re, .ref de])), (pl, .inl (kpl, 6, .inr (.inr (.inr (.inr (fun i => some (pa i))))))), (re, .inl (kre, 24, .inr (.inr (.inr (.inr (fun i => some (ra i)))))))] U.heap ∧ gz_ap (va_A [(h0, .inr (11, [.ref xr, .ref am, .ref xs, .ref xf, .ref co, .ref oc, .ref ta, .ref xq, .ref xh, .ref xk, .ref xo, .int x_outLength, .int x_courtStands, .int x_courtNews, .int x_tallyStands, .int x_historyStands])), (co, .inr (1, [.ref fr, .ref ve, .ref qu, .ref tu, .ref cb, .int c_queueLength, .int c_takenBits])), (ve, .inl (kve, 24, .inl fve)), (qu, .inl (kqu, 24, .inl fqu)), (tu, .inl (ktu, 24, .inr (.inl ftu))), (cb, .inl (kcb, 25, .inl fcb)), (fr, .inr (3, [.int fmonths, .int ffull, .int flean, .ref fal, .ref fon])), (fal, .inl (kfal, 25, .inl ffal)), (fon, .inl (kfon, 275, .inl ffon)), (ta, .inr (9, [.ref bf, .ref bh, .ref sa, .int t_months, .int t_full, .int t_lean])), (bf, .inl (kbf, 3575, .inl fbf)), (bh, .inl (kbh, 3575, .inl fbh)), (sa, .inl (ksa, 325, .inl fsa))] sz) [(am, .inr (0, [.int amonths, .int afull, .int alean, .int alines, .int ahasMoon, .int amoonStart, .int amoonStep, .int aplaceCount, .int areportCount, .int adeedCount, .ref pl, .ref re, .ref de])), (pl, .inl (kpl, 6, .inr (.inr (.inr (.inr (fun i => some (pa i))))))), (re, .inl (kre, 24, .inr (.inr (.inr (.inr (fun i => some (ra i)))))))] ∧ va_P (dC, dI) vwCl (gz_fam 6 pa 5 (fun i => [.int (p_name i), .int (p_trust i)])) U.heap ∧ gz_ap (va_A [(h0, .inr (11, [.ref xr, .ref am, .ref xs, .ref xf, .ref co, .ref oc, .ref ta, .ref xq, .ref xh, .ref xk, .ref xo, .int x_outLength, .int x_courtStands, .int x_courtNews, .int x_tallyStands, .int x_historyStands])), (co, .inr (1, [.ref fr, .ref ve, .ref qu, .ref tu, .ref cb, .int c_queueLength, .int c_takenBits])), (ve, .inl (kve, 24, .inl fve)), (qu, .inl (kqu, 24, .inl fqu)), (tu, .inl (ktu, 24, .inr (.inl ftu))), (cb, .inl (kcb, 25, .inl fcb)), (fr, .inr (3, [.int fmonths, .int ffull, .int flean, .ref fal, .ref fon])), (fal, .inl (kfal, 25, .inl ffal)), (fon, .inl (kfon, 275, .inl ffon)), (ta, .inr (9, [.ref bf, .ref bh, .ref sa, .int t_months, .int t_full, .int t_lean])), (bf, .inl (kbf, 3575, .inl fbf)), (bh, .inl (kbh, 3575, .inl fbh)), (sa, .inl (ksa, 325, .inl fsa))] sz) (gz_fam 6 pa 5 (fun i => [.int (p_name i), .int (p_trust i)])) ∧ va_P (dC, dI) vwCl (gz_fam 24 ra 7 (fun i => [.int (r_place i), .int (r_kind i), .int (r_month i), .int (r_day i), .int (r_known i), .int (r_struck i)])) U.heap ∧ gz_ap (va_A [(h0, .inr (11, [.ref xr, .ref am, .ref xs, .ref xf, .ref co, .ref oc, .ref ta, .ref xq, .ref xh, .ref xk, .ref xo, .int x_outLength, .int x_courtStands, .int x_courtNews, .int x_tallyStands, .int x_historyStands])), (co, .inr (1, [.ref fr, .ref ve, .ref qu, .ref tu, .ref cb, .int c_queueLength, .int c_takenBits])), (ve, .inl (kve, 24, .inl fve)), (qu, .inl (kqu, 24, .inl fqu)), (tu, .inl (ktu, 24, .inr (.inl ftu))), (cb, .inl (kcb, 25, .inl fcb)), (fr, .inr (3, [.int fmonths, .int ffull, .int flean, .ref fal, .ref fon])), (fal, .inl (kfal, 25, .inl ffal)), (fon, .inl (kfon, 275, .inl ffon)), (ta, .inr (9, [.ref bf, .ref bh, .ref sa, .int t_months, .int t_full, .int t_lean])), (bf, .inl (kbf, 3575, .inl fbf)), (bh, .inl (kbh, 3575, .inl fbh)), (sa, .inl (ksa, 325, .inl fsa))] sz) (gz_fam 24 ra 7 (fun i => [.int (r_place i), .int (r_kind i), .int (r_month i), .int (r_day i), .int (r_known i), .int (r_struck i)])))) (va_Qi (fun (r : Int32) (u : Unit) => gi r (-2147483648) 2147483647) (fun _ t => ∃ (w0_12 : Int32) (w0_13 : Int32) (w0_14 : Int32) (w1_5 : Int32) (w1_6 : Int32) (w6_0 : Int32) (w6_1 : Int32) (w6_2 : Int32) (w9_3 : Int32) (w9_4 : Int32) (w9_5 : Int32) (z2 : Nat → Int32) (z3 : Nat → Int32) (z4 : Nat → Int64) (z5 : Nat → Int32) (z7 : Nat → Int32) (z8 : Nat → Int32) (z10 : Nat → Int32) (z11 : Nat → Int32) (z12 : Nat → Int32), pb_sX11_ways dC dI (va_A [(h0, .inr (11, [.ref xr, .ref am, .ref xs, .ref xf, .ref co, .ref oc, .ref ta, .ref xq, .ref xh, .ref xk, .ref xo, .int x_outLength, .int x_courtStands, .int x_courtNews, .int x_tallyStands, .int x_historyStands])), (co, .inr (1, [.ref fr, .ref ve, .ref qu, .ref tu, .ref cb, .int c_queueLength, .int c_takenBits])), (ve, .inl (kve, 24, .inl fve)), (qu, .inl (kqu, 24, .inl fqu)), (tu, .inl (ktu, 24, .inr (.inl ftu))), (cb, .inl (kcb, 25, .inl fcb)), (fr, .inr (3, [.int fmonths, .int ffull, .int flean, .ref fal, .ref fon])), (fal, .inl (kfal, 25, .inl ffal)), (fon, .inl (kfon, 275, .inl ffon)), (ta, .inr (9, [.ref bf, .ref bh, .ref sa, .int t_months, .int t_full, .int t_lean])), (bf, .inl (kbf, 3575, .inl fbf)), (bh, .inl (kbh, 3575, .inl fbh)), (sa, .inl (ksa, 325, .inl fsa))] sz) h0 co ve qu tu cb fr fal fon ta bf bh sa am pl re xr xs xf oc xq xh xk xo x_outLength x_courtStands x_courtNews x_tallyStands x_historyStands c_queueLength c_takenBits kve fve kqu fqu ktu ftu kcb fcb fmonths ffull flean kfal ffal kfon ffon t_months t_full t_lean kbf fbf kbh fbh ksa fsa amonths afull alean alines ahasMoon amoonStart amoonStep aplaceCount areportCount adeedCount de kpl kre pa p_name p_trust ra r_place r_kind r_month r_day r_known r_struck p1 w0_12 w0_13 w0_14 w1_5 w1_6 w6_0 w6_1 w6_2 w9_3 w9_4 w9_5 z2 z3 z4 z5 z7 z8 z10 z11 z12 t) (va_A [(h0, .inr (11, [.ref xr, .ref am, .ref xs, .ref xf, .ref co, .ref oc, .ref ta, .ref xq, .ref xh, .ref xk, .ref xo, .int x_outLength, .int x_courtStands, .int x_courtNews, .int x_tallyStands, .int x_historyStands])), (co, .inr (1, [.ref fr, .ref ve, .ref qu, .ref tu, .ref cb, .int c_queueLength, .int c_takenBits])), (ve, .inl (kve, 24, .inl fve)), (qu, .inl (kqu, 24, .inl fqu)), (tu, .inl (ktu, 24, .inr (.inl ftu))), (cb, .inl (kcb, 25, .inl fcb)), (fr, .inr (3, [.int fmonths, .int ffull, .int flean, .ref fal, .ref fon])), (fal, .inl (kfal, 25, .inl ffal)), (fon, .inl (kfon, 275, .inl ffon)), (ta, .inr (9, [.ref bf, .ref bh, .ref sa, .int t_months, .int t_full, .int t_lean])), (bf, .inl (kbf, 3575, .inl fbf)), (bh, .inl (kbh, 3575, .inl fbh)), (sa, .inl (ksa, 325, .inl fsa))] sz)) 0 0 (va_A [(h0, .inr (11, [.ref xr, .ref am, .ref xs, .ref xf, .ref co, .ref oc, .ref ta, .ref xq, .ref xh, .ref xk, .ref xo, .int x_outLength, .int x_courtStands, .int x_courtNews, .int x_tallyStands, .int x_historyStands])), (co, .inr (1, [.ref fr, .ref ve, .ref qu, .ref tu, .ref cb, .int c_queueLength, .int c_takenBits])), (ve, .inl (kve, 24, .inl fve)), (qu, .inl (kqu, 24, .inl fqu)), (tu, .inl (ktu, 24, .inr (.inl ftu))), (cb, .inl (kcb, 25, .inl fcb)), (fr, .inr (3, [.int fmonths, .int ffull, .int flean, .ref fal, .ref fon])), (fal, .inl (kfal, 25, .inl ffal)), (fon, .inl (kfon, 275, .inl ffon)), (ta, .inr (9, [.ref bf, .ref bh, .ref sa, .int t_months, .int t_full, .int t_lean])), (bf, .inl (kbf, 3575, .inl fbf)), (bh, .inl (kbh, 3575, .inl fbh)), (sa, .inl (ksa, 325, .inl fsa))] sz) := by
  refine Met.ofW (cc := cX11_ways) (maxL := 2) (ret := (some .int)) (by decide) rfl ?_
  intro p e s m args below meth c s₁ B hml hv
  obtain ⟨rfl, hsz, hP, hK, hD0, hz, hR, hRA, hF0, hFA0, hF1, hFA1⟩ := hv
  have hx := B.exec
  have hb := B.bytes
  have hr := B.returns
  have hts := atoms_spec (ws := (.code yX11_ways cX11_ways 2 (some .int) :: wsGA)) B.pre
  have hown : s.vm.findClass RX11 = some m.cls := findClass_of_methodNamed B.named
  have hlocks := B.notSynchronized
  subst hsz
  have hD := hD0.self (sz := s.heap.size)
  generalize hAe : va_A [(h0, .inr (11, [.ref xr, .ref am, .ref xs, .ref xf, .ref co, .ref oc, .ref ta, .ref xq, .ref xh, .ref xk, .ref xo, .int x_outLength, .int x_courtStands, .int x_courtNews, .int x_tallyStands, .int x_historyStands])), (co, .inr (1, [.ref fr, .ref ve, .ref qu, .ref tu, .ref cb, .int c_queueLength, .int c_takenBits])), (ve, .inl (kve, 24, .inl fve)), (qu, .inl (kqu, 24, .inl fqu)), (tu, .inl (ktu, 24, .inr (.inl ftu))), (cb, .inl (kcb, 25, .inl fcb)), (fr, .inr (3, [.int fmonths, .int ffull, .int flean, .ref fal, .ref fon])), (fal, .inl (kfal, 25, .inl ffal)), (fon, .inl (kfon, 275, .inl ffon)), (ta, .inr (9, [.ref bf, .ref bh, .ref sa, .int t_months, .int t_full, .int t_lean])), (bf, .inl (kbf, 3575, .inl fbf)), (bh, .inl (kbh, 3575, .inl fbh)), (sa, .inl (ksa, 325, .inl fsa))] s.heap.size = A at hD hRA hFA0 hFA1 ⊢
  have hA : ∀ q : Nat, s.heap.size ≤ q → A q := fun q h => by rw [← hAe]; exact Or.inr h
  have hS : va_S A s.heap s.heap [] := va_S.rf
  have hl := lv_entry ([.ref h0, .int p1]) (n := 2) (Nat.le_of_ble_eq_true rfl)
  rw [lg_entry_eq]
  generalize (lg_sl ([.ref h0, .int p1]) ++ List.replicate (2 - (lg_sl ([.ref h0, .int p1])).length) Slot.unset).toArray = ls at hl ⊢
  have hl : lv_has ls 2 [(0, .ref h0), (1, .int p1)] := hl
  refine lv_aload_n hx hb (dk_at dkX11_ways 0 rfl) rfl (lv_at hl 0 rfl) ?_
  refine lv_iload_n hx hb (dk_at dkX11_ways 1 rfl) rfl (lv_at hl 1 rfl) ?_
  have hPc : va_P (dC, dI) vwCl [(h0, .inr (11, [.ref xr, .ref am, .ref xs, .ref xf, .ref co, .ref oc, .ref ta, .ref xq, .ref xh, .ref xk, .ref xo, .int x_outLength, .int x_courtStands, .int x_courtNews, .int x_tallyStands, .int x_historyStands])), (am, .inr (0, [.int amonths, .int afull, .int alean, .int alines, .int ahasMoon, .int amoonStart, .int amoonStep, .int aplaceCount, .int areportCount, .int adeedCount, .ref pl, .ref re, .ref de]))] s.heap := (gz_cat (hP.sub [0] rfl) ((gz_ro hR hRA hS).sub [0] rfl))
  have hKc := hK.sub (tys' := []) [] rfl
  refine va_calli (va_runV (As := [.int p1]) (rest := []) ⟨hx, hb, hml, hown, hts⟩ (sX11_hasTime l dC dI h0 am xr xs xf co oc ta xq xh xk xo x_outLength x_courtStands x_courtNews x_tallyStands x_historyStands amonths afull alean alines ahasMoon amoonStart amoonStep aplaceCount areportCount adeedCount pl re de p1 gx_outLength gx_courtStands gx_tallyStands gx_historyStands gamonths gafull galean gahasMoon gaplaceCount gareportCount gadeedCount) (cwV 1 hts (gz_gV mGA_424 mGA_425 mGA_426 mGA_1 mGA_427 goodGA) rfl rfl rfl (by decide +kernel) ⟨Nat.le_of_ble_eq_true rfl, Nat.le_of_ble_eq_true rfl⟩) ⟨bl_I (bl_a bl_P (bl_a bl_K bl_nz)), va_recv hKc hPc (ci := 11) (q0 := 0) rfl rfl, fun U hU hW => ⟨rfl, by rw [hU]; exact hPc, va_K.moved hW.alike hKc, nzA_warm hW hz⟩⟩ rfl rfl hl.1 rfl (lv_room (Nat.le_of_ble_eq_true rfl)) (dk_at dkX11_ways 2 rfl) ⟨Nat.zero_le _, Nat.zero_le _⟩) hS (fun q _ h => h.elim) (fun q h => h.elim) (fun r_55 u t H1 locs ht hvm hw hB hz1 hk1 hS => ?_)
  obtain ⟨hw, hE⟩ := hw
  have hP := gz_keep hP hk1
  generalize H1 = H at hP hS ⊢
  have gr_55 : gi r_55 0 1 := hw.1
  have hqr_55 := hw.2
  refine lv_if_eq (tgt := 19) hx hb (dk_at dkX11_ways 3 rfl) (by decide) (fun c_56 => ?_) (fun c_56 => ?_)
  · have g_57 : gi r_55 0 0 := gi_eq c_56 (gi_c 0 0 (by decide))
    refine lv_bipush (v := (-2)) hx hb (dk_at dkX11_ways 9 rfl) (by decide) ?_
    exact W.iret (v := (-2)) hx hb hr (fun t ht hW => ⟨⟨(-2), (), rfl, (gi_any (-2)), x_courtStands, x_courtNews, x_tallyStands, c_queueLength, c_takenBits, fmonths, ffull, flean, t_months, t_full, t_lean, fve, fqu, ftu, fcb, ffal, ffon, fbf, fbh, fsa, gx_courtStands, gx_tallyStands, gc_queueLength, gfmonths, gffull, gflean, gt_months, gt_full, gt_lean, gfqu, by rw [ht]; exact hP, hD⟩, hS.F ht⟩) hS.2.2 (dk_at dkX11_ways 10 rfl)
  · have g_58 : gi r_55 1 1 := gi_ne_lo c_56 gr_55 (gi_c 0 0 (by decide)) (by decide)
    have g_59 : gi p1 0 999 := gi_cap (gi_any p1) (hqr_55 (gz_one g_58)) (by decide)
    refine lv_aload_n hx hb (dk_at dkX11_ways 4 rfl) rfl (lv_at hl 0 rfl) ?_
    refine lv_iload_n hx hb (dk_at dkX11_ways 5 rfl) rfl (lv_at hl 1 rfl) ?_
    obtain ⟨hPc, hDc, hFc⟩ := gz_cut (wc := [(h0, .inr (11, [.ref xr, .ref am, .ref xs, .ref xf, .ref co, .ref oc, .ref ta, .ref xq, .ref xh, .ref xk, .ref xo, .int x_outLength, .int x_courtStands, .int x_courtNews, .int x_tallyStands, .int x_historyStands])), (co, .inr (1, [.ref fr, .ref ve, .ref qu, .ref tu, .ref cb, .int c_queueLength, .int c_takenBits])), (ve, .inl (kve, 24, .inl fve)), (qu, .inl (kqu, 24, .inl fqu)), (tu, .inl (ktu, 24, .inr (.inl ftu))), (cb, .inl (kcb, 25, .inl fcb)), (fr, .inr (3, [.int fmonths, .int ffull, .int flean, .ref fal, .ref fon])), (fal, .inl (kfal, 25, .inl ffal)), (fon, .inl (kfon, 275, .inl ffon)), (ta, .inr (9, [.ref bf, .ref bh, .ref sa, .int t_months, .int t_full, .int t_lean])), (bf, .inl (kbf, 3575, .inl fbf)), (bh, .inl (kbh, 3575, .inl fbh)), (sa, .inl (ksa, 325, .inl fsa))]) hP hD hS hA [0, 1, 2, 3, 4, 5, 6, 7, 8, 9, 10, 11, 12] (by decide) rfl
    have hKc := hK.sub (tys' := [(kve, .int), (kqu, .int), (ktu, .long), (kcb, .int), (kfal, .int), (kfon, .int), (kbf, .int), (kbh, .int), (ksa, .int), (kpl, .object RX5), (kre, .object RX7)]) [0, 1, 2, 3, 4, 5, 6, 7, 8, 9, 10] rfl
    have hRc_ : va_P (dC, dI) vwCl [(am, .inr (0, [.int amonths, .int afull, .int alean, .int alines, .int ahasMoon, .int amoonStart, .int amoonStep, .int aplaceCount, .int areportCount, .int adeedCount, .ref pl, .ref re, .ref de])), (pl, .inl (kpl, 6, .inr (.inr (.inr (.inr (fun i => some (pa i))))))), (re, .inl (kre, 24, .inr (.inr (.inr (.inr (fun i => some (ra i)))))))] H := (gz_cat ((gz_ro hR hRA hS).sub [0] rfl) (gz_cat ((gz_ro hR hRA hS).sub [1] rfl) ((gz_ro hR hRA hS).sub [2] rfl)))
    have hRa_ : gz_ap (va_A [(h0, .inr (11, [.ref xr, .ref am, .ref xs, .ref xf, .ref co, .ref oc, .ref ta, .ref xq, .ref xh, .ref xk, .ref xo, .int x_outLength, .int x_courtStands, .int x_courtNews, .int x_tallyStands, .int x_historyStands])), (co, .inr (1, [.ref fr, .ref ve, .ref qu, .ref tu, .ref cb, .int c_queueLength, .int c_takenBits])), (ve, .inl (kve, 24, .inl fve)), (qu, .inl (kqu, 24, .inl fqu)), (tu, .inl (ktu, 24, .inr (.inl ftu))), (cb, .inl (kcb, 25, .inl fcb)), (fr, .inr (3, [.int fmonths, .int ffull, .int flean, .ref fal, .ref fon])), (fal, .inl (kfal, 25, .inl ffal)), (fon, .inl (kfon, 275, .inl ffon)), (ta, .inr (9, [.ref bf, .ref bh, .ref sa, .int t_months, .int t_full, .int t_lean])), (bf, .inl (kbf, 3575, .inl fbf)), (bh, .inl (kbh, 3575, .inl fbh)), (sa, .inl (ksa, 325, .inl fsa))] H.size) [(am, .inr (0, [.int amonths, .int afull, .int alean, .int alines, .int ahasMoon, .int amoonStart, .int amoonStep, .int aplaceCount, .int areportCount, .int adeedCount, .ref pl, .ref re, .ref de])), (pl, .inl (kpl, 6, .inr (.inr (.inr (.inr (fun i => some (pa i))))))), (re, .inl (kre, 24, .inr (.inr (.inr (.inr (fun i => some (ra i)))))))] := (gz_apc (gz_apR (gz_ap1 hRA 0 rfl) hFc) (gz_apc (gz_apR (gz_ap1 hRA 1 rfl) hFc) (gz_apR (gz_ap1 hRA 2 rfl) hFc)))
    refine va_callr (va_runV (As := [.int p1]) (rest := []) ⟨hx, hb, hml, hown, hts⟩ (sX11_tallyBy l dC dI H.size h0 co ve qu tu cb fr fal fon ta bf bh sa am pl re xr xs xf oc xq xh xk xo x_outLength x_courtStands x_courtNews x_tallyStands x_historyStands c_queueLength c_takenBits kve fve kqu fqu ktu ftu kcb fcb fmonths ffull flean kfal ffal kfon ffon t_months t_full t_lean kbf fbf kbh fbh ksa fsa amonths afull alean alines ahasMoon amoonStart amoonStep aplaceCount areportCount adeedCount de kpl kre pa p_name p_trust ra r_place r_kind r_month r_day r_known r_struck p1 gx_outLength gx_courtStands gx_tallyStands gx_historyStands gc_queueLength gfqu gfmonths gffull gflean gt_months gt_full gt_lean gamonths gafull galean gahasMoon gaplaceCount gareportCount gadeedCount gr_place gr_month gr_struck) (cwV 1 hts (gz_gV mGA_550 mGA_551 mGA_552 mGA_1 mGA_553 goodGA) rfl rfl rfl (by decide +kernel) ⟨Nat.le_of_ble_eq_true rfl, Nat.le_of_ble_eq_true rfl⟩) ⟨bl_I (bl_a bl_sz (bl_a bl_P (bl_a bl_K (bl_a bl_c (bl_a bl_nz (bl_a bl_P (bl_a bl_c (bl_a bl_P (bl_a bl_c (bl_a bl_P bl_c)))))))))), va_recv hKc hPc (ci := 11) (q0 := 0) rfl rfl, fun U hU hW => ⟨rfl, by rw [hU], by rw [hU]; exact hPc, va_K.moved hW.alike hKc, hDc.weaken (fun _ _ _ _ => trivial), nzA_warm hW hz, by rw [hU]; exact hRc_, hRa_, by rw [hU]; exact gz_ro hF0 hFA0 hS, gz_apR hFA0 hFc, by rw [hU]; exact gz_ro hF1 hFA1 hS, gz_apR hFA1 hFc⟩⟩ rfl rfl hl.1 rfl (lv_room (Nat.le_of_ble_eq_true rfl)) (dk_at dkX11_ways 6 rfl) ⟨Nat.zero_le _, Nat.zero_le _⟩) hS (fun q _ h => hFc q h) hFc (fun u r_60 t H1 locs ht hvm hw hB hz1 hk1 hS => ?_)
    obtain ⟨hra, hB⟩ := hB
    have hra := hra.symm
    subst hra
    obtain ⟨y_61, y_62, y_63, y_64, y_65, y_66, y_67, y_68, y_69, y_70, y_71, f_72, f_73, f_74, f_75, f_76, f_77, f_78, f_79, f_80, hB⟩ := hB
    obtain ⟨gy_61, gy_63, gy_64, gy_66, gy_67, gy_68, gy_69, gy_70, gy_71, gf_73, hP1, hD1⟩ := hB
    rw [ht] at hP1
    obtain ⟨hP, hD⟩ := gz_back hP hD hk1 hFc hP1 hD1 [0, 1, 2, 3, 4, 5, 6, 7, 8, 9, 10, 11, 12] rfl rfl
    obtain ⟨hP, hD⟩ := gz_both (w := [(h0, .inr (11, [.ref xr, .ref am, .ref xs, .ref xf, .ref co, .ref oc, .ref ta, .ref xq, .ref xh, .ref xk, .ref xo, .int x_outLength, .int y_61, .int y_62, .int y_63, .int x_historyStands])), (co, .inr (1, [.ref fr, .ref ve, .ref qu, .ref tu, .ref cb, .int y_64, .int y_65])), (ve, .inl (kve, 24, .inl f_72)), (qu, .inl (kqu, 24, .inl f_73)), (tu, .inl (ktu, 24, .inr (.inl f_74))), (cb, .inl (kcb, 25, .inl f_75)), (fr, .inr (3, [.int y_66, .int y_67, .int y_68, .ref fal, .ref fon])), (fal, .inl (kfal, 25, .inl f_76)), (fon, .inl (kfon, 275, .inl f_77)), (ta, .inr (9, [.ref bf, .ref bh, .ref sa, .int y_69, .int y_70, .int y_71])), (bf, .inl (kbf, 3575, .inl f_78)), (bh, .inl (kbh, 3575, .inl f_79)), (sa, .inl (ksa, 325, .inl f_80))]) hP hD
    generalize H1 = H at hP hS ⊢
    have hPc := hP.sub (ws' := [(ta, .inr (9, [.ref bf, .ref bh, .ref sa, .int y_69, .int y_70, .int y_71])), (bh, .inl (kbh, 3575, .inl f_79))]) [9, 11] rfl
    have hKc := hK.sub (tys' := [(kbh, .int)]) [7] rfl
    refine va_calli (va_runV (As := []) (rest := []) ⟨hx, hb, hml, hown, hts⟩ (sX9_total l dC dI ta bh bf sa y_69 y_70 y_71 kbh f_79 gy_69 gy_70 gy_71) (cwV 0 hts (gz_gV mGA_607 mGA_608 mGA_609 mGA_27 mGA_610 goodGA) rfl rfl rfl (by decide +kernel) ⟨Nat.le_of_ble_eq_true rfl, Nat.le_of_ble_eq_true rfl⟩) ⟨bl_I (bl_a bl_P (bl_a bl_K bl_nz)), va_recv hKc hPc (ci := 9) (q0 := 0) rfl rfl, fun U hU hW => ⟨rfl, by rw [hU]; exact hPc, va_K.moved hW.alike hKc, nzA_warm hW hz⟩⟩ rfl rfl hl.1 rfl (lv_room (Nat.le_of_ble_eq_true rfl)) (dk_at dkX11_ways 7 rfl) ⟨Nat.zero_le _, Nat.zero_le _⟩) hS (fun q _ h => h.elim) (fun q h => h.elim) (fun r_81 u t H1 locs ht hvm hw hB hz1 hk1 hS => ?_)
    have hP := gz_keep hP hk1
    generalize H1 = H at hP hS ⊢
    refine lv_goto (tgt := 21) hx hb (dk_at dkX11_ways 8 rfl) (by decide) ?_
    exact W.iret (v := r_81) hx hb hr (fun t ht hW => ⟨⟨r_81, (), rfl, (gi_any r_81), y_61, y_62, y_63, y_64, y_65, y_66, y_67, y_68, y_69, y_70, y_71, f_72, f_73, f_74, f_75, f_76, f_77, f_78, f_79, f_80, gy_61, gy_63, gy_64, gy_66, gy_67, gy_68, gy_69, gy_70, gy_71, gf_73, by rw [ht]; exact hP, hD⟩, hS.F ht⟩) hS.2.2 (dk_at dkX11_ways 10 rfl)
