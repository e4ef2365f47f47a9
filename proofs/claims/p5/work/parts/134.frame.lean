theorem op_bit : ∀ m, m < 25 → ∀ i, i < 32 → bt (((2 : Int32) <<< (nI m &&& 31)) - (1 : Int32)) i = decide (i ≤ m) := by
  decide +kernel
theorem opn_s (fal : Nat → Int32) (M F L : Int32) (z : Nat) (v a b c : Int32) (w : Nat → Int32) : lfX3_open fal M F L (z + 1) v a b c w = dfX3_open_26 fal M F L (lfX3_open fal M F L z) v a b c w := rfl
theorem op_L {fal : Nat → Int32} {am af al : Int32} {M : Nat} {F L : Int32} (hM : M ≤ 24) : ∀ (k m z : Nat) (w : Nat → Int32), m + k = M + 1 → k < z → ∃ g : Nat → Int32, lfX3_open fal am af al z (nI m) (nI M) F L w = (nI M, F, L, g) ∧ (∀ j, m ≤ j → j ≤ M → g j = ((2 : Int32) <<< (nI j &&& 31)) - (1 : Int32)) ∧ ∀ j, j < m → g j = w j := by
  intro k
  induction k with
  | zero =>
    intro m z w hm hz
    obtain ⟨z, rfl⟩ : ∃ y, z = y + 1 := ⟨z - 1, by omega⟩
    refine ⟨w, ?_, fun j h1 h2 => absurd h2 (by omega), fun j _ => rfl⟩
    rw [opn_s]
    unfold dfX3_open_26
    rw [if_pos (nI_lt (by omega) (by omega))]
  | succ k ih =>
    intro m z w hm hz
    obtain ⟨z, rfl⟩ : ∃ y, z = y + 1 := ⟨z - 1, by omega⟩
    obtain ⟨g, h1, h2, h3⟩ := ih (m + 1) z (upd w m (((2 : Int32) <<< (nI m &&& 31)) - (1 : Int32))) (by omega) (by omega)
    refine ⟨g, ?_, ?_, ?_⟩
    · rw [opn_s]
      unfold dfX3_open_26
      rw [if_neg (nI_nlt (by omega) (by omega)), nI_1, nI_clamp (by omega)]
      exact h1
    · intro j q1 q2
      by_cases e : j = m
      · rw [e, h3 m (by omega)]
        exact if_pos rfl
      · exact h2 j (by omega) q2
    · intro j q
      rw [h3 j (by omega)]
      exact if_neg (by omega)
def okF : Nat → Nat → Bool := fun _ _ => true
theorem op_open {fal : Nat → Int32} {M : Nat} {F L : Int32} (hM : M ≤ 24) : ∃ g : Nat → Int32, fX3_open fal (nI M) F L = (nI M, F, L, g) ∧ fxA g M okF := by
  obtain ⟨g, h1, h2, _⟩ := op_L (fal := fal) (am := nI M) (af := F) (al := L) (F := F) (L := L) hM (M + 1) 0 1000000000 fal (by omega) (by omega)
  refine ⟨g, ?_, fun m hm i hi => ?_⟩
  · unfold fX3_open
    rw [← nI_0]
    exact h1
  · rw [h2 m (by omega) hm, op_bit m (by omega) i hi]
    simp [okF]
def rg (k m d a : Nat) : Bool := if k = 2 then true else if k = 0 then decide (29 * m + a = d + 1) else decide (d + 1 < 29 * m + a)
theorem sh_1 : ∀ n, n < 32 → ∀ i, i < 32 → bt ((1 : Int32) <<< (nI n &&& 31)) i = decide (i = n) := by
  decide +kernel
theorem sh_m2 : ∀ n, n < 32 → ∀ i, i < 32 → bt ((-2 : Int32) <<< (nI n &&& 31)) i = decide (n < i) := by
  decide +kernel
theorem rt_v {m d : Nat} (hm : m ≤ 24) (hd : d ≤ 999) : ((nI d + (1 : Int32)) - ((29 : Int32) * nI m)).toInt = (d : Int) + 1 - 29 * m := by
  have e : (nI d + (1 : Int32)) - ((29 : Int32) * nI m) = nI (d + 1) - nI (29 * m) := by
    rw [nI_1, show (29 : Int32) = nI 29 from rfl, pk_mul]
  have h1 := nI_toInt (n := d + 1) (by omega)
  have h2 := nI_toInt (n := 29 * m) (by omega)
  have q := gi_subI (z := (nI d + (1 : Int32)) - ((29 : Int32) * nI m)) e (by rw [h1, h2]; omega) (by rw [h1, h2]; omega)
  rw [q, h1, h2]
  omega
theorem rt_right {k m d : Nat} (hk : k ≤ 2) (hm : m ≤ 24) (hd : d ≤ 999) : ∀ i, i < 32 → bt (fX3_rightFor (nI k) (nI m) (nI d)) i = (decide (i ≤ m) && rg k m d i) := by
  intro i hi
  have hall := op_bit m (by omega) i hi
  have hv := rt_v hm hd
  unfold fX3_rightFor
  generalize hw : (nI d + (1 : Int32)) - ((29 : Int32) * nI m) = v at hv ⊢
  have hmI := nI_toInt (n := m) (by omega)
  have hin : ∀ q : Bool, (∀ n : Nat, d + 1 = 29 * m + n → n ≤ m → bt (if nI k = (0 : Int32) then bfX3_rightFor_79 (nI k) (nI m) (nI d) ((1 : Int32) <<< (nI n &&& 31)) else bfX3_rightFor_79 (nI k) (nI m) (nI d) ((((2 : Int32) <<< (nI m &&& 31)) - (1 : Int32)) &&& ((-2 : Int32) <<< (nI n &&& 31)))) i = q) → (¬ (∃ n : Nat, d + 1 = 29 * m + n ∧ n ≤ m) → false = q) → bt (bfX3_rightFor_46 (nI k) (nI m) (nI d) (((2 : Int32) <<< (nI m &&& 31)) - (1 : Int32)) v) i = q := by
    intro q h1 h2
    unfold bfX3_rightFor_46 bfX3_rightFor_58
    by_cases h3 : v < 0
    · rw [if_pos h3, b_0]
      have h4 := Int32.lt_iff_toInt_lt.mp h3
      rw [z32] at h4
      exact h2 (fun ⟨n, e1, e2⟩ => by omega)
    · rw [if_neg h3]
      have h4 : ¬ v.toInt < 0 := fun q => h3 (Int32.lt_iff_toInt_lt.mpr (by rw [z32]; exact q))
      by_cases h5 : v ≤ nI m
      · have h6 := Int32.le_iff_toInt_le.mp h5
        obtain ⟨n, hn, rfl⟩ := nI_of h3
        rw [nI_toInt hn] at hv h6
        rw [if_pos h5]
        exact h1 n (by omega) (by omega)
      · rw [if_neg h5, b_0]
        have h6 : ¬ v.toInt ≤ (nI m).toInt := fun q => h5 (Int32.le_iff_toInt_le.mpr q)
        exact h2 (fun ⟨n, e1, e2⟩ => by omega)
  rcases (show k = 0 ∨ k = 1 ∨ k = 2 by omega) with rfl | rfl | rfl
  · rw [if_neg (by decide), if_neg (by decide)]
    refine hin _ (fun n e1 e2 => ?_) (fun h => ?_)
    · rw [if_pos nI_0]
      unfold bfX3_rightFor_79
      rw [sh_1 n (by omega) i hi]
      unfold rg
      rw [if_neg (by decide), if_pos rfl]
      by_cases e : i = n
      · have e3 : i ≤ m := by omega
        have e4 : 29 * m + i = d + 1 := by omega
        simp [e, e1] ; omega
      · have e4 : ¬ 29 * m + i = d + 1 := by omega
        simp [e, e4]
    · unfold rg
      rw [if_neg (by decide), if_pos rfl]
      by_cases e : i ≤ m
      · have e4 : ¬ 29 * m + i = d + 1 := fun q => h ⟨i, q.symm, e⟩
        simp [e4]
      · simp [e]
  · rw [if_neg (by decide), if_pos (by decide)]
    have hr : rg 1 m d i = decide (d + 1 < 29 * m + i) := by
      unfold rg
      rw [if_neg (by decide), if_neg (by decide)]
    by_cases h0 : (0 : Int32) ≤ v
    · rw [if_pos h0, hr]
      refine hin _ (fun n e1 e2 => ?_) (fun h => ?_)
      · rw [if_neg (by decide)]
        unfold bfX3_rightFor_79
        rw [b_and, hall, sh_m2 n (by omega) i hi]
        congr 1
        exact decide_eq_decide.mpr ⟨fun _ => by omega, fun _ => by omega⟩
      · have h6 := Int32.le_iff_toInt_le.mp h0
        rw [z32] at h6
        by_cases e : i ≤ m
        · have e4 : ¬ d + 1 < 29 * m + i := fun q => h ⟨d + 1 - 29 * m, by omega, by omega⟩
          simp [e4]
        · simp [e]
    · rw [if_neg h0, hr]
      unfold bfX3_rightFor_44
      rw [hall]
      have h6 : ¬ 0 ≤ v.toInt := fun q => h0 (Int32.le_iff_toInt_le.mpr (by rw [z32]; exact q))
      have e4 : d + 1 < 29 * m + i := by omega
      simp [e4]
  · rw [if_pos (by decide)]
    unfold bfX3_rightFor_44 rg
    rw [hall, if_pos rfl]
    simp
def nrw (ok : Nat → Nat → Bool) (k m d : Nat) : Nat → Nat → Bool := fun m' a => ok m' a && (decide (¬ m' = m) || rg k m d a)
theorem nw_narrow {fal : Nat → Int32} {M k m d : Nat} {ok : Nat → Nat → Bool} (hA : fxA fal M ok) (hk : k ≤ 2) (hm : m ≤ 24) (hd : d ≤ 999) : fxA (fX3_narrow fal (nI k) (nI m) (nI d)) M (nrw ok k m d) := by
  intro m' hm' i hi
  unfold fX3_narrow
  rw [cal_b, nI_clamp (by omega)]
  unfold upd nrw
  by_cases e : m' = m
  · rw [if_pos e, b_and, rt_right hk hm hd i hi]
    subst e
    rw [hA m' hm' i hi]
    cases decide (i ≤ m') <;> cases ok m' i <;> simp
  · rw [if_neg e, hA m' hm' i hi]
    simp [e]
theorem nw_at {fal : Nat → Int32} {k m d j : Nat} (hm : m ≤ 24) (hj : ¬ j = m) : fX3_narrow fal (nI k) (nI m) (nI d) j = fal j := by
  unfold fX3_narrow
  rw [cal_b, nI_clamp (by omega)]
  exact if_neg hj
theorem nw_same {fal : Nat → Int32} {M k m d : Nat} {ok : Nat → Nat → Bool} (hA : fxA fal M ok) (hk : k ≤ 2) (hm : m ≤ 24) (hd : d ≤ 999) (hM : M ≤ 24) (hmM : m ≤ M) (hs : fX3_narrow fal (nI k) (nI m) (nI d) m = fal m) : ∀ m' a : Nat, m' ≤ M → a ≤ m' → nrw ok k m d m' a = ok m' a := by
  intro m' a h1 h2
  have q1 := nw_narrow hA hk hm hd m' h1 a (by omega)
  have q2 := hA m' h1 a (by omega)
  have e : fX3_narrow fal (nI k) (nI m) (nI d) m' = fal m' := by
    by_cases e : m' = m
    · rw [e]; exact hs
    · exact nw_at hm e
  rw [e, q2] at q1
  have h3 : a ≤ m' := h2
  simp only [h3, decide_true, Bool.true_and] at q1
  exact q1.symm
theorem wy_cong {F L M : Nat} {ok oj : Nat → Nat → Bool} (h : ∀ m a : Nat, m ≤ M → a ≤ m → ok m a = oj m a) : ∀ (d m a r : Nat), m + d ≤ M → a ≤ m → wy F L ok d m a r = wy F L oj d m a r := by
  intro d
  induction d with
  | zero =>
    intro m a r h1 h2
    rw [wy, wy, h m a (by omega) h2]
  | succ d ih =>
    intro m a r h1 h2
    rw [wy, wy, h m a (by omega) h2, ih (m + 1) a _ (by omega) (by omega), ih (m + 1) (a + 1) _ (by omega) (by omega)]
theorem wy_free {F L : Nat} (hF : 1 ≤ F) (hL : 1 ≤ L) : ∀ (d m a r : Nat), 0 < wy F L okF d m a r := by
  intro d
  induction d with
  | zero =>
    intro m a r
    rw [wy, if_pos (show okF m a = true from rfl)]
    omega
  | succ d ih =>
    intro m a r
    rw [wy, if_pos (show okF m a = true from rfl)]
    by_cases hr : r ≤ 5
    · have e : jn F L r 0 = 6 := by
        unfold jn
        rw [if_neg (by decide), if_pos hr, if_pos hL]
      have q := ih (m + 1) a 6
      rw [e, if_neg (by decide)]
      omega
    · have e : jn F L r 1 = 1 := by
        unfold jn
        rw [if_pos rfl, if_neg hr, if_pos hF]
      have q := ih (m + 1) (a + 1) 1
      rw [e, if_neg (show ¬ (1 : Nat) = 0 by decide)]
      omega
theorem wy_gap {F L M m0 : Nat} {ok : Nat → Nat → Bool} (h : ∀ a : Nat, a ≤ m0 → ok m0 a = false) : ∀ (d m a r : Nat), m ≤ m0 → m0 ≤ m + d → a ≤ m → wy F L ok d m a r = 0 := by
  intro d
  induction d with
  | zero =>
    intro m a r h1 h2 h3
    have e : m = m0 := by omega
    subst e
    exact wy_0 (by rw [h a h3]; decide)
  | succ d ih =>
    intro m a r h1 h2 h3
    by_cases e : m = m0
    · subst e
      exact wy_0 (by rw [h a h3]; decide)
    · rw [wy, ih (m + 1) a _ (by omega) (by omega) (by omega), ih (m + 1) (a + 1) _ (by omega) (by omega) (by omega)]
      simp
