/-! the reference's next -/
theorem pr_in64 (a b c : Int64) : fX12_in a b c = if b.toInt ≤ a.toInt ∧ a.toInt ≤ c.toInt then 1 else 0 := by
  unfold fX12_in bfX12_in_17 bfX12_in_18
  by_cases h1 : lg_cmp a b < 0
  · have h2 := gz_llt h1
    rw [if_pos h1, if_neg (by omega)]
  · have h2 := gz_lge h1
    rw [if_neg h1]
    by_cases h3 : 0 < lg_cmp a c
    · have h4 := gz_lgt h3
      rw [if_pos h3, if_neg (by omega)]
    · have h4 := gz_lle h3
      rw [if_neg h3, if_pos (by omega)]
theorem pr_in (a b c : Int32) : fX12_in a.toInt64 b.toInt64 c.toInt64 = if b.toInt ≤ a.toInt ∧ a.toInt ≤ c.toInt then 1 else 0 := by
  rw [pr_in64, Int32.toInt_toInt64, Int32.toInt_toInt64, Int32.toInt_toInt64]
theorem pr_in1 {a b c : Int32} (h : b.toInt ≤ a.toInt ∧ a.toInt ≤ c.toInt) : fX12_in a.toInt64 b.toInt64 c.toInt64 = 1 := by rw [pr_in, if_pos h]
theorem pr_in0 {a b c : Int32} (h : ¬ (b.toInt ≤ a.toInt ∧ a.toInt ≤ c.toInt)) : fX12_in a.toInt64 b.toInt64 c.toInt64 = 0 := by rw [pr_in, if_neg h]
theorem pr_isAt1 {m : Nat → Int32} {tp : Nat → Int32} {n e : Nat} (h26 : m 26 = nI n) (h29 : m 29 = nI e) (hn : n < 2147483648) (he : e < 2147483648) (lo hi : Int32) (h : e < n ∧ lo.toInt ≤ (tp e).toInt ∧ (tp e).toInt ≤ hi.toInt) : fX12_isAt m tp lo hi = 1 := by
  unfold fX12_isAt bfX12_isAt_35 bfX12_isAt_36 cal
  dsimp only
  rw [h26, h29, nI_clamp (by omega), pr_in, if_neg (nI_ge h.1 (by omega)), if_pos h.2]
  rfl
theorem pr_isAt0 {m : Nat → Int32} {tp : Nat → Int32} {n e : Nat} (h26 : m 26 = nI n) (h29 : m 29 = nI e) (hn : n < 2147483648) (he : e < 2147483648) (lo hi : Int32) (h : ¬ (e < n ∧ lo.toInt ≤ (tp e).toInt ∧ (tp e).toInt ≤ hi.toInt)) : fX12_isAt m tp lo hi = 0 := by
  unfold fX12_isAt bfX12_isAt_35 bfX12_isAt_36 cal
  dsimp only
  rw [h26, h29, nI_clamp (by omega), pr_in]
  by_cases h1 : e < n
  · rw [if_neg (nI_ge h1 (by omega)), if_neg (fun q => h ⟨h1, q⟩)]
    rfl
  · rw [if_pos (nI_le (by omega) (by omega))]
def pvalR (t : Nat → Int) : Nat → Nat → Int → Int
  | 0, _, v => v
  | k + 1, e, v => if cD (t e) = true then pvalR t k (e + 1) (min 100000 (10 * v + t e - 48)) else v
theorem pvalR_0 (t : Nat → Int) (e : Nat) (v : Int) : pvalR t 0 e v = v := rfl
theorem pvalR_s (t : Nat → Int) (k e : Nat) (v : Int) : pvalR t (k + 1) e v = if cD (t e) = true then pvalR t k (e + 1) (min 100000 (10 * v + t e - 48)) else v := rfl
theorem prun_0 (P : Nat → Bool) (p : Nat) : prun P 0 p = p := rfl
theorem pr_next3 {mi tp : Nat → Int32} {n : Nat} (hn : n ≤ 1600) (h26 : mi 26 = nI n) : ∀ (k e z : Nat) (b t v : Int32), e + k = n → k < z → 0 ≤ v.toInt → v.toInt ≤ 100000 → ∃ w : Int32, (lfX12_next mi tp z).2.2 (nI e) b t v = (nI (prun (fun j => cD (tp j).toInt) k e), b, t, w) ∧ w.toInt = pvalR (fun j => (tp j).toInt) k e v.toInt := by
  intro k
  induction k with
  | zero =>
    intro e z b t v he hz h0 h1
    obtain ⟨z, rfl⟩ : ∃ y, z = y + 1 := ⟨z - 1, by omega⟩
    refine ⟨v, ?_, rfl⟩
    show dfX12_next_123 mi tp (lfX12_next mi tp z) (nI e) b t v = _
    unfold dfX12_next_123 bfX12_next_206 cal
    dsimp only
    rw [pr_isAt0 (m := upd (upd (upd (upd mi 29 (nI e)) 30 b) 31 t) 32 v) (tp := tp) (n := n) (e := e) h26 rfl (by omega) (by omega) 48 57 (fun q => absurd q.1 (by omega)), if_pos rfl]
    rfl
  | succ k ih =>
    intro e z b t v he hz h0 h1
    obtain ⟨z, rfl⟩ : ∃ y, z = y + 1 := ⟨z - 1, by omega⟩
    have k1 : (48 : Int32).toInt = 48 := by decide
    have k2 : (57 : Int32).toInt = 57 := by decide
    have k3 : (10 : Int32).toInt = 10 := by decide
    have k4 : (100000 : Int32).toInt = 100000 := by decide
    by_cases h : cD (tp e).toInt = true
    · have hd : 48 ≤ (tp e).toInt ∧ (tp e).toInt ≤ 57 := of_decide_eq_true h
      have m1 := gi_mulI (z := (10 : Int32) * v) rfl (by rw [k3]; omega) (by rw [k3]; omega)
      have m2 := gi_addI (z := (10 : Int32) * v + tp e) rfl (by rw [m1, k3]; omega) (by rw [m1, k3]; omega)
      have m3 := gi_subI (z := (10 : Int32) * v + tp e - (48 : Int32)) rfl (by rw [m2, m1, k3, k1]; omega) (by rw [m2, m1, k3, k1]; omega)
      have m4 := gi_minI (z := if ((10 : Int32) * v + tp e - (48 : Int32)) < (100000 : Int32) then ((10 : Int32) * v + tp e - (48 : Int32)) else (100000 : Int32)) (x := 100000) (y := (10 : Int32) * v + tp e - (48 : Int32)) rfl
      rw [m3, m2, m1, k1, k3, k4] at m4
      obtain ⟨w, h2, h3⟩ := ih (e + 1) z b t (if ((10 : Int32) * v + tp e - (48 : Int32)) < (100000 : Int32) then ((10 : Int32) * v + tp e - (48 : Int32)) else (100000 : Int32)) (by omega) (by omega) (by omega) (by omega)
      refine ⟨w, ?_, ?_⟩
      · show dfX12_next_123 mi tp (lfX12_next mi tp z) (nI e) b t v = _
        unfold dfX12_next_123 cal
        dsimp only
        rw [pr_isAt1 (m := upd (upd (upd (upd mi 29 (nI e)) 30 b) 31 t) 32 v) (tp := tp) (n := n) (e := e) h26 rfl (by omega) (by omega) 48 57 ⟨by omega, by rw [k1]; exact hd.1, by rw [k2]; exact hd.2⟩, if_neg (by decide), ← nI_succ, nI_clamp (show e < 2147483648 by omega)]
        unfold prun
        rw [if_pos h]
        exact h2
      · rw [h3, m4]
        exact (if_pos h).symm
    · refine ⟨v, ?_, ?_⟩
      · show dfX12_next_123 mi tp (lfX12_next mi tp z) (nI e) b t v = _
        unfold dfX12_next_123 bfX12_next_206 cal
        dsimp only
        rw [pr_isAt0 (m := upd (upd (upd (upd mi 29 (nI e)) 30 b) 31 t) 32 v) (tp := tp) (n := n) (e := e) h26 rfl (by omega) (by omega) 48 57 (fun q => h (decide_eq_true (by rw [k1, k2] at q; exact q.2))), if_pos rfl]
        unfold prun
        rw [if_neg h]
      · unfold pvalR
        rw [if_neg h]
theorem pr_next2 {mi tp : Nat → Int32} {n : Nat} (hn : n ≤ 1600) (h26 : mi 26 = nI n) : ∀ (k e z : Nat) (b t v : Int32), e + k = n → k < z → (lfX12_next mi tp z).2.1 (nI e) b t v = (nI (prun (fun j => cL (tp j).toInt) k e), b, t, v) := by
  intro k
  have k1 : (97 : Int32).toInt = 97 := by decide
  have k2 : (122 : Int32).toInt = 122 := by decide
  induction k with
  | zero =>
    intro e z b t v he hz
    obtain ⟨z, rfl⟩ : ∃ y, z = y + 1 := ⟨z - 1, by omega⟩
    show dfX12_next_83 mi tp (lfX12_next mi tp z) (nI e) b t v = _
    unfold dfX12_next_83 bfX12_next_206 cal
    dsimp only
    rw [pr_isAt0 (m := upd (upd (upd (upd mi 29 (nI e)) 30 b) 31 t) 32 v) (tp := tp) (n := n) (e := e) h26 rfl (by omega) (by omega) 97 122 (fun q => absurd q.1 (by omega)), if_pos rfl]
    rfl
  | succ k ih =>
    intro e z b t v he hz
    obtain ⟨z, rfl⟩ : ∃ y, z = y + 1 := ⟨z - 1, by omega⟩
    show dfX12_next_83 mi tp (lfX12_next mi tp z) (nI e) b t v = _
    unfold dfX12_next_83 bfX12_next_206 cal
    dsimp only
    unfold prun
    by_cases h : cL (tp e).toInt = true
    · rw [pr_isAt1 (m := upd (upd (upd (upd mi 29 (nI e)) 30 b) 31 t) 32 v) (tp := tp) (n := n) (e := e) h26 rfl (by omega) (by omega) 97 122 ⟨by omega, by rw [k1, k2]; exact of_decide_eq_true h⟩, if_neg (by decide), if_pos h, ← nI_succ]
      exact ih (e + 1) z b t v (by omega) (by omega)
    · rw [pr_isAt0 (m := upd (upd (upd (upd mi 29 (nI e)) 30 b) 31 t) 32 v) (tp := tp) (n := n) (e := e) h26 rfl (by omega) (by omega) 97 122 (fun q => h (decide_eq_true (by rw [k1, k2] at q; exact q.2))), if_pos rfl, if_neg h]
/-- the kinds of tokens of the reference by those of the class -/
def pkind (k : Nat) : Nat := if k = 0 then 0 else if k = 1 then 4 else if k = 2 then 1 else if k = 3 then 2 else 3
def pvalT (b : Nat → Int) (n s : Nat) : Int := if s < n ∧ cL (b s) = false ∧ cD (b s) = true then pvalR b (n - s) s 0 else 0
theorem pr_next1 {mi tp : Nat → Int32} {n : Nat} (hn : n ≤ 1600) (h26 : mi 26 = nI n) : ∀ (k s z : Nat), s + k = n → n + k + 1 < z → ∃ w : Int32, (lfX12_next mi tp z).1 (nI s) = (nI (ptok (fun j => (tp j).toInt) n (prun (fun j => cB (tp j).toInt) k s)).2, nI (prun (fun j => cB (tp j).toInt) k s), nI (pkind (ptok (fun j => (tp j).toInt) n (prun (fun j => cB (tp j).toInt) k s)).1), w) ∧ w.toInt = pvalT (fun j => (tp j).toInt) n (prun (fun j => cB (tp j).toInt) k s) := by
  intro k
  have a1 : (97 : Int32).toInt = 97 := by decide
  have a2 : (122 : Int32).toInt = 122 := by decide
  have d1 : (48 : Int32).toInt = 48 := by decide
  have d2 : (57 : Int32).toInt = 57 := by decide
  have b1 : (32 : Int32).toInt = 32 := by decide
  have b2 : (10 : Int32).toInt = 10 := by decide
  have c1 : (59 : Int32).toInt = 59 := by decide
  have z0 : (0 : Int32).toInt = 0 := by decide
  induction k with
  | zero =>
    intro s z he hz
    obtain ⟨z, rfl⟩ : ∃ y, z = y + 1 := ⟨z - 1, by omega⟩
    have hs : s = n := by omega
    subst hs
    refine ⟨0, ?_, ?_⟩
    · show dfX12_next_0 mi tp (lfX12_next mi tp z) (nI s) = _
      unfold dfX12_next_0 bfX12_next_206 cal
      dsimp only
      rw [pr_isAt0 (m := upd mi 29 (nI s)) (tp := tp) (n := s) (e := s) h26 rfl (by omega) (by omega) 32 32 (fun q => absurd q.1 (by omega)), if_pos rfl, pr_isAt0 (m := upd mi 29 (nI s)) (tp := tp) (n := s) (e := s) h26 rfl (by omega) (by omega) 10 10 (fun q => absurd q.1 (by omega)), if_pos rfl, if_pos h26.symm]
      unfold prun ptok
      rw [if_neg (by omega)]
      rfl
    · unfold prun pvalT
      rw [if_neg (fun q => absurd q.1 (by omega))]
      exact z0
  | succ k ih =>
    intro s z he hz
    obtain ⟨z, rfl⟩ : ∃ y, z = y + 1 := ⟨z - 1, by omega⟩
    have hsn : s < n := by omega
    by_cases h : cB (tp s).toInt = true
    · obtain ⟨w, h2, h3⟩ := ih (s + 1) z (by omega) (by omega)
      have hb : (tp s).toInt = 32 ∨ (tp s).toInt = 10 := of_decide_eq_true h
      have hr : prun (fun j => cB (tp j).toInt) (k + 1) s = prun (fun j => cB (tp j).toInt) k (s + 1) := by
        show (if cB (tp s).toInt = true then _ else _) = _
        rw [if_pos h]
      rw [hr]
      refine ⟨w, ?_, h3⟩
      show dfX12_next_0 mi tp (lfX12_next mi tp z) (nI s) = _
      unfold dfX12_next_0 bfX12_next_22 cal
      dsimp only
      by_cases h4 : (tp s).toInt = 32
      · rw [pr_isAt1 (m := upd mi 29 (nI s)) (tp := tp) (n := n) (e := s) h26 rfl (by omega) (by omega) 32 32 ⟨hsn, by rw [b1]; omega, by rw [b1]; omega⟩, if_neg (by decide), ← nI_succ]
        exact h2
      · rw [pr_isAt0 (m := upd mi 29 (nI s)) (tp := tp) (n := n) (e := s) h26 rfl (by omega) (by omega) 32 32 (fun q => h4 (by rw [b1] at q; omega)), if_pos rfl, pr_isAt1 (m := upd mi 29 (nI s)) (tp := tp) (n := n) (e := s) h26 rfl (by omega) (by omega) 10 10 ⟨hsn, by rw [b2]; omega, by rw [b2]; omega⟩, if_neg (by decide), ← nI_succ]
        exact h2
    · have hb : ¬ ((tp s).toInt = 32 ∨ (tp s).toInt = 10) := fun q => h (decide_eq_true q)
      have hr : prun (fun j => cB (tp j).toInt) (k + 1) s = s := by
        show (if cB (tp s).toInt = true then _ else _) = _
        rw [if_neg h]
      rw [hr]
      have key : ∀ R : Int32 × Int32 × Int32 × Int32, (if (nI s) = (mi 26) then (nI s, nI s, (0 : Int32), (0 : Int32)) else R) = R := fun R => if_neg (fun q => absurd (congrArg Int32.toInt (q.trans h26)) (by rw [nI_toInt (by omega), nI_toInt (by omega)]; omega))
      by_cases h5 : cL (tp s).toInt = true
      · refine ⟨0, ?_, ?_⟩
        · show dfX12_next_0 mi tp (lfX12_next mi tp z) (nI s) = _
          unfold dfX12_next_0 bfX12_next_206 cal
          dsimp only
          rw [pr_isAt0 (m := upd mi 29 (nI s)) (tp := tp) (n := n) (e := s) h26 rfl (by omega) (by omega) 32 32 (fun q => hb (by rw [b1] at q; omega)), if_pos rfl, pr_isAt0 (m := upd mi 29 (nI s)) (tp := tp) (n := n) (e := s) h26 rfl (by omega) (by omega) 10 10 (fun q => hb (by rw [b2] at q; omega)), if_pos rfl, key, pr_isAt1 (m := upd (upd (upd mi 29 (nI s)) 30 (nI s)) 32 0) (tp := tp) (n := n) (e := s) h26 rfl (by omega) (by omega) 97 122 ⟨hsn, by rw [a1, a2]; exact of_decide_eq_true h5⟩, if_neg (by decide), pr_next2 hn h26 (n - s) s z _ _ _ (by omega) (by omega)]
          unfold ptok
          rw [if_pos hsn, if_pos h5]
          rfl
        · unfold pvalT
          rw [if_neg (fun q => absurd q.2.1 (by rw [h5]; decide))]
          exact z0
      · by_cases h6 : cD (tp s).toInt = true
        · obtain ⟨w, h7, h8⟩ := pr_next3 hn h26 (n - s) s z (nI s) 2 0 (by omega) (by omega) (by decide) (by decide)
          refine ⟨w, ?_, ?_⟩
          · show dfX12_next_0 mi tp (lfX12_next mi tp z) (nI s) = _
            unfold dfX12_next_0 bfX12_next_206 cal
            dsimp only
            rw [pr_isAt0 (m := upd mi 29 (nI s)) (tp := tp) (n := n) (e := s) h26 rfl (by omega) (by omega) 32 32 (fun q => hb (by rw [b1] at q; omega)), if_pos rfl, pr_isAt0 (m := upd mi 29 (nI s)) (tp := tp) (n := n) (e := s) h26 rfl (by omega) (by omega) 10 10 (fun q => hb (by rw [b2] at q; omega)), if_pos rfl, key, pr_isAt0 (m := upd (upd (upd mi 29 (nI s)) 30 (nI s)) 32 0) (tp := tp) (n := n) (e := s) h26 rfl (by omega) (by omega) 97 122 (fun q => h5 (decide_eq_true (by rw [a1, a2] at q; exact q.2))), if_pos rfl, pr_isAt1 (m := upd (upd (upd mi 29 (nI s)) 30 (nI s)) 32 0) (tp := tp) (n := n) (e := s) h26 rfl (by omega) (by omega) 48 57 ⟨hsn, by rw [d1, d2]; exact of_decide_eq_true h6⟩, if_neg (by decide), h7]
            unfold ptok
            rw [if_pos hsn, if_neg h5, if_pos h6]
            rfl
          · unfold pvalT
            rw [if_pos ⟨hsn, by simpa using h5, h6⟩, h8, z0]
        · refine ⟨0, ?_, ?_⟩
          · show dfX12_next_0 mi tp (lfX12_next mi tp z) (nI s) = _
            unfold dfX12_next_0 bfX12_next_193 bfX12_next_206 cal
            dsimp only
            rw [pr_isAt0 (m := upd mi 29 (nI s)) (tp := tp) (n := n) (e := s) h26 rfl (by omega) (by omega) 32 32 (fun q => hb (by rw [b1] at q; omega)), if_pos rfl, pr_isAt0 (m := upd mi 29 (nI s)) (tp := tp) (n := n) (e := s) h26 rfl (by omega) (by omega) 10 10 (fun q => hb (by rw [b2] at q; omega)), if_pos rfl, key, pr_isAt0 (m := upd (upd (upd mi 29 (nI s)) 30 (nI s)) 32 0) (tp := tp) (n := n) (e := s) h26 rfl (by omega) (by omega) 97 122 (fun q => h5 (decide_eq_true (by rw [a1, a2] at q; exact q.2))), if_pos rfl, pr_isAt0 (m := upd (upd (upd mi 29 (nI s)) 30 (nI s)) 32 0) (tp := tp) (n := n) (e := s) h26 rfl (by omega) (by omega) 48 57 (fun q => h6 (decide_eq_true (by rw [d1, d2] at q; exact q.2))), if_pos rfl]
            unfold ptok
            rw [if_pos hsn, if_neg h5, if_neg h6, ← nI_succ]
            by_cases h7 : (tp s).toInt = 59
            · rw [pr_isAt1 (m := upd (upd (upd mi 29 (nI s)) 30 (nI s)) 32 0) (tp := tp) (n := n) (e := s) h26 rfl (by omega) (by omega) 59 59 ⟨hsn, by rw [c1]; omega, by rw [c1]; omega⟩, if_neg (by decide), if_pos h7]
              rfl
            · rw [pr_isAt0 (m := upd (upd (upd mi 29 (nI s)) 30 (nI s)) 32 0) (tp := tp) (n := n) (e := s) h26 rfl (by omega) (by omega) 59 59 (fun q => h7 (by rw [c1] at q; omega)), if_pos rfl, if_neg h7]
              rfl
          · unfold pvalT
            rw [if_neg (fun q => h6 q.2.2)]
            exact z0
theorem pr_next {mi tp : Nat → Int32} {n p : Nat} (hn : n ≤ 1600) (hp : p ≤ n) (h26 : mi 26 = nI n) (h29 : mi 29 = nI p) : ∃ w : Int32, fX12_next mi tp = (nI (ptok (fun j => (tp j).toInt) n (prun (fun j => cB (tp j).toInt) (n - p) p)).2, nI (prun (fun j => cB (tp j).toInt) (n - p) p), nI (pkind (ptok (fun j => (tp j).toInt) n (prun (fun j => cB (tp j).toInt) (n - p) p)).1), w) ∧ w.toInt = pvalT (fun j => (tp j).toInt) n (prun (fun j => cB (tp j).toInt) (n - p) p) := by
  unfold fX12_next
  rw [h29]
  exact pr_next1 hn h26 (n - p) p 1000000000 (by omega) (by omega)
