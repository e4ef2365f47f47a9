/-! the two tapes -/
def TR (n : Nat) (bt tp : Nat → Int32) : Prop := ∀ j, j < n → -128 ≤ (bt j).toInt ∧ (bt j).toInt ≤ 127 ∧ ((0 ≤ (bt j).toInt ∧ (tp j).toInt = (bt j).toInt) ∨ ((bt j).toInt < 0 ∧ (tp j).toInt = (bt j).toInt + 256))
theorem tr_L {n : Nat} {bt tp : Nat → Int32} (h : TR n bt tp) {j : Nat} (hj : j < n) : cL (tp j).toInt = cL (bt j).toInt := by
  have h1 := h j hj
  unfold cL
  exact decide_eq_decide.mpr (by omega)
theorem tr_D {n : Nat} {bt tp : Nat → Int32} (h : TR n bt tp) {j : Nat} (hj : j < n) : cD (tp j).toInt = cD (bt j).toInt := by
  have h1 := h j hj
  unfold cD
  exact decide_eq_decide.mpr (by omega)
theorem tr_B {n : Nat} {bt tp : Nat → Int32} (h : TR n bt tp) {j : Nat} (hj : j < n) : cB (tp j).toInt = cB (bt j).toInt := by
  have h1 := h j hj
  unfold cB
  exact decide_eq_decide.mpr (by omega)
theorem tr_tok {n s : Nat} {bt tp : Nat → Int32} (h : TR n bt tp) : ptok (fun j => (tp j).toInt) n s = ptok (fun j => (bt j).toInt) n s := by
  unfold ptok
  by_cases h1 : s < n
  · rw [if_pos h1, if_pos h1, tr_L h h1, tr_D h h1, prun_eq (Q := fun j => cL (bt j).toInt) (n - s) s (fun j g1 g2 => tr_L h (by omega)), prun_eq (Q := fun j => cD (bt j).toInt) (n - s) s (fun j g1 g2 => tr_D h (by omega))]
    have h2 := h s h1
    by_cases h3 : (bt s).toInt = 59
    · rw [if_pos (show (tp s).toInt = 59 by omega), if_pos h3]
    · rw [if_neg (show ¬ (tp s).toInt = 59 by omega), if_neg h3]
  · rw [if_neg h1, if_neg h1]
theorem tr_valR {n : Nat} {bt tp : Nat → Int32} (h : TR n bt tp) : ∀ (k s : Nat) (v : Int), s + k ≤ n → pvalR (fun j => (tp j).toInt) k s v = pvalR (fun j => (bt j).toInt) k s v := by
  intro k
  induction k with
  | zero => intro s v _; rw [pvalR_0, pvalR_0]
  | succ k ih =>
    intro s v hs
    have h2 := h s (by omega)
    rw [pvalR_s, pvalR_s]
    rw [tr_D h (by omega)]
    by_cases h1 : cD (bt s).toInt = true
    · have hd : 48 ≤ (bt s).toInt ∧ (bt s).toInt ≤ 57 := of_decide_eq_true h1
      rw [if_pos h1, if_pos h1, ih (s + 1) _ (by omega), show (tp s).toInt = (bt s).toInt by omega]
    · rw [if_neg h1, if_neg h1]
theorem tr_val {n s : Nat} {bt tp : Nat → Int32} (h : TR n bt tp) : pvalT (fun j => (tp j).toInt) n s = pvalT (fun j => (bt j).toInt) n s := by
  unfold pvalT
  by_cases h1 : s < n
  · rw [tr_L h h1, tr_D h h1]
    split
    · exact tr_valR h (n - s) s 0 (by omega)
    · rfl
  · rw [if_neg (fun q => h1 q.1), if_neg (fun q => h1 q.1)]
theorem prun_all (P : Nat → Bool) : ∀ k p j : Nat, p ≤ j → j < prun P k p → P j = true := by
  intro k
  induction k with
  | zero =>
    intro p j h1 h2
    exact absurd h2 (by unfold prun; omega)
  | succ k ih =>
    intro p j h1 h2
    unfold prun at h2
    by_cases h3 : P p = true
    · rw [if_pos h3] at h2
      by_cases h4 : j = p
      · rw [h4]
        exact h3
      · exact ih (p + 1) j (by omega) h2
    · rw [if_neg h3] at h2
      omega
theorem ptok_2 {b : Nat → Int} {n s : Nat} (h : (ptok b n s).1 = 2) : s < n ∧ (ptok b n s).2 = prun (fun j => cL (b j)) (n - s) s := by
  unfold ptok at h ⊢
  by_cases h1 : s < n
  · rw [if_pos h1] at h ⊢
    by_cases h2 : cL (b s) = true
    · rw [if_pos h2]
      exact ⟨h1, rfl⟩
    · rw [if_neg h2] at h
      split at h
      · exact absurd h (by intro q; cases q)
      · split at h
        · exact absurd h (by intro q; cases q)
        · exact absurd h (by intro q; cases q)
  · rw [if_neg h1] at h
    exact absurd h (by intro q; cases q)
theorem tr_pwd {n s : Nat} {bt tp : Nat → Int32} (h : TR n bt tp) (L : List Int32) (hL : ∀ j, s ≤ j → j < s + L.length → j < n ∧ cL (bt j).toInt = true) : ∀ k i : Nat, i + k = L.length → pwd tp L s k i = pwd bt L s k i := by
  intro k
  induction k with
  | zero => intro i _; rw [pwd_0, pwd_0]
  | succ k ih =>
    intro i hi
    obtain ⟨g1, g2⟩ := hL (s + i) (by omega) (by omega)
    have g3 := h (s + i) g1
    have hd : 97 ≤ (bt (s + i)).toInt ∧ (bt (s + i)).toInt ≤ 122 := of_decide_eq_true g2
    have e : tp (s + i) = bt (s + i) := Int32.toInt_inj.mp (by omega)
    unfold pwd
    rw [e, ih (i + 1) (by omega)]
theorem tr_is {n s : Nat} {bt tp : Nat → Int32} (h : TR n bt tp) (L : List Int32) : aIs tp n s L = aIs bt n s L := by
  unfold aIs
  rw [tr_tok h]
  by_cases h1 : (ptok (fun j => (bt j).toInt) n s).1 = 2
  · by_cases h2 : (ptok (fun j => (bt j).toInt) n s).2 - s = L.length
    · obtain ⟨g1, g2⟩ := ptok_2 h1
      have g3 := ptok_le (fun j => (bt j).toInt) (n := n) (s := s) (by omega)
      rw [tr_pwd h L (fun j q1 q2 => ⟨by omega, prun_all (fun j => cL (bt j).toInt) (n - s) s j q1 (by omega)⟩) L.length 0 (by omega)]
    · rw [decide_eq_false (fun q => h2 q.2.1), decide_eq_false (fun q => h2 q.2.1)]
  · rw [decide_eq_false (fun q => h1 q.1), decide_eq_false (fun q => h1 q.1)]
theorem tr_next {n s : Nat} {bt tp : Nat → Int32} (h : TR n bt tp) : aNext (fun j => (tp j).toInt) n s = aNext (fun j => (bt j).toInt) n s := by
  unfold aNext
  rw [tr_tok h]
  by_cases h1 : (ptok (fun j => (bt j).toInt) n s).2 ≤ n
  · exact prun_eq _ _ (fun j g1 g2 => tr_B h (by omega))
  · rw [show n - (ptok (fun j => (bt j).toInt) n s).2 = 0 by omega, prun_0, prun_0]
theorem tr_step {n : Nat} {bt tp : Nat → Int32} (h : TR n bt tp) (a : aS) : aStep (fun j => (tp j).toInt) n a = aStep (fun j => (bt j).toInt) n a := by
  unfold aStep
  rw [tr_next h]
theorem tr_num {n : Nat} {bt tp : Nat → Int32} (h : TR n bt tp) (lo hi : Int) (a : aS) : aNum (fun j => (tp j).toInt) n lo hi a = aNum (fun j => (bt j).toInt) n lo hi a := by
  unfold aNum
  rw [tr_step h, tr_val h, tr_tok h]
theorem tr_RR {n : Nat} {bt tp : Nat → Int32} (h : TR n bt tp) (a : aS) (mi : Nat → Int32) : aRR (fun j => (tp j).toInt) n a mi ↔ aRR (fun j => (bt j).toInt) n a mi := by
  unfold aRR
  rw [tr_tok h, tr_val h]
