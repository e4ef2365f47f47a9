/-! numbers -/
def pvalC (b : Nat → Int) : Nat → Nat → Int → Int
  | 0, _, v => v
  | k + 1, e, v => pvalC b k (e + 1) (if cD (b e) = true then min 1000000 (10 * v + b e - 48) else v)
theorem pvalC_ge (b : Nat → Int) : ∀ (k e : Nat) (v : Int), 0 ≤ v → 0 ≤ pvalC b k e v := by
  intro k
  induction k with
  | zero => intro e v h; exact h
  | succ k ih =>
    intro e v h
    refine ih (e + 1) _ ?_
    split
    · rename_i h1
      have h2 : 48 ≤ b e ∧ b e ≤ 57 := of_decide_eq_true h1
      omega
    · exact h
theorem pvalC_le (b : Nat → Int) : ∀ (k e : Nat) (v : Int), v ≤ 1000000 → pvalC b k e v ≤ 1000000 := by
  intro k
  induction k with
  | zero => intro e v h; exact h
  | succ k ih =>
    intro e v h
    refine ih (e + 1) _ ?_
    split
    · omega
    · exact h
theorem px_valueL {bt : Nat → Int32} {n s e : Nat} (hn : n ≤ 1600) (he : e ≤ n) : ∀ (k p z : Nat) (v : Int32), p + k = e → k < z → 0 ≤ v.toInt → v.toInt ≤ 1000000 → (lfX6_valueHere (nI s) (nI e) (nI n) bt z v (nI p)).toInt = pvalC (fun j => (bt j).toInt) k p v.toInt := by
  intro k
  have k1 : (48 : Int32).toInt = 48 := by decide
  have k3 : (10 : Int32).toInt = 10 := by decide
  have k4 : (1000000 : Int32).toInt = 1000000 := by decide
  induction k with
  | zero =>
    intro p z v hp hz h0 h1
    obtain ⟨z, rfl⟩ : ∃ y, z = y + 1 := ⟨z - 1, by omega⟩
    show (dfX6_valueHere_7 (nI s) (nI e) (nI n) bt (lfX6_valueHere (nI s) (nI e) (nI n) bt z) v (nI p)).toInt = _
    unfold dfX6_valueHere_7
    rw [if_pos (nI_le (by omega) (by omega))]
    rfl
  | succ k ih =>
    intro p z v hp hz h0 h1
    obtain ⟨z, rfl⟩ : ∃ y, z = y + 1 := ⟨z - 1, by omega⟩
    show (dfX6_valueHere_7 (nI s) (nI e) (nI n) bt (lfX6_valueHere (nI s) (nI e) (nI n) bt z) v (nI p)).toInt = pvalC (fun j => (bt j).toInt) k (p + 1) (if cD (bt p).toInt = true then min 1000000 (10 * v.toInt + (bt p).toInt - 48) else v.toInt)
    unfold dfX6_valueHere_7 bfX6_valueHere_46 cal
    dsimp only
    rw [if_neg (nI_ge (by omega) (by omega)), px_byteAt bt (by omega) (by omega), px_isDigit, ← nI_succ]
    by_cases h : cD (bt p).toInt = true
    · have hd : 48 ≤ (bt p).toInt ∧ (bt p).toInt ≤ 57 := of_decide_eq_true h
      have m1 := gi_mulI (z := v * (10 : Int32)) rfl (by rw [k3]; omega) (by rw [k3]; omega)
      have m2 := gi_addI (z := v * (10 : Int32) + bt p) rfl (by rw [m1, k3]; omega) (by rw [m1, k3]; omega)
      have m3 := gi_subI (z := v * (10 : Int32) + bt p - (48 : Int32)) rfl (by rw [m2, m1, k3, k1]; omega) (by rw [m2, m1, k3, k1]; omega)
      have m4 := gi_minI (z := if (1000000 : Int32) < (v * (10 : Int32) + bt p - (48 : Int32)) then (1000000 : Int32) else (v * (10 : Int32) + bt p - (48 : Int32))) (x := v * (10 : Int32) + bt p - (48 : Int32)) (y := 1000000) rfl
      rw [m3, m2, m1, k1, k3, k4] at m4
      have m5 : min 1000000 (10 * v.toInt + (bt p).toInt - 48) = (if (1000000 : Int32) < (v * (10 : Int32) + bt p - (48 : Int32)) then (1000000 : Int32) else (v * (10 : Int32) + bt p - (48 : Int32))).toInt := by omega
      rw [if_pos h, if_neg (by decide), if_pos h, m5]
      exact ih (p + 1) z _ (by omega) (by omega) (by omega) (by omega)
    · rw [if_neg h, if_pos rfl, if_neg h]
      exact ih (p + 1) z v (by omega) (by omega) h0 h1
theorem px_value {bt : Nat → Int32} {n s e : Nat} (hn : n ≤ 1600) (hs : s ≤ e) (he : e ≤ n) : (fX6_valueHere (nI s) (nI e) (nI n) bt).toInt = pvalC (fun j => (bt j).toInt) (e - s) s 0 := by
  unfold fX6_valueHere
  rw [px_valueL hn he (e - s) s 1000000000 0 (by omega) (by omega) (by decide) (by decide)]
  rfl
theorem pval_rel {b : Nat → Int} : ∀ (k s : Nat) (u v : Int), 0 ≤ v → u = min 100000 v → pvalR b k s u = min 100000 (pvalC b (prun (fun j => cD (b j)) k s - s) s v) := by
  intro k
  induction k with
  | zero =>
    intro s u v h0 h
    have e : prun (fun j => cD (b j)) 0 s - s = 0 := Nat.sub_self s
    rw [e]
    exact h
  | succ k ih =>
    intro s u v h0 h
    by_cases h1 : cD (b s) = true
    · have e : prun (fun j => cD (b j)) (k + 1) s = prun (fun j => cD (b j)) k (s + 1) := if_pos h1
      have h2 := prun_le (fun j => cD (b j)) k (s + 1)
      have hd : 48 ≤ b s ∧ b s ≤ 57 := of_decide_eq_true h1
      have e2 : prun (fun j => cD (b j)) (k + 1) s - s = (prun (fun j => cD (b j)) k (s + 1) - (s + 1)) + 1 := by omega
      have e3 : pvalR b (k + 1) s u = pvalR b k (s + 1) (min 100000 (10 * u + b s - 48)) := if_pos h1
      rw [e3, e2, ih (s + 1) _ (min 1000000 (10 * v + b s - 48)) (by omega) (by omega)]
      show _ = min 100000 (pvalC b _ (s + 1) (if cD (b s) = true then min 1000000 (10 * v + b s - 48) else v))
      rw [if_pos h1]
    · have e : prun (fun j => cD (b j)) (k + 1) s = s := if_neg h1
      have e3 : pvalR b (k + 1) s u = u := if_neg h1
      rw [e3, e, Nat.sub_self]
      exact h
/-- what the class reads is what the reference reads, but for its cap -/
theorem pvalT_C {b : Nat → Int} {n s : Nat} (h : (ptok b n s).1 = 3) : pvalT b n s = min 100000 (pvalC b ((ptok b n s).2 - s) s 0) := by
  unfold ptok at h ⊢
  unfold pvalT
  by_cases h1 : s < n
  · rw [if_pos h1] at h ⊢
    by_cases h2 : cL (b s) = true
    · rw [if_pos h2] at h
      exact absurd h (by intro q; cases q)
    · rw [if_neg h2] at h ⊢
      by_cases h3 : cD (b s) = true
      · rw [if_pos h3] at h ⊢
        rw [if_pos ⟨h1, by simpa using h2, h3⟩]
        exact pval_rel (n - s) s 0 0 (Int.le_refl 0) rfl
      · rw [if_neg h3] at h
        split at h
        · exact absurd h (by intro q; cases q)
        · exact absurd h (by intro q; cases q)
  · rw [if_neg h1] at h
    exact absurd h (by intro q; cases q)
def aNum (b : Nat → Int) (n : Nat) (lo hi : Int) (a : aS) : aS := aStep b n (aExp (decide (lo ≤ pvalT b n a.2.2.2 ∧ pvalT b n a.2.2.2 ≤ hi)) 2 (aExp (decide ((ptok b n a.2.2.2).1 = 3)) 1 a))
theorem cx_number {bt : Nat → Int32} {n : Nat} {a : aS} {fk fp tok st en p1 p2 : Int32} (hn : n ≤ 1600) (lo hi : Int) (h1 : p1.toInt = lo) (h2 : p2.toInt = hi) (hb : hi ≤ 99999 ∨ (lo = 0 ∧ hi = 1000000)) (hl : 0 ≤ lo) (h : aRC (fun j => (bt j).toInt) n a fk fp tok st en) :
    aRC (fun j => (bt j).toInt) n (aNum (fun j => (bt j).toInt) n lo (min hi 100000) a) (fX6_passNumber fk fp tok st en (nI n) bt p1 p2).2.1 (fX6_passNumber fk fp tok st en (nI n) bt p1 p2).2.2.1 (fX6_passNumber fk fp tok st en (nI n) bt p1 p2).2.2.2.1 (fX6_passNumber fk fp tok st en (nI n) bt p1 p2).2.2.2.2.1 (fX6_passNumber fk fp tok st en (nI n) bt p1 p2).2.2.2.2.2 ∧ ((aNum (fun j => (bt j).toInt) n lo (min hi 100000) a).1 = false → min 100000 (fX6_passNumber fk fp tok st en (nI n) bt p1 p2).1.toInt = pvalT (fun j => (bt j).toInt) n a.2.2.2 ∧ lo ≤ (fX6_passNumber fk fp tok st en (nI n) bt p1 p2).1.toInt ∧ (fX6_passNumber fk fp tok st en (nI n) bt p1 p2).1.toInt ≤ hi) := by
  have e : fX6_passNumber fk fp tok st en (nI n) bt p1 p2 = bfX6_passNumber_14 fk fp tok st en (nI n) bt p1 p2 (if tok = 3 then 1 else 0) fk fp tok st en := by
    unfold fX6_passNumber
    split
    · rfl
    · rfl
  have e2 : ∀ s0 : Int32, bfX6_passNumber_14 fk fp tok st en (nI n) bt p1 p2 s0 fk fp tok st en = bfX6_passNumber_39 fk fp tok st en (nI n) bt p1 p2 (fX6_valueHere st en (nI n) bt) (if fX6_valueHere st en (nI n) bt < p1 then 0 else if p2 < fX6_valueHere st en (nI n) bt then 0 else 1) (fX6_expect fk fp st s0 1).1 (fX6_expect fk fp st s0 1).2 tok st en := by
    intro s0
    unfold bfX6_passNumber_14 bfX6_passNumber_38 cal
    dsimp only
    split
    · rfl
    · split
      · rfl
      · rfl
  rw [e, e2]
  generalize hv : fX6_valueHere st en (nI n) bt = v
  have hx : aRC (fun j => (bt j).toInt) n (aExp (decide ((ptok (fun j => (bt j).toInt) n a.2.2.2).1 = 3)) 1 a) (fX6_expect fk fp st (if tok = 3 then 1 else 0) 1).1 (fX6_expect fk fp st (if tok = 3 then 1 else 0) 1).2 tok st en := by
    refine cx_expect _ (by decide) (fun h0 => ?_) h
    rcases aRC_cases h with ⟨g1, g2, rfl, rfl⟩ | ⟨s, rfl, rfl, rfl, hs, rfl, rfl, rfl⟩
    · rw [g1] at h0
      exact absurd h0 (by intro q; cases q)
    · have hk := ptok_kind (fun j => (bt j).toInt) n s
      show (if nI (ptok (fun j => (bt j).toInt) n s).1 = 3 then (1 : Int32) else 0) = if decide ((ptok (fun j => (bt j).toInt) n s).1 = 3) = true then 1 else 0
      by_cases h5 : (ptok (fun j => (bt j).toInt) n s).1 = 3
      · rw [if_pos (by rw [h5]; rfl), if_pos (decide_eq_true h5)]
      · rw [if_neg (fun (q : nI (ptok (fun j => (bt j).toInt) n s).1 = (3 : Int32)) => h5 (pz_ninj (b := 3) (by omega) (by omega) q)), if_neg (fun q => h5 (of_decide_eq_true q))]
  -- what is known of the value where the token is a number
  have hval : (aExp (decide ((ptok (fun j => (bt j).toInt) n a.2.2.2).1 = 3)) 1 a).1 = false → min 100000 v.toInt = pvalT (fun j => (bt j).toInt) n a.2.2.2 ∧ 0 ≤ v.toInt ∧ v.toInt ≤ 1000000 ∧ aExp (decide ((ptok (fun j => (bt j).toInt) n a.2.2.2).1 = 3)) 1 a = a := by
    intro h0
    rcases aRC_cases h with ⟨g1, g2, rfl, rfl⟩ | ⟨s, rfl, rfl, rfl, hs, rfl, rfl, rfl⟩
    · unfold aExp at h0
      rw [if_pos g1, g1] at h0
      exact absurd h0 (by intro q; cases q)
    · rw [aExp_ok] at h0 ⊢
      by_cases h5 : decide ((ptok (fun j => (bt j).toInt) n (aOk s).2.2.2).1 = 3) = true
      · rw [if_pos h5]
        have h6 : (ptok (fun j => (bt j).toInt) n s).1 = 3 := of_decide_eq_true h5
        have hle := ptok_le (fun j => (bt j).toInt) hs
        have hvv := px_value (bt := bt) hn hle.1 hle.2
        rw [hv] at hvv
        refine ⟨?_, ?_, ?_, rfl⟩
        · rw [hvv]
          exact (pvalT_C h6).symm
        · rw [hvv]
          exact pvalC_ge _ _ _ _ (Int.le_refl 0)
        · have h8 := px_valueL (bt := bt) (s := s) hn hle.2 ((ptok (fun j => (bt j).toInt) n s).2 - s) s 1000000000 0 (by omega) (by omega) (by decide) (by decide)
          rw [hvv]
          exact pvalC_le _ _ _ _ (by omega)
      · rw [if_neg h5] at h0
        exact absurd h0 (by intro q; cases q)
  have hy := cx_expect (b := fun j => (bt j).toInt) (n := n) (decide (lo ≤ pvalT (fun j => (bt j).toInt) n a.2.2.2 ∧ pvalT (fun j => (bt j).toInt) n a.2.2.2 ≤ min hi 100000)) (k := 2) (p1 := if v < p1 then 0 else if p2 < v then 0 else 1) (by decide) (fun h0 => by
    obtain ⟨v1, v2, v3, -⟩ := hval h0
    by_cases g1 : v < p1
    · have g2 := Int32.lt_iff_toInt_lt.mp g1
      rw [if_pos g1, if_neg (fun q => by have q2 := of_decide_eq_true q; omega)]
    · have g2 : p1.toInt ≤ v.toInt := Int32.le_iff_toInt_le.mp (Int32.not_lt.mp g1)
      rw [if_neg g1]
      by_cases g3 : p2 < v
      · have g4 := Int32.lt_iff_toInt_lt.mp g3
        rw [if_pos g3, if_neg (fun q => by have q2 := of_decide_eq_true q; omega)]
      · have g4 : v.toInt ≤ p2.toInt := Int32.le_iff_toInt_le.mp (Int32.not_lt.mp g3)
        rw [if_neg g3, if_pos (decide_eq_true (by omega))]) hx
  refine ⟨?_, ?_⟩
  · unfold bfX6_passNumber_39 cal aNum
    dsimp only
    exact cx_step hn hy
  · intro h0
    have h3 : (aExp (decide ((ptok (fun j => (bt j).toInt) n a.2.2.2).1 = 3)) 1 a).1 = false := by
      cases hq : (aExp (decide ((ptok (fun j => (bt j).toInt) n a.2.2.2).1 = 3)) 1 a).1 with
      | false => rfl
      | true =>
        unfold aNum aStep at h0
        rw [show aExp (decide (lo ≤ pvalT (fun j => (bt j).toInt) n a.2.2.2 ∧ pvalT (fun j => (bt j).toInt) n a.2.2.2 ≤ min hi 100000)) 2 (aExp (decide ((ptok (fun j => (bt j).toInt) n a.2.2.2).1 = 3)) 1 a) = aExp (decide ((ptok (fun j => (bt j).toInt) n a.2.2.2).1 = 3)) 1 a from if_pos hq, if_pos hq, hq] at h0
        exact absurd h0 (by intro q; cases q)
    obtain ⟨v1, v2, v3, v4⟩ := hval h3
    have h6 : lo ≤ pvalT (fun j => (bt j).toInt) n a.2.2.2 ∧ pvalT (fun j => (bt j).toInt) n a.2.2.2 ≤ min hi 100000 := by
      by_cases g : lo ≤ pvalT (fun j => (bt j).toInt) n a.2.2.2 ∧ pvalT (fun j => (bt j).toInt) n a.2.2.2 ≤ min hi 100000
      · exact g
      · have g2 : (aExp (decide (lo ≤ pvalT (fun j => (bt j).toInt) n a.2.2.2 ∧ pvalT (fun j => (bt j).toInt) n a.2.2.2 ≤ min hi 100000)) 2 (aExp (decide ((ptok (fun j => (bt j).toInt) n a.2.2.2).1 = 3)) 1 a)).1 = true := by
          unfold aExp at h3 ⊢
          rw [if_neg (by rw [h3]; decide), if_neg (fun q => g (of_decide_eq_true q))]
          rfl
        unfold aNum aStep at h0
        rw [if_pos g2, g2] at h0
        exact absurd h0 (by intro q; cases q)
    show min 100000 v.toInt = _ ∧ lo ≤ v.toInt ∧ v.toInt ≤ hi
    exact ⟨v1, by omega, by omega⟩
theorem rx_b47 {mi tp : Nat → Int32} {p1 p2 v w27 w28 w29 w30 w31 w32 w33 : Int32} : bfX12_number_47 mi tp p1 p2 v w27 w28 w29 w30 w31 w32 w33 = (v, fX12_passes (mu7 mi (w27, w28, w29, w30, w31, w32, w33)) tp 1) := rfl
theorem mu7_mu7 (mi : Nat → Int32) (o p : Int32 × Int32 × Int32 × Int32 × Int32 × Int32 × Int32) : mu7 (mu7 mi o) p = mu7 mi p := by
  funext j
  unfold mu7 upd
  by_cases h1 : j = 33
  · simp only [h1, if_true]
  · by_cases h2 : j = 32
    · simp only [h2, if_true, if_false, reduceIte, Nat.reduceEqDiff]
    · by_cases h3 : j = 31
      · simp only [h3, if_true, if_false, reduceIte, Nat.reduceEqDiff]
      · by_cases h4 : j = 30
        · simp only [h4, if_true, if_false, reduceIte, Nat.reduceEqDiff]
        · by_cases h5 : j = 29
          · simp only [h5, if_true, if_false, reduceIte, Nat.reduceEqDiff]
          · by_cases h6 : j = 28
            · simp only [h6, if_true, if_false, reduceIte, Nat.reduceEqDiff]
            · by_cases h7 : j = 27
              · simp only [h7, if_true, if_false, reduceIte, Nat.reduceEqDiff]
              · simp only [h1, h2, h3, h4, h5, h6, h7, if_false, reduceIte]
theorem rx_pbad {mi tp : Nat → Int32} (p1 : Int32) (h : ¬ mi 33 = 0) : fX12_passes mi tp p1 = own7 mi := by
  unfold fX12_passes cal
  dsimp only
  rw [rx_faults, if_neg h]
  split
  · exact rx_p9b h
  · exact rx_p9b h
theorem rx_number {tp mi : Nat → Int32} {n : Nat} {a : aS} {p1 p2 : Int32} (hn : n ≤ 1600) (lo hi : Int) (h1 : p1.toInt = lo) (h2 : p2.toInt = hi) (h : aRR (fun j => (tp j).toInt) n a mi) : aRR (fun j => (tp j).toInt) n (aNum (fun j => (tp j).toInt) n lo hi a) (mu7 mi (fX12_number mi tp p1 p2).2) ∧ ((aNum (fun j => (tp j).toInt) n lo hi a).1 = false → (fX12_number mi tp p1 p2).1.toInt = pvalT (fun j => (tp j).toInt) n a.2.2.2) := by
  rcases aRR_cases h with ⟨h26, g1, g2, h33, h27, h28⟩ | ⟨s, h26, rfl, h33, h27, h28, hs, h29, h30, h31, h32⟩
  · have hb : ¬ mi 33 = 0 := by rw [h33]; decide
    have e : fX12_number mi tp p1 p2 = (p1, own7 mi) := by
      unfold fX12_number
      rw [if_neg hb]
      rfl
    have ea : aNum (fun j => (tp j).toInt) n lo hi a = a := by
      unfold aNum aStep aExp
      rw [if_pos g1, if_pos g1, if_pos g1]
    rw [ea, e]
    refine ⟨?_, fun q => absurd (q.symm.trans g1) (by decide)⟩
    show aRR _ n a (mu7 mi (own7 mi))
    rw [mu7_own]
    exact h
  · have hk := ptok_kind (fun j => (tp j).toInt) n s
    have hk2 := pkind_le hk
    by_cases g3 : (ptok (fun j => (tp j).toInt) n s).1 = 3
    · have g31 : mi 31 = 2 := by rw [h31, g3]; rfl
      have ea1 : aExp (decide ((ptok (fun j => (tp j).toInt) n (aOk s).2.2.2).1 = 3)) 1 (aOk s) = aOk s := if_pos (decide_eq_true g3)
      by_cases g4 : lo ≤ pvalT (fun j => (tp j).toInt) n s ∧ pvalT (fun j => (tp j).toInt) n s ≤ hi
      · have ea : aNum (fun j => (tp j).toInt) n lo hi (aOk s) = aStep (fun j => (tp j).toInt) n (aExp true 1 (aOk s)) := by
          unfold aNum
          rw [ea1, show aExp (decide (lo ≤ pvalT (fun j => (tp j).toInt) n (aOk s).2.2.2 ∧ pvalT (fun j => (tp j).toInt) n (aOk s).2.2.2 ≤ hi)) 2 (aOk s) = aOk s from if_pos (decide_eq_true g4)]
          rfl
        have e : fX12_number mi tp p1 p2 = (mi 32, fX12_passes mi tp 1) := by
          unfold fX12_number cal
          dsimp only
          rw [if_pos h33, if_pos g31, pr_in1 (a := mi 32) (b := p1) (c := p2) (by rw [h1, h2, h32]; exact g4), if_neg (show ¬ (1 : Int32) = 0 by decide), rx_b47]
          show (mi 32, fX12_passes (mu7 mi (own7 mi)) tp 1) = _
          rw [mu7_own]
        rw [ea, e]
        exact ⟨rx_passes hn true (fun _ => rfl) h, fun _ => h32⟩
      · have ea : aNum (fun j => (tp j).toInt) n lo hi (aOk s) = aBad 2 (nI s) := by
          unfold aNum
          rw [ea1, show aExp (decide (lo ≤ pvalT (fun j => (tp j).toInt) n (aOk s).2.2.2 ∧ pvalT (fun j => (tp j).toInt) n (aOk s).2.2.2 ≤ hi)) 2 (aOk s) = aBad 2 (nI s) from if_neg (fun q => g4 (of_decide_eq_true q))]
          rfl
        have e : fX12_number mi tp p1 p2 = (mi 32, 2, mi 30, mi 29, mi 30, mi 31, mi 32, 1) := by
          unfold fX12_number cal
          dsimp only
          rw [if_pos h33, if_pos g31, pr_in0 (a := mi 32) (b := p1) (c := p2) (by rw [h1, h2, h32]; exact g4), if_pos rfl, rx_faults, if_pos h33, rx_b47, rx_pbad 1 (show ¬ (1 : Int32) = 0 by decide)]
          rfl
        rw [ea, e]
        exact ⟨aRR_bad h26 rfl (show (2 : Int32) ≠ 0 by decide) rfl rfl h30, fun q => absurd q (by intro q; cases q)⟩
    · have g31 : ¬ mi 31 = 2 := fun q => by
        rw [h31] at q
        have q2 := pz_ninj (b := 2) (by omega) (by omega) q
        unfold pkind at q2
        rcases (show (ptok (fun j => (tp j).toInt) n s).1 = 0 ∨ (ptok (fun j => (tp j).toInt) n s).1 = 1 ∨ (ptok (fun j => (tp j).toInt) n s).1 = 2 ∨ (ptok (fun j => (tp j).toInt) n s).1 = 4 by omega) with q3 | q3 | q3 | q3 <;> rw [q3] at q2 <;> exact absurd q2 (by decide)
      have ea : aNum (fun j => (tp j).toInt) n lo hi (aOk s) = aBad 1 (nI s) := by
        unfold aNum
        rw [show aExp (decide ((ptok (fun j => (tp j).toInt) n (aOk s).2.2.2).1 = 3)) 1 (aOk s) = aBad 1 (nI s) from if_neg (fun q => g3 (of_decide_eq_true q))]
        rfl
      have e : fX12_number mi tp p1 p2 = (mi 32, 1, mi 30, mi 29, mi 30, mi 31, mi 32, 1) := by
        unfold fX12_number cal
        dsimp only
        rw [if_pos h33, if_neg g31, rx_faults, if_pos h33, rx_b47, rx_pbad 1 (show ¬ (1 : Int32) = 0 by decide)]
        rfl
      rw [ea, e]
      exact ⟨aRR_bad h26 rfl (show (1 : Int32) ≠ 0 by decide) rfl rfl h30, fun q => absurd q (by intro q; cases q)⟩
