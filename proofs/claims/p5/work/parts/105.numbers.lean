def pvalC (b : Nat → Int) : Nat → Nat → Int → Int
  | 0, _, v => v
  | k + 1, e, v => pvalC b k (e + 1) (if cD (b e) = true then min 1000000 (10 * v + b e - 48) else v)
theorem pvalC_ge (b : Nat → Int) : ∀ (k e : Nat) (v : Int), 0 ≤ v → 0 ≤ pvalC b k e v := by
  sorry
theorem pvalC_le (b : Nat → Int) : ∀ (k e : Nat) (v : Int), v ≤ 1000000 → pvalC b k e v ≤ 1000000 := by
  sorry
theorem px_valueL {bt : Nat → Int32} {n s e : Nat} (hn : n ≤ 1600) (he : e ≤ n) : ∀ (k p z : Nat) (v : Int32), p + k = e → k < z → 0 ≤ v.toInt → v.toInt ≤ 1000000 → (lfX6_valueHere (nI s) (nI e) (nI n) bt z v (nI p)).toInt = pvalC (fun j => (bt j).toInt) k p v.toInt := by
  sorry
theorem px_value {bt : Nat → Int32} {n s e : Nat} (hn : n ≤ 1600) (hs : s ≤ e) (he : e ≤ n) : (fX6_valueHere (nI s) (nI e) (nI n) bt).toInt = pvalC (fun j => (bt j).toInt) (e - s) s 0 := by
  sorry
theorem pval_rel {b : Nat → Int} : ∀ (k s : Nat) (u v : Int), 0 ≤ v → u = min 100000 v → pvalR b k s u = min 100000 (pvalC b (prun (fun j => cD (b j)) k s - s) s v) := by
  sorry
theorem pvalT_C {b : Nat → Int} {n s : Nat} (h : (ptok b n s).1 = 3) : pvalT b n s = min 100000 (pvalC b ((ptok b n s).2 - s) s 0) := by
  sorry
def aNum (b : Nat → Int) (n : Nat) (lo hi : Int) (a : aS) : aS := aStep b n (aExp (decide (lo ≤ pvalT b n a.2.2.2 ∧ pvalT b n a.2.2.2 ≤ hi)) 2 (aExp (decide ((ptok b n a.2.2.2).1 = 3)) 1 a))
theorem cx_number {bt : Nat → Int32} {n : Nat} {a : aS} {fk fp tok st en p1 p2 : Int32} (hn : n ≤ 1600) (lo hi : Int) (h1 : p1.toInt = lo) (h2 : p2.toInt = hi) (hb : hi ≤ 99999 ∨ (lo = 0 ∧ hi = 1000000)) (hl : 0 ≤ lo) (h : aRC (fun j => (bt j).toInt) n a fk fp tok st en) :
    aRC (fun j => (bt j).toInt) n (aNum (fun j => (bt j).toInt) n lo (min hi 100000) a) (fX6_passNumber fk fp tok st en (nI n) bt p1 p2).2.1 (fX6_passNumber fk fp tok st en (nI n) bt p1 p2).2.2.1 (fX6_passNumber fk fp tok st en (nI n) bt p1 p2).2.2.2.1 (fX6_passNumber fk fp tok st en (nI n) bt p1 p2).2.2.2.2.1 (fX6_passNumber fk fp tok st en (nI n) bt p1 p2).2.2.2.2.2 ∧ ((aNum (fun j => (bt j).toInt) n lo (min hi 100000) a).1 = false → min 100000 (fX6_passNumber fk fp tok st en (nI n) bt p1 p2).1.toInt = pvalT (fun j => (bt j).toInt) n a.2.2.2 ∧ lo ≤ (fX6_passNumber fk fp tok st en (nI n) bt p1 p2).1.toInt ∧ (fX6_passNumber fk fp tok st en (nI n) bt p1 p2).1.toInt ≤ hi) := by
  have e : fX6_passNumber fk fp tok st en (nI n) bt p1 p2 = bfX6_passNumber_14 fk fp tok st en (nI n) bt p1 p2 (if tok = 3 then 1 else 0) fk fp tok st en := by
    unfold fX6_passNumber
    split
    · rfl
    · rfl
  have e2 : ∀ s0 : Int32, bfX6_passNumber_14 fk fp tok st en (nI n) bt p1 p2 s0 fk fp tok st en = bfX6_passNumber_39 fk fp tok st en (nI n) bt p1 p2 (fX6_valueHere st en (nI n) bt) (if fX6_valueHere st en (nI n) bt < p1 then 0 else if p2 < fX6_valueHere st en (nI n) bt then 0 else 1) (fX6_expect fk fp st s0 1).1 (fX6_expect fk fp st s0 1).2 tok st en := by
    intro s0
    unfold bfX6_passNumber_14 bfX6_passNumber_38 cal
    dsimp only
    split
    · rfl
    · split
      · rfl
      · rfl
  rw [e, e2]
  generalize hv : fX6_valueHere st en (nI n) bt = v
  have hx : aRC (fun j => (bt j).toInt) n (aExp (decide ((ptok (fun j => (bt j).toInt) n a.2.2.2).1 = 3)) 1 a) (fX6_expect fk fp st (if tok = 3 then 1 else 0) 1).1 (fX6_expect fk fp st (if tok = 3 then 1 else 0) 1).2 tok st en := by
    refine cx_expect _ (by decide) (fun h0 => ?_) h
    rcases aRC_cases h with ⟨g1, g2, rfl, rfl⟩ | ⟨s, rfl, rfl, rfl, hs, rfl, rfl, rfl⟩
    · rw [g1] at h0
      exact absurd h0 (by intro q; cases q)
    · have hk := ptok_kind (fun j => (bt j).toInt) n s
      show (if nI (ptok (fun j => (bt j).toInt) n s).1 = 3 then (1 : Int32) else 0) = if decide ((ptok (fun j => (bt j).toInt) n s).1 = 3) = true then 1 else 0
      by_cases h5 : (ptok (fun j => (bt j).toInt) n s).1 = 3
      · rw [if_pos (by rw [h5]; rfl), if_pos (decide_eq_true h5)]
      · rw [if_neg (fun (q : nI (ptok (fun j => (bt j).toInt) n s).1 = (3 : Int32)) => h5 (pz_ninj (b := 3) (by omega) (by omega) q)), if_neg (fun q => h5 (of_decide_eq_true q))]
  have hval : (aExp (decide ((ptok (fun j => (bt j).toInt) n a.2.2.2).1 = 3)) 1 a).1 = false → min 100000 v.toInt = pvalT (fun j => (bt j).toInt) n a.2.2.2 ∧ 0 ≤ v.toInt ∧ v.toInt ≤ 1000000 ∧ aExp (decide ((ptok (fun j => (bt j).toInt) n a.2.2.2).1 = 3)) 1 a = a := by
    intro h0
    rcases aRC_cases h with ⟨g1, g2, rfl, rfl⟩ | ⟨s, rfl, rfl, rfl, hs, rfl, rfl, rfl⟩
    · unfold aExp at h0
      rw [if_pos g1, g1] at h0
      exact absurd h0 (by intro q; cases q)
    · rw [aExp_ok] at h0 ⊢
      by_cases h5 : decide ((ptok (fun j => (bt j).toInt) n (aOk s).2.2.2).1 = 3) = true
      · rw [if_pos h5]
        have h6 : (ptok (fun j => (bt j).toInt) n s).1 = 3 := of_decide_eq_true h5
        have hle := ptok_le (fun j => (bt j).toInt) hs
        have hvv := px_value (bt := bt) hn hle.1 hle.2
        rw [hv] at hvv
        refine ⟨?_, ?_, ?_, rfl⟩
        · rw [hvv]
          exact (pvalT_C h6).symm
        · rw [hvv]
          exact pvalC_ge _ _ _ _ (Int.le_refl 0)
        · have h8 := px_valueL (bt := bt) (s := s) hn hle.2 ((ptok (fun j => (bt j).toInt) n s).2 - s) s 1000000000 0 (by omega) (by omega) (by decide) (by decide)
          rw [hvv]
          exact pvalC_le _ _ _ _ (by omega)
      · rw [if_neg h5] at h0
        exact absurd h0 (by intro q; cases q)
  have hy := cx_expect (b := fun j => (bt j).toInt) (n := n) (decide (lo ≤ pvalT (fun j => (bt j).toInt) n a.2.2.2 ∧ pvalT (fun j => (bt j).toInt) n a.2.2.2 ≤ min hi 100000)) (k := 2) (p1 := if v < p1 then 0 else if p2 < v then 0 else 1) (by decide) (fun h0 => by
    obtain ⟨v1, v2, v3, -⟩ := hval h0
    by_cases g1 : v < p1
    · have g2 := Int32.lt_iff_toInt_lt.mp g1
      rw [if_pos g1, if_neg (fun q => by have q2 := of_decide_eq_true q; omega)]
    · have g2 : p1.toInt ≤ v.toInt := Int32.le_iff_toInt_le.mp (Int32.not_lt.mp g1)
      rw [if_neg g1]
      by_cases g3 : p2 < v
      · have g4 := Int32.lt_iff_toInt_lt.mp g3
        rw [if_pos g3, if_neg (fun q => by have q2 := of_decide_eq_true q; omega)]
      · have g4 : v.toInt ≤ p2.toInt := Int32.le_iff_toInt_le.mp (Int32.not_lt.mp g3)
        rw [if_neg g3, if_pos (decide_eq_true (by omega))]) hx
  refine ⟨?_, ?_⟩
  · unfold bfX6_passNumber_39 cal aNum
    dsimp only
    exact cx_step hn hy
  · intro h0
    have h3 : (aExp (decide ((ptok (fun j => (bt j).toInt) n a.2.2.2).1 = 3)) 1 a).1 = false := by
      cases hq : (aExp (decide ((ptok (fun j => (bt j).toInt) n a.2.2.2).1 = 3)) 1 a).1 with
      | false => rfl
      | true =>
        unfold aNum aStep at h0
        rw [show aExp (decide (lo ≤ pvalT (fun j => (bt j).toInt) n a.2.2.2 ∧ pvalT (fun j => (bt j).toInt) n a.2.2.2 ≤ min hi 100000)) 2 (aExp (decide ((ptok (fun j => (bt j).toInt) n a.2.2.2).1 = 3)) 1 a) = aExp (decide ((ptok (fun j => (bt j).toInt) n a.2.2.2).1 = 3)) 1 a from if_pos hq, if_pos hq, hq] at h0
        exact absurd h0 (by intro q; cases q)
    obtain ⟨v1, v2, v3, v4⟩ := hval h3
    have h6 : lo ≤ pvalT (fun j => (bt j).toInt) n a.2.2.2 ∧ pvalT (fun j => (bt j).toInt) n a.2.2.2 ≤ min hi 100000 := by
      by_cases g : lo ≤ pvalT (fun j => (bt j).toInt) n a.2.2.2 ∧ pvalT (fun j => (bt j).toInt) n a.2.2.2 ≤ min hi 100000
      · exact g
      · have g2 : (aExp (decide (lo ≤ pvalT (fun j => (bt j).toInt) n a.2.2.2 ∧ pvalT (fun j => (bt j).toInt) n a.2.2.2 ≤ min hi 100000)) 2 (aExp (decide ((ptok (fun j => (bt j).toInt) n a.2.2.2).1 = 3)) 1 a)).1 = true := by
          unfold aExp at h3 ⊢
          rw [if_neg (by rw [h3]; decide), if_neg (fun q => g (of_decide_eq_true q))]
          rfl
        unfold aNum aStep at h0
        rw [if_pos g2, g2] at h0
        exact absurd h0 (by intro q; cases q)
    show min 100000 v.toInt = _ ∧ lo ≤ v.toInt ∧ v.toInt ≤ hi
    exact ⟨v1, by omega, by omega⟩
theorem rx_b47 {mi tp : Nat → Int32} {p1 p2 v w27 w28 w29 w30 w31 w32 w33 : Int32} : bfX12_number_47 mi tp p1 p2 v w27 w28 w29 w30 w31 w32 w33 = (v, fX12_passes (mu7 mi (w27, w28, w29, w30, w31, w32, w33)) tp 1) := rfl
theorem mu7_mu7 (mi : Nat → Int32) (o p : Int32 × Int32 × Int32 × Int32 × Int32 × Int32 × Int32) : mu7 (mu7 mi o) p = mu7 mi p := by
  sorry
theorem rx_pbad {mi tp : Nat → Int32} (p1 : Int32) (h : ¬ mi 33 = 0) : fX12_passes mi tp p1 = own7 mi := by
  sorry
theorem rx_number {tp mi : Nat → Int32} {n : Nat} {a : aS} {p1 p2 : Int32} (hn : n ≤ 1600) (lo hi : Int) (h1 : p1.toInt = lo) (h2 : p2.toInt = hi) (h : aRR (fun j => (tp j).toInt) n a mi) : aRR (fun j => (tp j).toInt) n (aNum (fun j => (tp j).toInt) n lo hi a) (mu7 mi (fX12_number mi tp p1 p2).2) ∧ ((aNum (fun j => (tp j).toInt) n lo hi a).1 = false → (fX12_number mi tp p1 p2).1.toInt = pvalT (fun j => (tp j).toInt) n a.2.2.2) := by
  sorry
