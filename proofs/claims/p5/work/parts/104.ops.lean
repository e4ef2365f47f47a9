theorem aExp_ok (c : Bool) (k : Int32) (s : Nat) : aExp c k (aOk s) = if c = true then aOk s else aBad k (nI s) := rfl
theorem cx_word {bt : Nat → Int32} {n wi : Nat} {a : aS} {fk fp tok st en : Int32} (hn : n ≤ 1600) (hw : (stL wi).length ≤ 7) (h : aRC (fun j => (bt j).toInt) n a fk fp tok st en) : aRC (fun j => (bt j).toInt) n (aStep (fun j => (bt j).toInt) n (aExp (aIs bt n a.2.2.2 (stL wi)) 1 a)) (fX6_passWord fk fp tok st en (nI n) bt wi).1 (fX6_passWord fk fp tok st en (nI n) bt wi).2.1 (fX6_passWord fk fp tok st en (nI n) bt wi).2.2.1 (fX6_passWord fk fp tok st en (nI n) bt wi).2.2.2.1 (fX6_passWord fk fp tok st en (nI n) bt wi).2.2.2.2 := by
  sorry
theorem cx_sign {bt : Nat → Int32} {n : Nat} {a : aS} {fk fp tok st en : Int32} (hn : n ≤ 1600) (h : aRC (fun j => (bt j).toInt) n a fk fp tok st en) : aRC (fun j => (bt j).toInt) n (aStep (fun j => (bt j).toInt) n (aExp (decide ((ptok (fun j => (bt j).toInt) n a.2.2.2).1 = 4)) 1 a)) (fX6_passSign fk fp tok st en (nI n) bt).1 (fX6_passSign fk fp tok st en (nI n) bt).2.1 (fX6_passSign fk fp tok st en (nI n) bt).2.2.1 (fX6_passSign fk fp tok st en (nI n) bt).2.2.2.1 (fX6_passSign fk fp tok st en (nI n) bt).2.2.2.2 := by
  sorry
theorem cx_head {bt : Nat → Int32} {n : Nat} {a : aS} {fk fp tok st en : Int32} (hn : n ≤ 1600) (c : Bool) {p1 : Int32} (hp : p1 = if c = true then 1 else 0) (h : aRC (fun j => (bt j).toInt) n a fk fp tok st en) : aRC (fun j => (bt j).toInt) n (aStep (fun j => (bt j).toInt) n (aExp c 3 a)) (fX6_passHead fk fp tok st en (nI n) bt p1).1 (fX6_passHead fk fp tok st en (nI n) bt p1).2.1 (fX6_passHead fk fp tok st en (nI n) bt p1).2.2.1 (fX6_passHead fk fp tok st en (nI n) bt p1).2.2.2.1 (fX6_passHead fk fp tok st en (nI n) bt p1).2.2.2.2 := by
  sorry
def mu7 (mi : Nat → Int32) (o : Int32 × Int32 × Int32 × Int32 × Int32 × Int32 × Int32) : Nat → Int32 := upd (upd (upd (upd (upd (upd (upd mi 27 o.1) 28 o.2.1) 29 o.2.2.1) 30 o.2.2.2.1) 31 o.2.2.2.2.1) 32 o.2.2.2.2.2.1) 33 o.2.2.2.2.2.2
def own7 (mi : Nat → Int32) : Int32 × Int32 × Int32 × Int32 × Int32 × Int32 × Int32 := (mi 27, mi 28, mi 29, mi 30, mi 31, mi 32, mi 33)
theorem mu7_own (mi : Nat → Int32) : mu7 mi (own7 mi) = mi := by
  sorry
def aRR (t : Nat → Int) (n : Nat) (a : aS) (mi : Nat → Int32) : Prop :=
  mi 26 = nI n ∧ if a.1 = true then a.2.1 ≠ 0 ∧ mi 33 = 1 ∧ mi 27 = a.2.1 ∧ mi 28 = a.2.2.1
  else a = aOk a.2.2.2 ∧ mi 33 = 0 ∧ mi 27 = 0 ∧ mi 28 = -1 ∧ a.2.2.2 ≤ n ∧ mi 29 = nI (ptok t n a.2.2.2).2 ∧ mi 30 = nI a.2.2.2 ∧ mi 31 = nI (pkind (ptok t n a.2.2.2).1) ∧ (mi 32).toInt = pvalT t n a.2.2.2
theorem aRR_cases {t : Nat → Int} {n : Nat} {a : aS} {mi : Nat → Int32} (h : aRR t n a mi) : (mi 26 = nI n ∧ a.1 = true ∧ a.2.1 ≠ 0 ∧ mi 33 = 1 ∧ mi 27 = a.2.1 ∧ mi 28 = a.2.2.1) ∨ ∃ s, mi 26 = nI n ∧ a = aOk s ∧ mi 33 = 0 ∧ mi 27 = 0 ∧ mi 28 = -1 ∧ s ≤ n ∧ mi 29 = nI (ptok t n s).2 ∧ mi 30 = nI s ∧ mi 31 = nI (pkind (ptok t n s).1) ∧ (mi 32).toInt = pvalT t n s := by
  sorry
theorem aRR_bad {t : Nat → Int} {n : Nat} {a : aS} {mi : Nat → Int32} (h26 : mi 26 = nI n) (h1 : a.1 = true) (h2 : a.2.1 ≠ 0) (h33 : mi 33 = 1) (h27 : mi 27 = a.2.1) (h28 : mi 28 = a.2.2.1) : aRR t n a mi := by
  sorry
theorem aRR_ok {t : Nat → Int} {n s : Nat} {mi : Nat → Int32} (h26 : mi 26 = nI n) (h33 : mi 33 = 0) (h27 : mi 27 = 0) (h28 : mi 28 = -1) (hs : s ≤ n) (h29 : mi 29 = nI (ptok t n s).2) (h30 : mi 30 = nI s) (h31 : mi 31 = nI (pkind (ptok t n s).1)) (h32 : (mi 32).toInt = pvalT t n s) : aRR t n (aOk s) mi := by
  sorry
theorem rx_faultsAt (mi : Nat → Int32) (k p : Int32) : fX12_faultsAt mi k p = if mi 33 = 0 then (k, p, 1) else (mi 27, mi 28, mi 33) := by
  sorry
theorem rx_faults (mi : Nat → Int32) (k : Int32) : fX12_faults mi k = if mi 33 = 0 then (k, mi 30, 1) else (mi 27, mi 28, mi 33) := by
  sorry
theorem rx_p9 {mi tp : Nat → Int32} {p1 w27 w28 w29 w30 w31 w32 w33 : Int32} (h : w33 = 0) : bfX12_passes_9 mi tp p1 w27 w28 w29 w30 w31 w32 w33 = (w27, w28, (fX12_next (mu7 mi (w27, w28, w29, w30, w31, w32, w33)) tp).1, (fX12_next (mu7 mi (w27, w28, w29, w30, w31, w32, w33)) tp).2.1, (fX12_next (mu7 mi (w27, w28, w29, w30, w31, w32, w33)) tp).2.2.1, (fX12_next (mu7 mi (w27, w28, w29, w30, w31, w32, w33)) tp).2.2.2, w33) := by
  sorry
theorem rx_p9b {mi tp : Nat → Int32} {p1 w27 w28 w29 w30 w31 w32 w33 : Int32} (h : ¬ w33 = 0) : bfX12_passes_9 mi tp p1 w27 w28 w29 w30 w31 w32 w33 = (w27, w28, w29, w30, w31, w32, w33) := by
  sorry
theorem rx_passes {tp mi : Nat → Int32} {n : Nat} {a : aS} (hn : n ≤ 1600) (c : Bool) {p1 : Int32} (hp : a.1 = false → p1 = if c = true then 1 else 0) (h : aRR (fun j => (tp j).toInt) n a mi) : aRR (fun j => (tp j).toInt) n (aStep (fun j => (tp j).toInt) n (aExp c 1 a)) (mu7 mi (fX12_passes mi tp p1)) := by
  sorry
theorem rx_word {tp mi : Nat → Int32} {n wi : Nat} {a : aS} (hn : n ≤ 1600) (hw : (stL wi).length ≤ 7) (h : aRR (fun j => (tp j).toInt) n a mi) : aRR (fun j => (tp j).toInt) n (aStep (fun j => (tp j).toInt) n (aExp (aIs tp n a.2.2.2 (stL wi)) 1 a)) (mu7 mi (fX12_word mi tp wi)) := by
  sorry
