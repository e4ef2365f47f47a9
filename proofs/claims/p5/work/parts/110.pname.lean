def isz (x : Int) : Prop := x = 0 ∨ (97 ≤ x ∧ x ≤ 122)
theorem pdg_isz {x y : Int} (hx : isz x) (hy : isz y) : pdg x = pdg y ↔ x = y := by
  sorry
def NM (m : Nat) (nm lt : Nat → Int32) : Prop := ∀ p, p < m → (nm p).toInt = pcod (fun k => (lt (6 * p + k)).toInt) 6 0 0 ∧ ∀ k, k < 6 → isz (lt (6 * p + k)).toInt
theorem gall_iff (lt f : Nat → Int32) (s e p : Nat) : ∀ k j : Nat, gall lt f s e p k j = true ↔ ∀ i, j ≤ i → i < j + k → lt (6 * p + i) = gsn f s e i := by
  sorry
theorem wd_letters {n s : Nat} {bt : Nat → Int32} (hk : (ptok (fun j => (bt j).toInt) n s).1 = 2) : s < n ∧ s ≤ (ptok (fun j => (bt j).toInt) n s).2 ∧ (ptok (fun j => (bt j).toInt) n s).2 ≤ n ∧ ∀ j, s ≤ j → j < (ptok (fun j => (bt j).toInt) n s).2 → 97 ≤ (bt j).toInt ∧ (bt j).toInt ≤ 122 := by
  sorry
theorem gsn_eq {f h : Nat → Int32} {s e : Nat} (he : ∀ j, s ≤ j → j < e → f j = h j) (k : Nat) : gsn f s e k = gsn h s e k := by
  sorry
theorem gmt_eq {f h lt : Nat → Int32} {s e : Nat} (he : ∀ j, s ≤ j → j < e → f j = h j) (p : Nat) : gmt lt f s e p = gmt lt h s e p := by
  sorry
theorem nm_match {n m s p : Nat} {bt nm lt : Nat → Int32} (hn : n ≤ 1600) (hN : NM m nm lt) (hp : p < m) (hk : (ptok (fun j => (bt j).toInt) n s).1 = 2) (h6 : (ptok (fun j => (bt j).toInt) n s).2 - s ≤ 6) : (nm p = fX6_nameHere (nI s) (nI (ptok (fun j => (bt j).toInt) n s).2) (nI n) bt) ↔ gmt lt bt s (ptok (fun j => (bt j).toInt) n s).2 p = true := by
  sorry
def aFnd (bt lt : Nat → Int32) (n m s : Nat) : Int32 := pfst (gmt lt bt s (ptok (fun j => (bt j).toInt) n s).2) m 0
theorem aExp_two (c d : Bool) (k : Int32) (a : aS) : aExp d k (aExp c k a) = aExp (c && d) k a := by
  sorry
def aNam (bt lt : Nat → Int32) (n m : Nat) (told : Bool) (a : aS) : aS := aStep (fun j => (bt j).toInt) n (aExp (decide ((ptok (fun j => (bt j).toInt) n a.2.2.2).2 - a.2.2.2 ≤ 6) && decide (decide (aFnd bt lt n m a.2.2.2 ≠ -1) = told)) 2 (aExp (decide ((ptok (fun j => (bt j).toInt) n a.2.2.2).1 = 2)) 1 a))
theorem fnd_class {n m s : Nat} {bt nm lt : Nat → Int32} (hn : n ≤ 1600) (hm : m ≤ 6) (hN : NM m nm lt) (hk : (ptok (fun j => (bt j).toInt) n s).1 = 2) (h6 : (ptok (fun j => (bt j).toInt) n s).2 - s ≤ 6) : fX0_placeNamed (nI m) nm (fX6_nameHere (nI s) (nI (ptok (fun j => (bt j).toInt) n s).2) (nI n) bt) = aFnd bt lt n m s := by
  sorry
theorem fnd_ref {n m s : Nat} {bt tp lt mi : Nat → Int32} (hn : n ≤ 1600) (hm : m ≤ 6) (hT : TR n bt tp) (hk : (ptok (fun j => (bt j).toInt) n s).1 = 2) (h7 : mi 7 = nI m) (h29 : mi 29 = nI (ptok (fun j => (bt j).toInt) n s).2) (h30 : mi 30 = nI s) : fX12_named mi tp lt = aFnd bt lt n m s := by
  sorry
theorem fnd_long {n m s : Nat} {bt lt : Nat → Int32} (h6 : ¬ (ptok (fun j => (bt j).toInt) n s).2 - s ≤ 6) : aFnd bt lt n m s = -1 := by
  sorry
theorem cx_name {n m : Nat} {bt nm lt : Nat → Int32} {a : aS} {fk fp tok st en : Int32} (hn : n ≤ 1600) (hm : m ≤ 6) (hN : NM m nm lt) (told : Bool) {p1 : Int32} (hp : p1 = if told = true then 1 else 0) (h : aRC (fun j => (bt j).toInt) n a fk fp tok st en) : aRC (fun j => (bt j).toInt) n (aNam bt lt n m told a) (fX6_passName fk fp tok st en (nI n) bt (nI m) nm p1).2.1 (fX6_passName fk fp tok st en (nI n) bt (nI m) nm p1).2.2.1 (fX6_passName fk fp tok st en (nI n) bt (nI m) nm p1).2.2.2.1 (fX6_passName fk fp tok st en (nI n) bt (nI m) nm p1).2.2.2.2.1 (fX6_passName fk fp tok st en (nI n) bt (nI m) nm p1).2.2.2.2.2 ∧ (fX6_passName fk fp tok st en (nI n) bt (nI m) nm p1).1 = fX6_nameHere st en (nI n) bt := by
  sorry
