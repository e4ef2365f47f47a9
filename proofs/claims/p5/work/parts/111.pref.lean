theorem aNam_true {bt lt : Nat → Int32} {n m : Nat} (a : aS) : aNam bt lt n m true a = aStep (fun j => (bt j).toInt) n (aExp (decide (aFnd bt lt n m a.2.2.2 ≠ -1)) 2 (aExp (decide ((ptok (fun j => (bt j).toInt) n a.2.2.2).1 = 2)) 1 a)) := by
  sorry
theorem rx_b46 {mi tp lt : Nat → Int32} {v w27 w28 w29 w30 w31 w32 w33 : Int32} : bfX12_placeHere_46 mi tp lt v w27 w28 w29 w30 w31 w32 w33 = ((if (0 : Int32) < v then v else 0), fX12_passes (mu7 mi (w27, w28, w29, w30, w31, w32, w33)) tp 1) := rfl
theorem rx_placeHere {n m : Nat} {bt tp lt mi : Nat → Int32} {a : aS} (hn : n ≤ 1600) (hm : m ≤ 6) (hT : TR n bt tp) (h7 : mi 7 = nI m) (h : aRR (fun j => (bt j).toInt) n a mi) : aRR (fun j => (bt j).toInt) n (aNam bt lt n m true a) (mu7 mi (fX12_placeHere mi tp lt).2) ∧ ((aNam bt lt n m true a).1 = false → (fX12_placeHere mi tp lt).1 = aFnd bt lt n m a.2.2.2 ∧ ∃ j, j < m ∧ aFnd bt lt n m a.2.2.2 = nI j) := by
  sorry
