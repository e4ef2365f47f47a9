/-! the reference's name of a place -/
theorem aNam_true {bt lt : Nat → Int32} {n m : Nat} (a : aS) : aNam bt lt n m true a = aStep (fun j => (bt j).toInt) n (aExp (decide (aFnd bt lt n m a.2.2.2 ≠ -1)) 2 (aExp (decide ((ptok (fun j => (bt j).toInt) n a.2.2.2).1 = 2)) 1 a)) := by
  unfold aNam
  by_cases h : (ptok (fun j => (bt j).toInt) n a.2.2.2).2 - a.2.2.2 ≤ 6
  · rw [decide_eq_true h, Bool.true_and]
    congr 2
    cases decide (aFnd bt lt n m a.2.2.2 ≠ -1) with
    | true => rfl
    | false => rfl
  · rw [decide_eq_false h, Bool.false_and, fnd_long h, decide_eq_false (show ¬ ((-1 : Int32) ≠ -1) from fun q => q rfl)]
theorem rx_b46 {mi tp lt : Nat → Int32} {v w27 w28 w29 w30 w31 w32 w33 : Int32} : bfX12_placeHere_46 mi tp lt v w27 w28 w29 w30 w31 w32 w33 = ((if (0 : Int32) < v then v else 0), fX12_passes (mu7 mi (w27, w28, w29, w30, w31, w32, w33)) tp 1) := rfl
theorem rx_placeHere {n m : Nat} {bt tp lt mi : Nat → Int32} {a : aS} (hn : n ≤ 1600) (hm : m ≤ 6) (hT : TR n bt tp) (h7 : mi 7 = nI m) (h : aRR (fun j => (bt j).toInt) n a mi) : aRR (fun j => (bt j).toInt) n (aNam bt lt n m true a) (mu7 mi (fX12_placeHere mi tp lt).2) ∧ ((aNam bt lt n m true a).1 = false → (fX12_placeHere mi tp lt).1 = aFnd bt lt n m a.2.2.2 ∧ ∃ j, j < m ∧ aFnd bt lt n m a.2.2.2 = nI j) := by
  rw [aNam_true]
  rcases aRR_cases h with ⟨h26, g1, g2, h33, h27, h28⟩ | ⟨s, h26, rfl, h33, h27, h28, hs, h29, h30, h31, h32⟩
  · have hb : ¬ mi 33 = 0 := by rw [h33]; decide
    have e : fX12_placeHere mi tp lt = (0, own7 mi) := by
      unfold fX12_placeHere bfX12_placeHere_20 bfX12_placeHere_35
      rw [if_neg hb, if_neg hb, if_neg (by decide), rx_b46]
      show ((if (0 : Int32) < 0 then (0 : Int32) else 0), fX12_passes (mu7 mi (own7 mi)) tp 1) = _
      rw [mu7_own, rx_pbad 1 hb]
      rfl
    have ea : ∀ (c d : Bool), aStep (fun j => (bt j).toInt) n (aExp c 2 (aExp d 1 a)) = a := by
      intro c d
      unfold aStep aExp
      rw [if_pos g1, if_pos g1, if_pos g1]
    rw [ea, e]
    refine ⟨?_, fun q => absurd (q.symm.trans g1) (by decide)⟩
    show aRR _ n a (mu7 mi (own7 mi))
    rw [mu7_own]
    exact h
  · have hk := ptok_kind (fun j => (bt j).toInt) n s
    have hk2 := pkind_le hk
    by_cases g3 : (ptok (fun j => (bt j).toInt) n s).1 = 2
    · have g31 : mi 31 = 1 := by rw [h31, g3]; rfl
      have hf := fnd_ref (lt := lt) (mi := mi) hn hm hT g3 h7 h29 h30
      have ea1 : aExp (decide ((ptok (fun j => (bt j).toInt) n (aOk s).2.2.2).1 = 2)) 1 (aOk s) = aOk s := if_pos (decide_eq_true g3)
      rw [ea1]
      have e20 : fX12_placeHere mi tp lt = bfX12_placeHere_35 mi tp lt (aFnd bt lt n m s) (mi 27) (mi 28) (mi 29) (mi 30) (mi 31) (mi 32) (mi 33) := by
        unfold fX12_placeHere bfX12_placeHere_20 cal
        dsimp only
        rw [if_pos h33, if_pos g31, if_pos h33]
        show bfX12_placeHere_35 mi tp lt (fX12_named (mu7 mi (own7 mi)) tp lt) _ _ _ _ _ _ _ = _
        rw [mu7_own, hf]
      by_cases g4 : aFnd bt lt n m s = -1
      · have e : fX12_placeHere mi tp lt = (0, 2, mi 30, mi 29, mi 30, mi 31, mi 32, 1) := by
          rw [e20]
          unfold bfX12_placeHere_35 cal
          dsimp only
          rw [if_pos g4]
          show bfX12_placeHere_46 mi tp lt (aFnd bt lt n m s) (fX12_faults (mu7 mi (own7 mi)) 2).1 (fX12_faults (mu7 mi (own7 mi)) 2).2.1 (mi 29) (mi 30) (mi 31) (mi 32) (fX12_faults (mu7 mi (own7 mi)) 2).2.2 = _
          rw [mu7_own, rx_faults, if_pos h33, g4, rx_b46, rx_pbad 1 (show ¬ (1 : Int32) = 0 by decide)]
          rfl
        have ea : aStep (fun j => (bt j).toInt) n (aExp (decide (aFnd bt lt n m (aOk s).2.2.2 ≠ -1)) 2 (aOk s)) = aBad 2 (nI s) := by
          rw [show aExp (decide (aFnd bt lt n m (aOk s).2.2.2 ≠ -1)) 2 (aOk s) = aBad 2 (nI s) from if_neg (fun q => (show aFnd bt lt n m s ≠ -1 from of_decide_eq_true q) g4)]
          rfl
        rw [ea, e]
        exact ⟨aRR_bad h26 rfl (show (2 : Int32) ≠ 0 by decide) rfl rfl h30, fun q => absurd q (by intro q; cases q)⟩
      · obtain ⟨j, -, hj, -, ej⟩ := (pfst_cases (gmt lt bt s (ptok (fun j => (bt j).toInt) n s).2) m 0).resolve_left g4
        have ej : aFnd bt lt n m s = nI j := ej
        have e : fX12_placeHere mi tp lt = (aFnd bt lt n m s, fX12_passes mi tp 1) := by
          rw [e20]
          unfold bfX12_placeHere_35
          rw [if_neg g4, rx_b46]
          show ((if (0 : Int32) < aFnd bt lt n m s then aFnd bt lt n m s else 0), fX12_passes (mu7 mi (own7 mi)) tp 1) = _
          rw [mu7_own, ej]
          by_cases h0 : 0 < j
          · rw [if_pos (show (0 : Int32) < nI j from nI_lt (a := 0) h0 (by omega))]
          · rw [show j = 0 by omega, if_neg (by decide)]
            rfl
        have ea : aStep (fun j => (bt j).toInt) n (aExp (decide (aFnd bt lt n m (aOk s).2.2.2 ≠ -1)) 2 (aOk s)) = aStep (fun j => (bt j).toInt) n (aExp true 1 (aOk s)) := by
          rw [show aExp (decide (aFnd bt lt n m (aOk s).2.2.2 ≠ -1)) 2 (aOk s) = aOk s from if_pos (decide_eq_true g4)]
          rfl
        rw [ea, e]
        refine ⟨?_, fun _ => ⟨rfl, j, by omega, ej⟩⟩
        have h1 := rx_passes (p1 := 1) hn true (fun _ => rfl) ((tr_RR hT _ mi).mpr h)
        rw [tr_step hT] at h1
        exact (tr_RR hT _ _).mp h1
    · have g31 : ¬ mi 31 = 1 := fun q => by
        rw [h31] at q
        exact g3 ((pkind_1 hk).mp (pz_ninj (b := 1) (by omega) (by omega) q))
      have ea : ∀ c : Bool, aStep (fun j => (bt j).toInt) n (aExp c 2 (aExp (decide ((ptok (fun j => (bt j).toInt) n (aOk s).2.2.2).1 = 2)) 1 (aOk s))) = aBad 1 (nI s) := by
        intro c
        rw [show aExp (decide ((ptok (fun j => (bt j).toInt) n (aOk s).2.2.2).1 = 2)) 1 (aOk s) = aBad 1 (nI s) from if_neg (fun q => g3 (of_decide_eq_true q))]
        rfl
      have e : fX12_placeHere mi tp lt = (0, 1, mi 30, mi 29, mi 30, mi 31, mi 32, 1) := by
        unfold fX12_placeHere cal
        dsimp only
        rw [if_pos h33, if_neg g31, rx_faults, if_pos h33]
        unfold bfX12_placeHere_20 bfX12_placeHere_35
        rw [if_neg (show ¬ (1 : Int32) = 0 by decide), if_neg (show ¬ (0 : Int32) = -1 by decide), rx_b46, rx_pbad 1 (show ¬ (1 : Int32) = 0 by decide)]
        rfl
      rw [ea, e]
      exact ⟨aRR_bad h26 rfl (show (1 : Int32) ≠ 0 by decide) rfl rfl h30, fun q => absurd q (by intro q; cases q)⟩
