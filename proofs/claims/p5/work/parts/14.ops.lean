/-! the ops of both, one by one -/
theorem aExp_ok (c : Bool) (k : Int32) (s : Nat) : aExp c k (aOk s) = if c = true then aOk s else aBad k (nI s) := rfl
theorem cx_word {bt : Nat → Int32} {n wi : Nat} {a : aS} {fk fp tok st en : Int32} (hn : n ≤ 1600) (hw : (stL wi).length ≤ 7) (h : aRC (fun j => (bt j).toInt) n a fk fp tok st en) : aRC (fun j => (bt j).toInt) n (aStep (fun j => (bt j).toInt) n (aExp (aIs bt n a.2.2.2 (stL wi)) 1 a)) (fX6_passWord fk fp tok st en (nI n) bt wi).1 (fX6_passWord fk fp tok st en (nI n) bt wi).2.1 (fX6_passWord fk fp tok st en (nI n) bt wi).2.2.1 (fX6_passWord fk fp tok st en (nI n) bt wi).2.2.2.1 (fX6_passWord fk fp tok st en (nI n) bt wi).2.2.2.2 := by
  unfold fX6_passWord cal
  dsimp only
  refine cx_step hn (cx_expect _ (by decide) (fun h0 => ?_) h)
  rcases aRC_cases h with ⟨h1, h2, rfl, rfl⟩ | ⟨s, rfl, rfl, rfl, hs, rfl, rfl, rfl⟩
  · rw [h1] at h0
    exact absurd h0 (by decide)
  · exact px_isWord hn hs hw
theorem cx_sign {bt : Nat → Int32} {n : Nat} {a : aS} {fk fp tok st en : Int32} (hn : n ≤ 1600) (h : aRC (fun j => (bt j).toInt) n a fk fp tok st en) : aRC (fun j => (bt j).toInt) n (aStep (fun j => (bt j).toInt) n (aExp (decide ((ptok (fun j => (bt j).toInt) n a.2.2.2).1 = 4)) 1 a)) (fX6_passSign fk fp tok st en (nI n) bt).1 (fX6_passSign fk fp tok st en (nI n) bt).2.1 (fX6_passSign fk fp tok st en (nI n) bt).2.2.1 (fX6_passSign fk fp tok st en (nI n) bt).2.2.2.1 (fX6_passSign fk fp tok st en (nI n) bt).2.2.2.2 := by
  have e : fX6_passSign fk fp tok st en (nI n) bt = bfX6_passSign_14 fk fp tok st en (nI n) bt (if tok = 4 then 1 else 0) fk fp tok st en := by
    unfold fX6_passSign
    split
    · rfl
    · rfl
  rw [e]
  unfold bfX6_passSign_14 cal
  dsimp only
  refine cx_step hn (cx_expect _ (by decide) (fun h0 => ?_) h)
  rcases aRC_cases h with ⟨h1, h2, rfl, rfl⟩ | ⟨s, rfl, rfl, rfl, hs, rfl, rfl, rfl⟩
  · rw [h1] at h0
    exact absurd h0 (by decide)
  · have hk := ptok_kind (fun j => (bt j).toInt) n s
    show (if nI (ptok (fun j => (bt j).toInt) n s).1 = 4 then (1 : Int32) else 0) = if decide ((ptok (fun j => (bt j).toInt) n s).1 = 4) = true then 1 else 0
    by_cases h5 : (ptok (fun j => (bt j).toInt) n s).1 = 4
    · rw [if_pos (by rw [h5]; rfl), if_pos (decide_eq_true h5)]
    · rw [if_neg (fun (q : nI (ptok (fun j => (bt j).toInt) n s).1 = (4 : Int32)) => h5 (pz_ninj (b := 4) (by omega) (by omega) q)), if_neg (fun q => h5 (of_decide_eq_true q))]
theorem cx_head {bt : Nat → Int32} {n : Nat} {a : aS} {fk fp tok st en : Int32} (hn : n ≤ 1600) (c : Bool) {p1 : Int32} (hp : p1 = if c = true then 1 else 0) (h : aRC (fun j => (bt j).toInt) n a fk fp tok st en) : aRC (fun j => (bt j).toInt) n (aStep (fun j => (bt j).toInt) n (aExp c 3 a)) (fX6_passHead fk fp tok st en (nI n) bt p1).1 (fX6_passHead fk fp tok st en (nI n) bt p1).2.1 (fX6_passHead fk fp tok st en (nI n) bt p1).2.2.1 (fX6_passHead fk fp tok st en (nI n) bt p1).2.2.2.1 (fX6_passHead fk fp tok st en (nI n) bt p1).2.2.2.2 := by
  unfold fX6_passHead cal
  dsimp only
  exact cx_step hn (cx_expect c (by decide) (fun _ => hp) h)
/-! the reference's side -/
def mu7 (mi : Nat → Int32) (o : Int32 × Int32 × Int32 × Int32 × Int32 × Int32 × Int32) : Nat → Int32 := upd (upd (upd (upd (upd (upd (upd mi 27 o.1) 28 o.2.1) 29 o.2.2.1) 30 o.2.2.2.1) 31 o.2.2.2.2.1) 32 o.2.2.2.2.2.1) 33 o.2.2.2.2.2.2
def own7 (mi : Nat → Int32) : Int32 × Int32 × Int32 × Int32 × Int32 × Int32 × Int32 := (mi 27, mi 28, mi 29, mi 30, mi 31, mi 32, mi 33)
theorem mu7_own (mi : Nat → Int32) : mu7 mi (own7 mi) = mi := by
  unfold mu7 own7
  simp only [upd_self]
def aRR (t : Nat → Int) (n : Nat) (a : aS) (mi : Nat → Int32) : Prop :=
  mi 26 = nI n ∧ if a.1 = true then a.2.1 ≠ 0 ∧ mi 33 = 1 ∧ mi 27 = a.2.1 ∧ mi 28 = a.2.2.1
  else a = aOk a.2.2.2 ∧ mi 33 = 0 ∧ mi 27 = 0 ∧ mi 28 = -1 ∧ a.2.2.2 ≤ n ∧ mi 29 = nI (ptok t n a.2.2.2).2 ∧ mi 30 = nI a.2.2.2 ∧ mi 31 = nI (pkind (ptok t n a.2.2.2).1) ∧ (mi 32).toInt = pvalT t n a.2.2.2
theorem aRR_cases {t : Nat → Int} {n : Nat} {a : aS} {mi : Nat → Int32} (h : aRR t n a mi) : (mi 26 = nI n ∧ a.1 = true ∧ a.2.1 ≠ 0 ∧ mi 33 = 1 ∧ mi 27 = a.2.1 ∧ mi 28 = a.2.2.1) ∨ ∃ s, mi 26 = nI n ∧ a = aOk s ∧ mi 33 = 0 ∧ mi 27 = 0 ∧ mi 28 = -1 ∧ s ≤ n ∧ mi 29 = nI (ptok t n s).2 ∧ mi 30 = nI s ∧ mi 31 = nI (pkind (ptok t n s).1) ∧ (mi 32).toInt = pvalT t n s := by
  obtain ⟨h26, h⟩ := h
  by_cases h1 : a.1 = true
  · rw [if_pos h1] at h
    exact Or.inl ⟨h26, h1, h⟩
  · rw [if_neg h1] at h
    exact Or.inr ⟨a.2.2.2, h26, h⟩
theorem aRR_bad {t : Nat → Int} {n : Nat} {a : aS} {mi : Nat → Int32} (h26 : mi 26 = nI n) (h1 : a.1 = true) (h2 : a.2.1 ≠ 0) (h33 : mi 33 = 1) (h27 : mi 27 = a.2.1) (h28 : mi 28 = a.2.2.1) : aRR t n a mi := by
  refine ⟨h26, ?_⟩
  rw [if_pos h1]
  exact ⟨h2, h33, h27, h28⟩
theorem aRR_ok {t : Nat → Int} {n s : Nat} {mi : Nat → Int32} (h26 : mi 26 = nI n) (h33 : mi 33 = 0) (h27 : mi 27 = 0) (h28 : mi 28 = -1) (hs : s ≤ n) (h29 : mi 29 = nI (ptok t n s).2) (h30 : mi 30 = nI s) (h31 : mi 31 = nI (pkind (ptok t n s).1)) (h32 : (mi 32).toInt = pvalT t n s) : aRR t n (aOk s) mi := by
  refine ⟨h26, ?_⟩
  rw [if_neg (show ¬ (aOk s).1 = true from Bool.false_ne_true)]
  exact ⟨rfl, h33, h27, h28, hs, h29, h30, h31, h32⟩
theorem rx_faultsAt (mi : Nat → Int32) (k p : Int32) : fX12_faultsAt mi k p = if mi 33 = 0 then (k, p, 1) else (mi 27, mi 28, mi 33) := by
  unfold fX12_faultsAt bfX12_faultsAt_22
  rfl
theorem rx_faults (mi : Nat → Int32) (k : Int32) : fX12_faults mi k = if mi 33 = 0 then (k, mi 30, 1) else (mi 27, mi 28, mi 33) := by
  unfold fX12_faults cal
  dsimp only
  rw [rx_faultsAt]
theorem rx_p9 {mi tp : Nat → Int32} {p1 w27 w28 w29 w30 w31 w32 w33 : Int32} (h : w33 = 0) : bfX12_passes_9 mi tp p1 w27 w28 w29 w30 w31 w32 w33 = (w27, w28, (fX12_next (mu7 mi (w27, w28, w29, w30, w31, w32, w33)) tp).1, (fX12_next (mu7 mi (w27, w28, w29, w30, w31, w32, w33)) tp).2.1, (fX12_next (mu7 mi (w27, w28, w29, w30, w31, w32, w33)) tp).2.2.1, (fX12_next (mu7 mi (w27, w28, w29, w30, w31, w32, w33)) tp).2.2.2, w33) := by
  unfold bfX12_passes_9 bfX12_passes_20 cal
  dsimp only
  rw [if_pos h]
  rfl
theorem rx_p9b {mi tp : Nat → Int32} {p1 w27 w28 w29 w30 w31 w32 w33 : Int32} (h : ¬ w33 = 0) : bfX12_passes_9 mi tp p1 w27 w28 w29 w30 w31 w32 w33 = (w27, w28, w29, w30, w31, w32, w33) := by
  unfold bfX12_passes_9 bfX12_passes_20
  rw [if_neg h]
theorem rx_passes {tp mi : Nat → Int32} {n : Nat} {a : aS} (hn : n ≤ 1600) (c : Bool) {p1 : Int32} (hp : a.1 = false → p1 = if c = true then 1 else 0) (h : aRR (fun j => (tp j).toInt) n a mi) : aRR (fun j => (tp j).toInt) n (aStep (fun j => (tp j).toInt) n (aExp c 1 a)) (mu7 mi (fX12_passes mi tp p1)) := by
  rcases aRR_cases h with ⟨h26, h1, h2, h33, h27, h28⟩ | ⟨s, h26, rfl, h33, h27, h28, hs, h29, h30, h31, h32⟩
  · have hb : ¬ mi 33 = 0 := by rw [h33]; decide
    have e : fX12_passes mi tp p1 = own7 mi := by
      unfold fX12_passes cal
      dsimp only
      rw [rx_faults, if_neg hb]
      split
      · exact rx_p9b hb
      · exact rx_p9b hb
    have ea : aStep (fun j => (tp j).toInt) n (aExp c 1 a) = a := by
      unfold aStep aExp
      rw [if_pos h1, if_pos h1]
    rw [e, mu7_own, ea]
    exact h
  · have hp := hp rfl
    cases c with
    | true =>
      have ea : aStep (fun j => (tp j).toInt) n (aExp true 1 (aOk s)) = aOk (aNext (fun j => (tp j).toInt) n s) := rfl
      rw [ea]
      have e : fX12_passes mi tp p1 = bfX12_passes_9 mi tp p1 (mi 27) (mi 28) (mi 29) (mi 30) (mi 31) (mi 32) (mi 33) := by
        unfold fX12_passes
        rw [if_neg (by rw [hp, if_pos rfl]; decide)]
      obtain ⟨w, e1, e2⟩ := pr_next (mi := mu7 mi (mi 27, mi 28, mi 29, mi 30, mi 31, mi 32, mi 33)) (tp := tp) hn (ptok_le (fun j => (tp j).toInt) hs).2 h26 h29
      rw [e, rx_p9 h33, e1]
      exact aRR_ok h26 h33 h27 h28 (aNext_le _ hs) rfl rfl rfl e2
    | false =>
      have ea : aStep (fun j => (tp j).toInt) n (aExp false 1 (aOk s)) = aBad 1 (nI s) := rfl
      have e : fX12_passes mi tp p1 = (1, mi 30, mi 29, mi 30, mi 31, mi 32, 1) := by
        unfold fX12_passes cal
        dsimp only
        rw [if_pos (by rw [hp, if_neg (by decide)]), rx_faults, if_pos h33]
        exact rx_p9b (show ¬ (1 : Int32) = 0 by decide)
      rw [ea, e]
      exact aRR_bad h26 rfl (show (1 : Int32) ≠ 0 by decide) rfl rfl h30
theorem rx_word {tp mi : Nat → Int32} {n wi : Nat} {a : aS} (hn : n ≤ 1600) (hw : (stL wi).length ≤ 7) (h : aRR (fun j => (tp j).toInt) n a mi) : aRR (fun j => (tp j).toInt) n (aStep (fun j => (tp j).toInt) n (aExp (aIs tp n a.2.2.2 (stL wi)) 1 a)) (mu7 mi (fX12_word mi tp wi)) := by
  have e21 : ∀ s0 : Int32, bfX12_word_21 mi tp wi s0 (mi 27) (mi 28) (mi 29) (mi 30) (mi 31) (mi 32) (mi 33) = fX12_passes mi tp s0 := by
    intro s0
    show fX12_passes (mu7 mi (own7 mi)) tp s0 = _
    rw [mu7_own]
  have e : fX12_word mi tp wi = fX12_passes mi tp (if mi 33 = 0 then (if fX12_isWord mi tp wi = 0 then 0 else 1) else 1) := by
    unfold fX12_word bfX12_word_16 cal
    dsimp only
    rw [e21, e21]
    split
    · split
      · rfl
      · rfl
    · rfl
  rw [e]
  refine rx_passes hn _ (fun h0 => ?_) h
  rcases aRR_cases h with ⟨h26, h1, h2, h33, h27, h28⟩ | ⟨s, h26, rfl, h33, h27, h28, hs, h29, h30, h31, h32⟩
  · rw [h1] at h0
    exact absurd h0 (by decide)
  · rw [if_pos h33, pr_isWord hn hs hw h29 h30 h31]
    show (if (if aIs tp n s (stL wi) = true then (1 : Int32) else 0) = 0 then (0 : Int32) else 1) = if aIs tp n s (stL wi) = true then 1 else 0
    split
    · rw [if_neg (by decide)]
    · rw [if_pos rfl]
