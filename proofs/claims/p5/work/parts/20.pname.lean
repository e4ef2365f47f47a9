/-! a name here: which place's it is -/
def isz (x : Int) : Prop := x = 0 ∨ (97 ≤ x ∧ x ≤ 122)
theorem pdg_isz {x y : Int} (hx : isz x) (hy : isz y) : pdg x = pdg y ↔ x = y := by
  have e : ∀ z : Int, isz z → pdg z = if z = 0 then 0 else z - 96 := by
    intro z hz
    unfold pdg
    by_cases h : cL z = true
    · have h1 : 97 ≤ z ∧ z ≤ 122 := of_decide_eq_true h
      rw [if_pos h, if_neg (by omega)]
    · rw [if_neg h]
      rcases hz with h2 | h2
      · rw [if_pos h2]
      · exact absurd (decide_eq_true h2) h
  rw [e x hx, e y hy]
  unfold isz at hx hy
  split
  · split
    · omega
    · omega
  · split
    · omega
    · omega
/-- the names of the class's places are told by the reference's letters -/
def NM (m : Nat) (nm lt : Nat → Int32) : Prop := ∀ p, p < m → (nm p).toInt = pcod (fun k => (lt (6 * p + k)).toInt) 6 0 0 ∧ ∀ k, k < 6 → isz (lt (6 * p + k)).toInt
theorem gall_iff (lt f : Nat → Int32) (s e p : Nat) : ∀ k j : Nat, gall lt f s e p k j = true ↔ ∀ i, j ≤ i → i < j + k → lt (6 * p + i) = gsn f s e i := by
  intro k
  induction k with
  | zero =>
    intro j
    exact ⟨fun _ i h1 h2 => absurd h2 (by omega), fun _ => rfl⟩
  | succ k ih =>
    intro j
    unfold gall
    by_cases h : lt (6 * p + j) = gsn f s e j
    · rw [if_pos h, ih (j + 1)]
      constructor
      · intro q i h1 h2
        by_cases h3 : i = j
        · rw [h3]
          exact h
        · exact q i (by omega) (by omega)
      · intro q i h1 h2
        exact q i (by omega) (by omega)
    · rw [if_neg h]
      exact ⟨fun q => absurd q (by decide), fun q => absurd (q j (Nat.le_refl _) (by omega)) h⟩
theorem wd_letters {n s : Nat} {bt : Nat → Int32} (hk : (ptok (fun j => (bt j).toInt) n s).1 = 2) : s < n ∧ s ≤ (ptok (fun j => (bt j).toInt) n s).2 ∧ (ptok (fun j => (bt j).toInt) n s).2 ≤ n ∧ ∀ j, s ≤ j → j < (ptok (fun j => (bt j).toInt) n s).2 → 97 ≤ (bt j).toInt ∧ (bt j).toInt ≤ 122 := by
  obtain ⟨g1, g2⟩ := ptok_2 hk
  have hle := ptok_le (fun j => (bt j).toInt) (n := n) (s := s) (by omega)
  exact ⟨g1, hle.1, hle.2, fun j q1 q2 => of_decide_eq_true (prun_all (fun j => cL (bt j).toInt) (n - s) s j q1 (by rw [← g2]; exact q2))⟩
theorem gsn_eq {f h : Nat → Int32} {s e : Nat} (he : ∀ j, s ≤ j → j < e → f j = h j) (k : Nat) : gsn f s e k = gsn h s e k := by
  unfold gsn
  by_cases h1 : k < e - s
  · rw [if_pos h1, if_pos h1, he (s + k) (by omega) (by omega)]
  · rw [if_neg h1, if_neg h1]
theorem gmt_eq {f h lt : Nat → Int32} {s e : Nat} (he : ∀ j, s ≤ j → j < e → f j = h j) (p : Nat) : gmt lt f s e p = gmt lt h s e p := by
  have h1 : ∀ k j : Nat, gall lt f s e p k j = gall lt h s e p k j := by
    intro k
    induction k with
    | zero => intro j; rfl
    | succ k ih =>
      intro j
      unfold gall
      rw [gsn_eq he, ih (j + 1)]
  unfold gmt
  rw [h1]
theorem nm_match {n m s p : Nat} {bt nm lt : Nat → Int32} (hn : n ≤ 1600) (hN : NM m nm lt) (hp : p < m) (hk : (ptok (fun j => (bt j).toInt) n s).1 = 2) (h6 : (ptok (fun j => (bt j).toInt) n s).2 - s ≤ 6) : (nm p = fX6_nameHere (nI s) (nI (ptok (fun j => (bt j).toInt) n s).2) (nI n) bt) ↔ gmt lt bt s (ptok (fun j => (bt j).toInt) n s).2 p = true := by
  obtain ⟨g1, g2, g3, hL⟩ := wd_letters hk
  generalize (ptok (fun j => (bt j).toInt) n s).2 = e at g2 g3 hL h6 ⊢
  have hg : ∀ k, isz (gsn bt s e k).toInt := by
    intro k
    unfold gsn
    by_cases h1 : k < e - s
    · rw [if_pos h1]
      exact Or.inr (hL (s + k) (by omega) (by omega))
    · rw [if_neg h1]
      exact Or.inl (by decide)
  obtain ⟨h1, h2⟩ := hN p hp
  unfold gmt
  rw [if_pos h6, gall_iff, ← Int32.toInt_inj, h1, px_name hn g2 g3, pcod_inj]
  constructor
  · rintro ⟨-, q⟩ i q1 q2
    exact Int32.toInt_inj.mp ((pdg_isz (h2 i (by omega)) (hg i)).mp (q i q1 q2))
  · intro q
    refine ⟨rfl, fun i q1 q2 => ?_⟩
    show pdg (lt (6 * p + i)).toInt = pdg (gsn bt s e i).toInt
    rw [q i q1 q2]
/-- which place a word names, as both find it -/
def aFnd (bt lt : Nat → Int32) (n m s : Nat) : Int32 := pfst (gmt lt bt s (ptok (fun j => (bt j).toInt) n s).2) m 0
theorem aExp_two (c d : Bool) (k : Int32) (a : aS) : aExp d k (aExp c k a) = aExp (c && d) k a := by
  unfold aExp
  by_cases h : a.1 = true
  · rw [if_pos h, if_pos h, if_pos h]
  · rw [if_neg h, if_neg h]
    cases c with
    | true =>
      show (if a.1 = true then a else if d = true then a else aBad k (nI a.2.2.2)) = if (true && d) = true then a else aBad k (nI a.2.2.2)
      rw [if_neg h]
      rfl
    | false => rfl
def aNam (bt lt : Nat → Int32) (n m : Nat) (told : Bool) (a : aS) : aS := aStep (fun j => (bt j).toInt) n (aExp (decide ((ptok (fun j => (bt j).toInt) n a.2.2.2).2 - a.2.2.2 ≤ 6) && decide (decide (aFnd bt lt n m a.2.2.2 ≠ -1) = told)) 2 (aExp (decide ((ptok (fun j => (bt j).toInt) n a.2.2.2).1 = 2)) 1 a))
theorem fnd_class {n m s : Nat} {bt nm lt : Nat → Int32} (hn : n ≤ 1600) (hm : m ≤ 6) (hN : NM m nm lt) (hk : (ptok (fun j => (bt j).toInt) n s).1 = 2) (h6 : (ptok (fun j => (bt j).toInt) n s).2 - s ≤ 6) : fX0_placeNamed (nI m) nm (fX6_nameHere (nI s) (nI (ptok (fun j => (bt j).toInt) n s).2) (nI n) bt) = aFnd bt lt n m s := by
  rw [px_placeNamed nm _ hm]
  unfold aFnd
  refine pfst_eq m 0 (fun j h1 h2 => ?_)
  have h3 := nm_match hn hN (show j < m by omega) hk h6
  cases hq : gmt lt bt s (ptok (fun j => (bt j).toInt) n s).2 j with
  | true => exact decide_eq_true (h3.mpr hq)
  | false => exact decide_eq_false (fun q => by rw [h3.mp q] at hq; exact absurd hq (by decide))
theorem fnd_ref {n m s : Nat} {bt tp lt mi : Nat → Int32} (hn : n ≤ 1600) (hm : m ≤ 6) (hT : TR n bt tp) (hk : (ptok (fun j => (bt j).toInt) n s).1 = 2) (h7 : mi 7 = nI m) (h29 : mi 29 = nI (ptok (fun j => (bt j).toInt) n s).2) (h30 : mi 30 = nI s) : fX12_named mi tp lt = aFnd bt lt n m s := by
  obtain ⟨g1, g2, g3, hL⟩ := wd_letters hk
  rw [pr_named hm hn g2 g3 h7 h29 h30]
  unfold aFnd
  refine pfst_eq m 0 (fun j _ _ => gmt_eq (fun i q1 q2 => ?_) j)
  have h1 := hL i q1 q2
  have h2 := hT i (by omega)
  exact Int32.toInt_inj.mp (by omega)
theorem fnd_long {n m s : Nat} {bt lt : Nat → Int32} (h6 : ¬ (ptok (fun j => (bt j).toInt) n s).2 - s ≤ 6) : aFnd bt lt n m s = -1 := by
  unfold aFnd
  have h1 : ∀ k p : Nat, pfst (gmt lt bt s (ptok (fun j => (bt j).toInt) n s).2) k p = -1 := by
    intro k
    induction k with
    | zero => intro p; rfl
    | succ k ih =>
      intro p
      unfold pfst gmt
      rw [if_neg h6, if_neg (by decide)]
      exact ih (p + 1)
  exact h1 m 0
theorem cx_name {n m : Nat} {bt nm lt : Nat → Int32} {a : aS} {fk fp tok st en : Int32} (hn : n ≤ 1600) (hm : m ≤ 6) (hN : NM m nm lt) (told : Bool) {p1 : Int32} (hp : p1 = if told = true then 1 else 0) (h : aRC (fun j => (bt j).toInt) n a fk fp tok st en) : aRC (fun j => (bt j).toInt) n (aNam bt lt n m told a) (fX6_passName fk fp tok st en (nI n) bt (nI m) nm p1).2.1 (fX6_passName fk fp tok st en (nI n) bt (nI m) nm p1).2.2.1 (fX6_passName fk fp tok st en (nI n) bt (nI m) nm p1).2.2.2.1 (fX6_passName fk fp tok st en (nI n) bt (nI m) nm p1).2.2.2.2.1 (fX6_passName fk fp tok st en (nI n) bt (nI m) nm p1).2.2.2.2.2 ∧ (fX6_passName fk fp tok st en (nI n) bt (nI m) nm p1).1 = fX6_nameHere st en (nI n) bt := by
  have e : fX6_passName fk fp tok st en (nI n) bt (nI m) nm p1 = bfX6_passName_14 fk fp tok st en (nI n) bt (nI m) nm p1 (if tok = 2 then 1 else 0) fk fp tok st en := by
    unfold fX6_passName
    split
    · rfl
    · rfl
  have e2 : ∀ s0 w2 w3 : Int32, bfX6_passName_38 fk fp tok st en (nI n) bt (nI m) nm p1 s0 w2 w3 tok st en = bfX6_passName_74 fk fp tok st en (nI n) bt (nI m) nm p1 (fX6_nameHere st en (nI n) bt) (if (if fX0_placeNamed (nI m) nm (fX6_nameHere st en (nI n) bt) = -1 then (0 : Int32) else 1) = p1 then 1 else 0) (fX6_expect w2 w3 st s0 2).1 (fX6_expect w2 w3 st s0 2).2 tok st en := by
    intro s0 w2 w3
    unfold bfX6_passName_38 bfX6_passName_65 cal
    dsimp only
    by_cases h1 : fX0_placeNamed (nI m) nm (fX6_nameHere st en (nI n) bt) = -1
    · rw [if_pos h1, if_pos h1]
      split
      · rfl
      · rfl
    · rw [if_neg h1, if_neg h1]
      split
      · rfl
      · rfl
  have e3 : bfX6_passName_14 fk fp tok st en (nI n) bt (nI m) nm p1 (if tok = 2 then 1 else 0) fk fp tok st en = bfX6_passName_38 fk fp tok st en (nI n) bt (nI m) nm p1 (if (6 : Int32) < en - st then 0 else 1) (fX6_expect fk fp st (if tok = 2 then 1 else 0) 1).1 (fX6_expect fk fp st (if tok = 2 then 1 else 0) 1).2 tok st en := by
    unfold bfX6_passName_14 cal
    dsimp only
    split
    · rfl
    · rfl
  rw [e, e3, e2]
  refine ⟨?_, rfl⟩
  have hA := cx_expect (decide ((ptok (fun j => (bt j).toInt) n a.2.2.2).1 = 2)) (k := 1) (p1 := if tok = 2 then 1 else 0) (by decide) (fun h0 => by
    rcases aRC_cases h with ⟨g1, g2, rfl, rfl⟩ | ⟨s, rfl, rfl, rfl, hs, rfl, rfl, rfl⟩
    · rw [g1] at h0
      exact absurd h0 (by intro q; cases q)
    · have hk := ptok_kind (fun j => (bt j).toInt) n s
      show (if nI (ptok (fun j => (bt j).toInt) n s).1 = 2 then (1 : Int32) else 0) = if decide ((ptok (fun j => (bt j).toInt) n s).1 = 2) = true then 1 else 0
      by_cases h5 : (ptok (fun j => (bt j).toInt) n s).1 = 2
      · rw [if_pos (by rw [h5]; rfl), if_pos (decide_eq_true h5)]
      · rw [if_neg (fun (q : nI (ptok (fun j => (bt j).toInt) n s).1 = (2 : Int32)) => h5 (pz_ninj (b := 2) (by omega) (by omega) q)), if_neg (fun q => h5 (of_decide_eq_true q))]) h
  have hB := cx_expect (decide ((ptok (fun j => (bt j).toInt) n a.2.2.2).2 - a.2.2.2 ≤ 6)) (k := 2) (p1 := if (6 : Int32) < en - st then 0 else 1) (by decide) (fun h0 => by
    have h01 := (aExp_okb h0).1
    rcases aRC_cases h with ⟨g1, g2, rfl, rfl⟩ | ⟨s, rfl, rfl, rfl, hs, rfl, rfl, rfl⟩
    · rw [g1] at h01
      exact absurd h01 (by intro q; cases q)
    · have hle := ptok_le (fun j => (bt j).toInt) hs
      rw [pz_nsub hle.1 (by omega)]
      show (if (6 : Int32) < nI ((ptok (fun j => (bt j).toInt) n s).2 - s) then (0 : Int32) else 1) = if decide ((ptok (fun j => (bt j).toInt) n s).2 - s ≤ 6) = true then 1 else 0
      by_cases h5 : (ptok (fun j => (bt j).toInt) n s).2 - s ≤ 6
      · rw [if_neg (show ¬ (6 : Int32) < nI ((ptok (fun j => (bt j).toInt) n s).2 - s) from nI_nlt (a := 6) (b := (ptok (fun j => (bt j).toInt) n s).2 - s) h5 (by omega)), if_pos (decide_eq_true h5)]
      · rw [if_pos (show (6 : Int32) < nI ((ptok (fun j => (bt j).toInt) n s).2 - s) from nI_lt (a := 6) (by omega) (by omega)), if_neg (fun q => h5 (of_decide_eq_true q))]) hA
  have hC := cx_expect (decide (decide (aFnd bt lt n m a.2.2.2 ≠ -1) = told)) (k := 2) (p1 := if (if fX0_placeNamed (nI m) nm (fX6_nameHere st en (nI n) bt) = -1 then (0 : Int32) else 1) = p1 then 1 else 0) (by decide) (fun h0 => by
    obtain ⟨h01, h02⟩ := aExp_okb h0
    obtain ⟨h03, h04⟩ := aExp_okb h01
    rcases aRC_cases h with ⟨g1, g2, rfl, rfl⟩ | ⟨s, rfl, rfl, rfl, hs, rfl, rfl, rfl⟩
    · rw [g1] at h03
      exact absurd h03 (by intro q; cases q)
    · rw [fnd_class (s := s) hn hm hN (of_decide_eq_true h04) (of_decide_eq_true h02), hp]
      show (if (if aFnd bt lt n m s = -1 then (0 : Int32) else 1) = (if told = true then 1 else 0) then (1 : Int32) else 0) = if decide (decide (aFnd bt lt n m s ≠ -1) = told) = true then 1 else 0
      by_cases h5 : aFnd bt lt n m s = -1
      · rw [if_pos h5, decide_eq_false (show ¬ aFnd bt lt n m s ≠ -1 from fun q => q h5)]
        cases told with
        | true => decide
        | false => decide
      · rw [if_neg h5, decide_eq_true h5]
        cases told with
        | true => decide
        | false => decide) hB
  rw [aExp_two] at hC
  unfold bfX6_passName_74 cal aNam
  dsimp only
  exact cx_step hn hC
