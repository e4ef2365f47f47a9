/-! the line of a place -/
noncomputable def plEnd (mi tp tr : Nat → Int32) (w27 w28 w29 w30 w31 w32 w33 : Int32) (z2 : Nat → Int32) : Int32 × Int32 × Int32 × Int32 × Int32 × Int32 × Int32 × Int32 × (Nat → Int32) × (Nat → Int32) := cal (fun o2 => cal (fun o3 => ((mi 7) + 1, o3.2.1, o3.2.2.1, o3.2.2.2.1, o3.2.2.2.2.1, o3.2.2.2.2.2.1, o3.2.2.2.2.2.2.1, o3.2.2.2.2.2.2.2, z2, upd tr (mi 7).toNatClampNeg o3.1)) (fX12_numberBehind (mu7 mi (w27, w28, o2.1, o2.2.1, o2.2.2.1, o2.2.2.2, w33)) tp 0 9 17)) (fX12_next (mu7 mi (w27, w28, w29, w30, w31, w32, w33)) tp)
theorem lpl_s (mi tp lt tr : Nat → Int32) (z : Nat) (v w27 w28 w29 w30 w31 w32 w33 : Int32) (z2 : Nat → Int32) : lfX12_readsPlace mi tp lt tr (z + 1) v w27 w28 w29 w30 w31 w32 w33 z2 = dfX12_readsPlace_83 mi tp lt tr (lfX12_readsPlace mi tp lt tr z) v w27 w28 w29 w30 w31 w32 w33 z2 := rfl
theorem dpl_6 (mi tp lt tr : Nat → Int32) {K : Int32 → Int32 → Int32 → Int32 → Int32 → Int32 → Int32 → Int32 → (Nat → Int32) → (Int32 × Int32 × Int32 × Int32 × Int32 × Int32 × Int32 × Int32 × (Nat → Int32) × (Nat → Int32))} {v : Int32} (w27 w28 w29 w30 w31 w32 w33 : Int32) (z2 : Nat → Int32) (h : (6 : Int32) ≤ v) : dfX12_readsPlace_83 mi tp lt tr K v w27 w28 w29 w30 w31 w32 w33 z2 = plEnd mi tp tr w27 w28 w29 w30 w31 w32 w33 z2 := by
  unfold dfX12_readsPlace_83 plEnd
  rw [if_pos h]
  rfl
theorem pl_loop {mi tp lt tr : Nat → Int32} {m s e n : Nat} (hn : n ≤ 1600) (hm : m < 6) (hse : s ≤ e) (hen : e ≤ n) (h7 : mi 7 = nI m) (w27 w28 w31 w32 w33 : Int32) : ∀ (k j z : Nat) (z2 : Nat → Int32), j + k = 6 → k < z → ∃ z3 : Nat → Int32, (∀ i, j ≤ i → i < 6 → z3 (6 * m + i) = gsn tp s e i) ∧ (∀ q, q < 6 * m + j → z3 q = z2 q) ∧ lfX12_readsPlace mi tp lt tr z (nI j) w27 w28 (nI e) (nI s) w31 w32 w33 z2 = plEnd mi tp tr w27 w28 (nI e) (nI s) w31 w32 w33 z3 := by
  intro k
  induction k with
  | zero =>
    intro j z z2 hj hz
    obtain ⟨z, rfl⟩ : ∃ y, z = y + 1 := ⟨z - 1, by omega⟩
    refine ⟨z2, fun i h1 h2 => absurd h2 (by omega), fun q _ => rfl, ?_⟩
    rw [lpl_s, dpl_6 _ _ _ _ _ _ _ _ _ _ _ _ (show (6 : Int32) ≤ nI j from nI_le (a := 6) (by omega) (by omega))]
  | succ k ih =>
    intro j z z2 hj hz
    obtain ⟨z, rfl⟩ : ∃ y, z = y + 1 := ⟨z - 1, by omega⟩
    obtain ⟨z3, g1, g2, g3⟩ := ih (j + 1) z (upd z2 (6 * m + j) (gsn tp s e j)) (by omega) (by omega)
    refine ⟨z3, fun i h1 h2 => ?_, fun q hq => ?_, ?_⟩
    · by_cases h3 : i = j
      · rw [h3, g2 (6 * m + j) (by omega)]
        exact if_pos rfl
      · exact g1 i (by omega) h2
    · rw [g2 q (by omega)]
      exact if_neg (by omega)
    · rw [← g3, lpl_s]
      unfold dfX12_readsPlace_83 bfX12_readsPlace_130
      rw [if_neg (show ¬ (6 : Int32) ≤ nI j from nI_ge (b := 6) (by omega) (by omega)), h7, pz_nsub hse (by omega), pr_ix (by omega) (by omega), nI_add, nI_clamp (show s + j < 2147483648 by omega), ← nI_succ]
      by_cases h3 : j < e - s
      · rw [if_neg (nI_ge h3 (by omega)), gsn_lt h3]
      · rw [if_pos (nI_le (by omega) (by omega)), gsn_ge h3]
/-- a faulted reading stays as it is -/
theorem bad_step {b : Nat → Int} {n : Nat} {a : aS} (h : a.1 = true) : aStep b n a = a := if_pos h
theorem aE1 {c : Bool} {k : Int32} {s : Nat} (h : c = true) : aExp c k (aOk s) = aOk s := by rw [aExp_ok, if_pos h]
theorem aE0 {c : Bool} {k : Int32} {s : Nat} (h : ¬ c = true) : aExp c k (aOk s) = aBad k (nI s) := by rw [aExp_ok, if_neg h]
theorem bad_exp {c : Bool} {k : Int32} {a : aS} (h : a.1 = true) : aExp c k a = a := if_pos h
theorem bad_tail {n wi : Nat} {bt : Nat → Int32} {a : aS} {c o1 : C5} {o2 : Int32 × C5} {p1 p2 : Int32} (hn : n ≤ 1600) (ha : a.1 = true) (hw : (stL wi).length ≤ 7) (lo hi : Int) (h1 : p1.toInt = lo) (h2 : p2.toInt = hi) (hl : 0 ≤ lo) (hh : hi ≤ 99999) (h : aRC (fun j => (bt j).toInt) n a c.1 c.2.1 c.2.2.1 c.2.2.2.1 c.2.2.2.2) (e1 : o1 = fX6_passWord c.1 c.2.1 c.2.2.1 c.2.2.2.1 c.2.2.2.2 (nI n) bt wi) (e2 : o2 = fX6_passNumber o1.1 o1.2.1 o1.2.2.1 o1.2.2.2.1 o1.2.2.2.2 (nI n) bt p1 p2) : aRC (fun j => (bt j).toInt) n a o2.2.1 o2.2.2.1 o2.2.2.2.1 o2.2.2.2.2.1 o2.2.2.2.2.2 := by
  have g1 := cx_word hn hw h
  rw [bad_exp ha, bad_step ha, ← e1] at g1
  have g2 := (cx_number hn lo hi h1 h2 (Or.inl hh) hl g1).1
  unfold aNum at g2
  rw [bad_exp (k := 1) ha, bad_exp ha, bad_step ha, ← e2] at g2
  exact g2
theorem nm_add {n m s : Nat} {bt tp nm lt lt2 : Nat → Int32} (hn : n ≤ 1600) (hT : TR n bt tp) (hN : NM m nm lt) (hk : (ptok (fun j => (bt j).toInt) n s).1 = 2) (h6 : (ptok (fun j => (bt j).toInt) n s).2 - s ≤ 6) (g1 : ∀ i, 0 ≤ i → i < 6 → lt2 (6 * m + i) = gsn tp s (ptok (fun j => (bt j).toInt) n s).2 i) (g2 : ∀ q, q < 6 * m + 0 → lt2 q = lt q) : NM (m + 1) (upd nm m (fX6_nameHere (nI s) (nI (ptok (fun j => (bt j).toInt) n s).2) (nI n) bt)) lt2 := by
  obtain ⟨w1, w2, w3, hL⟩ := wd_letters hk
  generalize (ptok (fun j => (bt j).toInt) n s).2 = e at w2 w3 hL h6 g1 ⊢
  intro p hp
  by_cases h1 : p = m
  · subst h1
    have hg : ∀ k, k < 6 → lt2 (6 * p + k) = gsn bt s e k := by
      intro k hk6
      rw [g1 k (by omega) hk6]
      refine gsn_eq (fun j q1 q2 => ?_) k
      have q3 := hL j q1 q2
      have q4 := hT j (by omega)
      exact Int32.toInt_inj.mp (by omega)
    refine ⟨?_, fun k hk6 => ?_⟩
    · rw [show upd nm p (fX6_nameHere (nI s) (nI e) (nI n) bt) p = fX6_nameHere (nI s) (nI e) (nI n) bt from if_pos rfl, px_name hn w2 w3, pcod_inj]
      exact ⟨rfl, fun i q1 q2 => by show pdg (gsn bt s e i).toInt = pdg (lt2 (6 * p + i)).toInt; rw [hg i (by omega)]⟩
    · rw [hg k hk6]
      unfold gsn
      by_cases h2 : k < e - s
      · rw [if_pos h2]
        exact Or.inr (hL (s + k) (by omega) (by omega))
      · rw [if_neg h2]
        exact Or.inl (by decide)
  · obtain ⟨q1, q2⟩ := hN p (by omega)
    refine ⟨?_, fun k hk6 => ?_⟩
    · rw [show upd nm m (fX6_nameHere (nI s) (nI e) (nI n) bt) p = nm p from if_neg h1, q1, pcod_inj]
      exact ⟨rfl, fun i r1 r2 => by show pdg (lt (6 * p + i)).toInt = pdg (lt2 (6 * p + i)).toInt; rw [g2 (6 * p + i) (by omega)]⟩
    · rw [g2 (6 * p + k) (by omega)]
      exact q2 k hk6
theorem ln_place {n m : Nat} {bt tp mi nm lt xt yt : Nat → Int32} {a : aS} {c : C5} {p : M7} (hn : n ≤ 1600) (hT : TR n bt tp) (h : aQ n bt a c p) (hm : m ≤ 6) (hN : NM m nm lt) (h7 : mi 7 = nI m) {X : Int32 × Int32 × Int32 × Int32 × Int32 × Int32 × (Nat → Int32) × (Nat → Int32)} (hX : X = fX6_readPlace c.1 c.2.1 c.2.2.1 c.2.2.2.1 c.2.2.2.2 (nI n) bt (nI m) nm xt) {Y : Int32 × Int32 × Int32 × Int32 × Int32 × Int32 × Int32 × Int32 × (Nat → Int32) × (Nat → Int32)} (hY : Y = fX12_readsPlace mi tp lt yt) (h26 : mi 26 = nI n) (hp : own7 mi = p) : ∃ a', aQ n bt a' (X.1, X.2.1, X.2.2.1, X.2.2.2.1, X.2.2.2.2.1) (Y.2.1, Y.2.2.1, Y.2.2.2.1, Y.2.2.2.2.1, Y.2.2.2.2.2.1, Y.2.2.2.2.2.2.1, Y.2.2.2.2.2.2.2.1) ∧ (a'.1 = false → a.1 = false ∧ m < 6 ∧ ∃ w cd lt2, X.2.2.2.2.2 = (nI (m + 1), upd nm m cd, upd xt m w) ∧ Y.1 = nI (m + 1) ∧ Y.2.2.2.2.2.2.2.2 = (lt2, upd yt m w) ∧ NM (m + 1) (upd nm m cd) lt2) := by
  have hX : X = bfX6_readPlace_18 c.1 c.2.1 c.2.2.1 c.2.2.2.1 c.2.2.2.2 (nI n) bt (nI m) nm xt (if (6 : Int32) ≤ nI m then 0 else 1) c.1 c.2.1 c.2.2.1 c.2.2.2.1 c.2.2.2.2 (nI m) nm xt := by
    rw [hX]
    unfold fX6_readPlace
    split
    · rfl
    · rfl
  obtain ⟨F, hF, hY⟩ : ∃ F : M7, F = (if decide (m < 6) = true then p else fp7 p 3) ∧ Y = bfX12_readsPlace_14 mi tp lt yt (lfX12_readsPlace mi tp lt yt 1000000000) (mi 7) F.1 F.2.1 F.2.2.1 F.2.2.2.1 F.2.2.2.2.1 F.2.2.2.2.2.1 F.2.2.2.2.2.2 lt yt := by
    unfold fX12_readsPlace at hY
    refine ⟨_, rfl, ?_⟩
    rw [← hp]
    by_cases h4 : m < 6
    · rw [if_neg (show ¬ mi 7 = 6 from fun q => absurd (pz_ninj (b := 6) (by omega) (by omega) (h7.symm.trans q)) (by omega))] at hY
      rw [if_pos (decide_eq_true h4)]
      exact hY
    · rw [if_pos (show mi 7 = 6 by rw [h7, show m = 6 by omega]; rfl)] at hY
      rw [if_neg (fun q => h4 (of_decide_eq_true q))]
      obtain ⟨o1, e1, hY⟩ := cal_out hY
      rw [← faults_fp e1]
      exact hY
  unfold bfX6_readPlace_18 at hX
  obtain ⟨o1, e1, hX⟩ := cal_out hX
  obtain ⟨o2, e2, hX⟩ := cal_out hX
  obtain ⟨o3, e3, hX⟩ := cal_out hX
  obtain ⟨o4, e4, hX⟩ := cal_out hX
  unfold bfX6_readPlace_57 at hX
  unfold bfX12_readsPlace_14 at hY
  obtain ⟨u4, f4, hY⟩ := cal_out hY
  have k6 : (if (6 : Int32) ≤ nI m then (0 : Int32) else 1) = if decide (m < 6) = true then 1 else 0 := by
    by_cases h4 : m < 6
    · rw [if_neg (show ¬ (6 : Int32) ≤ nI m from nI_ge (b := 6) h4 (by omega)), if_pos (decide_eq_true h4)]
    · rw [if_pos (show (6 : Int32) ≤ nI m from nI_le (a := 6) (by omega) (by omega)), if_neg (fun q => h4 (of_decide_eq_true q))]
  obtain ⟨a1, k1, q1⟩ := q_head hn hT h (decide (m < 6)) k6 e1 hF f4 h26 rfl
  have hc := cx_name (lt := lt) (p1 := 0) hn hm hN false rfl k1.1
  rw [← e2] at hc
  -- where the reading is faulted here, nothing more happens
  have bad : ∀ (a2 : aS) (P : M7), a2.1 = true → aRC (fun j => (bt j).toInt) n a2 o2.2.1 o2.2.2.1 o2.2.2.2.1 o2.2.2.2.2.1 o2.2.2.2.2.2 → aR7 (fun j => (bt j).toInt) n a2 P → Y = (mi 7, P.1, P.2.1, P.2.2.1, P.2.2.2.1, P.2.2.2.2.1, P.2.2.2.2.2.1, P.2.2.2.2.2.2, lt, yt) → ∃ a', aQ n bt a' (X.1, X.2.1, X.2.2.1, X.2.2.2.1, X.2.2.2.2.1) (Y.2.1, Y.2.2.1, Y.2.2.2.1, Y.2.2.2.2.1, Y.2.2.2.2.2.1, Y.2.2.2.2.2.2.1, Y.2.2.2.2.2.2.2.1) ∧ (a'.1 = false → a.1 = false ∧ m < 6 ∧ ∃ w cd lt2, X.2.2.2.2.2 = (nI (m + 1), upd nm m cd, upd xt m w) ∧ Y.1 = nI (m + 1) ∧ Y.2.2.2.2.2.2.2.2 = (lt2, upd yt m w) ∧ NM (m + 1) (upd nm m cd) lt2) := by
    intro a2 P h1 h2 h3 h4
    have g1 := bad_tail hn h1 (by decide) 0 9 (by decide) (by decide) (by decide) (by decide) h2 e3 e4
    have g2 : aQ n bt a2 o4.2 P := ⟨g1, h3⟩
    rw [if_neg (fun q => absurd ((aQ_fk g2).mp q) (by rw [h1]; decide))] at hX
    subst hX h4
    exact ⟨a2, g2, fun q => absurd q (by rw [h1]; decide)⟩
  by_cases ha : a1.1 = false
  · obtain ⟨s, rfl, g2, g3, g4, g5, g6, g7, l1, l2, l3, l4, l5, l6, l7⟩ := aQ_ok k1 ha
    have hkd := ptok_kind (fun j => (bt j).toInt) n s
    have hkd2 := pkind_le hkd
    rw [if_pos l1] at hY
    by_cases b1 : (ptok (fun j => (bt j).toInt) n s).1 = 2
    · rw [if_pos (show u4.2.2.2.2.1 = 1 by rw [l6, b1]; rfl)] at hY
      unfold bfX12_readsPlace_39 at hY
      have hle := wd_letters b1
      rw [if_pos l1, l4, l5, pz_nsub hle.2.1 (by omega)] at hY
      have two : bfX12_readsPlace_68 mi tp lt yt (lfX12_readsPlace mi tp lt yt 1000000000) (mi 7) u4.1 u4.2.1 (nI (ptok (fun j => (bt j).toInt) n s).2) (nI s) u4.2.2.2.2.1 u4.2.2.2.2.2.1 u4.2.2.2.2.2.2 lt yt = (mi 7, 2, nI s, nI (ptok (fun j => (bt j).toInt) n s).2, nI s, u4.2.2.2.2.1, u4.2.2.2.2.2.1, 1, lt, yt) := by
        have ef : fX12_faults (mu7 (upd mi 7 (mi 7)) (u4.1, u4.2.1, nI (ptok (fun j => (bt j).toInt) n s).2, nI s, u4.2.2.2.2.1, u4.2.2.2.2.2.1, u4.2.2.2.2.2.2)) 2 = (2, nI s, 1) := by
          rw [rx_faults]
          exact if_pos l1
        unfold bfX12_readsPlace_68 bfX12_readsPlace_73
        show cal _ (fX12_faults (mu7 (upd mi 7 (mi 7)) (u4.1, u4.2.1, nI (ptok (fun j => (bt j).toInt) n s).2, nI s, u4.2.2.2.2.1, u4.2.2.2.2.2.1, u4.2.2.2.2.2.2)) 2) = _
        rw [ef, cal_b]
        exact if_neg (show ¬ (1 : Int32) = 0 by decide)
      have badR : aR7 (fun j => (bt j).toInt) n (aBad 2 (nI s)) (2, nI s, nI (ptok (fun j => (bt j).toInt) n s).2, nI s, u4.2.2.2.2.1, u4.2.2.2.2.2.1, 1) := by
        unfold aR7
        rw [if_pos (show (aBad 2 (nI s)).1 = true from rfl)]
        exact ⟨show (2 : Int32) ≠ 0 by decide, rfl, rfl, rfl⟩
      by_cases b2 : (ptok (fun j => (bt j).toInt) n s).2 - s ≤ 6
      · rw [if_neg (show ¬ (6 : Int32) < nI ((ptok (fun j => (bt j).toInt) n s).2 - s) from nI_nlt (a := 6) (b := (ptok (fun j => (bt j).toInt) n s).2 - s) b2 (by omega))] at hY
        obtain ⟨u6, f6, hY⟩ := cal_out hY
        have hf := fnd_ref (lt := lt) (mi := mu7 (upd mi 7 (mi 7)) (u4.1, u4.2.1, nI (ptok (fun j => (bt j).toInt) n s).2, nI s, u4.2.2.2.2.1, u4.2.2.2.2.2.1, u4.2.2.2.2.2.2)) hn hm hT b1 h7 rfl rfl
        have f6 : u6 = aFnd bt lt n m s := f6.trans hf
        by_cases b3 : aFnd bt lt n m s = -1
        · rw [if_pos (f6.trans b3)] at hY
          unfold bfX12_readsPlace_73 at hY
          rw [if_pos l1] at hY
          by_cases hm6 : m < 6
          · obtain ⟨z3, r1, r2, r3⟩ := pl_loop (tp := tp) (lt := lt) (tr := yt) hn hm6 hle.2.1 hle.2.2.1 h7 u4.1 u4.2.1 u4.2.2.2.2.1 u4.2.2.2.2.2.1 u4.2.2.2.2.2.2 6 0 1000000000 lt (by omega) (by omega)
            have hY : Y = plEnd mi tp yt u4.1 u4.2.1 (nI (ptok (fun j => (bt j).toInt) n s).2) (nI s) u4.2.2.2.2.1 u4.2.2.2.2.2.1 u4.2.2.2.2.2.2 z3 := hY.trans r3
            unfold plEnd at hY
            obtain ⟨v1, f7, hY⟩ := cal_out hY
            obtain ⟨v2, f8, hY⟩ := cal_out hY
            have eN : aNam bt lt n m false (aOk s) = aStep (fun j => (bt j).toInt) n (aExp true 1 (aOk s)) := by
              have c2 : (decide ((ptok (fun j => (bt j).toInt) n s).2 - s ≤ 6) && decide (decide (aFnd bt lt n m s ≠ -1) = false)) = true := by
                rw [decide_eq_true b2, decide_eq_false (show ¬ aFnd bt lt n m s ≠ -1 from fun q => q b3)]
                rfl
              show aStep (fun j => (bt j).toInt) n (aExp (decide ((ptok (fun j => (bt j).toInt) n s).2 - s ≤ 6) && decide (decide (aFnd bt lt n m s ≠ -1) = false)) 2 (aExp (decide ((ptok (fun j => (bt j).toInt) n s).1 = 2)) 1 (aOk s))) = _
              rw [aE1 (decide_eq_true b1), aE1 c2]
              rw [aExp_true]
            have hR : aRR (fun j => (bt j).toInt) n (aOk s) (mu7 mi (u4.1, u4.2.1, nI (ptok (fun j => (bt j).toInt) n s).2, nI s, u4.2.2.2.2.1, u4.2.2.2.2.2.1, u4.2.2.2.2.2.2)) := aRR_ok h26 l1 l2 l3 g4 rfl rfl l6 l7
            have hN2 := rx_passes (p1 := 1) hn true (fun _ => rfl) ((tr_RR hT _ _).mpr hR)
            rw [tr_step hT] at hN2
            have e9 : fX12_passes (mu7 mi (u4.1, u4.2.1, nI (ptok (fun j => (bt j).toInt) n s).2, nI s, u4.2.2.2.2.1, u4.2.2.2.2.2.1, u4.2.2.2.2.2.2)) tp 1 = (u4.1, u4.2.1, v1.1, v1.2.1, v1.2.2.1, v1.2.2.2, u4.2.2.2.2.2.2) := by
              unfold fX12_passes
              rw [if_neg (by decide)]
              show bfX12_passes_9 (mu7 mi (u4.1, u4.2.1, nI (ptok (fun j => (bt j).toInt) n s).2, nI s, u4.2.2.2.2.1, u4.2.2.2.2.2.1, u4.2.2.2.2.2.2)) tp 1 u4.1 u4.2.1 (nI (ptok (fun j => (bt j).toInt) n s).2) (nI s) u4.2.2.2.2.1 u4.2.2.2.2.2.1 u4.2.2.2.2.2.2 = _
              rw [rx_p9 l1, mu7_mu7, ← f7]
            rw [e9] at hN2
            have k2 : aQ n bt (aNam bt lt n m false (aOk s)) o2.2 (u4.1, u4.2.1, v1.1, v1.2.1, v1.2.2.1, v1.2.2.2, u4.2.2.2.2.2.2) := ⟨hc.1, by rw [eN]; exact ((tr_RR hT _ _).mp hN2).2⟩
            obtain ⟨a3, k3, q3⟩ := q_nb hn hT k2 e3 e4 f8 (by decide) 0 9 (by decide) (by decide) (by decide) (by decide) h26 rfl
            subst hY
            refine ⟨a3, ?_, fun q => ?_⟩
            · split at hX
              · rw [cal_b] at hX
                subst hX
                exact k3
              · subst hX
                exact k3
            · obtain ⟨-, s3⟩ := q3 q
              rw [if_pos ((aQ_fk k3).mpr q)] at hX
              obtain ⟨o5, e5, hX⟩ := cal_out hX
              have e5 : o5 = (nI (m + 1), upd nm m o2.1, upd xt m o4.1) := by
                rw [e5]
                unfold fX0_addPlace bfX0_addPlace_45
                rw [if_neg (show ¬ (6 : Int32) ≤ nI m from nI_ge (b := 6) hm6 (by omega)), nI_clamp (by omega), ← nI_succ]
              subst e5
              subst hX
              refine ⟨(q1 ha).1, hm6, o4.1, o2.1, z3, rfl, ?_, ?_, ?_⟩
              · show mi 7 + 1 = _
                rw [h7, ← nI_succ]
              · show (z3, upd yt (mi 7).toNatClampNeg v2.1) = _
                rw [h7, nI_clamp (by omega), s3.1]
              · have hcc := hc.2
                rw [g6, g7] at hcc
                rw [hcc]
                exact nm_add hn hT hN b1 b2 r1 r2
          · exact absurd (of_decide_eq_true (q1 ha).2) hm6
        · rw [if_neg (fun q => b3 (f6.symm.trans q)), two] at hY
          have eN : aNam bt lt n m false (aOk s) = aBad 2 (nI s) := by
            have c2 : ¬ (decide ((ptok (fun j => (bt j).toInt) n s).2 - s ≤ 6) && decide (decide (aFnd bt lt n m s ≠ -1) = false)) = true := by
              rw [decide_eq_true b2, decide_eq_true b3]
              decide
            show aStep (fun j => (bt j).toInt) n (aExp (decide ((ptok (fun j => (bt j).toInt) n s).2 - s ≤ 6) && decide (decide (aFnd bt lt n m s ≠ -1) = false)) 2 (aExp (decide ((ptok (fun j => (bt j).toInt) n s).1 = 2)) 1 (aOk s))) = _
            rw [aE1 (decide_eq_true b1), aE0 c2]
            rfl
          rw [eN] at hc
          exact bad _ _ rfl hc.1 badR hY
      · rw [if_pos (show (6 : Int32) < nI ((ptok (fun j => (bt j).toInt) n s).2 - s) from nI_lt (a := 6) (by omega) (by omega)), two] at hY
        have eN : aNam bt lt n m false (aOk s) = aBad 2 (nI s) := by
          have c2 : ¬ (decide ((ptok (fun j => (bt j).toInt) n s).2 - s ≤ 6) && decide (decide (aFnd bt lt n m s ≠ -1) = false)) = true := by
            rw [decide_eq_false b2, Bool.false_and]
            exact Bool.false_ne_true
          show aStep (fun j => (bt j).toInt) n (aExp (decide ((ptok (fun j => (bt j).toInt) n s).2 - s ≤ 6) && decide (decide (aFnd bt lt n m s ≠ -1) = false)) 2 (aExp (decide ((ptok (fun j => (bt j).toInt) n s).1 = 2)) 1 (aOk s))) = _
          rw [aE1 (decide_eq_true b1), aE0 c2]
          rfl
        rw [eN] at hc
        exact bad _ _ rfl hc.1 badR hY
    · rw [if_neg (fun (q : u4.2.2.2.2.1 = (1 : Int32)) => b1 ((pkind_1 hkd).mp (pz_ninj (b := 1) (by omega) (by omega) (l6.symm.trans q))))] at hY
      obtain ⟨u5, f5, hY⟩ := cal_out hY
      have f5 : u5 = (1, u4.2.2.2.1, 1) := by
        rw [f5, rx_faults]
        exact if_pos l1
      subst f5
      unfold bfX12_readsPlace_39 bfX12_readsPlace_73 at hY
      rw [if_neg (show ¬ (1 : Int32) = 0 by decide), if_neg (show ¬ (1 : Int32) = 0 by decide)] at hY
      have eN : aNam bt lt n m false (aOk s) = aBad 1 (nI s) := by
        unfold aNam
        rw [show aExp (decide ((ptok (fun j => (bt j).toInt) n (aOk s).2.2.2).1 = 2)) 1 (aOk s) = aBad 1 (nI s) from if_neg (fun q => b1 (of_decide_eq_true q))]
        rfl
      rw [eN] at hc
      refine bad _ (1, u4.2.2.2.1, u4.2.2.1, u4.2.2.2.1, u4.2.2.2.2.1, u4.2.2.2.2.2.1, 1) rfl hc.1 ?_ hY
      unfold aR7
      rw [if_pos (show (aBad 1 (nI s)).1 = true from rfl)]
      exact ⟨show (1 : Int32) ≠ 0 by decide, rfl, rfl, l5⟩
  · have ha1 : a1.1 = true := by simpa using ha
    have hb : ¬ u4.2.2.2.2.2.2 = 0 := fun q => ha ((aQ_33 k1).mp q)
    rw [if_neg hb] at hY
    unfold bfX12_readsPlace_39 bfX12_readsPlace_73 at hY
    rw [if_neg hb, if_neg hb] at hY
    have eN : aNam bt lt n m false a1 = a1 := by
      unfold aNam
      rw [bad_exp (k := 1) ha1, bad_exp ha1, bad_step ha1]
    rw [eN] at hc
    exact bad a1 u4 ha1 hc.1 k1.2 hY
