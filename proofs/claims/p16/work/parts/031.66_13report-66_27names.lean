theorem rep_end {L n m r : Nat} {bt tp mi nm lt xp xk xm xd xn xs yp yk ym yd yn ys : Nat → Int32} {a : aS} {c : C5} {p : M7} {kd v2 v3 v4 v5 u2 q1 q2 q3 q4 q5 : Int32} (hr : r ≤ 24) (h10 : mi 10 = nI r) (k : aQ L n bt a c p) {X : Int32 × Int32 × Int32 × Int32 × Int32 × Int32 × (Nat → Int32) × (Nat → Int32) × (Nat → Int32) × (Nat → Int32) × (Nat → Int32) × (Nat → Int32)} (hX : X = bfX6_readReport_99 q1 q2 q3 q4 q5 (nI n) bt (mi 0) (nI m) (nI r) xp xk xm xd xn xs nm kd v2 v3 v4 v5 c.1 c.2.1 c.2.2.1 c.2.2.2.1 c.2.2.2.2 (nI r) xp xk xm xd xn xs) {Y : Int32 × Int32 × Int32 × Int32 × Int32 × Int32 × Int32 × Int32 × (Nat → Int32) × (Nat → Int32) × (Nat → Int32) × (Nat → Int32) × (Nat → Int32) × (Nat → Int32)} (hY : Y = bfX12_readsReport_83 mi tp lt yp yk ym yd yn ys kd u2 v3 v4 v5 (mi 10) p.1 p.2.1 p.2.2.1 p.2.2.2.1 p.2.2.2.2.1 p.2.2.2.2.2.1 p.2.2.2.2.2.2 yp yk ym yd yn ys) (hv : a.1 = false → fX0_placeNamed (nI m) nm v2 = u2 ∧ r < 24) : aQ L n bt a (X.1, X.2.1, X.2.2.1, X.2.2.2.1, X.2.2.2.2.1) (Y.2.1, Y.2.2.1, Y.2.2.2.1, Y.2.2.2.2.1, Y.2.2.2.2.2.1, Y.2.2.2.2.2.2.1, Y.2.2.2.2.2.2.2.1) ∧ (a.1 = false → r < 24 ∧ ∃ v1, v1 = u2 ∧ X.2.2.2.2.2 = (nI (r + 1), upd xp r v1, upd xk r kd, upd xm r v3, upd xd r v4, upd xn r v5, upd xs r 0) ∧ Y.1 = nI (r + 1) ∧ Y.2.2.2.2.2.2.2.2 = (upd yp r v1, upd yk r kd, upd ym r v3, upd yd r v4, upd yn r v5, upd ys r 0)) := by
  unfold bfX6_readReport_99 bfX6_readReport_127 at hX
  unfold bfX12_readsReport_83 bfX12_readsReport_101 at hY
  by_cases ha : a.1 = false
  · rw [if_pos ((aQ_fk k).mpr ha)] at hX
    rw [if_pos ((aQ_33 k).mpr ha)] at hY
    obtain ⟨o1, e1, hX⟩ := cal_out hX
    obtain ⟨o2, e2, hX⟩ := cal_out hX
    obtain ⟨w1, f1, hY⟩ := cal_out hY
    obtain ⟨g1, g2⟩ := hv ha
    have e2 : o2 = (nI (r + 1), upd xp r u2, upd xk r kd, upd xm r v3, upd xd r v4, upd xn r v5, upd xs r 0) := by
      rw [e2, e1, g1]
      unfold fX0_addReport bfX0_addReport_68
      rw [if_neg (show ¬ (24 : Int32) ≤ nI r from nI_ge (b := 24) g2 (by omega)), nI_clamp (by omega), ← nI_succ]
    have f1 : w1 = (nI (r + 1), upd yp r u2, upd yk r kd, upd ym r v3, upd yd r v4, upd yn r v5, upd ys r 0) := by
      rw [f1]
      unfold fX12_lays
      show (mi 10 + 1, upd yp (mi 10).toNatClampNeg u2, upd yk (mi 10).toNatClampNeg kd, upd ym (mi 10).toNatClampNeg v3, upd yd (mi 10).toNatClampNeg v4, upd yn (mi 10).toNatClampNeg v5, upd ys (mi 10).toNatClampNeg (vp_nar .boolean 0)) = _
      rw [h10, nI_clamp (by omega), ← nI_succ, show vp_nar .boolean (0 : Int32) = 0 from by decide]
    subst e2 f1
    subst hX hY
    exact ⟨k, fun _ => ⟨g2, u2, rfl, rfl, rfl, rfl⟩⟩
  · rw [if_neg (fun q => ha ((aQ_fk k).mp q))] at hX
    rw [if_neg (fun q => ha ((aQ_33 k).mp q))] at hY
    subst hX hY
    exact ⟨k, fun q => absurd q ha⟩
theorem ln_report {L n m r : Nat} {bt tp mi nm lt xp xk xm xd xn xs yp yk ym yd yn ys : Nat → Int32} {a : aS} {c : C5} {p : M7} {kd : Int32} (hn : n ≤ 1600) (hT : TR n bt tp) (h : aQ L n bt a c p) (hm : m ≤ 6) (hN : NM m nm lt) (hr : r ≤ 24) (h7 : mi 7 = nI m) (h10 : mi 10 = nI r) (h0 : 2 ≤ (mi 0).toInt) (h0b : (mi 0).toInt ≤ 24) {X : Int32 × Int32 × Int32 × Int32 × Int32 × Int32 × (Nat → Int32) × (Nat → Int32) × (Nat → Int32) × (Nat → Int32) × (Nat → Int32) × (Nat → Int32)} (hX : X = fX6_readReport c.1 c.2.1 c.2.2.1 c.2.2.2.1 c.2.2.2.2 (nI n) bt (mi 0) (nI m) (nI r) xp xk xm xd xn xs nm kd) {Y : Int32 × Int32 × Int32 × Int32 × Int32 × Int32 × Int32 × Int32 × (Nat → Int32) × (Nat → Int32) × (Nat → Int32) × (Nat → Int32) × (Nat → Int32) × (Nat → Int32)} (hY : Y = fX12_readsReport mi tp lt yp yk ym yd yn ys kd) (h26 : mi 26 = nI n) (hp : own7 mi = p) : ∃ a', aQ L n bt a' (X.1, X.2.1, X.2.2.1, X.2.2.2.1, X.2.2.2.2.1) (Y.2.1, Y.2.2.1, Y.2.2.2.1, Y.2.2.2.2.1, Y.2.2.2.2.2.1, Y.2.2.2.2.2.2.1, Y.2.2.2.2.2.2.2.1) ∧ (a'.1 = false → a.1 = false ∧ r < 24 ∧ ∃ v1 v3 v4 v5, (∃ j, j < m ∧ v1 = nI j) ∧ (1 ≤ v3.toInt ∧ v3.toInt ≤ (mi 0).toInt - 1) ∧ (0 ≤ v4.toInt ∧ v4.toInt ≤ v5.toInt ∧ v5.toInt ≤ 999) ∧ X.2.2.2.2.2 = (nI (r + 1), upd xp r v1, upd xk r kd, upd xm r v3, upd xd r v4, upd xn r v5, upd xs r 0) ∧ Y.1 = nI (r + 1) ∧ Y.2.2.2.2.2.2.2.2 = (upd yp r v1, upd yk r kd, upd ym r v3, upd yd r v4, upd yn r v5, upd ys r 0)) := by
  have hX : X = bfX6_readReport_18 c.1 c.2.1 c.2.2.1 c.2.2.2.1 c.2.2.2.2 (nI n) bt (mi 0) (nI m) (nI r) xp xk xm xd xn xs nm kd (if (24 : Int32) ≤ nI r then 0 else 1) c.1 c.2.1 c.2.2.1 c.2.2.2.1 c.2.2.2.2 (nI r) xp xk xm xd xn xs := by
    rw [hX]
    unfold fX6_readReport
    split
    · rfl
    · rfl
  obtain ⟨F, hF, hY⟩ : ∃ F : M7, F = (if decide (r < 24) = true then p else fp7 p 3) ∧ Y = bfX12_readsReport_14 mi tp lt yp yk ym yd yn ys kd (mi 10) F.1 F.2.1 F.2.2.1 F.2.2.2.1 F.2.2.2.2.1 F.2.2.2.2.2.1 F.2.2.2.2.2.2 yp yk ym yd yn ys := by
    unfold fX12_readsReport at hY
    refine ⟨_, rfl, ?_⟩
    rw [← hp]
    by_cases h4 : r < 24
    · rw [if_neg (show ¬ mi 10 = 24 from fun q => absurd (pz_ninj (b := 24) (by omega) (by omega) (h10.symm.trans q)) (by omega))] at hY
      rw [if_pos (decide_eq_true h4)]
      exact hY
    · rw [if_pos (show mi 10 = 24 by rw [h10, show r = 24 by omega]; rfl)] at hY
      rw [if_neg (fun q => h4 (of_decide_eq_true q))]
      obtain ⟨o1, e1, hY⟩ := cal_out hY
      rw [← faults_fp e1]
      exact hY
  unfold bfX6_readReport_18 at hX
  obtain ⟨o1, e1, hX⟩ := cal_out hX
  obtain ⟨o2, e2, hX⟩ := cal_out hX
  obtain ⟨o3, e3, hX⟩ := cal_out hX
  obtain ⟨o4, e4, hX⟩ := cal_out hX
  obtain ⟨o5, e5, hX⟩ := cal_out hX
  obtain ⟨o6, e6, hX⟩ := cal_out hX
  unfold bfX12_readsReport_14 at hY
  obtain ⟨u2, f2, hY⟩ := cal_out hY
  obtain ⟨u3, f3, hY⟩ := cal_out hY
  obtain ⟨u4, f4, hY⟩ := cal_out hY
  obtain ⟨u5, f5, hY⟩ := cal_out hY
  have k24 : (if (24 : Int32) ≤ nI r then (0 : Int32) else 1) = if decide (r < 24) = true then 1 else 0 := by
    by_cases h4 : r < 24
    · rw [if_neg (show ¬ (24 : Int32) ≤ nI r from nI_ge (b := 24) h4 (by omega)), if_pos (decide_eq_true h4)]
    · rw [if_pos (show (24 : Int32) ≤ nI r from nI_le (a := 24) (by omega) (by omega)), if_neg (fun q => h4 (of_decide_eq_true q))]
  have kone : (1 : Int32).toInt = 1 := by decide
  have km : (mi 0 - (1 : Int32)).toInt = (mi 0).toInt - 1 := by
    have q := gi_subI (z := mi 0 - (1 : Int32)) rfl (by rw [kone]; omega) (by rw [kone]; omega)
    rw [q, kone]
  obtain ⟨a1, k1, q1⟩ := q_head hn hT h (decide (r < 24)) k24 e1 hF f2 h26 rfl
  obtain ⟨a2, k2, q2⟩ := q_name hn hT k1 hm hN e2 f3 h7 h26 rfl
  obtain ⟨a3, k3, q3⟩ := q_nb hn hT k2 e3 e4 f4 (by decide) 1 ((mi 0).toInt - 1) kone km (by omega) (by omega) h26 rfl
  obtain ⟨a4, k4, q4⟩ := q_nb hn hT k3 e5 e6 f5 (by decide) 0 999 (by decide) (by decide) (by decide) (by decide) h26 rfl
  have back : ∀ a' : aS, (a'.1 = false → a4.1 = false) → a'.1 = false → a.1 = false ∧ r < 24 ∧ fX0_placeNamed (nI m) nm o2.1 = u3.1 ∧ (∃ j, j < m ∧ u3.1 = nI j) ∧ o4.1 = u4.1 ∧ o6.1 = u5.1 ∧ 0 ≤ u5.1.toInt ∧ u5.1.toInt ≤ 999 ∧ 1 ≤ u4.1.toInt ∧ u4.1.toInt ≤ (mi 0).toInt - 1 := by
    intro a' g q
    obtain ⟨r3, s4⟩ := q4 (g q)
    obtain ⟨r2, s3⟩ := q3 r3
    obtain ⟨r1, s2⟩ := q2 r2
    obtain ⟨r0, s1⟩ := q1 r1
    exact ⟨r0, of_decide_eq_true s1, s2.1, s2.2, s3.1, s4.1, s4.2.1, s4.2.2, s3.2⟩
  by_cases ha : a4.1 = false
  · have hb := back a4 id ha
    rw [if_pos ((aQ_fk k4).mpr ha)] at hX
    rw [if_pos ((aQ_33 k4).mpr ha)] at hY
    obtain ⟨o7, e7, hX⟩ := cal_out hX
    obtain ⟨u6, f6, hY⟩ := cal_out hY
    rw [hb.2.2.2.2.1, hb.2.2.2.2.2.1] at hX
    have hw := q_is (wi := 8) hn hT k4 ha (by decide) (show own7 (mu7 (upd mi 10 (mi 10)) u5.2) = u5.2 from rfl)
    have e67 : o7 = u6 := e7.trans (hw.1.trans f6.symm)
    by_cases hz : u6 = 0
    · rw [if_pos (e67.trans hz)] at hX
      rw [if_pos hz] at hY
      have hE := rep_end (tp := tp) (lt := lt) hr h10 k4 hX hY (fun _ => ⟨hb.2.2.1, hb.2.1⟩)
      refine ⟨a4, hE.1, fun q => ?_⟩
      obtain ⟨g1, v1, g2, g3⟩ := hE.2 q
      exact ⟨hb.1, g1, v1, u4.1, u5.1, u5.1, g2 ▸ hb.2.2.2.1, hb.2.2.2.2.2.2.2.2, ⟨hb.2.2.2.2.2.2.1, Int.le_refl _, hb.2.2.2.2.2.2.2.1⟩, g3⟩
    · rw [if_neg (fun q => hz (e67.symm.trans q))] at hX
      rw [if_neg hz] at hY
      obtain ⟨o8, e8, hX⟩ := cal_out hX
      obtain ⟨o9, e9, hX⟩ := cal_out hX
      obtain ⟨u7, f7, hY⟩ := cal_out hY
      have hw1 : fX6_isWord o6.2.2.2.1 o6.2.2.2.2.1 o6.2.2.2.2.2 (nI n) bt 8 = 1 := by
        have g := hw.2
        rw [← hw.1] at g
        rw [g]
        by_cases g9 : aIs bt n a4.2.2.2 (stL 8) = true
        · rw [if_pos g9]
        · rw [if_neg g9] at g
          exact absurd (e67.symm.trans (e7.trans g)) hz
      obtain ⟨a5, k5, q5⟩ := q_nb (wi := 8) (p1 := u5.1) (p2 := 999) hn hT k4 (pw_is (c := o6.2) hw1 e8) e9 f7 (by decide) u5.1.toInt 999 rfl (by decide) hb.2.2.2.2.2.2.1 (by decide) h26 rfl
      by_cases ha5 : a5.1 = false
      · have s5 := q5 ha5
        rw [s5.2.1] at hX
        have hE := rep_end (tp := tp) (lt := lt) hr h10 k5 hX hY (fun _ => ⟨hb.2.2.1, hb.2.1⟩)
        refine ⟨a5, hE.1, fun q => ?_⟩
        obtain ⟨g1, v1, g2, g3⟩ := hE.2 q
        exact ⟨hb.1, g1, v1, u4.1, u5.1, u7.1, g2 ▸ hb.2.2.2.1, hb.2.2.2.2.2.2.2.2, ⟨hb.2.2.2.2.2.2.1, s5.2.2⟩, g3⟩
      · unfold bfX6_readReport_99 bfX6_readReport_127 at hX
        unfold bfX12_readsReport_83 bfX12_readsReport_101 at hY
        rw [if_neg (fun q => ha5 ((aQ_fk k5).mp q))] at hX
        rw [if_neg (fun q => ha5 ((aQ_33 k5).mp q))] at hY
        subst hX hY
        exact ⟨a5, k5, fun q => absurd q ha5⟩
  · rw [if_neg (fun q => ha ((aQ_fk k4).mp q))] at hX
    rw [if_neg (fun q => ha ((aQ_33 k4).mp q))] at hY
    unfold bfX6_readReport_99 bfX6_readReport_127 at hX
    unfold bfX12_readsReport_83 bfX12_readsReport_101 at hY
    rw [if_neg (fun q => ha ((aQ_fk k4).mp q))] at hX
    rw [if_neg (fun q => ha ((aQ_33 k4).mp q))] at hY
    subst hX hY
    exact ⟨a4, k4, fun q => absurd q ha⟩
noncomputable def plEnd (mi tp tr : Nat → Int32) (w27 w28 w29 w30 w31 w32 w33 : Int32) (z2 : Nat → Int32) : Int32 × Int32 × Int32 × Int32 × Int32 × Int32 × Int32 × Int32 × (Nat → Int32) × (Nat → Int32) := cal (fun o2 => cal (fun o3 => ((mi 7) + 1, o3.2.1, o3.2.2.1, o3.2.2.2.1, o3.2.2.2.2.1, o3.2.2.2.2.2.1, o3.2.2.2.2.2.2.1, o3.2.2.2.2.2.2.2, z2, upd tr (mi 7).toNatClampNeg o3.1)) (fX12_numberBehind (mu7 mi (w27, w28, o2.1, o2.2.1, o2.2.2.1, o2.2.2.2, w33)) tp 0 9 17)) (fX12_next (mu7 mi (w27, w28, w29, w30, w31, w32, w33)) tp)
theorem lpl_s (mi tp lt tr : Nat → Int32) (z : Nat) (v w27 w28 w29 w30 w31 w32 w33 : Int32) (z2 : Nat → Int32) : lfX12_readsPlace mi tp lt tr (z + 1) v w27 w28 w29 w30 w31 w32 w33 z2 = dfX12_readsPlace_83 mi tp lt tr (lfX12_readsPlace mi tp lt tr z) v w27 w28 w29 w30 w31 w32 w33 z2 := rfl
theorem dpl_6 (mi tp lt tr : Nat → Int32) {K : Int32 → Int32 → Int32 → Int32 → Int32 → Int32 → Int32 → Int32 → (Nat → Int32) → (Int32 × Int32 × Int32 × Int32 × Int32 × Int32 × Int32 × Int32 × (Nat → Int32) × (Nat → Int32))} {v : Int32} (w27 w28 w29 w30 w31 w32 w33 : Int32) (z2 : Nat → Int32) (h : (6 : Int32) ≤ v) : dfX12_readsPlace_83 mi tp lt tr K v w27 w28 w29 w30 w31 w32 w33 z2 = plEnd mi tp tr w27 w28 w29 w30 w31 w32 w33 z2 := by
  unfold dfX12_readsPlace_83 plEnd
  rw [if_pos h]
  rfl
theorem pl_loop {mi tp lt tr : Nat → Int32} {m s e n : Nat} (hn : n ≤ 1600) (hm : m < 6) (hse : s ≤ e) (hen : e ≤ n) (h7 : mi 7 = nI m) (w27 w28 w31 w32 w33 : Int32) : ∀ (k j z : Nat) (z2 : Nat → Int32), j + k = 6 → k < z → ∃ z3 : Nat → Int32, (∀ i, j ≤ i → i < 6 → z3 (6 * m + i) = gsn tp s e i) ∧ (∀ q, q < 6 * m + j → z3 q = z2 q) ∧ lfX12_readsPlace mi tp lt tr z (nI j) w27 w28 (nI e) (nI s) w31 w32 w33 z2 = plEnd mi tp tr w27 w28 (nI e) (nI s) w31 w32 w33 z3 := by
  intro k
  induction k with
  | zero =>
    intro j z z2 hj hz
    obtain ⟨z, rfl⟩ : ∃ y, z = y + 1 := ⟨z - 1, by omega⟩
    refine ⟨z2, fun i h1 h2 => absurd h2 (by omega), fun q _ => rfl, ?_⟩
    rw [lpl_s, dpl_6 _ _ _ _ _ _ _ _ _ _ _ _ (show (6 : Int32) ≤ nI j from nI_le (a := 6) (by omega) (by omega))]
  | succ k ih =>
    intro j z z2 hj hz
    obtain ⟨z, rfl⟩ : ∃ y, z = y + 1 := ⟨z - 1, by omega⟩
    obtain ⟨z3, g1, g2, g3⟩ := ih (j + 1) z (upd z2 (6 * m + j) (gsn tp s e j)) (by omega) (by omega)
    refine ⟨z3, fun i h1 h2 => ?_, fun q hq => ?_, ?_⟩
    · by_cases h3 : i = j
      · rw [h3, g2 (6 * m + j) (by omega)]
        exact if_pos rfl
      · exact g1 i (by omega) h2
    · rw [g2 q (by omega)]
      exact if_neg (by omega)
    · rw [← g3, lpl_s]
      unfold dfX12_readsPlace_83 bfX12_readsPlace_130
      rw [if_neg (show ¬ (6 : Int32) ≤ nI j from nI_ge (b := 6) (by omega) (by omega)), h7, pz_nsub hse (by omega), pr_ix (by omega) (by omega), nI_add, nI_clamp (show s + j < 2147483648 by omega), ← nI_succ]
      by_cases h3 : j < e - s
      · rw [if_neg (nI_ge h3 (by omega)), gsn_lt h3]
      · rw [if_pos (nI_le (by omega) (by omega)), gsn_ge h3]
theorem bad_step {b : Nat → Int} {n : Nat} {a : aS} (h : a.1 = true) : aStep b n a = a := if_pos h
theorem aE1 {c : Bool} {k : Int32} {s : Nat} (h : c = true) : aExp c k (aOk s) = aOk s := by rw [aExp_ok, if_pos h]
theorem aE0 {c : Bool} {k : Int32} {s : Nat} (h : ¬ c = true) : aExp c k (aOk s) = aBad k (nI s) := by rw [aExp_ok, if_neg h]
theorem bad_exp {c : Bool} {k : Int32} {a : aS} (h : a.1 = true) : aExp c k a = a := if_pos h
theorem bad_tail {n wi : Nat} {bt : Nat → Int32} {a : aS} {c o1 : C5} {o2 : Int32 × C5} {p1 p2 : Int32} (hn : n ≤ 1600) (ha : a.1 = true) (hw : (stL wi).length ≤ 7) (lo hi : Int) (h1 : p1.toInt = lo) (h2 : p2.toInt = hi) (hl : 0 ≤ lo) (hh : hi ≤ 99999) (h : aRC (fun j => (bt j).toInt) n a c.1 c.2.1 c.2.2.1 c.2.2.2.1 c.2.2.2.2) (e1 : o1 = fX6_passWord c.1 c.2.1 c.2.2.1 c.2.2.2.1 c.2.2.2.2 (nI n) bt wi) (e2 : o2 = fX6_passNumber o1.1 o1.2.1 o1.2.2.1 o1.2.2.2.1 o1.2.2.2.2 (nI n) bt p1 p2) : aRC (fun j => (bt j).toInt) n a o2.2.1 o2.2.2.1 o2.2.2.2.1 o2.2.2.2.2.1 o2.2.2.2.2.2 := by
  have g1 := cx_word hn hw h
  rw [bad_exp ha, bad_step ha, ← e1] at g1
  have g2 := (cx_number hn lo hi h1 h2 (Or.inl hh) hl g1).1
  unfold aNum at g2
  rw [bad_exp (k := 1) ha, bad_exp ha, bad_step ha, ← e2] at g2
  exact g2
theorem nm_add {n m s : Nat} {bt tp nm lt lt2 : Nat → Int32} (hn : n ≤ 1600) (hT : TR n bt tp) (hN : NM m nm lt) (hk : (ptok (fun j => (bt j).toInt) n s).1 = 2) (h6 : (ptok (fun j => (bt j).toInt) n s).2 - s ≤ 6) (g1 : ∀ i, 0 ≤ i → i < 6 → lt2 (6 * m + i) = gsn tp s (ptok (fun j => (bt j).toInt) n s).2 i) (g2 : ∀ q, q < 6 * m + 0 → lt2 q = lt q) : NM (m + 1) (upd nm m (fX6_nameHere (nI s) (nI (ptok (fun j => (bt j).toInt) n s).2) (nI n) bt)) lt2 := by
  obtain ⟨w1, w2, w3, hL⟩ := wd_letters hk
  generalize (ptok (fun j => (bt j).toInt) n s).2 = e at w2 w3 hL h6 g1 ⊢
  intro p hp
  by_cases h1 : p = m
  · subst h1
    have hg : ∀ k, k < 6 → lt2 (6 * p + k) = gsn bt s e k := by
      intro k hk6
      rw [g1 k (by omega) hk6]
      refine gsn_eq (fun j q1 q2 => ?_) k
      have q3 := hL j q1 q2
      have q4 := hT j (by omega)
      exact Int32.toInt_inj.mp (by omega)
    refine ⟨?_, fun k hk6 => ?_⟩
    · rw [show upd nm p (fX6_nameHere (nI s) (nI e) (nI n) bt) p = fX6_nameHere (nI s) (nI e) (nI n) bt from if_pos rfl, px_name hn w2 w3, pcod_inj]
      exact ⟨rfl, fun i q1 q2 => by show pdg (gsn bt s e i).toInt = pdg (lt2 (6 * p + i)).toInt; rw [hg i (by omega)]⟩
    · rw [hg k hk6]
      unfold gsn
      by_cases h2 : k < e - s
      · rw [if_pos h2]
        exact Or.inr (hL (s + k) (by omega) (by omega))
      · rw [if_neg h2]
        exact Or.inl (by decide)
  · obtain ⟨q1, q2⟩ := hN p (by omega)
    refine ⟨?_, fun k hk6 => ?_⟩
    · rw [show upd nm m (fX6_nameHere (nI s) (nI e) (nI n) bt) p = nm p from if_neg h1, q1, pcod_inj]
      exact ⟨rfl, fun i r1 r2 => by show pdg (lt (6 * p + i)).toInt = pdg (lt2 (6 * p + i)).toInt; rw [g2 (6 * p + i) (by omega)]⟩
    · rw [g2 (6 * p + k) (by omega)]
      exact q2 k hk6
theorem pfst_none {Q : Nat → Bool} : ∀ k i : Nat, pfst Q k i = -1 → ∀ p, i ≤ p → p < i + k → i + k < 1000 → Q p = false := by
  intro k
  induction k with
  | zero => intro i _ p h1 h2 _; omega
  | succ k ih =>
    intro i h p h1 h2 h3
    rw [pfst] at h
    by_cases hq : Q i = true
    · rw [if_pos hq] at h
      have q := congrArg Int32.toInt h
      rw [nI_toInt (by omega), show (-1 : Int32).toInt = -1 from by decide] at q
      omega
    · rw [if_neg hq] at h
      by_cases e : p = i
      · rw [e]
        simpa using hq
      · exact ih (i + 1) h p (by omega) (by omega) (by omega)
theorem ln_place {L n m : Nat} {bt tp mi nm lt xt yt : Nat → Int32} {a : aS} {c : C5} {p : M7} (hn : n ≤ 1600) (hT : TR n bt tp) (h : aQ L n bt a c p) (hm : m ≤ 6) (hN : NM m nm lt) (h7 : mi 7 = nI m) {X : Int32 × Int32 × Int32 × Int32 × Int32 × Int32 × (Nat → Int32) × (Nat → Int32)} (hX : X = fX6_readPlace c.1 c.2.1 c.2.2.1 c.2.2.2.1 c.2.2.2.2 (nI n) bt (nI m) nm xt) {Y : Int32 × Int32 × Int32 × Int32 × Int32 × Int32 × Int32 × Int32 × (Nat → Int32) × (Nat → Int32)} (hY : Y = fX12_readsPlace mi tp lt yt) (h26 : mi 26 = nI n) (hp : own7 mi = p) : ∃ a', aQ L n bt a' (X.1, X.2.1, X.2.2.1, X.2.2.2.1, X.2.2.2.2.1) (Y.2.1, Y.2.2.1, Y.2.2.2.1, Y.2.2.2.2.1, Y.2.2.2.2.2.1, Y.2.2.2.2.2.2.1, Y.2.2.2.2.2.2.2.1) ∧ (a'.1 = false → a.1 = false ∧ m < 6 ∧ ∃ w cd lt2, (0 ≤ w.toInt ∧ w.toInt ≤ 9) ∧ (∀ p, p < m → ¬ nm p = cd) ∧ X.2.2.2.2.2 = (nI (m + 1), upd nm m cd, upd xt m w) ∧ Y.1 = nI (m + 1) ∧ Y.2.2.2.2.2.2.2.2 = (lt2, upd yt m w) ∧ NM (m + 1) (upd nm m cd) lt2) := by
  have hX : X = bfX6_readPlace_18 c.1 c.2.1 c.2.2.1 c.2.2.2.1 c.2.2.2.2 (nI n) bt (nI m) nm xt (if (6 : Int32) ≤ nI m then 0 else 1) c.1 c.2.1 c.2.2.1 c.2.2.2.1 c.2.2.2.2 (nI m) nm xt := by
    rw [hX]
    unfold fX6_readPlace
    split
    · rfl
    · rfl
  obtain ⟨F, hF, hY⟩ : ∃ F : M7, F = (if decide (m < 6) = true then p else fp7 p 3) ∧ Y = bfX12_readsPlace_14 mi tp lt yt (lfX12_readsPlace mi tp lt yt 1000000000) (mi 7) F.1 F.2.1 F.2.2.1 F.2.2.2.1 F.2.2.2.2.1 F.2.2.2.2.2.1 F.2.2.2.2.2.2 lt yt := by
    unfold fX12_readsPlace at hY
    refine ⟨_, rfl, ?_⟩
    rw [← hp]
    by_cases h4 : m < 6
    · rw [if_neg (show ¬ mi 7 = 6 from fun q => absurd (pz_ninj (b := 6) (by omega) (by omega) (h7.symm.trans q)) (by omega))] at hY
      rw [if_pos (decide_eq_true h4)]
      exact hY
    · rw [if_pos (show mi 7 = 6 by rw [h7, show m = 6 by omega]; rfl)] at hY
      rw [if_neg (fun q => h4 (of_decide_eq_true q))]
      obtain ⟨o1, e1, hY⟩ := cal_out hY
      rw [← faults_fp e1]
      exact hY
  unfold bfX6_readPlace_18 at hX
  obtain ⟨o1, e1, hX⟩ := cal_out hX
  obtain ⟨o2, e2, hX⟩ := cal_out hX
  obtain ⟨o3, e3, hX⟩ := cal_out hX
  obtain ⟨o4, e4, hX⟩ := cal_out hX
  unfold bfX6_readPlace_57 at hX
  unfold bfX12_readsPlace_14 at hY
  obtain ⟨u4, f4, hY⟩ := cal_out hY
  have k6 : (if (6 : Int32) ≤ nI m then (0 : Int32) else 1) = if decide (m < 6) = true then 1 else 0 := by
    by_cases h4 : m < 6
    · rw [if_neg (show ¬ (6 : Int32) ≤ nI m from nI_ge (b := 6) h4 (by omega)), if_pos (decide_eq_true h4)]
    · rw [if_pos (show (6 : Int32) ≤ nI m from nI_le (a := 6) (by omega) (by omega)), if_neg (fun q => h4 (of_decide_eq_true q))]
  obtain ⟨a1, k1, q1⟩ := q_head hn hT h (decide (m < 6)) k6 e1 hF f4 h26 rfl
  have hc := cx_name (lt := lt) (p1 := 0) hn hm hN false rfl k1.1
  rw [← e2] at hc
  have bad : ∀ (a2 : aS) (P : M7), a2.1 = true → aRC (fun j => (bt j).toInt) n a2 o2.2.1 o2.2.2.1 o2.2.2.2.1 o2.2.2.2.2.1 o2.2.2.2.2.2 → aR7 (fun j => (bt j).toInt) n a2 P → Y = (mi 7, P.1, P.2.1, P.2.2.1, P.2.2.2.1, P.2.2.2.2.1, P.2.2.2.2.2.1, P.2.2.2.2.2.2, lt, yt) → ∃ a', aQ L n bt a' (X.1, X.2.1, X.2.2.1, X.2.2.2.1, X.2.2.2.2.1) (Y.2.1, Y.2.2.1, Y.2.2.2.1, Y.2.2.2.2.1, Y.2.2.2.2.2.1, Y.2.2.2.2.2.2.1, Y.2.2.2.2.2.2.2.1) ∧ (a'.1 = false → a.1 = false ∧ m < 6 ∧ ∃ w cd lt2, (0 ≤ w.toInt ∧ w.toInt ≤ 9) ∧ (∀ p, p < m → ¬ nm p = cd) ∧ X.2.2.2.2.2 = (nI (m + 1), upd nm m cd, upd xt m w) ∧ Y.1 = nI (m + 1) ∧ Y.2.2.2.2.2.2.2.2 = (lt2, upd yt m w) ∧ NM (m + 1) (upd nm m cd) lt2) := by
    intro a2 P h1 h2 h3 h4
    have g1 := bad_tail hn h1 (by decide) 0 9 (by decide) (by decide) (by decide) (by decide) h2 e3 e4
    have g2 : aQ L n bt a2 o4.2 P := ⟨g1, h3, aB_bad h1⟩
    rw [if_neg (fun q => absurd ((aQ_fk g2).mp q) (by rw [h1]; decide))] at hX
    subst hX h4
    exact ⟨a2, g2, fun q => absurd q (by rw [h1]; decide)⟩
  by_cases ha : a1.1 = false
  · obtain ⟨s, rfl, g2, g3, g4, g5, g6, g7, l1, l2, l3, l4, l5, l6, l7⟩ := aQ_ok k1 ha
    have hkd := ptok_kind (fun j => (bt j).toInt) n s
    have hkd2 := pkind_le hkd
    rw [if_pos l1] at hY
    by_cases b1 : (ptok (fun j => (bt j).toInt) n s).1 = 2
    · rw [if_pos (show u4.2.2.2.2.1 = 1 by rw [l6, b1]; rfl)] at hY
      unfold bfX12_readsPlace_39 at hY
      have hle := wd_letters b1
      rw [if_pos l1, l4, l5, pz_nsub hle.2.1 (by omega)] at hY
      have two : bfX12_readsPlace_68 mi tp lt yt (lfX12_readsPlace mi tp lt yt 1000000000) (mi 7) u4.1 u4.2.1 (nI (ptok (fun j => (bt j).toInt) n s).2) (nI s) u4.2.2.2.2.1 u4.2.2.2.2.2.1 u4.2.2.2.2.2.2 lt yt = (mi 7, 2, nI s, nI (ptok (fun j => (bt j).toInt) n s).2, nI s, u4.2.2.2.2.1, u4.2.2.2.2.2.1, 1, lt, yt) := by
        have ef : fX12_faults (mu7 (upd mi 7 (mi 7)) (u4.1, u4.2.1, nI (ptok (fun j => (bt j).toInt) n s).2, nI s, u4.2.2.2.2.1, u4.2.2.2.2.2.1, u4.2.2.2.2.2.2)) 2 = (2, nI s, 1) := by
          rw [rx_faults]
          exact if_pos l1
        unfold bfX12_readsPlace_68 bfX12_readsPlace_73
        show cal _ (fX12_faults (mu7 (upd mi 7 (mi 7)) (u4.1, u4.2.1, nI (ptok (fun j => (bt j).toInt) n s).2, nI s, u4.2.2.2.2.1, u4.2.2.2.2.2.1, u4.2.2.2.2.2.2)) 2) = _
        rw [ef, cal_b]
        exact if_neg (show ¬ (1 : Int32) = 0 by decide)
      have badR : aR7 (fun j => (bt j).toInt) n (aBad 2 (nI s)) (2, nI s, nI (ptok (fun j => (bt j).toInt) n s).2, nI s, u4.2.2.2.2.1, u4.2.2.2.2.2.1, 1) := by
        unfold aR7
        rw [if_pos (show (aBad 2 (nI s)).1 = true from rfl)]
        exact ⟨show (2 : Int32) ≠ 0 by decide, rfl, rfl, rfl⟩
      by_cases b2 : (ptok (fun j => (bt j).toInt) n s).2 - s ≤ 6
      · rw [if_neg (show ¬ (6 : Int32) < nI ((ptok (fun j => (bt j).toInt) n s).2 - s) from nI_nlt (a := 6) (b := (ptok (fun j => (bt j).toInt) n s).2 - s) b2 (by omega))] at hY
        obtain ⟨u6, f6, hY⟩ := cal_out hY
        have hf := fnd_ref (lt := lt) (mi := mu7 (upd mi 7 (mi 7)) (u4.1, u4.2.1, nI (ptok (fun j => (bt j).toInt) n s).2, nI s, u4.2.2.2.2.1, u4.2.2.2.2.2.1, u4.2.2.2.2.2.2)) hn hm hT b1 h7 rfl rfl
        have f6 : u6 = aFnd bt lt n m s := f6.trans hf
        by_cases b3 : aFnd bt lt n m s = -1
        · rw [if_pos (f6.trans b3)] at hY
          unfold bfX12_readsPlace_73 at hY
          rw [if_pos l1] at hY
          by_cases hm6 : m < 6
          · obtain ⟨z3, r1, r2, r3⟩ := pl_loop (tp := tp) (lt := lt) (tr := yt) hn hm6 hle.2.1 hle.2.2.1 h7 u4.1 u4.2.1 u4.2.2.2.2.1 u4.2.2.2.2.2.1 u4.2.2.2.2.2.2 6 0 1000000000 lt (by omega) (by omega)
            have hY : Y = plEnd mi tp yt u4.1 u4.2.1 (nI (ptok (fun j => (bt j).toInt) n s).2) (nI s) u4.2.2.2.2.1 u4.2.2.2.2.2.1 u4.2.2.2.2.2.2 z3 := hY.trans r3
            unfold plEnd at hY
            obtain ⟨v1, f7, hY⟩ := cal_out hY
            obtain ⟨v2, f8, hY⟩ := cal_out hY
            have eN : aNam bt lt n m false (aOk s) = aStep (fun j => (bt j).toInt) n (aExp true 1 (aOk s)) := by
              have c2 : (decide ((ptok (fun j => (bt j).toInt) n s).2 - s ≤ 6) && decide (decide (aFnd bt lt n m s ≠ -1) = false)) = true := by
                rw [decide_eq_true b2, decide_eq_false (show ¬ aFnd bt lt n m s ≠ -1 from fun q => q b3)]
                rfl
              show aStep (fun j => (bt j).toInt) n (aExp (decide ((ptok (fun j => (bt j).toInt) n s).2 - s ≤ 6) && decide (decide (aFnd bt lt n m s ≠ -1) = false)) 2 (aExp (decide ((ptok (fun j => (bt j).toInt) n s).1 = 2)) 1 (aOk s))) = _
              rw [aE1 (decide_eq_true b1), aE1 c2]
              rw [aExp_true]
            have hR : aRR (fun j => (bt j).toInt) n (aOk s) (mu7 mi (u4.1, u4.2.1, nI (ptok (fun j => (bt j).toInt) n s).2, nI s, u4.2.2.2.2.1, u4.2.2.2.2.2.1, u4.2.2.2.2.2.2)) := aRR_ok h26 l1 l2 l3 g4 rfl rfl l6 l7
            have hN2 := rx_passes (p1 := 1) hn true (fun _ => rfl) ((tr_RR hT _ _).mpr hR)
            rw [tr_step hT] at hN2
            have e9 : fX12_passes (mu7 mi (u4.1, u4.2.1, nI (ptok (fun j => (bt j).toInt) n s).2, nI s, u4.2.2.2.2.1, u4.2.2.2.2.2.1, u4.2.2.2.2.2.2)) tp 1 = (u4.1, u4.2.1, v1.1, v1.2.1, v1.2.2.1, v1.2.2.2, u4.2.2.2.2.2.2) := by
              unfold fX12_passes
              rw [if_neg (by decide)]
              show bfX12_passes_9 (mu7 mi (u4.1, u4.2.1, nI (ptok (fun j => (bt j).toInt) n s).2, nI s, u4.2.2.2.2.1, u4.2.2.2.2.2.1, u4.2.2.2.2.2.2)) tp 1 u4.1 u4.2.1 (nI (ptok (fun j => (bt j).toInt) n s).2) (nI s) u4.2.2.2.2.1 u4.2.2.2.2.2.1 u4.2.2.2.2.2.2 = _
              rw [rx_p9 l1, mu7_mu7, ← f7]
            rw [e9] at hN2
            have k2 : aQ L n bt (aNam bt lt n m false (aOk s)) o2.2 (u4.1, u4.2.1, v1.1, v1.2.1, v1.2.2.1, v1.2.2.2, u4.2.2.2.2.2.2) := ⟨hc.1, by rw [eN]; exact ((tr_RR hT _ _).mp hN2).2, aB_step (aB_exp (aB_exp k1.2.2))⟩
            obtain ⟨a3, k3, q3⟩ := q_nb hn hT k2 e3 e4 f8 (by decide) 0 9 (by decide) (by decide) (by decide) (by decide) h26 rfl
            subst hY
            refine ⟨a3, ?_, fun q => ?_⟩
            · split at hX
              · rw [cal_b] at hX
                subst hX
                exact k3
              · subst hX
                exact k3
            · obtain ⟨-, s3⟩ := q3 q
              rw [if_pos ((aQ_fk k3).mpr q)] at hX
              obtain ⟨o5, e5, hX⟩ := cal_out hX
              have e5 : o5 = (nI (m + 1), upd nm m o2.1, upd xt m o4.1) := by
                rw [e5]
                unfold fX0_addPlace bfX0_addPlace_45
                rw [if_neg (show ¬ (6 : Int32) ≤ nI m from nI_ge (b := 6) hm6 (by omega)), nI_clamp (by omega), ← nI_succ]
              subst e5
              subst hX
              have hcc := hc.2
              rw [g6, g7] at hcc
              refine ⟨(q1 ha).1, hm6, o4.1, o2.1, z3, ⟨by rw [s3.1]; exact s3.2.1, by rw [s3.1]; exact s3.2.2⟩, ?_, rfl, ?_, ?_, ?_⟩
              · intro p hp q
                rw [hcc] at q
                have q2 := (nm_match hn hN hp b1 b2).mp q
                have q3 := pfst_none m 0 b3 p (by omega) (by omega) (by omega)
                rw [q2] at q3
                exact absurd q3 (by decide)
              · show mi 7 + 1 = _
                rw [h7, ← nI_succ]
              · show (z3, upd yt (mi 7).toNatClampNeg v2.1) = _
                rw [h7, nI_clamp (by omega), s3.1]
              · rw [hcc]
                exact nm_add hn hT hN b1 b2 r1 r2
          · exact absurd (of_decide_eq_true (q1 ha).2) hm6
        · rw [if_neg (fun q => b3 (f6.symm.trans q)), two] at hY
          have eN : aNam bt lt n m false (aOk s) = aBad 2 (nI s) := by
            have c2 : ¬ (decide ((ptok (fun j => (bt j).toInt) n s).2 - s ≤ 6) && decide (decide (aFnd bt lt n m s ≠ -1) = false)) = true := by
              rw [decide_eq_true b2, decide_eq_true b3]
              decide
            show aStep (fun j => (bt j).toInt) n (aExp (decide ((ptok (fun j => (bt j).toInt) n s).2 - s ≤ 6) && decide (decide (aFnd bt lt n m s ≠ -1) = false)) 2 (aExp (decide ((ptok (fun j => (bt j).toInt) n s).1 = 2)) 1 (aOk s))) = _
            rw [aE1 (decide_eq_true b1), aE0 c2]
            rfl
          rw [eN] at hc
          exact bad _ _ rfl hc.1 badR hY
      · rw [if_pos (show (6 : Int32) < nI ((ptok (fun j => (bt j).toInt) n s).2 - s) from nI_lt (a := 6) (by omega) (by omega)), two] at hY
        have eN : aNam bt lt n m false (aOk s) = aBad 2 (nI s) := by
          have c2 : ¬ (decide ((ptok (fun j => (bt j).toInt) n s).2 - s ≤ 6) && decide (decide (aFnd bt lt n m s ≠ -1) = false)) = true := by
            rw [decide_eq_false b2, Bool.false_and]
            exact Bool.false_ne_true
          show aStep (fun j => (bt j).toInt) n (aExp (decide ((ptok (fun j => (bt j).toInt) n s).2 - s ≤ 6) && decide (decide (aFnd bt lt n m s ≠ -1) = false)) 2 (aExp (decide ((ptok (fun j => (bt j).toInt) n s).1 = 2)) 1 (aOk s))) = _
          rw [aE1 (decide_eq_true b1), aE0 c2]
          rfl
        rw [eN] at hc
        exact bad _ _ rfl hc.1 badR hY
    · rw [if_neg (fun (q : u4.2.2.2.2.1 = (1 : Int32)) => b1 ((pkind_1 hkd).mp (pz_ninj (b := 1) (by omega) (by omega) (l6.symm.trans q))))] at hY
      obtain ⟨u5, f5, hY⟩ := cal_out hY
      have f5 : u5 = (1, u4.2.2.2.1, 1) := by
        rw [f5, rx_faults]
        exact if_pos l1
      subst f5
      unfold bfX12_readsPlace_39 bfX12_readsPlace_73 at hY
      rw [if_neg (show ¬ (1 : Int32) = 0 by decide), if_neg (show ¬ (1 : Int32) = 0 by decide)] at hY
      have eN : aNam bt lt n m false (aOk s) = aBad 1 (nI s) := by
        unfold aNam
        rw [show aExp (decide ((ptok (fun j => (bt j).toInt) n (aOk s).2.2.2).1 = 2)) 1 (aOk s) = aBad 1 (nI s) from if_neg (fun q => b1 (of_decide_eq_true q))]
        rfl
      rw [eN] at hc
      refine bad _ (1, u4.2.2.2.1, u4.2.2.1, u4.2.2.2.1, u4.2.2.2.2.1, u4.2.2.2.2.2.1, 1) rfl hc.1 ?_ hY
      unfold aR7
      rw [if_pos (show (aBad 1 (nI s)).1 = true from rfl)]
      exact ⟨show (1 : Int32) ≠ 0 by decide, rfl, rfl, l5⟩
  · have ha1 : a1.1 = true := by simpa using ha
    have hb : ¬ u4.2.2.2.2.2.2 = 0 := fun q => ha ((aQ_33 k1).mp q)
    rw [if_neg hb] at hY
    unfold bfX12_readsPlace_39 bfX12_readsPlace_73 at hY
    rw [if_neg hb, if_neg hb] at hY
    have eN : aNam bt lt n m false a1 = a1 := by
      unfold aNam
      rw [bad_exp (k := 1) ha1, bad_exp ha1, bad_step ha1]
    rw [eN] at hc
    exact bad a1 u4 ha1 hc.1 k1.2.1 hY
theorem q_step {L n : Nat} {bt tp mi : Nat → Int32} {a : aS} {c : C5} {p : M7} (hn : n ≤ 1600) (hT : TR n bt tp) (h : aQ L n bt a c p) {o : Int32 × Int32 × Int32} (ho : o = fX6_step c.1 c.2.2.1 c.2.2.2.1 c.2.2.2.2 (nI n) bt) {u : M7} (hu : u = fX12_passes mi tp 1) (h26 : mi 26 = nI n) (hp : own7 mi = p) : ∃ a', aQ L n bt a' (c.1, c.2.1, o.1, o.2.1, o.2.2) u ∧ (a'.1 = false → a.1 = false) := by
  subst ho hu
  have h2 := rx_passes hn true (p1 := 1) (fun _ => rfl) (aQ_RR h hT h26 hp)
  rw [aExp_true, tr_step hT] at h2
  have h3 := cx_step (bt := bt) hn h.1
  exact ⟨aStep (fun j => (bt j).toInt) n a, ⟨h3, ((tr_RR hT _ _).mp h2).2, aB_step h.2.2⟩, aStep_ok⟩
theorem q_numL {L n : Nat} {bt tp mi : Nat → Int32} {a : aS} {c : C5} {p : M7} (hn : n ≤ 1600) (hT : TR n bt tp) (h : aQ L n bt a c p) {o : Int32 × C5} (ho : o = fX6_passNumber c.1 c.2.1 c.2.2.1 c.2.2.2.1 c.2.2.2.2 (nI n) bt 0 1000000) {u : Int32 × M7} (hu : u = fX12_number mi tp 0 100000) (h26 : mi 26 = nI n) (hp : own7 mi = p) : ∃ a', aQ L n bt a' o.2 u.2 ∧ (a'.1 = false → a.1 = false ∧ min 100000 o.1.toInt = u.1.toInt ∧ 0 ≤ o.1.toInt) := by
  subst ho hu
  have hc := cx_number (bt := bt) (p1 := 0) (p2 := 1000000) hn 0 1000000 (by decide) (by decide) (Or.inr ⟨rfl, rfl⟩) (by decide) h.1
  rw [show min (1000000 : Int) 100000 = 100000 by decide] at hc
  have hr := rx_number (p1 := 0) (p2 := 100000) hn 0 100000 (by decide) (by decide) (aQ_RR h hT h26 hp)
  rw [tr_num hT, tr_val hT] at hr
  refine ⟨_, aQ_of hT hc.1 hr.1 (aB_step (aB_exp (aB_exp h.2.2))), fun q => ⟨aNum_okb q, ?_⟩⟩
  have h3 := hc.2 q
  have h4 := hr.2 q
  exact ⟨by omega, h3.2.1⟩
theorem exp_bad {fk fp st x k : Int32} (h : ¬ fk = 0) : fX6_expect fk fp st x k = (fk, fp) := by
  unfold fX6_expect bfX6_expect_13 fX6_blame bfX6_blame_17
  rw [if_neg h, cal_b]
  split
  · rfl
  · rfl
theorem exp_one {fk fp st k : Int32} : fX6_expect fk fp st 1 k = (fk, fp) := by
  unfold fX6_expect bfX6_expect_13
  exact if_neg (by decide)
theorem exp_zero {fp st k : Int32} : fX6_expect 0 fp st 0 k = (k, st) := by
  unfold fX6_expect bfX6_expect_13 fX6_blame bfX6_blame_17
  rw [cal_b]
  rfl
theorem aR7_bad {t : Nat → Int} {n : Nat} {k pl w29 w30 w31 w32 : Int32} (hk : k ≠ 0) : aR7 t n (aBad k pl) (k, pl, w29, w30, w31, w32, 1) := by
  unfold aR7
  rw [if_pos (show (aBad k pl).1 = true from rfl)]
  exact ⟨hk, rfl, rfl, rfl⟩
theorem aQ_bad {L n : Nat} {bt : Nat → Int32} {k pl w3 w4 w5 w29 w30 w31 w32 : Int32} (hk : k ≠ 0) : aQ L n bt (aBad k pl) (k, pl, w3, w4, w5) (k, pl, w29, w30, w31, w32, 1) := ⟨aRC_bad hk, aR7_bad hk, aB_bad rfl⟩
theorem dd_end {L n d : Nat} {bt tp mi xm xd xl xi ym yd yl yi : Nat → Int32} {a : aS} {c : C5} {p : M7} {v1 v2 v4 v5 y1 y2 y4 y5 q1 q2 q3 q4 q5 : Int32} (hn : n ≤ 1600) (hT : TR n bt tp) (hd : d ≤ 8) (h17 : mi 17 = nI d) (k : aQ L n bt a c p) {X : Int32 × Int32 × Int32 × Int32 × Int32 × Int32 × (Nat → Int32) × (Nat → Int32) × (Nat → Int32) × (Nat → Int32)} (hX : X = bfX6_readDeed_144 q1 q2 q3 q4 q5 (nI n) bt (mi 0) (nI d) xm xd xl xi v1 v2 v4 v5 c.1 c.2.1 c.2.2.1 c.2.2.2.1 c.2.2.2.2 (nI d) xm xd xl xi) {Y : Int32 × Int32 × Int32 × Int32 × Int32 × Int32 × Int32 × Int32 × (Nat → Int32) × (Nat → Int32) × (Nat → Int32) × (Nat → Int32)} (hY : Y = bfX12_readsDeed_149 mi tp ym yd yl yi y1 y2 y4 y5 1 (mi 17) p.1 p.2.1 p.2.2.1 p.2.2.2.1 p.2.2.2.2.1 p.2.2.2.2.2.1 p.2.2.2.2.2.2 ym yd yl yi) (h26 : mi 26 = nI n) (hv : a.1 = false → v1 = y1 ∧ v2 = y2 ∧ v4 = y4 ∧ v5 = y5 ∧ (y5 = 0 ∨ y5 = 1) ∧ d < 8) : ∃ a', aQ L n bt a' (X.1, X.2.1, X.2.2.1, X.2.2.2.1, X.2.2.2.2.1) (Y.2.1, Y.2.2.1, Y.2.2.2.1, Y.2.2.2.2.1, Y.2.2.2.2.2.1, Y.2.2.2.2.2.2.1, Y.2.2.2.2.2.2.2.1) ∧ (a'.1 = false → a.1 = false ∧ d < 8 ∧ X.2.2.2.2.2 = (nI (d + 1), upd xm d y1, upd xd d y2, upd xl d y4, upd xi d y5) ∧ Y.1 = nI (d + 1) ∧ Y.2.2.2.2.2.2.2.2 = (upd ym d y1, upd yd d y2, upd yl d y4, upd yi d y5)) := by
  unfold bfX6_readDeed_144 bfX6_readDeed_168 at hX
  unfold bfX12_readsDeed_149 bfX12_readsDeed_208 bfX12_readsDeed_219 at hY
  obtain ⟨o1, e1, hX⟩ := cal_out hX
  obtain ⟨u1, f1, hY⟩ := cal_out hY
  obtain ⟨a1, k1, g1⟩ := q_step hn hT k e1 f1 h26 rfl
  by_cases ha : a.1 = false
  · rw [if_pos ((aQ_fk k).mpr ha)] at hX
    rw [if_pos (show u1.2.2.2.2.2.2 = 0 from (aQ_33 k1).mpr ((aQ_fk k1).mp ((aQ_fk k).mpr ha)))] at hY
    obtain ⟨r1, r2, r3, r4, r5, r6⟩ := hv ha
    subst r1 r2 r3 r4
    obtain ⟨o2, e2, hX⟩ := cal_out hX
    have e2 : o2 = (nI (d + 1), upd xm d v1, upd xd d v2, upd xl d v4, upd xi d v5) := by
      rw [e2]
      unfold fX0_addDeed bfX0_addDeed_55
      rw [if_neg (show ¬ (8 : Int32) ≤ nI d from nI_ge (b := 8) r6 (by omega)), nI_clamp (by omega), ← nI_succ]
    subst e2
    rw [h17, nI_clamp (by omega), ← nI_succ] at hY
    rcases r5 with r5 | r5
    · rw [if_pos r5] at hY
      subst hX hY r5
      exact ⟨a1, k1, fun _ => ⟨ha, r6, rfl, rfl, rfl⟩⟩
    · rw [if_neg (by rw [r5]; decide)] at hY
      subst hX hY r5
      exact ⟨a1, k1, fun _ => ⟨ha, r6, rfl, rfl, rfl⟩⟩
  · rw [if_neg (fun q => ha ((aQ_fk k).mp q))] at hX
    rw [if_neg (show ¬ u1.2.2.2.2.2.2 = 0 from fun q => ha (g1 ((aQ_33 k1).mp q)))] at hY
    subst hX hY
    exact ⟨a1, k1, fun q => absurd (g1 q) ha⟩
theorem ln_deed {L n d : Nat} {bt tp mi xm xd xl xi ym yd yl yi : Nat → Int32} {a : aS} {c : C5} {p : M7} (hn : n ≤ 1600) (hT : TR n bt tp) (h : aQ L n bt a c p) (hd : d ≤ 8) (h17 : mi 17 = nI d) (h0 : 2 ≤ (mi 0).toInt) (h0b : (mi 0).toInt ≤ 24) {X : Int32 × Int32 × Int32 × Int32 × Int32 × Int32 × (Nat → Int32) × (Nat → Int32) × (Nat → Int32) × (Nat → Int32)} (hX : X = fX6_readDeed c.1 c.2.1 c.2.2.1 c.2.2.2.1 c.2.2.2.2 (nI n) bt (mi 0) (nI d) xm xd xl xi) {Y : Int32 × Int32 × Int32 × Int32 × Int32 × Int32 × Int32 × Int32 × (Nat → Int32) × (Nat → Int32) × (Nat → Int32) × (Nat → Int32)} (hY : Y = fX12_readsDeed mi tp ym yd yl yi) (h26 : mi 26 = nI n) (hp : own7 mi = p) : ∃ a', aQ L n bt a' (X.1, X.2.1, X.2.2.1, X.2.2.2.1, X.2.2.2.2.1) (Y.2.1, Y.2.2.1, Y.2.2.2.1, Y.2.2.2.2.1, Y.2.2.2.2.2.1, Y.2.2.2.2.2.2.1, Y.2.2.2.2.2.2.2.1) ∧ (a'.1 = false → a.1 = false ∧ d < 8 ∧ ∃ y1 y2 y4 y5, (0 ≤ y1.toInt ∧ y1.toInt ≤ (mi 0).toInt - 1 ∧ 1 ≤ y2.toInt ∧ y2.toInt ≤ 30 ∧ 0 ≤ y4.toInt ∧ ((y5 = 0 ∧ y1.toInt + y4.toInt ≤ (mi 0).toInt - 1) ∨ (y5 = 1 ∧ y4.toInt ≤ 600))) ∧ X.2.2.2.2.2 = (nI (d + 1), upd xm d y1, upd xd d y2, upd xl d y4, upd xi d y5) ∧ Y.1 = nI (d + 1) ∧ Y.2.2.2.2.2.2.2.2 = (upd ym d y1, upd yd d y2, upd yl d y4, upd yi d y5)) := by
  have hX : X = bfX6_readDeed_18 c.1 c.2.1 c.2.2.1 c.2.2.2.1 c.2.2.2.2 (nI n) bt (mi 0) (nI d) xm xd xl xi (if (8 : Int32) ≤ nI d then 0 else 1) c.1 c.2.1 c.2.2.1 c.2.2.2.1 c.2.2.2.2 (nI d) xm xd xl xi := by
    rw [hX]
    unfold fX6_readDeed
    split
    · rfl
    · rfl
  obtain ⟨F, hF, hY⟩ : ∃ F : M7, F = (if decide (d < 8) = true then p else fp7 p 3) ∧ Y = bfX12_readsDeed_14 mi tp ym yd yl yi (mi 17) F.1 F.2.1 F.2.2.1 F.2.2.2.1 F.2.2.2.2.1 F.2.2.2.2.2.1 F.2.2.2.2.2.2 ym yd yl yi := by
    unfold fX12_readsDeed at hY
    refine ⟨_, rfl, ?_⟩
    rw [← hp]
    by_cases h4 : d < 8
    · rw [if_neg (show ¬ mi 17 = 8 from fun q => absurd (pz_ninj (b := 8) (by omega) (by omega) (h17.symm.trans q)) (by omega))] at hY
      rw [if_pos (decide_eq_true h4)]
      exact hY
    · rw [if_pos (show mi 17 = 8 by rw [h17, show d = 8 by omega]; rfl)] at hY
      rw [if_neg (fun q => h4 (of_decide_eq_true q))]
      obtain ⟨o1, e1, hY⟩ := cal_out hY
      rw [← faults_fp e1]
      exact hY
  unfold bfX6_readDeed_18 at hX
  obtain ⟨o1, e1, hX⟩ := cal_out hX
  obtain ⟨o2, e2, hX⟩ := cal_out hX
  obtain ⟨o3, e3, hX⟩ := cal_out hX
  obtain ⟨o4, e4, hX⟩ := cal_out hX
  obtain ⟨o5, e5, hX⟩ := cal_out hX
  obtain ⟨o6, e6, hX⟩ := cal_out hX
  obtain ⟨o7, e7, hX⟩ := cal_out hX
  obtain ⟨o8, e8, hX⟩ := cal_out hX
  unfold bfX12_readsDeed_14 at hY
  obtain ⟨u2, f2, hY⟩ := cal_out hY
  obtain ⟨u3, f3, hY⟩ := cal_out hY
  obtain ⟨u4, f4, hY⟩ := cal_out hY
  obtain ⟨u5, f5, hY⟩ := cal_out hY
  obtain ⟨u6, f6, hY⟩ := cal_out hY
  obtain ⟨u7, f7, hY⟩ := cal_out hY
  have k8 : (if (8 : Int32) ≤ nI d then (0 : Int32) else 1) = if decide (d < 8) = true then 1 else 0 := by
    by_cases h4 : d < 8
    · rw [if_neg (show ¬ (8 : Int32) ≤ nI d from nI_ge (b := 8) h4 (by omega)), if_pos (decide_eq_true h4)]
    · rw [if_pos (show (8 : Int32) ≤ nI d from nI_le (a := 8) (by omega) (by omega)), if_neg (fun q => h4 (of_decide_eq_true q))]
  have kone : (1 : Int32).toInt = 1 := by decide
  have km : (mi 0 - (1 : Int32)).toInt = (mi 0).toInt - 1 := by
    have q := gi_subI (z := mi 0 - (1 : Int32)) rfl (by rw [kone]; omega) (by rw [kone]; omega)
    rw [q, kone]
  obtain ⟨a1, k1, q1⟩ := q_head hn hT h (decide (d < 8)) k8 e1 hF f2 h26 rfl
  obtain ⟨a2, k2, q2⟩ := q_nb hn hT k1 e2 e3 f3 (by decide) 0 ((mi 0).toInt - 1) (by decide) km (by omega) (by omega) h26 rfl
  obtain ⟨a3, k3, q3⟩ := q_nb hn hT k2 e4 e5 f4 (by decide) 1 30 (by decide) (by decide) (by decide) (by decide) h26 rfl
  obtain ⟨a4, k4, q4⟩ := q_word hn hT k3 e6 f5 (by decide) h26 rfl
  obtain ⟨a5, k5, q5⟩ := q_numL hn hT k4 e7 f6 h26 rfl
  have fin : ∀ (a6 : aS) (c6 : C5) (p6 : M7) (v5 y5 : Int32), aQ L n bt a6 c6 p6 → X = bfX6_readDeed_144 c.1 c.2.1 c.2.2.1 c.2.2.2.1 c.2.2.2.2 (nI n) bt (mi 0) (nI d) xm xd xl xi o3.1 o5.1 o7.1 v5 c6.1 c6.2.1 c6.2.2.1 c6.2.2.2.1 c6.2.2.2.2 (nI d) xm xd xl xi → Y = bfX12_readsDeed_149 mi tp ym yd yl yi u3.1 u4.1 u6.1 y5 1 (mi 17) p6.1 p6.2.1 p6.2.2.1 p6.2.2.2.1 p6.2.2.2.2.1 p6.2.2.2.2.2.1 p6.2.2.2.2.2.2 ym yd yl yi → (a6.1 = false → a5.1 = false ∧ o7.1 = u6.1 ∧ v5 = y5 ∧ (y5 = 0 ∨ y5 = 1) ∧ (0 ≤ u6.1.toInt ∧ ((y5 = 0 ∧ u3.1.toInt + u6.1.toInt ≤ (mi 0).toInt - 1) ∨ (y5 = 1 ∧ u6.1.toInt ≤ 600)))) → ∃ a', aQ L n bt a' (X.1, X.2.1, X.2.2.1, X.2.2.2.1, X.2.2.2.2.1) (Y.2.1, Y.2.2.1, Y.2.2.2.1, Y.2.2.2.2.1, Y.2.2.2.2.2.1, Y.2.2.2.2.2.2.1, Y.2.2.2.2.2.2.2.1) ∧ (a'.1 = false → a.1 = false ∧ d < 8 ∧ ∃ y1 y2 y4 y5, (0 ≤ y1.toInt ∧ y1.toInt ≤ (mi 0).toInt - 1 ∧ 1 ≤ y2.toInt ∧ y2.toInt ≤ 30 ∧ 0 ≤ y4.toInt ∧ ((y5 = 0 ∧ y1.toInt + y4.toInt ≤ (mi 0).toInt - 1) ∨ (y5 = 1 ∧ y4.toInt ≤ 600))) ∧ X.2.2.2.2.2 = (nI (d + 1), upd xm d y1, upd xd d y2, upd xl d y4, upd xi d y5) ∧ Y.1 = nI (d + 1) ∧ Y.2.2.2.2.2.2.2.2 = (upd ym d y1, upd yd d y2, upd yl d y4, upd yi d y5)) := by
    intro a6 c6 p6 v5 y5 k6 hX6 hY6 hv
    obtain ⟨a', g1, g2⟩ := dd_end (y1 := u3.1) (y2 := u4.1) (y4 := u6.1) (y5 := y5) hn hT hd h17 k6 hX6 hY6 h26 (fun q => by
      obtain ⟨r5, w1, w2, w3, -⟩ := hv q
      obtain ⟨r4, -⟩ := q5 r5
      obtain ⟨r2, s3⟩ := q3 (q4 r4)
      obtain ⟨r1, s2⟩ := q2 r2
      exact ⟨s2.1, s3.1, w1, w2, w3, of_decide_eq_true (q1 r1).2⟩)
    refine ⟨a', g1, fun q => ?_⟩
    obtain ⟨w1, w2, w3⟩ := g2 q
    obtain ⟨r5, -, -, -, w9⟩ := hv w1
    obtain ⟨r2, s3⟩ := q3 (q4 (q5 r5).1)
    exact ⟨(q1 (q2 r2).1).1, w2, u3.1, u4.1, u6.1, y5, ⟨(q2 r2).2.2.1, (q2 r2).2.2.2, s3.2.1, s3.2.2, w9⟩, w3⟩
  have b122 : ∀ (y5 w27 w28 w29 w30 w31 w32 w33 : Int32), ¬ w33 = 0 → bfX12_readsDeed_122 mi tp ym yd yl yi u3.1 u4.1 u6.1 y5 (mi 17) w27 w28 w29 w30 w31 w32 w33 ym yd yl yi = bfX12_readsDeed_149 mi tp ym yd yl yi u3.1 u4.1 u6.1 y5 1 (mi 17) w27 w28 w29 w30 w31 w32 w33 ym yd yl yi := by
    intro y5 w27 w28 w29 w30 w31 w32 w33 hw
    unfold bfX12_readsDeed_122 bfX12_readsDeed_144
    rw [if_neg hw]
  by_cases ha : a5.1 = false
  · obtain ⟨s, rfl, g2, g3, g4, g5, g6, g7, l1, l2, l3, l4, l5, l6, l7⟩ := aQ_ok k5 ha
    obtain ⟨ha4, hmin, hpos⟩ := q5 ha
    obtain ⟨s4, -, -, -, -, -, t6, -, -, -, -, -, t5, -⟩ := aQ_ok k4 ha4
    have ev3 : o6.2.2.2.1 = u5.2.2.2.1 := t6.trans t5.symm
    obtain ⟨ra2, sb3⟩ := q3 (q4 ha4)
    obtain ⟨ra1, sb2⟩ := q2 ra2
    have hw4 := q_is (wi := 4) hn hT k5 ha (by decide) (show own7 (mu7 (upd mi 17 (mi 17)) u6.2) = u6.2 from rfl)
    have hw11 := q_is (wi := 11) hn hT k5 ha (by decide) (show own7 (mu7 (upd mi 17 (mi 17)) u6.2) = u6.2 from rfl)
    have e87 : o8 = u7 := e8.trans (hw4.1.trans f7.symm)
    have u71 : u7 = 0 ∨ u7 = 1 := by
      have f7a : u7 = if aIs bt n s (stL 4) = true then 1 else 0 := f7.trans hw4.2
      by_cases g9 : aIs bt n s (stL 4) = true
      · exact Or.inr (f7a.trans (if_pos g9))
      · exact Or.inl (f7a.trans (if_neg g9))
    have bnd : ∀ (s0 : Int32) (v5 : Int32), ((v5 = 0 ∧ s0.toInt = (mi 0).toInt - 1 - u3.1.toInt) ∨ (v5 = 1 ∧ s0.toInt = 600)) → s0.toInt ≤ 99999 → X = bfX6_readDeed_122 c.1 c.2.1 c.2.2.1 c.2.2.2.1 c.2.2.2.2 (nI n) bt (mi 0) (nI d) xm xd xl xi o3.1 o5.1 o6.2.2.2.1 o7.1 v5 s0 o7.2.1 o7.2.2.1 o7.2.2.2.1 o7.2.2.2.2.1 o7.2.2.2.2.2 (nI d) xm xd xl xi → Y = bfX12_readsDeed_113 mi tp ym yd yl yi u3.1 u4.1 u5.2.2.2.1 u6.1 v5 s0 u6.1 (mi 17) u6.2.1 u6.2.2.1 u6.2.2.2.1 u6.2.2.2.2.1 u6.2.2.2.2.2.1 u6.2.2.2.2.2.2.1 u6.2.2.2.2.2.2.2 ym yd yl yi → bfX12_readsDeed_122 mi tp ym yd yl yi u3.1 u4.1 u6.1 v5 (mi 17) u6.2.1 u6.2.2.1 u6.2.2.2.1 u6.2.2.2.2.1 u6.2.2.2.2.2.1 u6.2.2.2.2.2.2.1 u6.2.2.2.2.2.2.2 ym yd yl yi = bfX12_readsDeed_149 mi tp ym yd yl yi u3.1 u4.1 u6.1 v5 1 (mi 17) u6.2.1 u6.2.2.1 u6.2.2.2.1 u6.2.2.2.2.1 u6.2.2.2.2.2.1 u6.2.2.2.2.2.2.1 u6.2.2.2.2.2.2.2 ym yd yl yi → ∃ a', aQ L n bt a' (X.1, X.2.1, X.2.2.1, X.2.2.2.1, X.2.2.2.2.1) (Y.2.1, Y.2.2.1, Y.2.2.2.1, Y.2.2.2.2.1, Y.2.2.2.2.2.1, Y.2.2.2.2.2.2.1, Y.2.2.2.2.2.2.2.1) ∧ (a'.1 = false → a.1 = false ∧ d < 8 ∧ ∃ y1 y2 y4 y5, (0 ≤ y1.toInt ∧ y1.toInt ≤ (mi 0).toInt - 1 ∧ 1 ≤ y2.toInt ∧ y2.toInt ≤ 30 ∧ 0 ≤ y4.toInt ∧ ((y5 = 0 ∧ y1.toInt + y4.toInt ≤ (mi 0).toInt - 1) ∨ (y5 = 1 ∧ y4.toInt ≤ 600))) ∧ X.2.2.2.2.2 = (nI (d + 1), upd xm d y1, upd xd d y2, upd xl d y4, upd xi d y5) ∧ Y.1 = nI (d + 1) ∧ Y.2.2.2.2.2.2.2.2 = (upd ym d y1, upd yd d y2, upd yl d y4, upd yi d y5)) := by
      intro s0 v5 hv5 hs0 hX1 hY1 hgo
      unfold bfX6_readDeed_122 at hX1
      unfold bfX12_readsDeed_113 at hY1
      rw [if_pos g2] at hX1
      by_cases hle : u6.1 ≤ s0
      · have hle2 := Int32.le_iff_toInt_le.mp hle
        have e76 : o7.1 = u6.1 := Int32.toInt_inj.mp (by omega)
        rw [if_pos (by rw [e76]; exact hle)] at hX1
        rw [if_pos hle, hgo] at hY1
        exact fin _ _ _ v5 v5 k5 hX1 hY1 (fun _ => ⟨rfl, e76, rfl, hv5.elim (fun w => Or.inl w.1) (fun w => Or.inr w.1), by rw [← e76]; exact hpos, hv5.elim (fun w => Or.inl ⟨w.1, by have := w.2; omega⟩) (fun w => Or.inr ⟨w.1, by have := w.2; omega⟩)⟩)
      · have hle2 : ¬ u6.1.toInt ≤ s0.toInt := fun q => hle (Int32.le_iff_toInt_le.mpr q)
        rw [if_neg (fun q => hle2 (by have q2 := Int32.le_iff_toInt_le.mp q; omega))] at hX1
        rw [if_neg hle] at hY1
        obtain ⟨o11, e11, hX1⟩ := cal_out hX1
        obtain ⟨u11, f11, hY1⟩ := cal_out hY1
        have e11 : o11 = (2, o6.2.2.2.1) := by
          rw [e11]
          unfold fX6_blame bfX6_blame_17
          rw [if_pos g2]
        have f11 : u11 = (2, u5.2.2.2.1, 1) := by
          rw [f11, rx_faultsAt]
          exact if_pos l1
        subst e11 f11
        have hY1 := hY1.trans (b122 v5 _ _ _ _ _ _ _ (show ¬ (1 : Int32) = 0 by decide))
        rw [ev3] at hX1
        exact fin (aBad 2 u5.2.2.2.1) (2, u5.2.2.2.1, o7.2.2.2.1, o7.2.2.2.2.1, o7.2.2.2.2.2) (2, u5.2.2.2.1, u6.2.2.2.1, u6.2.2.2.2.1, u6.2.2.2.2.2.1, u6.2.2.2.2.2.2.1, 1) v5 v5 (aQ_bad (by decide)) hX1 hY1 (fun q => absurd q (by intro q; cases q))
    rw [if_pos l1] at hY
    have sub1 : ((mi 0 - (1 : Int32)) - u3.1).toInt = (mi 0).toInt - 1 - u3.1.toInt := by
      have q := gi_subI (z := mi 0 - (1 : Int32) - u3.1) rfl (by rw [km]; omega) (by rw [km]; omega)
      rw [q, km]
    have sub2 : ((mi 0 - (1 : Int32)) - u3.1).toInt ≤ 99999 := by
      rw [sub1]
      omega
    rcases u71 with u70 | u71
    · rw [if_pos (e87.trans u70)] at hX
      rw [if_pos u70] at hY
      obtain ⟨o9, e9, hX⟩ := cal_out hX
      obtain ⟨o10, e10, hX⟩ := cal_out hX
      obtain ⟨u8, f8, hY⟩ := cal_out hY
      have e98 : o9 = u8 := e9.trans (hw11.1.trans f8.symm)
      rw [e87, u70] at hX
      rw [u70] at hY
      unfold bfX6_readDeed_100 at hX
      rw [if_pos rfl] at hX
      by_cases g9 : aIs bt n s (stL 11) = true
      · have u81 : u8 = 1 := f8.trans (hw11.2.trans (if_pos g9))
        rw [e98, u81, exp_one] at e10
        subst e10
        rw [if_neg (by rw [u81]; decide)] at hY
        unfold bfX12_readsDeed_92 at hY
        rw [if_pos rfl] at hY
        rw [sb2.1] at hX
        rw [← sb2.1] at hX
        refine bnd ((mi 0 - 1) - u3.1) 0 (Or.inl ⟨rfl, sub1⟩) sub2 (by rw [sb2.1] at hX ⊢; exact hX) hY ?_
        unfold bfX12_readsDeed_122 bfX12_readsDeed_144
        rw [if_pos l1, if_pos rfl]
        have w1 : fX12_isWord (mu7 (upd mi 17 (mi 17)) u6.2) tp 11 = 1 := hw11.2.trans (if_pos g9)
        show cal _ (fX12_isWord (mu7 (upd mi 17 (mi 17)) u6.2) tp 11) = _
        rw [w1, cal_b]
        exact if_neg (by decide)
      · have u80 : u8 = 0 := f8.trans (hw11.2.trans (if_neg g9))
        rw [e98, u80, g2, exp_zero] at e10
        subst e10
        rw [if_pos u80] at hY
        unfold bfX6_readDeed_122 at hX
        rw [if_neg (show ¬ (1 : Int32) = 0 by decide)] at hX
        unfold bfX6_readDeed_144 bfX6_readDeed_168 at hX
        obtain ⟨o12, e12, hX⟩ := cal_out hX
        rw [if_neg (show ¬ (1 : Int32) = 0 by decide)] at hX
        unfold bfX12_readsDeed_122 at hY
        rw [if_pos l1, if_pos rfl] at hY
        obtain ⟨u9, f9, hY⟩ := cal_out hY
        rw [if_pos (f9.trans (hw11.2.trans (if_neg g9)))] at hY
        unfold bfX12_readsDeed_149 bfX12_readsDeed_219 at hY
        obtain ⟨u10, f10, hY⟩ := cal_out hY
        have h9 := rx_passes hn false (p1 := 0) (fun _ => rfl) (aQ_RR (mi := mu7 (upd mi 17 (mi 17)) u6.2) k5 hT h26 rfl)
        rw [tr_step hT] at h9
        have h9 : aR7 (fun j => (bt j).toInt) n (aBad 1 (nI s)) u10 := by
          rw [f10]
          exact ((tr_RR hT _ _).mp h9).2
        have k10 : aQ L n bt (aBad 1 (nI s)) (1, nI s, o12.1, o12.2.1, o12.2.2) u10 := ⟨aRC_bad (by decide), h9, aB_bad rfl⟩
        rw [if_neg (fun q => absurd ((aQ_33 k10).mp q) (by intro q; cases q))] at hY
        rw [g6] at hX
        subst hX hY
        exact ⟨_, k10, fun q => absurd q (by intro q; cases q)⟩
    · rw [if_neg (by rw [e87, u71]; decide)] at hX
      rw [if_neg (by rw [u71]; decide)] at hY
      rw [e87, u71] at hX
      rw [u71] at hY
      unfold bfX6_readDeed_100 at hX
      rw [if_neg (by decide)] at hX
      unfold bfX12_readsDeed_92 at hY
      rw [if_neg (by decide)] at hY
      refine bnd 600 1 (Or.inr ⟨rfl, by decide⟩) (by decide) hX hY ?_
      unfold bfX12_readsDeed_122 bfX12_readsDeed_144
      rw [if_pos l1, if_neg (by decide)]
  · have hb : ¬ o7.2.1 = 0 := fun q => ha ((aQ_fk k5).mp q)
    have hb3 : ¬ u6.2.2.2.2.2.2.2 = 0 := fun q => ha ((aQ_33 k5).mp q)
    rw [if_neg hb3, b122 _ _ _ _ _ _ _ _ hb3] at hY
    obtain ⟨v5, hX⟩ : ∃ v5, X = bfX6_readDeed_144 c.1 c.2.1 c.2.2.1 c.2.2.2.1 c.2.2.2.2 (nI n) bt (mi 0) (nI d) xm xd xl xi o3.1 o5.1 o7.1 v5 o7.2.1 o7.2.2.1 o7.2.2.2.1 o7.2.2.2.2.1 o7.2.2.2.2.2 (nI d) xm xd xl xi := by
      refine ⟨o8, ?_⟩
      by_cases h8 : o8 = 0
      · rw [if_pos h8] at hX
        obtain ⟨o9, e9, hX⟩ := cal_out hX
        obtain ⟨o10, e10, hX⟩ := cal_out hX
        rw [exp_bad hb] at e10
        subst e10
        unfold bfX6_readDeed_100 bfX6_readDeed_122 at hX
        rw [if_pos h8, if_neg hb] at hX
        exact hX
      · rw [if_neg h8] at hX
        unfold bfX6_readDeed_100 bfX6_readDeed_122 at hX
        rw [if_neg h8, if_neg hb] at hX
        exact hX
    exact fin a5 o7.2 u6.2 v5 u7 k5 hX hY (fun q => absurd q ha)
def DRg (m0 m3 : Int32) (nm xt xk xm xa xb xl xi : Nat → Int32) (m r d : Nat) : Prop :=
  (m3 = 0 → r = 0 ∧ d = 0) ∧ (∀ p, p < m → 0 ≤ (xt p).toInt ∧ (xt p).toInt ≤ 9) ∧ (∀ p q, p < m → q < m → nm p = nm q → p = q) ∧ (∀ j, j < r → (xk j = 0 ∨ xk j = 1 ∨ xk j = 2) ∧ 1 ≤ (xm j).toInt ∧ (xm j).toInt ≤ m0.toInt - 1) ∧ ∀ j, j < d → 0 ≤ (xa j).toInt ∧ (xa j).toInt ≤ m0.toInt - 1 ∧ 1 ≤ (xb j).toInt ∧ (xb j).toInt ≤ 30 ∧ 0 ≤ (xl j).toInt ∧ ((xi j = 0 ∧ (xa j).toInt + (xl j).toInt ≤ m0.toInt - 1) ∨ (xi j = 1 ∧ (xl j).toInt ≤ 600))
theorem drg_head {m0 m0' m3 : Int32} {nm xt xk xm xa xb xl xi : Nat → Int32} {m r d : Nat} (h : DRg m0 m3 nm xt xk xm xa xb xl xi m r d) (h3 : m3 = 0) : DRg m0' m3 nm xt xk xm xa xb xl xi m r d := by
  obtain ⟨h1, h2, h4, _, _⟩ := h
  obtain ⟨e1, e2⟩ := h1 h3
  subst e1 e2
  exact ⟨fun _ => ⟨rfl, rfl⟩, h2, h4, fun j hj => absurd hj (by omega), fun j hj => absurd hj (by omega)⟩
theorem drg_line {m0 m3 m3' : Int32} {nm xt xk xm xa xb xl xi : Nat → Int32} {m r d : Nat} (h : DRg m0 m3 nm xt xk xm xa xb xl xi m r d) (h3 : ¬ m3' = 0) : DRg m0 m3' nm xt xk xm xa xb xl xi m r d := ⟨fun q => absurd q h3, h.2⟩
theorem drg_report {m0 m3 kd v : Int32} {nm xt xk xm xa xb xl xi : Nat → Int32} {m r d : Nat} (h : DRg m0 m3 nm xt xk xm xa xb xl xi m r d) (h3 : ¬ m3 = 0) (hk : kd = 0 ∨ kd = 1 ∨ kd = 2) (hv : 1 ≤ v.toInt ∧ v.toInt ≤ m0.toInt - 1) : DRg m0 m3 nm xt (upd xk r kd) (upd xm r v) xa xb xl xi m (r + 1) d := by
  obtain ⟨_, h2, h4, h5, h6⟩ := h
  refine ⟨fun q => absurd q h3, h2, h4, fun j hj => ?_, h6⟩
  by_cases e : j = r
  · rw [show upd xk r kd j = kd from if_pos e, show upd xm r v j = v from if_pos e]
    exact ⟨hk, hv⟩
  · rw [show upd xk r kd j = xk j from if_neg e, show upd xm r v j = xm j from if_neg e]
    exact h5 j (by omega)
theorem drg_place {m0 m3 w cd : Int32} {nm xt xk xm xa xb xl xi : Nat → Int32} {m r d : Nat} (h : DRg m0 m3 nm xt xk xm xa xb xl xi m r d) (hw : 0 ≤ w.toInt ∧ w.toInt ≤ 9) (hc : ∀ p, p < m → ¬ nm p = cd) : DRg m0 m3 (upd nm m cd) (upd xt m w) xk xm xa xb xl xi (m + 1) r d := by
  obtain ⟨h1, h2, h4, h5, h6⟩ := h
  refine ⟨h1, fun p hp => ?_, fun p q hp hq he => ?_, h5, h6⟩
  · by_cases e : p = m
    · rw [show upd xt m w p = w from if_pos e]
      exact hw
    · rw [show upd xt m w p = xt p from if_neg e]
      exact h2 p (by omega)
  · by_cases e1 : p = m
    · by_cases e2 : q = m
      · omega
      · rw [show upd nm m cd p = cd from if_pos e1, show upd nm m cd q = nm q from if_neg e2] at he
        exact absurd he.symm (hc q (by omega))
    · by_cases e2 : q = m
      · rw [show upd nm m cd q = cd from if_pos e2, show upd nm m cd p = nm p from if_neg e1] at he
        exact absurd he (hc p (by omega))
      · rw [show upd nm m cd p = nm p from if_neg e1, show upd nm m cd q = nm q from if_neg e2] at he
        exact h4 p q (by omega) (by omega) he
theorem drg_deed {m0 m3 y1 y2 y4 y5 : Int32} {nm xt xk xm xa xb xl xi : Nat → Int32} {m r d : Nat} (h : DRg m0 m3 nm xt xk xm xa xb xl xi m r d) (h3 : ¬ m3 = 0) (hy : 0 ≤ y1.toInt ∧ y1.toInt ≤ m0.toInt - 1 ∧ 1 ≤ y2.toInt ∧ y2.toInt ≤ 30 ∧ 0 ≤ y4.toInt ∧ ((y5 = 0 ∧ y1.toInt + y4.toInt ≤ m0.toInt - 1) ∨ (y5 = 1 ∧ y4.toInt ≤ 600))) : DRg m0 m3 nm xt xk xm (upd xa d y1) (upd xb d y2) (upd xl d y4) (upd xi d y5) m r (d + 1) := by
  obtain ⟨_, h2, h4, h5, h6⟩ := h
  refine ⟨fun q => absurd q h3, h2, h4, h5, fun j hj => ?_⟩
  by_cases e : j = d
  · rw [show upd xa d y1 j = y1 from if_pos e, show upd xb d y2 j = y2 from if_pos e, show upd xl d y4 j = y4 from if_pos e, show upd xi d y5 j = y5 from if_pos e]
    exact hy
  · rw [show upd xa d y1 j = xa j from if_neg e, show upd xb d y2 j = xb j from if_neg e, show upd xl d y4 j = xl j from if_neg e, show upd xi d y5 j = xi j from if_neg e]
    exact h6 j (by omega)
def DCor (L : Nat) (mo fu le li hm ms mp pc rc dc : Int32) (nm xt xp xk xm xd xn xs xa xb xl xi : Nat → Int32) (m0 m1 m2 m3 m4 m5 m6 m7 m10 m17 : Int32) (lt yt yp yk ym yd yn ys ya yb yl yi : Nat → Int32) : Prop :=
  (mo = m0 ∧ fu = m1 ∧ le = m2 ∧ li = m3 ∧ hm = m4 ∧ ms = m5 ∧ mp = m6) ∧
  (∃ m r d : Nat, m ≤ 6 ∧ r ≤ 24 ∧ d ≤ 8 ∧ pc = nI m ∧ m7 = nI m ∧ rc = nI r ∧ m10 = nI r ∧ dc = nI d ∧ m17 = nI d ∧ NM m nm lt ∧ (∀ j, j < m → xt j = yt j) ∧ (∀ j, j < r → (xp j = yp j ∧ xk j = yk j ∧ xm j = ym j ∧ xd j = yd j ∧ xn j = yn j ∧ xs j = ys j) ∧ ∃ q, q < m ∧ xp j = nI q) ∧ (∀ j, j < d → xa j = ya j ∧ xb j = yb j ∧ xl j = yl j ∧ xi j = yi j) ∧ DRg m0 m3 nm xt xk xm xa xb xl xi m r d) ∧
  (0 ≤ m3.toInt ∧ m3.toInt ≤ L)
def DRel (L : Nat) (mo fu le li hm ms mp pc rc dc : Int32) (nm xt xp xk xm xd xn xs xa xb xl xi : Nat → Int32) (m0 m1 m2 m3 m4 m5 m6 m7 m10 m17 : Int32) (lt yt yp yk ym yd yn ys ya yb yl yi : Nat → Int32) : Prop :=
  DCor L mo fu le li hm ms mp pc rc dc nm xt xp xk xm xd xn xs xa xb xl xi m0 m1 m2 m3 m4 m5 m6 m7 m10 m17 lt yt yp yk ym yd yn ys ya yb yl yi ∧ (¬ m3 = 0 → 2 ≤ m0.toInt ∧ m0.toInt ≤ 24) ∧ (m3 = 0 → m0 = 0)
theorem upd_eqs {f g : Nat → Int32} {r : Nat} (v : Int32) (h : ∀ j, j < r → f j = g j) : ∀ j, j < r + 1 → upd f r v j = upd g r v j := by
  intro j hj
  by_cases h1 : j = r
  · rw [show upd f r v j = v from if_pos h1, show upd g r v j = v from if_pos h1]
  · rw [show upd f r v j = f j from if_neg h1, show upd g r v j = g j from if_neg h1]
    exact h j (by omega)
theorem q_sign {L n : Nat} {bt tp mi : Nat → Int32} {a : aS} {c : C5} {p : M7} {s0 : Int32} (hn : n ≤ 1600) (hT : TR n bt tp) (h : aQ L n bt a c p) {o : C5} (ho : o = fX6_passSign c.1 c.2.1 c.2.2.1 c.2.2.2.1 c.2.2.2.2 (nI n) bt) {u : M7} (hu : u = fX12_passes mi tp s0) (hs : a.1 = false → s0 = if p.2.2.2.2.1 = 3 then 1 else 0) (h26 : mi 26 = nI n) (hp : own7 mi = p) : ∃ a', aQ (L + 1) n bt a' o u ∧ (a'.1 = false → a.1 = false ∧ L ≤ n) := by
  subst ho hu
  have h1 := rx_passes hn (decide ((ptok (fun j => (tp j).toInt) n a.2.2.2).1 = 4)) (p1 := s0) (fun ha => by
    obtain ⟨s, rfl, g2, g3, g4, g5, g6, g7, l1, l2, l3, l4, l5, l6, l7⟩ := aQ_ok h ha
    have hk := ptok_kind (fun j => (bt j).toInt) n s
    rw [hs ha, l6, tr_tok hT]
    show (if nI (pkind (ptok (fun j => (bt j).toInt) n s).1) = 3 then (1 : Int32) else 0) = if decide ((ptok (fun j => (bt j).toInt) n s).1 = 4) = true then 1 else 0
    by_cases h5 : (ptok (fun j => (bt j).toInt) n s).1 = 4
    · rw [if_pos (by rw [h5]; rfl), if_pos (decide_eq_true h5)]
    · have h6 : ¬ pkind (ptok (fun j => (bt j).toInt) n s).1 = 3 := by
        unfold pkind
        rcases (show (ptok (fun j => (bt j).toInt) n s).1 = 0 ∨ (ptok (fun j => (bt j).toInt) n s).1 = 1 ∨ (ptok (fun j => (bt j).toInt) n s).1 = 2 ∨ (ptok (fun j => (bt j).toInt) n s).1 = 3 by omega) with q3 | q3 | q3 | q3 <;> rw [q3] <;> decide
      have h7 := pkind_le hk
      rw [if_neg (fun (q : nI (pkind (ptok (fun j => (bt j).toInt) n s).1) = (3 : Int32)) => h6 (pz_ninj (b := 3) (by omega) (by omega) q)), if_neg (fun q => h5 (of_decide_eq_true q))]) (aQ_RR h hT h26 hp)
  rw [tr_step hT, tr_tok hT] at h1
  refine ⟨_, aQ_of hT (cx_sign hn h.1) h1 ?_, fun q => ?_⟩
  · intro q
    have q1 := aExp_okb (aStep_ok q)
    have q2 := h.2.2 q1.1
    have e : aStep (fun j => (bt j).toInt) n (aExp (decide ((ptok (fun j => (bt j).toInt) n a.2.2.2).1 = 4)) 1 a) = aOk (aNext (fun j => (bt j).toInt) n a.2.2.2) := by
      have e1 : aExp (decide ((ptok (fun j => (bt j).toInt) n a.2.2.2).1 = 4)) 1 a = a := by
        unfold aExp
        rw [if_neg (by rw [q1.1]; decide), if_pos q1.2]
      rw [e1]
      exact if_neg (by rw [q1.1]; decide)
    rw [e]
    have q3 := of_decide_eq_true q1.2
    show L + 1 ≤ aNext (fun j => (bt j).toInt) n a.2.2.2 ∧ aNext (fun j => (bt j).toInt) n a.2.2.2 ≤ n
    refine ⟨?_, aNext_le _ q2.2⟩
    have q4 : a.2.2.2 + 1 ≤ (ptok (fun j => (bt j).toInt) n a.2.2.2).2 := by
      unfold ptok at q3 ⊢
      by_cases w1 : a.2.2.2 < n
      · rw [if_pos w1] at q3 ⊢
        by_cases w2 : cL (bt a.2.2.2).toInt = true
        · rw [if_pos w2] at q3
          exact absurd q3 (by intro q; cases q)
        · rw [if_neg w2] at q3 ⊢
          by_cases w3 : cD (bt a.2.2.2).toInt = true
          · rw [if_pos w3] at q3
            exact absurd q3 (by intro q; cases q)
          · rw [if_neg w3] at q3 ⊢
            split
            · exact Nat.le_refl _
            · exact Nat.le_refl _
      · rw [if_neg w1] at q3
        exact absurd q3 (by intro q; cases q)
    have q5 := prun_le (fun j => cB (bt j).toInt) (n - (ptok (fun j => (bt j).toInt) n a.2.2.2).2) (ptok (fun j => (bt j).toInt) n a.2.2.2).2
    show L + 1 ≤ prun (fun j => cB (bt j).toInt) (n - (ptok (fun j => (bt j).toInt) n a.2.2.2).2) (ptok (fun j => (bt j).toInt) n a.2.2.2).2
    omega
  · have q1 := aExp_okb (aStep_ok q)
    have q2 := h.2.2 q1.1
    exact ⟨q1.1, by omega⟩
theorem line_end {L n : Nat} {bt tp mi : Nat → Int32} {a : aS} {c : C5} {p : M7} {k1 k2 k3 k4 k5 f0 f1 f2 f3 f4 f5 f6 f7 f8 f9 mo fu le li hm ms mp pc rc dc m0 m1 m2 m3 m4 m5 m6 m7 m10 m17 : Int32} {g0 g1 g2 g3 g4 g5 g6 g7 g8 g9 g10 g11 y0 y1 y2 y3 y4 y5 y6 y7 y8 y9 y10 y11 nm xt xp xk xm xd xn xs xa xb xl xi lt yt yp yk ym yd yn ys ya yb yl yi : Nat → Int32} (hn : n ≤ 1600) (hT : TR n bt tp) (k : aQ L n bt a c p) {X : Int32 × Int32 × Int32 × Int32 × Int32 × Int32 × Int32 × Int32 × Int32 × Int32 × Int32 × Int32 × Int32 × Int32 × Int32 × (Nat → Int32) × (Nat → Int32) × (Nat → Int32) × (Nat → Int32) × (Nat → Int32) × (Nat → Int32) × (Nat → Int32) × (Nat → Int32) × (Nat → Int32) × (Nat → Int32) × (Nat → Int32) × (Nat → Int32)} (hX : X = bfX6_readLine_125 k1 k2 k3 k4 k5 (nI n) bt f0 f1 f2 f3 f4 f5 f6 f7 f8 f9 g0 g1 g2 g3 g4 g5 g6 g7 g8 g9 g10 g11 c.1 c.2.1 c.2.2.1 c.2.2.2.1 c.2.2.2.2 mo fu le li hm ms mp pc rc dc nm xt xp xk xm xd xn xs xa xb xl xi) {Y : Int32 × Int32 × Int32 × Int32 × Int32 × Int32 × Int32 × Int32 × Int32 × Int32 × Int32 × Int32 × Int32 × Int32 × Int32 × Int32 × Int32 × (Nat → Int32) × (Nat → Int32) × (Nat → Int32) × (Nat → Int32) × (Nat → Int32) × (Nat → Int32) × (Nat → Int32) × (Nat → Int32) × (Nat → Int32) × (Nat → Int32) × (Nat → Int32) × (Nat → Int32)} (hY : Y = bfX12_readsLine_136 mi tp y0 y1 y2 y3 y4 y5 y6 y7 y8 y9 y10 y11 m0 m1 m2 m3 m4 m5 m6 m7 m10 m17 p.1 p.2.1 p.2.2.1 p.2.2.2.1 p.2.2.2.2.1 p.2.2.2.2.2.1 p.2.2.2.2.2.2 lt yt yp yk ym yd yn ys ya yb yl yi) (h26 : mi 26 = nI n) (hD : a.1 = false → DCor L mo fu le li hm ms mp pc rc dc nm xt xp xk xm xd xn xs xa xb xl xi m0 m1 m2 m3 m4 m5 m6 m7 m10 m17 lt yt yp yk ym yd yn ys ya yb yl yi ∧ 2 ≤ m0.toInt ∧ m0.toInt ≤ 24) : ∃ a', aQ (L + 1) n bt a' (X.1, X.2.1, X.2.2.1, X.2.2.2.1, X.2.2.2.2.1) (Y.2.2.2.2.2.2.2.2.2.2.1, Y.2.2.2.2.2.2.2.2.2.2.2.1, Y.2.2.2.2.2.2.2.2.2.2.2.2.1, Y.2.2.2.2.2.2.2.2.2.2.2.2.2.1, Y.2.2.2.2.2.2.2.2.2.2.2.2.2.2.1, Y.2.2.2.2.2.2.2.2.2.2.2.2.2.2.2.1, Y.2.2.2.2.2.2.2.2.2.2.2.2.2.2.2.2.1) ∧ (a'.1 = false → DRel (L + 1) X.2.2.2.2.2.1 X.2.2.2.2.2.2.1 X.2.2.2.2.2.2.2.1 X.2.2.2.2.2.2.2.2.1 X.2.2.2.2.2.2.2.2.2.1 X.2.2.2.2.2.2.2.2.2.2.1 X.2.2.2.2.2.2.2.2.2.2.2.1 X.2.2.2.2.2.2.2.2.2.2.2.2.1 X.2.2.2.2.2.2.2.2.2.2.2.2.2.1 X.2.2.2.2.2.2.2.2.2.2.2.2.2.2.1 X.2.2.2.2.2.2.2.2.2.2.2.2.2.2.2.1 X.2.2.2.2.2.2.2.2.2.2.2.2.2.2.2.2.1 X.2.2.2.2.2.2.2.2.2.2.2.2.2.2.2.2.2.1 X.2.2.2.2.2.2.2.2.2.2.2.2.2.2.2.2.2.2.1 X.2.2.2.2.2.2.2.2.2.2.2.2.2.2.2.2.2.2.2.1 X.2.2.2.2.2.2.2.2.2.2.2.2.2.2.2.2.2.2.2.2.1 X.2.2.2.2.2.2.2.2.2.2.2.2.2.2.2.2.2.2.2.2.2.1 X.2.2.2.2.2.2.2.2.2.2.2.2.2.2.2.2.2.2.2.2.2.2.1 X.2.2.2.2.2.2.2.2.2.2.2.2.2.2.2.2.2.2.2.2.2.2.2.1 X.2.2.2.2.2.2.2.2.2.2.2.2.2.2.2.2.2.2.2.2.2.2.2.2.1 X.2.2.2.2.2.2.2.2.2.2.2.2.2.2.2.2.2.2.2.2.2.2.2.2.2.1 X.2.2.2.2.2.2.2.2.2.2.2.2.2.2.2.2.2.2.2.2.2.2.2.2.2.2 Y.1 Y.2.1 Y.2.2.1 Y.2.2.2.1 Y.2.2.2.2.1 Y.2.2.2.2.2.1 Y.2.2.2.2.2.2.1 Y.2.2.2.2.2.2.2.1 Y.2.2.2.2.2.2.2.2.1 Y.2.2.2.2.2.2.2.2.2.1 Y.2.2.2.2.2.2.2.2.2.2.2.2.2.2.2.2.2.1 Y.2.2.2.2.2.2.2.2.2.2.2.2.2.2.2.2.2.2.1 Y.2.2.2.2.2.2.2.2.2.2.2.2.2.2.2.2.2.2.2.1 Y.2.2.2.2.2.2.2.2.2.2.2.2.2.2.2.2.2.2.2.2.1 Y.2.2.2.2.2.2.2.2.2.2.2.2.2.2.2.2.2.2.2.2.2.1 Y.2.2.2.2.2.2.2.2.2.2.2.2.2.2.2.2.2.2.2.2.2.2.1 Y.2.2.2.2.2.2.2.2.2.2.2.2.2.2.2.2.2.2.2.2.2.2.2.1 Y.2.2.2.2.2.2.2.2.2.2.2.2.2.2.2.2.2.2.2.2.2.2.2.2.1 Y.2.2.2.2.2.2.2.2.2.2.2.2.2.2.2.2.2.2.2.2.2.2.2.2.2.1 Y.2.2.2.2.2.2.2.2.2.2.2.2.2.2.2.2.2.2.2.2.2.2.2.2.2.2.1 Y.2.2.2.2.2.2.2.2.2.2.2.2.2.2.2.2.2.2.2.2.2.2.2.2.2.2.2.1 Y.2.2.2.2.2.2.2.2.2.2.2.2.2.2.2.2.2.2.2.2.2.2.2.2.2.2.2.2) := by
  unfold bfX6_readLine_125 bfX6_readLine_149 at hX
  obtain ⟨o1, e1, hX⟩ := cal_out hX
  obtain ⟨s0, hs0, hY⟩ : ∃ s0 : Int32, (a.1 = false → s0 = if p.2.2.2.2.1 = 3 then 1 else 0) ∧ Y = bfX12_readsLine_157 mi tp y0 y1 y2 y3 y4 y5 y6 y7 y8 y9 y10 y11 s0 m0 m1 m2 m3 m4 m5 m6 m7 m10 m17 p.1 p.2.1 p.2.2.1 p.2.2.2.1 p.2.2.2.2.1 p.2.2.2.2.2.1 p.2.2.2.2.2.2 lt yt yp yk ym yd yn ys ya yb yl yi := by
    unfold bfX12_readsLine_136 bfX12_readsLine_152 at hY
    by_cases ha : a.1 = false
    · rw [if_pos ((aQ_33 k).mpr ha)] at hY
      by_cases h3 : p.2.2.2.2.1 = 3
      · rw [if_pos h3] at hY
        exact ⟨1, fun _ => (if_pos h3).symm, hY⟩
      · rw [if_neg h3] at hY
        exact ⟨0, fun _ => (if_neg h3).symm, hY⟩
    · rw [if_neg (fun q => ha ((aQ_33 k).mp q))] at hY
      exact ⟨1, fun q => absurd q ha, hY⟩
  unfold bfX12_readsLine_157 at hY
  obtain ⟨u1, w1, hY⟩ := cal_out hY
  obtain ⟨a1, kk, q1⟩ := q_sign hn hT k e1 w1 hs0 h26 rfl
  subst hY
  refine ⟨a1, ?_, fun q => ?_⟩
  · split at hX
    · subst hX
      exact kk
    · subst hX
      exact kk
  · rw [if_pos ((aQ_fk kk).mpr q)] at hX
    subst hX
    obtain ⟨⟨⟨r1, r2, r3, r4, r5, r6, r7⟩, ⟨m_, r_, d_, b1, b2, b3, b4, b5, b6, b7, b8, b9, b10, b11, b12, b13, hRg⟩, r8, r9⟩, r12, r13⟩ := hD (q1 q).1
    have r14 := (q1 q).2
    have z1 := pz_add1 (a := m3) (by omega)
    have hz3 : ¬ m3 + 1 = 0 := by
      intro q9
      have z0 : (0 : Int32).toInt = 0 := by decide
      rw [q9, z0] at z1
      omega
    refine ⟨⟨⟨r1, r2, r3, by show li + 1 = m3 + 1; rw [r4], r5, r6, r7⟩, ⟨m_, r_, d_, b1, b2, b3, b4, b5, b6, b7, b8, b9, b10, b11, b12, b13, drg_line hRg hz3⟩, ?_, ?_⟩, ?_, ?_⟩
    · show 0 ≤ (m3 + 1).toInt
      omega
    · show (m3 + 1).toInt ≤ _
      omega
    · intro _
      exact ⟨r12, r13⟩
    · intro q9
      have q9 : m3 + 1 = 0 := q9
      have z0 : (0 : Int32).toInt = 0 := by decide
      rw [q9, z0] at z1
      omega
theorem chain17 (mi : Nat → Int32) : (upd (upd (upd (upd (upd (upd (upd (upd (upd (upd (upd (upd (upd (upd (upd (upd (upd mi 0 (mi 0)) 1 (mi 1)) 2 (mi 2)) 3 (mi 3)) 4 (mi 4)) 5 (mi 5)) 6 (mi 6)) 7 (mi 7)) 10 (mi 10)) 17 (mi 17)) 27 (mi 27)) 28 (mi 28)) 29 (mi 29)) 30 (mi 30)) 31 (mi 31)) 32 (mi 32)) 33 (mi 33)) = mi := by simp only [upd_self]
theorem b108 {mi tp lt yt yp yk ym yd yn ys ya yb yl yi : Nat → Int32} (kd : Int32) : bfX12_readsLine_108 mi tp lt yt yp yk ym yd yn ys ya yb yl yi kd (mi 0) (mi 1) (mi 2) (mi 3) (mi 4) (mi 5) (mi 6) (mi 7) (mi 10) (mi 17) (mi 27) (mi 28) (mi 29) (mi 30) (mi 31) (mi 32) (mi 33) lt yt yp yk ym yd yn ys ya yb yl yi = cal (fun o14 => bfX12_readsLine_136 mi tp lt yt yp yk ym yd yn ys ya yb yl yi (mi 0) (mi 1) (mi 2) (mi 3) (mi 4) (mi 5) (mi 6) (mi 7) o14.1 (mi 17) o14.2.1 o14.2.2.1 o14.2.2.2.1 o14.2.2.2.2.1 o14.2.2.2.2.2.1 o14.2.2.2.2.2.2.1 o14.2.2.2.2.2.2.2.1 lt yt o14.2.2.2.2.2.2.2.2.1 o14.2.2.2.2.2.2.2.2.2.1 o14.2.2.2.2.2.2.2.2.2.2.1 o14.2.2.2.2.2.2.2.2.2.2.2.1 o14.2.2.2.2.2.2.2.2.2.2.2.2.1 o14.2.2.2.2.2.2.2.2.2.2.2.2.2 ya yb yl yi) (fX12_readsReport mi tp lt yp yk ym yd yn ys kd) := by
  unfold bfX12_readsLine_108
  rw [chain17]
set_option maxRecDepth 100000 in
theorem ln_line {L n : Nat} {bt tp mi nm xt xp xk xm xd xn xs xa xb xl xi lt yt yp yk ym yd yn ys ya yb yl yi : Nat → Int32} {c : C5} {p : M7} {mo fu le li hm ms mp pc rc dc : Int32} (hn : n ≤ 1600) (hT : TR n bt tp) (h : aQ L n bt (aOk L) c p) (hD : DRel L mo fu le li hm ms mp pc rc dc nm xt xp xk xm xd xn xs xa xb xl xi (mi 0) (mi 1) (mi 2) (mi 3) (mi 4) (mi 5) (mi 6) (mi 7) (mi 10) (mi 17) lt yt yp yk ym yd yn ys ya yb yl yi) {X : Int32 × Int32 × Int32 × Int32 × Int32 × Int32 × Int32 × Int32 × Int32 × Int32 × Int32 × Int32 × Int32 × Int32 × Int32 × (Nat → Int32) × (Nat → Int32) × (Nat → Int32) × (Nat → Int32) × (Nat → Int32) × (Nat → Int32) × (Nat → Int32) × (Nat → Int32) × (Nat → Int32) × (Nat → Int32) × (Nat → Int32) × (Nat → Int32)} (hX : X = fX6_readLine c.1 c.2.1 c.2.2.1 c.2.2.2.1 c.2.2.2.2 (nI n) bt mo fu le li hm ms mp pc rc dc nm xt xp xk xm xd xn xs xa xb xl xi) {Y : Int32 × Int32 × Int32 × Int32 × Int32 × Int32 × Int32 × Int32 × Int32 × Int32 × Int32 × Int32 × Int32 × Int32 × Int32 × Int32 × Int32 × (Nat → Int32) × (Nat → Int32) × (Nat → Int32) × (Nat → Int32) × (Nat → Int32) × (Nat → Int32) × (Nat → Int32) × (Nat → Int32) × (Nat → Int32) × (Nat → Int32) × (Nat → Int32) × (Nat → Int32)} (hY : Y = fX12_readsLine mi tp lt yt yp yk ym yd yn ys ya yb yl yi) (h26 : mi 26 = nI n) (hp : own7 mi = p) : ∃ a', aQ (L + 1) n bt a' (X.1, X.2.1, X.2.2.1, X.2.2.2.1, X.2.2.2.2.1) (Y.2.2.2.2.2.2.2.2.2.2.1, Y.2.2.2.2.2.2.2.2.2.2.2.1, Y.2.2.2.2.2.2.2.2.2.2.2.2.1, Y.2.2.2.2.2.2.2.2.2.2.2.2.2.1, Y.2.2.2.2.2.2.2.2.2.2.2.2.2.2.1, Y.2.2.2.2.2.2.2.2.2.2.2.2.2.2.2.1, Y.2.2.2.2.2.2.2.2.2.2.2.2.2.2.2.2.1) ∧ (a'.1 = false → DRel (L + 1) X.2.2.2.2.2.1 X.2.2.2.2.2.2.1 X.2.2.2.2.2.2.2.1 X.2.2.2.2.2.2.2.2.1 X.2.2.2.2.2.2.2.2.2.1 X.2.2.2.2.2.2.2.2.2.2.1 X.2.2.2.2.2.2.2.2.2.2.2.1 X.2.2.2.2.2.2.2.2.2.2.2.2.1 X.2.2.2.2.2.2.2.2.2.2.2.2.2.1 X.2.2.2.2.2.2.2.2.2.2.2.2.2.2.1 X.2.2.2.2.2.2.2.2.2.2.2.2.2.2.2.1 X.2.2.2.2.2.2.2.2.2.2.2.2.2.2.2.2.1 X.2.2.2.2.2.2.2.2.2.2.2.2.2.2.2.2.2.1 X.2.2.2.2.2.2.2.2.2.2.2.2.2.2.2.2.2.2.1 X.2.2.2.2.2.2.2.2.2.2.2.2.2.2.2.2.2.2.2.1 X.2.2.2.2.2.2.2.2.2.2.2.2.2.2.2.2.2.2.2.2.1 X.2.2.2.2.2.2.2.2.2.2.2.2.2.2.2.2.2.2.2.2.2.1 X.2.2.2.2.2.2.2.2.2.2.2.2.2.2.2.2.2.2.2.2.2.2.1 X.2.2.2.2.2.2.2.2.2.2.2.2.2.2.2.2.2.2.2.2.2.2.2.1 X.2.2.2.2.2.2.2.2.2.2.2.2.2.2.2.2.2.2.2.2.2.2.2.2.1 X.2.2.2.2.2.2.2.2.2.2.2.2.2.2.2.2.2.2.2.2.2.2.2.2.2.1 X.2.2.2.2.2.2.2.2.2.2.2.2.2.2.2.2.2.2.2.2.2.2.2.2.2.2 Y.1 Y.2.1 Y.2.2.1 Y.2.2.2.1 Y.2.2.2.2.1 Y.2.2.2.2.2.1 Y.2.2.2.2.2.2.1 Y.2.2.2.2.2.2.2.1 Y.2.2.2.2.2.2.2.2.1 Y.2.2.2.2.2.2.2.2.2.1 Y.2.2.2.2.2.2.2.2.2.2.2.2.2.2.2.2.2.1 Y.2.2.2.2.2.2.2.2.2.2.2.2.2.2.2.2.2.2.1 Y.2.2.2.2.2.2.2.2.2.2.2.2.2.2.2.2.2.2.2.1 Y.2.2.2.2.2.2.2.2.2.2.2.2.2.2.2.2.2.2.2.2.1 Y.2.2.2.2.2.2.2.2.2.2.2.2.2.2.2.2.2.2.2.2.2.1 Y.2.2.2.2.2.2.2.2.2.2.2.2.2.2.2.2.2.2.2.2.2.2.1 Y.2.2.2.2.2.2.2.2.2.2.2.2.2.2.2.2.2.2.2.2.2.2.2.1 Y.2.2.2.2.2.2.2.2.2.2.2.2.2.2.2.2.2.2.2.2.2.2.2.2.1 Y.2.2.2.2.2.2.2.2.2.2.2.2.2.2.2.2.2.2.2.2.2.2.2.2.2.1 Y.2.2.2.2.2.2.2.2.2.2.2.2.2.2.2.2.2.2.2.2.2.2.2.2.2.2.1 Y.2.2.2.2.2.2.2.2.2.2.2.2.2.2.2.2.2.2.2.2.2.2.2.2.2.2.2.1 Y.2.2.2.2.2.2.2.2.2.2.2.2.2.2.2.2.2.2.2.2.2.2.2.2.2.2.2.2) := by
  obtain ⟨⟨⟨rfl, rfl, rfl, rfl, rfl, rfl, rfl⟩, ⟨m, r, d, hm, hr, hd, rfl, h7, rfl, h10, rfl, h17, hN, hE1, hE2, hE3, hRg⟩, r8, r9⟩, r10, r11⟩ := hD
  unfold fX6_readLine at hX
  unfold fX12_readsLine at hY
  have ha : (aOk L).1 = false := rfl
  by_cases h0 : mi 3 = 0
  · rw [if_pos h0] at hX hY
    obtain ⟨o1, e1, hX⟩ := cal_out hX
    obtain ⟨u1, f1, hY⟩ := cal_out hY
    obtain ⟨a1, k1, q1⟩ := ln_head hn hT h e1 f1 h26 hp
    refine line_end hn hT k1 hX hY h26 (fun q => ?_)
    obtain ⟨-, s1, s2, s3, -⟩ := q1 q
    exact ⟨⟨⟨congrArg (fun x => x.1) s1, congrArg (fun x => x.2.1) s1, congrArg (fun x => x.2.2) s1, rfl, rfl, rfl, rfl⟩, ⟨m, r, d, hm, hr, hd, rfl, h7, rfl, h10, rfl, h17, hN, hE1, hE2, hE3, drg_head hRg h0⟩, r8, r9⟩, s2, s3⟩
  rw [if_neg h0] at hX hY
  have hb := r10 h0
  have hw := fun (wi : Nat) (g : (stL wi).length ≤ 7) => q_is (wi := wi) hn hT h ha g hp
  have repc : ∀ kd : Int32, (kd = 0 ∨ kd = 1 ∨ kd = 2) → X = cal (fun o9 => bfX6_readLine_125 c.1 c.2.1 c.2.2.1 c.2.2.2.1 c.2.2.2.2 (nI n) bt (mi 0) (mi 1) (mi 2) (mi 3) (mi 4) (mi 5) (mi 6) (nI m) (nI r) (nI d) nm xt xp xk xm xd xn xs xa xb xl xi o9.1 o9.2.1 o9.2.2.1 o9.2.2.2.1 o9.2.2.2.2.1 (mi 0) (mi 1) (mi 2) (mi 3) (mi 4) (mi 5) (mi 6) (nI m) o9.2.2.2.2.2.1 (nI d) nm xt o9.2.2.2.2.2.2.1 o9.2.2.2.2.2.2.2.1 o9.2.2.2.2.2.2.2.2.1 o9.2.2.2.2.2.2.2.2.2.1 o9.2.2.2.2.2.2.2.2.2.2.1 o9.2.2.2.2.2.2.2.2.2.2.2 xa xb xl xi) (fX6_readReport c.1 c.2.1 c.2.2.1 c.2.2.2.1 c.2.2.2.2 (nI n) bt (mi 0) (nI m) (nI r) xp xk xm xd xn xs nm kd) → Y = bfX12_readsLine_108 mi tp lt yt yp yk ym yd yn ys ya yb yl yi kd (mi 0) (mi 1) (mi 2) (mi 3) (mi 4) (mi 5) (mi 6) (mi 7) (mi 10) (mi 17) (mi 27) (mi 28) (mi 29) (mi 30) (mi 31) (mi 32) (mi 33) lt yt yp yk ym yd yn ys ya yb yl yi → ∃ a', aQ (L + 1) n bt a' (X.1, X.2.1, X.2.2.1, X.2.2.2.1, X.2.2.2.2.1) (Y.2.2.2.2.2.2.2.2.2.2.1, Y.2.2.2.2.2.2.2.2.2.2.2.1, Y.2.2.2.2.2.2.2.2.2.2.2.2.1, Y.2.2.2.2.2.2.2.2.2.2.2.2.2.1, Y.2.2.2.2.2.2.2.2.2.2.2.2.2.2.1, Y.2.2.2.2.2.2.2.2.2.2.2.2.2.2.2.1, Y.2.2.2.2.2.2.2.2.2.2.2.2.2.2.2.2.1) ∧ (a'.1 = false → DRel (L + 1) X.2.2.2.2.2.1 X.2.2.2.2.2.2.1 X.2.2.2.2.2.2.2.1 X.2.2.2.2.2.2.2.2.1 X.2.2.2.2.2.2.2.2.2.1 X.2.2.2.2.2.2.2.2.2.2.1 X.2.2.2.2.2.2.2.2.2.2.2.1 X.2.2.2.2.2.2.2.2.2.2.2.2.1 X.2.2.2.2.2.2.2.2.2.2.2.2.2.1 X.2.2.2.2.2.2.2.2.2.2.2.2.2.2.1 X.2.2.2.2.2.2.2.2.2.2.2.2.2.2.2.1 X.2.2.2.2.2.2.2.2.2.2.2.2.2.2.2.2.1 X.2.2.2.2.2.2.2.2.2.2.2.2.2.2.2.2.2.1 X.2.2.2.2.2.2.2.2.2.2.2.2.2.2.2.2.2.2.1 X.2.2.2.2.2.2.2.2.2.2.2.2.2.2.2.2.2.2.2.1 X.2.2.2.2.2.2.2.2.2.2.2.2.2.2.2.2.2.2.2.2.1 X.2.2.2.2.2.2.2.2.2.2.2.2.2.2.2.2.2.2.2.2.2.1 X.2.2.2.2.2.2.2.2.2.2.2.2.2.2.2.2.2.2.2.2.2.2.1 X.2.2.2.2.2.2.2.2.2.2.2.2.2.2.2.2.2.2.2.2.2.2.2.1 X.2.2.2.2.2.2.2.2.2.2.2.2.2.2.2.2.2.2.2.2.2.2.2.2.1 X.2.2.2.2.2.2.2.2.2.2.2.2.2.2.2.2.2.2.2.2.2.2.2.2.2.1 X.2.2.2.2.2.2.2.2.2.2.2.2.2.2.2.2.2.2.2.2.2.2.2.2.2.2 Y.1 Y.2.1 Y.2.2.1 Y.2.2.2.1 Y.2.2.2.2.1 Y.2.2.2.2.2.1 Y.2.2.2.2.2.2.1 Y.2.2.2.2.2.2.2.1 Y.2.2.2.2.2.2.2.2.1 Y.2.2.2.2.2.2.2.2.2.1 Y.2.2.2.2.2.2.2.2.2.2.2.2.2.2.2.2.2.1 Y.2.2.2.2.2.2.2.2.2.2.2.2.2.2.2.2.2.2.1 Y.2.2.2.2.2.2.2.2.2.2.2.2.2.2.2.2.2.2.2.1 Y.2.2.2.2.2.2.2.2.2.2.2.2.2.2.2.2.2.2.2.2.1 Y.2.2.2.2.2.2.2.2.2.2.2.2.2.2.2.2.2.2.2.2.2.1 Y.2.2.2.2.2.2.2.2.2.2.2.2.2.2.2.2.2.2.2.2.2.2.1 Y.2.2.2.2.2.2.2.2.2.2.2.2.2.2.2.2.2.2.2.2.2.2.2.1 Y.2.2.2.2.2.2.2.2.2.2.2.2.2.2.2.2.2.2.2.2.2.2.2.2.1 Y.2.2.2.2.2.2.2.2.2.2.2.2.2.2.2.2.2.2.2.2.2.2.2.2.2.1 Y.2.2.2.2.2.2.2.2.2.2.2.2.2.2.2.2.2.2.2.2.2.2.2.2.2.2.1 Y.2.2.2.2.2.2.2.2.2.2.2.2.2.2.2.2.2.2.2.2.2.2.2.2.2.2.2.1 Y.2.2.2.2.2.2.2.2.2.2.2.2.2.2.2.2.2.2.2.2.2.2.2.2.2.2.2.2) := by
    intro kd hkd hX hY
    rw [b108] at hY
    obtain ⟨o9, e9, hX⟩ := cal_out hX
    obtain ⟨u9, f9, hY⟩ := cal_out hY
    obtain ⟨a1, k1, q1⟩ := ln_report hn hT h hm hN hr h7 h10 hb.1 hb.2 e9 f9 h26 hp
    refine line_end hn hT k1 hX hY h26 (fun q => ?_)
    obtain ⟨-, hr24, v1, v3, v4, v5, ⟨jq, hjq, ev1⟩, hv3, -, s1, s2, s3⟩ := q1 q
    have t1 : o9.2.2.2.2.2.1 = nI (r + 1) := congrArg (fun x => x.1) s1
    have t2 : o9.2.2.2.2.2.2.1 = upd xp r v1 := congrArg (fun x => x.2.1) s1
    have t3 : o9.2.2.2.2.2.2.2.1 = upd xk r kd := congrArg (fun x => x.2.2.1) s1
    have t4 : o9.2.2.2.2.2.2.2.2.1 = upd xm r v3 := congrArg (fun x => x.2.2.2.1) s1
    have t5 : o9.2.2.2.2.2.2.2.2.2.1 = upd xd r v4 := congrArg (fun x => x.2.2.2.2.1) s1
    have t6 : o9.2.2.2.2.2.2.2.2.2.2.1 = upd xn r v5 := congrArg (fun x => x.2.2.2.2.2.1) s1
    have t7 : o9.2.2.2.2.2.2.2.2.2.2.2 = upd xs r 0 := congrArg (fun x => x.2.2.2.2.2.2) s1
    have w2 : u9.2.2.2.2.2.2.2.2.1 = upd yp r v1 := congrArg (fun x => x.1) s3
    have w3 : u9.2.2.2.2.2.2.2.2.2.1 = upd yk r kd := congrArg (fun x => x.2.1) s3
    have w4 : u9.2.2.2.2.2.2.2.2.2.2.1 = upd ym r v3 := congrArg (fun x => x.2.2.1) s3
    have w5 : u9.2.2.2.2.2.2.2.2.2.2.2.1 = upd yd r v4 := congrArg (fun x => x.2.2.2.1) s3
    have w6 : u9.2.2.2.2.2.2.2.2.2.2.2.2.1 = upd yn r v5 := congrArg (fun x => x.2.2.2.2.1) s3
    have w7 : u9.2.2.2.2.2.2.2.2.2.2.2.2.2 = upd ys r 0 := congrArg (fun x => x.2.2.2.2.2) s3
    rw [t1, t2, t3, t4, t5, t6, t7, s2, w2, w3, w4, w5, w6, w7]
    refine ⟨⟨⟨rfl, rfl, rfl, rfl, rfl, rfl, rfl⟩, ⟨m, r + 1, d, hm, by omega, hd, rfl, h7, rfl, rfl, rfl, h17, hN, hE1, fun j hj => ⟨⟨upd_eqs v1 (fun i hi => (hE2 i hi).1.1) j hj, upd_eqs kd (fun i hi => (hE2 i hi).1.2.1) j hj, upd_eqs v3 (fun i hi => (hE2 i hi).1.2.2.1) j hj, upd_eqs v4 (fun i hi => (hE2 i hi).1.2.2.2.1) j hj, upd_eqs v5 (fun i hi => (hE2 i hi).1.2.2.2.2.1) j hj, upd_eqs 0 (fun i hi => (hE2 i hi).1.2.2.2.2.2) j hj⟩, ?_⟩, hE3, drg_report hRg h0 hkd hv3⟩, r8, r9⟩, hb⟩
    by_cases h1 : j = r
    · exact ⟨jq, hjq, (show upd xp r v1 j = v1 from if_pos h1).trans ev1⟩
    · obtain ⟨q1, q2, q3⟩ := (hE2 j (by omega)).2
      exact ⟨q1, q2, (show upd xp r v1 j = xp j from if_neg h1).trans q3⟩
  obtain ⟨o1, e1, hX⟩ := cal_out hX
  obtain ⟨u12, f12, hY⟩ := cal_out hY
  have e12 : o1 = u12 := e1.trans ((hw 12 (by decide)).1.trans f12.symm)
  by_cases z12 : ¬ u12 = 0
  · rw [if_neg (fun q => z12 (e12.symm.trans q))] at hX
    rw [if_neg z12] at hY
    obtain ⟨o2, e2, hX⟩ := cal_out hX
    obtain ⟨u2, f2, hY⟩ := cal_out hY
    obtain ⟨a1, k1, q1⟩ := ln_moon hn hT h rfl e2 f2 h26 hp
    refine line_end hn hT k1 hX hY h26 (fun q => ?_)
    obtain ⟨-, s1, -⟩ := q1 q
    exact ⟨⟨⟨rfl, rfl, rfl, rfl, congrArg (fun x => x.1) s1, congrArg (fun x => x.2.1) s1, congrArg (fun x => x.2.2) s1⟩, ⟨m, r, d, hm, hr, hd, rfl, h7, rfl, h10, rfl, h17, hN, hE1, hE2, hE3, hRg⟩, r8, r9⟩, hb⟩
  have z12 : u12 = 0 := Classical.not_not.mp z12
  rw [if_pos (e12.trans z12)] at hX
  rw [if_pos z12] at hY
  obtain ⟨o1, e1, hX⟩ := cal_out hX
  obtain ⟨u14, f14, hY⟩ := cal_out hY
  have e12 : o1 = u14 := e1.trans ((hw 14 (by decide)).1.trans f14.symm)
  by_cases z14 : ¬ u14 = 0
  · rw [if_neg (fun q => z14 (e12.symm.trans q))] at hX
    rw [if_neg z14] at hY
    obtain ⟨o2, e2, hX⟩ := cal_out hX
    obtain ⟨u2, f2, hY⟩ := cal_out hY
    obtain ⟨a1, k1, q1⟩ := ln_place hn hT h hm hN h7 e2 f2 h26 hp
    refine line_end hn hT k1 hX hY h26 (fun q => ?_)
    obtain ⟨-, hm6, w, cd, lt2, hw9, hcd, s1, s2, s3, s4⟩ := q1 q
    have t1 : o2.2.2.2.2.2.1 = nI (m + 1) := congrArg (fun x => x.1) s1
    have t2 : o2.2.2.2.2.2.2.1 = upd nm m cd := congrArg (fun x => x.2.1) s1
    have t3 : o2.2.2.2.2.2.2.2 = upd xt m w := congrArg (fun x => x.2.2) s1
    have w2 : u2.2.2.2.2.2.2.2.2.1 = lt2 := congrArg (fun x => x.1) s3
    have w3 : u2.2.2.2.2.2.2.2.2.2 = upd yt m w := congrArg (fun x => x.2) s3
    rw [t1, t2, t3, s2, w2, w3]
    exact ⟨⟨⟨rfl, rfl, rfl, rfl, rfl, rfl, rfl⟩, ⟨m + 1, r, d, by omega, hr, hd, rfl, rfl, rfl, h10, rfl, h17, s4, upd_eqs w hE1, fun j hj => ⟨(hE2 j hj).1, (hE2 j hj).2.elim (fun q1 q2 => ⟨q1, by omega, q2.2⟩)⟩, hE3, drg_place hRg hw9 hcd⟩, r8, r9⟩, hb⟩
  have z14 : u14 = 0 := Classical.not_not.mp z14
  rw [if_pos (e12.trans z14)] at hX
  rw [if_pos z14] at hY
  obtain ⟨o1, e1, hX⟩ := cal_out hX
  obtain ⟨u15, f15, hY⟩ := cal_out hY
  have e12 : o1 = u15 := e1.trans ((hw 15 (by decide)).1.trans f15.symm)
  by_cases z15 : ¬ u15 = 0
  · rw [if_neg (fun q => z15 (e12.symm.trans q))] at hX
    rw [if_neg z15] at hY
    unfold bfX12_readsLine_78 at hY
    obtain ⟨u2, f2, hY⟩ := cal_out hY
    rw [chain17] at f2
    rw [if_neg (fun q => z15 (f15.trans (f2.symm.trans q)))] at hY
    exact repc 0 (Or.inl rfl) hX hY
  have z15 : u15 = 0 := Classical.not_not.mp z15
  rw [if_pos (e12.trans z15)] at hX
  rw [if_pos z15] at hY
  obtain ⟨o1, e1, hX⟩ := cal_out hX
  obtain ⟨u1, f1, hY⟩ := cal_out hY
  have e12 : o1 = u1 := e1.trans ((hw 1 (by decide)).1.trans f1.symm)
  by_cases z1 : ¬ u1 = 0
  · rw [if_neg (fun q => z1 (e12.symm.trans q))] at hX
    rw [if_neg z1] at hY
    unfold bfX12_readsLine_78 at hY
    obtain ⟨u2, f2, hY⟩ := cal_out hY
    rw [chain17] at f2
    rw [if_pos (f2.trans (f15.symm.trans z15))] at hY
    obtain ⟨u3, f3, hY⟩ := cal_out hY
    rw [chain17] at f3
    rw [if_neg (fun q => z1 (f1.trans (f3.symm.trans q)))] at hY
    exact repc 1 (Or.inr (Or.inl rfl)) hX hY
  have z1 : u1 = 0 := Classical.not_not.mp z1
  rw [if_pos (e12.trans z1)] at hX
  rw [if_pos z1] at hY
  obtain ⟨o1, e1, hX⟩ := cal_out hX
  obtain ⟨u2, f2, hY⟩ := cal_out hY
  have e12 : o1 = u2 := e1.trans ((hw 2 (by decide)).1.trans f2.symm)
  by_cases z2 : ¬ u2 = 0
  · rw [if_neg (fun q => z2 (e12.symm.trans q))] at hX
    rw [if_neg z2] at hY
    unfold bfX12_readsLine_78 at hY
    obtain ⟨u7, f7, hY⟩ := cal_out hY
    rw [chain17] at f7
    rw [if_pos (f7.trans (f15.symm.trans z15))] at hY
    obtain ⟨u3, f3, hY⟩ := cal_out hY
    rw [chain17] at f3
    rw [if_pos (f3.trans (f1.symm.trans z1))] at hY
    exact repc 2 (Or.inr (Or.inr rfl)) hX hY
  have z2 : u2 = 0 := Classical.not_not.mp z2
  rw [if_pos (e12.trans z2)] at hX
  rw [if_pos z2] at hY
  obtain ⟨o1, e1, hX⟩ := cal_out hX
  obtain ⟨u5, f5, hY⟩ := cal_out hY
  have e12 : o1 = u5 := e1.trans ((hw 5 (by decide)).1.trans f5.symm)
  by_cases z5 : ¬ u5 = 0
  · rw [if_neg (fun q => z5 (e12.symm.trans q))] at hX
    rw [if_neg z5] at hY
    obtain ⟨o2, e2, hX⟩ := cal_out hX
    obtain ⟨u7, f7, hY⟩ := cal_out hY
    obtain ⟨a1, k1, q1⟩ := ln_deed hn hT h hd h17 hb.1 hb.2 e2 f7 h26 hp
    refine line_end hn hT k1 hX hY h26 (fun q => ?_)
    obtain ⟨-, hd8, v1, v2, v4, v5, hyy, s1, s2, s3⟩ := q1 q
    have t1 : o2.2.2.2.2.2.1 = nI (d + 1) := congrArg (fun x => x.1) s1
    have t2 : o2.2.2.2.2.2.2.1 = upd xa d v1 := congrArg (fun x => x.2.1) s1
    have t3 : o2.2.2.2.2.2.2.2.1 = upd xb d v2 := congrArg (fun x => x.2.2.1) s1
    have t4 : o2.2.2.2.2.2.2.2.2.1 = upd xl d v4 := congrArg (fun x => x.2.2.2.1) s1
    have t5 : o2.2.2.2.2.2.2.2.2.2 = upd xi d v5 := congrArg (fun x => x.2.2.2.2) s1
    have w2 : u7.2.2.2.2.2.2.2.2.1 = upd ya d v1 := congrArg (fun x => x.1) s3
    have w3 : u7.2.2.2.2.2.2.2.2.2.1 = upd yb d v2 := congrArg (fun x => x.2.1) s3
    have w4 : u7.2.2.2.2.2.2.2.2.2.2.1 = upd yl d v4 := congrArg (fun x => x.2.2.1) s3
    have w5 : u7.2.2.2.2.2.2.2.2.2.2.2 = upd yi d v5 := congrArg (fun x => x.2.2.2) s3
    rw [t1, t2, t3, t4, t5, s2, w2, w3, w4, w5]
    exact ⟨⟨⟨rfl, rfl, rfl, rfl, rfl, rfl, rfl⟩, ⟨m, r, d + 1, hm, hr, by omega, rfl, h7, rfl, h10, rfl, rfl, hN, hE1, hE2, fun j hj => ⟨upd_eqs v1 (fun i hi => (hE3 i hi).1) j hj, upd_eqs v2 (fun i hi => (hE3 i hi).2.1) j hj, upd_eqs v4 (fun i hi => (hE3 i hi).2.2.1) j hj, upd_eqs v5 (fun i hi => (hE3 i hi).2.2.2) j hj⟩, drg_deed hRg h0 hyy⟩, r8, r9⟩, hb⟩
  have z5 : u5 = 0 := Classical.not_not.mp z5
  rw [if_pos (e12.trans z5)] at hX
  rw [if_pos z5] at hY
  obtain ⟨o2, e2, hX⟩ := cal_out hX
  obtain ⟨u7, f7, hY⟩ := cal_out hY
  obtain ⟨s, es, g2, g3, g4, g5, g6, g7, l1, l2, l3, l4, l5, l6, l7⟩ := aQ_ok h ha
  have es : s = L := (congrArg (fun x => x.2.2.2) es).symm
  subst es
  subst hp
  have e2 : o2 = (1, nI s) := by
    rw [e2, g6]
    unfold fX6_blame bfX6_blame_17
    rw [if_pos g2]
  have f7 : u7 = (1, nI s, 1) := by
    rw [f7, rx_faults, if_pos (show mi 33 = 0 from l1), show mi 30 = nI s from l5]
  subst e2 f7
  exact line_end (a := aBad 1 (nI s)) (c := (1, nI s, c.2.2.1, c.2.2.2.1, c.2.2.2.2)) (p := (1, nI s, mi 29, mi 30, mi 31, mi 32, 1)) hn hT (aQ_bad (by decide)) hX hY h26 (fun q => absurd q (by intro q; cases q))
theorem lrd_s {n : Nat} {bt : Nat → Int32} {ctok cst : Int32} {cg0 cg1 cg2 cg3 cg4 cg5 cg6 cg7 cg8 cg9 cg10 cg11 : Nat → Int32} (z : Nat) (v w0 w1 w2 w3 w4 mo fu le li hm ms mp pc rc dc : Int32) (nm xt xp xk xm xd xn xs xa xb xl xi : Nat → Int32) : lfX6_read ctok cst (nI n) bt cg0 cg1 cg2 cg3 cg4 cg5 cg6 cg7 cg8 cg9 cg10 cg11 (z + 1) v w0 w1 w2 w3 w4 mo fu le li hm ms mp pc rc dc nm xt xp xk xm xd xn xs xa xb xl xi = dfX6_read_28 ctok cst (nI n) bt cg0 cg1 cg2 cg3 cg4 cg5 cg6 cg7 cg8 cg9 cg10 cg11 (lfX6_read ctok cst (nI n) bt cg0 cg1 cg2 cg3 cg4 cg5 cg6 cg7 cg8 cg9 cg10 cg11 z) v w0 w1 w2 w3 w4 mo fu le li hm ms mp pc rc dc nm xt xp xk xm xd xn xs xa xb xl xi := rfl
theorem lal_s {tp mi : Nat → Int32} {w23 w24 : Int32} {kp ry0 ry1 ry2 ry3 ry4 ry5 ry6 ry7 ry8 ry9 ry10 ry11 ry12 : Nat → Int32} (z : Nat) (m0 m1 m2 m3 m4 m5 m6 m7 m10 m17 w27 w28 w29 w30 w31 w32 w33 : Int32) (lt yt yp yk ym yd yn ys ya yb yl yi : Nat → Int32) : lfX12_almanac mi tp ry0 ry1 ry2 ry3 ry4 ry5 ry6 ry7 ry8 ry9 ry10 ry11 ry12 (z + 1) m0 m1 m2 m3 m4 m5 m6 m7 m10 m17 w23 w24 w27 w28 w29 w30 w31 w32 w33 kp yt lt yp yk ym yd yn ya yb yl yi ys = dfX12_almanac_79 mi tp ry0 ry1 ry2 ry3 ry4 ry5 ry6 ry7 ry8 ry9 ry10 ry11 ry12 (lfX12_almanac mi tp ry0 ry1 ry2 ry3 ry4 ry5 ry6 ry7 ry8 ry9 ry10 ry11 ry12 z) m0 m1 m2 m3 m4 m5 m6 m7 m10 m17 w23 w24 w27 w28 w29 w30 w31 w32 w33 kp yt lt yp yk ym yd yn ya yb yl yi ys := rfl
theorem aln_K {tp mi : Nat → Int32} {w23 w24 : Int32} {kp ry0 ry1 ry2 ry3 ry4 ry5 ry6 ry7 ry8 ry9 ry10 ry11 ry12 : Nat → Int32} {K K2 : Int32 → Int32 → Int32 → Int32 → Int32 → Int32 → Int32 → Int32 → Int32 → Int32 → Int32 → Int32 → Int32 → Int32 → Int32 → Int32 → Int32 → Int32 → Int32 → (Nat → Int32) → (Nat → Int32) → (Nat → Int32) → (Nat → Int32) → (Nat → Int32) → (Nat → Int32) → (Nat → Int32) → (Nat → Int32) → (Nat → Int32) → (Nat → Int32) → (Nat → Int32) → (Nat → Int32) → (Nat → Int32) → (Int32 × Int32 × Int32 × Int32 × Int32 × Int32 × Int32 × Int32 × Int32 × Int32 × Int32 × Int32 × Int32 × Int32 × Int32 × Int32 × Int32 × Int32 × Int32 × Int32 × Int32 × (Nat → Int32) × (Nat → Int32) × (Nat → Int32) × (Nat → Int32) × (Nat → Int32) × (Nat → Int32) × (Nat → Int32) × (Nat → Int32) × (Nat → Int32) × (Nat → Int32) × (Nat → Int32) × (Nat → Int32) × (Nat → Int32))} {m0 m1 m2 m3 m4 m5 m6 m7 m10 m17 w27 w28 w29 w30 w31 w32 w33 : Int32} {lt yt yp yk ym yd yn ys ya yb yl yi : Nat → Int32} : bfX12_almanac_100 mi tp ry0 ry1 ry2 ry3 ry4 ry5 ry6 ry7 ry8 ry9 ry10 ry11 ry12 K m0 m1 m2 m3 m4 m5 m6 m7 m10 m17 w23 w24 (mi 26) w27 w28 w29 w30 w31 w32 w33 kp yt lt yp yk ym yd yn ya yb yl yi ys = bfX12_almanac_100 mi tp ry0 ry1 ry2 ry3 ry4 ry5 ry6 ry7 ry8 ry9 ry10 ry11 ry12 K2 m0 m1 m2 m3 m4 m5 m6 m7 m10 m17 w23 w24 (mi 26) w27 w28 w29 w30 w31 w32 w33 kp yt lt yp yk ym yd yn ya yb yl yi ys := rfl
theorem drel_mono {L L2 : Nat} {mo fu le li hm ms mp pc rc dc m0 m1 m2 m3 m4 m5 m6 m7 m10 m17 : Int32} {nm xt xp xk xm xd xn xs xa xb xl xi lt yt yp yk ym yd yn ys ya yb yl yi : Nat → Int32} (h : DRel L mo fu le li hm ms mp pc rc dc nm xt xp xk xm xd xn xs xa xb xl xi m0 m1 m2 m3 m4 m5 m6 m7 m10 m17 lt yt yp yk ym yd yn ys ya yb yl yi) (hL : L ≤ L2) : DRel L2 mo fu le li hm ms mp pc rc dc nm xt xp xk xm xd xn xs xa xb xl xi m0 m1 m2 m3 m4 m5 m6 m7 m10 m17 lt yt yp yk ym yd yn ys ya yb yl yi := by
  obtain ⟨⟨h1, h2, h3, h4⟩, h5⟩ := h
  exact ⟨⟨h1, h2, h3, by omega⟩, h5⟩
theorem ptok_0 {b : Nat → Int} {n s : Nat} : (ptok b n s).1 = 0 ↔ ¬ s < n := by
  unfold ptok
  by_cases h : s < n
  · rw [if_pos h]
    refine ⟨fun q => ?_, fun q => absurd h q⟩
    split at q
    · exact absurd q (by intro q; cases q)
    · split at q
      · exact absurd q (by intro q; cases q)
      · split at q
        · exact absurd q (by intro q; cases q)
        · exact absurd q (by intro q; cases q)
  · rw [if_neg h]
    exact ⟨fun _ => h, fun _ => rfl⟩
theorem pkind_0 {k : Nat} (h : k ≤ 4) : pkind k = 0 ↔ k = 0 := by
  rcases (show k = 0 ∨ k = 1 ∨ k = 2 ∨ k = 3 ∨ k = 4 by omega) with h | h | h | h | h <;> subst h <;> decide
theorem rd_stop {n : Nat} {bt tp mi : Nat → Int32} {ctok cst w23 w24 : Int32} {kp cg0 cg1 cg2 cg3 cg4 cg5 cg6 cg7 cg8 cg9 cg10 cg11 ry0 ry1 ry2 ry3 ry4 ry5 ry6 ry7 ry8 ry9 ry10 ry11 ry12 : Nat → Int32} {c : C5} {p : M7} {a : aS} {L : Nat} {mo fu le li hm ms mp pc rc dc m0 m1 m2 m3 m4 m5 m6 m7 m10 m17 : Int32} {nm xt xp xk xm xd xn xs xa xb xl xi lt yt yp yk ym yd yn ys ya yb yl yi : Nat → Int32} (j : Nat) {z y : Nat} (h : aQ L n bt a c p) (ha : a.1 = true) (hz : 0 < z) (hy : 0 < y) : ∃ (X : Int32 × Int32 × Int32 × Int32 × Int32 × Int32 × Int32 × Int32 × Int32 × Int32 × Int32 × Int32 × Int32 × Int32 × Int32 × (Nat → Int32) × (Nat → Int32) × (Nat → Int32) × (Nat → Int32) × (Nat → Int32) × (Nat → Int32) × (Nat → Int32) × (Nat → Int32) × (Nat → Int32) × (Nat → Int32) × (Nat → Int32) × (Nat → Int32)) (Y : Int32 × Int32 × Int32 × Int32 × Int32 × Int32 × Int32 × Int32 × Int32 × Int32 × Int32 × Int32 × Int32 × Int32 × Int32 × Int32 × Int32 × (Nat → Int32) × (Nat → Int32) × (Nat → Int32) × (Nat → Int32) × (Nat → Int32) × (Nat → Int32) × (Nat → Int32) × (Nat → Int32) × (Nat → Int32) × (Nat → Int32) × (Nat → Int32) × (Nat → Int32)) (a : aS), lfX6_read ctok cst (nI n) bt cg0 cg1 cg2 cg3 cg4 cg5 cg6 cg7 cg8 cg9 cg10 cg11 z (nI j) c.1 c.2.1 c.2.2.1 c.2.2.2.1 c.2.2.2.2 mo fu le li hm ms mp pc rc dc nm xt xp xk xm xd xn xs xa xb xl xi = X ∧ lfX12_almanac mi tp ry0 ry1 ry2 ry3 ry4 ry5 ry6 ry7 ry8 ry9 ry10 ry11 ry12 y m0 m1 m2 m3 m4 m5 m6 m7 m10 m17 w23 w24 p.1 p.2.1 p.2.2.1 p.2.2.2.1 p.2.2.2.2.1 p.2.2.2.2.2.1 p.2.2.2.2.2.2 kp yt lt yp yk ym yd yn ya yb yl yi ys = bfX12_almanac_100 mi tp ry0 ry1 ry2 ry3 ry4 ry5 ry6 ry7 ry8 ry9 ry10 ry11 ry12 (lfX12_almanac mi tp ry0 ry1 ry2 ry3 ry4 ry5 ry6 ry7 ry8 ry9 ry10 ry11 ry12 0) Y.1 Y.2.1 Y.2.2.1 Y.2.2.2.1 Y.2.2.2.2.1 Y.2.2.2.2.2.1 Y.2.2.2.2.2.2.1 Y.2.2.2.2.2.2.2.1 Y.2.2.2.2.2.2.2.2.1 Y.2.2.2.2.2.2.2.2.2.1 w23 w24 (mi 26) Y.2.2.2.2.2.2.2.2.2.2.1 Y.2.2.2.2.2.2.2.2.2.2.2.1 Y.2.2.2.2.2.2.2.2.2.2.2.2.1 Y.2.2.2.2.2.2.2.2.2.2.2.2.2.1 Y.2.2.2.2.2.2.2.2.2.2.2.2.2.2.1 Y.2.2.2.2.2.2.2.2.2.2.2.2.2.2.2.1 Y.2.2.2.2.2.2.2.2.2.2.2.2.2.2.2.2.1 kp Y.2.2.2.2.2.2.2.2.2.2.2.2.2.2.2.2.2.2.1 Y.2.2.2.2.2.2.2.2.2.2.2.2.2.2.2.2.2.1 Y.2.2.2.2.2.2.2.2.2.2.2.2.2.2.2.2.2.2.2.1 Y.2.2.2.2.2.2.2.2.2.2.2.2.2.2.2.2.2.2.2.2.1 Y.2.2.2.2.2.2.2.2.2.2.2.2.2.2.2.2.2.2.2.2.2.1 Y.2.2.2.2.2.2.2.2.2.2.2.2.2.2.2.2.2.2.2.2.2.2.1 Y.2.2.2.2.2.2.2.2.2.2.2.2.2.2.2.2.2.2.2.2.2.2.2.1 Y.2.2.2.2.2.2.2.2.2.2.2.2.2.2.2.2.2.2.2.2.2.2.2.2.2.1 Y.2.2.2.2.2.2.2.2.2.2.2.2.2.2.2.2.2.2.2.2.2.2.2.2.2.2.1 Y.2.2.2.2.2.2.2.2.2.2.2.2.2.2.2.2.2.2.2.2.2.2.2.2.2.2.2.1 Y.2.2.2.2.2.2.2.2.2.2.2.2.2.2.2.2.2.2.2.2.2.2.2.2.2.2.2.2 Y.2.2.2.2.2.2.2.2.2.2.2.2.2.2.2.2.2.2.2.2.2.2.2.2.1 ∧ aQ 0 n bt a (X.1, X.2.1, X.2.2.1, X.2.2.2.1, X.2.2.2.2.1) (Y.2.2.2.2.2.2.2.2.2.2.1, Y.2.2.2.2.2.2.2.2.2.2.2.1, Y.2.2.2.2.2.2.2.2.2.2.2.2.1, Y.2.2.2.2.2.2.2.2.2.2.2.2.2.1, Y.2.2.2.2.2.2.2.2.2.2.2.2.2.2.1, Y.2.2.2.2.2.2.2.2.2.2.2.2.2.2.2.1, Y.2.2.2.2.2.2.2.2.2.2.2.2.2.2.2.2.1) ∧ (a.1 = false → DRel n X.2.2.2.2.2.1 X.2.2.2.2.2.2.1 X.2.2.2.2.2.2.2.1 X.2.2.2.2.2.2.2.2.1 X.2.2.2.2.2.2.2.2.2.1 X.2.2.2.2.2.2.2.2.2.2.1 X.2.2.2.2.2.2.2.2.2.2.2.1 X.2.2.2.2.2.2.2.2.2.2.2.2.1 X.2.2.2.2.2.2.2.2.2.2.2.2.2.1 X.2.2.2.2.2.2.2.2.2.2.2.2.2.2.1 X.2.2.2.2.2.2.2.2.2.2.2.2.2.2.2.1 X.2.2.2.2.2.2.2.2.2.2.2.2.2.2.2.2.1 X.2.2.2.2.2.2.2.2.2.2.2.2.2.2.2.2.2.1 X.2.2.2.2.2.2.2.2.2.2.2.2.2.2.2.2.2.2.1 X.2.2.2.2.2.2.2.2.2.2.2.2.2.2.2.2.2.2.2.1 X.2.2.2.2.2.2.2.2.2.2.2.2.2.2.2.2.2.2.2.2.1 X.2.2.2.2.2.2.2.2.2.2.2.2.2.2.2.2.2.2.2.2.2.1 X.2.2.2.2.2.2.2.2.2.2.2.2.2.2.2.2.2.2.2.2.2.2.1 X.2.2.2.2.2.2.2.2.2.2.2.2.2.2.2.2.2.2.2.2.2.2.2.1 X.2.2.2.2.2.2.2.2.2.2.2.2.2.2.2.2.2.2.2.2.2.2.2.2.1 X.2.2.2.2.2.2.2.2.2.2.2.2.2.2.2.2.2.2.2.2.2.2.2.2.2.1 X.2.2.2.2.2.2.2.2.2.2.2.2.2.2.2.2.2.2.2.2.2.2.2.2.2.2 Y.1 Y.2.1 Y.2.2.1 Y.2.2.2.1 Y.2.2.2.2.1 Y.2.2.2.2.2.1 Y.2.2.2.2.2.2.1 Y.2.2.2.2.2.2.2.1 Y.2.2.2.2.2.2.2.2.1 Y.2.2.2.2.2.2.2.2.2.1 Y.2.2.2.2.2.2.2.2.2.2.2.2.2.2.2.2.2.1 Y.2.2.2.2.2.2.2.2.2.2.2.2.2.2.2.2.2.2.1 Y.2.2.2.2.2.2.2.2.2.2.2.2.2.2.2.2.2.2.2.1 Y.2.2.2.2.2.2.2.2.2.2.2.2.2.2.2.2.2.2.2.2.1 Y.2.2.2.2.2.2.2.2.2.2.2.2.2.2.2.2.2.2.2.2.2.1 Y.2.2.2.2.2.2.2.2.2.2.2.2.2.2.2.2.2.2.2.2.2.2.1 Y.2.2.2.2.2.2.2.2.2.2.2.2.2.2.2.2.2.2.2.2.2.2.2.1 Y.2.2.2.2.2.2.2.2.2.2.2.2.2.2.2.2.2.2.2.2.2.2.2.2.1 Y.2.2.2.2.2.2.2.2.2.2.2.2.2.2.2.2.2.2.2.2.2.2.2.2.2.1 Y.2.2.2.2.2.2.2.2.2.2.2.2.2.2.2.2.2.2.2.2.2.2.2.2.2.2.1 Y.2.2.2.2.2.2.2.2.2.2.2.2.2.2.2.2.2.2.2.2.2.2.2.2.2.2.2.1 Y.2.2.2.2.2.2.2.2.2.2.2.2.2.2.2.2.2.2.2.2.2.2.2.2.2.2.2.2) := by
  obtain ⟨z, rfl⟩ : ∃ q, z = q + 1 := ⟨z - 1, by omega⟩
  obtain ⟨y, rfl⟩ : ∃ q, y = q + 1 := ⟨y - 1, by omega⟩
  refine ⟨(c.1, c.2.1, c.2.2.1, c.2.2.2.1, c.2.2.2.2, mo, fu, le, li, hm, ms, mp, pc, rc, dc, nm, xt, xp, xk, xm, xd, xn, xs, xa, xb, xl, xi), (m0, m1, m2, m3, m4, m5, m6, m7, m10, m17, p.1, p.2.1, p.2.2.1, p.2.2.2.1, p.2.2.2.2.1, p.2.2.2.2.2.1, p.2.2.2.2.2.2, lt, yt, yp, yk, ym, yd, yn, ys, ya, yb, yl, yi), a, ?_, ?_, ⟨h.1, h.2.1, aB_bad ha⟩, fun q => absurd (q.symm.trans ha) (by decide)⟩
  · rw [lrd_s]
    unfold dfX6_read_28 bfX6_read_59
    rw [if_neg (fun q => absurd (((aQ_fk h).mp q).symm.trans ha) (by decide))]
    split
    · rfl
    · split
      · rfl
      · rfl
  · rw [lal_s]
    unfold dfX12_almanac_79
    rw [if_neg (fun q => absurd (((aQ_33 h).mp q).symm.trans ha) (by decide))]
    exact aln_K
set_option maxRecDepth 100000 in
theorem rd_loop {n : Nat} {bt tp mi : Nat → Int32} {ctok cst w23 w24 : Int32} {kp cg0 cg1 cg2 cg3 cg4 cg5 cg6 cg7 cg8 cg9 cg10 cg11 ry0 ry1 ry2 ry3 ry4 ry5 ry6 ry7 ry8 ry9 ry10 ry11 ry12 : Nat → Int32} (hn : n ≤ 1600) (hT : TR n bt tp) (h26 : mi 26 = nI n) : ∀ (k L j z y : Nat) (c : C5) (p : M7) (mo fu le li hm ms mp pc rc dc m0 m1 m2 m3 m4 m5 m6 m7 m10 m17 : Int32) (nm xt xp xk xm xd xn xs xa xb xl xi lt yt yp yk ym yd yn ys ya yb yl yi : Nat → Int32), n + 1 ≤ L + k → j ≤ L → L ≤ n → k + 1 < z → k + 1 < y → aQ L n bt (aOk L) c p → DRel L mo fu le li hm ms mp pc rc dc nm xt xp xk xm xd xn xs xa xb xl xi m0 m1 m2 m3 m4 m5 m6 m7 m10 m17 lt yt yp yk ym yd yn ys ya yb yl yi → ∃ (X : Int32 × Int32 × Int32 × Int32 × Int32 × Int32 × Int32 × Int32 × Int32 × Int32 × Int32 × Int32 × Int32 × Int32 × Int32 × (Nat → Int32) × (Nat → Int32) × (Nat → Int32) × (Nat → Int32) × (Nat → Int32) × (Nat → Int32) × (Nat → Int32) × (Nat → Int32) × (Nat → Int32) × (Nat → Int32) × (Nat → Int32) × (Nat → Int32)) (Y : Int32 × Int32 × Int32 × Int32 × Int32 × Int32 × Int32 × Int32 × Int32 × Int32 × Int32 × Int32 × Int32 × Int32 × Int32 × Int32 × Int32 × (Nat → Int32) × (Nat → Int32) × (Nat → Int32) × (Nat → Int32) × (Nat → Int32) × (Nat → Int32) × (Nat → Int32) × (Nat → Int32) × (Nat → Int32) × (Nat → Int32) × (Nat → Int32) × (Nat → Int32)) (a : aS), lfX6_read ctok cst (nI n) bt cg0 cg1 cg2 cg3 cg4 cg5 cg6 cg7 cg8 cg9 cg10 cg11 z (nI j) c.1 c.2.1 c.2.2.1 c.2.2.2.1 c.2.2.2.2 mo fu le li hm ms mp pc rc dc nm xt xp xk xm xd xn xs xa xb xl xi = X ∧ lfX12_almanac mi tp ry0 ry1 ry2 ry3 ry4 ry5 ry6 ry7 ry8 ry9 ry10 ry11 ry12 y m0 m1 m2 m3 m4 m5 m6 m7 m10 m17 w23 w24 p.1 p.2.1 p.2.2.1 p.2.2.2.1 p.2.2.2.2.1 p.2.2.2.2.2.1 p.2.2.2.2.2.2 kp yt lt yp yk ym yd yn ya yb yl yi ys = bfX12_almanac_100 mi tp ry0 ry1 ry2 ry3 ry4 ry5 ry6 ry7 ry8 ry9 ry10 ry11 ry12 (lfX12_almanac mi tp ry0 ry1 ry2 ry3 ry4 ry5 ry6 ry7 ry8 ry9 ry10 ry11 ry12 0) Y.1 Y.2.1 Y.2.2.1 Y.2.2.2.1 Y.2.2.2.2.1 Y.2.2.2.2.2.1 Y.2.2.2.2.2.2.1 Y.2.2.2.2.2.2.2.1 Y.2.2.2.2.2.2.2.2.1 Y.2.2.2.2.2.2.2.2.2.1 w23 w24 (mi 26) Y.2.2.2.2.2.2.2.2.2.2.1 Y.2.2.2.2.2.2.2.2.2.2.2.1 Y.2.2.2.2.2.2.2.2.2.2.2.2.1 Y.2.2.2.2.2.2.2.2.2.2.2.2.2.1 Y.2.2.2.2.2.2.2.2.2.2.2.2.2.2.1 Y.2.2.2.2.2.2.2.2.2.2.2.2.2.2.2.1 Y.2.2.2.2.2.2.2.2.2.2.2.2.2.2.2.2.1 kp Y.2.2.2.2.2.2.2.2.2.2.2.2.2.2.2.2.2.2.1 Y.2.2.2.2.2.2.2.2.2.2.2.2.2.2.2.2.2.1 Y.2.2.2.2.2.2.2.2.2.2.2.2.2.2.2.2.2.2.2.1 Y.2.2.2.2.2.2.2.2.2.2.2.2.2.2.2.2.2.2.2.2.1 Y.2.2.2.2.2.2.2.2.2.2.2.2.2.2.2.2.2.2.2.2.2.1 Y.2.2.2.2.2.2.2.2.2.2.2.2.2.2.2.2.2.2.2.2.2.2.1 Y.2.2.2.2.2.2.2.2.2.2.2.2.2.2.2.2.2.2.2.2.2.2.2.1 Y.2.2.2.2.2.2.2.2.2.2.2.2.2.2.2.2.2.2.2.2.2.2.2.2.2.1 Y.2.2.2.2.2.2.2.2.2.2.2.2.2.2.2.2.2.2.2.2.2.2.2.2.2.2.1 Y.2.2.2.2.2.2.2.2.2.2.2.2.2.2.2.2.2.2.2.2.2.2.2.2.2.2.2.1 Y.2.2.2.2.2.2.2.2.2.2.2.2.2.2.2.2.2.2.2.2.2.2.2.2.2.2.2.2 Y.2.2.2.2.2.2.2.2.2.2.2.2.2.2.2.2.2.2.2.2.2.2.2.2.1 ∧ aQ 0 n bt a (X.1, X.2.1, X.2.2.1, X.2.2.2.1, X.2.2.2.2.1) (Y.2.2.2.2.2.2.2.2.2.2.1, Y.2.2.2.2.2.2.2.2.2.2.2.1, Y.2.2.2.2.2.2.2.2.2.2.2.2.1, Y.2.2.2.2.2.2.2.2.2.2.2.2.2.1, Y.2.2.2.2.2.2.2.2.2.2.2.2.2.2.1, Y.2.2.2.2.2.2.2.2.2.2.2.2.2.2.2.1, Y.2.2.2.2.2.2.2.2.2.2.2.2.2.2.2.2.1) ∧ (a.1 = false → DRel n X.2.2.2.2.2.1 X.2.2.2.2.2.2.1 X.2.2.2.2.2.2.2.1 X.2.2.2.2.2.2.2.2.1 X.2.2.2.2.2.2.2.2.2.1 X.2.2.2.2.2.2.2.2.2.2.1 X.2.2.2.2.2.2.2.2.2.2.2.1 X.2.2.2.2.2.2.2.2.2.2.2.2.1 X.2.2.2.2.2.2.2.2.2.2.2.2.2.1 X.2.2.2.2.2.2.2.2.2.2.2.2.2.2.1 X.2.2.2.2.2.2.2.2.2.2.2.2.2.2.2.1 X.2.2.2.2.2.2.2.2.2.2.2.2.2.2.2.2.1 X.2.2.2.2.2.2.2.2.2.2.2.2.2.2.2.2.2.1 X.2.2.2.2.2.2.2.2.2.2.2.2.2.2.2.2.2.2.1 X.2.2.2.2.2.2.2.2.2.2.2.2.2.2.2.2.2.2.2.1 X.2.2.2.2.2.2.2.2.2.2.2.2.2.2.2.2.2.2.2.2.1 X.2.2.2.2.2.2.2.2.2.2.2.2.2.2.2.2.2.2.2.2.2.1 X.2.2.2.2.2.2.2.2.2.2.2.2.2.2.2.2.2.2.2.2.2.2.1 X.2.2.2.2.2.2.2.2.2.2.2.2.2.2.2.2.2.2.2.2.2.2.2.1 X.2.2.2.2.2.2.2.2.2.2.2.2.2.2.2.2.2.2.2.2.2.2.2.2.1 X.2.2.2.2.2.2.2.2.2.2.2.2.2.2.2.2.2.2.2.2.2.2.2.2.2.1 X.2.2.2.2.2.2.2.2.2.2.2.2.2.2.2.2.2.2.2.2.2.2.2.2.2.2 Y.1 Y.2.1 Y.2.2.1 Y.2.2.2.1 Y.2.2.2.2.1 Y.2.2.2.2.2.1 Y.2.2.2.2.2.2.1 Y.2.2.2.2.2.2.2.1 Y.2.2.2.2.2.2.2.2.1 Y.2.2.2.2.2.2.2.2.2.1 Y.2.2.2.2.2.2.2.2.2.2.2.2.2.2.2.2.2.1 Y.2.2.2.2.2.2.2.2.2.2.2.2.2.2.2.2.2.2.1 Y.2.2.2.2.2.2.2.2.2.2.2.2.2.2.2.2.2.2.2.1 Y.2.2.2.2.2.2.2.2.2.2.2.2.2.2.2.2.2.2.2.2.1 Y.2.2.2.2.2.2.2.2.2.2.2.2.2.2.2.2.2.2.2.2.2.1 Y.2.2.2.2.2.2.2.2.2.2.2.2.2.2.2.2.2.2.2.2.2.2.1 Y.2.2.2.2.2.2.2.2.2.2.2.2.2.2.2.2.2.2.2.2.2.2.2.1 Y.2.2.2.2.2.2.2.2.2.2.2.2.2.2.2.2.2.2.2.2.2.2.2.2.1 Y.2.2.2.2.2.2.2.2.2.2.2.2.2.2.2.2.2.2.2.2.2.2.2.2.2.1 Y.2.2.2.2.2.2.2.2.2.2.2.2.2.2.2.2.2.2.2.2.2.2.2.2.2.2.1 Y.2.2.2.2.2.2.2.2.2.2.2.2.2.2.2.2.2.2.2.2.2.2.2.2.2.2.2.1 Y.2.2.2.2.2.2.2.2.2.2.2.2.2.2.2.2.2.2.2.2.2.2.2.2.2.2.2.2) := by
  intro k
  induction k with
  | zero =>
    intro L j z y c p mo fu le li hm ms mp pc rc dc m0 m1 m2 m3 m4 m5 m6 m7 m10 m17 nm xt xp xk xm xd xn xs xa xb xl xi lt yt yp yk ym yd yn ys ya yb yl yi h1 h2 h3
    omega
  | succ k ih =>
    intro L j z y c p mo fu le li hm ms mp pc rc dc m0 m1 m2 m3 m4 m5 m6 m7 m10 m17 nm xt xp xk xm xd xn xs xa xb xl xi lt yt yp yk ym yd yn ys ya yb yl yi h1 h2 h3 hz hy h hD
    obtain ⟨s, es, g2, g3, g4, g5, g6, g7, l1, l2, l3, l4, l5, l6, l7⟩ := aQ_ok h rfl
    have es : s = L := (congrArg (fun x => x.2.2.2) es).symm
    subst es
    have hk := ptok_kind (fun j => (bt j).toInt) n s
    have hk2 := pkind_le hk
    obtain ⟨z, rfl⟩ : ∃ q, z = q + 1 := ⟨z - 1, by omega⟩
    obtain ⟨y, rfl⟩ : ∃ q, y = q + 1 := ⟨y - 1, by omega⟩
    by_cases hL : s < n
    · have t0 : ¬ c.2.2.1 = 0 := by
        rw [g5]
        exact fun q => absurd (pz_ninj (b := 0) (by omega) (by omega) q) (fun q => ptok_0.mp q hL)
      have t31 : ¬ p.2.2.2.2.1 = 0 := by
        rw [l6]
        exact fun q => absurd ((pkind_0 hk).mp (pz_ninj (b := 0) (by omega) (by omega) q)) (fun q => ptok_0.mp q hL)
      obtain ⟨o3, e3⟩ : ∃ o, o = fX6_readLine c.1 c.2.1 c.2.2.1 c.2.2.2.1 c.2.2.2.2 (nI n) bt mo fu le li hm ms mp pc rc dc nm xt xp xk xm xd xn xs xa xb xl xi := ⟨_, rfl⟩
      obtain ⟨u3, f3⟩ : ∃ u, u = fX12_readsLine (upd (upd (upd (upd (upd (upd (upd (upd (upd (upd (upd (upd (upd (upd (upd (upd (upd (upd (upd mi 0 m0) 1 m1) 2 m2) 3 m3) 4 m4) 5 m5) 6 m6) 7 m7) 10 m10) 17 m17) 23 w23) 24 w24) 27 p.1) 28 p.2.1) 29 p.2.2.1) 30 p.2.2.2.1) 31 p.2.2.2.2.1) 32 p.2.2.2.2.2.1) 33 p.2.2.2.2.2.2) tp lt yt yp yk ym yd yn ys ya yb yl yi := ⟨_, rfl⟩
      have eX : lfX6_read ctok cst (nI n) bt cg0 cg1 cg2 cg3 cg4 cg5 cg6 cg7 cg8 cg9 cg10 cg11 (z + 1) (nI j) c.1 c.2.1 c.2.2.1 c.2.2.2.1 c.2.2.2.2 mo fu le li hm ms mp pc rc dc nm xt xp xk xm xd xn xs xa xb xl xi = lfX6_read ctok cst (nI n) bt cg0 cg1 cg2 cg3 cg4 cg5 cg6 cg7 cg8 cg9 cg10 cg11 z (nI (j + 1)) o3.1 o3.2.1 o3.2.2.1 o3.2.2.2.1 o3.2.2.2.2.1 o3.2.2.2.2.2.1 o3.2.2.2.2.2.2.1 o3.2.2.2.2.2.2.2.1 o3.2.2.2.2.2.2.2.2.1 o3.2.2.2.2.2.2.2.2.2.1 o3.2.2.2.2.2.2.2.2.2.2.1 o3.2.2.2.2.2.2.2.2.2.2.2.1 o3.2.2.2.2.2.2.2.2.2.2.2.2.1 o3.2.2.2.2.2.2.2.2.2.2.2.2.2.1 o3.2.2.2.2.2.2.2.2.2.2.2.2.2.2.1 o3.2.2.2.2.2.2.2.2.2.2.2.2.2.2.2.1 o3.2.2.2.2.2.2.2.2.2.2.2.2.2.2.2.2.1 o3.2.2.2.2.2.2.2.2.2.2.2.2.2.2.2.2.2.1 o3.2.2.2.2.2.2.2.2.2.2.2.2.2.2.2.2.2.2.1 o3.2.2.2.2.2.2.2.2.2.2.2.2.2.2.2.2.2.2.2.1 o3.2.2.2.2.2.2.2.2.2.2.2.2.2.2.2.2.2.2.2.2.1 o3.2.2.2.2.2.2.2.2.2.2.2.2.2.2.2.2.2.2.2.2.2.1 o3.2.2.2.2.2.2.2.2.2.2.2.2.2.2.2.2.2.2.2.2.2.2.1 o3.2.2.2.2.2.2.2.2.2.2.2.2.2.2.2.2.2.2.2.2.2.2.2.1 o3.2.2.2.2.2.2.2.2.2.2.2.2.2.2.2.2.2.2.2.2.2.2.2.2.1 o3.2.2.2.2.2.2.2.2.2.2.2.2.2.2.2.2.2.2.2.2.2.2.2.2.2.1 o3.2.2.2.2.2.2.2.2.2.2.2.2.2.2.2.2.2.2.2.2.2.2.2.2.2.2 := by
        rw [lrd_s]
        unfold dfX6_read_28
        rw [if_neg (show ¬ (1600 : Int32) ≤ nI j from nI_ge (b := 1600) (by omega) (by omega)), if_neg t0, if_pos g2, cal_b, ← e3, ← nI_succ]
      have eY : lfX12_almanac mi tp ry0 ry1 ry2 ry3 ry4 ry5 ry6 ry7 ry8 ry9 ry10 ry11 ry12 (y + 1) m0 m1 m2 m3 m4 m5 m6 m7 m10 m17 w23 w24 p.1 p.2.1 p.2.2.1 p.2.2.2.1 p.2.2.2.2.1 p.2.2.2.2.2.1 p.2.2.2.2.2.2 kp yt lt yp yk ym yd yn ya yb yl yi ys = lfX12_almanac mi tp ry0 ry1 ry2 ry3 ry4 ry5 ry6 ry7 ry8 ry9 ry10 ry11 ry12 y u3.1 u3.2.1 u3.2.2.1 u3.2.2.2.1 u3.2.2.2.2.1 u3.2.2.2.2.2.1 u3.2.2.2.2.2.2.1 u3.2.2.2.2.2.2.2.1 u3.2.2.2.2.2.2.2.2.1 u3.2.2.2.2.2.2.2.2.2.1 w23 w24 u3.2.2.2.2.2.2.2.2.2.2.1 u3.2.2.2.2.2.2.2.2.2.2.2.1 u3.2.2.2.2.2.2.2.2.2.2.2.2.1 u3.2.2.2.2.2.2.2.2.2.2.2.2.2.1 u3.2.2.2.2.2.2.2.2.2.2.2.2.2.2.1 u3.2.2.2.2.2.2.2.2.2.2.2.2.2.2.2.1 u3.2.2.2.2.2.2.2.2.2.2.2.2.2.2.2.2.1 kp u3.2.2.2.2.2.2.2.2.2.2.2.2.2.2.2.2.2.2.1 u3.2.2.2.2.2.2.2.2.2.2.2.2.2.2.2.2.2.1 u3.2.2.2.2.2.2.2.2.2.2.2.2.2.2.2.2.2.2.2.1 u3.2.2.2.2.2.2.2.2.2.2.2.2.2.2.2.2.2.2.2.2.1 u3.2.2.2.2.2.2.2.2.2.2.2.2.2.2.2.2.2.2.2.2.2.1 u3.2.2.2.2.2.2.2.2.2.2.2.2.2.2.2.2.2.2.2.2.2.2.1 u3.2.2.2.2.2.2.2.2.2.2.2.2.2.2.2.2.2.2.2.2.2.2.2.1 u3.2.2.2.2.2.2.2.2.2.2.2.2.2.2.2.2.2.2.2.2.2.2.2.2.2.1 u3.2.2.2.2.2.2.2.2.2.2.2.2.2.2.2.2.2.2.2.2.2.2.2.2.2.2.1 u3.2.2.2.2.2.2.2.2.2.2.2.2.2.2.2.2.2.2.2.2.2.2.2.2.2.2.2.1 u3.2.2.2.2.2.2.2.2.2.2.2.2.2.2.2.2.2.2.2.2.2.2.2.2.2.2.2.2 u3.2.2.2.2.2.2.2.2.2.2.2.2.2.2.2.2.2.2.2.2.2.2.2.2.1 := by
        rw [lal_s]
        unfold dfX12_almanac_79
        rw [if_pos l1, if_neg t31, cal_b, ← f3]
      obtain ⟨a1, k1, q1⟩ := ln_line hn hT h (mi := (upd (upd (upd (upd (upd (upd (upd (upd (upd (upd (upd (upd (upd (upd (upd (upd (upd (upd (upd mi 0 m0) 1 m1) 2 m2) 3 m3) 4 m4) 5 m5) 6 m6) 7 m7) 10 m10) 17 m17) 23 w23) 24 w24) 27 p.1) 28 p.2.1) 29 p.2.2.1) 30 p.2.2.2.1) 31 p.2.2.2.2.1) 32 p.2.2.2.2.2.1) 33 p.2.2.2.2.2.2)) hD e3 f3 h26 rfl
      rw [eX, eY]
      by_cases ha : a1.1 = false
      · obtain ⟨s1, e1, -⟩ := aQ_ok k1 ha
        subst e1
        have b1 := k1.2.2 rfl
        have b1 : s + 1 ≤ s1 ∧ s1 ≤ n := b1
        exact ih s1 (j + 1) z y (o3.1, o3.2.1, o3.2.2.1, o3.2.2.2.1, o3.2.2.2.2.1) (u3.2.2.2.2.2.2.2.2.2.2.1, u3.2.2.2.2.2.2.2.2.2.2.2.1, u3.2.2.2.2.2.2.2.2.2.2.2.2.1, u3.2.2.2.2.2.2.2.2.2.2.2.2.2.1, u3.2.2.2.2.2.2.2.2.2.2.2.2.2.2.1, u3.2.2.2.2.2.2.2.2.2.2.2.2.2.2.2.1, u3.2.2.2.2.2.2.2.2.2.2.2.2.2.2.2.2.1) o3.2.2.2.2.2.1 o3.2.2.2.2.2.2.1 o3.2.2.2.2.2.2.2.1 o3.2.2.2.2.2.2.2.2.1 o3.2.2.2.2.2.2.2.2.2.1 o3.2.2.2.2.2.2.2.2.2.2.1 o3.2.2.2.2.2.2.2.2.2.2.2.1 o3.2.2.2.2.2.2.2.2.2.2.2.2.1 o3.2.2.2.2.2.2.2.2.2.2.2.2.2.1 o3.2.2.2.2.2.2.2.2.2.2.2.2.2.2.1 u3.1 u3.2.1 u3.2.2.1 u3.2.2.2.1 u3.2.2.2.2.1 u3.2.2.2.2.2.1 u3.2.2.2.2.2.2.1 u3.2.2.2.2.2.2.2.1 u3.2.2.2.2.2.2.2.2.1 u3.2.2.2.2.2.2.2.2.2.1 o3.2.2.2.2.2.2.2.2.2.2.2.2.2.2.2.1 o3.2.2.2.2.2.2.2.2.2.2.2.2.2.2.2.2.1 o3.2.2.2.2.2.2.2.2.2.2.2.2.2.2.2.2.2.1 o3.2.2.2.2.2.2.2.2.2.2.2.2.2.2.2.2.2.2.1 o3.2.2.2.2.2.2.2.2.2.2.2.2.2.2.2.2.2.2.2.1 o3.2.2.2.2.2.2.2.2.2.2.2.2.2.2.2.2.2.2.2.2.1 o3.2.2.2.2.2.2.2.2.2.2.2.2.2.2.2.2.2.2.2.2.2.1 o3.2.2.2.2.2.2.2.2.2.2.2.2.2.2.2.2.2.2.2.2.2.2.1 o3.2.2.2.2.2.2.2.2.2.2.2.2.2.2.2.2.2.2.2.2.2.2.2.1 o3.2.2.2.2.2.2.2.2.2.2.2.2.2.2.2.2.2.2.2.2.2.2.2.2.1 o3.2.2.2.2.2.2.2.2.2.2.2.2.2.2.2.2.2.2.2.2.2.2.2.2.2.1 o3.2.2.2.2.2.2.2.2.2.2.2.2.2.2.2.2.2.2.2.2.2.2.2.2.2.2 u3.2.2.2.2.2.2.2.2.2.2.2.2.2.2.2.2.2.1 u3.2.2.2.2.2.2.2.2.2.2.2.2.2.2.2.2.2.2.1 u3.2.2.2.2.2.2.2.2.2.2.2.2.2.2.2.2.2.2.2.1 u3.2.2.2.2.2.2.2.2.2.2.2.2.2.2.2.2.2.2.2.2.1 u3.2.2.2.2.2.2.2.2.2.2.2.2.2.2.2.2.2.2.2.2.2.1 u3.2.2.2.2.2.2.2.2.2.2.2.2.2.2.2.2.2.2.2.2.2.2.1 u3.2.2.2.2.2.2.2.2.2.2.2.2.2.2.2.2.2.2.2.2.2.2.2.1 u3.2.2.2.2.2.2.2.2.2.2.2.2.2.2.2.2.2.2.2.2.2.2.2.2.1 u3.2.2.2.2.2.2.2.2.2.2.2.2.2.2.2.2.2.2.2.2.2.2.2.2.2.1 u3.2.2.2.2.2.2.2.2.2.2.2.2.2.2.2.2.2.2.2.2.2.2.2.2.2.2.1 u3.2.2.2.2.2.2.2.2.2.2.2.2.2.2.2.2.2.2.2.2.2.2.2.2.2.2.2.1 u3.2.2.2.2.2.2.2.2.2.2.2.2.2.2.2.2.2.2.2.2.2.2.2.2.2.2.2.2 (by omega) (by omega) b1.2 (by omega) (by omega) ⟨k1.1, k1.2.1, fun _ => ⟨Nat.le_refl _, b1.2⟩⟩ (drel_mono (q1 rfl) b1.1)
      · exact rd_stop (j + 1) k1 (by simpa using ha) (by omega) (by omega)
    · refine ⟨(c.1, c.2.1, c.2.2.1, c.2.2.2.1, c.2.2.2.2, mo, fu, le, li, hm, ms, mp, pc, rc, dc, nm, xt, xp, xk, xm, xd, xn, xs, xa, xb, xl, xi), (m0, m1, m2, m3, m4, m5, m6, m7, m10, m17, p.1, p.2.1, p.2.2.1, p.2.2.2.1, p.2.2.2.2.1, p.2.2.2.2.2.1, p.2.2.2.2.2.2, lt, yt, yp, yk, ym, yd, yn, ys, ya, yb, yl, yi), aOk s, ?_, ?_, ⟨h.1, h.2.1, fun _ => ⟨Nat.zero_le _, h3⟩⟩, fun _ => drel_mono hD h3⟩
      · rw [lrd_s]
        unfold dfX6_read_28 bfX6_read_59
        rw [if_pos (show c.2.2.1 = 0 by rw [g5, ptok_0.mpr hL]; rfl)]
        split
        · rfl
        · rfl
      · rw [lal_s]
        unfold dfX12_almanac_79
        rw [if_pos l1, if_pos (show p.2.2.2.2.1 = 0 by rw [l6, ptok_0.mpr hL]; rfl)]
        exact aln_K
def trb (b t : Int32) : Prop := -128 ≤ b.toInt ∧ b.toInt ≤ 127 ∧ ((0 ≤ b.toInt ∧ t.toInt = b.toInt) ∨ (b.toInt < 0 ∧ t.toInt = b.toInt + 256))
theorem tr_low (x : Int32) : (x &&& 255).toInt = x.toInt % 256 := by
  have a1 : (x &&& 255).toBitVec.toNat = x.toBitVec.toNat % 256 := by
    rw [Int32.toBitVec_and, BitVec.toNat_and]
    exact Nat.and_two_pow_sub_one_eq_mod _ 8
  have a2 : x.toInt = if 2 * x.toBitVec.toNat < 2 ^ 32 then (x.toBitVec.toNat : Int) else (x.toBitVec.toNat : Int) - ((2 ^ 32 : Nat) : Int) := BitVec.toInt_eq_toNat_cond x.toBitVec
  have a3 : (x &&& 255).toInt = if 2 * (x &&& 255).toBitVec.toNat < 2 ^ 32 then ((x &&& 255).toBitVec.toNat : Int) else ((x &&& 255).toBitVec.toNat : Int) - ((2 ^ 32 : Nat) : Int) := BitVec.toInt_eq_toNat_cond (x &&& 255).toBitVec
  have a4 := x.toBitVec.isLt
  rw [a1, if_pos (by omega)] at a3
  rw [a3, a2]
  split
  · omega
  · omega
theorem tr_byte (x : Int32) : trb x.toInt8.toInt32 (x &&& 255) := by
  have h1 : x.toInt8.toInt32.toInt = x.toInt.bmod (2 ^ 8) := by rw [Int8.toInt_toInt32, Int32.toInt_toInt8]
  unfold trb
  rw [h1, tr_low]
  unfold Int.bmod
  dsimp only
  split
  · omega
  · omega
theorem tr_sh0 (x : Int32) : (x.toUInt32 >>> ((0 : Int32).toUInt32 &&& Int32.toUInt32 31)).toInt32 = x := by
  have h : ((0 : Int32).toUInt32 &&& Int32.toUInt32 31) = 0 := by decide
  rw [h, UInt32.shiftRight_zero]
  rfl
theorem tr_push {n : Nat} {f t : Nat → Int32} {b v : Int32} (h : TR n f t) (hb : trb b v) : TR (n + 1) (upd f n b) (upd t n v) := by
  intro j hj
  by_cases h1 : j = n
  · rw [show upd f n b j = b from if_pos h1, show upd t n v j = v from if_pos h1]
    exact hb
  · rw [show upd f n b j = f j from if_neg h1, show upd t n v j = t j from if_neg h1]
    exact h j (by omega)
theorem nI_addk {n k : Nat} : nI n + nI k = nI (n + k) := nI_add n k
theorem px_put {n : Nat} (f : Nat → Int32) (p : Int32) (h : n ≤ 1596) : fX10_put (nI n) f p = (nI (n + 4), (upd (upd (upd (upd f (n + 0) ((p.toUInt32 >>> ((24 : Int32).toUInt32 &&& Int32.toUInt32 31)).toInt32.toInt8.toInt32)) (n + 1) ((p.toUInt32 >>> ((16 : Int32).toUInt32 &&& Int32.toUInt32 31)).toInt32.toInt8.toInt32)) (n + 2) ((p.toUInt32 >>> ((8 : Int32).toUInt32 &&& Int32.toUInt32 31)).toInt32.toInt8.toInt32)) (n + 3) (p.toInt8.toInt32))) := by
  unfold fX10_put
  rw [if_pos (show nI n ≤ (1596 : Int32) from nI_le (b := 1596) h (by omega))]
  rw [show nI n + (4 : Int32) = nI (n + 4) from nI_add n 4, show nI n + (1 : Int32) = nI (n + 1) from nI_add n 1, show nI n + (2 : Int32) = nI (n + 2) from nI_add n 2, show nI n + (3 : Int32) = nI (n + 3) from nI_add n 3]
  rw [nI_clamp (show n < 2147483648 by omega), nI_clamp (show n + 1 < 2147483648 by omega), nI_clamp (show n + 2 < 2147483648 by omega), nI_clamp (show n + 3 < 2147483648 by omega), pk_vb, pk_vb, pk_vb, pk_vb]
  rfl
theorem px_feed {n : Nat} (f : Nat → Int32) (p1 p2 p3 p4 p5 : Int32) (h : n ≤ 1580) : fX11_feed (nI n) f p1 p2 p3 p4 p5 = (nI (n + 20), nI (n + 20), (upd (upd (upd (upd (upd (upd (upd (upd (upd (upd (upd (upd (upd (upd (upd (upd (upd (upd (upd (upd f (n + 0) ((p1.toUInt32 >>> ((24 : Int32).toUInt32 &&& Int32.toUInt32 31)).toInt32.toInt8.toInt32)) (n + 1) ((p1.toUInt32 >>> ((16 : Int32).toUInt32 &&& Int32.toUInt32 31)).toInt32.toInt8.toInt32)) (n + 2) ((p1.toUInt32 >>> ((8 : Int32).toUInt32 &&& Int32.toUInt32 31)).toInt32.toInt8.toInt32)) (n + 3) (p1.toInt8.toInt32)) ((n + 4) + 0) ((p2.toUInt32 >>> ((24 : Int32).toUInt32 &&& Int32.toUInt32 31)).toInt32.toInt8.toInt32)) ((n + 4) + 1) ((p2.toUInt32 >>> ((16 : Int32).toUInt32 &&& Int32.toUInt32 31)).toInt32.toInt8.toInt32)) ((n + 4) + 2) ((p2.toUInt32 >>> ((8 : Int32).toUInt32 &&& Int32.toUInt32 31)).toInt32.toInt8.toInt32)) ((n + 4) + 3) (p2.toInt8.toInt32)) ((n + 8) + 0) ((p3.toUInt32 >>> ((24 : Int32).toUInt32 &&& Int32.toUInt32 31)).toInt32.toInt8.toInt32)) ((n + 8) + 1) ((p3.toUInt32 >>> ((16 : Int32).toUInt32 &&& Int32.toUInt32 31)).toInt32.toInt8.toInt32)) ((n + 8) + 2) ((p3.toUInt32 >>> ((8 : Int32).toUInt32 &&& Int32.toUInt32 31)).toInt32.toInt8.toInt32)) ((n + 8) + 3) (p3.toInt8.toInt32)) ((n + 12) + 0) ((p4.toUInt32 >>> ((24 : Int32).toUInt32 &&& Int32.toUInt32 31)).toInt32.toInt8.toInt32)) ((n + 12) + 1) ((p4.toUInt32 >>> ((16 : Int32).toUInt32 &&& Int32.toUInt32 31)).toInt32.toInt8.toInt32)) ((n + 12) + 2) ((p4.toUInt32 >>> ((8 : Int32).toUInt32 &&& Int32.toUInt32 31)).toInt32.toInt8.toInt32)) ((n + 12) + 3) (p4.toInt8.toInt32)) ((n + 16) + 0) ((p5.toUInt32 >>> ((24 : Int32).toUInt32 &&& Int32.toUInt32 31)).toInt32.toInt8.toInt32)) ((n + 16) + 1) ((p5.toUInt32 >>> ((16 : Int32).toUInt32 &&& Int32.toUInt32 31)).toInt32.toInt8.toInt32)) ((n + 16) + 2) ((p5.toUInt32 >>> ((8 : Int32).toUInt32 &&& Int32.toUInt32 31)).toInt32.toInt8.toInt32)) ((n + 16) + 3) (p5.toInt8.toInt32))) := by
  unfold fX11_feed
  rw [if_pos (show nI n ≤ (1580 : Int32) from nI_le (b := 1580) h (by omega))]
  rw [px_put f p1 (by omega), cal_b]
  rw [px_put _ p2 (by omega), cal_b]
  rw [px_put _ p3 (by omega), cal_b]
  rw [px_put _ p4 (by omega), cal_b]
  rw [px_put _ p5 (by omega), cal_b]
theorem mr_feed {n : Nat} {mi : Nat → Int32} (t : Nat → Int32) (p1 p2 p3 p4 p5 : Int32) (h26 : mi 26 = nI n) (h : n ≤ 1580) : fX12_feed mi t p1 p2 p3 p4 p5 = (nI (n + 20), nI (n + 20), (upd (upd (upd (upd (upd (upd (upd (upd (upd (upd (upd (upd (upd (upd (upd (upd (upd (upd (upd (upd t (n + 0) (((p1.toUInt32 >>> ((24 : Int32).toUInt32 &&& Int32.toUInt32 31)).toInt32 &&& 255))) (n + 1) (((p1.toUInt32 >>> ((16 : Int32).toUInt32 &&& Int32.toUInt32 31)).toInt32 &&& 255))) (n + 2) (((p1.toUInt32 >>> ((8 : Int32).toUInt32 &&& Int32.toUInt32 31)).toInt32 &&& 255))) (n + 3) (((p1.toUInt32 >>> ((0 : Int32).toUInt32 &&& Int32.toUInt32 31)).toInt32 &&& 255))) (n + 4) (((p2.toUInt32 >>> ((24 : Int32).toUInt32 &&& Int32.toUInt32 31)).toInt32 &&& 255))) (n + 5) (((p2.toUInt32 >>> ((16 : Int32).toUInt32 &&& Int32.toUInt32 31)).toInt32 &&& 255))) (n + 6) (((p2.toUInt32 >>> ((8 : Int32).toUInt32 &&& Int32.toUInt32 31)).toInt32 &&& 255))) (n + 7) (((p2.toUInt32 >>> ((0 : Int32).toUInt32 &&& Int32.toUInt32 31)).toInt32 &&& 255))) (n + 8) (((p3.toUInt32 >>> ((24 : Int32).toUInt32 &&& Int32.toUInt32 31)).toInt32 &&& 255))) (n + 9) (((p3.toUInt32 >>> ((16 : Int32).toUInt32 &&& Int32.toUInt32 31)).toInt32 &&& 255))) (n + 10) (((p3.toUInt32 >>> ((8 : Int32).toUInt32 &&& Int32.toUInt32 31)).toInt32 &&& 255))) (n + 11) (((p3.toUInt32 >>> ((0 : Int32).toUInt32 &&& Int32.toUInt32 31)).toInt32 &&& 255))) (n + 12) (((p4.toUInt32 >>> ((24 : Int32).toUInt32 &&& Int32.toUInt32 31)).toInt32 &&& 255))) (n + 13) (((p4.toUInt32 >>> ((16 : Int32).toUInt32 &&& Int32.toUInt32 31)).toInt32 &&& 255))) (n + 14) (((p4.toUInt32 >>> ((8 : Int32).toUInt32 &&& Int32.toUInt32 31)).toInt32 &&& 255))) (n + 15) (((p4.toUInt32 >>> ((0 : Int32).toUInt32 &&& Int32.toUInt32 31)).toInt32 &&& 255))) (n + 16) (((p5.toUInt32 >>> ((24 : Int32).toUInt32 &&& Int32.toUInt32 31)).toInt32 &&& 255))) (n + 17) (((p5.toUInt32 >>> ((16 : Int32).toUInt32 &&& Int32.toUInt32 31)).toInt32 &&& 255))) (n + 18) (((p5.toUInt32 >>> ((8 : Int32).toUInt32 &&& Int32.toUInt32 31)).toInt32 &&& 255))) (n + 19) (((p5.toUInt32 >>> ((0 : Int32).toUInt32 &&& Int32.toUInt32 31)).toInt32 &&& 255)))) := by
  unfold fX12_feed
  rw [h26, if_pos (show nI n ≤ (1580 : Int32) from nI_le (b := 1580) h (by omega))]
  rw [show (nI n + (0 : Int32)).toNatClampNeg = n + 0 from by rw [show nI n + (0 : Int32) = nI (n + 0) from nI_add n 0]; exact nI_clamp (by omega)]
  rw [show (nI n + (1 : Int32)).toNatClampNeg = n + 1 from by rw [show nI n + (1 : Int32) = nI (n + 1) from nI_add n 1]; exact nI_clamp (by omega)]
  rw [show (nI n + (2 : Int32)).toNatClampNeg = n + 2 from by rw [show nI n + (2 : Int32) = nI (n + 2) from nI_add n 2]; exact nI_clamp (by omega)]
  rw [show (nI n + (3 : Int32)).toNatClampNeg = n + 3 from by rw [show nI n + (3 : Int32) = nI (n + 3) from nI_add n 3]; exact nI_clamp (by omega)]
  rw [show (nI n + (4 : Int32)).toNatClampNeg = n + 4 from by rw [show nI n + (4 : Int32) = nI (n + 4) from nI_add n 4]; exact nI_clamp (by omega)]
  rw [show (nI n + (5 : Int32)).toNatClampNeg = n + 5 from by rw [show nI n + (5 : Int32) = nI (n + 5) from nI_add n 5]; exact nI_clamp (by omega)]
  rw [show (nI n + (6 : Int32)).toNatClampNeg = n + 6 from by rw [show nI n + (6 : Int32) = nI (n + 6) from nI_add n 6]; exact nI_clamp (by omega)]
  rw [show (nI n + (7 : Int32)).toNatClampNeg = n + 7 from by rw [show nI n + (7 : Int32) = nI (n + 7) from nI_add n 7]; exact nI_clamp (by omega)]
  rw [show (nI n + (8 : Int32)).toNatClampNeg = n + 8 from by rw [show nI n + (8 : Int32) = nI (n + 8) from nI_add n 8]; exact nI_clamp (by omega)]
  rw [show (nI n + (9 : Int32)).toNatClampNeg = n + 9 from by rw [show nI n + (9 : Int32) = nI (n + 9) from nI_add n 9]; exact nI_clamp (by omega)]
  rw [show (nI n + (10 : Int32)).toNatClampNeg = n + 10 from by rw [show nI n + (10 : Int32) = nI (n + 10) from nI_add n 10]; exact nI_clamp (by omega)]
  rw [show (nI n + (11 : Int32)).toNatClampNeg = n + 11 from by rw [show nI n + (11 : Int32) = nI (n + 11) from nI_add n 11]; exact nI_clamp (by omega)]
  rw [show (nI n + (12 : Int32)).toNatClampNeg = n + 12 from by rw [show nI n + (12 : Int32) = nI (n + 12) from nI_add n 12]; exact nI_clamp (by omega)]
  rw [show (nI n + (13 : Int32)).toNatClampNeg = n + 13 from by rw [show nI n + (13 : Int32) = nI (n + 13) from nI_add n 13]; exact nI_clamp (by omega)]
  rw [show (nI n + (14 : Int32)).toNatClampNeg = n + 14 from by rw [show nI n + (14 : Int32) = nI (n + 14) from nI_add n 14]; exact nI_clamp (by omega)]
  rw [show (nI n + (15 : Int32)).toNatClampNeg = n + 15 from by rw [show nI n + (15 : Int32) = nI (n + 15) from nI_add n 15]; exact nI_clamp (by omega)]
  rw [show (nI n + (16 : Int32)).toNatClampNeg = n + 16 from by rw [show nI n + (16 : Int32) = nI (n + 16) from nI_add n 16]; exact nI_clamp (by omega)]
  rw [show (nI n + (17 : Int32)).toNatClampNeg = n + 17 from by rw [show nI n + (17 : Int32) = nI (n + 17) from nI_add n 17]; exact nI_clamp (by omega)]
  rw [show (nI n + (18 : Int32)).toNatClampNeg = n + 18 from by rw [show nI n + (18 : Int32) = nI (n + 18) from nI_add n 18]; exact nI_clamp (by omega)]
  rw [show (nI n + (19 : Int32)).toNatClampNeg = n + 19 from by rw [show nI n + (19 : Int32) = nI (n + 19) from nI_add n 19]; exact nI_clamp (by omega)]
  rw [show nI n + (20 : Int32) = nI (n + 20) from nI_add n 20]
  rfl
theorem tr_feed {n : Nat} {f t : Nat → Int32} (p1 p2 p3 p4 p5 : Int32) (h : TR n f t) : TR (n + 20) (upd (upd (upd (upd (upd (upd (upd (upd (upd (upd (upd (upd (upd (upd (upd (upd (upd (upd (upd (upd f (n + 0) ((p1.toUInt32 >>> ((24 : Int32).toUInt32 &&& Int32.toUInt32 31)).toInt32.toInt8.toInt32)) (n + 1) ((p1.toUInt32 >>> ((16 : Int32).toUInt32 &&& Int32.toUInt32 31)).toInt32.toInt8.toInt32)) (n + 2) ((p1.toUInt32 >>> ((8 : Int32).toUInt32 &&& Int32.toUInt32 31)).toInt32.toInt8.toInt32)) (n + 3) (p1.toInt8.toInt32)) ((n + 4) + 0) ((p2.toUInt32 >>> ((24 : Int32).toUInt32 &&& Int32.toUInt32 31)).toInt32.toInt8.toInt32)) ((n + 4) + 1) ((p2.toUInt32 >>> ((16 : Int32).toUInt32 &&& Int32.toUInt32 31)).toInt32.toInt8.toInt32)) ((n + 4) + 2) ((p2.toUInt32 >>> ((8 : Int32).toUInt32 &&& Int32.toUInt32 31)).toInt32.toInt8.toInt32)) ((n + 4) + 3) (p2.toInt8.toInt32)) ((n + 8) + 0) ((p3.toUInt32 >>> ((24 : Int32).toUInt32 &&& Int32.toUInt32 31)).toInt32.toInt8.toInt32)) ((n + 8) + 1) ((p3.toUInt32 >>> ((16 : Int32).toUInt32 &&& Int32.toUInt32 31)).toInt32.toInt8.toInt32)) ((n + 8) + 2) ((p3.toUInt32 >>> ((8 : Int32).toUInt32 &&& Int32.toUInt32 31)).toInt32.toInt8.toInt32)) ((n + 8) + 3) (p3.toInt8.toInt32)) ((n + 12) + 0) ((p4.toUInt32 >>> ((24 : Int32).toUInt32 &&& Int32.toUInt32 31)).toInt32.toInt8.toInt32)) ((n + 12) + 1) ((p4.toUInt32 >>> ((16 : Int32).toUInt32 &&& Int32.toUInt32 31)).toInt32.toInt8.toInt32)) ((n + 12) + 2) ((p4.toUInt32 >>> ((8 : Int32).toUInt32 &&& Int32.toUInt32 31)).toInt32.toInt8.toInt32)) ((n + 12) + 3) (p4.toInt8.toInt32)) ((n + 16) + 0) ((p5.toUInt32 >>> ((24 : Int32).toUInt32 &&& Int32.toUInt32 31)).toInt32.toInt8.toInt32)) ((n + 16) + 1) ((p5.toUInt32 >>> ((16 : Int32).toUInt32 &&& Int32.toUInt32 31)).toInt32.toInt8.toInt32)) ((n + 16) + 2) ((p5.toUInt32 >>> ((8 : Int32).toUInt32 &&& Int32.toUInt32 31)).toInt32.toInt8.toInt32)) ((n + 16) + 3) (p5.toInt8.toInt32)) (upd (upd (upd (upd (upd (upd (upd (upd (upd (upd (upd (upd (upd (upd (upd (upd (upd (upd (upd (upd t (n + 0) (((p1.toUInt32 >>> ((24 : Int32).toUInt32 &&& Int32.toUInt32 31)).toInt32 &&& 255))) (n + 1) (((p1.toUInt32 >>> ((16 : Int32).toUInt32 &&& Int32.toUInt32 31)).toInt32 &&& 255))) (n + 2) (((p1.toUInt32 >>> ((8 : Int32).toUInt32 &&& Int32.toUInt32 31)).toInt32 &&& 255))) (n + 3) (((p1.toUInt32 >>> ((0 : Int32).toUInt32 &&& Int32.toUInt32 31)).toInt32 &&& 255))) (n + 4) (((p2.toUInt32 >>> ((24 : Int32).toUInt32 &&& Int32.toUInt32 31)).toInt32 &&& 255))) (n + 5) (((p2.toUInt32 >>> ((16 : Int32).toUInt32 &&& Int32.toUInt32 31)).toInt32 &&& 255))) (n + 6) (((p2.toUInt32 >>> ((8 : Int32).toUInt32 &&& Int32.toUInt32 31)).toInt32 &&& 255))) (n + 7) (((p2.toUInt32 >>> ((0 : Int32).toUInt32 &&& Int32.toUInt32 31)).toInt32 &&& 255))) (n + 8) (((p3.toUInt32 >>> ((24 : Int32).toUInt32 &&& Int32.toUInt32 31)).toInt32 &&& 255))) (n + 9) (((p3.toUInt32 >>> ((16 : Int32).toUInt32 &&& Int32.toUInt32 31)).toInt32 &&& 255))) (n + 10) (((p3.toUInt32 >>> ((8 : Int32).toUInt32 &&& Int32.toUInt32 31)).toInt32 &&& 255))) (n + 11) (((p3.toUInt32 >>> ((0 : Int32).toUInt32 &&& Int32.toUInt32 31)).toInt32 &&& 255))) (n + 12) (((p4.toUInt32 >>> ((24 : Int32).toUInt32 &&& Int32.toUInt32 31)).toInt32 &&& 255))) (n + 13) (((p4.toUInt32 >>> ((16 : Int32).toUInt32 &&& Int32.toUInt32 31)).toInt32 &&& 255))) (n + 14) (((p4.toUInt32 >>> ((8 : Int32).toUInt32 &&& Int32.toUInt32 31)).toInt32 &&& 255))) (n + 15) (((p4.toUInt32 >>> ((0 : Int32).toUInt32 &&& Int32.toUInt32 31)).toInt32 &&& 255))) (n + 16) (((p5.toUInt32 >>> ((24 : Int32).toUInt32 &&& Int32.toUInt32 31)).toInt32 &&& 255))) (n + 17) (((p5.toUInt32 >>> ((16 : Int32).toUInt32 &&& Int32.toUInt32 31)).toInt32 &&& 255))) (n + 18) (((p5.toUInt32 >>> ((8 : Int32).toUInt32 &&& Int32.toUInt32 31)).toInt32 &&& 255))) (n + 19) (((p5.toUInt32 >>> ((0 : Int32).toUInt32 &&& Int32.toUInt32 31)).toInt32 &&& 255))) := (tr_push (n := n + 19) (tr_push (n := n + 18) (tr_push (n := n + 17) (tr_push (n := n + 16) (tr_push (n := n + 15) (tr_push (n := n + 14) (tr_push (n := n + 13) (tr_push (n := n + 12) (tr_push (n := n + 11) (tr_push (n := n + 10) (tr_push (n := n + 9) (tr_push (n := n + 8) (tr_push (n := n + 7) (tr_push (n := n + 6) (tr_push (n := n + 5) (tr_push (n := n + 4) (tr_push (n := n + 3) (tr_push (n := n + 2) (tr_push (n := n + 1) (tr_push (n := n + 0) h (tr_byte (p1.toUInt32 >>> ((24 : Int32).toUInt32 &&& Int32.toUInt32 31)).toInt32)) (tr_byte (p1.toUInt32 >>> ((16 : Int32).toUInt32 &&& Int32.toUInt32 31)).toInt32)) (tr_byte (p1.toUInt32 >>> ((8 : Int32).toUInt32 &&& Int32.toUInt32 31)).toInt32)) (by rw [tr_sh0]; exact tr_byte p1)) (tr_byte (p2.toUInt32 >>> ((24 : Int32).toUInt32 &&& Int32.toUInt32 31)).toInt32)) (tr_byte (p2.toUInt32 >>> ((16 : Int32).toUInt32 &&& Int32.toUInt32 31)).toInt32)) (tr_byte (p2.toUInt32 >>> ((8 : Int32).toUInt32 &&& Int32.toUInt32 31)).toInt32)) (by rw [tr_sh0]; exact tr_byte p2)) (tr_byte (p3.toUInt32 >>> ((24 : Int32).toUInt32 &&& Int32.toUInt32 31)).toInt32)) (tr_byte (p3.toUInt32 >>> ((16 : Int32).toUInt32 &&& Int32.toUInt32 31)).toInt32)) (tr_byte (p3.toUInt32 >>> ((8 : Int32).toUInt32 &&& Int32.toUInt32 31)).toInt32)) (by rw [tr_sh0]; exact tr_byte p3)) (tr_byte (p4.toUInt32 >>> ((24 : Int32).toUInt32 &&& Int32.toUInt32 31)).toInt32)) (tr_byte (p4.toUInt32 >>> ((16 : Int32).toUInt32 &&& Int32.toUInt32 31)).toInt32)) (tr_byte (p4.toUInt32 >>> ((8 : Int32).toUInt32 &&& Int32.toUInt32 31)).toInt32)) (by rw [tr_sh0]; exact tr_byte p4)) (tr_byte (p5.toUInt32 >>> ((24 : Int32).toUInt32 &&& Int32.toUInt32 31)).toInt32)) (tr_byte (p5.toUInt32 >>> ((16 : Int32).toUInt32 &&& Int32.toUInt32 31)).toInt32)) (tr_byte (p5.toUInt32 >>> ((8 : Int32).toUInt32 &&& Int32.toUInt32 31)).toInt32)) (by rw [tr_sh0]; exact tr_byte p5))
theorem aQ_eq {L n : Nat} {bt : Nat → Int32} {a : aS} {c : C5} {p : M7} (h : aQ L n bt a c p) : c.1 = p.1 ∧ c.2.1 = p.2.1 := by
  cases hq : a.1 with
  | false =>
    obtain ⟨s, -, g2, g3, -, -, -, -, -, l2, l3, -⟩ := aQ_ok h hq
    exact ⟨g2.trans l2.symm, g3.trans l3.symm⟩
  | true =>
    rcases aRC_cases h.1 with ⟨-, -, h2, h3⟩ | ⟨s, h1, -⟩
    · have h4 := h.2.1
      unfold aR7 at h4
      rw [if_pos hq] at h4
      exact ⟨h2.trans h4.2.2.1.symm, h3.trans h4.2.2.2.symm⟩
    · rw [h1] at hq
      exact absurd hq (by intro q; cases q)
set_option maxRecDepth 100000 in
theorem alm_core {n : Nat} {bt tp mi cg0 cg1 cg2 cg3 cg4 cg5 cg6 cg7 cg8 cg9 cg10 cg11 ry0 ry1 ry2 ry3 ry4 ry5 ry6 ry7 ry8 ry9 ry10 ry11 ry12 : Nat → Int32} {cs ts hs tok st : Int32} (hn : n ≤ 1600) (hT : TR n bt tp) (h26 : mi 26 = nI n) {O : Int32 × Int32 × Int32 × Int32 × Int32 × Int32 × Int32 × Int32 × Int32 × Int32 × Int32 × Int32 × Int32 × Int32 × Int32 × Int32 × Int32 × Int32 × Int32 × Int32 × (Nat → Int32) × (Nat → Int32) × (Nat → Int32) × (Nat → Int32) × (Nat → Int32) × (Nat → Int32) × (Nat → Int32) × (Nat → Int32) × (Nat → Int32) × (Nat → Int32) × (Nat → Int32) × (Nat → Int32)} (hO : O = fX11_almanac cs ts hs tok st (nI n) bt cg0 cg1 cg2 cg3 cg4 cg5 cg6 cg7 cg8 cg9 cg10 cg11) {U : Int32 × Int32 × Int32 × Int32 × Int32 × Int32 × Int32 × Int32 × Int32 × Int32 × Int32 × Int32 × Int32 × Int32 × Int32 × Int32 × Int32 × Int32 × Int32 × Int32 × Int32 × (Nat → Int32) × (Nat → Int32) × (Nat → Int32) × (Nat → Int32) × (Nat → Int32) × (Nat → Int32) × (Nat → Int32) × (Nat → Int32) × (Nat → Int32) × (Nat → Int32) × (Nat → Int32) × (Nat → Int32) × (Nat → Int32)} (hU : U = fX12_almanac mi tp ry0 ry1 ry2 ry3 ry4 ry5 ry6 ry7 ry8 ry9 ry10 ry11 ry12) : O.1 = U.1 ∧ O.2.2.2.2.1 = U.2.2.2.2.2.2.2.2.2.2.2.2.2.2.1 ∧ O.2.2.2.2.2.1 = U.2.2.2.2.2.2.2.2.2.2.2.2.2.2.2.1 ∧ O.2.2.2.2.2.2.2.2.2.1 = 0 ∧ U.2.2.2.2.2.2.2.2.2.2.2.2.2.1 = 0 ∧ (O.2.2.2.2.1 = 0 → DRel n O.2.2.2.2.2.2.2.2.2.2.1 O.2.2.2.2.2.2.2.2.2.2.2.1 O.2.2.2.2.2.2.2.2.2.2.2.2.1 O.2.2.2.2.2.2.2.2.2.2.2.2.2.1 O.2.2.2.2.2.2.2.2.2.2.2.2.2.2.1 O.2.2.2.2.2.2.2.2.2.2.2.2.2.2.2.1 O.2.2.2.2.2.2.2.2.2.2.2.2.2.2.2.2.1 O.2.2.2.2.2.2.2.2.2.2.2.2.2.2.2.2.2.1 O.2.2.2.2.2.2.2.2.2.2.2.2.2.2.2.2.2.2.1 O.2.2.2.2.2.2.2.2.2.2.2.2.2.2.2.2.2.2.2.1 O.2.2.2.2.2.2.2.2.2.2.2.2.2.2.2.2.2.2.2.2.1 O.2.2.2.2.2.2.2.2.2.2.2.2.2.2.2.2.2.2.2.2.2.1 O.2.2.2.2.2.2.2.2.2.2.2.2.2.2.2.2.2.2.2.2.2.2.1 O.2.2.2.2.2.2.2.2.2.2.2.2.2.2.2.2.2.2.2.2.2.2.2.1 O.2.2.2.2.2.2.2.2.2.2.2.2.2.2.2.2.2.2.2.2.2.2.2.2.1 O.2.2.2.2.2.2.2.2.2.2.2.2.2.2.2.2.2.2.2.2.2.2.2.2.2.1 O.2.2.2.2.2.2.2.2.2.2.2.2.2.2.2.2.2.2.2.2.2.2.2.2.2.2.1 O.2.2.2.2.2.2.2.2.2.2.2.2.2.2.2.2.2.2.2.2.2.2.2.2.2.2.2.1 O.2.2.2.2.2.2.2.2.2.2.2.2.2.2.2.2.2.2.2.2.2.2.2.2.2.2.2.2.1 O.2.2.2.2.2.2.2.2.2.2.2.2.2.2.2.2.2.2.2.2.2.2.2.2.2.2.2.2.2.1 O.2.2.2.2.2.2.2.2.2.2.2.2.2.2.2.2.2.2.2.2.2.2.2.2.2.2.2.2.2.2.1 O.2.2.2.2.2.2.2.2.2.2.2.2.2.2.2.2.2.2.2.2.2.2.2.2.2.2.2.2.2.2.2 U.2.1 U.2.2.1 U.2.2.2.1 U.2.2.2.2.1 U.2.2.2.2.2.1 U.2.2.2.2.2.2.1 U.2.2.2.2.2.2.2.1 U.2.2.2.2.2.2.2.2.1 U.2.2.2.2.2.2.2.2.2.1 U.2.2.2.2.2.2.2.2.2.2.1 U.2.2.2.2.2.2.2.2.2.2.2.2.2.2.2.2.2.2.2.2.2.2.2.1 U.2.2.2.2.2.2.2.2.2.2.2.2.2.2.2.2.2.2.2.2.2.2.1 U.2.2.2.2.2.2.2.2.2.2.2.2.2.2.2.2.2.2.2.2.2.2.2.2.1 U.2.2.2.2.2.2.2.2.2.2.2.2.2.2.2.2.2.2.2.2.2.2.2.2.2.1 U.2.2.2.2.2.2.2.2.2.2.2.2.2.2.2.2.2.2.2.2.2.2.2.2.2.2.1 U.2.2.2.2.2.2.2.2.2.2.2.2.2.2.2.2.2.2.2.2.2.2.2.2.2.2.2.1 U.2.2.2.2.2.2.2.2.2.2.2.2.2.2.2.2.2.2.2.2.2.2.2.2.2.2.2.2.1 U.2.2.2.2.2.2.2.2.2.2.2.2.2.2.2.2.2.2.2.2.2.2.2.2.2.2.2.2.2.2.2.2.2 U.2.2.2.2.2.2.2.2.2.2.2.2.2.2.2.2.2.2.2.2.2.2.2.2.2.2.2.2.2.1 U.2.2.2.2.2.2.2.2.2.2.2.2.2.2.2.2.2.2.2.2.2.2.2.2.2.2.2.2.2.2.1 U.2.2.2.2.2.2.2.2.2.2.2.2.2.2.2.2.2.2.2.2.2.2.2.2.2.2.2.2.2.2.2.1 U.2.2.2.2.2.2.2.2.2.2.2.2.2.2.2.2.2.2.2.2.2.2.2.2.2.2.2.2.2.2.2.2.1) := by
  unfold fX11_almanac at hO
  obtain ⟨o1, e1, hO⟩ := cal_out hO
  unfold fX6_read at e1
  obtain ⟨w, ew, e1⟩ := cal_out e1
  obtain ⟨q, eq, e1⟩ := cal_out e1
  unfold fX0_wipe at ew
  subst ew
  unfold fX12_almanac at hU
  obtain ⟨k, ek, hU⟩ := cal_out hU
  obtain ⟨x, ex, hU⟩ := cal_out hU
  obtain ⟨s0, hs0⟩ : ∃ s, s = prun (fun j => cB (bt j).toInt) (n - 0) 0 := ⟨_, rfl⟩
  have hs0n : s0 ≤ n := by
    have g := prun_le (fun j => cB (bt j).toInt) (n - 0) 0
    omega
  have eq : q = (nI (ptok (fun j => (bt j).toInt) n s0).1, nI s0, nI (ptok (fun j => (bt j).toInt) n s0).2) := by
    rw [hs0]
    exact eq.trans (px_step (p := 0) hn (Nat.zero_le _))
  have hsr : prun (fun j => cB (tp j).toInt) (n - 0) 0 = s0 := by
    rw [hs0]
    exact prun_eq _ _ (fun j g1 g2 => tr_B hT (by omega))
  obtain ⟨wv, ev1, ev2⟩ := pr_next (tp := tp) (mi := (upd (upd (upd (upd (upd (upd (upd (upd (upd (upd (upd (upd (upd (upd (upd (upd mi 0 0) 1 0) 2 0) 3 0) 4 0) 5 0) 6 0) 7 0) 10 0) 17 0) 23 k.2.2.2.2.2.2.2.2.2.2.1) 24 k.2.2.2.2.2.2.2.2.2.2.2.1) 27 0) 28 (-1)) 29 0) 33 0)) (p := 0) hn (Nat.zero_le _) h26 rfl
  rw [hsr, tr_tok hT] at ev1
  rw [hsr, tr_val hT] at ev2
  have ex : x = (nI (ptok (fun j => (bt j).toInt) n s0).2, nI s0, nI (pkind (ptok (fun j => (bt j).toInt) n s0).1), wv) := ex.trans ev1
  subst eq ex
  have hQ : aQ s0 n bt (aOk s0) (0, -1, nI (ptok (fun j => (bt j).toInt) n s0).1, nI s0, nI (ptok (fun j => (bt j).toInt) n s0).2) (0, -1, nI (ptok (fun j => (bt j).toInt) n s0).2, nI s0, nI (pkind (ptok (fun j => (bt j).toInt) n s0).1), wv, 0) := by
    refine ⟨aRC_ok hs0n, ?_, fun _ => ⟨Nat.le_refl _, hs0n⟩⟩
    unfold aR7
    rw [if_neg (show ¬ (aOk s0).1 = true from Bool.false_ne_true)]
    exact ⟨rfl, rfl, rfl, rfl, hs0n, rfl, rfl, rfl, ev2⟩
  have z0 : (0 : Int32).toInt = 0 := by decide
  have hDD : ∀ (nm xt xp xk xm xd xn xs xa xb xl xi lt yt yp yk ym yd yn ys ya yb yl yi : Nat → Int32), DRel s0 0 0 0 0 0 0 0 0 0 0 nm xt xp xk xm xd xn xs xa xb xl xi 0 0 0 0 0 0 0 0 0 0 lt yt yp yk ym yd yn ys ya yb yl yi := by
    intro nm xt xp xk xm xd xn xs xa xb xl xi lt yt yp yk ym yd yn ys ya yb yl yi
    refine ⟨⟨⟨rfl, rfl, rfl, rfl, rfl, rfl, rfl⟩, ⟨0, 0, 0, by omega, by omega, by omega, rfl, rfl, rfl, rfl, rfl, rfl, fun p hp => absurd hp (by omega), fun j hj => absurd hj (by omega), fun j hj => absurd hj (by omega), fun j hj => absurd hj (by omega), fun _ => ⟨rfl, rfl⟩, fun p hp => absurd hp (by omega), fun p q hp => absurd hp (by omega), fun j hj => absurd hj (by omega), fun j hj => absurd hj (by omega)⟩, by rw [z0]; omega, by rw [z0]; omega⟩, fun q => absurd rfl q, fun _ => rfl⟩
  obtain ⟨X, Y, a, hXe, hYe, hQ2, hD2⟩ := rd_loop (ctok := tok) (cst := st) (w23 := k.2.2.2.2.2.2.2.2.2.2.1) (w24 := k.2.2.2.2.2.2.2.2.2.2.2.1) (kp := k.2.2.2.2.2.2.2.2.2.2.2.2.1) (mi := mi) (cg0 := cg0) (cg1 := cg1) (cg2 := cg2) (cg3 := cg3) (cg4 := cg4) (cg5 := cg5) (cg6 := cg6) (cg7 := cg7) (cg8 := cg8) (cg9 := cg9) (cg10 := cg10) (cg11 := cg11) (ry0 := ry0) (ry1 := ry1) (ry2 := ry2) (ry3 := ry3) (ry4 := ry4) (ry5 := ry5) (ry6 := ry6) (ry7 := ry7) (ry8 := ry8) (ry9 := ry9) (ry10 := ry10) (ry11 := ry11) (ry12 := ry12) hn hT h26 (n + 1) s0 0 1000000000 1000000000 (0, -1, nI (ptok (fun j => (bt j).toInt) n s0).1, nI s0, nI (ptok (fun j => (bt j).toInt) n s0).2) (0, -1, nI (ptok (fun j => (bt j).toInt) n s0).2, nI s0, nI (pkind (ptok (fun j => (bt j).toInt) n s0).1), wv, 0) 0 0 0 0 0 0 0 0 0 0 0 0 0 0 0 0 0 0 0 0 cg0 cg1 cg2 cg3 cg4 cg5 cg6 cg7 cg8 cg9 cg10 cg11 k.2.2.2.2.2.2.2.2.2.2.2.2.2.2.1 k.2.2.2.2.2.2.2.2.2.2.2.2.2.1 k.2.2.2.2.2.2.2.2.2.2.2.2.2.2.2.1 k.2.2.2.2.2.2.2.2.2.2.2.2.2.2.2.2.1 k.2.2.2.2.2.2.2.2.2.2.2.2.2.2.2.2.2.1 k.2.2.2.2.2.2.2.2.2.2.2.2.2.2.2.2.2.2.1 k.2.2.2.2.2.2.2.2.2.2.2.2.2.2.2.2.2.2.2.1 k.2.2.2.2.2.2.2.2.2.2.2.2.2.2.2.2.2.2.2.2.2.2.2.2 k.2.2.2.2.2.2.2.2.2.2.2.2.2.2.2.2.2.2.2.2.1 k.2.2.2.2.2.2.2.2.2.2.2.2.2.2.2.2.2.2.2.2.2.1 k.2.2.2.2.2.2.2.2.2.2.2.2.2.2.2.2.2.2.2.2.2.2.1 k.2.2.2.2.2.2.2.2.2.2.2.2.2.2.2.2.2.2.2.2.2.2.2.1 (by omega) (by omega) hs0n (by omega) (by omega) hQ (hDD _ _ _ _ _ _ _ _ _ _ _ _ _ _ _ _ _ _ _ _ _ _ _ _)
  have e1 : o1 = X := e1.trans hXe
  have hU := hU.trans hYe
  subst e1
  unfold bfX12_almanac_100 at hU
  obtain ⟨c1, c2⟩ := aQ_eq hQ2
  by_cases ha : a.1 = false
  · rw [if_pos ((aQ_fk hQ2).mpr ha)] at hO
    rw [if_pos ((aQ_33 hQ2).mpr ha)] at hU
    obtain ⟨fo, -, hO⟩ := cal_out hO
    have hD3 := hD2 ha
    subst hO hU
    exact ⟨hD3.1.1.2.2.2.1, c1, c2, rfl, rfl, fun _ => hD3⟩
  · have hb : ¬ o1.1 = 0 := fun q => ha ((aQ_fk hQ2).mp q)
    rw [if_neg hb] at hO
    rw [if_neg (fun q => ha ((aQ_33 hQ2).mp q))] at hU
    obtain ⟨fu, -, hU⟩ := cal_out hU
    subst hO hU
    exact ⟨rfl, c1, c2, rfl, rfl, fun q => absurd q hb⟩
def REL0 (vx : Nat → Int32) (fx : Nat → Nat → Int32) (mi : Nat → Int32) (fm : Nat → Nat → Int32) : Prop :=
  (∃ n : Nat, n ≤ 1600 ∧ vx 10 = nI n ∧ mi 26 = nI n ∧ TR n (fx 0) (fm 13)) ∧ vx 5 = mi 27 ∧ vx 6 = mi 28
theorem rl_feed {vx : Nat → Int32} {fx : Nat → Nat → Int32} {gx : Nat → Nat → Int64} {mi : Nat → Int32} {fm : Nat → Nat → Int32} (h : REL0 vx fx mi fm) {r r2 : Int32} {v : Nat → Int32} {f : Nat → Nat → Int32} {g : Nat → Nat → Int64} {mi2 : Nat → Int32} {fm2 : Nat → Nat → Int32} {p1 p2 p3 p4 p5 : Int32} (hx : (r, v, f, g) = xs_feed vx fx gx p1 p2 p3 p4 p5) (hm : (r2, mi2, fm2) = ms_feed mi fm p1 p2 p3 p4 p5) : REL0 v f mi2 fm2 ∧ r = r2 := by
  obtain ⟨⟨n, hn, h10, h26, hT⟩, h5, h6⟩ := h
  unfold xs_feed xt_feed at hx
  unfold ms_feed mt_feed at hm
  rw [h10] at hx
  have e1 := congrArg (fun o => o.1) hx
  have e2 := congrArg (fun o => o.2.1) hx
  have e3 := congrArg (fun o => o.2.2.1) hx
  have d1 := congrArg (fun o => o.1) hm
  have d2 := congrArg (fun o => o.2.1) hm
  have d3 := congrArg (fun o => o.2.2) hm
  dsimp only at e1 e2 e3 d1 d2 d3
  by_cases h1 : n ≤ 1580
  · rw [px_feed (fx 0) p1 p2 p3 p4 p5 h1] at e1 e2 e3
    rw [mr_feed (fm 13) p1 p2 p3 p4 p5 h26 h1] at d1 d2 d3
    subst e1 e2 e3 d1 d2 d3
    exact ⟨⟨⟨n + 20, by omega, rfl, rfl, tr_feed p1 p2 p3 p4 p5 hT⟩, h5, h6⟩, rfl⟩
  · have c1 : fX11_feed (nI n) (fx 0) p1 p2 p3 p4 p5 = (-1, nI n, fx 0) := by
      unfold fX11_feed
      exact if_neg (show ¬ nI n ≤ (1580 : Int32) from nI_ge (a := 1580) (b := n) (by omega) (by omega))
    have c2 : fX12_feed mi (fm 13) p1 p2 p3 p4 p5 = (-1, nI n, fm 13) := by
      unfold fX12_feed
      rw [h26]
      exact if_neg (show ¬ nI n ≤ (1580 : Int32) from nI_ge (a := 1580) (b := n) (by omega) (by omega))
    rw [c1] at e1 e2 e3
    rw [c2] at d1 d2 d3
    subst e1 e2 e3 d1 d2 d3
    exact ⟨⟨⟨n, hn, rfl, rfl, hT⟩, h5, h6⟩, rfl⟩
theorem rl_end {vx : Nat → Int32} {fx : Nat → Nat → Int32} {gx : Nat → Nat → Int64} {mi : Nat → Int32} {fm : Nat → Nat → Int32} (h : REL0 vx fx mi fm) {r r2 : Int32} {v : Nat → Int32} {f : Nat → Nat → Int32} {g : Nat → Nat → Int64} {mi2 : Nat → Int32} {fm2 : Nat → Nat → Int32} {p1 : Int32} (hx : (r, v, f, g) = xs_end vx fx gx p1) (hm : (r2, mi2, fm2) = ms_end mi fm p1) : REL0 v f mi2 fm2 ∧ r = r2 := by
  obtain ⟨⟨n, hn, h10, h26, hT⟩, h5, h6⟩ := h
  unfold xs_end xt_end at hx
  unfold ms_end mt_end at hm
  rw [h10] at hx
  have e1 := congrArg (fun o => o.1) hx
  have e2 := congrArg (fun o => o.2.1) hx
  have e3 := congrArg (fun o => o.2.2.1) hx
  have d1 := congrArg (fun o => o.1) hm
  have d2 := congrArg (fun o => o.2.1) hm
  have d3 := congrArg (fun o => o.2.2) hm
  dsimp only at e1 e2 e3 d1 d2 d3
  have z0 : (0 : Int32).toInt = 0 := by decide
  have z64 : (0 : Int64).toInt = 0 := by decide
  have hn1 := nI_toInt (n := n) (by omega)
  have c2 : fX12_end mi p1 = if fX12_in p1.toInt64 (0 : Int64) (nI n).toInt64 = 0 then (-1, nI n) else (p1, p1) := by
    unfold fX12_end
    rw [cal_b, h26]
  by_cases h1 : 0 ≤ p1.toInt ∧ p1.toInt ≤ (n : Int)
  · have c1 : fX11_end (nI n) p1 = (p1, p1) := by
      unfold fX11_end
      rw [if_neg (fun q => absurd (Int32.lt_iff_toInt_lt.mp q) (by rw [z0]; omega))]
      exact if_pos (Int32.le_iff_toInt_le.mpr (by rw [hn1]; omega))
    have c3 : fX12_in p1.toInt64 (0 : Int64) (nI n).toInt64 = 1 := by
      rw [pr_in64, Int32.toInt_toInt64, Int32.toInt_toInt64, z64, hn1]
      exact if_pos h1
    rw [c3, if_neg (by decide)] at c2
    rw [c1] at e1 e2
    rw [c2] at d1 d2
    subst e2 e3 d2 d3
    have hk : p1 = nI p1.toInt.toNat := Int32.toInt_inj.mp (by rw [nI_toInt (by omega)]; omega)
    exact ⟨⟨⟨p1.toInt.toNat, by omega, hk, hk, fun j hj => hT j (by omega)⟩, h5, h6⟩, e1.trans d1.symm⟩
  · have c1 : fX11_end (nI n) p1 = (-1, nI n) := by
      unfold fX11_end bfX11_end_18
      by_cases h2 : p1 < 0
      · exact if_pos h2
      · rw [if_neg h2]
        have h3 : ¬ p1.toInt < 0 := fun q => h2 (Int32.lt_iff_toInt_lt.mpr (by rw [z0]; exact q))
        exact if_neg (fun q => absurd (Int32.le_iff_toInt_le.mp q) (by rw [hn1]; omega))
    have c3 : fX12_in p1.toInt64 (0 : Int64) (nI n).toInt64 = 0 := by
      rw [pr_in64, Int32.toInt_toInt64, Int32.toInt_toInt64, z64, hn1]
      exact if_neg h1
    rw [c3, if_pos rfl] at c2
    rw [c1] at e1 e2
    rw [c2] at d1 d2
    subst e1 e2 e3 d1 d2 d3
    exact ⟨⟨⟨n, hn, rfl, rfl, hT⟩, h5, h6⟩, rfl⟩
theorem rl_fault {vx : Nat → Int32} {fx : Nat → Nat → Int32} {gx : Nat → Nat → Int64} {mi : Nat → Int32} {fm : Nat → Nat → Int32} (h : REL0 vx fx mi fm) {r r2 : Int32} {v : Nat → Int32} {f : Nat → Nat → Int32} {g : Nat → Nat → Int64} {mi2 : Nat → Int32} {fm2 : Nat → Nat → Int32} {p1 : Int32} (hx : (r, v, f, g) = xs_fault vx fx gx p1) (hm : (r2, mi2, fm2) = ms_fault mi fm p1) : REL0 v f mi2 fm2 ∧ r = r2 := by
  unfold xs_fault xt_fault fX11_fault bfX11_fault_28 at hx
  unfold ms_fault mt_fault fX12_fault bfX12_fault_24 at hm
  have e1 := congrArg (fun o => o.1) hx
  have e2 := congrArg (fun o => o.2.1) hx
  have e3 := congrArg (fun o => o.2.2.1) hx
  have d1 := congrArg (fun o => o.1) hm
  have d2 := congrArg (fun o => o.2.1) hm
  have d3 := congrArg (fun o => o.2.2) hm
  dsimp only at e1 e2 e3 d1 d2 d3
  subst e2 e3 d2 d3
  refine ⟨h, ?_⟩
  rw [e1, d1, h.2.1, h.2.2]
theorem rl_almanac {vx : Nat → Int32} {fx : Nat → Nat → Int32} {gx : Nat → Nat → Int64} {mi : Nat → Int32} {fm : Nat → Nat → Int32} (h : REL0 vx fx mi fm) {r r2 : Int32} {v : Nat → Int32} {f : Nat → Nat → Int32} {g : Nat → Nat → Int64} {mi2 : Nat → Int32} {fm2 : Nat → Nat → Int32} (hx : (r, v, f, g) = xs_almanac vx fx gx) (hm : (r2, mi2, fm2) = ms_almanac mi fm) : REL0 v f mi2 fm2 ∧ r = r2 := by
  obtain ⟨⟨n, hn, h10, h26, hT⟩, h5, h6⟩ := h
  unfold xs_almanac at hx
  unfold ms_almanac at hm
  rw [h10] at hx
  obtain ⟨O, hO⟩ : ∃ O, O = fX11_almanac (vx 1) (vx 3) (vx 4) (vx 7) (vx 8) (nI n) (fx 0) (fx 46) (fx 47) (fx 48) (fx 49) (fx 50) (fx 51) (fx 52) (fx 53) (fx 54) (fx 55) (fx 56) (fx 57) := ⟨_, rfl⟩
  obtain ⟨U, hU⟩ : ∃ U, U = fX12_almanac mi (fm 13) (fm 12) (fm 0) (fm 1) (fm 2) (fm 3) (fm 5) (fm 6) (fm 7) (fm 8) (fm 9) (fm 10) (fm 11) (fm 4) := ⟨_, rfl⟩
  rw [← hO] at hx
  rw [← hU] at hm
  obtain ⟨c1, c2, c3, c4, c5, -⟩ := alm_core hn hT h26 hO hU
  unfold mt_almanac at hm
  have d1 := congrArg (fun o => o.1) hm
  have d2 := congrArg (fun o => o.2.1) hm
  dsimp only at d1 d2
  have w26 : mi2 26 = 0 := by rw [d2]; exact c5
  have w27 : mi2 27 = U.2.2.2.2.2.2.2.2.2.2.2.2.2.2.1 := by rw [d2]; rfl
  have w28 : mi2 28 = U.2.2.2.2.2.2.2.2.2.2.2.2.2.2.2.1 := by rw [d2]; rfl
  unfold xt_almanac at hx
  by_cases h0 : O.2.2.2.2.1 = 0
  · rw [if_pos h0] at hx
    have e1 := congrArg (fun o => o.1) hx
    have e2 := congrArg (fun o => o.2.1) hx
    dsimp only at e1 e2
    refine ⟨⟨⟨0, by omega, ?_, w26, fun j hj => absurd hj (by omega)⟩, ?_, ?_⟩, ?_⟩
    · rw [e2]; exact c4
    · rw [e2, w27]; exact c2
    · rw [e2, w28]; exact c3
    · rw [e1, d1]; exact c1
  · rw [if_neg h0] at hx
    have e1 := congrArg (fun o => o.1) hx
    have e2 := congrArg (fun o => o.2.1) hx
    dsimp only at e1 e2
    refine ⟨⟨⟨0, by omega, ?_, w26, fun j hj => absurd hj (by omega)⟩, ?_, ?_⟩, ?_⟩
    · rw [e2]; exact c4
    · rw [e2, w27]; exact c2
    · rw [e2, w28]; exact c3
    · rw [e1, d1]; exact c1
theorem kp_ge {a b : Nat} (h : a ≤ b) (hb : b < 2147483648) : nI a ≤ nI b := nI_le h hb
def kput (k : Nat → Int32) (p n : Nat) (f : Nat → Int32) : Nat → Int32 := fun j => if p ≤ j ∧ j < p + n then f (j - p) else k j
theorem kput_in {k f : Nat → Int32} {p n i : Nat} (h : i < n) : kput k p n f (p + i) = f i := by
  unfold kput
  rw [if_pos ⟨by omega, by omega⟩, Nat.add_sub_cancel_left]
theorem kput_lt {k f : Nat → Int32} {p n j : Nat} (h : j < p) : kput k p n f j = k j := if_neg (by omega)
theorem kput_s (k f : Nat → Int32) (p i : Nat) : upd (kput k p i f) (p + i) (f i) = kput k p (i + 1) f := by
  funext j
  unfold kput upd
  by_cases h : j = p + i
  · rw [if_pos h, if_pos ⟨by omega, by omega⟩, h, Nat.add_sub_cancel_left]
  · rw [if_neg h]
    by_cases h1 : p ≤ j ∧ j < p + i
    · exact (if_pos h1).trans (if_pos (show p ≤ j ∧ j < p + (i + 1) by omega)).symm
    · exact (if_neg h1).trans (if_neg (show ¬ (p ≤ j ∧ j < p + (i + 1)) by omega)).symm
theorem kput_0 (k f : Nat → Int32) (p : Nat) : kput k p 0 f = k := by
  funext j
  exact if_neg (by omega)
def rget (k : Nat → Int32) (p n : Nat) (f : Nat → Int32) : Nat → Int32 := fun j => if j < n then k (p + j) else f j
theorem rget_in {k f : Nat → Int32} {p n i : Nat} (h : i < n) : rget k p n f i = k (p + i) := if_pos h
theorem rget_s (k f : Nat → Int32) (p i : Nat) : upd (rget k p i f) i (k (p + i)) = rget k p (i + 1) f := by
  funext j
  unfold rget upd
  by_cases h : j = i
  · rw [if_pos h, if_pos (by omega), h]
  · rw [if_neg h]
    by_cases h1 : j < i
    · exact (if_pos h1).trans (if_pos (show j < i + 1 by omega)).symm
    · exact (if_neg h1).trans (if_neg (show ¬ j < i + 1 by omega)).symm
theorem rget_0 (k f : Nat → Int32) (p : Nat) : rget k p 0 f = f := by
  funext j
  exact if_neg (by omega)
theorem pmv_k {m kept : Nat → Int32} {x : Int32} {p : Nat} (h : ¬ m 24 = 0) (h23 : m 23 = nI p) (hp : p < 2147483648) : fX12_moves m kept x = (x, nI (p + 1), upd kept p x) := by
  unfold fX12_moves bfX12_moves_20
  rw [if_neg h, h23, nI_clamp hp, ← nI_succ]
theorem pmv_r {m kept : Nat → Int32} {x : Int32} {p : Nat} (h : m 24 = 0) (h23 : m 23 = nI p) (hp : p < 2147483648) : fX12_moves m kept x = (kept p, nI (p + 1), kept) := by
  unfold fX12_moves bfX12_moves_20
  rw [if_pos h, h23, nI_clamp hp, ← nI_succ, upd_self]
theorem row_k6L {m kept f : Nat → Int32} {p : Nat} (h : ¬ m 24 = 0) (hp : p < 1000000) : ∀ (k i z : Nat), i + k = 6 → k < z → lfX12_movesRow m kept f z (nI i) (nI (p + i)) (kput kept p i f) f = (nI (p + 6), kput kept p 6 f, f) := by
  intro k
  induction k with
  | zero =>
    intro i z hi hz
    obtain ⟨z, rfl⟩ : ∃ y, z = y + 1 := ⟨z - 1, by omega⟩
    have hi : i = 6 := by omega
    subst hi
    show dfX12_movesRow_2 m kept f (lfX12_movesRow m kept f z) (nI 6) (nI (p + 6)) (kput kept p 6 f) f = _
    unfold dfX12_movesRow_2
    exact if_pos (show (6 : Int32) ≤ nI 6 from nI_le (a := 6) (by omega) (by omega))
  | succ k ih =>
    intro i z hi hz
    obtain ⟨z, rfl⟩ : ∃ y, z = y + 1 := ⟨z - 1, by omega⟩
    rw [← ih (i + 1) z (by omega) (by omega)]
    show dfX12_movesRow_2 m kept f (lfX12_movesRow m kept f z) (nI i) (nI (p + i)) (kput kept p i f) f = _
    unfold dfX12_movesRow_2
    rw [if_neg (show ¬ (6 : Int32) ≤ nI i from nI_ge (b := 6) (by omega) (by omega)), nI_clamp (show i < 2147483648 by omega), pmv_k (p := p + i) (m := upd m 23 (nI (p + i))) h rfl (by omega), cal_b, ← nI_succ]
    show lfX12_movesRow m kept f z (nI (i + 1)) (nI (p + i + 1)) (upd (kput kept p i f) (p + i) (f i)) (upd f i (f i)) = lfX12_movesRow m kept f z (nI (i + 1)) (nI (p + (i + 1))) (kput kept p (i + 1) f) f
    rw [kput_s, upd_self, Nat.add_assoc]
theorem row_k6 {m kept f : Nat → Int32} {p : Nat} (h : ¬ m 24 = 0) (h23 : m 23 = nI p) (hp : p < 1000000) : fX12_movesRow m kept f = (nI (p + 6), kput kept p 6 f, f) := by
  unfold fX12_movesRow
  rw [h23]
  have g := row_k6L (kept := kept) (f := f) h hp 6 0 1000000000 (by omega) (by omega)
  rw [kput_0] at g
  exact g
theorem row_r6L {m kept f : Nat → Int32} {p : Nat} (h : m 24 = 0) (hp : p < 1000000) : ∀ (k i z : Nat), i + k = 6 → k < z → lfX12_movesRow_sX12_movesRowR6 m kept f z (nI i) (nI (p + i))  (rget kept p i f) = (nI (p + 6), kept, rget kept p 6 f) := by
  intro k
  induction k with
  | zero =>
    intro i z hi hz
    obtain ⟨z, rfl⟩ : ∃ y, z = y + 1 := ⟨z - 1, by omega⟩
    have hi : i = 6 := by omega
    subst hi
    show dfX12_movesRow_sX12_movesRowR6_2 m kept f (lfX12_movesRow_sX12_movesRowR6 m kept f z) (nI 6) (nI (p + 6))  (rget kept p 6 f) = _
    unfold dfX12_movesRow_sX12_movesRowR6_2
    exact if_pos (show (6 : Int32) ≤ nI 6 from nI_le (a := 6) (by omega) (by omega))
  | succ k ih =>
    intro i z hi hz
    obtain ⟨z, rfl⟩ : ∃ y, z = y + 1 := ⟨z - 1, by omega⟩
    rw [← ih (i + 1) z (by omega) (by omega)]
    show dfX12_movesRow_sX12_movesRowR6_2 m kept f (lfX12_movesRow_sX12_movesRowR6 m kept f z) (nI i) (nI (p + i))  (rget kept p i f) = _
    unfold dfX12_movesRow_sX12_movesRowR6_2
    rw [if_neg (show ¬ (6 : Int32) ≤ nI i from nI_ge (b := 6) (by omega) (by omega)), nI_clamp (show i < 2147483648 by omega), pmv_r (p := p + i) (m := upd m 23 (nI (p + i))) h rfl (by omega), cal_b, ← nI_succ]
    show lfX12_movesRow_sX12_movesRowR6 m kept f z (nI (i + 1)) (nI (p + i + 1)) (upd (rget kept p i f) i (kept (p + i))) = lfX12_movesRow_sX12_movesRowR6 m kept f z (nI (i + 1)) (nI (p + (i + 1))) (rget kept p (i + 1) f)
    rw [rget_s, Nat.add_assoc]
theorem row_r6 {m kept f : Nat → Int32} {p : Nat} (h : m 24 = 0) (h23 : m 23 = nI p) (hp : p < 1000000) : fX12_movesRow_sX12_movesRowR6 m kept f = (nI (p + 6), kept, rget kept p 6 f) := by
  unfold fX12_movesRow_sX12_movesRowR6
  rw [h23]
  have g := row_r6L (kept := kept) (f := f) h hp 6 0 1000000000 (by omega) (by omega)
  rw [rget_0] at g
  exact g
theorem row_k36L {m kept f : Nat → Int32} {p : Nat} (h : ¬ m 24 = 0) (hp : p < 1000000) : ∀ (k i z : Nat), i + k = 36 → k < z → lfX12_movesRow_sX12_movesRowK36 m kept f z (nI i) (nI (p + i)) (kput kept p i f) f = (nI (p + 36), kput kept p 36 f, f) := by
  intro k
  induction k with
  | zero =>
    intro i z hi hz
    obtain ⟨z, rfl⟩ : ∃ y, z = y + 1 := ⟨z - 1, by omega⟩
    have hi : i = 36 := by omega
    subst hi
    show dfX12_movesRow_sX12_movesRowK36_2 m kept f (lfX12_movesRow_sX12_movesRowK36 m kept f z) (nI 36) (nI (p + 36)) (kput kept p 36 f) f = _
    unfold dfX12_movesRow_sX12_movesRowK36_2
    exact if_pos (show (36 : Int32) ≤ nI 36 from nI_le (a := 36) (by omega) (by omega))
  | succ k ih =>
    intro i z hi hz
    obtain ⟨z, rfl⟩ : ∃ y, z = y + 1 := ⟨z - 1, by omega⟩
    rw [← ih (i + 1) z (by omega) (by omega)]
    show dfX12_movesRow_sX12_movesRowK36_2 m kept f (lfX12_movesRow_sX12_movesRowK36 m kept f z) (nI i) (nI (p + i)) (kput kept p i f) f = _
    unfold dfX12_movesRow_sX12_movesRowK36_2
    rw [if_neg (show ¬ (36 : Int32) ≤ nI i from nI_ge (b := 36) (by omega) (by omega)), nI_clamp (show i < 2147483648 by omega), pmv_k (p := p + i) (m := upd m 23 (nI (p + i))) h rfl (by omega), cal_b, ← nI_succ]
    show lfX12_movesRow_sX12_movesRowK36 m kept f z (nI (i + 1)) (nI (p + i + 1)) (upd (kput kept p i f) (p + i) (f i)) (upd f i (f i)) = lfX12_movesRow_sX12_movesRowK36 m kept f z (nI (i + 1)) (nI (p + (i + 1))) (kput kept p (i + 1) f) f
    rw [kput_s, upd_self, Nat.add_assoc]
theorem row_k36 {m kept f : Nat → Int32} {p : Nat} (h : ¬ m 24 = 0) (h23 : m 23 = nI p) (hp : p < 1000000) : fX12_movesRow_sX12_movesRowK36 m kept f = (nI (p + 36), kput kept p 36 f, f) := by
  unfold fX12_movesRow_sX12_movesRowK36
  rw [h23]
  have g := row_k36L (kept := kept) (f := f) h hp 36 0 1000000000 (by omega) (by omega)
  rw [kput_0] at g
  exact g
theorem row_r36L {m kept f : Nat → Int32} {p : Nat} (h : m 24 = 0) (hp : p < 1000000) : ∀ (k i z : Nat), i + k = 36 → k < z → lfX12_movesRow_sX12_movesRowR36 m kept f z (nI i) (nI (p + i))  (rget kept p i f) = (nI (p + 36), kept, rget kept p 36 f) := by
  intro k
  induction k with
  | zero =>
    intro i z hi hz
    obtain ⟨z, rfl⟩ : ∃ y, z = y + 1 := ⟨z - 1, by omega⟩
    have hi : i = 36 := by omega
    subst hi
    show dfX12_movesRow_sX12_movesRowR36_2 m kept f (lfX12_movesRow_sX12_movesRowR36 m kept f z) (nI 36) (nI (p + 36))  (rget kept p 36 f) = _
    unfold dfX12_movesRow_sX12_movesRowR36_2
    exact if_pos (show (36 : Int32) ≤ nI 36 from nI_le (a := 36) (by omega) (by omega))
  | succ k ih =>
    intro i z hi hz
    obtain ⟨z, rfl⟩ : ∃ y, z = y + 1 := ⟨z - 1, by omega⟩
    rw [← ih (i + 1) z (by omega) (by omega)]
    show dfX12_movesRow_sX12_movesRowR36_2 m kept f (lfX12_movesRow_sX12_movesRowR36 m kept f z) (nI i) (nI (p + i))  (rget kept p i f) = _
    unfold dfX12_movesRow_sX12_movesRowR36_2
    rw [if_neg (show ¬ (36 : Int32) ≤ nI i from nI_ge (b := 36) (by omega) (by omega)), nI_clamp (show i < 2147483648 by omega), pmv_r (p := p + i) (m := upd m 23 (nI (p + i))) h rfl (by omega), cal_b, ← nI_succ]
    show lfX12_movesRow_sX12_movesRowR36 m kept f z (nI (i + 1)) (nI (p + i + 1)) (upd (rget kept p i f) i (kept (p + i))) = lfX12_movesRow_sX12_movesRowR36 m kept f z (nI (i + 1)) (nI (p + (i + 1))) (rget kept p (i + 1) f)
    rw [rget_s, Nat.add_assoc]
theorem row_r36 {m kept f : Nat → Int32} {p : Nat} (h : m 24 = 0) (h23 : m 23 = nI p) (hp : p < 1000000) : fX12_movesRow_sX12_movesRowR36 m kept f = (nI (p + 36), kept, rget kept p 36 f) := by
  unfold fX12_movesRow_sX12_movesRowR36
  rw [h23]
  have g := row_r36L (kept := kept) (f := f) h hp 36 0 1000000000 (by omega) (by omega)
  rw [rget_0] at g
  exact g
theorem row_k24L {m kept f : Nat → Int32} {p : Nat} (h : ¬ m 24 = 0) (hp : p < 1000000) : ∀ (k i z : Nat), i + k = 24 → k < z → lfX12_movesRow_sX12_movesRowK24 m kept f z (nI i) (nI (p + i)) (kput kept p i f) f = (nI (p + 24), kput kept p 24 f, f) := by
  intro k
  induction k with
  | zero =>
    intro i z hi hz
    obtain ⟨z, rfl⟩ : ∃ y, z = y + 1 := ⟨z - 1, by omega⟩
    have hi : i = 24 := by omega
    subst hi
    show dfX12_movesRow_sX12_movesRowK24_2 m kept f (lfX12_movesRow_sX12_movesRowK24 m kept f z) (nI 24) (nI (p + 24)) (kput kept p 24 f) f = _
    unfold dfX12_movesRow_sX12_movesRowK24_2
    exact if_pos (show (24 : Int32) ≤ nI 24 from nI_le (a := 24) (by omega) (by omega))
  | succ k ih =>
    intro i z hi hz
    obtain ⟨z, rfl⟩ : ∃ y, z = y + 1 := ⟨z - 1, by omega⟩
    rw [← ih (i + 1) z (by omega) (by omega)]
    show dfX12_movesRow_sX12_movesRowK24_2 m kept f (lfX12_movesRow_sX12_movesRowK24 m kept f z) (nI i) (nI (p + i)) (kput kept p i f) f = _
    unfold dfX12_movesRow_sX12_movesRowK24_2
    rw [if_neg (show ¬ (24 : Int32) ≤ nI i from nI_ge (b := 24) (by omega) (by omega)), nI_clamp (show i < 2147483648 by omega), pmv_k (p := p + i) (m := upd m 23 (nI (p + i))) h rfl (by omega), cal_b, ← nI_succ]
    show lfX12_movesRow_sX12_movesRowK24 m kept f z (nI (i + 1)) (nI (p + i + 1)) (upd (kput kept p i f) (p + i) (f i)) (upd f i (f i)) = lfX12_movesRow_sX12_movesRowK24 m kept f z (nI (i + 1)) (nI (p + (i + 1))) (kput kept p (i + 1) f) f
    rw [kput_s, upd_self, Nat.add_assoc]
theorem row_k24 {m kept f : Nat → Int32} {p : Nat} (h : ¬ m 24 = 0) (h23 : m 23 = nI p) (hp : p < 1000000) : fX12_movesRow_sX12_movesRowK24 m kept f = (nI (p + 24), kput kept p 24 f, f) := by
  unfold fX12_movesRow_sX12_movesRowK24
  rw [h23]
  have g := row_k24L (kept := kept) (f := f) h hp 24 0 1000000000 (by omega) (by omega)
  rw [kput_0] at g
  exact g
theorem row_r24L {m kept f : Nat → Int32} {p : Nat} (h : m 24 = 0) (hp : p < 1000000) : ∀ (k i z : Nat), i + k = 24 → k < z → lfX12_movesRow_sX12_movesRowR24 m kept f z (nI i) (nI (p + i))  (rget kept p i f) = (nI (p + 24), kept, rget kept p 24 f) := by
  intro k
  induction k with
  | zero =>
    intro i z hi hz
    obtain ⟨z, rfl⟩ : ∃ y, z = y + 1 := ⟨z - 1, by omega⟩
    have hi : i = 24 := by omega
    subst hi
    show dfX12_movesRow_sX12_movesRowR24_2 m kept f (lfX12_movesRow_sX12_movesRowR24 m kept f z) (nI 24) (nI (p + 24))  (rget kept p 24 f) = _
    unfold dfX12_movesRow_sX12_movesRowR24_2
    exact if_pos (show (24 : Int32) ≤ nI 24 from nI_le (a := 24) (by omega) (by omega))
  | succ k ih =>
    intro i z hi hz
    obtain ⟨z, rfl⟩ : ∃ y, z = y + 1 := ⟨z - 1, by omega⟩
    rw [← ih (i + 1) z (by omega) (by omega)]
    show dfX12_movesRow_sX12_movesRowR24_2 m kept f (lfX12_movesRow_sX12_movesRowR24 m kept f z) (nI i) (nI (p + i))  (rget kept p i f) = _
    unfold dfX12_movesRow_sX12_movesRowR24_2
    rw [if_neg (show ¬ (24 : Int32) ≤ nI i from nI_ge (b := 24) (by omega) (by omega)), nI_clamp (show i < 2147483648 by omega), pmv_r (p := p + i) (m := upd m 23 (nI (p + i))) h rfl (by omega), cal_b, ← nI_succ]
    show lfX12_movesRow_sX12_movesRowR24 m kept f z (nI (i + 1)) (nI (p + i + 1)) (upd (rget kept p i f) i (kept (p + i))) = lfX12_movesRow_sX12_movesRowR24 m kept f z (nI (i + 1)) (nI (p + (i + 1))) (rget kept p (i + 1) f)
    rw [rget_s, Nat.add_assoc]
theorem row_r24 {m kept f : Nat → Int32} {p : Nat} (h : m 24 = 0) (h23 : m 23 = nI p) (hp : p < 1000000) : fX12_movesRow_sX12_movesRowR24 m kept f = (nI (p + 24), kept, rget kept p 24 f) := by
  unfold fX12_movesRow_sX12_movesRowR24
  rw [h23]
  have g := row_r24L (kept := kept) (f := f) h hp 24 0 1000000000 (by omega) (by omega)
  rw [rget_0] at g
  exact g
theorem row_k8L {m kept f : Nat → Int32} {p : Nat} (h : ¬ m 24 = 0) (hp : p < 1000000) : ∀ (k i z : Nat), i + k = 8 → k < z → lfX12_movesRow_sX12_movesRowK8 m kept f z (nI i) (nI (p + i)) (kput kept p i f) f = (nI (p + 8), kput kept p 8 f, f) := by
  intro k
  induction k with
  | zero =>
    intro i z hi hz
    obtain ⟨z, rfl⟩ : ∃ y, z = y + 1 := ⟨z - 1, by omega⟩
    have hi : i = 8 := by omega
    subst hi
    show dfX12_movesRow_sX12_movesRowK8_2 m kept f (lfX12_movesRow_sX12_movesRowK8 m kept f z) (nI 8) (nI (p + 8)) (kput kept p 8 f) f = _
    unfold dfX12_movesRow_sX12_movesRowK8_2
    exact if_pos (show (8 : Int32) ≤ nI 8 from nI_le (a := 8) (by omega) (by omega))
  | succ k ih =>
    intro i z hi hz
    obtain ⟨z, rfl⟩ : ∃ y, z = y + 1 := ⟨z - 1, by omega⟩
    rw [← ih (i + 1) z (by omega) (by omega)]
    show dfX12_movesRow_sX12_movesRowK8_2 m kept f (lfX12_movesRow_sX12_movesRowK8 m kept f z) (nI i) (nI (p + i)) (kput kept p i f) f = _
    unfold dfX12_movesRow_sX12_movesRowK8_2
    rw [if_neg (show ¬ (8 : Int32) ≤ nI i from nI_ge (b := 8) (by omega) (by omega)), nI_clamp (show i < 2147483648 by omega), pmv_k (p := p + i) (m := upd m 23 (nI (p + i))) h rfl (by omega), cal_b, ← nI_succ]
    show lfX12_movesRow_sX12_movesRowK8 m kept f z (nI (i + 1)) (nI (p + i + 1)) (upd (kput kept p i f) (p + i) (f i)) (upd f i (f i)) = lfX12_movesRow_sX12_movesRowK8 m kept f z (nI (i + 1)) (nI (p + (i + 1))) (kput kept p (i + 1) f) f
    rw [kput_s, upd_self, Nat.add_assoc]
theorem row_k8 {m kept f : Nat → Int32} {p : Nat} (h : ¬ m 24 = 0) (h23 : m 23 = nI p) (hp : p < 1000000) : fX12_movesRow_sX12_movesRowK8 m kept f = (nI (p + 8), kput kept p 8 f, f) := by
  unfold fX12_movesRow_sX12_movesRowK8
  rw [h23]
  have g := row_k8L (kept := kept) (f := f) h hp 8 0 1000000000 (by omega) (by omega)
  rw [kput_0] at g
  exact g
theorem row_r8L {m kept f : Nat → Int32} {p : Nat} (h : m 24 = 0) (hp : p < 1000000) : ∀ (k i z : Nat), i + k = 8 → k < z → lfX12_movesRow_sX12_movesRowR8 m kept f z (nI i) (nI (p + i))  (rget kept p i f) = (nI (p + 8), kept, rget kept p 8 f) := by
  intro k
  induction k with
  | zero =>
    intro i z hi hz
    obtain ⟨z, rfl⟩ : ∃ y, z = y + 1 := ⟨z - 1, by omega⟩
    have hi : i = 8 := by omega
    subst hi
    show dfX12_movesRow_sX12_movesRowR8_2 m kept f (lfX12_movesRow_sX12_movesRowR8 m kept f z) (nI 8) (nI (p + 8))  (rget kept p 8 f) = _
    unfold dfX12_movesRow_sX12_movesRowR8_2
    exact if_pos (show (8 : Int32) ≤ nI 8 from nI_le (a := 8) (by omega) (by omega))
  | succ k ih =>
    intro i z hi hz
    obtain ⟨z, rfl⟩ : ∃ y, z = y + 1 := ⟨z - 1, by omega⟩
    rw [← ih (i + 1) z (by omega) (by omega)]
    show dfX12_movesRow_sX12_movesRowR8_2 m kept f (lfX12_movesRow_sX12_movesRowR8 m kept f z) (nI i) (nI (p + i))  (rget kept p i f) = _
    unfold dfX12_movesRow_sX12_movesRowR8_2
    rw [if_neg (show ¬ (8 : Int32) ≤ nI i from nI_ge (b := 8) (by omega) (by omega)), nI_clamp (show i < 2147483648 by omega), pmv_r (p := p + i) (m := upd m 23 (nI (p + i))) h rfl (by omega), cal_b, ← nI_succ]
    show lfX12_movesRow_sX12_movesRowR8 m kept f z (nI (i + 1)) (nI (p + i + 1)) (upd (rget kept p i f) i (kept (p + i))) = lfX12_movesRow_sX12_movesRowR8 m kept f z (nI (i + 1)) (nI (p + (i + 1))) (rget kept p (i + 1) f)
    rw [rget_s, Nat.add_assoc]
theorem row_r8 {m kept f : Nat → Int32} {p : Nat} (h : m 24 = 0) (h23 : m 23 = nI p) (hp : p < 1000000) : fX12_movesRow_sX12_movesRowR8 m kept f = (nI (p + 8), kept, rget kept p 8 f) := by
  unfold fX12_movesRow_sX12_movesRowR8
  rw [h23]
  have g := row_r8L (kept := kept) (f := f) h hp 8 0 1000000000 (by omega) (by omega)
  rw [rget_0] at g
  exact g
theorem bz_cases {x : Int32} (h : 0 ≤ x.toInt ∧ x.toInt ≤ 1) : x = 0 ∨ x = 1 := by
  have z0 : (0 : Int32).toInt = 0 := by decide
  have z1 : (1 : Int32).toInt = 1 := by decide
  by_cases h1 : x.toInt = 0
  · exact Or.inl (Int32.toInt_inj.mp (by omega))
  · exact Or.inr (Int32.toInt_inj.mp (by omega))
theorem mvk_L {mi kept tr lt rp rk rm rd rn dM dD dL dK st kb : Nat → Int32} {hm : Int32} (hs : ∀ i, i < 24 → st i = 0 ∨ st i = 1) : ∀ (k i z : Nat), i + k = 24 → k < z → lfX12_movesAll mi kept tr lt rp rk rm rd rn dM dD dL dK st 1 z (nI i) hm (nI (204 + i)) 1 (kput kb 204 i st) st = (mi 0, mi 1, mi 2, mi 3, hm, mi 5, mi 6, mi 7, mi 10, mi 17, nI (204 + 24), 1, kput kb 204 24 st, tr, lt, rp, rk, rm, rd, rn, dM, dD, dL, dK, st) := by
  intro k
  induction k with
  | zero =>
    intro i z hi hz
    obtain ⟨z, rfl⟩ : ∃ y, z = y + 1 := ⟨z - 1, by omega⟩
    have hi : i = 24 := by omega
    subst hi
    show dfX12_movesAll_237 mi kept tr lt rp rk rm rd rn dM dD dL dK st 1 (lfX12_movesAll mi kept tr lt rp rk rm rd rn dM dD dL dK st 1 z) (nI 24) hm (nI (204 + 24)) 1 (kput kb 204 24 st) st = _
    unfold dfX12_movesAll_237
    exact if_pos (show (24 : Int32) ≤ nI 24 from nI_le (a := 24) (by omega) (by omega))
  | succ k ih =>
    intro i z hi hz
    obtain ⟨z, rfl⟩ : ∃ y, z = y + 1 := ⟨z - 1, by omega⟩
    rw [← ih (i + 1) z (by omega) (by omega)]
    show dfX12_movesAll_237 mi kept tr lt rp rk rm rd rn dM dD dL dK st 1 (lfX12_movesAll mi kept tr lt rp rk rm rd rn dM dD dL dK st 1 z) (nI i) hm (nI (204 + i)) 1 (kput kb 204 i st) st = _
    unfold dfX12_movesAll_237 bfX12_movesAll_263 bfX12_movesAll_275
    rw [if_neg (show ¬ (24 : Int32) ≤ nI i from nI_ge (b := 24) (by omega) (by omega)), nI_clamp (show i < 2147483648 by omega)]
    have fin : (lfX12_movesAll mi kept tr lt rp rk rm rd rn dM dD dL dK st 1 z) (nI i + 1) hm (nI (204 + i + 1)) 1 (upd (kput kb 204 i st) (204 + i) (st i)) (upd st i (st i)) = (lfX12_movesAll mi kept tr lt rp rk rm rd rn dM dD dL dK st 1 z) (nI (i + 1)) hm (nI (204 + (i + 1))) 1 (kput kb 204 (i + 1) st) st := by
      rw [kput_s, upd_self, Nat.add_assoc, ← nI_succ]
    rw [← fin]
    have n0 : vp_nar .boolean (0 : Int32) = 0 := by decide
    have n1 : vp_nar .boolean (1 : Int32) = 1 := by decide
    rcases hs i (by omega) with h0 | h0
    · rw [if_pos h0, pmv_k (p := 204 + i) (show ¬ (1 : Int32) = 0 by decide) rfl (by omega), cal_b, n0, n1, h0]
      exact if_neg (show ¬ (0 : Int32) = 1 by decide)
    · rw [if_neg (by rw [h0]; decide), pmv_k (p := 204 + i) (show ¬ (1 : Int32) = 0 by decide) rfl (by omega), cal_b, n0, n1, h0]
      exact if_pos rfl
theorem kp_facts {mi kept tr lt rp rk rm rd rn dM dD dL dK st : Nat → Int32} {K : Nat → Int32} (hK : K = kput (kput (kput (kput (kput (kput (kput (kput (kput (kput (kput (kput (upd (upd (upd (upd (upd (upd (upd (upd (upd (upd kept 0 (mi 0)) 1 (mi 1)) 2 (mi 2)) 3 (mi 3)) 4 (mi 4)) 5 (mi 5)) 6 (mi 6)) 7 (mi 7)) 8 (mi 10)) 9 (mi 17)) 10 6 tr) 16 36 lt) 52 24 rp) 76 24 rk) 100 24 rm) 124 24 rd) 148 24 rn) 172 8 dM) 180 8 dD) 188 8 dL) 196 8 dK) 204 24 st) : K 0 = mi 0 ∧ K 1 = mi 1 ∧ K 2 = mi 2 ∧ K 3 = mi 3 ∧ K 4 = mi 4 ∧ K 5 = mi 5 ∧ K 6 = mi 6 ∧ K 7 = mi 7 ∧ K 8 = mi 10 ∧ K 9 = mi 17 ∧ (∀ i, i < 6 → K (10 + i) = tr i) ∧ (∀ i, i < 36 → K (16 + i) = lt i) ∧ (∀ i, i < 24 → K (52 + i) = rp i) ∧ (∀ i, i < 24 → K (76 + i) = rk i) ∧ (∀ i, i < 24 → K (100 + i) = rm i) ∧ (∀ i, i < 24 → K (124 + i) = rd i) ∧ (∀ i, i < 24 → K (148 + i) = rn i) ∧ (∀ i, i < 8 → K (172 + i) = dM i) ∧ (∀ i, i < 8 → K (180 + i) = dD i) ∧ (∀ i, i < 8 → K (188 + i) = dL i) ∧ (∀ i, i < 8 → K (196 + i) = dK i) ∧ (∀ i, i < 24 → K (204 + i) = st i) := by
  subst hK
  refine ⟨rfl, rfl, rfl, rfl, rfl, rfl, rfl, rfl, rfl, rfl, ?_, ?_, ?_, ?_, ?_, ?_, ?_, ?_, ?_, ?_, ?_, ?_⟩
  · intro i hi
    rw [kput_lt (by omega), kput_lt (by omega), kput_lt (by omega), kput_lt (by omega), kput_lt (by omega), kput_lt (by omega), kput_lt (by omega), kput_lt (by omega), kput_lt (by omega), kput_lt (by omega), kput_lt (by omega), kput_in hi]
  · intro i hi
    rw [kput_lt (by omega), kput_lt (by omega), kput_lt (by omega), kput_lt (by omega), kput_lt (by omega), kput_lt (by omega), kput_lt (by omega), kput_lt (by omega), kput_lt (by omega), kput_lt (by omega), kput_in hi]
  · intro i hi
    rw [kput_lt (by omega), kput_lt (by omega), kput_lt (by omega), kput_lt (by omega), kput_lt (by omega), kput_lt (by omega), kput_lt (by omega), kput_lt (by omega), kput_lt (by omega), kput_in hi]
  · intro i hi
    rw [kput_lt (by omega), kput_lt (by omega), kput_lt (by omega), kput_lt (by omega), kput_lt (by omega), kput_lt (by omega), kput_lt (by omega), kput_lt (by omega), kput_in hi]
  · intro i hi
    rw [kput_lt (by omega), kput_lt (by omega), kput_lt (by omega), kput_lt (by omega), kput_lt (by omega), kput_lt (by omega), kput_lt (by omega), kput_in hi]
  · intro i hi
    rw [kput_lt (by omega), kput_lt (by omega), kput_lt (by omega), kput_lt (by omega), kput_lt (by omega), kput_lt (by omega), kput_in hi]
  · intro i hi
    rw [kput_lt (by omega), kput_lt (by omega), kput_lt (by omega), kput_lt (by omega), kput_lt (by omega), kput_in hi]
  · intro i hi
    rw [kput_lt (by omega), kput_lt (by omega), kput_lt (by omega), kput_lt (by omega), kput_in hi]
  · intro i hi
    rw [kput_lt (by omega), kput_lt (by omega), kput_lt (by omega), kput_in hi]
  · intro i hi
    rw [kput_lt (by omega), kput_lt (by omega), kput_in hi]
  · intro i hi
    rw [kput_lt (by omega), kput_in hi]
  · intro i hi
    rw [kput_in hi]
set_option maxRecDepth 100000 in
theorem mvk_all {mi kept tr lt rp rk rm rd rn dM dD dL dK st : Nat → Int32} (hm : mi 4 = 0 ∨ mi 4 = 1) (hs : ∀ i, i < 24 → st i = 0 ∨ st i = 1) {k : Int32 × Int32 × Int32 × Int32 × Int32 × Int32 × Int32 × Int32 × Int32 × Int32 × Int32 × Int32 × (Nat → Int32) × (Nat → Int32) × (Nat → Int32) × (Nat → Int32) × (Nat → Int32) × (Nat → Int32) × (Nat → Int32) × (Nat → Int32) × (Nat → Int32) × (Nat → Int32) × (Nat → Int32) × (Nat → Int32) × (Nat → Int32)} (hk : k = fX12_movesAll mi kept tr lt rp rk rm rd rn dM dD dL dK st 1) : k.2.2.2.2.2.2.2.2.2.2.2.2.1 = kput (kput (kput (kput (kput (kput (kput (kput (kput (kput (kput (kput (upd (upd (upd (upd (upd (upd (upd (upd (upd (upd kept 0 (mi 0)) 1 (mi 1)) 2 (mi 2)) 3 (mi 3)) 4 (mi 4)) 5 (mi 5)) 6 (mi 6)) 7 (mi 7)) 8 (mi 10)) 9 (mi 17)) 10 6 tr) 16 36 lt) 52 24 rp) 76 24 rk) 100 24 rm) 124 24 rd) 148 24 rn) 172 8 dM) 180 8 dD) 188 8 dL) 196 8 dK) 204 24 st := by
  have one : ¬ (1 : Int32) = 0 := by decide
  unfold fX12_movesAll at hk
  obtain ⟨o1, e1, hk⟩ := cal_out hk
  rw [pmv_k (p := 0) one rfl (by omega)] at e1
  subst e1
  obtain ⟨o2, e2, hk⟩ := cal_out hk
  rw [pmv_k (p := 1) one rfl (by omega)] at e2
  subst e2
  obtain ⟨o3, e3, hk⟩ := cal_out hk
  rw [pmv_k (p := 2) one rfl (by omega)] at e3
  subst e3
  obtain ⟨o4, e4, hk⟩ := cal_out hk
  rw [pmv_k (p := 3) one rfl (by omega)] at e4
  subst e4
  have hk : k = bfX12_movesAll_72 mi kept tr lt rp rk rm rd rn dM dD dL dK st 1 (lfX12_movesAll mi kept tr lt rp rk rm rd rn dM dD dL dK st 1 1000000000) (mi 4) (mi 0) (mi 1) (mi 2) (mi 3) (mi 4) (mi 5) (mi 6) (mi 7) (mi 10) (mi 17) (nI 4) 1 (upd (upd (upd (upd kept 0 (mi 0)) 1 (mi 1)) 2 (mi 2)) 3 (mi 3)) tr lt rp rk rm rd rn dM dD dL dK st := by
    rcases hm with h4 | h4
    · rw [if_pos h4] at hk
      rw [hk, h4]
    · rw [if_neg (by rw [h4]; decide)] at hk
      rw [hk, h4]
  unfold bfX12_movesAll_72 at hk
  obtain ⟨o5, e5, hk⟩ := cal_out hk
  rw [pmv_k (p := 4) one rfl (by omega)] at e5
  subst e5
  have hk : k = bfX12_movesAll_84 mi kept tr lt rp rk rm rd rn dM dD dL dK st 1 (lfX12_movesAll mi kept tr lt rp rk rm rd rn dM dD dL dK st 1 1000000000) (mi 4) (mi 0) (mi 1) (mi 2) (mi 3) (mi 4) (mi 5) (mi 6) (mi 7) (mi 10) (mi 17) (nI 5) 1 (upd (upd (upd (upd (upd kept 0 (mi 0)) 1 (mi 1)) 2 (mi 2)) 3 (mi 3)) 4 (mi 4)) tr lt rp rk rm rd rn dM dD dL dK st := by
    rcases hm with h4 | h4
    · rw [if_neg (show ¬ mi 4 = 1 by rw [h4]; decide)] at hk
      rw [hk, h4]
    · rw [if_pos h4] at hk
      rw [hk, h4]
  unfold bfX12_movesAll_84 at hk
  obtain ⟨o7, e7, hk⟩ := cal_out hk
  rw [pmv_k (p := 5) one rfl (by omega)] at e7
  subst e7
  obtain ⟨o8, e8, hk⟩ := cal_out hk
  rw [pmv_k (p := 6) one rfl (by omega)] at e8
  subst e8
  obtain ⟨o9, e9, hk⟩ := cal_out hk
  rw [pmv_k (p := 7) one rfl (by omega)] at e9
  subst e9
  obtain ⟨o10, e10, hk⟩ := cal_out hk
  rw [pmv_k (p := 8) one rfl (by omega)] at e10
  subst e10
  obtain ⟨o11, e11, hk⟩ := cal_out hk
  rw [pmv_k (p := 9) one rfl (by omega)] at e11
  subst e11
  obtain ⟨o12, e12, hk⟩ := cal_out hk
  rw [row_k6 (p := 10) one rfl (by omega)] at e12
  subst e12
  obtain ⟨o13, e13, hk⟩ := cal_out hk
  rw [row_k36 (p := 16) one rfl (by omega)] at e13
  subst e13
  obtain ⟨o14, e14, hk⟩ := cal_out hk
  rw [row_k24 (p := 52) one rfl (by omega)] at e14
  subst e14
  obtain ⟨o15, e15, hk⟩ := cal_out hk
  rw [row_k24 (p := 76) one rfl (by omega)] at e15
  subst e15
  obtain ⟨o16, e16, hk⟩ := cal_out hk
  rw [row_k24 (p := 100) one rfl (by omega)] at e16
  subst e16
  obtain ⟨o17, e17, hk⟩ := cal_out hk
  rw [row_k24 (p := 124) one rfl (by omega)] at e17
  subst e17
  obtain ⟨o18, e18, hk⟩ := cal_out hk
  rw [row_k24 (p := 148) one rfl (by omega)] at e18
  subst e18
  obtain ⟨o19, e19, hk⟩ := cal_out hk
  rw [row_k8 (p := 172) one rfl (by omega)] at e19
  subst e19
  obtain ⟨o20, e20, hk⟩ := cal_out hk
  rw [row_k8 (p := 180) one rfl (by omega)] at e20
  subst e20
  obtain ⟨o21, e21, hk⟩ := cal_out hk
  rw [row_k8 (p := 188) one rfl (by omega)] at e21
  subst e21
  obtain ⟨o22, e22, hk⟩ := cal_out hk
  rw [row_k8 (p := 196) one rfl (by omega)] at e22
  subst e22
  have g := mvk_L (mi := mi) (kept := kept) (tr := tr) (lt := lt) (rp := rp) (rk := rk) (rm := rm) (rd := rd) (rn := rn) (dM := dM) (dD := dD) (dL := dL) (dK := dK) (st := st) (kb := (kput (kput (kput (kput (kput (kput (kput (kput (kput (kput (kput (upd (upd (upd (upd (upd (upd (upd (upd (upd (upd kept 0 (mi 0)) 1 (mi 1)) 2 (mi 2)) 3 (mi 3)) 4 (mi 4)) 5 (mi 5)) 6 (mi 6)) 7 (mi 7)) 8 (mi 10)) 9 (mi 17)) 10 6 tr) 16 36 lt) 52 24 rp) 76 24 rk) 100 24 rm) 124 24 rd) 148 24 rn) 172 8 dM) 180 8 dD) 188 8 dL) 196 8 dK)) (hm := mi 4) hs 24 0 1000000000 (by omega) (by omega)
  rw [kput_0] at g
  have hk := hk.trans g
  rw [hk]
theorem mvr_L {mi kept tr lt rp rk rm rd rn dM dD dL dK st : Nat → Int32} {w0 w1 w2 w3 w4 w5 w6 w7 w8 w9 : Int32} {z0 z1 z2 z3 z4 z5 z6 z7 z8 z9 z10 : Nat → Int32} : ∀ (k i z : Nat) (s : Nat → Int32), i + k = 24 → k < z → ∃ s2 : Nat → Int32, (∀ j, i ≤ j → j < 24 → s2 j = if kept (204 + j) = 1 then 1 else 0) ∧ (∀ j, j < i → s2 j = s j) ∧ lfX12_movesAll_sX12_movesAllR mi kept tr lt rp rk rm rd rn dM dD dL dK st 0 z (nI i) w0 w1 w2 w3 w4 w5 w6 w7 w8 w9 (nI (204 + i)) 0 z0 z1 z2 z3 z4 z5 z6 z7 z8 z9 z10 s = (w0, w1, w2, w3, w4, w5, w6, w7, w8, w9, nI (204 + 24), 0, kept, z0, z1, z2, z3, z4, z5, z6, z7, z8, z9, z10, s2) := by
  intro k
  induction k with
  | zero =>
    intro i z s hi hz
    obtain ⟨z, rfl⟩ : ∃ y, z = y + 1 := ⟨z - 1, by omega⟩
    have hi : i = 24 := by omega
    subst hi
    refine ⟨s, fun j h1 h2 => absurd h2 (by omega), fun j _ => rfl, ?_⟩
    show dfX12_movesAll_sX12_movesAllR_237 mi kept tr lt rp rk rm rd rn dM dD dL dK st 0 (lfX12_movesAll_sX12_movesAllR mi kept tr lt rp rk rm rd rn dM dD dL dK st 0 z) (nI 24) w0 w1 w2 w3 w4 w5 w6 w7 w8 w9 (nI (204 + 24)) 0 z0 z1 z2 z3 z4 z5 z6 z7 z8 z9 z10 s = _
    unfold dfX12_movesAll_sX12_movesAllR_237
    exact if_pos (show (24 : Int32) ≤ nI 24 from nI_le (a := 24) (by omega) (by omega))
  | succ k ih =>
    intro i z s hi hz
    obtain ⟨z, rfl⟩ : ∃ y, z = y + 1 := ⟨z - 1, by omega⟩
    obtain ⟨s2, g1, g2, g3⟩ := ih (i + 1) z (upd s i (if kept (204 + i) = 1 then 1 else 0)) (by omega) (by omega)
    refine ⟨s2, fun j h1 h2 => ?_, fun j hj => ?_, ?_⟩
    · by_cases h3 : j = i
      · rw [h3, g2 i (by omega)]
        exact if_pos rfl
      · exact g1 j (by omega) h2
    · rw [g2 j (by omega)]
      exact if_neg (by omega)
    · rw [← g3]
      show dfX12_movesAll_sX12_movesAllR_237 mi kept tr lt rp rk rm rd rn dM dD dL dK st 0 (lfX12_movesAll_sX12_movesAllR mi kept tr lt rp rk rm rd rn dM dD dL dK st 0 z) (nI i) w0 w1 w2 w3 w4 w5 w6 w7 w8 w9 (nI (204 + i)) 0 z0 z1 z2 z3 z4 z5 z6 z7 z8 z9 z10 s = _
      have key : ∀ x : Int32, bfX12_movesAll_sX12_movesAllR_263 mi kept tr lt rp rk rm rd rn dM dD dL dK st 0 (lfX12_movesAll_sX12_movesAllR mi kept tr lt rp rk rm rd rn dM dD dL dK st 0 z) (nI i) x (nI i) w0 w1 w2 w3 w4 w5 w6 w7 w8 w9 (nI (204 + i)) 0 kept z0 z1 z2 z3 z4 z5 z6 z7 z8 z9 z10 s = (lfX12_movesAll_sX12_movesAllR mi kept tr lt rp rk rm rd rn dM dD dL dK st 0 z) (nI (i + 1)) w0 w1 w2 w3 w4 w5 w6 w7 w8 w9 (nI (204 + (i + 1))) 0 z0 z1 z2 z3 z4 z5 z6 z7 z8 z9 z10 (upd s i (if kept (204 + i) = 1 then 1 else 0)) := by
        intro x
        have n0 : vp_nar .boolean (0 : Int32) = 0 := by decide
        have n1 : vp_nar .boolean (1 : Int32) = 1 := by decide
        unfold bfX12_movesAll_sX12_movesAllR_263 bfX12_movesAll_sX12_movesAllR_275
        rw [pmv_r (p := 204 + i) rfl rfl (by omega), cal_b, nI_clamp (show i < 2147483648 by omega), n0, n1, ← nI_succ, Nat.add_assoc]
        by_cases h4 : kept (204 + i) = 1
        · rw [if_pos h4, if_pos h4]
        · rw [if_neg h4, if_neg h4]
      unfold dfX12_movesAll_sX12_movesAllR_237
      rw [if_neg (show ¬ (24 : Int32) ≤ nI i from nI_ge (b := 24) (by omega) (by omega)), key, key]
      split
      · rfl
      · rfl
set_option maxRecDepth 100000 in
theorem mvr_all {mi kept tr lt rp rk rm rd rn dM dD dL dK st : Nat → Int32} {o : Int32 × Int32 × Int32 × Int32 × Int32 × Int32 × Int32 × Int32 × Int32 × Int32 × Int32 × Int32 × (Nat → Int32) × (Nat → Int32) × (Nat → Int32) × (Nat → Int32) × (Nat → Int32) × (Nat → Int32) × (Nat → Int32) × (Nat → Int32) × (Nat → Int32) × (Nat → Int32) × (Nat → Int32) × (Nat → Int32) × (Nat → Int32)} (ho : o = fX12_movesAll_sX12_movesAllR mi kept tr lt rp rk rm rd rn dM dD dL dK st 0) : o.1 = kept 0 ∧ o.2.1 = kept 1 ∧ o.2.2.1 = kept 2 ∧ o.2.2.2.1 = kept 3 ∧ o.2.2.2.2.1 = (if kept 4 = 1 then 1 else 0) ∧ o.2.2.2.2.2.1 = kept 5 ∧ o.2.2.2.2.2.2.1 = kept 6 ∧ o.2.2.2.2.2.2.2.1 = kept 7 ∧ o.2.2.2.2.2.2.2.2.1 = kept 8 ∧ o.2.2.2.2.2.2.2.2.2.1 = kept 9 ∧ (∀ i, i < 6 → o.2.2.2.2.2.2.2.2.2.2.2.2.2.1 i = kept (10 + i)) ∧ (∀ i, i < 36 → o.2.2.2.2.2.2.2.2.2.2.2.2.2.2.1 i = kept (16 + i)) ∧ (∀ i, i < 24 → o.2.2.2.2.2.2.2.2.2.2.2.2.2.2.2.1 i = kept (52 + i)) ∧ (∀ i, i < 24 → o.2.2.2.2.2.2.2.2.2.2.2.2.2.2.2.2.1 i = kept (76 + i)) ∧ (∀ i, i < 24 → o.2.2.2.2.2.2.2.2.2.2.2.2.2.2.2.2.2.1 i = kept (100 + i)) ∧ (∀ i, i < 24 → o.2.2.2.2.2.2.2.2.2.2.2.2.2.2.2.2.2.2.1 i = kept (124 + i)) ∧ (∀ i, i < 24 → o.2.2.2.2.2.2.2.2.2.2.2.2.2.2.2.2.2.2.2.1 i = kept (148 + i)) ∧ (∀ i, i < 8 → o.2.2.2.2.2.2.2.2.2.2.2.2.2.2.2.2.2.2.2.2.1 i = kept (172 + i)) ∧ (∀ i, i < 8 → o.2.2.2.2.2.2.2.2.2.2.2.2.2.2.2.2.2.2.2.2.2.1 i = kept (180 + i)) ∧ (∀ i, i < 8 → o.2.2.2.2.2.2.2.2.2.2.2.2.2.2.2.2.2.2.2.2.2.2.1 i = kept (188 + i)) ∧ (∀ i, i < 8 → o.2.2.2.2.2.2.2.2.2.2.2.2.2.2.2.2.2.2.2.2.2.2.2.1 i = kept (196 + i)) ∧ (∀ i, i < 24 → o.2.2.2.2.2.2.2.2.2.2.2.2.2.2.2.2.2.2.2.2.2.2.2.2 i = if kept (204 + i) = 1 then 1 else 0) := by
  unfold fX12_movesAll_sX12_movesAllR at ho
  obtain ⟨o1, e1, ho⟩ := cal_out ho
  rw [pmv_r (p := 0) rfl rfl (by omega)] at e1
  subst e1
  obtain ⟨o2, e2, ho⟩ := cal_out ho
  rw [pmv_r (p := 1) rfl rfl (by omega)] at e2
  subst e2
  obtain ⟨o3, e3, ho⟩ := cal_out ho
  rw [pmv_r (p := 2) rfl rfl (by omega)] at e3
  subst e3
  obtain ⟨o4, e4, ho⟩ := cal_out ho
  rw [pmv_r (p := 3) rfl rfl (by omega)] at e4
  subst e4
  obtain ⟨s0, ho⟩ : ∃ s0 : Int32, o = bfX12_movesAll_sX12_movesAllR_72 mi kept tr lt rp rk rm rd rn dM dD dL dK st 0 (lfX12_movesAll_sX12_movesAllR mi kept tr lt rp rk rm rd rn dM dD dL dK st 0 1000000000) s0 (kept 0) (kept 1) (kept 2) (kept 3) (mi 4) (mi 5) (mi 6) (mi 7) (mi 10) (mi 17) (nI 4) 0 kept tr lt rp rk rm rd rn dM dD dL dK st := by
    by_cases h4 : mi 4 = 0
    · rw [if_pos h4] at ho
      exact ⟨_, ho⟩
    · rw [if_neg h4] at ho
      exact ⟨_, ho⟩
  unfold bfX12_movesAll_sX12_movesAllR_72 at ho
  obtain ⟨o5, e5, ho⟩ := cal_out ho
  rw [pmv_r (p := 4) rfl rfl (by omega)] at e5
  subst e5
  have ho : o = bfX12_movesAll_sX12_movesAllR_84 mi kept tr lt rp rk rm rd rn dM dD dL dK st 0 (lfX12_movesAll_sX12_movesAllR mi kept tr lt rp rk rm rd rn dM dD dL dK st 0 1000000000) (if kept 4 = 1 then 1 else 0) (kept 0) (kept 1) (kept 2) (kept 3) (mi 4) (mi 5) (mi 6) (mi 7) (mi 10) (mi 17) (nI 5) 0 kept tr lt rp rk rm rd rn dM dD dL dK st := by
    by_cases h4 : kept 4 = 1
    · rw [if_pos h4] at ho
      rw [ho, if_pos h4]
    · rw [if_neg h4] at ho
      rw [ho, if_neg h4]
  unfold bfX12_movesAll_sX12_movesAllR_84 at ho
  obtain ⟨o7, e7, ho⟩ := cal_out ho
  rw [pmv_r (p := 5) rfl rfl (by omega)] at e7
  subst e7
  obtain ⟨o8, e8, ho⟩ := cal_out ho
  rw [pmv_r (p := 6) rfl rfl (by omega)] at e8
  subst e8
  obtain ⟨o9, e9, ho⟩ := cal_out ho
  rw [pmv_r (p := 7) rfl rfl (by omega)] at e9
  subst e9
  obtain ⟨o10, e10, ho⟩ := cal_out ho
  rw [pmv_r (p := 8) rfl rfl (by omega)] at e10
  subst e10
  obtain ⟨o11, e11, ho⟩ := cal_out ho
  rw [pmv_r (p := 9) rfl rfl (by omega)] at e11
  subst e11
  obtain ⟨o12, e12, ho⟩ := cal_out ho
  rw [row_r6 (p := 10) rfl rfl (by omega)] at e12
  subst e12
  obtain ⟨o13, e13, ho⟩ := cal_out ho
  rw [row_r36 (p := 16) rfl rfl (by omega)] at e13
  subst e13
  obtain ⟨o14, e14, ho⟩ := cal_out ho
  rw [row_r24 (p := 52) rfl rfl (by omega)] at e14
  subst e14
  obtain ⟨o15, e15, ho⟩ := cal_out ho
  rw [row_r24 (p := 76) rfl rfl (by omega)] at e15
  subst e15
  obtain ⟨o16, e16, ho⟩ := cal_out ho
  rw [row_r24 (p := 100) rfl rfl (by omega)] at e16
  subst e16
  obtain ⟨o17, e17, ho⟩ := cal_out ho
  rw [row_r24 (p := 124) rfl rfl (by omega)] at e17
  subst e17
  obtain ⟨o18, e18, ho⟩ := cal_out ho
  rw [row_r24 (p := 148) rfl rfl (by omega)] at e18
  subst e18
  obtain ⟨o19, e19, ho⟩ := cal_out ho
  rw [row_r8 (p := 172) rfl rfl (by omega)] at e19
  subst e19
  obtain ⟨o20, e20, ho⟩ := cal_out ho
  rw [row_r8 (p := 180) rfl rfl (by omega)] at e20
  subst e20
  obtain ⟨o21, e21, ho⟩ := cal_out ho
  rw [row_r8 (p := 188) rfl rfl (by omega)] at e21
  subst e21
  obtain ⟨o22, e22, ho⟩ := cal_out ho
  rw [row_r8 (p := 196) rfl rfl (by omega)] at e22
  subst e22
  obtain ⟨s2, g1, -, g3⟩ := mvr_L (mi := mi) (kept := kept) (tr := tr) (lt := lt) (rp := rp) (rk := rk) (rm := rm) (rd := rd) (rn := rn) (dM := dM) (dD := dD) (dL := dL) (dK := dK) (st := st) (w0 := kept 0) (w1 := kept 1) (w2 := kept 2) (w3 := kept 3) (w4 := if kept 4 = 1 then 1 else 0) (w5 := kept 5) (w6 := kept 6) (w7 := kept 7) (w8 := kept 8) (w9 := kept 9) (z0 := rget kept 10 6 tr) (z1 := rget kept 16 36 lt) (z2 := rget kept 52 24 rp) (z3 := rget kept 76 24 rk) (z4 := rget kept 100 24 rm) (z5 := rget kept 124 24 rd) (z6 := rget kept 148 24 rn) (z7 := rget kept 172 8 dM) (z8 := rget kept 180 8 dD) (z9 := rget kept 188 8 dL) (z10 := rget kept 196 8 dK) 24 0 1000000000 st (by omega) (by omega)
  have ho := ho.trans g3
  subst ho
  exact ⟨rfl, rfl, rfl, rfl, rfl, rfl, rfl, rfl, rfl, rfl, fun i hi => rget_in hi, fun i hi => rget_in hi, fun i hi => rget_in hi, fun i hi => rget_in hi, fun i hi => rget_in hi, fun i hi => rget_in hi, fun i hi => rget_in hi, fun i hi => rget_in hi, fun i hi => rget_in hi, fun i hi => rget_in hi, fun i hi => rget_in hi, fun i hi => g1 i (by omega) hi⟩
theorem z32 : (0 : Int32).toInt = 0 := by decide
theorem z64 : (0 : Int64).toInt = 0 := by decide
theorem o64 : (1 : Int64).toInt = 1 := by decide
theorem nI_sub1 {m : Nat} (hm : m ≤ 100) : (nI m - (1 : Int32)).toInt = (m : Int) - 1 := by
  have h1 : (1 : Int32).toInt = 1 := by decide
  have h2 := nI_toInt (n := m) (by omega)
  have q := gi_subI (z := nI m - (1 : Int32)) rfl (by rw [h1, h2]; omega) (by rw [h1, h2]; omega)
  rw [q, h1, h2]
theorem dx_hasPlace {m : Nat} (hm : m ≤ 100) (p : Int32) : fX11_hasPlace (nI m) p = if 0 ≤ p.toInt ∧ p.toInt < (m : Int) then 1 else 0 := by
  have h2 := nI_toInt (n := m) (by omega)
  unfold fX11_hasPlace bfX11_hasPlace_19 bfX11_hasPlace_20
  by_cases h1 : p < 0
  · have h3 := Int32.lt_iff_toInt_lt.mp h1
    rw [z32] at h3
    rw [if_pos h1, if_neg (by omega)]
  · have h3 : ¬ p.toInt < 0 := fun q => h1 (Int32.lt_iff_toInt_lt.mpr (by rw [z32]; exact q))
    rw [if_neg h1]
    by_cases h4 : nI m ≤ p
    · have h5 := Int32.le_iff_toInt_le.mp h4
      rw [if_pos h4, if_neg (by omega)]
    · have h5 : ¬ (nI m).toInt ≤ p.toInt := fun q => h4 (Int32.le_iff_toInt_le.mpr q)
      rw [if_neg h4, if_pos (by omega)]
theorem dr_isPlace {mi : Nat → Int32} {m : Nat} (h : mi 7 = nI m) (hm : m ≤ 100) (p : Int32) : fX12_isPlace mi p = if 0 ≤ p.toInt ∧ p.toInt < (m : Int) then 1 else 0 := by
  unfold fX12_isPlace
  rw [cal_b, pr_in64, h, Int32.toInt_toInt64, Int32.toInt_toInt64, z64, nI_sub1 hm]
  by_cases h1 : 0 ≤ p.toInt ∧ p.toInt < (m : Int)
  · rw [if_pos h1, if_pos (by omega)]
  · rw [if_neg h1, if_neg (by omega)]
theorem dx_hasReport {m : Nat} (hm : m ≤ 100) (p : Int32) : fX11_hasReport (nI m) p = if 0 ≤ p.toInt ∧ p.toInt < (m : Int) then 1 else 0 := by
  have h2 := nI_toInt (n := m) (by omega)
  unfold fX11_hasReport bfX11_hasReport_19 bfX11_hasReport_20
  by_cases h1 : p < 0
  · have h3 := Int32.lt_iff_toInt_lt.mp h1
    rw [z32] at h3
    rw [if_pos h1, if_neg (by omega)]
  · have h3 : ¬ p.toInt < 0 := fun q => h1 (Int32.lt_iff_toInt_lt.mpr (by rw [z32]; exact q))
    rw [if_neg h1]
    by_cases h4 : nI m ≤ p
    · have h5 := Int32.le_iff_toInt_le.mp h4
      rw [if_pos h4, if_neg (by omega)]
    · have h5 : ¬ (nI m).toInt ≤ p.toInt := fun q => h4 (Int32.le_iff_toInt_le.mpr q)
      rw [if_neg h4, if_pos (by omega)]
theorem dr_isReport {mi : Nat → Int32} {m : Nat} (h : mi 10 = nI m) (hm : m ≤ 100) (p : Int32) : fX12_isReport mi p = if 0 ≤ p.toInt ∧ p.toInt < (m : Int) then 1 else 0 := by
  unfold fX12_isReport
  rw [cal_b, pr_in64, h, Int32.toInt_toInt64, Int32.toInt_toInt64, z64, nI_sub1 hm]
  by_cases h1 : 0 ≤ p.toInt ∧ p.toInt < (m : Int)
  · rw [if_pos h1, if_pos (by omega)]
  · rw [if_neg h1, if_neg (by omega)]
theorem dx_hasDeed {m : Nat} (hm : m ≤ 100) (p : Int32) : fX11_hasDeed (nI m) p = if 0 ≤ p.toInt ∧ p.toInt < (m : Int) then 1 else 0 := by
  have h2 := nI_toInt (n := m) (by omega)
  unfold fX11_hasDeed bfX11_hasDeed_19 bfX11_hasDeed_20
  by_cases h1 : p < 0
  · have h3 := Int32.lt_iff_toInt_lt.mp h1
    rw [z32] at h3
    rw [if_pos h1, if_neg (by omega)]
  · have h3 : ¬ p.toInt < 0 := fun q => h1 (Int32.lt_iff_toInt_lt.mpr (by rw [z32]; exact q))
    rw [if_neg h1]
    by_cases h4 : nI m ≤ p
    · have h5 := Int32.le_iff_toInt_le.mp h4
      rw [if_pos h4, if_neg (by omega)]
    · have h5 : ¬ (nI m).toInt ≤ p.toInt := fun q => h4 (Int32.le_iff_toInt_le.mpr q)
      rw [if_neg h4, if_pos (by omega)]
theorem dr_isDeed {mi : Nat → Int32} {m : Nat} (h : mi 17 = nI m) (hm : m ≤ 100) (p : Int32) : fX12_isDeed mi p = if 0 ≤ p.toInt ∧ p.toInt < (m : Int) then 1 else 0 := by
  unfold fX12_isDeed
  rw [cal_b, pr_in64, h, Int32.toInt_toInt64, Int32.toInt_toInt64, z64, nI_sub1 hm]
  by_cases h1 : 0 ≤ p.toInt ∧ p.toInt < (m : Int)
  · rw [if_pos h1, if_pos (by omega)]
  · rw [if_neg h1, if_neg (by omega)]
theorem dx_told (mo : Int32) : fX11_isTold mo = if 0 < mo.toInt then 1 else 0 := by
  unfold fX11_isTold bfX11_isTold_15
  by_cases h : mo ≤ 0
  · have h1 := Int32.le_iff_toInt_le.mp h
    rw [z32] at h1
    rw [if_pos h, if_neg (by omega)]
  · have h1 : ¬ mo.toInt ≤ 0 := fun q => h (Int32.le_iff_toInt_le.mpr (by rw [z32]; exact q))
    rw [if_neg h, if_pos (by omega)]
theorem dx_month (mo p a b : Int32) : fX11_hasMonth mo p a b = if 0 < mo.toInt ∧ a.toInt ≤ p.toInt ∧ p.toInt ≤ b.toInt then 1 else 0 := by
  unfold fX11_hasMonth bfX11_hasMonth_21 bfX11_hasMonth_22
  rw [cal_b, dx_told]
  by_cases h : 0 < mo.toInt
  · rw [if_pos h, if_neg (show ¬ (1 : Int32) = 0 by decide)]
    by_cases h1 : p < a
    · have h2 := Int32.lt_iff_toInt_lt.mp h1
      rw [if_pos h1, if_neg (by omega)]
    · have h2 : ¬ p.toInt < a.toInt := fun q => h1 (Int32.lt_iff_toInt_lt.mpr q)
      rw [if_neg h1]
      by_cases h3 : b < p
      · have h4 := Int32.lt_iff_toInt_lt.mp h3
        rw [if_pos h3, if_neg (by omega)]
      · have h4 : ¬ b.toInt < p.toInt := fun q => h3 (Int32.lt_iff_toInt_lt.mpr q)
        rw [if_neg h3, if_pos (by omega)]
  · rw [if_neg h, if_pos rfl, if_neg (fun q => h q.1)]
theorem dx_time (mo p : Int32) : fX11_hasTime mo p = if 0 < mo.toInt ∧ 0 ≤ p.toInt ∧ p.toInt ≤ 999 then 1 else 0 := by
  have k9 : (999 : Int32).toInt = 999 := by decide
  unfold fX11_hasTime bfX11_hasTime_22 bfX11_hasTime_23
  rw [cal_b, dx_told]
  by_cases h : 0 < mo.toInt
  · rw [if_pos h, if_neg (show ¬ (1 : Int32) = 0 by decide)]
    by_cases h1 : p < 0
    · have h2 := Int32.lt_iff_toInt_lt.mp h1
      rw [z32] at h2
      rw [if_pos h1, if_neg (by omega)]
    · have h2 : ¬ p.toInt < 0 := fun q => h1 (Int32.lt_iff_toInt_lt.mpr (by rw [z32]; exact q))
      rw [if_neg h1]
      by_cases h3 : (999 : Int32) < p
      · have h4 := Int32.lt_iff_toInt_lt.mp h3
        rw [k9] at h4
        rw [if_pos h3, if_neg (by omega)]
      · have h4 : ¬ 999 < p.toInt := fun q => h3 (Int32.lt_iff_toInt_lt.mpr (by rw [k9]; exact q))
        rw [if_neg h3, if_pos (by omega)]
  · rw [if_neg h, if_pos rfl, if_neg (fun q => h q.1)]
theorem dr_in (p : Int32) (a b : Int64) : fX12_in p.toInt64 a b = if a.toInt ≤ p.toInt ∧ p.toInt ≤ b.toInt then 1 else 0 := by
  rw [pr_in64, Int32.toInt_toInt64]
theorem dr_time (mi : Nat → Int32) (p : Int32) : fX12_isTime mi p = if 0 < (mi 3).toInt ∧ 0 ≤ p.toInt ∧ p.toInt ≤ 999 then 1 else 0 := by
  have k9 : (999 : Int64).toInt = 999 := by decide
  unfold fX12_isTime bfX12_isTime_23 bfX12_isTime_24
  by_cases h : mi 3 ≤ 0
  · have h1 := Int32.le_iff_toInt_le.mp h
    rw [z32] at h1
    rw [if_pos h, if_neg (by omega)]
  · have h1 : ¬ (mi 3).toInt ≤ 0 := fun q => h (Int32.le_iff_toInt_le.mpr (by rw [z32]; exact q))
    rw [if_neg h, cal_b, dr_in, z64, k9]
    by_cases h2 : 0 ≤ p.toInt ∧ p.toInt ≤ 999
    · rw [if_pos h2, if_neg (show ¬ (1 : Int32) = 0 by decide), if_pos (by omega)]
    · rw [if_neg h2, if_pos rfl, if_neg (by omega)]
theorem clampI {p : Int32} {m : Nat} (h : 0 ≤ p.toInt ∧ p.toInt < (m : Int)) : p.toNatClampNeg < m ∧ p = nI p.toNatClampNeg := by
  have h1 : p.toNatClampNeg = p.toInt.toNat := rfl
  have h2 := p.toInt_lt
  rw [h1]
  exact ⟨by omega, Int32.toInt_inj.mp (by rw [nI_toInt (by omega)]; omega)⟩
theorem n10 : ¬ (1 : Int32) = 0 := by decide
theorem fl_report {mi xp xk xm xd xn xs yp yk ym yd yn ys : Nat → Int32} {r : Nat} (hr : r ≤ 24) (h10 : mi 10 = nI r) (hE : ∀ j, j < r → (xp j = yp j ∧ xk j = yk j ∧ xm j = ym j ∧ xd j = yd j ∧ xn j = yn j ∧ xs j = ys j)) (p1 p2 : Int32) : fX11_report (nI r) xp xk xm xd xn xs p1 p2 = fX12_report mi ys yn yp ym yd yk p1 p2 := by
  unfold fX11_report fX12_report bfX11_report_76 bfX12_report_74
  repeat rw [cal_b]
  rw [dx_hasReport (by omega), dr_isReport h10 (by omega)]
  by_cases h : 0 ≤ p1.toInt ∧ p1.toInt < (r : Int)
  · obtain ⟨q1, -⟩ := clampI h
    obtain ⟨e1, e2, e3, e4, e5, e6⟩ := hE _ q1
    rw [if_pos h, if_neg n10, if_neg n10, e1, e2, e3, e4, e5, e6]
  · rw [if_neg h, if_pos rfl, if_pos rfl]
theorem fl_deed {mi xa xb xl xi ya yb yl yi : Nat → Int32} {d : Nat} (hd : d ≤ 8) (h17 : mi 17 = nI d) (hE : ∀ j, j < d → xa j = ya j ∧ xb j = yb j ∧ xl j = yl j ∧ xi j = yi j) (hk : ∀ j, j < d → xi j = 0 ∨ xi j = 1) (p1 p2 : Int32) : fX11_deed (nI d) xa xb xl xi p1 p2 = fX12_deed mi ya yl yi yb p1 p2 := by
  unfold fX11_deed fX12_deed bfX11_deed_79
  repeat rw [cal_b]
  rw [dx_hasDeed (by omega), dr_isDeed h17 (by omega)]
  by_cases h : 0 ≤ p1.toInt ∧ p1.toInt < (d : Int)
  · obtain ⟨q1, -⟩ := clampI h
    obtain ⟨e1, e2, e3, e4⟩ := hE _ q1
    have g9 := hk _ q1
    rw [e4] at g9
    rw [if_pos h, if_neg n10, if_neg n10, e1, e2, e3, e4]
    have e5 : (if yi p1.toNatClampNeg = 0 then (0 : Int32) else 1) = yi p1.toNatClampNeg := by
      rcases g9 with g | g
      · rw [if_pos g, g]
      · rw [if_neg (by rw [g]; decide), g]
    rw [e5]
  · rw [if_neg h, if_pos rfl, if_pos rfl]
theorem fl_early {mi : Nat → Int32} (p1 : Int32) : fX11_early (mi 0) (mi 4) (mi 5) (mi 6) p1 = fX12_early mi p1 := by
  have k1 : (1 : Int32).toInt = 1 := by decide
  unfold fX11_early fX12_early bfX11_early_26 bfX12_early_29 bfX12_early_31 fX0_earlyOf fX12_earlyOf
  repeat rw [cal_b]
  rw [dx_month, dr_in, o64, k1, Int32.toInt_toInt64]
  by_cases h : 1 ≤ p1.toInt ∧ p1.toInt ≤ (mi 0).toInt
  · rw [if_pos h, if_pos (show 0 < (mi 0).toInt ∧ 1 ≤ p1.toInt ∧ p1.toInt ≤ (mi 0).toInt by omega), if_neg n10]
  · rw [if_neg h, if_neg (show ¬ (0 < (mi 0).toInt ∧ 1 ≤ p1.toInt ∧ p1.toInt ≤ (mi 0).toInt) from fun q => h q.2), if_pos rfl]
theorem kn_eq (xn xs : Nat → Int32) (v p1 : Int32) : fX7_isKnownBy (xn v.toNatClampNeg) (xs v.toNatClampNeg) p1 = fX12_isKnown xs xn v p1 := rfl
theorem bl_x (a b : Int32) (xk xm xn xs : Nat → Int32) (p1 p2 : Int32) (z : Nat) (v3 v4 : Int32) : lfX11_blind a b xk xm xn xs p1 p2 (z + 1) v3 v4 = dfX11_blind_34 a b xk xm xn xs p1 p2 (lfX11_blind a b xk xm xn xs p1 p2 z) v3 v4 := rfl
theorem bl_m (mi ys yn ym yk : Nat → Int32) (p1 p2 : Int32) (z : Nat) (v3 v4 : Int32) : lfX12_blind mi ys yn ym yk p1 p2 (z + 1) v3 v4 = dfX12_blind_32 mi ys yn ym yk p1 p2 (lfX12_blind mi ys yn ym yk p1 p2 z) v3 v4 := rfl
theorem bl_loop {mi xk xm xn xs yk ym yn ys : Nat → Int32} {mo : Int32} {r : Nat} (hr : r ≤ 24) (h10 : mi 10 = nI r) (hE : ∀ j, j < r → xk j = yk j ∧ xm j = ym j ∧ xn j = yn j ∧ xs j = ys j) (p1 p2 : Int32) : ∀ (k i z y : Nat) (v : Int32), i + k = r → k < z → k < y → (v = 0 ∨ v = 1) → lfX11_blind mo (nI r) xk xm xn xs p1 p2 z v (nI i) = lfX12_blind mi ys yn ym yk p1 p2 y v (nI i) := by
  intro k
  induction k with
  | zero =>
    intro i z y v hi hz hy hv
    obtain ⟨z, rfl⟩ : ∃ q, z = q + 1 := ⟨z - 1, by omega⟩
    obtain ⟨y, rfl⟩ : ∃ q, y = q + 1 := ⟨y - 1, by omega⟩
    rw [bl_x, bl_m]
    unfold dfX11_blind_34 dfX12_blind_32 bfX12_blind_95
    rw [h10, if_pos (nI_le (by omega) (by omega)), if_pos (nI_le (by omega) (by omega))]
    rcases hv with h | h
    · rw [if_pos h, h]
    · rw [if_neg (by rw [h]; decide), h]
  | succ k ih =>
    intro i z y v hi hz hy hv
    obtain ⟨z, rfl⟩ : ∃ q, z = q + 1 := ⟨z - 1, by omega⟩
    obtain ⟨y, rfl⟩ : ∃ q, y = q + 1 := ⟨y - 1, by omega⟩
    have a1 := ih (i + 1) z y v (by omega) (by omega) (by omega) hv
    have a2 := ih (i + 1) z y 1 (by omega) (by omega) (by omega) (Or.inr rfl)
    obtain ⟨e2, e3, e5, e6⟩ := hE i (by omega)
    have ek : fX7_isKnownBy (yn i) (ys i) p1 = fX12_isKnown ys yn (nI i) p1 := by
      have g := kn_eq yn ys (nI i) p1
      rw [nI_clamp (by omega)] at g
      exact g
    rw [bl_x, bl_m]
    unfold dfX11_blind_34 dfX12_blind_32 bfX11_blind_89 bfX12_blind_80
    rw [h10, if_neg (nI_ge (by omega) (by omega)), if_neg (nI_ge (by omega) (by omega)), nI_clamp (show i < 2147483648 by omega), e2, e3, e5, e6, ek, cal_b, cal_b, ← nI_succ, a1, a2]
    by_cases g1 : fX12_isKnown ys yn (nI i) p1 = 0
    · rw [if_pos g1, if_pos g1]
      split
      · rfl
      · rfl
    · rw [if_neg g1, if_neg g1]
theorem fl_blind {mi xk xm xn xs yk ym yn ys : Nat → Int32} {r : Nat} (hr : r ≤ 24) (h10 : mi 10 = nI r) (hE : ∀ j, j < r → xk j = yk j ∧ xm j = ym j ∧ xn j = yn j ∧ xs j = ys j) (hM : 0 < (mi 0).toInt ↔ 0 < (mi 3).toInt) (h0 : 0 ≤ (mi 0).toInt) (h1 : (mi 0).toInt ≤ 24) (p1 p2 : Int32) : fX11_blind (mi 0) (nI r) xk xm xn xs p1 p2 = fX12_blind mi ys yn ym yk p1 p2 := by
  have k1 : (1 : Int32).toInt = 1 := by decide
  have ks : (mi 0 - (1 : Int32)).toInt = (mi 0).toInt - 1 := by
    have q := gi_subI (z := mi 0 - (1 : Int32)) rfl (by rw [k1]; omega) (by rw [k1]; omega)
    rw [q, k1]
  have hl := bl_loop (mo := mi 0) hr h10 hE p1 p2 r 0 1000000000 1000000000 0 (by omega) (by omega) (by omega) (Or.inl rfl)
  unfold fX11_blind fX12_blind bfX11_blind_26 bfX12_blind_24
  repeat rw [cal_b]
  rw [dx_time, dr_time, dx_month, dr_in, o64, k1, Int32.toInt_toInt64, ks]
  by_cases h : 0 < (mi 0).toInt ∧ 0 ≤ p1.toInt ∧ p1.toInt ≤ 999
  · rw [if_pos h, if_pos (show 0 < (mi 3).toInt ∧ 0 ≤ p1.toInt ∧ p1.toInt ≤ 999 from ⟨hM.mp h.1, h.2⟩), if_neg n10, if_neg n10]
    by_cases g : 1 ≤ p2.toInt ∧ p2.toInt ≤ (mi 0).toInt - 1
    · rw [if_pos g, if_pos (show 0 < (mi 0).toInt ∧ 1 ≤ p2.toInt ∧ p2.toInt ≤ (mi 0).toInt - 1 from ⟨h.1, g⟩), if_neg n10, if_neg n10]
      exact hl
    · rw [if_neg g, if_neg (show ¬ (0 < (mi 0).toInt ∧ 1 ≤ p2.toInt ∧ p2.toInt ≤ (mi 0).toInt - 1) from fun q => g q.2), if_pos rfl, if_pos rfl]
  · rw [if_neg h, if_neg (show ¬ (0 < (mi 3).toInt ∧ 0 ≤ p1.toInt ∧ p1.toInt ≤ 999) from fun q => h ⟨hM.mpr q.1, q.2⟩), if_pos rfl, if_pos rfl]
theorem i32le {a b : Int32} : a ≤ b ↔ a.toInt ≤ b.toInt := Int32.le_iff_toInt_le
theorem i32lt {a b : Int32} : a < b ↔ a.toInt < b.toInt := Int32.lt_iff_toInt_lt
theorem fl_trusts {mi xt yt : Nat → Int32} {m : Nat} (hm : m ≤ 6) (h7 : mi 7 = nI m) (hE : ∀ j, j < m → xt j = yt j) (cs ts hs p1 p2 : Int32) : (fX11_trusts cs ts hs (nI m) xt p1 p2).1 = (fX12_trusts mi yt p1 p2).1 ∧ ∀ j, j < m → (fX11_trusts cs ts hs (nI m) xt p1 p2).2.2.2.2 j = (fX12_trusts mi yt p1 p2).2 j := by
  have k9 : (9 : Int32).toInt = 9 := by decide
  have k9l : (9 : Int64).toInt = 9 := by decide
  unfold fX11_trusts fX12_trusts bfX11_trusts_18 bfX12_trusts_20
  repeat rw [cal_b]
  rw [dx_hasPlace (by omega), dr_isPlace h7 (by omega), dr_in, z64, k9l]
  by_cases h : 0 ≤ p1.toInt ∧ p1.toInt < (m : Int)
  · obtain ⟨q1, -⟩ := clampI h
    rw [if_pos h, if_neg n10, if_neg n10]
    by_cases h1 : 0 ≤ p2.toInt ∧ p2.toInt ≤ 9
    · rw [if_pos h1, if_neg n10, if_neg (show ¬ p2 < 0 from fun q => absurd (i32lt.mp q) (by rw [z32]; omega)), if_pos (show p2 ≤ 9 from i32le.mpr (by rw [k9]; omega))]
      refine ⟨hE _ q1, fun j hj => ?_⟩
      show upd xt p1.toNatClampNeg p2 j = upd yt p1.toNatClampNeg p2 j
      unfold upd
      split
      · rfl
      · exact hE j hj
    · rw [if_neg h1, if_pos rfl]
      by_cases h2 : p2 < 0
      · rw [if_pos h2]
        exact ⟨rfl, hE⟩
      · have h3 : ¬ p2.toInt < 0 := fun q => h2 (i32lt.mpr (by rw [z32]; exact q))
        rw [if_neg h2, if_neg (show ¬ p2 ≤ 9 from fun q => absurd (i32le.mp q) (by rw [k9]; omega))]
        exact ⟨rfl, hE⟩
  · rw [if_neg h, if_pos rfl, if_pos rfl]
    exact ⟨rfl, hE⟩
theorem fl_moon {mi : Nat → Int32} (hM : 0 < (mi 0).toInt ↔ ¬ mi 3 = 0) (cs ts hs p1 p2 : Int32) : (fX11_moon cs ts hs (mi 0) (mi 4) (mi 5) (mi 6) p1 p2).1 = (fX12_moon mi p1 p2).1 ∧ (fX11_moon cs ts hs (mi 0) (mi 4) (mi 5) (mi 6) p1 p2).2.2.2.2 = (fX12_moon mi p1 p2).2 := by
  have ka : (99999 : Int32).toInt = 99999 := by decide
  have kb : (28000 : Int32).toInt = 28000 := by decide
  have kc : (31000 : Int32).toInt = 31000 := by decide
  have la : (99999 : Int64).toInt = 99999 := by decide
  have lb : (28000 : Int64).toInt = 28000 := by decide
  have lc : (31000 : Int64).toInt = 31000 := by decide
  unfold fX11_moon fX12_moon bfX11_moon_32 bfX12_moon_33 fX0_setMoon fX0_earlyOf fX12_earlyOf
  repeat rw [cal_b]
  rw [dx_told, dr_in, dr_in, z64, la, lb, lc]
  by_cases h : mi 3 = 0
  · rw [if_pos h, if_neg (fun q => (hM.mp q) h), if_pos rfl]
    exact ⟨rfl, rfl⟩
  · rw [if_neg h, if_pos (hM.mpr h), if_neg n10]
    by_cases h1 : 0 ≤ p1.toInt ∧ p1.toInt ≤ 99999
    · rw [if_pos h1, if_neg n10, if_neg (show ¬ p1 < 0 from fun q => absurd (i32lt.mp q) (by rw [z32]; omega)), if_neg (show ¬ (99999 : Int32) < p1 from fun q => absurd (i32lt.mp q) (by rw [ka]; omega))]
      by_cases h2 : 28000 ≤ p2.toInt ∧ p2.toInt ≤ 31000
      · rw [if_pos h2, if_neg n10, if_neg (show ¬ p2 < 28000 from fun q => absurd (i32lt.mp q) (by rw [kb]; omega)), if_pos (show p2 ≤ 31000 from i32le.mpr (by rw [kc]; omega))]
        exact ⟨rfl, rfl⟩
      · rw [if_neg h2, if_pos rfl]
        by_cases h3 : p2 < 28000
        · rw [if_pos h3]
          exact ⟨rfl, rfl⟩
        · have h4 : ¬ p2.toInt < 28000 := fun q => h3 (i32lt.mpr (by rw [kb]; exact q))
          rw [if_neg h3, if_neg (show ¬ p2 ≤ 31000 from fun q => absurd (i32le.mp q) (by rw [kc]; omega))]
          exact ⟨rfl, rfl⟩
    · rw [if_neg h1, if_pos rfl]
      by_cases h3 : p1 < 0
      · rw [if_pos h3]
        exact ⟨rfl, rfl⟩
      · have h4 : ¬ p1.toInt < 0 := fun q => h3 (i32lt.mpr (by rw [z32]; exact q))
        rw [if_neg h3, if_pos (show (99999 : Int32) < p1 from i32lt.mpr (by rw [ka]; omega))]
        exact ⟨rfl, rfl⟩
def cs (P : Nat → Bool) : Nat → Nat → Nat
  | 0, _ => 0
  | k + 1, i => (if P i = true then 1 else 0) + cs P k (i + 1)
theorem cs_0 (P : Nat → Bool) (i : Nat) : cs P 0 i = 0 := rfl
theorem cs_s (P : Nat → Bool) (k i : Nat) : cs P (k + 1) i = (if P i = true then 1 else 0) + cs P k (i + 1) := rfl
theorem so_s (rc : Int32) (xp st : Nat → Int32) (p : Int32) (z : Nat) (a b : Int32) : lfX0_standingOf rc xp st p (z + 1) a b = dfX0_standingOf_4 rc xp st p (lfX0_standingOf rc xp st p z) a b := rfl
theorem so_L {xp st : Nat → Int32} {r : Nat} (hr : r ≤ 24) (p : Int32) : ∀ (k i a z : Nat), i + k = r → k < z → lfX0_standingOf (nI r) xp st p z (nI a) (nI i) = nI (a + cs (fun j => decide (xp j = p ∧ st j = 0)) k i) := by
  intro k
  induction k with
  | zero =>
    intro i a z hi hz
    obtain ⟨z, rfl⟩ : ∃ q, z = q + 1 := ⟨z - 1, by omega⟩
    rw [so_s, cs_0]
    unfold dfX0_standingOf_4
    rw [if_pos (nI_le (by omega) (by omega))]
    rfl
  | succ k ih =>
    intro i a z hi hz
    obtain ⟨z, rfl⟩ : ∃ q, z = q + 1 := ⟨z - 1, by omega⟩
    rw [so_s, cs_s]
    unfold dfX0_standingOf_4 bfX0_standingOf_40
    rw [if_neg (nI_ge (by omega) (by omega)), nI_clamp (show i < 2147483648 by omega), ← nI_succ, ← nI_succ, ih (i + 1) (a + 1) z (by omega) (by omega), ih (i + 1) a z (by omega) (by omega)]
    by_cases h1 : xp i = p
    · rw [if_pos h1]
      by_cases h2 : st i = 0
      · rw [if_pos h2, if_pos (decide_eq_true ⟨h1, h2⟩), Nat.add_assoc]
      · rw [if_neg h2, if_neg (fun q => h2 (of_decide_eq_true q).2), Nat.zero_add]
    · rw [if_neg h1, if_neg (fun q => h1 (of_decide_eq_true q).1), Nat.zero_add]
def css (xp st : Nat → Int32) (r i : Nat) : Nat → Nat → Nat
  | 0, _ => 0
  | k + 1, q => cs (fun j => decide (xp j = nI q ∧ st j = 0)) r i + css xp st r i k (q + 1)
theorem css_0 (xp st : Nat → Int32) (r i q : Nat) : css xp st r i 0 q = 0 := rfl
theorem css_s (xp st : Nat → Int32) (r i k q : Nat) : css xp st r i (k + 1) q = cs (fun j => decide (xp j = nI q ∧ st j = 0)) r i + css xp st r i k (q + 1) := rfl
theorem sg_s (pc rc : Int32) (xp st : Nat → Int32) (z : Nat) (a b : Int32) : lfX0_standing pc rc xp st (z + 1) a b = dfX0_standing_4 pc rc xp st (lfX0_standing pc rc xp st z) a b := rfl
theorem sg_L {xp st : Nat → Int32} {m r : Nat} (hm : m ≤ 6) (hr : r ≤ 24) : ∀ (k q a z : Nat), q + k = m → k < z → lfX0_standing (nI m) (nI r) xp st z (nI a) (nI q) = nI (a + css xp st r 0 k q) := by
  intro k
  induction k with
  | zero =>
    intro q a z hq hz
    obtain ⟨z, rfl⟩ : ∃ y, z = y + 1 := ⟨z - 1, by omega⟩
    rw [sg_s, css_0]
    unfold dfX0_standing_4
    rw [if_pos (nI_le (by omega) (by omega))]
    rfl
  | succ k ih =>
    intro q a z hq hz
    obtain ⟨z, rfl⟩ : ∃ y, z = y + 1 := ⟨z - 1, by omega⟩
    have e : fX0_standingOf (nI r) xp st (nI q) = nI (cs (fun j => decide (xp j = nI q ∧ st j = 0)) r 0) := by
      have g := so_L (xp := xp) (st := st) hr (nI q) r 0 0 1000000000 (by omega) (by omega)
      rw [Nat.zero_add] at g
      exact g
    rw [sg_s, css_s]
    unfold dfX0_standing_4
    rw [if_neg (nI_ge (by omega) (by omega)), e, cal_b, nI_add, ← nI_succ, ih (q + 1) _ z (by omega) (by omega), Nat.add_assoc]
def c1 (xp st : Nat → Int32) (i : Nat) : Nat → Nat → Nat
  | 0, _ => 0
  | k + 1, q => (if decide (xp i = nI q ∧ st i = 0) = true then 1 else 0) + c1 xp st i k (q + 1)
theorem c1_s (xp st : Nat → Int32) (i k q : Nat) : c1 xp st i (k + 1) q = (if decide (xp i = nI q ∧ st i = 0) = true then 1 else 0) + c1 xp st i k (q + 1) := rfl
theorem css_step (xp st : Nat → Int32) (r i : Nat) : ∀ k q : Nat, css xp st (r + 1) i k q = c1 xp st i k q + css xp st r (i + 1) k q := by
  intro k
  induction k with
  | zero => intro q; rfl
  | succ k ih =>
    intro q
    rw [css_s, css_s, c1_s, ih (q + 1), cs_s]
    omega
theorem c1_no {xp st : Nat → Int32} {i w : Nat} (hw : xp i = nI w) (hw6 : w < 1000) : ∀ k q : Nat, q + k < 1000 → (w < q ∨ q + k ≤ w) → c1 xp st i k q = 0 := by
  intro k
  induction k with
  | zero => intro q _ _; rfl
  | succ k ih =>
    intro q hq h
    rw [c1_s, ih (q + 1) (by omega) (by omega), if_neg (fun g => absurd (pz_ninj (by omega) (by omega) (hw.symm.trans (of_decide_eq_true g).1)) (by omega))]
theorem c1_yes {xp st : Nat → Int32} {i w : Nat} (hw : xp i = nI w) (hw6 : w < 1000) : ∀ k q : Nat, q + k < 1000 → q ≤ w → w < q + k → c1 xp st i k q = if decide (st i = 0) = true then 1 else 0 := by
  intro k
  induction k with
  | zero => intro q _ _ _; omega
  | succ k ih =>
    intro q hq h1 h2
    rw [c1_s]
    by_cases h3 : w = q
    · rw [c1_no hw hw6 k (q + 1) (by omega) (by omega), Nat.add_zero]
      by_cases h4 : st i = 0
      · rw [if_pos (decide_eq_true ⟨by rw [hw, h3], h4⟩), if_pos (decide_eq_true h4)]
      · rw [if_neg (fun g => h4 (of_decide_eq_true g).2), if_neg (fun g => h4 (of_decide_eq_true g))]
    · rw [ih (q + 1) (by omega) (by omega) (by omega), if_neg (fun g => absurd (pz_ninj (by omega) (by omega) (hw.symm.trans (of_decide_eq_true g).1)) h3), Nat.zero_add]
theorem css_all {xp st : Nat → Int32} {m : Nat} (hm : m ≤ 6) : ∀ (r i : Nat), (∀ j, i ≤ j → j < i + r → ∃ q, q < m ∧ xp j = nI q) → css xp st r i m 0 = cs (fun j => decide (st j = 0)) r i := by
  intro r
  induction r with
  | zero =>
    intro i _
    have g : ∀ k q : Nat, css xp st 0 i k q = 0 := by
      intro k
      induction k with
      | zero => intro q; rfl
      | succ k ih => intro q; rw [css_s, cs_0, ih (q + 1)]
    rw [g, cs_0]
  | succ r ih =>
    intro i h
    obtain ⟨w, hw1, hw2⟩ := h i (Nat.le_refl _) (by omega)
    rw [css_step, cs_s, ih (i + 1) (fun j g1 g2 => h j (by omega) (by omega)), c1_yes hw2 (by omega) m 0 (by omega) (by omega) (by omega)]
theorem sk_s (mi fs : Nat → Int32) (p1 : Int32) (z : Nat) (a b : Int32) (s : Nat → Int32) : lfX12_strikes mi fs p1 (z + 1) a b s = dfX12_strikes_34 mi fs p1 (lfX12_strikes mi fs p1 z) a b s := rfl
theorem sk_L {mi fs s : Nat → Int32} {r : Nat} {p1 : Int32} (hr : r ≤ 24) (h10 : mi 10 = nI r) : ∀ (k i a z : Nat), i + k = r → k < z → lfX12_strikes mi fs p1 z (nI a) (nI i) s = (nI (a + cs (fun j => decide (s j = 0)) k i), s) := by
  intro k
  induction k with
  | zero =>
    intro i a z hi hz
    obtain ⟨z, rfl⟩ : ∃ q, z = q + 1 := ⟨z - 1, by omega⟩
    rw [sk_s, cs_0]
    unfold dfX12_strikes_34
    rw [h10, if_pos (nI_le (by omega) (by omega))]
    rfl
  | succ k ih =>
    intro i a z hi hz
    obtain ⟨z, rfl⟩ : ∃ q, z = q + 1 := ⟨z - 1, by omega⟩
    rw [sk_s, cs_s]
    unfold dfX12_strikes_34 bfX12_strikes_57
    rw [h10, if_neg (nI_ge (by omega) (by omega)), nI_clamp (show i < 2147483648 by omega), show nI a + (1 : Int32) = nI (a + 1) from nI_add a 1, show nI a + (0 : Int32) = nI (a + 0) from nI_add a 0, ← nI_succ, ih (i + 1) (a + 1) z (by omega) (by omega), ih (i + 1) (a + 0) z (by omega) (by omega)]
    by_cases h2 : s i = 0
    · rw [if_pos h2, if_pos (decide_eq_true h2), Nat.add_assoc]
    · rw [if_neg h2, if_neg (fun q => h2 (of_decide_eq_true q)), Nat.add_zero, Nat.zero_add]
theorem cs_eq {P Q : Nat → Bool} : ∀ k i : Nat, (∀ j, i ≤ j → j < i + k → P j = Q j) → cs P k i = cs Q k i := by
  intro k
  induction k with
  | zero => intro i _; rfl
  | succ k ih =>
    intro i h
    rw [cs_s, cs_s, h i (Nat.le_refl _) (by omega), ih (i + 1) (fun j g1 g2 => h j (by omega) (by omega))]
theorem fl_strikes {mi xp xs ys : Nat → Int32} {m r : Nat} (hm : m ≤ 6) (hr : r ≤ 24) (h10 : mi 10 = nI r) (hE : ∀ j, j < r → xs j = ys j ∧ ∃ q, q < m ∧ xp j = nI q) (cs_ ts hs p1 : Int32) : (fX11_strikes cs_ ts hs (nI m) (nI r) xp xs p1).1 = (fX12_strikes mi ys p1).1 ∧ ∀ j, j < r → (fX11_strikes cs_ ts hs (nI m) (nI r) xp xs p1).2.2.2.2 j = (fX12_strikes mi ys p1).2 j := by
  have n1 : vp_nar .boolean (1 : Int32) = 1 := by decide
  unfold fX11_strikes fX12_strikes
  repeat rw [cal_b]
  rw [dx_hasReport (by omega), dr_isReport h10 (by omega), n1]
  by_cases h : 0 ≤ p1.toInt ∧ p1.toInt < (r : Int)
  · obtain ⟨q1, -⟩ := clampI h
    have hu : ∀ j, j < r → upd xs p1.toNatClampNeg 1 j = upd ys p1.toNatClampNeg 1 j := by
      intro j hj
      unfold upd
      split
      · rfl
      · exact (hE j hj).1
    rw [if_pos h, if_neg n10, if_neg n10, (hE _ q1).1]
    by_cases h1 : ys p1.toNatClampNeg = 0
    · have e1 : fX0_standing (nI m) (nI r) xp (upd xs p1.toNatClampNeg 1) = nI (cs (fun j => decide (upd xs p1.toNatClampNeg 1 j = 0)) r 0) := by
        have g := sg_L (xp := xp) (st := upd xs p1.toNatClampNeg 1) hm hr m 0 0 1000000000 (by omega) (by omega)
        rw [Nat.zero_add, css_all hm r 0 (fun j _ g2 => (hE j (by omega)).2)] at g
        exact g
      have e2 := sk_L (mi := mi) (fs := ys) (s := upd ys p1.toNatClampNeg 1) (p1 := p1) hr h10 r 0 0 1000000000 (by omega) (by omega)
      have e2 : lfX12_strikes mi ys p1 1000000000 0 0 (upd ys p1.toNatClampNeg 1) = (nI (0 + cs (fun j => decide (upd ys p1.toNatClampNeg 1 j = 0)) r 0), upd ys p1.toNatClampNeg 1) := e2
      rw [if_pos h1, if_pos h1, e1, e2, Nat.zero_add, cs_eq (Q := fun j => decide (upd ys p1.toNatClampNeg 1 j = 0)) r 0 (fun j _ g2 => by rw [hu j (by omega)])]
      exact ⟨rfl, hu⟩
    · rw [if_neg h1, if_neg h1]
      exact ⟨rfl, fun j hj => (hE j hj).1⟩
  · rw [if_neg h, if_pos rfl, if_pos rfl]
    exact ⟨rfl, fun j hj => (hE j hj).1⟩
theorem px_reports1 {mi xp xk xm xd xn xs : Nat → Int32} {m r : Nat} (hm : m ≤ 6) (hr : r ≤ 24) (h0 : 0 ≤ (mi 0).toInt) (h0b : (mi 0).toInt ≤ 24) (cs_ ts hs p1 p2 p3 p4 p5 : Int32) (h : ((0 ≤ p1.toInt ∧ p1.toInt < (m : Int)) ∧ (0 ≤ p2.toInt ∧ p2.toInt ≤ 2) ∧ (0 < (mi 0).toInt ∧ 1 ≤ p3.toInt ∧ p3.toInt ≤ (mi 0).toInt - 1) ∧ 0 ≤ p4.toInt ∧ p4.toInt ≤ p5.toInt ∧ p5.toInt ≤ 999)) : fX11_reports cs_ ts hs (mi 0) (nI m) (nI r) xp xk xm xd xn xs p1 p2 p3 p4 p5 = (if r < 24 then (nI (r + 1) - 1, 0, 0, 0, nI (r + 1), upd xp r p1, upd xk r p2, upd xm r p3, upd xd r p4, upd xn r p5, upd xs r 0) else (-5, cs_, ts, hs, nI r, xp, xk, xm, xd, xn, xs)) := by
  have k1 : (1 : Int32).toInt = 1 := by decide
  have k2 : (2 : Int32).toInt = 2 := by decide
  have k9 : (999 : Int32).toInt = 999 := by decide
  have l2 : (2 : Int64).toInt = 2 := by decide
  have l9 : (999 : Int64).toInt = 999 := by decide
  have ks : (mi 0 - (1 : Int32)).toInt = (mi 0).toInt - 1 := by
    have q := gi_subI (z := mi 0 - (1 : Int32)) rfl (by rw [k1]; omega) (by rw [k1]; omega)
    rw [q, k1]
  have ea : r < 24 → fX0_addReport (nI r) xp xk xm xd xn xs p1 p2 p3 p4 p5 = (nI (r + 1), upd xp r p1, upd xk r p2, upd xm r p3, upd xd r p4, upd xn r p5, upd xs r 0) := by
    intro g
    unfold fX0_addReport bfX0_addReport_68
    rw [if_neg (show ¬ (24 : Int32) ≤ nI r from nI_ge (b := 24) g (by omega)), nI_clamp (by omega), ← nI_succ]
  unfold fX11_reports bfX11_reports_39 bfX11_reports_40 bfX11_reports_67
  repeat rw [cal_b]
  rw [dx_hasPlace (by omega), dx_month, k1, ks, if_neg n10]
  rw [if_pos h.1, if_pos h.2.2.1, if_neg (show ¬ p2 < 0 from fun q => absurd (i32lt.mp q) (by rw [z32]; omega)), if_neg (show ¬ (2 : Int32) < p2 from fun q => absurd (i32lt.mp q) (by rw [k2]; omega)), if_neg (show ¬ p4 < 0 from fun q => absurd (i32lt.mp q) (by rw [z32]; omega)), if_neg (show ¬ p5 < p4 from fun q => absurd (i32lt.mp q) (by omega)), if_pos (show p5 ≤ 999 from i32le.mpr (by rw [k9]; omega))]
  repeat rw [if_neg n10]
  by_cases g : r < 24
  · rw [if_pos g, if_pos (show nI r < 24 from nI_lt (b := 24) g (by omega)), ea g]
    rfl
  · rw [if_neg g, if_neg (show ¬ nI r < 24 from nI_nlt (b := 24) (by omega) (by omega))]
theorem px_reports0 {mi xp xk xm xd xn xs : Nat → Int32} {m r : Nat} (hm : m ≤ 6) (hr : r ≤ 24) (h0 : 0 ≤ (mi 0).toInt) (h0b : (mi 0).toInt ≤ 24) (cs_ ts hs p1 p2 p3 p4 p5 : Int32) (h : ¬ ((0 ≤ p1.toInt ∧ p1.toInt < (m : Int)) ∧ (0 ≤ p2.toInt ∧ p2.toInt ≤ 2) ∧ (0 < (mi 0).toInt ∧ 1 ≤ p3.toInt ∧ p3.toInt ≤ (mi 0).toInt - 1) ∧ 0 ≤ p4.toInt ∧ p4.toInt ≤ p5.toInt ∧ p5.toInt ≤ 999)) : fX11_reports cs_ ts hs (mi 0) (nI m) (nI r) xp xk xm xd xn xs p1 p2 p3 p4 p5 = (-2, cs_, ts, hs, nI r, xp, xk, xm, xd, xn, xs) := by
  have k1 : (1 : Int32).toInt = 1 := by decide
  have k2 : (2 : Int32).toInt = 2 := by decide
  have k9 : (999 : Int32).toInt = 999 := by decide
  have l2 : (2 : Int64).toInt = 2 := by decide
  have l9 : (999 : Int64).toInt = 999 := by decide
  have ks : (mi 0 - (1 : Int32)).toInt = (mi 0).toInt - 1 := by
    have q := gi_subI (z := mi 0 - (1 : Int32)) rfl (by rw [k1]; omega) (by rw [k1]; omega)
    rw [q, k1]
  have ea : r < 24 → fX0_addReport (nI r) xp xk xm xd xn xs p1 p2 p3 p4 p5 = (nI (r + 1), upd xp r p1, upd xk r p2, upd xm r p3, upd xd r p4, upd xn r p5, upd xs r 0) := by
    intro g
    unfold fX0_addReport bfX0_addReport_68
    rw [if_neg (show ¬ (24 : Int32) ≤ nI r from nI_ge (b := 24) g (by omega)), nI_clamp (by omega), ← nI_succ]
  unfold fX11_reports bfX11_reports_39 bfX11_reports_40 bfX11_reports_67
  repeat rw [cal_b]
  rw [dx_hasPlace (by omega), dx_month, k1, ks, if_neg n10]
  rw [if_pos (show (0 : Int32) = 0 from rfl)]
  by_cases a1 : 0 ≤ p1.toInt ∧ p1.toInt < (m : Int)
  · rw [if_pos a1, if_neg n10]
    by_cases a2 : p2 < 0
    · exact if_pos a2
    · have b2 : ¬ p2.toInt < 0 := fun q => a2 (i32lt.mpr (by rw [z32]; exact q))
      rw [if_neg a2]
      by_cases a3 : (2 : Int32) < p2
      · exact if_pos a3
      · have b3 : ¬ 2 < p2.toInt := fun q => a3 (i32lt.mpr (by rw [k2]; exact q))
        rw [if_neg a3]
        by_cases a4 : 0 < (mi 0).toInt ∧ 1 ≤ p3.toInt ∧ p3.toInt ≤ (mi 0).toInt - 1
        · rw [if_pos a4, if_neg n10]
          by_cases a5 : p4 < 0
          · exact if_pos a5
          · have b5 : ¬ p4.toInt < 0 := fun q => a5 (i32lt.mpr (by rw [z32]; exact q))
            rw [if_neg a5]
            by_cases a6 : p5 < p4
            · exact if_pos a6
            · have b6 : ¬ p5.toInt < p4.toInt := fun q => a6 (i32lt.mpr q)
              rw [if_neg a6]
              refine if_neg (fun q => ?_)
              have b7 := i32le.mp q
              rw [k9] at b7
              exact h ⟨a1, ⟨by omega, by omega⟩, a4, by omega, by omega, b7⟩
        · rw [if_neg a4]
          exact if_pos rfl
  · rw [if_neg a1]
    exact if_pos rfl
theorem mr_reports1 {mi yp yk ym yd yn ys : Nat → Int32} {m r : Nat} (hm : m ≤ 6) (hr : r ≤ 24) (h7 : mi 7 = nI m) (h10 : mi 10 = nI r) (hM : 0 < (mi 0).toInt ↔ ¬ mi 3 = 0) (h0 : 0 ≤ (mi 0).toInt) (h0b : (mi 0).toInt ≤ 24) (p1 p2 p3 p4 p5 : Int32) (h : ((0 ≤ p1.toInt ∧ p1.toInt < (m : Int)) ∧ (0 ≤ p2.toInt ∧ p2.toInt ≤ 2) ∧ (0 < (mi 0).toInt ∧ 1 ≤ p3.toInt ∧ p3.toInt ≤ (mi 0).toInt - 1) ∧ 0 ≤ p4.toInt ∧ p4.toInt ≤ p5.toInt ∧ p5.toInt ≤ 999)) : fX12_reports mi yp yk ym yd yn ys p1 p2 p3 p4 p5 = (if r < 24 then (nI (r + 1) - 1, nI (r + 1), upd yp r p1, upd yk r p2, upd ym r p3, upd yd r p4, upd yn r p5, upd ys r 0) else (-5, nI r, yp, yk, ym, yd, yn, ys)) := by
  have k1 : (1 : Int32).toInt = 1 := by decide
  have k2 : (2 : Int32).toInt = 2 := by decide
  have k9 : (999 : Int32).toInt = 999 := by decide
  have l2 : (2 : Int64).toInt = 2 := by decide
  have l9 : (999 : Int64).toInt = 999 := by decide
  have ks : (mi 0 - (1 : Int32)).toInt = (mi 0).toInt - 1 := by
    have q := gi_subI (z := mi 0 - (1 : Int32)) rfl (by rw [k1]; omega) (by rw [k1]; omega)
    rw [q, k1]
  unfold fX12_reports bfX12_reports_71
  repeat rw [cal_b]
  rw [dr_isPlace h7 (by omega), dr_in p2 0 2, dr_in p3 1 _, dr_in p4 0 999, dr_in p5 _ 999, z64, l2, o64, l9, Int32.toInt_toInt64, Int32.toInt_toInt64, ks]
  rw [if_neg (hM.mp h.2.2.1.1), if_pos h.1, if_pos h.2.1, if_pos h.2.2.1.2, if_pos (show 0 ≤ p4.toInt ∧ p4.toInt ≤ 999 by omega), if_pos (show p4.toInt ≤ p5.toInt ∧ p5.toInt ≤ 999 by omega)]
  repeat rw [if_neg n10]
  unfold fX12_lays
  rw [h10]
  by_cases g : r < 24
  · rw [if_pos g, if_neg (show ¬ nI r = 24 from fun q => absurd (pz_ninj (b := 24) (by omega) (by omega) q) (by omega)), nI_clamp (by omega), ← nI_succ, show vp_nar .boolean (0 : Int32) = 0 from by decide]
  · rw [if_neg g, if_pos (show nI r = 24 by rw [show r = 24 by omega]; rfl)]
theorem mr_reports0 {mi yp yk ym yd yn ys : Nat → Int32} {m r : Nat} (hm : m ≤ 6) (hr : r ≤ 24) (h7 : mi 7 = nI m) (h10 : mi 10 = nI r) (hM : 0 < (mi 0).toInt ↔ ¬ mi 3 = 0) (h0 : 0 ≤ (mi 0).toInt) (h0b : (mi 0).toInt ≤ 24) (p1 p2 p3 p4 p5 : Int32) (h : ¬ ((0 ≤ p1.toInt ∧ p1.toInt < (m : Int)) ∧ (0 ≤ p2.toInt ∧ p2.toInt ≤ 2) ∧ (0 < (mi 0).toInt ∧ 1 ≤ p3.toInt ∧ p3.toInt ≤ (mi 0).toInt - 1) ∧ 0 ≤ p4.toInt ∧ p4.toInt ≤ p5.toInt ∧ p5.toInt ≤ 999)) : fX12_reports mi yp yk ym yd yn ys p1 p2 p3 p4 p5 = (-2, nI r, yp, yk, ym, yd, yn, ys) := by
  have k1 : (1 : Int32).toInt = 1 := by decide
  have k2 : (2 : Int32).toInt = 2 := by decide
  have k9 : (999 : Int32).toInt = 999 := by decide
  have l2 : (2 : Int64).toInt = 2 := by decide
  have l9 : (999 : Int64).toInt = 999 := by decide
  have ks : (mi 0 - (1 : Int32)).toInt = (mi 0).toInt - 1 := by
    have q := gi_subI (z := mi 0 - (1 : Int32)) rfl (by rw [k1]; omega) (by rw [k1]; omega)
    rw [q, k1]
  unfold fX12_reports bfX12_reports_71
  repeat rw [cal_b]
  rw [dr_isPlace h7 (by omega), dr_in p2 0 2, dr_in p3 1 _, dr_in p4 0 999, dr_in p5 _ 999, z64, l2, o64, l9, Int32.toInt_toInt64, Int32.toInt_toInt64, ks]
  rw [h10]
  by_cases a0 : mi 3 = 0
  · exact if_pos a0
  · rw [if_neg a0]
    have c0 := hM.mpr a0
    by_cases a1 : 0 ≤ p1.toInt ∧ p1.toInt < (m : Int)
    · rw [if_pos a1, if_neg n10]
      by_cases a2 : 0 ≤ p2.toInt ∧ p2.toInt ≤ 2
      · rw [if_pos a2, if_neg n10]
        by_cases a3 : 1 ≤ p3.toInt ∧ p3.toInt ≤ (mi 0).toInt - 1
        · rw [if_pos a3, if_neg n10]
          by_cases a4 : 0 ≤ p4.toInt ∧ p4.toInt ≤ 999
          · rw [if_pos a4, if_neg n10, if_neg (show ¬ (p4.toInt ≤ p5.toInt ∧ p5.toInt ≤ 999) from fun q => h ⟨a1, a2, ⟨c0, a3⟩, a4.1, q⟩)]
            exact if_pos rfl
          · rw [if_neg a4]
            exact if_pos rfl
        · rw [if_neg a3]
          exact if_pos rfl
      · rw [if_neg a2]
        exact if_pos rfl
    · rw [if_neg a1]
      exact if_pos rfl
theorem pcod_le (g : Nat → Int) : ∀ (k j : Nat) (v : Int), v * 27 ^ k ≤ pcod g k j v ∧ pcod g k j v < (v + 1) * 27 ^ k := by
  intro k
  induction k with
  | zero =>
    intro j v
    show v * 27 ^ 0 ≤ v ∧ v < (v + 1) * 27 ^ 0
    rw [Int.pow_zero]
    omega
  | succ k ih =>
    intro j v
    rw [pcod_s]
    obtain ⟨h1, h2⟩ := ih (j + 1) (27 * v + pdg (g j))
    have h3 := pdg_le (g j)
    have hp := pw27 k
    have e : (27 : Int) ^ (k + 1) = 27 * 27 ^ k := by rw [Int.pow_succ]; omega
    have a1 : v * 27 ^ (k + 1) ≤ (27 * v + pdg (g j)) * 27 ^ k := by
      rw [e, ← Int.mul_assoc, Int.mul_comm v 27]
      exact Int.mul_le_mul_of_nonneg_right (by omega) (by omega)
    have a2 : (27 * v + pdg (g j) + 1) * 27 ^ k ≤ (v + 1) * 27 ^ (k + 1) := by
      rw [e, ← Int.mul_assoc, Int.mul_comm (v + 1) 27]
      exact Int.mul_le_mul_of_nonneg_right (by omega) (by omega)
    exact ⟨Int.le_trans a1 h1, Int.lt_of_lt_of_le h2 a2⟩
def lexl (g h : Nat → Int) : Nat → Nat → Bool
  | 0, _ => false
  | k + 1, j => if g j = h j then lexl g h k (j + 1) else decide (g j < h j)
theorem lexl_s (g h : Nat → Int) (k j : Nat) : lexl g h (k + 1) j = if g j = h j then lexl g h k (j + 1) else decide (g j < h j) := rfl
theorem pdg_mono {x y : Int} (hx : isz x) (hy : isz y) (h : x < y) : pdg x < pdg y := by
  have e : ∀ z : Int, isz z → pdg z = if z = 0 then 0 else z - 96 := by
    intro z hz
    unfold pdg
    by_cases h : cL z = true
    · have h1 : 97 ≤ z ∧ z ≤ 122 := of_decide_eq_true h
      rw [if_pos h, if_neg (by omega)]
    · rw [if_neg h]
      rcases hz with h2 | h2
      · rw [if_pos h2]
      · exact absurd (decide_eq_true h2) h
  rw [e x hx, e y hy]
  unfold isz at hx hy
  split
  · split
    · omega
    · omega
  · split
    · omega
    · omega
theorem pcod_lt {g h : Nat → Int} : ∀ (k j : Nat) (v : Int), (∀ i, j ≤ i → i < j + k → isz (g i) ∧ isz (h i)) → (pcod g k j v < pcod h k j v ↔ lexl g h k j = true) := by
  intro k
  induction k with
  | zero =>
    intro j v _
    exact ⟨fun q => absurd q (Int.lt_irrefl _), fun q => absurd q (by intro q; cases q)⟩
  | succ k ih =>
    intro j v hz
    obtain ⟨z1, z2⟩ := hz j (Nat.le_refl _) (by omega)
    rw [pcod_s, pcod_s, lexl_s]
    by_cases h1 : g j = h j
    · rw [if_pos h1, h1]
      exact ih (j + 1) _ (fun i g1 g2 => hz i (by omega) (by omega))
    · rw [if_neg h1]
      have hp := pw27 k
      obtain ⟨a1, a2⟩ := pcod_le g k (j + 1) (27 * v + pdg (g j))
      obtain ⟨b1, b2⟩ := pcod_le h k (j + 1) (27 * v + pdg (h j))
      by_cases h2 : g j < h j
      · have h3 := pdg_mono z1 z2 h2
        have h4 : (27 * v + pdg (g j) + 1) * 27 ^ k ≤ (27 * v + pdg (h j)) * 27 ^ k := Int.mul_le_mul_of_nonneg_right (by omega) (by omega)
        exact ⟨fun _ => decide_eq_true h2, fun _ => by omega⟩
      · have h3 := pdg_mono z2 z1 (by omega)
        have h4 : (27 * v + pdg (h j) + 1) * 27 ^ k ≤ (27 * v + pdg (g j)) * 27 ^ k := Int.mul_le_mul_of_nonneg_right (by omega) (by omega)
        exact ⟨fun q => by omega, fun q => absurd (of_decide_eq_true q) h2⟩
theorem na_s (lt : Nat → Int32) (a b : Int32) (z : Nat) (v : Int32) : lfX12_isNameAhead lt a b (z + 1) v = dfX12_isNameAhead_2 lt a b (lfX12_isNameAhead lt a b z) v := rfl
theorem na_L {lt : Nat → Int32} {p q : Nat} (hp : p ≤ 6) (hq : q ≤ 6) : ∀ (k j z : Nat), j + k = 6 → k < z → lfX12_isNameAhead lt (nI p) (nI q) z (nI j) = if lexl (fun i => (lt (6 * p + i)).toInt) (fun i => (lt (6 * q + i)).toInt) k j = true then 1 else 0 := by
  intro k
  induction k with
  | zero =>
    intro j z hj hz
    obtain ⟨z, rfl⟩ : ∃ y, z = y + 1 := ⟨z - 1, by omega⟩
    rw [na_s]
    unfold dfX12_isNameAhead_2
    exact if_pos (show (6 : Int32) ≤ nI j from nI_le (a := 6) (by omega) (by omega))
  | succ k ih =>
    intro j z hj hz
    obtain ⟨z, rfl⟩ : ∃ y, z = y + 1 := ⟨z - 1, by omega⟩
    rw [na_s, lexl_s]
    unfold dfX12_isNameAhead_2 bfX12_isNameAhead_53
    rw [if_neg (show ¬ (6 : Int32) ≤ nI j from nI_ge (b := 6) (by omega) (by omega)), pr_ix hp (by omega), pr_ix hq (by omega), ← nI_succ, ih (j + 1) z (by omega) (by omega)]
    by_cases h1 : lt (6 * p + j) = lt (6 * q + j)
    · rw [if_pos h1, if_pos (show (lt (6 * p + j)).toInt = (lt (6 * q + j)).toInt by rw [h1])]
    · have h2 : ¬ (lt (6 * p + j)).toInt = (lt (6 * q + j)).toInt := fun q => h1 (Int32.toInt_inj.mp q)
      rw [if_neg h1, if_neg h2]
      by_cases h3 : lt (6 * q + j) ≤ lt (6 * p + j)
      · have h4 := i32le.mp h3
        rw [if_pos h3, if_neg (fun g => absurd (of_decide_eq_true g) (by omega))]
      · have h4 : ¬ (lt (6 * q + j)).toInt ≤ (lt (6 * p + j)).toInt := fun q => h3 (i32le.mpr q)
        rw [if_neg h3, if_pos (decide_eq_true (by omega))]
theorem na_eq {nm lt : Nat → Int32} {m p q : Nat} (hm : m ≤ 6) (hN : NM m nm lt) (hp : p < m) (hq : q < m) : fX12_isNameAhead lt (nI p) (nI q) = if (nm p).toInt < (nm q).toInt then 1 else 0 := by
  have h1 := na_L (lt := lt) (p := p) (q := q) (by omega) (by omega) 6 0 1000000000 (by omega) (by omega)
  obtain ⟨a1, a2⟩ := hN p hp
  obtain ⟨b1, b2⟩ := hN q hq
  have h2 := pcod_lt (g := fun i => (lt (6 * p + i)).toInt) (h := fun i => (lt (6 * q + i)).toInt) 6 0 0 (fun i _ g2 => ⟨a2 i (by omega), b2 i (by omega)⟩)
  rw [← a1, ← b1] at h2
  unfold fX12_isNameAhead
  refine (show lfX12_isNameAhead lt (nI p) (nI q) 1000000000 0 = _ from h1).trans ?_
  by_cases h3 : (nm p).toInt < (nm q).toInt
  · rw [if_pos h3, if_pos (h2.mp h3)]
  · rw [if_neg h3, if_neg (fun g => h3 (h2.mpr g))]
theorem nh_s (pc : Int32) (nm : Nat → Int32) (p : Int32) (z : Nat) (a b : Int32) : lfX0_namesAhead pc nm p (z + 1) a b = dfX0_namesAhead_4 pc nm p (lfX0_namesAhead pc nm p z) a b := rfl
theorem nh_L {nm : Nat → Int32} {m : Nat} (hm : m ≤ 6) (p : Int32) : ∀ (k i a z : Nat), i + k = m → k < z → lfX0_namesAhead (nI m) nm p z (nI a) (nI i) = nI (a + cs (fun j => decide ((nm j).toInt < (nm p.toNatClampNeg).toInt)) k i) := by
  intro k
  induction k with
  | zero =>
    intro i a z hi hz
    obtain ⟨z, rfl⟩ : ∃ q, z = q + 1 := ⟨z - 1, by omega⟩
    rw [nh_s, cs_0]
    unfold dfX0_namesAhead_4
    rw [if_pos (nI_le (by omega) (by omega))]
    rfl
  | succ k ih =>
    intro i a z hi hz
    obtain ⟨z, rfl⟩ : ∃ q, z = q + 1 := ⟨z - 1, by omega⟩
    rw [nh_s, cs_s]
    unfold dfX0_namesAhead_4 bfX0_namesAhead_36
    rw [if_neg (nI_ge (by omega) (by omega)), nI_clamp (show i < 2147483648 by omega), ← nI_succ, ← nI_succ, ih (i + 1) (a + 1) z (by omega) (by omega), ih (i + 1) a z (by omega) (by omega)]
    by_cases h1 : nm p.toNatClampNeg ≤ nm i
    · have h2 := i32le.mp h1
      rw [if_pos h1, if_neg (fun g => absurd (of_decide_eq_true g) (by omega)), Nat.zero_add]
    · have h2 : ¬ (nm p.toNatClampNeg).toInt ≤ (nm i).toInt := fun q => h1 (i32le.mpr q)
      rw [if_neg h1, if_pos (decide_eq_true (by omega)), Nat.add_assoc]
theorem pc_s1 (mi tr lt rp st : Nat → Int32) (p1 p2 : Int32) (z : Nat) (a b : Int32) : (lfX12_place mi tr lt rp st p1 p2 (z + 1)).1 a b = dfX12_place_28 mi tr lt rp st p1 p2 (lfX12_place mi tr lt rp st p1 p2 z) a b := rfl
theorem pc_s2 (mi tr lt rp st : Nat → Int32) (p1 p2 : Int32) (z : Nat) (a b c : Int32) : (lfX12_place mi tr lt rp st p1 p2 (z + 1)).2 a b c = dfX12_place_67 mi tr lt rp st p1 p2 (lfX12_place mi tr lt rp st p1 p2 z) a b c := rfl
theorem pc_L2 {mi tr lt rp st : Nat → Int32} {r : Nat} {p1 p2 : Int32} (hr : r ≤ 24) (h10 : mi 10 = nI r) (x : Int32) : ∀ (k i a z : Nat), i + k = r → k < z → (lfX12_place mi tr lt rp st p1 p2 z).2 x (nI a) (nI i) = if p2 = 0 then tr p1.toNatClampNeg else if p2 = 1 then x else nI (a + cs (fun j => decide (rp j = p1 ∧ st j = 0)) k i) := by
  intro k
  induction k with
  | zero =>
    intro i a z hi hz
    obtain ⟨z, rfl⟩ : ∃ q, z = q + 1 := ⟨z - 1, by omega⟩
    rw [pc_s2, cs_0]
    unfold dfX12_place_67 bfX12_place_137
    rw [h10, if_pos (nI_le (by omega) (by omega))]
    rfl
  | succ k ih =>
    intro i a z hi hz
    obtain ⟨z, rfl⟩ : ∃ q, z = q + 1 := ⟨z - 1, by omega⟩
    rw [pc_s2, cs_s]
    unfold dfX12_place_67 bfX12_place_103 bfX12_place_104
    rw [h10, if_neg (nI_ge (by omega) (by omega)), nI_clamp (show i < 2147483648 by omega), show nI a + (1 : Int32) = nI (a + 1) from nI_add a 1, show nI a + (0 : Int32) = nI (a + 0) from nI_add a 0, ← nI_succ, ih (i + 1) (a + 1) z (by omega) (by omega), ih (i + 1) (a + 0) z (by omega) (by omega)]
    by_cases h1 : rp i = p1
    · rw [if_pos h1]
      by_cases h2 : st i = 0
      · rw [if_pos h2, if_pos (show decide (rp i = p1 ∧ st i = 0) = true from decide_eq_true ⟨h1, h2⟩), Nat.add_assoc]
      · rw [if_neg h2, if_neg (show ¬ decide (rp i = p1 ∧ st i = 0) = true from fun q => h2 (of_decide_eq_true q).2), Nat.add_zero, Nat.zero_add]
    · rw [if_neg h1, if_neg (show ¬ decide (rp i = p1 ∧ st i = 0) = true from fun q => h1 (of_decide_eq_true q).1), Nat.add_zero, Nat.zero_add]
theorem pc_L1 {mi tr lt rp st nm : Nat → Int32} {m r : Nat} {p1 p2 : Int32} (hm : m ≤ 6) (hr : r ≤ 24) (h7 : mi 7 = nI m) (h10 : mi 10 = nI r) (hN : NM m nm lt) (hp : p1.toNatClampNeg < m) (hp1 : p1 = nI p1.toNatClampNeg) : ∀ (k i a z : Nat), i + k = m → k + r + 1 < z → (lfX12_place mi tr lt rp st p1 p2 z).1 (nI a) (nI i) = if p2 = 0 then tr p1.toNatClampNeg else if p2 = 1 then nI (a + cs (fun j => decide ((nm j).toInt < (nm p1.toNatClampNeg).toInt)) k i) else nI (cs (fun j => decide (rp j = p1 ∧ st j = 0)) r 0) := by
  intro k
  induction k with
  | zero =>
    intro i a z hi hz
    obtain ⟨z, rfl⟩ : ∃ q, z = q + 1 := ⟨z - 1, by omega⟩
    rw [pc_s1, cs_0]
    unfold dfX12_place_28
    rw [h7, if_pos (nI_le (by omega) (by omega))]
    have g := pc_L2 (mi := mi) (tr := tr) (lt := lt) (rp := rp) (st := st) (p1 := p1) (p2 := p2) hr h10 (nI a) r 0 0 z (by omega) (by omega)
    rw [Nat.zero_add] at g
    exact g
  | succ k ih =>
    intro i a z hi hz
    obtain ⟨z, rfl⟩ : ∃ q, z = q + 1 := ⟨z - 1, by omega⟩
    rw [pc_s1, cs_s]
    unfold dfX12_place_28 bfX12_place_53
    have e : fX12_isNameAhead lt (nI i) p1 = if (nm i).toInt < (nm p1.toNatClampNeg).toInt then 1 else 0 := by
      have g := na_eq hm hN (show i < m by omega) hp
      rw [← hp1] at g
      exact g
    rw [h7, if_neg (nI_ge (by omega) (by omega)), e, cal_b, show nI a + (1 : Int32) = nI (a + 1) from nI_add a 1, show nI a + (0 : Int32) = nI (a + 0) from nI_add a 0, ← nI_succ, ih (i + 1) (a + 1) z (by omega) (by omega), ih (i + 1) (a + 0) z (by omega) (by omega)]
    by_cases h1 : (nm i).toInt < (nm p1.toNatClampNeg).toInt
    · rw [if_pos h1, if_neg n10, if_pos (show decide ((nm i).toInt < (nm p1.toNatClampNeg).toInt) = true from decide_eq_true h1), Nat.add_assoc]
    · rw [if_neg h1, if_pos rfl, if_neg (show ¬ decide ((nm i).toInt < (nm p1.toNatClampNeg).toInt) = true from fun q => h1 (of_decide_eq_true q)), Nat.add_zero, Nat.zero_add]
theorem fl_place {mi nm lt xt yt xp yp xs ys : Nat → Int32} {m r : Nat} (hm : m ≤ 6) (hr : r ≤ 24) (h7 : mi 7 = nI m) (h10 : mi 10 = nI r) (hN : NM m nm lt) (hE1 : ∀ j, j < m → xt j = yt j) (hE2 : ∀ j, j < r → xp j = yp j ∧ xs j = ys j) (p1 p2 : Int32) : fX11_place (nI m) (nI r) nm xt xp xs p1 p2 = fX12_place mi yt lt yp ys p1 p2 := by
  have l2 : (2 : Int64).toInt = 2 := by decide
  have k0 := z32
  have k1 : (1 : Int32).toInt = 1 := by decide
  have k2 : (2 : Int32).toInt = 2 := by decide
  unfold fX11_place fX12_place bfX12_place_20
  repeat rw [cal_b]
  rw [dx_hasPlace (by omega), dr_isPlace h7 (by omega), dr_in, z64, l2]
  by_cases h : 0 ≤ p1.toInt ∧ p1.toInt < (m : Int)
  · obtain ⟨q1, q2⟩ := clampI h
    rw [if_pos h, if_neg n10, if_neg n10]
    have g1 := nh_L (nm := nm) hm p1 m 0 0 1000000000 (by omega) (by omega)
    have g2 := so_L (xp := xp) (st := xs) hr p1 r 0 0 1000000000 (by omega) (by omega)
    have g3 := pc_L1 (mi := mi) (tr := yt) (rp := yp) (st := ys) (p2 := p2) hm hr h7 h10 hN q1 q2 m 0 0 1000000000 (by omega) (by omega)
    rw [Nat.zero_add] at g1 g2 g3
    rw [cs_eq (Q := fun j => decide (yp j = p1 ∧ ys j = 0)) r 0 (fun j _ w => by rw [(hE2 j (by omega)).1, (hE2 j (by omega)).2])] at g2
    have g1 : fX0_namesAhead (nI m) nm p1 = _ := g1
    have g2 : fX0_standingOf (nI r) xp xs p1 = _ := g2
    have g3 : (lfX12_place mi yt lt yp ys p1 p2 1000000000).1 0 0 = _ := g3
    rw [g1, g2, hE1 _ q1]
    by_cases h1 : p2 = 0
    · have c : 0 ≤ p2.toInt ∧ p2.toInt ≤ 2 := by rw [h1, k0]; omega
      rw [if_pos c, if_neg n10, g3, if_pos h1, if_pos h1]
    · by_cases h2 : p2 = 1
      · have c : 0 ≤ p2.toInt ∧ p2.toInt ≤ 2 := by rw [h2, k1]; omega
        rw [if_pos c, if_neg n10, g3, if_neg h1, if_neg h1, if_pos h2, if_pos h2]
      · by_cases h3 : p2 = 2
        · have c : 0 ≤ p2.toInt ∧ p2.toInt ≤ 2 := by rw [h3, k2]; omega
          rw [if_pos c, if_neg n10, g3, if_neg h1, if_neg h1, if_neg h2, if_neg h2, if_pos h3]
        · have b0 : ¬ p2.toInt = 0 := fun q => h1 (Int32.toInt_inj.mp (by rw [k0]; exact q))
          have b1 : ¬ p2.toInt = 1 := fun q => h2 (Int32.toInt_inj.mp (by rw [k1]; exact q))
          have b2 : ¬ p2.toInt = 2 := fun q => h3 (Int32.toInt_inj.mp (by rw [k2]; exact q))
          rw [if_neg (show ¬ (0 ≤ p2.toInt ∧ p2.toInt ≤ 2) by omega), if_neg h1, if_neg h2, if_neg h3]
          exact (if_pos rfl).symm
  · rw [if_neg h, if_pos rfl, if_pos rfl]
