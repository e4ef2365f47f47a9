/-! the line of a report -/
theorem rep_end {n m r : Nat} {bt tp mi nm lt xp xk xm xd xn xs yp yk ym yd yn ys : Nat → Int32} {a : aS} {c : C5} {p : M7} {kd v2 v3 v4 v5 u2 q1 q2 q3 q4 q5 : Int32} (hr : r ≤ 24) (h10 : mi 10 = nI r) (k : aQ n bt a c p) {X : Int32 × Int32 × Int32 × Int32 × Int32 × Int32 × (Nat → Int32) × (Nat → Int32) × (Nat → Int32) × (Nat → Int32) × (Nat → Int32) × (Nat → Int32)} (hX : X = bfX6_readReport_99 q1 q2 q3 q4 q5 (nI n) bt (mi 0) (nI m) (nI r) xp xk xm xd xn xs nm kd v2 v3 v4 v5 c.1 c.2.1 c.2.2.1 c.2.2.2.1 c.2.2.2.2 (nI r) xp xk xm xd xn xs) {Y : Int32 × Int32 × Int32 × Int32 × Int32 × Int32 × Int32 × Int32 × (Nat → Int32) × (Nat → Int32) × (Nat → Int32) × (Nat → Int32) × (Nat → Int32) × (Nat → Int32)} (hY : Y = bfX12_readsReport_83 mi tp lt yp yk ym yd yn ys kd u2 v3 v4 v5 (mi 10) p.1 p.2.1 p.2.2.1 p.2.2.2.1 p.2.2.2.2.1 p.2.2.2.2.2.1 p.2.2.2.2.2.2 yp yk ym yd yn ys) (hv : a.1 = false → fX0_placeNamed (nI m) nm v2 = u2 ∧ r < 24) : aQ n bt a (X.1, X.2.1, X.2.2.1, X.2.2.2.1, X.2.2.2.2.1) (Y.2.1, Y.2.2.1, Y.2.2.2.1, Y.2.2.2.2.1, Y.2.2.2.2.2.1, Y.2.2.2.2.2.2.1, Y.2.2.2.2.2.2.2.1) ∧ (a.1 = false → r < 24 ∧ ∃ v1, v1 = u2 ∧ X.2.2.2.2.2 = (nI (r + 1), upd xp r v1, upd xk r kd, upd xm r v3, upd xd r v4, upd xn r v5, upd xs r 0) ∧ Y.1 = nI (r + 1) ∧ Y.2.2.2.2.2.2.2.2 = (upd yp r v1, upd yk r kd, upd ym r v3, upd yd r v4, upd yn r v5, upd ys r 0)) := by
  unfold bfX6_readReport_99 bfX6_readReport_127 at hX
  unfold bfX12_readsReport_83 bfX12_readsReport_101 at hY
  by_cases ha : a.1 = false
  · rw [if_pos ((aQ_fk k).mpr ha)] at hX
    rw [if_pos ((aQ_33 k).mpr ha)] at hY
    obtain ⟨o1, e1, hX⟩ := cal_out hX
    obtain ⟨o2, e2, hX⟩ := cal_out hX
    obtain ⟨w1, f1, hY⟩ := cal_out hY
    obtain ⟨g1, g2⟩ := hv ha
    have e2 : o2 = (nI (r + 1), upd xp r u2, upd xk r kd, upd xm r v3, upd xd r v4, upd xn r v5, upd xs r 0) := by
      rw [e2, e1, g1]
      unfold fX0_addReport bfX0_addReport_68
      rw [if_neg (show ¬ (24 : Int32) ≤ nI r from nI_ge (b := 24) g2 (by omega)), nI_clamp (by omega), ← nI_succ]
    have f1 : w1 = (nI (r + 1), upd yp r u2, upd yk r kd, upd ym r v3, upd yd r v4, upd yn r v5, upd ys r 0) := by
      rw [f1]
      unfold fX12_lays
      show (mi 10 + 1, upd yp (mi 10).toNatClampNeg u2, upd yk (mi 10).toNatClampNeg kd, upd ym (mi 10).toNatClampNeg v3, upd yd (mi 10).toNatClampNeg v4, upd yn (mi 10).toNatClampNeg v5, upd ys (mi 10).toNatClampNeg (vp_nar .boolean 0)) = _
      rw [h10, nI_clamp (by omega), ← nI_succ, show vp_nar .boolean (0 : Int32) = 0 from by decide]
    subst e2 f1
    subst hX hY
    exact ⟨k, fun _ => ⟨g2, u2, rfl, rfl, rfl, rfl⟩⟩
  · rw [if_neg (fun q => ha ((aQ_fk k).mp q))] at hX
    rw [if_neg (fun q => ha ((aQ_33 k).mp q))] at hY
    subst hX hY
    exact ⟨k, fun q => absurd q ha⟩
theorem ln_report {n m r : Nat} {bt tp mi nm lt xp xk xm xd xn xs yp yk ym yd yn ys : Nat → Int32} {a : aS} {c : C5} {p : M7} {kd : Int32} (hn : n ≤ 1600) (hT : TR n bt tp) (h : aQ n bt a c p) (hm : m ≤ 6) (hN : NM m nm lt) (hr : r ≤ 24) (h7 : mi 7 = nI m) (h10 : mi 10 = nI r) (h0 : 2 ≤ (mi 0).toInt) (h0b : (mi 0).toInt ≤ 24) {X : Int32 × Int32 × Int32 × Int32 × Int32 × Int32 × (Nat → Int32) × (Nat → Int32) × (Nat → Int32) × (Nat → Int32) × (Nat → Int32) × (Nat → Int32)} (hX : X = fX6_readReport c.1 c.2.1 c.2.2.1 c.2.2.2.1 c.2.2.2.2 (nI n) bt (mi 0) (nI m) (nI r) xp xk xm xd xn xs nm kd) {Y : Int32 × Int32 × Int32 × Int32 × Int32 × Int32 × Int32 × Int32 × (Nat → Int32) × (Nat → Int32) × (Nat → Int32) × (Nat → Int32) × (Nat → Int32) × (Nat → Int32)} (hY : Y = fX12_readsReport mi tp lt yp yk ym yd yn ys kd) (h26 : mi 26 = nI n) (hp : own7 mi = p) : ∃ a', aQ n bt a' (X.1, X.2.1, X.2.2.1, X.2.2.2.1, X.2.2.2.2.1) (Y.2.1, Y.2.2.1, Y.2.2.2.1, Y.2.2.2.2.1, Y.2.2.2.2.2.1, Y.2.2.2.2.2.2.1, Y.2.2.2.2.2.2.2.1) ∧ (a'.1 = false → a.1 = false ∧ r < 24 ∧ ∃ v1 v3 v4 v5, (∃ j, j < m ∧ v1 = nI j) ∧ X.2.2.2.2.2 = (nI (r + 1), upd xp r v1, upd xk r kd, upd xm r v3, upd xd r v4, upd xn r v5, upd xs r 0) ∧ Y.1 = nI (r + 1) ∧ Y.2.2.2.2.2.2.2.2 = (upd yp r v1, upd yk r kd, upd ym r v3, upd yd r v4, upd yn r v5, upd ys r 0)) := by
  have hX : X = bfX6_readReport_18 c.1 c.2.1 c.2.2.1 c.2.2.2.1 c.2.2.2.2 (nI n) bt (mi 0) (nI m) (nI r) xp xk xm xd xn xs nm kd (if (24 : Int32) ≤ nI r then 0 else 1) c.1 c.2.1 c.2.2.1 c.2.2.2.1 c.2.2.2.2 (nI r) xp xk xm xd xn xs := by
    rw [hX]
    unfold fX6_readReport
    split
    · rfl
    · rfl
  obtain ⟨F, hF, hY⟩ : ∃ F : M7, F = (if decide (r < 24) = true then p else fp7 p 3) ∧ Y = bfX12_readsReport_14 mi tp lt yp yk ym yd yn ys kd (mi 10) F.1 F.2.1 F.2.2.1 F.2.2.2.1 F.2.2.2.2.1 F.2.2.2.2.2.1 F.2.2.2.2.2.2 yp yk ym yd yn ys := by
    unfold fX12_readsReport at hY
    refine ⟨_, rfl, ?_⟩
    rw [← hp]
    by_cases h4 : r < 24
    · rw [if_neg (show ¬ mi 10 = 24 from fun q => absurd (pz_ninj (b := 24) (by omega) (by omega) (h10.symm.trans q)) (by omega))] at hY
      rw [if_pos (decide_eq_true h4)]
      exact hY
    · rw [if_pos (show mi 10 = 24 by rw [h10, show r = 24 by omega]; rfl)] at hY
      rw [if_neg (fun q => h4 (of_decide_eq_true q))]
      obtain ⟨o1, e1, hY⟩ := cal_out hY
      rw [← faults_fp e1]
      exact hY
  unfold bfX6_readReport_18 at hX
  obtain ⟨o1, e1, hX⟩ := cal_out hX
  obtain ⟨o2, e2, hX⟩ := cal_out hX
  obtain ⟨o3, e3, hX⟩ := cal_out hX
  obtain ⟨o4, e4, hX⟩ := cal_out hX
  obtain ⟨o5, e5, hX⟩ := cal_out hX
  obtain ⟨o6, e6, hX⟩ := cal_out hX
  unfold bfX12_readsReport_14 at hY
  obtain ⟨u2, f2, hY⟩ := cal_out hY
  obtain ⟨u3, f3, hY⟩ := cal_out hY
  obtain ⟨u4, f4, hY⟩ := cal_out hY
  obtain ⟨u5, f5, hY⟩ := cal_out hY
  have k24 : (if (24 : Int32) ≤ nI r then (0 : Int32) else 1) = if decide (r < 24) = true then 1 else 0 := by
    by_cases h4 : r < 24
    · rw [if_neg (show ¬ (24 : Int32) ≤ nI r from nI_ge (b := 24) h4 (by omega)), if_pos (decide_eq_true h4)]
    · rw [if_pos (show (24 : Int32) ≤ nI r from nI_le (a := 24) (by omega) (by omega)), if_neg (fun q => h4 (of_decide_eq_true q))]
  have kone : (1 : Int32).toInt = 1 := by decide
  have km : (mi 0 - (1 : Int32)).toInt = (mi 0).toInt - 1 := by
    have q := gi_subI (z := mi 0 - (1 : Int32)) rfl (by rw [kone]; omega) (by rw [kone]; omega)
    rw [q, kone]
  obtain ⟨a1, k1, q1⟩ := q_head hn hT h (decide (r < 24)) k24 e1 hF f2 h26 rfl
  obtain ⟨a2, k2, q2⟩ := q_name hn hT k1 hm hN e2 f3 h7 h26 rfl
  obtain ⟨a3, k3, q3⟩ := q_nb hn hT k2 e3 e4 f4 (by decide) 1 ((mi 0).toInt - 1) kone km (by omega) (by omega) h26 rfl
  obtain ⟨a4, k4, q4⟩ := q_nb hn hT k3 e5 e6 f5 (by decide) 0 999 (by decide) (by decide) (by decide) (by decide) h26 rfl
  have back : ∀ a' : aS, (a'.1 = false → a4.1 = false) → a'.1 = false → a.1 = false ∧ r < 24 ∧ fX0_placeNamed (nI m) nm o2.1 = u3.1 ∧ (∃ j, j < m ∧ u3.1 = nI j) ∧ o4.1 = u4.1 ∧ o6.1 = u5.1 ∧ 0 ≤ u5.1.toInt ∧ u5.1.toInt ≤ 999 := by
    intro a' g q
    obtain ⟨r3, s4⟩ := q4 (g q)
    obtain ⟨r2, s3⟩ := q3 r3
    obtain ⟨r1, s2⟩ := q2 r2
    obtain ⟨r0, s1⟩ := q1 r1
    exact ⟨r0, of_decide_eq_true s1, s2.1, s2.2, s3.1, s4⟩
  by_cases ha : a4.1 = false
  · have hb := back a4 id ha
    rw [if_pos ((aQ_fk k4).mpr ha)] at hX
    rw [if_pos ((aQ_33 k4).mpr ha)] at hY
    obtain ⟨o7, e7, hX⟩ := cal_out hX
    obtain ⟨u6, f6, hY⟩ := cal_out hY
    rw [hb.2.2.2.2.1, hb.2.2.2.2.2.1] at hX
    have hw := q_is (wi := 8) hn hT k4 ha (by decide) (show own7 (mu7 (upd mi 10 (mi 10)) u5.2) = u5.2 from rfl)
    have e67 : o7 = u6 := e7.trans (hw.1.trans f6.symm)
    by_cases hz : u6 = 0
    · rw [if_pos (e67.trans hz)] at hX
      rw [if_pos hz] at hY
      have hE := rep_end (tp := tp) (lt := lt) hr h10 k4 hX hY (fun _ => ⟨hb.2.2.1, hb.2.1⟩)
      refine ⟨a4, hE.1, fun q => ?_⟩
      obtain ⟨g1, v1, g2, g3⟩ := hE.2 q
      exact ⟨hb.1, g1, v1, _, _, _, g2 ▸ hb.2.2.2.1, g3⟩
    · rw [if_neg (fun q => hz (e67.symm.trans q))] at hX
      rw [if_neg hz] at hY
      obtain ⟨o8, e8, hX⟩ := cal_out hX
      obtain ⟨o9, e9, hX⟩ := cal_out hX
      obtain ⟨u7, f7, hY⟩ := cal_out hY
      have hw1 : fX6_isWord o6.2.2.2.1 o6.2.2.2.2.1 o6.2.2.2.2.2 (nI n) bt 8 = 1 := by
        have g := hw.2
        rw [← hw.1] at g
        rw [g]
        by_cases g9 : aIs bt n a4.2.2.2 (stL 8) = true
        · rw [if_pos g9]
        · rw [if_neg g9] at g
          exact absurd (e67.symm.trans (e7.trans g)) hz
      obtain ⟨a5, k5, q5⟩ := q_nb (wi := 8) (p1 := u5.1) (p2 := 999) hn hT k4 (pw_is (c := o6.2) hw1 e8) e9 f7 (by decide) u5.1.toInt 999 rfl (by decide) hb.2.2.2.2.2.2.1 (by decide) h26 rfl
      by_cases ha5 : a5.1 = false
      · have s5 := q5 ha5
        rw [s5.2.1] at hX
        have hE := rep_end (tp := tp) (lt := lt) hr h10 k5 hX hY (fun _ => ⟨hb.2.2.1, hb.2.1⟩)
        refine ⟨a5, hE.1, fun q => ?_⟩
        obtain ⟨g1, v1, g2, g3⟩ := hE.2 q
        exact ⟨hb.1, g1, v1, _, _, _, g2 ▸ hb.2.2.2.1, g3⟩
      · unfold bfX6_readReport_99 bfX6_readReport_127 at hX
        unfold bfX12_readsReport_83 bfX12_readsReport_101 at hY
        rw [if_neg (fun q => ha5 ((aQ_fk k5).mp q))] at hX
        rw [if_neg (fun q => ha5 ((aQ_33 k5).mp q))] at hY
        subst hX hY
        exact ⟨a5, k5, fun q => absurd q ha5⟩
  · rw [if_neg (fun q => ha ((aQ_fk k4).mp q))] at hX
    rw [if_neg (fun q => ha ((aQ_33 k4).mp q))] at hY
    unfold bfX6_readReport_99 bfX6_readReport_127 at hX
    unfold bfX12_readsReport_83 bfX12_readsReport_101 at hY
    rw [if_neg (fun q => ha ((aQ_fk k4).mp q))] at hX
    rw [if_neg (fun q => ha ((aQ_33 k4).mp q))] at hY
    subst hX hY
    exact ⟨a4, k4, fun q => absurd q ha⟩
