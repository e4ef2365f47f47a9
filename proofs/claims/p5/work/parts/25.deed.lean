/-! the line of a deed -/
theorem q_step {n : Nat} {bt tp mi : Nat → Int32} {a : aS} {c : C5} {p : M7} (hn : n ≤ 1600) (hT : TR n bt tp) (h : aQ n bt a c p) {o : Int32 × Int32 × Int32} (ho : o = fX6_step c.1 c.2.2.1 c.2.2.2.1 c.2.2.2.2 (nI n) bt) {u : M7} (hu : u = fX12_passes mi tp 1) (h26 : mi 26 = nI n) (hp : own7 mi = p) : ∃ a', aQ n bt a' (c.1, c.2.1, o.1, o.2.1, o.2.2) u ∧ (a'.1 = false → a.1 = false) := by
  subst ho hu
  have h2 := rx_passes hn true (p1 := 1) (fun _ => rfl) (aQ_RR h hT h26 hp)
  rw [aExp_true, tr_step hT] at h2
  have h3 := cx_step (bt := bt) hn h.1
  exact ⟨aStep (fun j => (bt j).toInt) n a, ⟨h3, ((tr_RR hT _ _).mp h2).2⟩, aStep_ok⟩
theorem q_numL {n : Nat} {bt tp mi : Nat → Int32} {a : aS} {c : C5} {p : M7} (hn : n ≤ 1600) (hT : TR n bt tp) (h : aQ n bt a c p) {o : Int32 × C5} (ho : o = fX6_passNumber c.1 c.2.1 c.2.2.1 c.2.2.2.1 c.2.2.2.2 (nI n) bt 0 1000000) {u : Int32 × M7} (hu : u = fX12_number mi tp 0 100000) (h26 : mi 26 = nI n) (hp : own7 mi = p) : ∃ a', aQ n bt a' o.2 u.2 ∧ (a'.1 = false → a.1 = false ∧ min 100000 o.1.toInt = u.1.toInt ∧ 0 ≤ o.1.toInt) := by
  subst ho hu
  have hc := cx_number (bt := bt) (p1 := 0) (p2 := 1000000) hn 0 1000000 (by decide) (by decide) (Or.inr ⟨rfl, rfl⟩) (by decide) h.1
  rw [show min (1000000 : Int) 100000 = 100000 by decide] at hc
  have hr := rx_number (p1 := 0) (p2 := 100000) hn 0 100000 (by decide) (by decide) (aQ_RR h hT h26 hp)
  rw [tr_num hT, tr_val hT] at hr
  refine ⟨_, aQ_of hT hc.1 hr.1, fun q => ⟨aNum_okb q, ?_⟩⟩
  have h3 := hc.2 q
  have h4 := hr.2 q
  exact ⟨by omega, h3.2.1⟩
theorem exp_bad {fk fp st x k : Int32} (h : ¬ fk = 0) : fX6_expect fk fp st x k = (fk, fp) := by
  unfold fX6_expect bfX6_expect_13 fX6_blame bfX6_blame_17
  rw [if_neg h, cal_b]
  split
  · rfl
  · rfl
theorem exp_one {fk fp st k : Int32} : fX6_expect fk fp st 1 k = (fk, fp) := by
  unfold fX6_expect bfX6_expect_13
  exact if_neg (by decide)
theorem exp_zero {fp st k : Int32} : fX6_expect 0 fp st 0 k = (k, st) := by
  unfold fX6_expect bfX6_expect_13 fX6_blame bfX6_blame_17
  rw [cal_b]
  rfl
theorem aR7_bad {t : Nat → Int} {n : Nat} {k pl w29 w30 w31 w32 : Int32} (hk : k ≠ 0) : aR7 t n (aBad k pl) (k, pl, w29, w30, w31, w32, 1) := by
  unfold aR7
  rw [if_pos (show (aBad k pl).1 = true from rfl)]
  exact ⟨hk, rfl, rfl, rfl⟩
theorem aQ_bad {n : Nat} {bt : Nat → Int32} {k pl w3 w4 w5 w29 w30 w31 w32 : Int32} (hk : k ≠ 0) : aQ n bt (aBad k pl) (k, pl, w3, w4, w5) (k, pl, w29, w30, w31, w32, 1) := ⟨aRC_bad hk, aR7_bad hk⟩
theorem dd_end {n d : Nat} {bt tp mi xm xd xl xi ym yd yl yi : Nat → Int32} {a : aS} {c : C5} {p : M7} {v1 v2 v4 v5 y1 y2 y4 y5 q1 q2 q3 q4 q5 : Int32} (hn : n ≤ 1600) (hT : TR n bt tp) (hd : d ≤ 8) (h17 : mi 17 = nI d) (k : aQ n bt a c p) {X : Int32 × Int32 × Int32 × Int32 × Int32 × Int32 × (Nat → Int32) × (Nat → Int32) × (Nat → Int32) × (Nat → Int32)} (hX : X = bfX6_readDeed_144 q1 q2 q3 q4 q5 (nI n) bt (mi 0) (nI d) xm xd xl xi v1 v2 v4 v5 c.1 c.2.1 c.2.2.1 c.2.2.2.1 c.2.2.2.2 (nI d) xm xd xl xi) {Y : Int32 × Int32 × Int32 × Int32 × Int32 × Int32 × Int32 × Int32 × (Nat → Int32) × (Nat → Int32) × (Nat → Int32) × (Nat → Int32)} (hY : Y = bfX12_readsDeed_149 mi tp ym yd yl yi y1 y2 y4 y5 1 (mi 17) p.1 p.2.1 p.2.2.1 p.2.2.2.1 p.2.2.2.2.1 p.2.2.2.2.2.1 p.2.2.2.2.2.2 ym yd yl yi) (h26 : mi 26 = nI n) (hv : a.1 = false → v1 = y1 ∧ v2 = y2 ∧ v4 = y4 ∧ v5 = y5 ∧ (y5 = 0 ∨ y5 = 1) ∧ d < 8) : ∃ a', aQ n bt a' (X.1, X.2.1, X.2.2.1, X.2.2.2.1, X.2.2.2.2.1) (Y.2.1, Y.2.2.1, Y.2.2.2.1, Y.2.2.2.2.1, Y.2.2.2.2.2.1, Y.2.2.2.2.2.2.1, Y.2.2.2.2.2.2.2.1) ∧ (a'.1 = false → a.1 = false ∧ d < 8 ∧ X.2.2.2.2.2 = (nI (d + 1), upd xm d y1, upd xd d y2, upd xl d y4, upd xi d y5) ∧ Y.1 = nI (d + 1) ∧ Y.2.2.2.2.2.2.2.2 = (upd ym d y1, upd yd d y2, upd yl d y4, upd yi d y5)) := by
  unfold bfX6_readDeed_144 bfX6_readDeed_168 at hX
  unfold bfX12_readsDeed_149 bfX12_readsDeed_208 bfX12_readsDeed_219 at hY
  obtain ⟨o1, e1, hX⟩ := cal_out hX
  obtain ⟨u1, f1, hY⟩ := cal_out hY
  obtain ⟨a1, k1, g1⟩ := q_step hn hT k e1 f1 h26 rfl
  by_cases ha : a.1 = false
  · rw [if_pos ((aQ_fk k).mpr ha)] at hX
    rw [if_pos (show u1.2.2.2.2.2.2 = 0 from (aQ_33 k1).mpr ((aQ_fk k1).mp ((aQ_fk k).mpr ha)))] at hY
    obtain ⟨r1, r2, r3, r4, r5, r6⟩ := hv ha
    subst r1 r2 r3 r4
    obtain ⟨o2, e2, hX⟩ := cal_out hX
    have e2 : o2 = (nI (d + 1), upd xm d v1, upd xd d v2, upd xl d v4, upd xi d v5) := by
      rw [e2]
      unfold fX0_addDeed bfX0_addDeed_55
      rw [if_neg (show ¬ (8 : Int32) ≤ nI d from nI_ge (b := 8) r6 (by omega)), nI_clamp (by omega), ← nI_succ]
    subst e2
    rw [h17, nI_clamp (by omega), ← nI_succ] at hY
    rcases r5 with r5 | r5
    · rw [if_pos r5] at hY
      subst hX hY r5
      exact ⟨a1, k1, fun _ => ⟨ha, r6, rfl, rfl, rfl⟩⟩
    · rw [if_neg (by rw [r5]; decide)] at hY
      subst hX hY r5
      exact ⟨a1, k1, fun _ => ⟨ha, r6, rfl, rfl, rfl⟩⟩
  · rw [if_neg (fun q => ha ((aQ_fk k).mp q))] at hX
    rw [if_neg (show ¬ u1.2.2.2.2.2.2 = 0 from fun q => ha (g1 ((aQ_33 k1).mp q)))] at hY
    subst hX hY
    exact ⟨a1, k1, fun q => absurd (g1 q) ha⟩
theorem ln_deed {n d : Nat} {bt tp mi xm xd xl xi ym yd yl yi : Nat → Int32} {a : aS} {c : C5} {p : M7} (hn : n ≤ 1600) (hT : TR n bt tp) (h : aQ n bt a c p) (hd : d ≤ 8) (h17 : mi 17 = nI d) (h0 : 2 ≤ (mi 0).toInt) (h0b : (mi 0).toInt ≤ 24) {X : Int32 × Int32 × Int32 × Int32 × Int32 × Int32 × (Nat → Int32) × (Nat → Int32) × (Nat → Int32) × (Nat → Int32)} (hX : X = fX6_readDeed c.1 c.2.1 c.2.2.1 c.2.2.2.1 c.2.2.2.2 (nI n) bt (mi 0) (nI d) xm xd xl xi) {Y : Int32 × Int32 × Int32 × Int32 × Int32 × Int32 × Int32 × Int32 × (Nat → Int32) × (Nat → Int32) × (Nat → Int32) × (Nat → Int32)} (hY : Y = fX12_readsDeed mi tp ym yd yl yi) (h26 : mi 26 = nI n) (hp : own7 mi = p) : ∃ a', aQ n bt a' (X.1, X.2.1, X.2.2.1, X.2.2.2.1, X.2.2.2.2.1) (Y.2.1, Y.2.2.1, Y.2.2.2.1, Y.2.2.2.2.1, Y.2.2.2.2.2.1, Y.2.2.2.2.2.2.1, Y.2.2.2.2.2.2.2.1) ∧ (a'.1 = false → a.1 = false ∧ d < 8 ∧ ∃ y1 y2 y4 y5, X.2.2.2.2.2 = (nI (d + 1), upd xm d y1, upd xd d y2, upd xl d y4, upd xi d y5) ∧ Y.1 = nI (d + 1) ∧ Y.2.2.2.2.2.2.2.2 = (upd ym d y1, upd yd d y2, upd yl d y4, upd yi d y5)) := by
  have hX : X = bfX6_readDeed_18 c.1 c.2.1 c.2.2.1 c.2.2.2.1 c.2.2.2.2 (nI n) bt (mi 0) (nI d) xm xd xl xi (if (8 : Int32) ≤ nI d then 0 else 1) c.1 c.2.1 c.2.2.1 c.2.2.2.1 c.2.2.2.2 (nI d) xm xd xl xi := by
    rw [hX]
    unfold fX6_readDeed
    split
    · rfl
    · rfl
  obtain ⟨F, hF, hY⟩ : ∃ F : M7, F = (if decide (d < 8) = true then p else fp7 p 3) ∧ Y = bfX12_readsDeed_14 mi tp ym yd yl yi (mi 17) F.1 F.2.1 F.2.2.1 F.2.2.2.1 F.2.2.2.2.1 F.2.2.2.2.2.1 F.2.2.2.2.2.2 ym yd yl yi := by
    unfold fX12_readsDeed at hY
    refine ⟨_, rfl, ?_⟩
    rw [← hp]
    by_cases h4 : d < 8
    · rw [if_neg (show ¬ mi 17 = 8 from fun q => absurd (pz_ninj (b := 8) (by omega) (by omega) (h17.symm.trans q)) (by omega))] at hY
      rw [if_pos (decide_eq_true h4)]
      exact hY
    · rw [if_pos (show mi 17 = 8 by rw [h17, show d = 8 by omega]; rfl)] at hY
      rw [if_neg (fun q => h4 (of_decide_eq_true q))]
      obtain ⟨o1, e1, hY⟩ := cal_out hY
      rw [← faults_fp e1]
      exact hY
  unfold bfX6_readDeed_18 at hX
  obtain ⟨o1, e1, hX⟩ := cal_out hX
  obtain ⟨o2, e2, hX⟩ := cal_out hX
  obtain ⟨o3, e3, hX⟩ := cal_out hX
  obtain ⟨o4, e4, hX⟩ := cal_out hX
  obtain ⟨o5, e5, hX⟩ := cal_out hX
  obtain ⟨o6, e6, hX⟩ := cal_out hX
  obtain ⟨o7, e7, hX⟩ := cal_out hX
  obtain ⟨o8, e8, hX⟩ := cal_out hX
  unfold bfX12_readsDeed_14 at hY
  obtain ⟨u2, f2, hY⟩ := cal_out hY
  obtain ⟨u3, f3, hY⟩ := cal_out hY
  obtain ⟨u4, f4, hY⟩ := cal_out hY
  obtain ⟨u5, f5, hY⟩ := cal_out hY
  obtain ⟨u6, f6, hY⟩ := cal_out hY
  obtain ⟨u7, f7, hY⟩ := cal_out hY
  have k8 : (if (8 : Int32) ≤ nI d then (0 : Int32) else 1) = if decide (d < 8) = true then 1 else 0 := by
    by_cases h4 : d < 8
    · rw [if_neg (show ¬ (8 : Int32) ≤ nI d from nI_ge (b := 8) h4 (by omega)), if_pos (decide_eq_true h4)]
    · rw [if_pos (show (8 : Int32) ≤ nI d from nI_le (a := 8) (by omega) (by omega)), if_neg (fun q => h4 (of_decide_eq_true q))]
  have kone : (1 : Int32).toInt = 1 := by decide
  have km : (mi 0 - (1 : Int32)).toInt = (mi 0).toInt - 1 := by
    have q := gi_subI (z := mi 0 - (1 : Int32)) rfl (by rw [kone]; omega) (by rw [kone]; omega)
    rw [q, kone]
  obtain ⟨a1, k1, q1⟩ := q_head hn hT h (decide (d < 8)) k8 e1 hF f2 h26 rfl
  obtain ⟨a2, k2, q2⟩ := q_nb hn hT k1 e2 e3 f3 (by decide) 0 ((mi 0).toInt - 1) (by decide) km (by omega) (by omega) h26 rfl
  obtain ⟨a3, k3, q3⟩ := q_nb hn hT k2 e4 e5 f4 (by decide) 1 30 (by decide) (by decide) (by decide) (by decide) h26 rfl
  obtain ⟨a4, k4, q4⟩ := q_word hn hT k3 e6 f5 (by decide) h26 rfl
  obtain ⟨a5, k5, q5⟩ := q_numL hn hT k4 e7 f6 h26 rfl
  -- behind the unit: both ends alike
  have fin : ∀ (a6 : aS) (c6 : C5) (p6 : M7) (v5 y5 : Int32), aQ n bt a6 c6 p6 → X = bfX6_readDeed_144 c.1 c.2.1 c.2.2.1 c.2.2.2.1 c.2.2.2.2 (nI n) bt (mi 0) (nI d) xm xd xl xi o3.1 o5.1 o7.1 v5 c6.1 c6.2.1 c6.2.2.1 c6.2.2.2.1 c6.2.2.2.2 (nI d) xm xd xl xi → Y = bfX12_readsDeed_149 mi tp ym yd yl yi u3.1 u4.1 u6.1 y5 1 (mi 17) p6.1 p6.2.1 p6.2.2.1 p6.2.2.2.1 p6.2.2.2.2.1 p6.2.2.2.2.2.1 p6.2.2.2.2.2.2 ym yd yl yi → (a6.1 = false → a5.1 = false ∧ o7.1 = u6.1 ∧ v5 = y5 ∧ (y5 = 0 ∨ y5 = 1)) → ∃ a', aQ n bt a' (X.1, X.2.1, X.2.2.1, X.2.2.2.1, X.2.2.2.2.1) (Y.2.1, Y.2.2.1, Y.2.2.2.1, Y.2.2.2.2.1, Y.2.2.2.2.2.1, Y.2.2.2.2.2.2.1, Y.2.2.2.2.2.2.2.1) ∧ (a'.1 = false → a.1 = false ∧ d < 8 ∧ ∃ y1 y2 y4 y5, X.2.2.2.2.2 = (nI (d + 1), upd xm d y1, upd xd d y2, upd xl d y4, upd xi d y5) ∧ Y.1 = nI (d + 1) ∧ Y.2.2.2.2.2.2.2.2 = (upd ym d y1, upd yd d y2, upd yl d y4, upd yi d y5)) := by
    intro a6 c6 p6 v5 y5 k6 hX6 hY6 hv
    obtain ⟨a', g1, g2⟩ := dd_end (y1 := u3.1) (y2 := u4.1) (y4 := u6.1) (y5 := y5) hn hT hd h17 k6 hX6 hY6 h26 (fun q => by
      obtain ⟨r5, w1, w2, w3⟩ := hv q
      obtain ⟨r4, -⟩ := q5 r5
      obtain ⟨r2, s3⟩ := q3 (q4 r4)
      obtain ⟨r1, s2⟩ := q2 r2
      exact ⟨s2.1, s3.1, w1, w2, w3, of_decide_eq_true (q1 r1).2⟩)
    refine ⟨a', g1, fun q => ?_⟩
    obtain ⟨w1, w2, w3⟩ := g2 q
    obtain ⟨r5, -⟩ := hv w1
    obtain ⟨r2, s3⟩ := q3 (q4 (q5 r5).1)
    exact ⟨(q1 (q2 r2).1).1, w2, _, _, _, _, w3⟩
  -- where the reference ends faulted
  have b122 : ∀ (y5 w27 w28 w29 w30 w31 w32 w33 : Int32), ¬ w33 = 0 → bfX12_readsDeed_122 mi tp ym yd yl yi u3.1 u4.1 u6.1 y5 (mi 17) w27 w28 w29 w30 w31 w32 w33 ym yd yl yi = bfX12_readsDeed_149 mi tp ym yd yl yi u3.1 u4.1 u6.1 y5 1 (mi 17) w27 w28 w29 w30 w31 w32 w33 ym yd yl yi := by
    intro y5 w27 w28 w29 w30 w31 w32 w33 hw
    unfold bfX12_readsDeed_122 bfX12_readsDeed_144
    rw [if_neg hw]
  by_cases ha : a5.1 = false
  · obtain ⟨s, rfl, g2, g3, g4, g5, g6, g7, l1, l2, l3, l4, l5, l6, l7⟩ := aQ_ok k5 ha
    obtain ⟨ha4, hmin, hpos⟩ := q5 ha
    obtain ⟨s4, -, -, -, -, -, t6, -, -, -, -, -, t5, -⟩ := aQ_ok k4 ha4
    have ev3 : o6.2.2.2.1 = u5.2.2.2.1 := t6.trans t5.symm
    obtain ⟨ra2, sb3⟩ := q3 (q4 ha4)
    obtain ⟨ra1, sb2⟩ := q2 ra2
    have hw4 := q_is (wi := 4) hn hT k5 ha (by decide) (show own7 (mu7 (upd mi 17 (mi 17)) u6.2) = u6.2 from rfl)
    have hw11 := q_is (wi := 11) hn hT k5 ha (by decide) (show own7 (mu7 (upd mi 17 (mi 17)) u6.2) = u6.2 from rfl)
    have e87 : o8 = u7 := e8.trans (hw4.1.trans f7.symm)
    have u71 : u7 = 0 ∨ u7 = 1 := by
      have f7a : u7 = if aIs bt n s (stL 4) = true then 1 else 0 := f7.trans hw4.2
      by_cases g9 : aIs bt n s (stL 4) = true
      · exact Or.inr (f7a.trans (if_pos g9))
      · exact Or.inl (f7a.trans (if_neg g9))
    -- the bounds: s0 is what the number may be
    have bnd : ∀ (s0 : Int32) (v5 : Int32), (v5 = 0 ∨ v5 = 1) → s0.toInt ≤ 99999 → X = bfX6_readDeed_122 c.1 c.2.1 c.2.2.1 c.2.2.2.1 c.2.2.2.2 (nI n) bt (mi 0) (nI d) xm xd xl xi o3.1 o5.1 o6.2.2.2.1 o7.1 v5 s0 o7.2.1 o7.2.2.1 o7.2.2.2.1 o7.2.2.2.2.1 o7.2.2.2.2.2 (nI d) xm xd xl xi → Y = bfX12_readsDeed_113 mi tp ym yd yl yi u3.1 u4.1 u5.2.2.2.1 u6.1 v5 s0 u6.1 (mi 17) u6.2.1 u6.2.2.1 u6.2.2.2.1 u6.2.2.2.2.1 u6.2.2.2.2.2.1 u6.2.2.2.2.2.2.1 u6.2.2.2.2.2.2.2 ym yd yl yi → bfX12_readsDeed_122 mi tp ym yd yl yi u3.1 u4.1 u6.1 v5 (mi 17) u6.2.1 u6.2.2.1 u6.2.2.2.1 u6.2.2.2.2.1 u6.2.2.2.2.2.1 u6.2.2.2.2.2.2.1 u6.2.2.2.2.2.2.2 ym yd yl yi = bfX12_readsDeed_149 mi tp ym yd yl yi u3.1 u4.1 u6.1 v5 1 (mi 17) u6.2.1 u6.2.2.1 u6.2.2.2.1 u6.2.2.2.2.1 u6.2.2.2.2.2.1 u6.2.2.2.2.2.2.1 u6.2.2.2.2.2.2.2 ym yd yl yi → ∃ a', aQ n bt a' (X.1, X.2.1, X.2.2.1, X.2.2.2.1, X.2.2.2.2.1) (Y.2.1, Y.2.2.1, Y.2.2.2.1, Y.2.2.2.2.1, Y.2.2.2.2.2.1, Y.2.2.2.2.2.2.1, Y.2.2.2.2.2.2.2.1) ∧ (a'.1 = false → a.1 = false ∧ d < 8 ∧ ∃ y1 y2 y4 y5, X.2.2.2.2.2 = (nI (d + 1), upd xm d y1, upd xd d y2, upd xl d y4, upd xi d y5) ∧ Y.1 = nI (d + 1) ∧ Y.2.2.2.2.2.2.2.2 = (upd ym d y1, upd yd d y2, upd yl d y4, upd yi d y5)) := by
      intro s0 v5 hv5 hs0 hX1 hY1 hgo
      unfold bfX6_readDeed_122 at hX1
      unfold bfX12_readsDeed_113 at hY1
      rw [if_pos g2] at hX1
      by_cases hle : u6.1 ≤ s0
      · have hle2 := Int32.le_iff_toInt_le.mp hle
        have e76 : o7.1 = u6.1 := Int32.toInt_inj.mp (by omega)
        rw [if_pos (by rw [e76]; exact hle)] at hX1
        rw [if_pos hle, hgo] at hY1
        exact fin _ _ _ v5 v5 k5 hX1 hY1 (fun _ => ⟨rfl, e76, rfl, hv5⟩)
      · have hle2 : ¬ u6.1.toInt ≤ s0.toInt := fun q => hle (Int32.le_iff_toInt_le.mpr q)
        rw [if_neg (fun q => hle2 (by have q2 := Int32.le_iff_toInt_le.mp q; omega))] at hX1
        rw [if_neg hle] at hY1
        obtain ⟨o11, e11, hX1⟩ := cal_out hX1
        obtain ⟨u11, f11, hY1⟩ := cal_out hY1
        have e11 : o11 = (2, o6.2.2.2.1) := by
          rw [e11]
          unfold fX6_blame bfX6_blame_17
          rw [if_pos g2]
        have f11 : u11 = (2, u5.2.2.2.1, 1) := by
          rw [f11, rx_faultsAt]
          exact if_pos l1
        subst e11 f11
        have hY1 := hY1.trans (b122 v5 _ _ _ _ _ _ _ (show ¬ (1 : Int32) = 0 by decide))
        rw [ev3] at hX1
        exact fin (aBad 2 u5.2.2.2.1) (2, u5.2.2.2.1, o7.2.2.2.1, o7.2.2.2.2.1, o7.2.2.2.2.2) (2, u5.2.2.2.1, u6.2.2.2.1, u6.2.2.2.2.1, u6.2.2.2.2.2.1, u6.2.2.2.2.2.2.1, 1) v5 v5 (aQ_bad (by decide)) hX1 hY1 (fun q => absurd q (by intro q; cases q))
    rw [if_pos l1] at hY
    have sub2 : ((mi 0 - (1 : Int32)) - u3.1).toInt ≤ 99999 := by
      have q := gi_subI (z := mi 0 - (1 : Int32) - u3.1) rfl (by rw [km]; omega) (by rw [km]; omega)
      rw [q, km]
      omega
    rcases u71 with u70 | u71
    · rw [if_pos (e87.trans u70)] at hX
      rw [if_pos u70] at hY
      obtain ⟨o9, e9, hX⟩ := cal_out hX
      obtain ⟨o10, e10, hX⟩ := cal_out hX
      obtain ⟨u8, f8, hY⟩ := cal_out hY
      have e98 : o9 = u8 := e9.trans (hw11.1.trans f8.symm)
      rw [e87, u70] at hX
      rw [u70] at hY
      unfold bfX6_readDeed_100 at hX
      rw [if_pos rfl] at hX
      by_cases g9 : aIs bt n s (stL 11) = true
      · have u81 : u8 = 1 := f8.trans (hw11.2.trans (if_pos g9))
        rw [e98, u81, exp_one] at e10
        subst e10
        rw [if_neg (by rw [u81]; decide)] at hY
        unfold bfX12_readsDeed_92 at hY
        rw [if_pos rfl] at hY
        rw [sb2.1] at hX
        rw [← sb2.1] at hX
        refine bnd ((mi 0 - 1) - u3.1) 0 (Or.inl rfl) sub2 (by rw [sb2.1] at hX ⊢; exact hX) hY ?_
        unfold bfX12_readsDeed_122 bfX12_readsDeed_144
        rw [if_pos l1, if_pos rfl]
        have w1 : fX12_isWord (mu7 (upd mi 17 (mi 17)) u6.2) tp 11 = 1 := hw11.2.trans (if_pos g9)
        show cal _ (fX12_isWord (mu7 (upd mi 17 (mi 17)) u6.2) tp 11) = _
        rw [w1, cal_b]
        exact if_neg (by decide)
      · have u80 : u8 = 0 := f8.trans (hw11.2.trans (if_neg g9))
        rw [e98, u80, g2, exp_zero] at e10
        subst e10
        rw [if_pos u80] at hY
        unfold bfX6_readDeed_122 at hX
        rw [if_neg (show ¬ (1 : Int32) = 0 by decide)] at hX
        unfold bfX6_readDeed_144 bfX6_readDeed_168 at hX
        obtain ⟨o12, e12, hX⟩ := cal_out hX
        rw [if_neg (show ¬ (1 : Int32) = 0 by decide)] at hX
        unfold bfX12_readsDeed_122 at hY
        rw [if_pos l1, if_pos rfl] at hY
        obtain ⟨u9, f9, hY⟩ := cal_out hY
        rw [if_pos (f9.trans (hw11.2.trans (if_neg g9)))] at hY
        unfold bfX12_readsDeed_149 bfX12_readsDeed_219 at hY
        obtain ⟨u10, f10, hY⟩ := cal_out hY
        have h9 := rx_passes hn false (p1 := 0) (fun _ => rfl) (aQ_RR (mi := mu7 (upd mi 17 (mi 17)) u6.2) k5 hT h26 rfl)
        rw [tr_step hT] at h9
        have h9 : aR7 (fun j => (bt j).toInt) n (aBad 1 (nI s)) u10 := by
          rw [f10]
          exact ((tr_RR hT _ _).mp h9).2
        have k10 : aQ n bt (aBad 1 (nI s)) (1, nI s, o12.1, o12.2.1, o12.2.2) u10 := ⟨aRC_bad (by decide), h9⟩
        rw [if_neg (fun q => absurd ((aQ_33 k10).mp q) (by intro q; cases q))] at hY
        rw [g6] at hX
        subst hX hY
        exact ⟨_, k10, fun q => absurd q (by intro q; cases q)⟩
    · rw [if_neg (by rw [e87, u71]; decide)] at hX
      rw [if_neg (by rw [u71]; decide)] at hY
      rw [e87, u71] at hX
      rw [u71] at hY
      unfold bfX6_readDeed_100 at hX
      rw [if_neg (by decide)] at hX
      unfold bfX12_readsDeed_92 at hY
      rw [if_neg (by decide)] at hY
      refine bnd 600 1 (Or.inr rfl) (by decide) hX hY ?_
      unfold bfX12_readsDeed_122 bfX12_readsDeed_144
      rw [if_pos l1, if_neg (by decide)]
  · have hb : ¬ o7.2.1 = 0 := fun q => ha ((aQ_fk k5).mp q)
    have hb3 : ¬ u6.2.2.2.2.2.2.2 = 0 := fun q => ha ((aQ_33 k5).mp q)
    rw [if_neg hb3, b122 _ _ _ _ _ _ _ _ hb3] at hY
    obtain ⟨v5, hX⟩ : ∃ v5, X = bfX6_readDeed_144 c.1 c.2.1 c.2.2.1 c.2.2.2.1 c.2.2.2.2 (nI n) bt (mi 0) (nI d) xm xd xl xi o3.1 o5.1 o7.1 v5 o7.2.1 o7.2.2.1 o7.2.2.2.1 o7.2.2.2.2.1 o7.2.2.2.2.2 (nI d) xm xd xl xi := by
      refine ⟨o8, ?_⟩
      by_cases h8 : o8 = 0
      · rw [if_pos h8] at hX
        obtain ⟨o9, e9, hX⟩ := cal_out hX
        obtain ⟨o10, e10, hX⟩ := cal_out hX
        rw [exp_bad hb] at e10
        subst e10
        unfold bfX6_readDeed_100 bfX6_readDeed_122 at hX
        rw [if_pos h8, if_neg hb] at hX
        exact hX
      · rw [if_neg h8] at hX
        unfold bfX6_readDeed_100 bfX6_readDeed_122 at hX
        rw [if_neg h8, if_neg hb] at hX
        exact hX
    exact fin a5 o7.2 u6.2 v5 u7 k5 hX hY (fun q => absurd q ha)
