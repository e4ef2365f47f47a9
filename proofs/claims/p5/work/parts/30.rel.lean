/-! what both objects hold: the tape and the latest fault -/
def REL0 (vx : Nat → Int32) (fx : Nat → Nat → Int32) (mi : Nat → Int32) (fm : Nat → Nat → Int32) : Prop :=
  (∃ n : Nat, n ≤ 1600 ∧ vx 10 = nI n ∧ mi 26 = nI n ∧ TR n (fx 0) (fm 13)) ∧ vx 5 = mi 27 ∧ vx 6 = mi 28
theorem rl_feed {vx : Nat → Int32} {fx : Nat → Nat → Int32} {gx : Nat → Nat → Int64} {mi : Nat → Int32} {fm : Nat → Nat → Int32} (h : REL0 vx fx mi fm) {r r2 : Int32} {v : Nat → Int32} {f : Nat → Nat → Int32} {g : Nat → Nat → Int64} {mi2 : Nat → Int32} {fm2 : Nat → Nat → Int32} {p1 p2 p3 p4 p5 : Int32} (hx : (r, v, f, g) = xs_feed vx fx gx p1 p2 p3 p4 p5) (hm : (r2, mi2, fm2) = ms_feed mi fm p1 p2 p3 p4 p5) : REL0 v f mi2 fm2 ∧ r = r2 := by
  obtain ⟨⟨n, hn, h10, h26, hT⟩, h5, h6⟩ := h
  unfold xs_feed xt_feed at hx
  unfold ms_feed mt_feed at hm
  rw [h10] at hx
  have e1 := congrArg (fun o => o.1) hx
  have e2 := congrArg (fun o => o.2.1) hx
  have e3 := congrArg (fun o => o.2.2.1) hx
  have d1 := congrArg (fun o => o.1) hm
  have d2 := congrArg (fun o => o.2.1) hm
  have d3 := congrArg (fun o => o.2.2) hm
  dsimp only at e1 e2 e3 d1 d2 d3
  by_cases h1 : n ≤ 1580
  · rw [px_feed (fx 0) p1 p2 p3 p4 p5 h1] at e1 e2 e3
    rw [mr_feed (fm 13) p1 p2 p3 p4 p5 h26 h1] at d1 d2 d3
    subst e1 e2 e3 d1 d2 d3
    exact ⟨⟨⟨n + 20, by omega, rfl, rfl, tr_feed p1 p2 p3 p4 p5 hT⟩, h5, h6⟩, rfl⟩
  · have c1 : fX11_feed (nI n) (fx 0) p1 p2 p3 p4 p5 = (-1, nI n, fx 0) := by
      unfold fX11_feed
      exact if_neg (show ¬ nI n ≤ (1580 : Int32) from nI_ge (a := 1580) (b := n) (by omega) (by omega))
    have c2 : fX12_feed mi (fm 13) p1 p2 p3 p4 p5 = (-1, nI n, fm 13) := by
      unfold fX12_feed
      rw [h26]
      exact if_neg (show ¬ nI n ≤ (1580 : Int32) from nI_ge (a := 1580) (b := n) (by omega) (by omega))
    rw [c1] at e1 e2 e3
    rw [c2] at d1 d2 d3
    subst e1 e2 e3 d1 d2 d3
    exact ⟨⟨⟨n, hn, rfl, rfl, hT⟩, h5, h6⟩, rfl⟩
theorem rl_end {vx : Nat → Int32} {fx : Nat → Nat → Int32} {gx : Nat → Nat → Int64} {mi : Nat → Int32} {fm : Nat → Nat → Int32} (h : REL0 vx fx mi fm) {r r2 : Int32} {v : Nat → Int32} {f : Nat → Nat → Int32} {g : Nat → Nat → Int64} {mi2 : Nat → Int32} {fm2 : Nat → Nat → Int32} {p1 : Int32} (hx : (r, v, f, g) = xs_end vx fx gx p1) (hm : (r2, mi2, fm2) = ms_end mi fm p1) : REL0 v f mi2 fm2 ∧ r = r2 := by
  obtain ⟨⟨n, hn, h10, h26, hT⟩, h5, h6⟩ := h
  unfold xs_end xt_end at hx
  unfold ms_end mt_end at hm
  rw [h10] at hx
  have e1 := congrArg (fun o => o.1) hx
  have e2 := congrArg (fun o => o.2.1) hx
  have e3 := congrArg (fun o => o.2.2.1) hx
  have d1 := congrArg (fun o => o.1) hm
  have d2 := congrArg (fun o => o.2.1) hm
  have d3 := congrArg (fun o => o.2.2) hm
  dsimp only at e1 e2 e3 d1 d2 d3
  have z0 : (0 : Int32).toInt = 0 := by decide
  have z64 : (0 : Int64).toInt = 0 := by decide
  have hn1 := nI_toInt (n := n) (by omega)
  have c2 : fX12_end mi p1 = if fX12_in p1.toInt64 (0 : Int64) (nI n).toInt64 = 0 then (-1, nI n) else (p1, p1) := by
    unfold fX12_end
    rw [cal_b, h26]
  by_cases h1 : 0 ≤ p1.toInt ∧ p1.toInt ≤ (n : Int)
  · have c1 : fX11_end (nI n) p1 = (p1, p1) := by
      unfold fX11_end
      rw [if_neg (fun q => absurd (Int32.lt_iff_toInt_lt.mp q) (by rw [z0]; omega))]
      exact if_pos (Int32.le_iff_toInt_le.mpr (by rw [hn1]; omega))
    have c3 : fX12_in p1.toInt64 (0 : Int64) (nI n).toInt64 = 1 := by
      rw [pr_in64, Int32.toInt_toInt64, Int32.toInt_toInt64, z64, hn1]
      exact if_pos h1
    rw [c3, if_neg (by decide)] at c2
    rw [c1] at e1 e2
    rw [c2] at d1 d2
    subst e2 e3 d2 d3
    have hk : p1 = nI p1.toInt.toNat := Int32.toInt_inj.mp (by rw [nI_toInt (by omega)]; omega)
    exact ⟨⟨⟨p1.toInt.toNat, by omega, hk, hk, fun j hj => hT j (by omega)⟩, h5, h6⟩, e1.trans d1.symm⟩
  · have c1 : fX11_end (nI n) p1 = (-1, nI n) := by
      unfold fX11_end bfX11_end_18
      by_cases h2 : p1 < 0
      · exact if_pos h2
      · rw [if_neg h2]
        have h3 : ¬ p1.toInt < 0 := fun q => h2 (Int32.lt_iff_toInt_lt.mpr (by rw [z0]; exact q))
        exact if_neg (fun q => absurd (Int32.le_iff_toInt_le.mp q) (by rw [hn1]; omega))
    have c3 : fX12_in p1.toInt64 (0 : Int64) (nI n).toInt64 = 0 := by
      rw [pr_in64, Int32.toInt_toInt64, Int32.toInt_toInt64, z64, hn1]
      exact if_neg h1
    rw [c3, if_pos rfl] at c2
    rw [c1] at e1 e2
    rw [c2] at d1 d2
    subst e1 e2 e3 d1 d2 d3
    exact ⟨⟨⟨n, hn, rfl, rfl, hT⟩, h5, h6⟩, rfl⟩
theorem rl_fault {vx : Nat → Int32} {fx : Nat → Nat → Int32} {gx : Nat → Nat → Int64} {mi : Nat → Int32} {fm : Nat → Nat → Int32} (h : REL0 vx fx mi fm) {r r2 : Int32} {v : Nat → Int32} {f : Nat → Nat → Int32} {g : Nat → Nat → Int64} {mi2 : Nat → Int32} {fm2 : Nat → Nat → Int32} {p1 : Int32} (hx : (r, v, f, g) = xs_fault vx fx gx p1) (hm : (r2, mi2, fm2) = ms_fault mi fm p1) : REL0 v f mi2 fm2 ∧ r = r2 := by
  unfold xs_fault xt_fault fX11_fault bfX11_fault_28 at hx
  unfold ms_fault mt_fault fX12_fault bfX12_fault_24 at hm
  have e1 := congrArg (fun o => o.1) hx
  have e2 := congrArg (fun o => o.2.1) hx
  have e3 := congrArg (fun o => o.2.2.1) hx
  have d1 := congrArg (fun o => o.1) hm
  have d2 := congrArg (fun o => o.2.1) hm
  have d3 := congrArg (fun o => o.2.2) hm
  dsimp only at e1 e2 e3 d1 d2 d3
  subst e2 e3 d2 d3
  refine ⟨h, ?_⟩
  rw [e1, d1, h.2.1, h.2.2]
theorem rl_almanac {vx : Nat → Int32} {fx : Nat → Nat → Int32} {gx : Nat → Nat → Int64} {mi : Nat → Int32} {fm : Nat → Nat → Int32} (h : REL0 vx fx mi fm) {r r2 : Int32} {v : Nat → Int32} {f : Nat → Nat → Int32} {g : Nat → Nat → Int64} {mi2 : Nat → Int32} {fm2 : Nat → Nat → Int32} (hx : (r, v, f, g) = xs_almanac vx fx gx) (hm : (r2, mi2, fm2) = ms_almanac mi fm) : REL0 v f mi2 fm2 ∧ r = r2 := by
  obtain ⟨⟨n, hn, h10, h26, hT⟩, h5, h6⟩ := h
  unfold xs_almanac at hx
  unfold ms_almanac at hm
  rw [h10] at hx
  obtain ⟨O, hO⟩ : ∃ O, O = fX11_almanac (vx 1) (vx 3) (vx 4) (vx 7) (vx 8) (nI n) (fx 0) (fx 46) (fx 47) (fx 48) (fx 49) (fx 50) (fx 51) (fx 52) (fx 53) (fx 54) (fx 55) (fx 56) (fx 57) := ⟨_, rfl⟩
  obtain ⟨U, hU⟩ : ∃ U, U = fX12_almanac mi (fm 13) (fm 12) (fm 0) (fm 1) (fm 2) (fm 3) (fm 5) (fm 6) (fm 7) (fm 8) (fm 9) (fm 10) (fm 11) (fm 4) := ⟨_, rfl⟩
  rw [← hO] at hx
  rw [← hU] at hm
  obtain ⟨c1, c2, c3, c4, c5, -⟩ := alm_core hn hT h26 hO hU
  unfold mt_almanac at hm
  have d1 := congrArg (fun o => o.1) hm
  have d2 := congrArg (fun o => o.2.1) hm
  dsimp only at d1 d2
  have w26 : mi2 26 = 0 := by rw [d2]; exact c5
  have w27 : mi2 27 = U.2.2.2.2.2.2.2.2.2.2.2.2.2.2.1 := by rw [d2]; rfl
  have w28 : mi2 28 = U.2.2.2.2.2.2.2.2.2.2.2.2.2.2.2.1 := by rw [d2]; rfl
  unfold xt_almanac at hx
  by_cases h0 : O.2.2.2.2.1 = 0
  · rw [if_pos h0] at hx
    have e1 := congrArg (fun o => o.1) hx
    have e2 := congrArg (fun o => o.2.1) hx
    dsimp only at e1 e2
    refine ⟨⟨⟨0, by omega, ?_, w26, fun j hj => absurd hj (by omega)⟩, ?_, ?_⟩, ?_⟩
    · rw [e2]; exact c4
    · rw [e2, w27]; exact c2
    · rw [e2, w28]; exact c3
    · rw [e1, d1]; exact c1
  · rw [if_neg h0] at hx
    have e1 := congrArg (fun o => o.1) hx
    have e2 := congrArg (fun o => o.2.1) hx
    dsimp only at e1 e2
    refine ⟨⟨⟨0, by omega, ?_, w26, fun j hj => absurd hj (by omega)⟩, ?_, ?_⟩, ?_⟩
    · rw [e2]; exact c4
    · rw [e2, w27]; exact c2
    · rw [e2, w28]; exact c3
    · rw [e1, d1]; exact c1
