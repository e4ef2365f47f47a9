theorem r3_place {vx : Nat → Int32} {fx : Nat → Nat → Int32} {gx : Nat → Nat → Int64} {mi : Nat → Int32} {fm : Nat → Nat → Int32} (h : REL3 vx fx mi fm) (hk : ∀ i, i < 8 → fx 33 i = 0 ∨ fx 33 i = 1) {r r2 : Int32} {v : Nat → Int32} {f : Nat → Nat → Int32} {g : Nat → Nat → Int64} {mi2 : Nat → Int32} {fm2 : Nat → Nat → Int32} {p1 p2 : Int32} (hx : (r, v, f, g) = xs_place vx fx gx p1 p2) (hm : (r2, mi2, fm2) = ms_place mi fm p1 p2) : REL3 v f mi2 fm2 ∧ r = r2 := by
  obtain ⟨_, b⟩ := r2_place h.1 hk hx hm
  have e1 : v = (xs_place vx fx gx p1 p2).2.1 := congrArg (fun o => o.2.1) hx
  have e2 : f = (xs_place vx fx gx p1 p2).2.2.1 := congrArg (fun o => o.2.2.1) hx
  have e4 : mi2 = (ms_place mi fm p1 p2).2.1 := congrArg (fun o => o.2.1) hm
  have e5 : fm2 = (ms_place mi fm p1 p2).2.2 := congrArg (fun o => o.2.2) hm
  refine ⟨?_, b⟩
  rw [e1, e2, e4, e5]
  exact h
theorem r3_report {vx : Nat → Int32} {fx : Nat → Nat → Int32} {gx : Nat → Nat → Int64} {mi : Nat → Int32} {fm : Nat → Nat → Int32} (h : REL3 vx fx mi fm) (hk : ∀ i, i < 8 → fx 33 i = 0 ∨ fx 33 i = 1) {r r2 : Int32} {v : Nat → Int32} {f : Nat → Nat → Int32} {g : Nat → Nat → Int64} {mi2 : Nat → Int32} {fm2 : Nat → Nat → Int32} {p1 p2 : Int32} (hx : (r, v, f, g) = xs_report vx fx gx p1 p2) (hm : (r2, mi2, fm2) = ms_report mi fm p1 p2) : REL3 v f mi2 fm2 ∧ r = r2 := by
  obtain ⟨_, b⟩ := r2_report h.1 hk hx hm
  have e1 : v = (xs_report vx fx gx p1 p2).2.1 := congrArg (fun o => o.2.1) hx
  have e2 : f = (xs_report vx fx gx p1 p2).2.2.1 := congrArg (fun o => o.2.2.1) hx
  have e4 : mi2 = (ms_report mi fm p1 p2).2.1 := congrArg (fun o => o.2.1) hm
  have e5 : fm2 = (ms_report mi fm p1 p2).2.2 := congrArg (fun o => o.2.2) hm
  refine ⟨?_, b⟩
  rw [e1, e2, e4, e5]
  exact h
theorem r3_deed {vx : Nat → Int32} {fx : Nat → Nat → Int32} {gx : Nat → Nat → Int64} {mi : Nat → Int32} {fm : Nat → Nat → Int32} (h : REL3 vx fx mi fm) (hk : ∀ i, i < 8 → fx 33 i = 0 ∨ fx 33 i = 1) {r r2 : Int32} {v : Nat → Int32} {f : Nat → Nat → Int32} {g : Nat → Nat → Int64} {mi2 : Nat → Int32} {fm2 : Nat → Nat → Int32} {p1 p2 : Int32} (hx : (r, v, f, g) = xs_deed vx fx gx p1 p2) (hm : (r2, mi2, fm2) = ms_deed mi fm p1 p2) : REL3 v f mi2 fm2 ∧ r = r2 := by
  obtain ⟨_, b⟩ := r2_deed h.1 hk hx hm
  have e1 : v = (xs_deed vx fx gx p1 p2).2.1 := congrArg (fun o => o.2.1) hx
  have e2 : f = (xs_deed vx fx gx p1 p2).2.2.1 := congrArg (fun o => o.2.2.1) hx
  have e4 : mi2 = (ms_deed mi fm p1 p2).2.1 := congrArg (fun o => o.2.1) hm
  have e5 : fm2 = (ms_deed mi fm p1 p2).2.2 := congrArg (fun o => o.2.2) hm
  refine ⟨?_, b⟩
  rw [e1, e2, e4, e5]
  exact h
theorem r3_early {vx : Nat → Int32} {fx : Nat → Nat → Int32} {gx : Nat → Nat → Int64} {mi : Nat → Int32} {fm : Nat → Nat → Int32} (h : REL3 vx fx mi fm) (hk : ∀ i, i < 8 → fx 33 i = 0 ∨ fx 33 i = 1) {r r2 : Int32} {v : Nat → Int32} {f : Nat → Nat → Int32} {g : Nat → Nat → Int64} {mi2 : Nat → Int32} {fm2 : Nat → Nat → Int32} {p1 : Int32} (hx : (r, v, f, g) = xs_early vx fx gx p1) (hm : (r2, mi2, fm2) = ms_early mi fm p1) : REL3 v f mi2 fm2 ∧ r = r2 := by
  obtain ⟨_, b⟩ := r2_early h.1 hk hx hm
  have e1 : v = (xs_early vx fx gx p1).2.1 := congrArg (fun o => o.2.1) hx
  have e2 : f = (xs_early vx fx gx p1).2.2.1 := congrArg (fun o => o.2.2.1) hx
  have e4 : mi2 = (ms_early mi fm p1).2.1 := congrArg (fun o => o.2.1) hm
  have e5 : fm2 = (ms_early mi fm p1).2.2 := congrArg (fun o => o.2.2) hm
  refine ⟨?_, b⟩
  rw [e1, e2, e4, e5]
  exact h
theorem r3_blind {vx : Nat → Int32} {fx : Nat → Nat → Int32} {gx : Nat → Nat → Int64} {mi : Nat → Int32} {fm : Nat → Nat → Int32} (h : REL3 vx fx mi fm) (hk : ∀ i, i < 8 → fx 33 i = 0 ∨ fx 33 i = 1) {r r2 : Int32} {v : Nat → Int32} {f : Nat → Nat → Int32} {g : Nat → Nat → Int64} {mi2 : Nat → Int32} {fm2 : Nat → Nat → Int32} {p1 p2 : Int32} (hx : (r, v, f, g) = xs_blind vx fx gx p1 p2) (hm : (r2, mi2, fm2) = ms_blind mi fm p1 p2) : REL3 v f mi2 fm2 ∧ r = r2 := by
  obtain ⟨_, b⟩ := r2_blind h.1 hk hx hm
  have e1 : v = (xs_blind vx fx gx p1 p2).2.1 := congrArg (fun o => o.2.1) hx
  have e2 : f = (xs_blind vx fx gx p1 p2).2.2.1 := congrArg (fun o => o.2.2.1) hx
  have e4 : mi2 = (ms_blind mi fm p1 p2).2.1 := congrArg (fun o => o.2.1) hm
  have e5 : fm2 = (ms_blind mi fm p1 p2).2.2 := congrArg (fun o => o.2.2) hm
  refine ⟨?_, b⟩
  rw [e1, e2, e4, e5]
  exact h
theorem r3_fault {vx : Nat → Int32} {fx : Nat → Nat → Int32} {gx : Nat → Nat → Int64} {mi : Nat → Int32} {fm : Nat → Nat → Int32} (h : REL3 vx fx mi fm) {r r2 : Int32} {v : Nat → Int32} {f : Nat → Nat → Int32} {g : Nat → Nat → Int64} {mi2 : Nat → Int32} {fm2 : Nat → Nat → Int32} {p1 : Int32} (hx : (r, v, f, g) = xs_fault vx fx gx p1) (hm : (r2, mi2, fm2) = ms_fault mi fm p1) : REL3 v f mi2 fm2 ∧ r = r2 := by
  obtain ⟨_, b⟩ := r2_fault h.1 hx hm
  have e1 : v = (xs_fault vx fx gx p1).2.1 := congrArg (fun o => o.2.1) hx
  have e2 : f = (xs_fault vx fx gx p1).2.2.1 := congrArg (fun o => o.2.2.1) hx
  have e4 : mi2 = (ms_fault mi fm p1).2.1 := congrArg (fun o => o.2.1) hm
  have e5 : fm2 = (ms_fault mi fm p1).2.2 := congrArg (fun o => o.2.2) hm
  refine ⟨?_, b⟩
  rw [e1, e2, e4, e5]
  exact h
theorem r3_feed {vx : Nat → Int32} {fx : Nat → Nat → Int32} {gx : Nat → Nat → Int64} {mi : Nat → Int32} {fm : Nat → Nat → Int32} (h : REL3 vx fx mi fm) {r r2 : Int32} {v : Nat → Int32} {f : Nat → Nat → Int32} {g : Nat → Nat → Int64} {mi2 : Nat → Int32} {fm2 : Nat → Nat → Int32} {p1 p2 p3 p4 p5 : Int32} (hx : (r, v, f, g) = xs_feed vx fx gx p1 p2 p3 p4 p5) (hm : (r2, mi2, fm2) = ms_feed mi fm p1 p2 p3 p4 p5) : REL3 v f mi2 fm2 ∧ r = r2 := by
  obtain ⟨a, b⟩ := r2_feed h.1 hx hm
  have e1 : v = (xs_feed vx fx gx p1 p2 p3 p4 p5).2.1 := congrArg (fun o => o.2.1) hx
  have e2 : f = (xs_feed vx fx gx p1 p2 p3 p4 p5).2.2.1 := congrArg (fun o => o.2.2.1) hx
  have e4 : mi2 = (ms_feed mi fm p1 p2 p3 p4 p5).2.1 := congrArg (fun o => o.2.1) hm
  have e5 : fm2 = (ms_feed mi fm p1 p2 p3 p4 p5).2.2 := congrArg (fun o => o.2.2) hm
  refine ⟨⟨a, ?_, ?_, ?_, ?_, ?_, ?_⟩, b⟩
  · rw [e1, e4]
    exact h.2.1
  · rw [e4]
    exact h.2.2.1
  · rw [e2]
    exact h.2.2.2.1
  · rw [e1, e2]
    exact h.2.2.2.2.1
  · rw [e1, e2, e4, e5]
    exact h.2.2.2.2.2.1
  · rw [e1, e2]
    exact h.2.2.2.2.2.2
theorem r3_end {vx : Nat → Int32} {fx : Nat → Nat → Int32} {gx : Nat → Nat → Int64} {mi : Nat → Int32} {fm : Nat → Nat → Int32} (h : REL3 vx fx mi fm) {r r2 : Int32} {v : Nat → Int32} {f : Nat → Nat → Int32} {g : Nat → Nat → Int64} {mi2 : Nat → Int32} {fm2 : Nat → Nat → Int32} {p1 : Int32} (hx : (r, v, f, g) = xs_end vx fx gx p1) (hm : (r2, mi2, fm2) = ms_end mi fm p1) : REL3 v f mi2 fm2 ∧ r = r2 := by
  obtain ⟨a, b⟩ := r2_end h.1 hx hm
  have e1 : v = (xs_end vx fx gx p1).2.1 := congrArg (fun o => o.2.1) hx
  have e2 : f = (xs_end vx fx gx p1).2.2.1 := congrArg (fun o => o.2.2.1) hx
  have e4 : mi2 = (ms_end mi fm p1).2.1 := congrArg (fun o => o.2.1) hm
  have e5 : fm2 = (ms_end mi fm p1).2.2 := congrArg (fun o => o.2.2) hm
  refine ⟨⟨a, ?_, ?_, ?_, ?_, ?_, ?_⟩, b⟩
  · rw [e1, e4]
    exact h.2.1
  · rw [e4]
    exact h.2.2.1
  · rw [e2]
    exact h.2.2.2.1
  · rw [e1, e2]
    exact h.2.2.2.2.1
  · rw [e1, e2, e4, e5]
    exact h.2.2.2.2.2.1
  · rw [e1, e2]
    exact h.2.2.2.2.2.2
theorem r3_count {vx : Nat → Int32} {fx : Nat → Nat → Int32} {gx : Nat → Nat → Int64} {mi : Nat → Int32} {fm : Nat → Nat → Int32} (h : REL3 vx fx mi fm) {r r2 : Int32} {v : Nat → Int32} {f : Nat → Nat → Int32} {g : Nat → Nat → Int64} {mi2 : Nat → Int32} {fm2 : Nat → Nat → Int32} {p1 : Int32} (hx : (r, v, f, g) = xs_count vx fx gx p1) (hm : (r2, mi2, fm2) = ms_count mi fm p1) : REL3 v f mi2 fm2 ∧ r = r2 := by
  have e1 : v = (xs_count vx fx gx p1).2.1 := congrArg (fun o => o.2.1) hx
  have e2 : f = (xs_count vx fx gx p1).2.2.1 := congrArg (fun o => o.2.2.1) hx
  have e4 : mi2 = (ms_count mi fm p1).2.1 := congrArg (fun o => o.2.1) hm
  have e5 : fm2 = (ms_count mi fm p1).2.2 := congrArg (fun o => o.2.2) hm
  refine ⟨by rw [e1, e2, e4, e5]; exact h, ?_⟩
  have e0 : r = fX11_count (vx 0) (vx 11) (vx 12) (vx 13) (vx 14) (vx 16) (vx 17) (vx 18) (vx 19) (vx 20) (vx 10) p1 := congrArg (fun o => o.1) hx
  have e3 : r2 = fX12_count mi p1 := congrArg (fun o => o.1) hm
  obtain ⟨⟨⟨⟨n, _, c10, c26, _⟩, _⟩, ⟨⟨w1, _, _, w4, w5, w6, w7⟩, ⟨m, rr, d, hm6, hr, hd, a1, a2, a3, a4, a5, a6, _⟩, _⟩, _⟩, ⟨g1, g2⟩, _, _, _, ⟨o1, _⟩, _⟩ := h
  rw [e0, e3, w1, g1, g2, w4, w6, w7, a1, a3, a5, c10, o1, ← a2, ← a4, ← a6, ← c26]
  unfold fX11_count fX12_count
  rfl
theorem r3_octet {vx : Nat → Int32} {fx : Nat → Nat → Int32} {gx : Nat → Nat → Int64} {mi : Nat → Int32} {fm : Nat → Nat → Int32} (h : REL3 vx fx mi fm) (h0 : 0 ≤ (vx 0).toInt ∧ (vx 0).toInt ≤ 72) {r r2 : Int32} {v : Nat → Int32} {f : Nat → Nat → Int32} {g : Nat → Nat → Int64} {mi2 : Nat → Int32} {fm2 : Nat → Nat → Int32} {p1 : Int32} (hx : (r, v, f, g) = xs_octet vx fx gx p1) (hm : (r2, mi2, fm2) = ms_octet mi fm p1) : REL3 v f mi2 fm2 ∧ r = r2 := by
  have e1 : v = (xs_octet vx fx gx p1).2.1 := congrArg (fun o => o.2.1) hx
  have e2 : f = (xs_octet vx fx gx p1).2.2.1 := congrArg (fun o => o.2.2.1) hx
  have e4 : mi2 = (ms_octet mi fm p1).2.1 := congrArg (fun o => o.2.1) hm
  have e5 : fm2 = (ms_octet mi fm p1).2.2 := congrArg (fun o => o.2.2) hm
  refine ⟨by rw [e1, e2, e4, e5]; exact h, ?_⟩
  have e0 : r = fX11_octet (vx 0) (fx 21) p1 := congrArg (fun o => o.1) hx
  have e3 : r2 = fX12_octet mi (fm 23) p1 := congrArg (fun o => o.1) hm
  obtain ⟨o1, o2⟩ := h.2.2.2.2.2.1
  have k1 : (1 : Int32).toInt = 1 := by decide
  have e9 : (mi 56 - (1 : Int32)).toInt = (vx 0).toInt - 1 := by
    have q := gi_subI (z := mi 56 - (1 : Int32)) rfl (by rw [k1, ← o1]; omega) (by rw [k1, ← o1]; omega)
    rw [q, k1, o1]
  rw [e0, e3]
  unfold fX12_octet
  rw [cal_b, dr_in, z64, Int32.toInt_toInt64, e9]
  unfold fX11_octet
  by_cases c : 0 ≤ p1.toInt ∧ p1.toInt ≤ (vx 0).toInt - 1
  · have c1 : ¬ p1 < 0 := fun q => absurd (i32lt.mp q) (by rw [z32]; omega)
    have c2 : p1 < vx 0 := i32lt.mpr (by omega)
    have c3 := clN c.1
    rw [if_pos c, if_neg (by decide : ¬ (1 : Int32) = 0), if_neg c1, if_pos c2]
    exact o2 _ (by omega)
  · rw [if_neg c, if_pos rfl]
    by_cases c1 : p1 < 0
    · rw [if_pos c1]
      rfl
    · have c4 : ¬ p1.toInt < 0 := fun q => c1 (i32lt.mpr (by rw [z32]; exact q))
      rw [if_neg c1, if_neg (show ¬ p1 < vx 0 from fun q => absurd (i32lt.mp q) (by omega))]
      rfl
theorem fg_trusts (cs ts hs pc : Int32) (xt : Nat → Int32) (p1 p2 : Int32) : ((fX11_trusts cs ts hs pc xt p1 p2).2.1 = 0 ∧ (fX11_trusts cs ts hs pc xt p1 p2).2.2.2.1 = 0) ∨ (fX11_trusts cs ts hs pc xt p1 p2).2 = (cs, ts, hs, xt) := by
  unfold fX11_trusts bfX11_trusts_18
  repeat' (first | exact Or.inr rfl | exact Or.inl ⟨rfl, rfl⟩ | rw [cal_b] | split)
theorem fg_strikes (cs ts hs pc rc : Int32) (xp xs : Nat → Int32) (p1 : Int32) : ((fX11_strikes cs ts hs pc rc xp xs p1).2.1 = 0 ∧ (fX11_strikes cs ts hs pc rc xp xs p1).2.2.2.1 = 0) ∨ (fX11_strikes cs ts hs pc rc xp xs p1).2 = (cs, ts, hs, xs) := by
  unfold fX11_strikes
  repeat' (first | exact Or.inr rfl | exact Or.inl ⟨rfl, rfl⟩ | rw [cal_b] | split)
theorem fg_moon (cs ts hs mo hm ms mp : Int32) (p1 p2 : Int32) : ((fX11_moon cs ts hs mo hm ms mp p1 p2).2.1 = 0 ∧ (fX11_moon cs ts hs mo hm ms mp p1 p2).2.2.2.1 = 0) ∨ (fX11_moon cs ts hs mo hm ms mp p1 p2).2 = (cs, ts, hs, hm, ms, mp) := by
  unfold fX11_moon bfX11_moon_32
  repeat' (first | exact Or.inr rfl | exact Or.inl ⟨rfl, rfl⟩ | rw [cal_b] | split)
theorem fg_reports (cs ts hs mo pc rc : Int32) (xp xk xm xd xn xs : Nat → Int32) (p1 p2 p3 p4 p5 : Int32) : ((fX11_reports cs ts hs mo pc rc xp xk xm xd xn xs p1 p2 p3 p4 p5).2.1 = 0 ∧ (fX11_reports cs ts hs mo pc rc xp xk xm xd xn xs p1 p2 p3 p4 p5).2.2.2.1 = 0) ∨ (fX11_reports cs ts hs mo pc rc xp xk xm xd xn xs p1 p2 p3 p4 p5).2 = (cs, ts, hs, rc, xp, xk, xm, xd, xn, xs) := by
  unfold fX11_reports bfX11_reports_39 bfX11_reports_40 bfX11_reports_67
  repeat' (first | exact Or.inr rfl | exact Or.inl ⟨rfl, rfl⟩ | rw [cal_b] | split)
theorem r3_trusts {vx : Nat → Int32} {fx : Nat → Nat → Int32} {gx : Nat → Nat → Int64} {mi : Nat → Int32} {fm : Nat → Nat → Int32} (h : REL3 vx fx mi fm) {r r2 : Int32} {v : Nat → Int32} {f : Nat → Nat → Int32} {g : Nat → Nat → Int64} {mi2 : Nat → Int32} {fm2 : Nat → Nat → Int32} {p1 p2 : Int32} (hx : (r, v, f, g) = xs_trusts vx fx gx p1 p2) (hm : (r2, mi2, fm2) = ms_trusts mi fm p1 p2) : REL3 v f mi2 fm2 ∧ r = r2 := by
  obtain ⟨a, b⟩ := r2_trusts h.1 hx hm
  have e1 : v = (xs_trusts vx fx gx p1 p2).2.1 := congrArg (fun o => o.2.1) hx
  have e2 : f = (xs_trusts vx fx gx p1 p2).2.2.1 := congrArg (fun o => o.2.2.1) hx
  have e4 : mi2 = (ms_trusts mi fm p1 p2).2.1 := congrArg (fun o => o.2.1) hm
  have e5 : fm2 = (ms_trusts mi fm p1 p2).2.2 := congrArg (fun o => o.2.2) hm
  have hc : CIx v f ∧ HIx v f := by
    obtain ⟨O, hO⟩ : ∃ O, O = fX11_trusts (vx 1) (vx 3) (vx 4) (vx 18) (fx 23) p1 p2 := ⟨_, rfl⟩
    have q := fg_trusts (vx 1) (vx 3) (vx 4) (vx 18) (fx 23) p1 p2
    rw [← hO] at q
    have e6 : (xs_trusts vx fx gx p1 p2) = xt_trusts vx fx gx O := by
      rw [hO]
      rfl
    rw [e1, e2, e6]
    rcases q with ⟨q1, q2⟩ | q
    · exact ⟨⟨h.2.2.2.2.1.1, Or.inl q1⟩, Or.inl q2⟩
    · obtain ⟨o1, o2⟩ := O
      have q : o2 = _ := q
      subst q
      exact ⟨h.2.2.2.2.1, h.2.2.2.2.2.2⟩
  refine ⟨⟨a, ?_, ?_, ?_, hc.1, ?_, hc.2⟩, b⟩
  · rw [e1, e4]
    exact h.2.1
  · rw [e4]
    exact h.2.2.1
  · rw [e2]
    exact h.2.2.2.1
  · rw [e1, e2, e4, e5]
    exact h.2.2.2.2.2.1
theorem r3_strikes {vx : Nat → Int32} {fx : Nat → Nat → Int32} {gx : Nat → Nat → Int64} {mi : Nat → Int32} {fm : Nat → Nat → Int32} (h : REL3 vx fx mi fm) {r r2 : Int32} {v : Nat → Int32} {f : Nat → Nat → Int32} {g : Nat → Nat → Int64} {mi2 : Nat → Int32} {fm2 : Nat → Nat → Int32} {p1 : Int32} (hx : (r, v, f, g) = xs_strikes vx fx gx p1) (hm : (r2, mi2, fm2) = ms_strikes mi fm p1) : REL3 v f mi2 fm2 ∧ r = r2 := by
  obtain ⟨a, b⟩ := r2_strikes h.1 hx hm
  have e1 : v = (xs_strikes vx fx gx p1).2.1 := congrArg (fun o => o.2.1) hx
  have e2 : f = (xs_strikes vx fx gx p1).2.2.1 := congrArg (fun o => o.2.2.1) hx
  have e4 : mi2 = (ms_strikes mi fm p1).2.1 := congrArg (fun o => o.2.1) hm
  have e5 : fm2 = (ms_strikes mi fm p1).2.2 := congrArg (fun o => o.2.2) hm
  have hc : CIx v f ∧ HIx v f := by
    obtain ⟨O, hO⟩ : ∃ O, O = fX11_strikes (vx 1) (vx 3) (vx 4) (vx 18) (vx 19) (fx 24) (fx 29) p1 := ⟨_, rfl⟩
    have q := fg_strikes (vx 1) (vx 3) (vx 4) (vx 18) (vx 19) (fx 24) (fx 29) p1
    rw [← hO] at q
    have e6 : (xs_strikes vx fx gx p1) = xt_strikes vx fx gx O := by
      rw [hO]
      rfl
    rw [e1, e2, e6]
    rcases q with ⟨q1, q2⟩ | q
    · exact ⟨⟨h.2.2.2.2.1.1, Or.inl q1⟩, Or.inl q2⟩
    · obtain ⟨o1, o2⟩ := O
      have q : o2 = _ := q
      subst q
      exact ⟨h.2.2.2.2.1, h.2.2.2.2.2.2⟩
  refine ⟨⟨a, ?_, ?_, ?_, hc.1, ?_, hc.2⟩, b⟩
  · rw [e1, e4]
    exact h.2.1
  · rw [e4]
    exact h.2.2.1
  · rw [e2]
    exact h.2.2.2.1
  · rw [e1, e2, e4, e5]
    exact h.2.2.2.2.2.1
theorem r3_moon {vx : Nat → Int32} {fx : Nat → Nat → Int32} {gx : Nat → Nat → Int64} {mi : Nat → Int32} {fm : Nat → Nat → Int32} (h : REL3 vx fx mi fm) {r r2 : Int32} {v : Nat → Int32} {f : Nat → Nat → Int32} {g : Nat → Nat → Int64} {mi2 : Nat → Int32} {fm2 : Nat → Nat → Int32} {p1 p2 : Int32} (hx : (r, v, f, g) = xs_moon vx fx gx p1 p2) (hm : (r2, mi2, fm2) = ms_moon mi fm p1 p2) : REL3 v f mi2 fm2 ∧ r = r2 := by
  obtain ⟨a, b⟩ := r2_moon h.1 hx hm
  have e1 : v = (xs_moon vx fx gx p1 p2).2.1 := congrArg (fun o => o.2.1) hx
  have e2 : f = (xs_moon vx fx gx p1 p2).2.2.1 := congrArg (fun o => o.2.2.1) hx
  have e4 : mi2 = (ms_moon mi fm p1 p2).2.1 := congrArg (fun o => o.2.1) hm
  have e5 : fm2 = (ms_moon mi fm p1 p2).2.2 := congrArg (fun o => o.2.2) hm
  have hc : CIx v f ∧ HIx v f := by
    obtain ⟨O, hO⟩ : ∃ O, O = fX11_moon (vx 1) (vx 3) (vx 4) (vx 11) (vx 15) (vx 16) (vx 17) p1 p2 := ⟨_, rfl⟩
    have q := fg_moon (vx 1) (vx 3) (vx 4) (vx 11) (vx 15) (vx 16) (vx 17) p1 p2
    rw [← hO] at q
    have e6 : (xs_moon vx fx gx p1 p2) = xt_moon vx fx gx O := by
      rw [hO]
      rfl
    rw [e1, e2, e6]
    rcases q with ⟨q1, q2⟩ | q
    · exact ⟨⟨h.2.2.2.2.1.1, Or.inl q1⟩, Or.inl q2⟩
    · obtain ⟨o1, o2⟩ := O
      have q : o2 = _ := q
      subst q
      exact ⟨h.2.2.2.2.1, h.2.2.2.2.2.2⟩
  refine ⟨⟨a, ?_, ?_, ?_, hc.1, ?_, hc.2⟩, b⟩
  · rw [e1, e4]
    exact h.2.1
  · rw [e4]
    exact h.2.2.1
  · rw [e2]
    exact h.2.2.2.1
  · rw [e1, e2, e4, e5]
    exact h.2.2.2.2.2.1
theorem r3_reports {vx : Nat → Int32} {fx : Nat → Nat → Int32} {gx : Nat → Nat → Int64} {mi : Nat → Int32} {fm : Nat → Nat → Int32} (h : REL3 vx fx mi fm) {r r2 : Int32} {v : Nat → Int32} {f : Nat → Nat → Int32} {g : Nat → Nat → Int64} {mi2 : Nat → Int32} {fm2 : Nat → Nat → Int32} {p1 p2 p3 p4 p5 : Int32} (hx : (r, v, f, g) = xs_reports vx fx gx p1 p2 p3 p4 p5) (hm : (r2, mi2, fm2) = ms_reports mi fm p1 p2 p3 p4 p5) : REL3 v f mi2 fm2 ∧ r = r2 := by
  obtain ⟨a, b⟩ := r2_reports h.1 hx hm
  have e1 : v = (xs_reports vx fx gx p1 p2 p3 p4 p5).2.1 := congrArg (fun o => o.2.1) hx
  have e2 : f = (xs_reports vx fx gx p1 p2 p3 p4 p5).2.2.1 := congrArg (fun o => o.2.2.1) hx
  have e4 : mi2 = (ms_reports mi fm p1 p2 p3 p4 p5).2.1 := congrArg (fun o => o.2.1) hm
  have e5 : fm2 = (ms_reports mi fm p1 p2 p3 p4 p5).2.2 := congrArg (fun o => o.2.2) hm
  have hc : CIx v f ∧ HIx v f := by
    obtain ⟨O, hO⟩ : ∃ O, O = fX11_reports (vx 1) (vx 3) (vx 4) (vx 11) (vx 18) (vx 19) (fx 24) (fx 25) (fx 26) (fx 27) (fx 28) (fx 29) p1 p2 p3 p4 p5 := ⟨_, rfl⟩
    have q := fg_reports (vx 1) (vx 3) (vx 4) (vx 11) (vx 18) (vx 19) (fx 24) (fx 25) (fx 26) (fx 27) (fx 28) (fx 29) p1 p2 p3 p4 p5
    rw [← hO] at q
    have e6 : (xs_reports vx fx gx p1 p2 p3 p4 p5) = xt_reports vx fx gx O := by
      rw [hO]
      rfl
    rw [e1, e2, e6]
    rcases q with ⟨q1, q2⟩ | q
    · exact ⟨⟨h.2.2.2.2.1.1, Or.inl q1⟩, Or.inl q2⟩
    · obtain ⟨o1, o2⟩ := O
      have q : o2 = _ := q
      subst q
      exact ⟨h.2.2.2.2.1, h.2.2.2.2.2.2⟩
  refine ⟨⟨a, ?_, ?_, ?_, hc.1, ?_, hc.2⟩, b⟩
  · rw [e1, e4]
    exact h.2.1
  · rw [e4]
    exact h.2.2.1
  · rw [e2]
    exact h.2.2.2.1
  · rw [e1, e2, e4, e5]
    exact h.2.2.2.2.2.1
