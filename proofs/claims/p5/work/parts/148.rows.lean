theorem r3_judged {vx : Nat → Int32} {fx : Nat → Nat → Int32} {gx : Nat → Nat → Int64} {mi : Nat → Int32} {fm : Nat → Nat → Int32} (hM : MIp mi fm) (h : REL3 vx fx mi fm) {r r2 : Int32} {v : Nat → Int32} {f : Nat → Nat → Int32} {g : Nat → Nat → Int64} {mi2 : Nat → Int32} {fm2 : Nat → Nat → Int32} {p1 p2 : Int32} (hx : (r, v, f, g) = xs_judged vx fx gx p1 p2) (hm : (r2, mi2, fm2) = ms_judged mi fm p1 p2) : REL3 v f mi2 fm2 ∧ r = r2 := by
  obtain ⟨O, hO⟩ : ∃ O, O = fX11_judged (vx 1) (vx 2) (vx 3) (vx 44) (vx 45) (fx 3) (fx 4) (gx 0) (fx 5) (vx 46) (vx 47) (vx 48) (fx 6) (fx 7) (vx 11) (vx 12) (vx 13) (vx 15) (vx 16) (vx 17) (vx 19) (fx 22) (fx 23) (fx 24) (fx 25) (fx 26) (fx 27) (fx 28) (fx 29) p1 p2 := ⟨_, rfl⟩
  obtain ⟨U, hU⟩ : ∃ U, U = fX12_judged mi (fm 14) (fm 15) (fm 16) (fm 17) (fm 18) (fm 19) (fm 4) (fm 7) (fm 2) (fm 5) (fm 6) (fm 3) (fm 0) (fm 1) p1 p2 := ⟨_, rfl⟩
  have hx : (r, v, f, g) = xt15 vx fx gx O := by
    rw [hx, hO]
    rfl
  have hm : (r2, mi2, fm2) = mt9 mi fm U := by
    rw [hm, hU]
    rfl
  obtain ⟨k1, k2⟩ := k9_of hm
  unfold fX11_judged bfX11_judged_16 at hO
  unfold fX12_judged bfX12_judged_16 at hU
  obtain ⟨o1, e1, hO⟩ := cal_out hO
  obtain ⟨u1, f1, hU⟩ := cal_out hU
  obtain ⟨a1, c1⟩ := tm_of h p1
  rw [a1, ← f1] at e1
  rw [← f1] at c1
  rcases c1 with c1 | ⟨c1, n3, _, _⟩
  · rw [if_pos (e1.trans c1)] at hO
    rw [if_pos c1] at hU
    refine e15 (s := -2) h hx ?_ k1 (by rw [hO]) (by rw [k2, hU])
    rw [hO]
    exact h.2.2.2.2.1
  rw [if_neg (by rw [e1, c1]; decide)] at hO
  rw [if_neg (by rw [c1]; decide)] at hU
  obtain ⟨o2, e2, hO⟩ := cal_out hO
  obtain ⟨u2, f2, hU⟩ := cal_out hU
  obtain ⟨a2, c2⟩ := rp_of h p2
  rw [a2, ← f2] at e2
  rw [← f2] at c2
  rcases c2 with c2 | ⟨c2, b4, b5⟩
  · rw [if_pos (e2.trans c2)] at hO
    rw [if_pos c2] at hU
    refine e15 (s := -2) h hx ?_ k1 (by rw [hO]) (by rw [k2, hU])
    rw [hO]
    exact h.2.2.2.2.1
  rw [if_neg (by rw [e2, c2]; decide)] at hO
  rw [if_neg (by rw [c2]; decide)] at hU
  obtain ⟨o3, e3, hO⟩ := cal_out hO
  obtain ⟨hCT, hCI⟩ := cq_of hM h n3 p1 e3
  obtain ⟨u3, f3, hU⟩ := cal_out hU
  obtain ⟨must, least, pin, ways, ve, row, rmn, g1, g2⟩ := qr_of hM h n3 mi (fun _ _ => rfl) ⟨rfl, rfl, rfl⟩ (fm 14) (fm 15) (fm 16) (fm 17) (fm 18) (fm 19) p1
  rw [g1] at f3
  refine e15 (s := nI ((aJ vx fx p1).2 p2.toNatClampNeg)) h hx ?_ k1 ?_ ?_
  · rw [hO]
    exact hCI
  · rw [hO]
    exact hCT.2.2.2.2.2.1 _ b4
  · rw [k2, hU, f3]
    exact g2.2.2.2.2.1 _ b4
theorem r3_taken {vx : Nat → Int32} {fx : Nat → Nat → Int32} {gx : Nat → Nat → Int64} {mi : Nat → Int32} {fm : Nat → Nat → Int32} (hM : MIp mi fm) (h : REL3 vx fx mi fm) {r r2 : Int32} {v : Nat → Int32} {f : Nat → Nat → Int32} {g : Nat → Nat → Int64} {mi2 : Nat → Int32} {fm2 : Nat → Nat → Int32} {p1 : Int32} (hx : (r, v, f, g) = xs_taken vx fx gx p1) (hm : (r2, mi2, fm2) = ms_taken mi fm p1) : REL3 v f mi2 fm2 ∧ r = r2 := by
  obtain ⟨O, hO⟩ : ∃ O, O = fX11_taken (vx 1) (vx 2) (vx 3) (vx 44) (vx 45) (fx 3) (fx 4) (gx 0) (fx 5) (vx 46) (vx 47) (vx 48) (fx 6) (fx 7) (vx 11) (vx 12) (vx 13) (vx 15) (vx 16) (vx 17) (vx 19) (fx 22) (fx 23) (fx 24) (fx 25) (fx 26) (fx 27) (fx 28) (fx 29) p1 := ⟨_, rfl⟩
  obtain ⟨U, hU⟩ : ∃ U, U = fX12_taken mi (fm 14) (fm 15) (fm 16) (fm 17) (fm 18) (fm 19) (fm 4) (fm 7) (fm 2) (fm 5) (fm 6) (fm 3) (fm 0) (fm 1) p1 := ⟨_, rfl⟩
  have hx : (r, v, f, g) = xt15 vx fx gx O := by
    rw [hx, hO]
    rfl
  have hm : (r2, mi2, fm2) = mt9 mi fm U := by
    rw [hm, hU]
    rfl
  obtain ⟨k1, k2⟩ := k9_of hm
  unfold fX11_taken bfX11_taken_24 at hO
  unfold fX12_taken  at hU
  obtain ⟨o1, e1, hO⟩ := cal_out hO
  obtain ⟨u1, f1, hU⟩ := cal_out hU
  obtain ⟨a1, c1⟩ := tm_of h p1
  rw [a1, ← f1] at e1
  rw [← f1] at c1
  rcases c1 with c1 | ⟨c1, n3, _, _⟩
  · rw [if_pos (e1.trans c1)] at hO
    rw [if_pos c1] at hU
    refine e15 (s := -2) h hx ?_ k1 (by rw [hO]) (by rw [k2, hU])
    rw [hO]
    exact h.2.2.2.2.1
  rw [if_neg (by rw [e1, c1]; decide)] at hO
  rw [if_neg (by rw [c1]; decide)] at hU
  obtain ⟨o2, e2, hO⟩ := cal_out hO
  obtain ⟨hCT, hCI⟩ := cq_of hM h n3 p1 e2
  obtain ⟨u2, f2, hU⟩ := cal_out hU
  obtain ⟨must, least, pin, ways, ve, row, rmn, g1, g2⟩ := qr_of hM h n3 mi (fun _ _ => rfl) ⟨rfl, rfl, rfl⟩ (fm 14) (fm 15) (fm 16) (fm 17) (fm 18) (fm 19) p1
  rw [g1] at f2
  obtain ⟨o3, e3, hO⟩ := cal_out hO
  obtain ⟨u3, f3, hU⟩ := cal_out hU
  obtain ⟨u4, f4, hU⟩ := cal_out hU
  have hb : o2.2.2.2.2.1 = u3 := by
    rw [f3, f2]
    exact tb_same hM h n3 (fun k hk => by rw [upd_ne (by omega), upd_ne (by omega)]) hCT.2.1 g2.2.2.2.2.1
  refine e15 (s := fJ6_bitCount_0f7a4 u3) h hx ?_ k1 ?_ ?_
  · rw [hO]
    exact hCI
  · rw [hO]
    show o3 = _
    rw [e3, hb]
  · rw [k2, hU]
    exact f4
theorem r3_begin {vx : Nat → Int32} {fx : Nat → Nat → Int32} {gx : Nat → Nat → Int64} {mi : Nat → Int32} {fm : Nat → Nat → Int32} (hM : MIp mi fm) (h : REL3 vx fx mi fm) {r r2 : Int32} {v : Nat → Int32} {f : Nat → Nat → Int32} {g : Nat → Nat → Int64} {mi2 : Nat → Int32} {fm2 : Nat → Nat → Int32} {p1 p2 : Int32} (hx : (r, v, f, g) = xs_begin vx fx gx p1 p2) (hm : (r2, mi2, fm2) = ms_begin mi fm p1 p2) : REL3 v f mi2 fm2 ∧ r = r2 := by
  obtain ⟨O, hO⟩ : ∃ O, O = fX11_begin (vx 1) (vx 2) (vx 3) (vx 44) (vx 45) (fx 3) (fx 4) (gx 0) (fx 5) (vx 46) (vx 47) (vx 48) (fx 6) (fx 7) (vx 11) (vx 12) (vx 13) (vx 15) (vx 16) (vx 17) (vx 19) (fx 22) (fx 23) (fx 24) (fx 25) (fx 26) (fx 27) (fx 28) (fx 29) p1 p2 := ⟨_, rfl⟩
  obtain ⟨U, hU⟩ : ∃ U, U = fX12_begin mi (fm 14) (fm 15) (fm 16) (fm 17) (fm 18) (fm 19) (fm 4) (fm 7) (fm 2) (fm 5) (fm 6) (fm 3) (fm 0) (fm 1) (fm 20) p1 p2 := ⟨_, rfl⟩
  have hx : (r, v, f, g) = xt15 vx fx gx O := by
    rw [hx, hO]
    rfl
  have hm : (r2, mi2, fm2) = mt10 mi fm U := by
    rw [hm, hU]
    rfl
  obtain ⟨k1, k2⟩ := k10_of hm
  unfold fX11_begin bfX11_begin_24 at hO
  unfold fX12_begin bfX12_begin_16 at hU
  obtain ⟨o1, e1, hO⟩ := cal_out hO
  obtain ⟨u1, f1, hU⟩ := cal_out hU
  obtain ⟨a1, c1⟩ := tm_of h p1
  rw [a1, ← f1] at e1
  rw [← f1] at c1
  rcases c1 with c1 | ⟨c1, n3, _, _⟩
  · rw [if_pos (e1.trans c1)] at hO
    rw [if_pos c1] at hU
    refine e15 (s := -2) h hx ?_ k1 (by rw [hO]) (by rw [k2, hU])
    rw [hO]
    exact h.2.2.2.2.1
  rw [if_neg (by rw [e1, c1]; decide)] at hO
  rw [if_neg (by rw [c1]; decide)] at hU
  obtain ⟨o2, e2, hO⟩ := cal_out hO
  obtain ⟨u2, f2, hU⟩ := cal_out hU
  obtain ⟨a2, c2⟩ := bg_of h n3 p2
  rw [a2, ← f2] at e2
  rw [← f2] at c2
  rcases c2 with c2 | ⟨c2, b4, b5⟩
  · rw [if_pos (e2.trans c2)] at hO
    rw [if_pos c2] at hU
    refine e15 (s := -2) h hx ?_ k1 (by rw [hO]) (by rw [k2, hU])
    rw [hO]
    exact h.2.2.2.2.1
  rw [if_neg (by rw [e2, c2]; decide)] at hO
  rw [if_neg (by rw [c2]; decide)] at hU
  obtain ⟨o3, e3, hO⟩ := cal_out hO
  obtain ⟨hCT, hCI⟩ := cq_of hM h n3 p1 e3
  obtain ⟨u3, f3, hU⟩ := cal_out hU
  obtain ⟨must, least, pin, ways, ve, row, of, rmn, g1, g2, g3⟩ := qo_of hM h n3 mi (fun _ _ => rfl) ⟨rfl, rfl, rfl⟩ (fm 14) (fm 15) (fm 16) (fm 17) (fm 18) (fm 19) (fm 20) p1
  rw [g1] at f3
  refine e15 (s := nI (29 * p2.toNatClampNeg + (ofs (aF vx) (aL vx) (aM vx) (aJ vx fx p1).1 p2.toNatClampNeg).1)) h hx ?_ k1 ?_ ?_
  · rw [hO]
    exact hCI
  · rw [hO]
    exact hCT.2.2.2.2.2.2.2.1 _ b4
  · rw [k2, hU, f3]
    exact g3 _ b4
theorem r3_lasts {vx : Nat → Int32} {fx : Nat → Nat → Int32} {gx : Nat → Nat → Int64} {mi : Nat → Int32} {fm : Nat → Nat → Int32} (hM : MIp mi fm) (h : REL3 vx fx mi fm) {r r2 : Int32} {v : Nat → Int32} {f : Nat → Nat → Int32} {g : Nat → Nat → Int64} {mi2 : Nat → Int32} {fm2 : Nat → Nat → Int32} {p1 p2 : Int32} (hx : (r, v, f, g) = xs_lasts vx fx gx p1 p2) (hm : (r2, mi2, fm2) = ms_lasts mi fm p1 p2) : REL3 v f mi2 fm2 ∧ r = r2 := by
  obtain ⟨O, hO⟩ : ∃ O, O = fX11_lasts (vx 1) (vx 2) (vx 3) (vx 44) (vx 45) (fx 3) (fx 4) (gx 0) (fx 5) (vx 46) (vx 47) (vx 48) (fx 6) (fx 7) (vx 11) (vx 12) (vx 13) (vx 15) (vx 16) (vx 17) (vx 19) (fx 22) (fx 23) (fx 24) (fx 25) (fx 26) (fx 27) (fx 28) (fx 29) p1 p2 := ⟨_, rfl⟩
  obtain ⟨U, hU⟩ : ∃ U, U = fX12_lasts mi (fm 14) (fm 15) (fm 16) (fm 17) (fm 18) (fm 19) (fm 4) (fm 7) (fm 2) (fm 5) (fm 6) (fm 3) (fm 0) (fm 1) (fm 20) p1 p2 := ⟨_, rfl⟩
  have hx : (r, v, f, g) = xt15 vx fx gx O := by
    rw [hx, hO]
    rfl
  have hm : (r2, mi2, fm2) = mt10 mi fm U := by
    rw [hm, hU]
    rfl
  obtain ⟨k1, k2⟩ := k10_of hm
  unfold fX11_lasts bfX11_lasts_26 at hO
  unfold fX12_lasts bfX12_lasts_16 at hU
  obtain ⟨o1, e1, hO⟩ := cal_out hO
  obtain ⟨u1, f1, hU⟩ := cal_out hU
  obtain ⟨a1, c1⟩ := tm_of h p1
  rw [a1, ← f1] at e1
  rw [← f1] at c1
  rcases c1 with c1 | ⟨c1, n3, _, _⟩
  · rw [if_pos (e1.trans c1)] at hO
    rw [if_pos c1] at hU
    refine e15 (s := -2) h hx ?_ k1 (by rw [hO]) (by rw [k2, hU])
    rw [hO]
    exact h.2.2.2.2.1
  rw [if_neg (by rw [e1, c1]; decide)] at hO
  rw [if_neg (by rw [c1]; decide)] at hU
  obtain ⟨o2, e2, hO⟩ := cal_out hO
  obtain ⟨u2, f2, hU⟩ := cal_out hU
  obtain ⟨a2, c2⟩ := mo_of h n3 p2
  rw [a2, ← f2] at e2
  rw [← f2] at c2
  rcases c2 with c2 | ⟨c2, b4, b5⟩
  · rw [if_pos (e2.trans c2)] at hO
    rw [if_pos c2] at hU
    refine e15 (s := -2) h hx ?_ k1 (by rw [hO]) (by rw [k2, hU])
    rw [hO]
    exact h.2.2.2.2.1
  rw [if_neg (by rw [e2, c2]; decide)] at hO
  rw [if_neg (by rw [c2]; decide)] at hU
  obtain ⟨o3, e3, hO⟩ := cal_out hO
  obtain ⟨hCT, hCI⟩ := cq_of hM h n3 p1 e3
  obtain ⟨u3, f3, hU⟩ := cal_out hU
  obtain ⟨must, least, pin, ways, ve, row, of, rmn, g1, g2, g3⟩ := qo_of hM h n3 mi (fun _ _ => rfl) ⟨rfl, rfl, rfl⟩ (fm 14) (fm 15) (fm 16) (fm 17) (fm 18) (fm 19) (fm 20) p1
  rw [g1] at f3
  obtain ⟨o4, e4, hO⟩ := cal_out hO
  have hp : (p2 + (1 : Int32)).toNatClampNeg = p2.toNatClampNeg + 1 := by
    obtain ⟨_, ⟨_, bm, _⟩, _⟩ := ad_of hM h n3
    rw [b5, nI_1, nI_clamp (by omega), nI_clamp (by omega)]
  refine e15 (s := nI (29 * (p2.toNatClampNeg + 1) + (ofs (aF vx) (aL vx) (aM vx) (aJ vx fx p1).1 (p2.toNatClampNeg + 1)).1) - nI (29 * p2.toNatClampNeg + (ofs (aF vx) (aL vx) (aM vx) (aJ vx fx p1).1 p2.toNatClampNeg).1)) h hx ?_ k1 ?_ ?_
  · rw [hO]
    exact hCI
  · rw [hO]
    show o4 = _
    rw [e4]
    unfold fX1_lengthOf
    rw [hp, hCT.2.2.2.2.2.2.2.1 _ (show p2.toNatClampNeg + 1 ≤ aM vx by omega), hCT.2.2.2.2.2.2.2.1 _ (show p2.toNatClampNeg ≤ aM vx by omega)]
  · rw [k2, hU, f3]
    show of (p2 + (1 : Int32)).toNatClampNeg - of p2.toNatClampNeg = _
    rw [hp, g3 _ (show p2.toNatClampNeg + 1 ≤ aM vx by omega), g3 _ (show p2.toNatClampNeg ≤ aM vx by omega)]
