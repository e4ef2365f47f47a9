set_option maxRecDepth 100000 in
theorem r3_fl {vx : Nat → Int32} {fx : Nat → Nat → Int32} {gx : Nat → Nat → Int64} {mi : Nat → Int32} {fm : Nat → Nat → Int32} (h : REL2 vx fx mi fm) (hb4 : mi 4 = 0 ∨ mi 4 = 1) (hbs : ∀ i, i < 24 → fm 4 i = 0 ∨ fm 4 i = 1) {r r2 : Int32} {v : Nat → Int32} {f : Nat → Nat → Int32} {g : Nat → Nat → Int64} {mi2 : Nat → Int32} {fm2 : Nat → Nat → Int32} (hx : (r, v, f, g) = xs_almanac vx fx gx) (hm : (r2, mi2, fm2) = ms_almanac mi fm) (h12 : vx 12 = mi 1) (h13 : vx 13 = mi 2) : v 12 = mi2 1 ∧ v 13 = mi2 2 := by
  obtain ⟨⟨n, hn, h10, h26, hT⟩, -⟩ := h.1
  have hDD := h.2
  unfold xs_almanac at hx
  unfold ms_almanac at hm
  rw [h10] at hx
  obtain ⟨O, hO⟩ : ∃ O, O = fX11_almanac (vx 1) (vx 3) (vx 4) (vx 7) (vx 8) (nI n) (fx 0) (fx 46) (fx 47) (fx 48) (fx 49) (fx 50) (fx 51) (fx 52) (fx 53) (fx 54) (fx 55) (fx 56) (fx 57) := ⟨_, rfl⟩
  obtain ⟨U, hU⟩ : ∃ U, U = fX12_almanac mi (fm 13) (fm 12) (fm 0) (fm 1) (fm 2) (fm 3) (fm 5) (fm 6) (fm 7) (fm 8) (fm 9) (fm 10) (fm 11) (fm 4) := ⟨_, rfl⟩
  rw [← hO] at hx
  rw [← hU] at hm
  unfold mt_almanac at hm
  have d2 := congrArg (fun o => o.2.1) hm
  have d3 := congrArg (fun o => o.2.2) hm
  dsimp only at d2 d3
  unfold xt_almanac at hx
  by_cases h0 : O.2.2.2.2.1 = 0
  · obtain ⟨-, -, -, -, -, hN9⟩ := alm_core hn hT h26 hO hU
    rw [if_pos h0] at hx
    have e2 := congrArg (fun o => o.2.1) hx
    have e3 := congrArg (fun o => o.2.2.1) hx
    dsimp only at e2 e3
    subst e2 e3 d2 d3
    exact ⟨(hN9 h0).1.1.2.1, (hN9 h0).1.1.2.2.1⟩
  · obtain ⟨k, fu, mi9, t9, l9, a1, a2, a3, a4, a5, b1, b2, b3, b4, s9, ek, ef, u0, u1, u2, u3, u4, u5, u6, u7, u8, u9, w0, w1, w2, w3, w4, w5, w6, w7, w8, w9, w10, w11⟩ := alm_fail hn hT h26 hO hU h0
    have hK := kp_facts (mvk_all hb4 hbs ek)
    have hR := mvr_all ef
    obtain ⟨k0, k1, k2, k3, k4, k5, k6, k7, k8, k9, y0, y1, y2, y3, y4, y5, y6, y7, y8, y9, y10, y11⟩ := hK
    obtain ⟨r0, r1, r2, r3, r4, r5, r6, r7, r8, r9, z0, z1, z2, z3, z4, z5, z6, z7, z8, z9, z10, z11⟩ := hR
    rw [if_neg h0] at hx
    have e2 := congrArg (fun o => o.2.1) hx
    have e3 := congrArg (fun o => o.2.2.1) hx
    dsimp only at e2 e3
    subst e2 e3 d2 d3
    have n4 : U.2.2.2.2.2.1 = mi 4 := by
      rw [u4, r4, k4]
      rcases hb4 with q | q
      · rw [q]
        exact if_neg (by decide)
      · rw [q]
        exact if_pos rfl
    have nst : ∀ i, i < 24 → U.2.2.2.2.2.2.2.2.2.2.2.2.2.2.2.2.2.2.2.2.2.2.2.2.2.2.2.2.2.2.2.2.2 i = fm 4 i := by
      intro i hi
      rw [w11, z11 i hi, y11 i hi]
      rcases hbs i hi with q | q
      · rw [q]
        exact if_neg (by decide)
      · rw [q]
        exact if_pos rfl
    exact ⟨h12.trans (u1.trans (r1.trans k1)).symm, h13.trans (u2.trans (r2.trans k2)).symm⟩
theorem fg_almanac (cs ts hs tk st n : Int32) (bt c0 c1 c2 c3 c4 c5 c6 c7 c8 c9 c10 c11 : Nat → Int32) : ((fX11_almanac cs ts hs tk st n bt c0 c1 c2 c3 c4 c5 c6 c7 c8 c9 c10 c11).2.2.2.2.1 = 0 → (fX11_almanac cs ts hs tk st n bt c0 c1 c2 c3 c4 c5 c6 c7 c8 c9 c10 c11).2.1 = 0 ∧ (fX11_almanac cs ts hs tk st n bt c0 c1 c2 c3 c4 c5 c6 c7 c8 c9 c10 c11).2.2.2.1 = 0) ∧ (¬ (fX11_almanac cs ts hs tk st n bt c0 c1 c2 c3 c4 c5 c6 c7 c8 c9 c10 c11).2.2.2.2.1 = 0 → (fX11_almanac cs ts hs tk st n bt c0 c1 c2 c3 c4 c5 c6 c7 c8 c9 c10 c11).2.1 = cs ∧ (fX11_almanac cs ts hs tk st n bt c0 c1 c2 c3 c4 c5 c6 c7 c8 c9 c10 c11).2.2.2.1 = hs) := by
  obtain ⟨O, hO⟩ : ∃ O, O = fX11_almanac cs ts hs tk st n bt c0 c1 c2 c3 c4 c5 c6 c7 c8 c9 c10 c11 := ⟨_, rfl⟩
  rw [← hO]
  unfold fX11_almanac at hO
  obtain ⟨o1, e1, hO⟩ := cal_out hO
  by_cases c : o1.1 = 0
  · rw [if_pos c] at hO
    obtain ⟨o2, e2, hO⟩ := cal_out hO
    have e2 : o2 = ((0 : Int32), (0 : Int32), (0 : Int32)) := e2
    subst e2
    subst hO
    exact ⟨fun _ => ⟨rfl, rfl⟩, fun q => absurd c q⟩
  · rw [if_neg c] at hO
    subst hO
    exact ⟨fun q => absurd q c, fun _ => ⟨rfl, rfl⟩⟩
theorem r3_almanac {vx : Nat → Int32} {fx : Nat → Nat → Int32} {gx : Nat → Nat → Int64} {mi : Nat → Int32} {fm : Nat → Nat → Int32} (h : REL3 vx fx mi fm) (hb4 : mi 4 = 0 ∨ mi 4 = 1) (hbs : ∀ i, i < 24 → fm 4 i = 0 ∨ fm 4 i = 1) {r r2 : Int32} {v : Nat → Int32} {f : Nat → Nat → Int32} {g : Nat → Nat → Int64} {mi2 : Nat → Int32} {fm2 : Nat → Nat → Int32} (hx : (r, v, f, g) = xs_almanac vx fx gx) (hm : (r2, mi2, fm2) = ms_almanac mi fm) : REL3 v f mi2 fm2 ∧ r = r2 := by
  obtain ⟨a, b⟩ := r2_almanac h.1 hb4 hbs hx hm
  have hFL := r3_fl h.1 hb4 hbs hx hm h.2.1.1 h.2.1.2
  have e4 : mi2 = (ms_almanac mi fm).2.1 := congrArg (fun o => o.2.1) hm
  have e5 : fm2 = (ms_almanac mi fm).2.2 := congrArg (fun o => o.2.2) hm
  have hs := h.2.2.2
  obtain ⟨hZ, hC, hO3, hH⟩ := hs
  obtain ⟨O, hO⟩ : ∃ O, O = fX11_almanac (vx 1) (vx 3) (vx 4) (vx 7) (vx 8) (vx 10) (fx 0) (fx 46) (fx 47) (fx 48) (fx 49) (fx 50) (fx 51) (fx 52) (fx 53) (fx 54) (fx 55) (fx 56) (fx 57) := ⟨_, rfl⟩
  have q := fg_almanac (vx 1) (vx 3) (vx 4) (vx 7) (vx 8) (vx 10) (fx 0) (fx 46) (fx 47) (fx 48) (fx 49) (fx 50) (fx 51) (fx 52) (fx 53) (fx 54) (fx 55) (fx 56) (fx 57)
  rw [← hO] at q
  have hx : (r, v, f, g) = xt_almanac vx fx gx O := by
    rw [hx, hO]
    rfl
  unfold xt_almanac at hx
  by_cases c : O.2.2.2.2.1 = 0
  · rw [if_pos c] at hx
    obtain ⟨q1, q2⟩ := q.1 c
    have e1 := congrArg (fun o => o.2.1) hx
    have e2 := congrArg (fun o => o.2.2.1) hx
    dsimp only at e1 e2
    subst e1 e2
    refine ⟨⟨a, hFL, ?_, hZ, ⟨hC.1, Or.inl q1⟩, ?_, Or.inl q2⟩, b⟩
    · rw [e4]
      exact h.2.2.1
    · rw [e4, e5]
      exact hO3
  · rw [if_neg c] at hx
    obtain ⟨q1, q2⟩ := q.2 c
    have e1 := congrArg (fun o => o.2.1) hx
    have e2 := congrArg (fun o => o.2.2.1) hx
    dsimp only at e1 e2
    rw [q1, q2] at e1
    subst e1 e2
    refine ⟨⟨a, hFL, ?_, hZ, hC, ?_, hH⟩, b⟩
    · rw [e4]
      exact h.2.2.1
    · rw [e4, e5]
      exact hO3
