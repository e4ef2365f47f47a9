theorem ofs_step {F L M : Nat} {ok : Nat → Nat → Bool} (m : Nat) : (ofs F L M ok (m + 1)).1 = (ofs F L M ok m).1 ∨ (ofs F L M ok (m + 1)).1 = (ofs F L M ok m).1 + 1 := by
  rw [ofs]
  split
  · exact Or.inr rfl
  · exact Or.inl rfl
theorem bg_facts {vx : Nat → Int32} {fx : Nat → Nat → Int32} {mi : Nat → Int32} {fm : Nat → Nat → Int32} (hM : MIp mi fm) (h : REL3 vx fx mi fm) (h3 : ¬ mi 3 = 0) (t : Int32) : (∀ m, m ≤ aM vx → aBg vx fx t m ≤ 30 * m) ∧ ∀ m, aBg vx fx t (m + 1) = aBg vx fx t m + 29 ∨ aBg vx fx t (m + 1) = aBg vx fx t m + 30 := by
  obtain ⟨_, ⟨b1, b2, b3, b4, b5, b6, b7, b8⟩, _⟩ := ad_of hM h h3
  refine ⟨fun m hm => ?_, fun m => ?_⟩
  · have q : (ofs (aF vx) (aL vx) (aM vx) (aJ vx fx t).1 m).1 ≤ m := (ofs_ok b4 b6 (jd_pos (M := aM vx) (hm := vx 15) (ms := vx 16) (mp := vx 17) (kd := nf (fx 25)) (mo := nf (fx 26)) (dy := nf (fx 27)) b3 b5 (aQL vx fx t)) m hm).2.1
    show 29 * m + (ofs (aF vx) (aL vx) (aM vx) (aJ vx fx t).1 m).1 ≤ 30 * m
    omega
  · have := ofs_step (F := aF vx) (L := aL vx) (M := aM vx) (ok := (aJ vx fx t).1) m
    show 29 * (m + 1) + _ = 29 * m + _ + 29 ∨ 29 * (m + 1) + _ = 29 * m + _ + 30
    omega
theorem i32_m1 (x : Nat) : nI (x + 1) + (-1 : Int32) = nI x := by
  rw [show (-1 : Int32) = - (1 : Int32) from rfl, ← Int32.sub_eq_add_neg, nI_pred]
theorem dy_eq {of bg : Nat → Int32} {b : Nat → Nat} {M m k : Nat} (hM : M ≤ 24) (ho : ∀ j, j ≤ M → of j = nI (b j)) (hb : ∀ j, j ≤ M → bg j = nI (b j)) (hs : b (m + 1) = b m + 29 ∨ b (m + 1) = b m + 30) (hbm : b m ≤ 2000) (hm : m + 1 ≤ M) (hk1 : 1 ≤ k) (hk : k ≤ 30) : fX12_dayBy of (nI m) (nI k) = bg (fX11_anchorOf (nI m) (nI k)).toNatClampNeg + fX11_offsetOf (nI k) := by
  have hl : nI (b (m + 1)) - nI (b m) = nI (b (m + 1) - b m) := pk_sub (by omega)
  unfold fX12_dayBy fX12_lengthBy fX11_anchorOf fX11_offsetOf bfX11_anchorOf_13 bfX11_offsetOf_13
  rw [cal_b, nI_1, nI_clamp (show m + 1 < 2 ^ 31 by omega), nI_clamp (show m < 2 ^ 31 by omega), ho (m + 1) hm, ho m (by omega), hl, show (30 : Int32) = nI 30 from rfl]
  by_cases c : k = 30
  · subst c
    rw [if_pos rfl, if_pos rfl, nI_clamp (show m + 1 < 2 ^ 31 by omega), hb (m + 1) hm]
    have e : (if nI (b (m + 1) - b m) < nI 30 then nI (b (m + 1) - b m) else nI 30) = nI (b (m + 1) - b m) := by
      rcases hs with q | q
      · rw [if_pos (nI_lt (by omega) (by omega))]
      · rw [if_neg (nI_nlt (by omega) (by omega)), show b (m + 1) - b m = 30 from by omega]
    obtain ⟨y, hy⟩ : ∃ y, b (m + 1) = y + 1 := ⟨b (m + 1) - 1, by omega⟩
    rw [e, nI_add, show b m + (b (m + 1) - b m) = b (m + 1) from by omega, hy, i32_m1, nI_pred]
  · have c2 : ¬ nI k = nI 30 := fun q => c ((nI_eq (by omega) (by omega)).1 q)
    rw [if_neg c2, if_neg c2, nI_clamp (show m < 2 ^ 31 by omega), hb m (by omega), if_neg (nI_nlt (by omega) (by omega))]
    obtain ⟨y, rfl⟩ : ∃ y, k = y + 1 := ⟨k - 1, by omega⟩
    rw [nI_add, nI_pred, nI_add, show b m + (y + 1) = (b m + y) + 1 from by omega, nI_pred]
theorem im_of (k : Int32) : fX12_isInMonth k = 0 ∨ (fX12_isInMonth k = 1 ∧ 1 ≤ k.toNatClampNeg ∧ k.toNatClampNeg ≤ 30 ∧ k = nI k.toNatClampNeg) := by
  unfold fX12_isInMonth
  rw [cal_b, dr_in, show (1 : Int64).toInt = 1 from by decide, show (30 : Int64).toInt = 30 from by decide]
  by_cases c : 1 ≤ k.toInt ∧ k.toInt ≤ 30
  · rw [if_pos c]
    have e := clN (x := k) (by omega)
    exact Or.inr ⟨rfl, by omega, by omega, e.1⟩
  · rw [if_neg c]
    exact Or.inl rfl
theorem hd_of {vx : Nat → Int32} {fx : Nat → Nat → Int32} {mi : Nat → Int32} {fm : Nat → Nat → Int32} (h : REL3 vx fx mi fm) (h3 : ¬ mi 3 = 0) (p k : Int32) : fX11_hasDate (vx 11) p k = if fX12_isMonth mi p = 0 then 0 else fX12_isInMonth k := by
  obtain ⟨a, c⟩ := mo_of h h3 p
  unfold fX11_hasDate bfX11_hasDate_33 bfX11_hasDate_34
  rw [cal_b, a]
  rcases c with c | ⟨c, _⟩
  · rw [c, if_pos rfl, if_pos rfl]
  · rw [c, if_neg (show ¬ (1 : Int32) = 0 by decide), if_neg (show ¬ (1 : Int32) = 0 by decide)]
    have k1 : (1 : Int32).toInt = 1 := by decide
    have k30 : (30 : Int32).toInt = 30 := by decide
    unfold fX12_isInMonth
    rw [cal_b, dr_in, show (1 : Int64).toInt = 1 from by decide, show (30 : Int64).toInt = 30 from by decide]
    by_cases c1 : k < 1
    · have q := i32lt.mp c1
      rw [k1] at q
      rw [if_pos c1, if_neg (by omega)]
    · have q : ¬ k.toInt < 1 := fun q => c1 (i32lt.mpr (by rw [k1]; exact q))
      rw [if_neg c1]
      by_cases c2 : 30 < k
      · have q2 := i32lt.mp c2
        rw [k30] at q2
        rw [if_pos c2, if_neg (by omega)]
      · have q2 : ¬ 30 < k.toInt := fun q => c2 (i32lt.mpr (by rw [k30]; exact q))
        rw [if_neg c2, if_pos (by omega)]
theorem r3_day {vx : Nat → Int32} {fx : Nat → Nat → Int32} {gx : Nat → Nat → Int64} {mi : Nat → Int32} {fm : Nat → Nat → Int32} (hM : MIp mi fm) (h : REL3 vx fx mi fm) {r r2 : Int32} {v : Nat → Int32} {f : Nat → Nat → Int32} {g : Nat → Nat → Int64} {mi2 : Nat → Int32} {fm2 : Nat → Nat → Int32} {p1 p2 p3 : Int32} (hx : (r, v, f, g) = xs_day vx fx gx p1 p2 p3) (hm : (r2, mi2, fm2) = ms_day mi fm p1 p2 p3) : REL3 v f mi2 fm2 ∧ r = r2 := by
  obtain ⟨O, hO⟩ : ∃ O, O = fX11_day (vx 1) (vx 2) (vx 3) (vx 44) (vx 45) (fx 3) (fx 4) (gx 0) (fx 5) (vx 46) (vx 47) (vx 48) (fx 6) (fx 7) (vx 11) (vx 12) (vx 13) (vx 15) (vx 16) (vx 17) (vx 19) (fx 22) (fx 23) (fx 24) (fx 25) (fx 26) (fx 27) (fx 28) (fx 29) p1 p2 p3 := ⟨_, rfl⟩
  obtain ⟨U, hU⟩ : ∃ U, U = fX12_day mi (fm 14) (fm 15) (fm 16) (fm 17) (fm 18) (fm 19) (fm 4) (fm 7) (fm 2) (fm 5) (fm 6) (fm 3) (fm 0) (fm 1) (fm 20) p1 p2 p3 := ⟨_, rfl⟩
  have hx : (r, v, f, g) = xt15 vx fx gx O := by
    rw [hx, hO]
    rfl
  have hm : (r2, mi2, fm2) = mt10 mi fm U := by
    rw [hm, hU]
    rfl
  obtain ⟨k1, k2⟩ := k10_of hm
  unfold fX11_day bfX11_day_17 at hO
  unfold fX12_day bfX12_day_23 at hU
  obtain ⟨o1, e1, hO⟩ := cal_out hO
  obtain ⟨u1, f1, hU⟩ := cal_out hU
  obtain ⟨a1, c1⟩ := tm_of h p1
  rw [a1, ← f1] at e1
  rw [← f1] at c1
  rcases c1 with c1 | ⟨c1, n3, _, _⟩
  · rw [if_pos (e1.trans c1)] at hO
    rw [if_pos c1] at hU
    refine e15 (s := -2) h hx ?_ k1 (by rw [hO]) (by rw [k2, hU])
    rw [hO]
    exact h.2.2.2.2.1
  rw [if_neg (by rw [e1, c1]; decide)] at hO
  rw [if_neg (by rw [c1]; decide)] at hU
  obtain ⟨o2, e2, hO⟩ := cal_out hO
  obtain ⟨u2, f2, hU⟩ := cal_out hU
  rw [hd_of h n3, ← f2] at e2
  obtain ⟨_, c2⟩ := mo_of h n3 p2
  rw [← f2] at c2
  rcases c2 with c2 | ⟨c2, b3, b4⟩
  · rw [if_pos c2] at e2
    rw [if_pos e2] at hO
    rw [if_pos c2] at hU
    refine e15 (s := -2) h hx ?_ k1 (by rw [hO]) (by rw [k2, hU])
    rw [hO]
    exact h.2.2.2.2.1
  rw [if_neg (by rw [c2]; decide)] at e2 hU
  obtain ⟨u3, f3, hU⟩ := cal_out hU
  have c3 := im_of p3
  rw [← f3] at c3 e2
  rcases c3 with c3 | ⟨c3, b5, b6, b7⟩
  · rw [if_pos (e2.trans c3)] at hO
    rw [if_pos c3] at hU
    refine e15 (s := -2) h hx ?_ k1 (by rw [hO]) (by rw [k2, hU])
    rw [hO]
    exact h.2.2.2.2.1
  rw [if_neg (by rw [e2, c3]; decide)] at hO
  rw [if_neg (by rw [c3]; decide)] at hU
  obtain ⟨o3, e3, hO⟩ := cal_out hO
  obtain ⟨hCT, hCI⟩ := cq_of hM h n3 p1 e3
  obtain ⟨u4, f4, hU⟩ := cal_out hU
  obtain ⟨must, least, pin, ways, ve, row, of, rmn, g1, g2, g3⟩ := qo_of hM h n3 mi (fun _ _ => rfl) ⟨rfl, rfl, rfl⟩ (fm 14) (fm 15) (fm 16) (fm 17) (fm 18) (fm 19) (fm 20) p1
  rw [g1] at f4
  obtain ⟨o4, e4, hO⟩ := cal_out hO
  obtain ⟨o5, e5, hO⟩ := cal_out hO
  obtain ⟨u5, f5, hU⟩ := cal_out hU
  obtain ⟨w1, w2⟩ := bg_facts hM h n3 p1
  obtain ⟨_, ⟨_, d2, _⟩, _⟩ := ad_of hM h n3
  have hd := dy_eq (of := of) (bg := o3.2.2.2.2.2.2.2.2.2.2.2.1) (b := aBg vx fx p1) (M := aM vx) (m := p2.toNatClampNeg) (k := p3.toNatClampNeg) d2 g3 hCT.2.2.2.2.2.2.2.1 (w2 _) (by have := w1 p2.toNatClampNeg (by omega); omega) b3 b5 b6
  rw [← b4, ← b7] at hd
  refine e15 (s := u5) h hx ?_ k1 ?_ ?_
  · rw [hO]
    exact hCI
  · rw [hO]
    show o3.2.2.2.2.2.2.2.2.2.2.2.1 o4.toNatClampNeg + o5 = _
    rw [e4, e5, f5, f4]
    exact hd.symm
  · rw [k2, hU]
theorem dd_of {vx : Nat → Int32} {fx : Nat → Nat → Int32} {mi : Nat → Int32} {fm : Nat → Nat → Int32} (h : REL3 vx fx mi fm) (p : Int32) : fX11_hasDeed (vx 20) p = fX12_isDeed mi p ∧ (fX12_isDeed mi p = 0 ∨ (fX12_isDeed mi p = 1 ∧ p = nI p.toNatClampNeg ∧ p.toNatClampNeg < 8 ∧ (fm 8 p.toNatClampNeg = fx 30 p.toNatClampNeg ∧ fm 9 p.toNatClampNeg = fx 31 p.toNatClampNeg ∧ fm 10 p.toNatClampNeg = fx 32 p.toNatClampNeg ∧ fm 11 p.toNatClampNeg = fx 33 p.toNatClampNeg) ∧ ∃ a b c : Nat, fx 30 p.toNatClampNeg = nI a ∧ fx 31 p.toNatClampNeg = nI b ∧ fx 32 p.toNatClampNeg = nI c ∧ a + 1 ≤ aM vx ∧ 1 ≤ b ∧ b ≤ 30 ∧ ((fx 33 p.toNatClampNeg = 0 ∧ a + c + 1 ≤ aM vx) ∨ (fx 33 p.toNatClampNeg = 1 ∧ c ≤ 600)))) := by
  have w1 : vx 11 = mi 0 := h.1.2.1.1.1
  obtain ⟨m1, m2, m3, m4⟩ := dat_M h.1.2
  have eM := clN (x := vx 11) (by rw [w1]; omega)
  have eM2 : (aM vx : Int) = (mi 0).toInt := by rw [← w1]; exact eM.2
  obtain ⟨⟨_, ⟨_, ⟨m, r, d, hm6, hr, hd, a1, a2, a3, a4, a5, a6, _, _, _, hE3, hRg⟩, _⟩, _⟩, _⟩ := h
  rw [a5, dx_hasDeed (by omega), dr_isDeed a6 (by omega)]
  by_cases c : 0 ≤ p.toInt ∧ p.toInt < (d : Int)
  · rw [if_pos c]
    obtain ⟨q1, q2⟩ := clampI c
    obtain ⟨g1, g2, g3, g4, g5, g6⟩ := hRg.2.2.2.2 _ q1
    obtain ⟨x1, x2, x3, x4⟩ := hE3 _ q1
    have y1 := clN g1
    have y2 := clN (x := fx 31 p.toNatClampNeg) (by omega)
    have y3 := clN g5
    refine ⟨rfl, Or.inr ⟨rfl, q2, by omega, ⟨x1.symm, x2.symm, x3.symm, x4.symm⟩, _, _, _, y1.1, y2.1, y3.1, by omega, by omega, by omega, ?_⟩⟩
    rcases g6 with g6 | g6
    · exact Or.inl ⟨g6.1, by have := g6.2; omega⟩
    · exact Or.inr ⟨g6.1, by have := g6.2; omega⟩
  · rw [if_neg c]
    exact ⟨rfl, Or.inl rfl⟩
theorem du_eq {of bg x0 x1 x2 x3 y0 y1 y2 y3 : Nat → Int32} {b : Nat → Nat} {M p da dd dl : Nat} (hM : M ≤ 24) (ho : ∀ j, j ≤ M → of j = nI (b j)) (hb : ∀ j, j ≤ M → bg j = nI (b j)) (hs : ∀ m, b (m + 1) = b m + 29 ∨ b (m + 1) = b m + 30) (hbm : ∀ m, m ≤ M → b m ≤ 2000) (hp : p < 8) (e0 : y0 p = x0 p) (e1 : y1 p = x1 p) (e2 : y2 p = x2 p) (e3 : y3 p = x3 p) (f0 : x0 p = nI da) (f1 : x1 p = nI dd) (f2 : x2 p = nI dl) (h1 : da + 1 ≤ M) (h2 : 1 ≤ dd) (h3 : dd ≤ 30) (h4 : (x3 p = 0 ∧ da + dl + 1 ≤ M) ∨ (x3 p = 1 ∧ dl ≤ 600)) : fX12_dueBy y0 y2 y3 y1 of (nI p) = bg (fX2_endAnchor (x0 p) (x1 p) (x2 p) (x3 p)).toNatClampNeg + fX2_endOffset (x1 p) (x2 p) (x3 p) := by
  unfold fX12_dueBy fX12_monthOf fX12_behindOf bfX12_monthOf_31 bfX12_behindOf_19 fX2_endAnchor fX2_endOffset bfX2_endAnchor_23 bfX2_endOffset_22
  rw [cal_b, cal_b, cal_b, nI_clamp (show p < 2 ^ 31 by omega), e0, e1, e2, e3, f0, f1, f2]
  rcases h4 with ⟨c, c2⟩ | ⟨c, c2⟩
  · rw [c, if_pos rfl, if_pos rfl, if_pos rfl, cal_b, cal_b, if_pos rfl, nI_add, dy_eq (M := M) (b := b) (bg := bg) hM ho hb (hs _) (hbm _ (by omega)) (by omega) h2 h3, Int32.add_zero, Int32.add_zero]
  · rw [c, if_neg (by decide), if_neg (by decide), if_neg (by decide), cal_b, cal_b, if_neg (by decide), dy_eq (M := M) (b := b) (bg := bg) hM ho hb (hs _) (hbm _ (by omega)) (by omega) h2 h3, Int32.add_assoc]
theorem kk_s (n : Int32) (rn rs : Nat → Int32) (t : Int32) (z : Nat) (a b : Int32) : lfX0_knownBits n rn rs t (z + 1) a b = dfX0_knownBits_4 n rn rs t (lfX0_knownBits n rn rs t z) a b := rfl
theorem kk_L {n : Nat} {rn rs : Nat → Int32} {t : Int32} (hn : n ≤ 24) : ∀ (k i z : Nat) (a : Int32), i + k = n → k < z → (∀ j, j < 32 → bt a j = decide (j < i ∧ kC rn rs t j = true)) → ∀ j, j < 32 → bt (lfX0_knownBits (nI n) rn rs t z a (nI i)) j = decide (j < n ∧ kC rn rs t j = true) := by
  intro k
  induction k with
  | zero =>
    intro i z a hi hz ha j hj
    obtain ⟨z, rfl⟩ : ∃ y, z = y + 1 := ⟨z - 1, by omega⟩
    have e : i = n := by omega
    subst e
    rw [kk_s]
    unfold dfX0_knownBits_4
    rw [if_pos (Int32.le_refl _)]
    exact ha j hj
  | succ k ih =>
    intro i z a hi hz ha j hj
    obtain ⟨z, rfl⟩ : ∃ y, z = y + 1 := ⟨z - 1, by omega⟩
    have hkc : kC rn rs t i = true ↔ ¬ fX7_isKnownBy (rn i) (rs i) t = 0 := by
      unfold kC
      rw [decide_eq_true_eq]
    rw [kk_s]
    unfold dfX0_knownBits_4 bfX0_knownBits_31
    rw [if_neg (fun w => by have := (nI_leI (by omega) (by omega)).1 w; omega), nI_clamp (by omega), cal_b, nI_1]
    by_cases c : fX7_isKnownBy (rn i) (rs i) t = 0
    · rw [if_pos c]
      refine ih (i + 1) z _ (by omega) (by omega) (fun j hj => ?_) j hj
      rw [ha j hj]
      by_cases e : j = i
      · have c2 : ¬ kC rn rs t i = true := fun q => hkc.1 q c
        subst e
        simp [c2]
      · have e2 : j < i + 1 ↔ j < i := by omega
        simp [e2]
    · rw [if_neg c]
      refine ih (i + 1) z _ (by omega) (by omega) (fun j hj => ?_) j hj
      rw [b_or, ha j hj, sh_1 i (by omega) j hj]
      by_cases e : j = i
      · have c2 : kC rn rs t i = true := hkc.2 c
        subst e
        simp [c2]
      · have e2 : j < i + 1 ↔ j < i := by omega
        simp [e, e2]
theorem kk_eq {n : Nat} {rn rs : Nat → Int32} {t : Int32} (hn : n ≤ 24) : ∀ j, j < 32 → bt (fX0_knownBits (nI n) rn rs t) j = decide (j < n ∧ kC rn rs t j = true) := by
  intro j hj
  unfold fX0_knownBits
  have q := kk_L (rn := rn) (rs := rs) (t := t) hn n 0 1000000000 0 (by omega) (by omega) (fun j hj => by rw [b_0]; simp) j hj
  rw [nI_0] at q
  exact q
noncomputable def xt_moved (vx : Nat → Int32) (fx : Nat → Nat → Int32) (gx : Nat → Nat → Int64) (o : Int32 × Int32 × Int32 × Int32 × Int32 × Int32 × Int32 × Int32 × Int32 × (Nat → Int32) × (Nat → Int32) × (Nat → Int64) × (Nat → Int32) × (Nat → Int32) × (Nat → Int32)) : Int32 × (Nat → Int32) × (Nat → Nat → Int32) × (Nat → Nat → Int64) := (o.1, (upd (upd (upd (upd (upd (upd (upd (upd vx 1 o.2.1) 2 o.2.2.1) 3 o.2.2.2.1) 44 o.2.2.2.2.1) 45 o.2.2.2.2.2.1) 46 o.2.2.2.2.2.2.1) 47 o.2.2.2.2.2.2.2.1) 48 o.2.2.2.2.2.2.2.2.1), (updF (updF (updF (updF (updF fx 3 o.2.2.2.2.2.2.2.2.2.1) 4 o.2.2.2.2.2.2.2.2.2.2.1) 5 o.2.2.2.2.2.2.2.2.2.2.2.2.1) 6 o.2.2.2.2.2.2.2.2.2.2.2.2.2.1) 7 o.2.2.2.2.2.2.2.2.2.2.2.2.2.2), (updG gx 0 o.2.2.2.2.2.2.2.2.2.2.2.1))
noncomputable def xs_moved (vx : Nat → Int32) (fx : Nat → Nat → Int32) (gx : Nat → Nat → Int64) (p1 : Int32) (p2 : Int32) (p3 : Int32) : Int32 × (Nat → Int32) × (Nat → Nat → Int32) × (Nat → Nat → Int64) := xt_moved vx fx gx (fX11_moved (vx 1) (vx 2) (vx 3) (vx 44) (vx 45) (fx 3) (fx 4) (gx 0) (fx 5) (vx 46) (vx 47) (vx 48) (fx 6) (fx 7) (vx 11) (vx 12) (vx 13) (vx 15) (vx 16) (vx 17) (vx 19) (fx 22) (fx 23) (fx 24) (fx 25) (fx 26) (fx 27) (fx 28) (fx 29) p1 p2 p3)
set_option maxHeartbeats 4000000 in
set_option maxRecDepth 100000 in
theorem uX11_moved (l : Launch) (dC : Nat → ClassId) (dI : Nat → Nat → Nat) (sz : Nat) (ax : Nat → Nat) (kx : Nat → ClassId) (vx : Nat → Int32) (fx : Nat → Nat → Int32) (gx : Nat → Nat → Int64) (rx : Nat → Nat → Nat) (hI : XI vx fx) (p1 : Int32) (p2 : Int32) (p3 : Int32) : Met l yX11_moved (.code yX11_moved cX11_moved 5 (some .int) :: wsGA) ({ frames := 5, cells := 0, slots := 0, locals := 117 }) (va_Pc [.ref (ax 0), .int p1, .int p2, .int p3] (fun U => U.heap.size = sz ∧ va_P (dC, dI) vwCl (XW ax kx vx fx gx rx) U.heap ∧ va_K (dC, dI) vwCl (XT kx) U ∧ va_D (fun _ => True) (XW ax kx vx fx gx rx) ∧ nzA U)) (va_Qi (fun (r : Int32) (u : Int32) => r = u) (fun r t => XB dC dI ax kx vx fx gx rx sz (fun v f g => (r, v, f, g) = xs_moved vx fx gx p1 p2 p3) t) (va_A (XW ax kx vx fx gx rx) sz)) 0 0 (va_A (XW ax kx vx fx gx rx) sz) := by
  have hC : List.map (fun i => (XW ax kx vx fx gx rx)[i]?) [0, 19, 20, 21, 22, 23, 24, 25, 26] = ([((ax 0), .inr (11, [.ref (ax 1), .ref (ax 4), .ref (ax 8), .ref (ax 16), .ref (ax 19), .ref (ax 27), .ref (ax 35), .ref (ax 39), .ref (ax 42), .ref (ax 45), .ref (ax 46), .int (vx 0), .int (vx 1), .int (vx 2), .int (vx 3), .int (vx 4)])), ((ax 19), .inr (1, [.ref (ax 24), .ref (ax 20), .ref (ax 21), .ref (ax 22), .ref (ax 23), .int (vx 44), .int (vx 45)])), ((ax 20), .inl ((kx 12), 24, .inl (fx 3))), ((ax 21), .inl ((kx 13), 24, .inl (fx 4))), ((ax 22), .inl ((kx 14), 24, .inr (.inl (gx 0)))), ((ax 23), .inl ((kx 15), 25, .inl (fx 5))), ((ax 24), .inr (3, [.int (vx 46), .int (vx 47), .int (vx 48), .ref (ax 25), .ref (ax 26)])), ((ax 25), .inl ((kx 16), 25, .inl (fx 6))), ((ax 26), .inl ((kx 17), 275, .inl (fx 7)))] : va_W).map some := (gz_ixL (gz_ixL (gz_ixL (gz_ixL (gz_ixL (gz_ixL (gz_ixL (gz_ixL (gz_ixL rfl)))))))))
  have hnd : va_nd [0, 19, 20, 21, 22, 23, 24, 25, 26] = true := (by decide +kernel)
  have hCR : List.map (fun i => (XW ax kx vx fx gx rx)[i]?) [4, 5, 6] = ([((ax 4), .inr (0, [.int (vx 11), .int (vx 12), .int (vx 13), .int (vx 14), .int (vx 15), .int (vx 16), .int (vx 17), .int (vx 18), .int (vx 19), .int (vx 20), .ref (ax 5), .ref (ax 6), .ref (ax 7)])), ((ax 5), .inl ((kx 1), 6, .inr (.inr (.inr (.inr (fun i => some (rx 0 i))))))), ((ax 6), .inl ((kx 2), 24, .inr (.inr (.inr (.inr (fun i => some (rx 1 i)))))))] : va_W).map some := (gz_ixL (gz_ixL (gz_ixL (gz_ixL (gz_ixL (gz_ixL (gz_ixL (gz_ixL (gz_ixL rfl)))))))))
  have hCF0 : List.map (fun i => (XW ax kx vx fx gx rx)[i]?) ([] ++ List.range' 47 6) = ((([] : va_W) ++ (gz_fam 6 (rx 0) 5 (fun i => [.int ((fx 22) i), .int ((fx 23) i)]))) : va_W).map some := (gz_ixapp (gz_ixL (gz_ixL (gz_ixL (gz_ixL (gz_ixL (gz_ixL (gz_ixL (gz_ixL (gz_ixL rfl))))))))) (gz_ixL (gz_ixL (gz_ixL (gz_ixL (gz_ixL (gz_ixL (gz_ixL (gz_ixL (gz_ixR (m := 47) (by simp only [List.length_append, gz_famlen, List.length_cons, List.length_nil]) gz_ixSelf))))))))))
  have hCF1 : List.map (fun i => (XW ax kx vx fx gx rx)[i]?) ([] ++ List.range' 53 24) = ((([] : va_W) ++ (gz_fam 24 (rx 1) 7 (fun i => [.int ((fx 24) i), .int ((fx 25) i), .int ((fx 26) i), .int ((fx 27) i), .int ((fx 28) i), .int ((fx 29) i)]))) : va_W).map some := (gz_ixapp (gz_ixL (gz_ixL (gz_ixL (gz_ixL (gz_ixL (gz_ixL (gz_ixL (gz_ixL (gz_ixL rfl))))))))) (gz_ixL (gz_ixL (gz_ixL (gz_ixL (gz_ixL (gz_ixL (gz_ixL (gz_ixR (m := 53) (by simp only [List.length_append, gz_famlen, List.length_cons, List.length_nil]) gz_ixSelf)))))))))
  refine gz_mono (sX11_moved l dC dI sz (ax 0) (ax 19) (ax 20) (ax 21) (ax 22) (ax 23) (ax 24) (ax 25) (ax 26) (ax 4) (ax 5) (ax 6) (ax 1) (ax 8) (ax 16) (ax 27) (ax 35) (ax 39) (ax 42) (ax 45) (ax 46) (vx 0) (vx 1) (vx 2) (vx 3) (vx 4) (vx 44) (vx 45) (kx 12) (fx 3) (kx 13) (fx 4) (kx 14) (gx 0) (kx 15) (fx 5) (vx 46) (vx 47) (vx 48) (kx 16) (fx 6) (kx 17) (fx 7) (vx 11) (vx 12) (vx 13) (vx 14) (vx 15) (vx 16) (vx 17) (vx 18) (vx 19) (vx 20) (ax 7) (kx 1) (kx 2) (rx 0) (fx 22) (fx 23) (rx 1) (fx 24) (fx 25) (fx 26) (fx 27) (fx 28) (fx 29) p1 p2 p3 hI.1 hI.2.1 hI.2.2.1 hI.2.2.2.1 hI.2.2.2.2.2.2.2.2.2.2.2.2.2.2.2.2.2.2.2.2.2.2.2.2.2.2.2.2.2.2.2.2.1 hI.2.2.2.2.2.2.2.2.2.2.2.2.2.2.2.2.2.2.2.2.2.2.2.2.2.2.2.2.2.2.2.2.2.1 hI.2.2.2.2.2.2.2.2.2.2.2.2.2.2.2.2.2.2.2.2.2.2.2.2.2.2.2.2.2.2.2.2.2.2.1 hI.2.2.2.2.2.2.2.2.2.2.2.2.2.2.2.2.2.2.2.2.2.2.2.2.2.2.2.2.2.2.2.2.2.2.2.1 hI.2.2.2.2.2.2.2.2.2.2.2.2.2.2.2.2.2.2.2.2.2.2.2.2.2.2.2.2.2.2.2.2.2.2.2.2.1 hI.2.2.2.2.2.2.2.2.1 hI.2.2.2.2.2.2.2.2.2.1 hI.2.2.2.2.2.2.2.2.2.2.1 hI.2.2.2.2.2.2.2.2.2.2.2.1 hI.2.2.2.2.2.2.2.2.2.2.2.2.1 hI.2.2.2.2.2.2.2.2.2.2.2.2.2.1 hI.2.2.2.2.2.2.2.2.2.2.2.2.2.2.1 hI.2.2.2.2.2.2.2.2.2.2.2.2.2.2.2.2.2.2.2.2.2.2.2.2.2.2.2.2.2.2.2.2.2.2.2.2.2.2.2.2.2.2.2.2.2.2.2.2.2.1 hI.2.2.2.2.2.2.2.2.2.2.2.2.2.2.2.2.2.2.2.2.2.2.2.2.2.2.2.2.2.2.2.2.2.2.2.2.2.2.2.2.2.2.2.2.2.2.2.2.2.2.1 hI.2.2.2.2.2.2.2.2.2.2.2.2.2.2.2.2.2.2.2.2.2.2.2.2.2.2.2.2.2.2.2.2.2.2.2.2.2.2.2.2.2.2.2.2.2.2.2.2.2.2.2.1) ?_ ?_ ?_
  · rintro args s ⟨rfl, hsz, hP, hK, hD, hz⟩
    exact ⟨rfl, hsz, (gz_sub hP [0, 19, 20, 21, 22, 23, 24, 25, 26] hC), hK.sub [12, 13, 14, 15, 16, 17, 1, 2] rfl, hD.sub [0, 19, 20, 21, 22, 23, 24, 25, 26] hnd hC, hz, (gz_sub hP [4, 5, 6] hCR), (gz_ap_of hsz hD hP [0, 19, 20, 21, 22, 23, 24, 25, 26] [4, 5, 6] hC hCR (by decide +kernel)), (gz_sub hP ([] ++ List.range' 47 6) hCF0), (gz_ap_of hsz hD hP [0, 19, 20, 21, 22, 23, 24, 25, 26] ([] ++ List.range' 47 6) hC hCF0 (by decide +kernel)), (gz_sub hP ([] ++ List.range' 53 24) hCF1), (gz_ap_of hsz hD hP [0, 19, 20, 21, 22, 23, 24, 25, 26] ([] ++ List.range' 53 24) hC hCF1 (by decide +kernel))⟩
  · rintro args s o t ⟨rfl, hsz, hP, hK, hD, hz⟩ ⟨⟨r, u, ho, hw, hB⟩, hF⟩
    obtain ⟨w0_12, w0_13, w0_14, w1_5, w1_6, w6_0, w6_1, w6_2, z2, z3, z4, z5, z7, z8, hB⟩ := hB
    obtain ⟨gw0_12, gw0_14, gw1_5, gw6_0, gw6_1, gw6_2, gz3, hE, hP1, hD1⟩ := hB
    obtain ⟨hu9, hw⟩ := hw
    subst hu9
    subst hsz
    have hD0 := hD.self (sz := s.heap.size)
    have hFr := gz_freeS (n := s.heap.size) [0, 19, 20, 21, 22, 23, 24, 25, 26] hC
    obtain ⟨hP2, hD2⟩ := va_join (wr := (([((ax 1), .inr (6, [.ref (ax 2), .ref (ax 12), .int (vx 5), .int (vx 6), .int (vx 7), .int (vx 8), .int (vx 9)])), ((ax 2), .inr (10, [.ref (ax 3), .int (vx 10)])), ((ax 3), .inl ((kx 0), 1600, .inl (fx 0))), ((ax 4), .inr (0, [.int (vx 11), .int (vx 12), .int (vx 13), .int (vx 14), .int (vx 15), .int (vx 16), .int (vx 17), .int (vx 18), .int (vx 19), .int (vx 20), .ref (ax 5), .ref (ax 6), .ref (ax 7)])), ((ax 5), .inl ((kx 1), 6, .inr (.inr (.inr (.inr (fun i => some (rx 0 i))))))), ((ax 6), .inl ((kx 2), 24, .inr (.inr (.inr (.inr (fun i => some (rx 1 i))))))), ((ax 7), .inl ((kx 3), 8, .inr (.inr (.inr (.inr (fun i => some (rx 2 i))))))), ((ax 8), .inr (0, [.int (vx 21), .int (vx 22), .int (vx 23), .int (vx 24), .int (vx 25), .int (vx 26), .int (vx 27), .int (vx 28), .int (vx 29), .int (vx 30), .ref (ax 9), .ref (ax 10), .ref (ax 11)])), ((ax 9), .inl ((kx 4), 6, .inr (.inr (.inr (.inr (fun i => some (rx 3 i))))))), ((ax 10), .inl ((kx 5), 24, .inr (.inr (.inr (.inr (fun i => some (rx 4 i))))))), ((ax 11), .inl ((kx 6), 8, .inr (.inr (.inr (.inr (fun i => some (rx 5 i))))))), ((ax 12), .inr (0, [.int (vx 31), .int (vx 32), .int (vx 33), .int (vx 34), .int (vx 35), .int (vx 36), .int (vx 37), .int (vx 38), .int (vx 39), .int (vx 40), .ref (ax 13), .ref (ax 14), .ref (ax 15)])), ((ax 13), .inl ((kx 7), 6, .inr (.inr (.inr (.inr (fun i => some (rx 6 i))))))), ((ax 14), .inl ((kx 8), 24, .inr (.inr (.inr (.inr (fun i => some (rx 7 i))))))), ((ax 15), .inl ((kx 9), 8, .inr (.inr (.inr (.inr (fun i => some (rx 8 i))))))), ((ax 16), .inr (3, [.int (vx 41), .int (vx 42), .int (vx 43), .ref (ax 17), .ref (ax 18)])), ((ax 17), .inl ((kx 10), 25, .inl (fx 1))), ((ax 18), .inl ((kx 11), 275, .inl (fx 2))), ((ax 27), .inr (1, [.ref (ax 32), .ref (ax 28), .ref (ax 29), .ref (ax 30), .ref (ax 31), .int (vx 49), .int (vx 50)])), ((ax 28), .inl ((kx 18), 24, .inl (fx 8))), ((ax 29), .inl ((kx 19), 24, .inl (fx 9))), ((ax 30), .inl ((kx 20), 24, .inr (.inl (gx 1)))), ((ax 31), .inl ((kx 21), 25, .inl (fx 10))), ((ax 32), .inr (3, [.int (vx 51), .int (vx 52), .int (vx 53), .ref (ax 33), .ref (ax 34)])), ((ax 33), .inl ((kx 22), 25, .inl (fx 11))), ((ax 34), .inl ((kx 23), 275, .inl (fx 12))), ((ax 35), .inr (9, [.ref (ax 36), .ref (ax 37), .ref (ax 38), .int (vx 54), .int (vx 55), .int (vx 56)])), ((ax 36), .inl ((kx 24), 3575, .inl (fx 13))), ((ax 37), .inl ((kx 25), 3575, .inl (fx 14))), ((ax 38), .inl ((kx 26), 325, .inl (fx 15))), ((ax 39), .inr (8, [.ref (ax 40), .ref (ax 41), .int (vx 57), .int (vx 58), .int (vx 59)])), ((ax 40), .inl ((kx 27), 325, .inl (fx 16))), ((ax 41), .inl ((kx 28), 3575, .inl (fx 17))), ((ax 42), .inr (4, [.ref (ax 43), .ref (ax 44), .int (vx 60)])), ((ax 43), .inl ((kx 29), 25, .inl (fx 18))), ((ax 44), .inl ((kx 30), 625, .inl (fx 19))), ((ax 45), .inl ((kx 31), 25, .inl (fx 20))), ((ax 46), .inl ((kx 32), 72, .inl (fx 21)))] : va_W) ++ (gz_fam 6 (rx 0) 5 (fun i => [.int ((fx 22) i), .int ((fx 23) i)])) ++ (gz_fam 24 (rx 1) 7 (fun i => [.int ((fx 24) i), .int ((fx 25) i), .int ((fx 26) i), .int ((fx 27) i), .int ((fx 28) i), .int ((fx 29) i)])) ++ (gz_fam 8 (rx 2) 2 (fun i => [.int ((fx 30) i), .int ((fx 31) i), .int ((fx 32) i), .int ((fx 33) i)])) ++ (gz_fam 6 (rx 3) 5 (fun i => [.int ((fx 34) i), .int ((fx 35) i)])) ++ (gz_fam 24 (rx 4) 7 (fun i => [.int ((fx 36) i), .int ((fx 37) i), .int ((fx 38) i), .int ((fx 39) i), .int ((fx 40) i), .int ((fx 41) i)])) ++ (gz_fam 8 (rx 5) 2 (fun i => [.int ((fx 42) i), .int ((fx 43) i), .int ((fx 44) i), .int ((fx 45) i)])) ++ (gz_fam 6 (rx 6) 5 (fun i => [.int ((fx 46) i), .int ((fx 47) i)])) ++ (gz_fam 24 (rx 7) 7 (fun i => [.int ((fx 48) i), .int ((fx 49) i), .int ((fx 50) i), .int ((fx 51) i), .int ((fx 52) i), .int ((fx 53) i)])) ++ (gz_fam 8 (rx 8) 2 (fun i => [.int ((fx 54) i), .int ((fx 55) i), .int ((fx 56) i), .int ((fx 57) i)])))) (w1 := [((ax 0), .inr (11, [.ref (ax 1), .ref (ax 4), .ref (ax 8), .ref (ax 16), .ref (ax 19), .ref (ax 27), .ref (ax 35), .ref (ax 39), .ref (ax 42), .ref (ax 45), .ref (ax 46), .int (vx 0), .int w0_12, .int w0_13, .int w0_14, .int (vx 4)])), ((ax 19), .inr (1, [.ref (ax 24), .ref (ax 20), .ref (ax 21), .ref (ax 22), .ref (ax 23), .int w1_5, .int w1_6])), ((ax 20), .inl ((kx 12), 24, .inl z2)), ((ax 21), .inl ((kx 13), 24, .inl z3)), ((ax 22), .inl ((kx 14), 24, .inr (.inl z4))), ((ax 23), .inl ((kx 15), 25, .inl z5)), ((ax 24), .inr (3, [.int w6_0, .int w6_1, .int w6_2, .ref (ax 25), .ref (ax 26)])), ((ax 25), .inl ((kx 16), 25, .inl z7)), ((ax 26), .inl ((kx 17), 275, .inl z8))]) hP hD0 [0, 19, 20, 21, 22, 23, 24, 25, 26] ([1, 2, 3, 4, 5, 6, 7, 8, 9, 10, 11, 12, 13, 14, 15, 16, 17, 18, 27, 28, 29, 30, 31, 32, 33, 34, 35, 36, 37, 38, 39, 40, 41, 42, 43, 44, 45, 46] ++ List.range' 47 6 ++ List.range' 53 24 ++ List.range' 77 8 ++ List.range' 85 6 ++ List.range' 91 24 ++ List.range' 115 8 ++ List.range' 123 6 ++ List.range' 129 24 ++ List.range' 153 8) hC (gz_ixapp (gz_ixapp (gz_ixapp (gz_ixapp (gz_ixapp (gz_ixapp (gz_ixapp (gz_ixapp (gz_ixapp (gz_ixL (gz_ixL (gz_ixL (gz_ixL (gz_ixL (gz_ixL (gz_ixL (gz_ixL (gz_ixL rfl))))))))) (gz_ixL (gz_ixL (gz_ixL (gz_ixL (gz_ixL (gz_ixL (gz_ixL (gz_ixL (gz_ixR (m := 47) (by simp only [List.length_append, gz_famlen, List.length_cons, List.length_nil]) gz_ixSelf)))))))))) (gz_ixL (gz_ixL (gz_ixL (gz_ixL (gz_ixL (gz_ixL (gz_ixL (gz_ixR (m := 53) (by simp only [List.length_append, gz_famlen, List.length_cons, List.length_nil]) gz_ixSelf))))))))) (gz_ixL (gz_ixL (gz_ixL (gz_ixL (gz_ixL (gz_ixL (gz_ixR (m := 77) (by simp only [List.length_append, gz_famlen, List.length_cons, List.length_nil]) gz_ixSelf)))))))) (gz_ixL (gz_ixL (gz_ixL (gz_ixL (gz_ixL (gz_ixR (m := 85) (by simp only [List.length_append, gz_famlen, List.length_cons, List.length_nil]) gz_ixSelf))))))) (gz_ixL (gz_ixL (gz_ixL (gz_ixL (gz_ixR (m := 91) (by simp only [List.length_append, gz_famlen, List.length_cons, List.length_nil]) gz_ixSelf)))))) (gz_ixL (gz_ixL (gz_ixL (gz_ixR (m := 115) (by simp only [List.length_append, gz_famlen, List.length_cons, List.length_nil]) gz_ixSelf))))) (gz_ixL (gz_ixL (gz_ixR (m := 123) (by simp only [List.length_append, gz_famlen, List.length_cons, List.length_nil]) gz_ixSelf)))) (gz_ixL (gz_ixR (m := 129) (by simp only [List.length_append, gz_famlen, List.length_cons, List.length_nil]) gz_ixSelf))) (gz_ixR (m := 153) (by simp only [List.length_append, gz_famlen, List.length_cons, List.length_nil]) gz_ixSelf)) (by decide +kernel) (by decide +kernel) hF.2 hFr hP1 hD1
    have hN := gz_sub (gw_PA (gw_PR hP2) (gw_PL (gw_PL (gw_PL (gw_PL (gw_PL (gw_PL (gw_PL (gw_PL (gw_PL (gw_PL hP2))))))))))) (ws' := [((ax 0), .inr (11, [.ref (ax 1), .ref (ax 4), .ref (ax 8), .ref (ax 16), .ref (ax 19), .ref (ax 27), .ref (ax 35), .ref (ax 39), .ref (ax 42), .ref (ax 45), .ref (ax 46), .int (vx 0), .int w0_12, .int w0_13, .int w0_14, .int (vx 4)])), ((ax 1), .inr (6, [.ref (ax 2), .ref (ax 12), .int (vx 5), .int (vx 6), .int (vx 7), .int (vx 8), .int (vx 9)])), ((ax 2), .inr (10, [.ref (ax 3), .int (vx 10)])), ((ax 3), .inl ((kx 0), 1600, .inl (fx 0))), ((ax 4), .inr (0, [.int (vx 11), .int (vx 12), .int (vx 13), .int (vx 14), .int (vx 15), .int (vx 16), .int (vx 17), .int (vx 18), .int (vx 19), .int (vx 20), .ref (ax 5), .ref (ax 6), .ref (ax 7)])), ((ax 5), .inl ((kx 1), 6, .inr (.inr (.inr (.inr (fun i => some (rx 0 i))))))), ((ax 6), .inl ((kx 2), 24, .inr (.inr (.inr (.inr (fun i => some (rx 1 i))))))), ((ax 7), .inl ((kx 3), 8, .inr (.inr (.inr (.inr (fun i => some (rx 2 i))))))), ((ax 8), .inr (0, [.int (vx 21), .int (vx 22), .int (vx 23), .int (vx 24), .int (vx 25), .int (vx 26), .int (vx 27), .int (vx 28), .int (vx 29), .int (vx 30), .ref (ax 9), .ref (ax 10), .ref (ax 11)])), ((ax 9), .inl ((kx 4), 6, .inr (.inr (.inr (.inr (fun i => some (rx 3 i))))))), ((ax 10), .inl ((kx 5), 24, .inr (.inr (.inr (.inr (fun i => some (rx 4 i))))))), ((ax 11), .inl ((kx 6), 8, .inr (.inr (.inr (.inr (fun i => some (rx 5 i))))))), ((ax 12), .inr (0, [.int (vx 31), .int (vx 32), .int (vx 33), .int (vx 34), .int (vx 35), .int (vx 36), .int (vx 37), .int (vx 38), .int (vx 39), .int (vx 40), .ref (ax 13), .ref (ax 14), .ref (ax 15)])), ((ax 13), .inl ((kx 7), 6, .inr (.inr (.inr (.inr (fun i => some (rx 6 i))))))), ((ax 14), .inl ((kx 8), 24, .inr (.inr (.inr (.inr (fun i => some (rx 7 i))))))), ((ax 15), .inl ((kx 9), 8, .inr (.inr (.inr (.inr (fun i => some (rx 8 i))))))), ((ax 16), .inr (3, [.int (vx 41), .int (vx 42), .int (vx 43), .ref (ax 17), .ref (ax 18)])), ((ax 17), .inl ((kx 10), 25, .inl (fx 1))), ((ax 18), .inl ((kx 11), 275, .inl (fx 2))), ((ax 19), .inr (1, [.ref (ax 24), .ref (ax 20), .ref (ax 21), .ref (ax 22), .ref (ax 23), .int w1_5, .int w1_6])), ((ax 20), .inl ((kx 12), 24, .inl z2)), ((ax 21), .inl ((kx 13), 24, .inl z3)), ((ax 22), .inl ((kx 14), 24, .inr (.inl z4))), ((ax 23), .inl ((kx 15), 25, .inl z5)), ((ax 24), .inr (3, [.int w6_0, .int w6_1, .int w6_2, .ref (ax 25), .ref (ax 26)])), ((ax 25), .inl ((kx 16), 25, .inl z7)), ((ax 26), .inl ((kx 17), 275, .inl z8)), ((ax 27), .inr (1, [.ref (ax 32), .ref (ax 28), .ref (ax 29), .ref (ax 30), .ref (ax 31), .int (vx 49), .int (vx 50)])), ((ax 28), .inl ((kx 18), 24, .inl (fx 8))), ((ax 29), .inl ((kx 19), 24, .inl (fx 9))), ((ax 30), .inl ((kx 20), 24, .inr (.inl (gx 1)))), ((ax 31), .inl ((kx 21), 25, .inl (fx 10))), ((ax 32), .inr (3, [.int (vx 51), .int (vx 52), .int (vx 53), .ref (ax 33), .ref (ax 34)])), ((ax 33), .inl ((kx 22), 25, .inl (fx 11))), ((ax 34), .inl ((kx 23), 275, .inl (fx 12))), ((ax 35), .inr (9, [.ref (ax 36), .ref (ax 37), .ref (ax 38), .int (vx 54), .int (vx 55), .int (vx 56)])), ((ax 36), .inl ((kx 24), 3575, .inl (fx 13))), ((ax 37), .inl ((kx 25), 3575, .inl (fx 14))), ((ax 38), .inl ((kx 26), 325, .inl (fx 15))), ((ax 39), .inr (8, [.ref (ax 40), .ref (ax 41), .int (vx 57), .int (vx 58), .int (vx 59)])), ((ax 40), .inl ((kx 27), 325, .inl (fx 16))), ((ax 41), .inl ((kx 28), 3575, .inl (fx 17))), ((ax 42), .inr (4, [.ref (ax 43), .ref (ax 44), .int (vx 60)])), ((ax 43), .inl ((kx 29), 25, .inl (fx 18))), ((ax 44), .inl ((kx 30), 625, .inl (fx 19))), ((ax 45), .inl ((kx 31), 25, .inl (fx 20))), ((ax 46), .inl ((kx 32), 72, .inl (fx 21)))]) [0, 9, 10, 11, 12, 13, 14, 15, 16, 17, 18, 19, 20, 21, 22, 23, 24, 25, 26, 1, 2, 3, 4, 5, 6, 7, 8, 27, 28, 29, 30, 31, 32, 33, 34, 35, 36, 37, 38, 39, 40, 41, 42, 43, 44, 45, 46] rfl
    have hP3 : va_P (dC, dI) vwCl (([((ax 0), .inr (11, [.ref (ax 1), .ref (ax 4), .ref (ax 8), .ref (ax 16), .ref (ax 19), .ref (ax 27), .ref (ax 35), .ref (ax 39), .ref (ax 42), .ref (ax 45), .ref (ax 46), .int (vx 0), .int w0_12, .int w0_13, .int w0_14, .int (vx 4)])), ((ax 1), .inr (6, [.ref (ax 2), .ref (ax 12), .int (vx 5), .int (vx 6), .int (vx 7), .int (vx 8), .int (vx 9)])), ((ax 2), .inr (10, [.ref (ax 3), .int (vx 10)])), ((ax 3), .inl ((kx 0), 1600, .inl (fx 0))), ((ax 4), .inr (0, [.int (vx 11), .int (vx 12), .int (vx 13), .int (vx 14), .int (vx 15), .int (vx 16), .int (vx 17), .int (vx 18), .int (vx 19), .int (vx 20), .ref (ax 5), .ref (ax 6), .ref (ax 7)])), ((ax 5), .inl ((kx 1), 6, .inr (.inr (.inr (.inr (fun i => some (rx 0 i))))))), ((ax 6), .inl ((kx 2), 24, .inr (.inr (.inr (.inr (fun i => some (rx 1 i))))))), ((ax 7), .inl ((kx 3), 8, .inr (.inr (.inr (.inr (fun i => some (rx 2 i))))))), ((ax 8), .inr (0, [.int (vx 21), .int (vx 22), .int (vx 23), .int (vx 24), .int (vx 25), .int (vx 26), .int (vx 27), .int (vx 28), .int (vx 29), .int (vx 30), .ref (ax 9), .ref (ax 10), .ref (ax 11)])), ((ax 9), .inl ((kx 4), 6, .inr (.inr (.inr (.inr (fun i => some (rx 3 i))))))), ((ax 10), .inl ((kx 5), 24, .inr (.inr (.inr (.inr (fun i => some (rx 4 i))))))), ((ax 11), .inl ((kx 6), 8, .inr (.inr (.inr (.inr (fun i => some (rx 5 i))))))), ((ax 12), .inr (0, [.int (vx 31), .int (vx 32), .int (vx 33), .int (vx 34), .int (vx 35), .int (vx 36), .int (vx 37), .int (vx 38), .int (vx 39), .int (vx 40), .ref (ax 13), .ref (ax 14), .ref (ax 15)])), ((ax 13), .inl ((kx 7), 6, .inr (.inr (.inr (.inr (fun i => some (rx 6 i))))))), ((ax 14), .inl ((kx 8), 24, .inr (.inr (.inr (.inr (fun i => some (rx 7 i))))))), ((ax 15), .inl ((kx 9), 8, .inr (.inr (.inr (.inr (fun i => some (rx 8 i))))))), ((ax 16), .inr (3, [.int (vx 41), .int (vx 42), .int (vx 43), .ref (ax 17), .ref (ax 18)])), ((ax 17), .inl ((kx 10), 25, .inl (fx 1))), ((ax 18), .inl ((kx 11), 275, .inl (fx 2))), ((ax 19), .inr (1, [.ref (ax 24), .ref (ax 20), .ref (ax 21), .ref (ax 22), .ref (ax 23), .int w1_5, .int w1_6])), ((ax 20), .inl ((kx 12), 24, .inl z2)), ((ax 21), .inl ((kx 13), 24, .inl z3)), ((ax 22), .inl ((kx 14), 24, .inr (.inl z4))), ((ax 23), .inl ((kx 15), 25, .inl z5)), ((ax 24), .inr (3, [.int w6_0, .int w6_1, .int w6_2, .ref (ax 25), .ref (ax 26)])), ((ax 25), .inl ((kx 16), 25, .inl z7)), ((ax 26), .inl ((kx 17), 275, .inl z8)), ((ax 27), .inr (1, [.ref (ax 32), .ref (ax 28), .ref (ax 29), .ref (ax 30), .ref (ax 31), .int (vx 49), .int (vx 50)])), ((ax 28), .inl ((kx 18), 24, .inl (fx 8))), ((ax 29), .inl ((kx 19), 24, .inl (fx 9))), ((ax 30), .inl ((kx 20), 24, .inr (.inl (gx 1)))), ((ax 31), .inl ((kx 21), 25, .inl (fx 10))), ((ax 32), .inr (3, [.int (vx 51), .int (vx 52), .int (vx 53), .ref (ax 33), .ref (ax 34)])), ((ax 33), .inl ((kx 22), 25, .inl (fx 11))), ((ax 34), .inl ((kx 23), 275, .inl (fx 12))), ((ax 35), .inr (9, [.ref (ax 36), .ref (ax 37), .ref (ax 38), .int (vx 54), .int (vx 55), .int (vx 56)])), ((ax 36), .inl ((kx 24), 3575, .inl (fx 13))), ((ax 37), .inl ((kx 25), 3575, .inl (fx 14))), ((ax 38), .inl ((kx 26), 325, .inl (fx 15))), ((ax 39), .inr (8, [.ref (ax 40), .ref (ax 41), .int (vx 57), .int (vx 58), .int (vx 59)])), ((ax 40), .inl ((kx 27), 325, .inl (fx 16))), ((ax 41), .inl ((kx 28), 3575, .inl (fx 17))), ((ax 42), .inr (4, [.ref (ax 43), .ref (ax 44), .int (vx 60)])), ((ax 43), .inl ((kx 29), 25, .inl (fx 18))), ((ax 44), .inl ((kx 30), 625, .inl (fx 19))), ((ax 45), .inl ((kx 31), 25, .inl (fx 20))), ((ax 46), .inl ((kx 32), 72, .inl (fx 21)))] : va_W) ++ (gz_fam 6 (rx 0) 5 (fun i => [.int ((fx 22) i), .int ((fx 23) i)])) ++ (gz_fam 24 (rx 1) 7 (fun i => [.int ((fx 24) i), .int ((fx 25) i), .int ((fx 26) i), .int ((fx 27) i), .int ((fx 28) i), .int ((fx 29) i)])) ++ (gz_fam 8 (rx 2) 2 (fun i => [.int ((fx 30) i), .int ((fx 31) i), .int ((fx 32) i), .int ((fx 33) i)])) ++ (gz_fam 6 (rx 3) 5 (fun i => [.int ((fx 34) i), .int ((fx 35) i)])) ++ (gz_fam 24 (rx 4) 7 (fun i => [.int ((fx 36) i), .int ((fx 37) i), .int ((fx 38) i), .int ((fx 39) i), .int ((fx 40) i), .int ((fx 41) i)])) ++ (gz_fam 8 (rx 5) 2 (fun i => [.int ((fx 42) i), .int ((fx 43) i), .int ((fx 44) i), .int ((fx 45) i)])) ++ (gz_fam 6 (rx 6) 5 (fun i => [.int ((fx 46) i), .int ((fx 47) i)])) ++ (gz_fam 24 (rx 7) 7 (fun i => [.int ((fx 48) i), .int ((fx 49) i), .int ((fx 50) i), .int ((fx 51) i), .int ((fx 52) i), .int ((fx 53) i)])) ++ (gz_fam 8 (rx 8) 2 (fun i => [.int ((fx 54) i), .int ((fx 55) i), .int ((fx 56) i), .int ((fx 57) i)]))) t.heap := (gw_PA (gw_PA (gw_PA (gw_PA (gw_PA (gw_PA (gw_PA (gw_PA (gw_PA hN (gw_PR (gw_PL (gw_PL (gw_PL (gw_PL (gw_PL (gw_PL (gw_PL (gw_PL (gw_PL hP2))))))))))) (gw_PR (gw_PL (gw_PL (gw_PL (gw_PL (gw_PL (gw_PL (gw_PL (gw_PL hP2)))))))))) (gw_PR (gw_PL (gw_PL (gw_PL (gw_PL (gw_PL (gw_PL (gw_PL hP2))))))))) (gw_PR (gw_PL (gw_PL (gw_PL (gw_PL (gw_PL (gw_PL hP2)))))))) (gw_PR (gw_PL (gw_PL (gw_PL (gw_PL (gw_PL hP2))))))) (gw_PR (gw_PL (gw_PL (gw_PL (gw_PL hP2)))))) (gw_PR (gw_PL (gw_PL (gw_PL hP2))))) (gw_PR (gw_PL (gw_PL hP2)))) (gw_PR (gw_PL hP2)))
    have hD3 : va_D _ (([((ax 0), .inr (11, [.ref (ax 1), .ref (ax 4), .ref (ax 8), .ref (ax 16), .ref (ax 19), .ref (ax 27), .ref (ax 35), .ref (ax 39), .ref (ax 42), .ref (ax 45), .ref (ax 46), .int (vx 0), .int w0_12, .int w0_13, .int w0_14, .int (vx 4)])), ((ax 1), .inr (6, [.ref (ax 2), .ref (ax 12), .int (vx 5), .int (vx 6), .int (vx 7), .int (vx 8), .int (vx 9)])), ((ax 2), .inr (10, [.ref (ax 3), .int (vx 10)])), ((ax 3), .inl ((kx 0), 1600, .inl (fx 0))), ((ax 4), .inr (0, [.int (vx 11), .int (vx 12), .int (vx 13), .int (vx 14), .int (vx 15), .int (vx 16), .int (vx 17), .int (vx 18), .int (vx 19), .int (vx 20), .ref (ax 5), .ref (ax 6), .ref (ax 7)])), ((ax 5), .inl ((kx 1), 6, .inr (.inr (.inr (.inr (fun i => some (rx 0 i))))))), ((ax 6), .inl ((kx 2), 24, .inr (.inr (.inr (.inr (fun i => some (rx 1 i))))))), ((ax 7), .inl ((kx 3), 8, .inr (.inr (.inr (.inr (fun i => some (rx 2 i))))))), ((ax 8), .inr (0, [.int (vx 21), .int (vx 22), .int (vx 23), .int (vx 24), .int (vx 25), .int (vx 26), .int (vx 27), .int (vx 28), .int (vx 29), .int (vx 30), .ref (ax 9), .ref (ax 10), .ref (ax 11)])), ((ax 9), .inl ((kx 4), 6, .inr (.inr (.inr (.inr (fun i => some (rx 3 i))))))), ((ax 10), .inl ((kx 5), 24, .inr (.inr (.inr (.inr (fun i => some (rx 4 i))))))), ((ax 11), .inl ((kx 6), 8, .inr (.inr (.inr (.inr (fun i => some (rx 5 i))))))), ((ax 12), .inr (0, [.int (vx 31), .int (vx 32), .int (vx 33), .int (vx 34), .int (vx 35), .int (vx 36), .int (vx 37), .int (vx 38), .int (vx 39), .int (vx 40), .ref (ax 13), .ref (ax 14), .ref (ax 15)])), ((ax 13), .inl ((kx 7), 6, .inr (.inr (.inr (.inr (fun i => some (rx 6 i))))))), ((ax 14), .inl ((kx 8), 24, .inr (.inr (.inr (.inr (fun i => some (rx 7 i))))))), ((ax 15), .inl ((kx 9), 8, .inr (.inr (.inr (.inr (fun i => some (rx 8 i))))))), ((ax 16), .inr (3, [.int (vx 41), .int (vx 42), .int (vx 43), .ref (ax 17), .ref (ax 18)])), ((ax 17), .inl ((kx 10), 25, .inl (fx 1))), ((ax 18), .inl ((kx 11), 275, .inl (fx 2))), ((ax 19), .inr (1, [.ref (ax 24), .ref (ax 20), .ref (ax 21), .ref (ax 22), .ref (ax 23), .int w1_5, .int w1_6])), ((ax 20), .inl ((kx 12), 24, .inl z2)), ((ax 21), .inl ((kx 13), 24, .inl z3)), ((ax 22), .inl ((kx 14), 24, .inr (.inl z4))), ((ax 23), .inl ((kx 15), 25, .inl z5)), ((ax 24), .inr (3, [.int w6_0, .int w6_1, .int w6_2, .ref (ax 25), .ref (ax 26)])), ((ax 25), .inl ((kx 16), 25, .inl z7)), ((ax 26), .inl ((kx 17), 275, .inl z8)), ((ax 27), .inr (1, [.ref (ax 32), .ref (ax 28), .ref (ax 29), .ref (ax 30), .ref (ax 31), .int (vx 49), .int (vx 50)])), ((ax 28), .inl ((kx 18), 24, .inl (fx 8))), ((ax 29), .inl ((kx 19), 24, .inl (fx 9))), ((ax 30), .inl ((kx 20), 24, .inr (.inl (gx 1)))), ((ax 31), .inl ((kx 21), 25, .inl (fx 10))), ((ax 32), .inr (3, [.int (vx 51), .int (vx 52), .int (vx 53), .ref (ax 33), .ref (ax 34)])), ((ax 33), .inl ((kx 22), 25, .inl (fx 11))), ((ax 34), .inl ((kx 23), 275, .inl (fx 12))), ((ax 35), .inr (9, [.ref (ax 36), .ref (ax 37), .ref (ax 38), .int (vx 54), .int (vx 55), .int (vx 56)])), ((ax 36), .inl ((kx 24), 3575, .inl (fx 13))), ((ax 37), .inl ((kx 25), 3575, .inl (fx 14))), ((ax 38), .inl ((kx 26), 325, .inl (fx 15))), ((ax 39), .inr (8, [.ref (ax 40), .ref (ax 41), .int (vx 57), .int (vx 58), .int (vx 59)])), ((ax 40), .inl ((kx 27), 325, .inl (fx 16))), ((ax 41), .inl ((kx 28), 3575, .inl (fx 17))), ((ax 42), .inr (4, [.ref (ax 43), .ref (ax 44), .int (vx 60)])), ((ax 43), .inl ((kx 29), 25, .inl (fx 18))), ((ax 44), .inl ((kx 30), 625, .inl (fx 19))), ((ax 45), .inl ((kx 31), 25, .inl (fx 20))), ((ax 46), .inl ((kx 32), 72, .inl (fx 21)))] : va_W) ++ (gz_fam 6 (rx 0) 5 (fun i => [.int ((fx 22) i), .int ((fx 23) i)])) ++ (gz_fam 24 (rx 1) 7 (fun i => [.int ((fx 24) i), .int ((fx 25) i), .int ((fx 26) i), .int ((fx 27) i), .int ((fx 28) i), .int ((fx 29) i)])) ++ (gz_fam 8 (rx 2) 2 (fun i => [.int ((fx 30) i), .int ((fx 31) i), .int ((fx 32) i), .int ((fx 33) i)])) ++ (gz_fam 6 (rx 3) 5 (fun i => [.int ((fx 34) i), .int ((fx 35) i)])) ++ (gz_fam 24 (rx 4) 7 (fun i => [.int ((fx 36) i), .int ((fx 37) i), .int ((fx 38) i), .int ((fx 39) i), .int ((fx 40) i), .int ((fx 41) i)])) ++ (gz_fam 8 (rx 5) 2 (fun i => [.int ((fx 42) i), .int ((fx 43) i), .int ((fx 44) i), .int ((fx 45) i)])) ++ (gz_fam 6 (rx 6) 5 (fun i => [.int ((fx 46) i), .int ((fx 47) i)])) ++ (gz_fam 24 (rx 7) 7 (fun i => [.int ((fx 48) i), .int ((fx 49) i), .int ((fx 50) i), .int ((fx 51) i), .int ((fx 52) i), .int ((fx 53) i)])) ++ (gz_fam 8 (rx 8) 2 (fun i => [.int ((fx 54) i), .int ((fx 55) i), .int ((fx 56) i), .int ((fx 57) i)]))) := gw_D hD0 (gw_ma (gw_ma (gw_ma (gw_ma (gw_ma (gw_ma (gw_ma (gw_ma (gw_ma rfl gw_mf) gw_mf) gw_mf) gw_mf) gw_mf) gw_mf) gw_mf) gw_mf) gw_mf)
    exact ⟨⟨r, r, ho, rfl, ax, kx, (upd (upd (upd (upd (upd (upd (upd (upd vx 1 w0_12) 2 w0_13) 3 w0_14) 44 w1_5) 45 w1_6) 46 w6_0) 47 w6_1) 48 w6_2), (updF (updF (updF (updF (updF fx 3 z2) 4 z3) 5 z5) 6 z7) 7 z8), (updG gx 0 z4), rx, fun U h => h, rfl, ⟨hI.1, gw0_12, gw0_14, hI.2.2.2.1, hI.2.2.2.2.1, hI.2.2.2.2.2.1, hI.2.2.2.2.2.2.1, hI.2.2.2.2.2.2.2.1, hI.2.2.2.2.2.2.2.2.1, hI.2.2.2.2.2.2.2.2.2.1, hI.2.2.2.2.2.2.2.2.2.2.1, hI.2.2.2.2.2.2.2.2.2.2.2.1, hI.2.2.2.2.2.2.2.2.2.2.2.2.1, hI.2.2.2.2.2.2.2.2.2.2.2.2.2.1, hI.2.2.2.2.2.2.2.2.2.2.2.2.2.2.1, hI.2.2.2.2.2.2.2.2.2.2.2.2.2.2.2.1, hI.2.2.2.2.2.2.2.2.2.2.2.2.2.2.2.2.1, hI.2.2.2.2.2.2.2.2.2.2.2.2.2.2.2.2.2.1, hI.2.2.2.2.2.2.2.2.2.2.2.2.2.2.2.2.2.2.1, hI.2.2.2.2.2.2.2.2.2.2.2.2.2.2.2.2.2.2.2.1, hI.2.2.2.2.2.2.2.2.2.2.2.2.2.2.2.2.2.2.2.2.1, hI.2.2.2.2.2.2.2.2.2.2.2.2.2.2.2.2.2.2.2.2.2.1, hI.2.2.2.2.2.2.2.2.2.2.2.2.2.2.2.2.2.2.2.2.2.2.1, hI.2.2.2.2.2.2.2.2.2.2.2.2.2.2.2.2.2.2.2.2.2.2.2.1, hI.2.2.2.2.2.2.2.2.2.2.2.2.2.2.2.2.2.2.2.2.2.2.2.2.1, hI.2.2.2.2.2.2.2.2.2.2.2.2.2.2.2.2.2.2.2.2.2.2.2.2.2.1, hI.2.2.2.2.2.2.2.2.2.2.2.2.2.2.2.2.2.2.2.2.2.2.2.2.2.2.1, hI.2.2.2.2.2.2.2.2.2.2.2.2.2.2.2.2.2.2.2.2.2.2.2.2.2.2.2.1, hI.2.2.2.2.2.2.2.2.2.2.2.2.2.2.2.2.2.2.2.2.2.2.2.2.2.2.2.2.1, hI.2.2.2.2.2.2.2.2.2.2.2.2.2.2.2.2.2.2.2.2.2.2.2.2.2.2.2.2.2.1, hI.2.2.2.2.2.2.2.2.2.2.2.2.2.2.2.2.2.2.2.2.2.2.2.2.2.2.2.2.2.2.1, hI.2.2.2.2.2.2.2.2.2.2.2.2.2.2.2.2.2.2.2.2.2.2.2.2.2.2.2.2.2.2.2.1, gw1_5, gz3, gw6_0, gw6_1, gw6_2, hI.2.2.2.2.2.2.2.2.2.2.2.2.2.2.2.2.2.2.2.2.2.2.2.2.2.2.2.2.2.2.2.2.2.2.2.2.2.1, hI.2.2.2.2.2.2.2.2.2.2.2.2.2.2.2.2.2.2.2.2.2.2.2.2.2.2.2.2.2.2.2.2.2.2.2.2.2.2.1, hI.2.2.2.2.2.2.2.2.2.2.2.2.2.2.2.2.2.2.2.2.2.2.2.2.2.2.2.2.2.2.2.2.2.2.2.2.2.2.2.1, hI.2.2.2.2.2.2.2.2.2.2.2.2.2.2.2.2.2.2.2.2.2.2.2.2.2.2.2.2.2.2.2.2.2.2.2.2.2.2.2.2.1, hI.2.2.2.2.2.2.2.2.2.2.2.2.2.2.2.2.2.2.2.2.2.2.2.2.2.2.2.2.2.2.2.2.2.2.2.2.2.2.2.2.2.1, hI.2.2.2.2.2.2.2.2.2.2.2.2.2.2.2.2.2.2.2.2.2.2.2.2.2.2.2.2.2.2.2.2.2.2.2.2.2.2.2.2.2.2.1, hI.2.2.2.2.2.2.2.2.2.2.2.2.2.2.2.2.2.2.2.2.2.2.2.2.2.2.2.2.2.2.2.2.2.2.2.2.2.2.2.2.2.2.2.1, hI.2.2.2.2.2.2.2.2.2.2.2.2.2.2.2.2.2.2.2.2.2.2.2.2.2.2.2.2.2.2.2.2.2.2.2.2.2.2.2.2.2.2.2.2.1, hI.2.2.2.2.2.2.2.2.2.2.2.2.2.2.2.2.2.2.2.2.2.2.2.2.2.2.2.2.2.2.2.2.2.2.2.2.2.2.2.2.2.2.2.2.2.1, hI.2.2.2.2.2.2.2.2.2.2.2.2.2.2.2.2.2.2.2.2.2.2.2.2.2.2.2.2.2.2.2.2.2.2.2.2.2.2.2.2.2.2.2.2.2.2.1, hI.2.2.2.2.2.2.2.2.2.2.2.2.2.2.2.2.2.2.2.2.2.2.2.2.2.2.2.2.2.2.2.2.2.2.2.2.2.2.2.2.2.2.2.2.2.2.2.1, hI.2.2.2.2.2.2.2.2.2.2.2.2.2.2.2.2.2.2.2.2.2.2.2.2.2.2.2.2.2.2.2.2.2.2.2.2.2.2.2.2.2.2.2.2.2.2.2.2.1, hI.2.2.2.2.2.2.2.2.2.2.2.2.2.2.2.2.2.2.2.2.2.2.2.2.2.2.2.2.2.2.2.2.2.2.2.2.2.2.2.2.2.2.2.2.2.2.2.2.2.1, hI.2.2.2.2.2.2.2.2.2.2.2.2.2.2.2.2.2.2.2.2.2.2.2.2.2.2.2.2.2.2.2.2.2.2.2.2.2.2.2.2.2.2.2.2.2.2.2.2.2.2.1, hI.2.2.2.2.2.2.2.2.2.2.2.2.2.2.2.2.2.2.2.2.2.2.2.2.2.2.2.2.2.2.2.2.2.2.2.2.2.2.2.2.2.2.2.2.2.2.2.2.2.2.2.1, hI.2.2.2.2.2.2.2.2.2.2.2.2.2.2.2.2.2.2.2.2.2.2.2.2.2.2.2.2.2.2.2.2.2.2.2.2.2.2.2.2.2.2.2.2.2.2.2.2.2.2.2.2.1, hI.2.2.2.2.2.2.2.2.2.2.2.2.2.2.2.2.2.2.2.2.2.2.2.2.2.2.2.2.2.2.2.2.2.2.2.2.2.2.2.2.2.2.2.2.2.2.2.2.2.2.2.2.2.1, hI.2.2.2.2.2.2.2.2.2.2.2.2.2.2.2.2.2.2.2.2.2.2.2.2.2.2.2.2.2.2.2.2.2.2.2.2.2.2.2.2.2.2.2.2.2.2.2.2.2.2.2.2.2.2.1, hI.2.2.2.2.2.2.2.2.2.2.2.2.2.2.2.2.2.2.2.2.2.2.2.2.2.2.2.2.2.2.2.2.2.2.2.2.2.2.2.2.2.2.2.2.2.2.2.2.2.2.2.2.2.2.2.1, hI.2.2.2.2.2.2.2.2.2.2.2.2.2.2.2.2.2.2.2.2.2.2.2.2.2.2.2.2.2.2.2.2.2.2.2.2.2.2.2.2.2.2.2.2.2.2.2.2.2.2.2.2.2.2.2.2.1, hI.2.2.2.2.2.2.2.2.2.2.2.2.2.2.2.2.2.2.2.2.2.2.2.2.2.2.2.2.2.2.2.2.2.2.2.2.2.2.2.2.2.2.2.2.2.2.2.2.2.2.2.2.2.2.2.2.2.1, hI.2.2.2.2.2.2.2.2.2.2.2.2.2.2.2.2.2.2.2.2.2.2.2.2.2.2.2.2.2.2.2.2.2.2.2.2.2.2.2.2.2.2.2.2.2.2.2.2.2.2.2.2.2.2.2.2.2.2.1, hI.2.2.2.2.2.2.2.2.2.2.2.2.2.2.2.2.2.2.2.2.2.2.2.2.2.2.2.2.2.2.2.2.2.2.2.2.2.2.2.2.2.2.2.2.2.2.2.2.2.2.2.2.2.2.2.2.2.2.2.1, hI.2.2.2.2.2.2.2.2.2.2.2.2.2.2.2.2.2.2.2.2.2.2.2.2.2.2.2.2.2.2.2.2.2.2.2.2.2.2.2.2.2.2.2.2.2.2.2.2.2.2.2.2.2.2.2.2.2.2.2.2.1, hI.2.2.2.2.2.2.2.2.2.2.2.2.2.2.2.2.2.2.2.2.2.2.2.2.2.2.2.2.2.2.2.2.2.2.2.2.2.2.2.2.2.2.2.2.2.2.2.2.2.2.2.2.2.2.2.2.2.2.2.2.2.1, hI.2.2.2.2.2.2.2.2.2.2.2.2.2.2.2.2.2.2.2.2.2.2.2.2.2.2.2.2.2.2.2.2.2.2.2.2.2.2.2.2.2.2.2.2.2.2.2.2.2.2.2.2.2.2.2.2.2.2.2.2.2.2.1, hI.2.2.2.2.2.2.2.2.2.2.2.2.2.2.2.2.2.2.2.2.2.2.2.2.2.2.2.2.2.2.2.2.2.2.2.2.2.2.2.2.2.2.2.2.2.2.2.2.2.2.2.2.2.2.2.2.2.2.2.2.2.2.2.1, hI.2.2.2.2.2.2.2.2.2.2.2.2.2.2.2.2.2.2.2.2.2.2.2.2.2.2.2.2.2.2.2.2.2.2.2.2.2.2.2.2.2.2.2.2.2.2.2.2.2.2.2.2.2.2.2.2.2.2.2.2.2.2.2.2.1, hI.2.2.2.2.2.2.2.2.2.2.2.2.2.2.2.2.2.2.2.2.2.2.2.2.2.2.2.2.2.2.2.2.2.2.2.2.2.2.2.2.2.2.2.2.2.2.2.2.2.2.2.2.2.2.2.2.2.2.2.2.2.2.2.2.2.1, hI.2.2.2.2.2.2.2.2.2.2.2.2.2.2.2.2.2.2.2.2.2.2.2.2.2.2.2.2.2.2.2.2.2.2.2.2.2.2.2.2.2.2.2.2.2.2.2.2.2.2.2.2.2.2.2.2.2.2.2.2.2.2.2.2.2.2.1, hI.2.2.2.2.2.2.2.2.2.2.2.2.2.2.2.2.2.2.2.2.2.2.2.2.2.2.2.2.2.2.2.2.2.2.2.2.2.2.2.2.2.2.2.2.2.2.2.2.2.2.2.2.2.2.2.2.2.2.2.2.2.2.2.2.2.2.2.1, hI.2.2.2.2.2.2.2.2.2.2.2.2.2.2.2.2.2.2.2.2.2.2.2.2.2.2.2.2.2.2.2.2.2.2.2.2.2.2.2.2.2.2.2.2.2.2.2.2.2.2.2.2.2.2.2.2.2.2.2.2.2.2.2.2.2.2.2.2⟩, congrArg (xt_moved vx fx gx) hE, hP3, hD3⟩, hF.1, fun q h1 h2 => hF.2 q h1 (fun h => h2 (hFr q h))⟩
  · exact gz_freeS (n := sz) [0, 19, 20, 21, 22, 23, 24, 25, 26] hC
noncomputable def xt_shifts (vx : Nat → Int32) (fx : Nat → Nat → Int32) (gx : Nat → Nat → Int64) (o : Int32 × Int32 × Int32 × Int32 × Int32 × Int32 × Int32 × Int32 × (Nat → Int32) × (Nat → Int32) × (Nat → Int32) × (Nat → Int32) × (Nat → Int64) × (Nat → Int32) × (Nat → Int32) × (Nat → Int32)) : Int32 × (Nat → Int32) × (Nat → Nat → Int32) × (Nat → Nat → Int64) := (o.1, (upd (upd (upd (upd (upd (upd (upd vx 4 o.2.1) 60 o.2.2.1) 49 o.2.2.2.1) 50 o.2.2.2.2.1) 51 o.2.2.2.2.2.1) 52 o.2.2.2.2.2.2.1) 53 o.2.2.2.2.2.2.2.1), (updF (updF (updF (updF (updF (updF (updF fx 18 o.2.2.2.2.2.2.2.2.1) 19 o.2.2.2.2.2.2.2.2.2.1) 8 o.2.2.2.2.2.2.2.2.2.2.1) 9 o.2.2.2.2.2.2.2.2.2.2.2.1) 10 o.2.2.2.2.2.2.2.2.2.2.2.2.2.1) 11 o.2.2.2.2.2.2.2.2.2.2.2.2.2.2.1) 12 o.2.2.2.2.2.2.2.2.2.2.2.2.2.2.2), (updG gx 1 o.2.2.2.2.2.2.2.2.2.2.2.2.1))
noncomputable def xs_shifts (vx : Nat → Int32) (fx : Nat → Nat → Int32) (gx : Nat → Nat → Int64) (p1 : Int32) : Int32 × (Nat → Int32) × (Nat → Nat → Int32) × (Nat → Nat → Int64) := xt_shifts vx fx gx (fX11_shifts (vx 4) (vx 60) (fx 18) (fx 19) (vx 49) (vx 50) (fx 8) (fx 9) (gx 1) (fx 10) (vx 51) (vx 52) (vx 53) (fx 11) (fx 12) (vx 11) (vx 12) (vx 13) (vx 15) (vx 16) (vx 17) (vx 19) (fx 22) (fx 23) (fx 24) (fx 25) (fx 26) (fx 27) (fx 28) (fx 29) p1)
set_option maxHeartbeats 4000000 in
set_option maxRecDepth 100000 in
theorem uX11_shifts (l : Launch) (dC : Nat → ClassId) (dI : Nat → Nat → Nat) (sz : Nat) (ax : Nat → Nat) (kx : Nat → ClassId) (vx : Nat → Int32) (fx : Nat → Nat → Int32) (gx : Nat → Nat → Int64) (rx : Nat → Nat → Nat) (hI : XI vx fx) (p1 : Int32) : Met l yX11_shifts (.code yX11_shifts cX11_shifts 2 (some .int) :: wsGA) ({ frames := 6, cells := 0, slots := 0, locals := 138 }) (va_Pc [.ref (ax 0), .int p1] (fun U => U.heap.size = sz ∧ va_P (dC, dI) vwCl (XW ax kx vx fx gx rx) U.heap ∧ va_K (dC, dI) vwCl (XT kx) U ∧ va_D (fun _ => True) (XW ax kx vx fx gx rx) ∧ nzA U)) (va_Qi (fun (r : Int32) (u : Int32) => r = u) (fun r t => XB dC dI ax kx vx fx gx rx sz (fun v f g => (r, v, f, g) = xs_shifts vx fx gx p1) t) (va_A (XW ax kx vx fx gx rx) sz)) 0 0 (va_A (XW ax kx vx fx gx rx) sz) := by
  have hC : List.map (fun i => (XW ax kx vx fx gx rx)[i]?) [0, 42, 43, 44, 27, 28, 29, 30, 31, 32, 33, 34] = ([((ax 0), .inr (11, [.ref (ax 1), .ref (ax 4), .ref (ax 8), .ref (ax 16), .ref (ax 19), .ref (ax 27), .ref (ax 35), .ref (ax 39), .ref (ax 42), .ref (ax 45), .ref (ax 46), .int (vx 0), .int (vx 1), .int (vx 2), .int (vx 3), .int (vx 4)])), ((ax 42), .inr (4, [.ref (ax 43), .ref (ax 44), .int (vx 60)])), ((ax 43), .inl ((kx 29), 25, .inl (fx 18))), ((ax 44), .inl ((kx 30), 625, .inl (fx 19))), ((ax 27), .inr (1, [.ref (ax 32), .ref (ax 28), .ref (ax 29), .ref (ax 30), .ref (ax 31), .int (vx 49), .int (vx 50)])), ((ax 28), .inl ((kx 18), 24, .inl (fx 8))), ((ax 29), .inl ((kx 19), 24, .inl (fx 9))), ((ax 30), .inl ((kx 20), 24, .inr (.inl (gx 1)))), ((ax 31), .inl ((kx 21), 25, .inl (fx 10))), ((ax 32), .inr (3, [.int (vx 51), .int (vx 52), .int (vx 53), .ref (ax 33), .ref (ax 34)])), ((ax 33), .inl ((kx 22), 25, .inl (fx 11))), ((ax 34), .inl ((kx 23), 275, .inl (fx 12)))] : va_W).map some := (gz_ixL (gz_ixL (gz_ixL (gz_ixL (gz_ixL (gz_ixL (gz_ixL (gz_ixL (gz_ixL rfl)))))))))
  have hnd : va_nd [0, 42, 43, 44, 27, 28, 29, 30, 31, 32, 33, 34] = true := (by decide +kernel)
  have hCR : List.map (fun i => (XW ax kx vx fx gx rx)[i]?) [4, 5, 6] = ([((ax 4), .inr (0, [.int (vx 11), .int (vx 12), .int (vx 13), .int (vx 14), .int (vx 15), .int (vx 16), .int (vx 17), .int (vx 18), .int (vx 19), .int (vx 20), .ref (ax 5), .ref (ax 6), .ref (ax 7)])), ((ax 5), .inl ((kx 1), 6, .inr (.inr (.inr (.inr (fun i => some (rx 0 i))))))), ((ax 6), .inl ((kx 2), 24, .inr (.inr (.inr (.inr (fun i => some (rx 1 i)))))))] : va_W).map some := (gz_ixL (gz_ixL (gz_ixL (gz_ixL (gz_ixL (gz_ixL (gz_ixL (gz_ixL (gz_ixL rfl)))))))))
  have hCF0 : List.map (fun i => (XW ax kx vx fx gx rx)[i]?) ([] ++ List.range' 47 6) = ((([] : va_W) ++ (gz_fam 6 (rx 0) 5 (fun i => [.int ((fx 22) i), .int ((fx 23) i)]))) : va_W).map some := (gz_ixapp (gz_ixL (gz_ixL (gz_ixL (gz_ixL (gz_ixL (gz_ixL (gz_ixL (gz_ixL (gz_ixL rfl))))))))) (gz_ixL (gz_ixL (gz_ixL (gz_ixL (gz_ixL (gz_ixL (gz_ixL (gz_ixL (gz_ixR (m := 47) (by simp only [List.length_append, gz_famlen, List.length_cons, List.length_nil]) gz_ixSelf))))))))))
  have hCF1 : List.map (fun i => (XW ax kx vx fx gx rx)[i]?) ([] ++ List.range' 53 24) = ((([] : va_W) ++ (gz_fam 24 (rx 1) 7 (fun i => [.int ((fx 24) i), .int ((fx 25) i), .int ((fx 26) i), .int ((fx 27) i), .int ((fx 28) i), .int ((fx 29) i)]))) : va_W).map some := (gz_ixapp (gz_ixL (gz_ixL (gz_ixL (gz_ixL (gz_ixL (gz_ixL (gz_ixL (gz_ixL (gz_ixL rfl))))))))) (gz_ixL (gz_ixL (gz_ixL (gz_ixL (gz_ixL (gz_ixL (gz_ixL (gz_ixR (m := 53) (by simp only [List.length_append, gz_famlen, List.length_cons, List.length_nil]) gz_ixSelf)))))))))
  refine gz_mono (sX11_shifts l dC dI sz (ax 0) (ax 42) (ax 43) (ax 44) (ax 27) (ax 28) (ax 29) (ax 30) (ax 31) (ax 32) (ax 33) (ax 34) (ax 4) (ax 5) (ax 6) (ax 1) (ax 8) (ax 16) (ax 19) (ax 35) (ax 39) (ax 45) (ax 46) (vx 0) (vx 1) (vx 2) (vx 3) (vx 4) (vx 60) (kx 29) (fx 18) (kx 30) (fx 19) (vx 49) (vx 50) (kx 18) (fx 8) (kx 19) (fx 9) (kx 20) (gx 1) (kx 21) (fx 10) (vx 51) (vx 52) (vx 53) (kx 22) (fx 11) (kx 23) (fx 12) (vx 11) (vx 12) (vx 13) (vx 14) (vx 15) (vx 16) (vx 17) (vx 18) (vx 19) (vx 20) (ax 7) (kx 1) (kx 2) (rx 0) (fx 22) (fx 23) (rx 1) (fx 24) (fx 25) (fx 26) (fx 27) (fx 28) (fx 29) p1 hI.1 hI.2.1 hI.2.2.1 hI.2.2.2.1 hI.2.2.2.2.2.2.2.2.2.2.2.2.2.2.2.2.2.2.2.2.2.2.2.2.2.2.2.2.2.2.2.2.2.2.2.2.2.2.2.2.2.2.2.2.2.2.2.2.1 hI.2.2.2.2.2.2.2.2.2.2.2.2.2.2.2.2.2.2.2.2.2.2.2.2.2.2.2.2.2.2.2.2.2.2.2.2.2.1 hI.2.2.2.2.2.2.2.2.2.2.2.2.2.2.2.2.2.2.2.2.2.2.2.2.2.2.2.2.2.2.2.2.2.2.2.2.2.2.1 hI.2.2.2.2.2.2.2.2.2.2.2.2.2.2.2.2.2.2.2.2.2.2.2.2.2.2.2.2.2.2.2.2.2.2.2.2.2.2.2.1 hI.2.2.2.2.2.2.2.2.2.2.2.2.2.2.2.2.2.2.2.2.2.2.2.2.2.2.2.2.2.2.2.2.2.2.2.2.2.2.2.2.1 hI.2.2.2.2.2.2.2.2.2.2.2.2.2.2.2.2.2.2.2.2.2.2.2.2.2.2.2.2.2.2.2.2.2.2.2.2.2.2.2.2.2.1 hI.2.2.2.2.2.2.2.2.1 hI.2.2.2.2.2.2.2.2.2.1 hI.2.2.2.2.2.2.2.2.2.2.1 hI.2.2.2.2.2.2.2.2.2.2.2.1 hI.2.2.2.2.2.2.2.2.2.2.2.2.1 hI.2.2.2.2.2.2.2.2.2.2.2.2.2.1 hI.2.2.2.2.2.2.2.2.2.2.2.2.2.2.1 hI.2.2.2.2.2.2.2.2.2.2.2.2.2.2.2.2.2.2.2.2.2.2.2.2.2.2.2.2.2.2.2.2.2.2.2.2.2.2.2.2.2.2.2.2.2.2.2.2.2.1 hI.2.2.2.2.2.2.2.2.2.2.2.2.2.2.2.2.2.2.2.2.2.2.2.2.2.2.2.2.2.2.2.2.2.2.2.2.2.2.2.2.2.2.2.2.2.2.2.2.2.2.1 hI.2.2.2.2.2.2.2.2.2.2.2.2.2.2.2.2.2.2.2.2.2.2.2.2.2.2.2.2.2.2.2.2.2.2.2.2.2.2.2.2.2.2.2.2.2.2.2.2.2.2.2.1) ?_ ?_ ?_
  · rintro args s ⟨rfl, hsz, hP, hK, hD, hz⟩
    exact ⟨rfl, hsz, (gz_sub hP [0, 42, 43, 44, 27, 28, 29, 30, 31, 32, 33, 34] hC), hK.sub [29, 30, 18, 19, 20, 21, 22, 23, 1, 2] rfl, hD.sub [0, 42, 43, 44, 27, 28, 29, 30, 31, 32, 33, 34] hnd hC, hz, (gz_sub hP [4, 5, 6] hCR), (gz_ap_of hsz hD hP [0, 42, 43, 44, 27, 28, 29, 30, 31, 32, 33, 34] [4, 5, 6] hC hCR (by decide +kernel)), (gz_sub hP ([] ++ List.range' 47 6) hCF0), (gz_ap_of hsz hD hP [0, 42, 43, 44, 27, 28, 29, 30, 31, 32, 33, 34] ([] ++ List.range' 47 6) hC hCF0 (by decide +kernel)), (gz_sub hP ([] ++ List.range' 53 24) hCF1), (gz_ap_of hsz hD hP [0, 42, 43, 44, 27, 28, 29, 30, 31, 32, 33, 34] ([] ++ List.range' 53 24) hC hCF1 (by decide +kernel))⟩
  · rintro args s o t ⟨rfl, hsz, hP, hK, hD, hz⟩ ⟨⟨r, u, ho, hw, hB⟩, hF⟩
    obtain ⟨w0_15, w1_2, w4_5, w4_6, w9_0, w9_1, w9_2, z2, z3, z5, z6, z7, z8, z10, z11, hB⟩ := hB
    obtain ⟨gw0_15, gw1_2, gw4_5, gw9_0, gw9_1, gw9_2, gz6, hE, hP1, hD1⟩ := hB
    obtain ⟨hu9, hw⟩ := hw
    subst hu9
    subst hsz
    have hD0 := hD.self (sz := s.heap.size)
    have hFr := gz_freeS (n := s.heap.size) [0, 42, 43, 44, 27, 28, 29, 30, 31, 32, 33, 34] hC
    obtain ⟨hP2, hD2⟩ := va_join (wr := (([((ax 1), .inr (6, [.ref (ax 2), .ref (ax 12), .int (vx 5), .int (vx 6), .int (vx 7), .int (vx 8), .int (vx 9)])), ((ax 2), .inr (10, [.ref (ax 3), .int (vx 10)])), ((ax 3), .inl ((kx 0), 1600, .inl (fx 0))), ((ax 4), .inr (0, [.int (vx 11), .int (vx 12), .int (vx 13), .int (vx 14), .int (vx 15), .int (vx 16), .int (vx 17), .int (vx 18), .int (vx 19), .int (vx 20), .ref (ax 5), .ref (ax 6), .ref (ax 7)])), ((ax 5), .inl ((kx 1), 6, .inr (.inr (.inr (.inr (fun i => some (rx 0 i))))))), ((ax 6), .inl ((kx 2), 24, .inr (.inr (.inr (.inr (fun i => some (rx 1 i))))))), ((ax 7), .inl ((kx 3), 8, .inr (.inr (.inr (.inr (fun i => some (rx 2 i))))))), ((ax 8), .inr (0, [.int (vx 21), .int (vx 22), .int (vx 23), .int (vx 24), .int (vx 25), .int (vx 26), .int (vx 27), .int (vx 28), .int (vx 29), .int (vx 30), .ref (ax 9), .ref (ax 10), .ref (ax 11)])), ((ax 9), .inl ((kx 4), 6, .inr (.inr (.inr (.inr (fun i => some (rx 3 i))))))), ((ax 10), .inl ((kx 5), 24, .inr (.inr (.inr (.inr (fun i => some (rx 4 i))))))), ((ax 11), .inl ((kx 6), 8, .inr (.inr (.inr (.inr (fun i => some (rx 5 i))))))), ((ax 12), .inr (0, [.int (vx 31), .int (vx 32), .int (vx 33), .int (vx 34), .int (vx 35), .int (vx 36), .int (vx 37), .int (vx 38), .int (vx 39), .int (vx 40), .ref (ax 13), .ref (ax 14), .ref (ax 15)])), ((ax 13), .inl ((kx 7), 6, .inr (.inr (.inr (.inr (fun i => some (rx 6 i))))))), ((ax 14), .inl ((kx 8), 24, .inr (.inr (.inr (.inr (fun i => some (rx 7 i))))))), ((ax 15), .inl ((kx 9), 8, .inr (.inr (.inr (.inr (fun i => some (rx 8 i))))))), ((ax 16), .inr (3, [.int (vx 41), .int (vx 42), .int (vx 43), .ref (ax 17), .ref (ax 18)])), ((ax 17), .inl ((kx 10), 25, .inl (fx 1))), ((ax 18), .inl ((kx 11), 275, .inl (fx 2))), ((ax 19), .inr (1, [.ref (ax 24), .ref (ax 20), .ref (ax 21), .ref (ax 22), .ref (ax 23), .int (vx 44), .int (vx 45)])), ((ax 20), .inl ((kx 12), 24, .inl (fx 3))), ((ax 21), .inl ((kx 13), 24, .inl (fx 4))), ((ax 22), .inl ((kx 14), 24, .inr (.inl (gx 0)))), ((ax 23), .inl ((kx 15), 25, .inl (fx 5))), ((ax 24), .inr (3, [.int (vx 46), .int (vx 47), .int (vx 48), .ref (ax 25), .ref (ax 26)])), ((ax 25), .inl ((kx 16), 25, .inl (fx 6))), ((ax 26), .inl ((kx 17), 275, .inl (fx 7))), ((ax 35), .inr (9, [.ref (ax 36), .ref (ax 37), .ref (ax 38), .int (vx 54), .int (vx 55), .int (vx 56)])), ((ax 36), .inl ((kx 24), 3575, .inl (fx 13))), ((ax 37), .inl ((kx 25), 3575, .inl (fx 14))), ((ax 38), .inl ((kx 26), 325, .inl (fx 15))), ((ax 39), .inr (8, [.ref (ax 40), .ref (ax 41), .int (vx 57), .int (vx 58), .int (vx 59)])), ((ax 40), .inl ((kx 27), 325, .inl (fx 16))), ((ax 41), .inl ((kx 28), 3575, .inl (fx 17))), ((ax 45), .inl ((kx 31), 25, .inl (fx 20))), ((ax 46), .inl ((kx 32), 72, .inl (fx 21)))] : va_W) ++ (gz_fam 6 (rx 0) 5 (fun i => [.int ((fx 22) i), .int ((fx 23) i)])) ++ (gz_fam 24 (rx 1) 7 (fun i => [.int ((fx 24) i), .int ((fx 25) i), .int ((fx 26) i), .int ((fx 27) i), .int ((fx 28) i), .int ((fx 29) i)])) ++ (gz_fam 8 (rx 2) 2 (fun i => [.int ((fx 30) i), .int ((fx 31) i), .int ((fx 32) i), .int ((fx 33) i)])) ++ (gz_fam 6 (rx 3) 5 (fun i => [.int ((fx 34) i), .int ((fx 35) i)])) ++ (gz_fam 24 (rx 4) 7 (fun i => [.int ((fx 36) i), .int ((fx 37) i), .int ((fx 38) i), .int ((fx 39) i), .int ((fx 40) i), .int ((fx 41) i)])) ++ (gz_fam 8 (rx 5) 2 (fun i => [.int ((fx 42) i), .int ((fx 43) i), .int ((fx 44) i), .int ((fx 45) i)])) ++ (gz_fam 6 (rx 6) 5 (fun i => [.int ((fx 46) i), .int ((fx 47) i)])) ++ (gz_fam 24 (rx 7) 7 (fun i => [.int ((fx 48) i), .int ((fx 49) i), .int ((fx 50) i), .int ((fx 51) i), .int ((fx 52) i), .int ((fx 53) i)])) ++ (gz_fam 8 (rx 8) 2 (fun i => [.int ((fx 54) i), .int ((fx 55) i), .int ((fx 56) i), .int ((fx 57) i)])))) (w1 := [((ax 0), .inr (11, [.ref (ax 1), .ref (ax 4), .ref (ax 8), .ref (ax 16), .ref (ax 19), .ref (ax 27), .ref (ax 35), .ref (ax 39), .ref (ax 42), .ref (ax 45), .ref (ax 46), .int (vx 0), .int (vx 1), .int (vx 2), .int (vx 3), .int w0_15])), ((ax 42), .inr (4, [.ref (ax 43), .ref (ax 44), .int w1_2])), ((ax 43), .inl ((kx 29), 25, .inl z2)), ((ax 44), .inl ((kx 30), 625, .inl z3)), ((ax 27), .inr (1, [.ref (ax 32), .ref (ax 28), .ref (ax 29), .ref (ax 30), .ref (ax 31), .int w4_5, .int w4_6])), ((ax 28), .inl ((kx 18), 24, .inl z5)), ((ax 29), .inl ((kx 19), 24, .inl z6)), ((ax 30), .inl ((kx 20), 24, .inr (.inl z7))), ((ax 31), .inl ((kx 21), 25, .inl z8)), ((ax 32), .inr (3, [.int w9_0, .int w9_1, .int w9_2, .ref (ax 33), .ref (ax 34)])), ((ax 33), .inl ((kx 22), 25, .inl z10)), ((ax 34), .inl ((kx 23), 275, .inl z11))]) hP hD0 [0, 42, 43, 44, 27, 28, 29, 30, 31, 32, 33, 34] ([1, 2, 3, 4, 5, 6, 7, 8, 9, 10, 11, 12, 13, 14, 15, 16, 17, 18, 19, 20, 21, 22, 23, 24, 25, 26, 35, 36, 37, 38, 39, 40, 41, 45, 46] ++ List.range' 47 6 ++ List.range' 53 24 ++ List.range' 77 8 ++ List.range' 85 6 ++ List.range' 91 24 ++ List.range' 115 8 ++ List.range' 123 6 ++ List.range' 129 24 ++ List.range' 153 8) hC (gz_ixapp (gz_ixapp (gz_ixapp (gz_ixapp (gz_ixapp (gz_ixapp (gz_ixapp (gz_ixapp (gz_ixapp (gz_ixL (gz_ixL (gz_ixL (gz_ixL (gz_ixL (gz_ixL (gz_ixL (gz_ixL (gz_ixL rfl))))))))) (gz_ixL (gz_ixL (gz_ixL (gz_ixL (gz_ixL (gz_ixL (gz_ixL (gz_ixL (gz_ixR (m := 47) (by simp only [List.length_append, gz_famlen, List.length_cons, List.length_nil]) gz_ixSelf)))))))))) (gz_ixL (gz_ixL (gz_ixL (gz_ixL (gz_ixL (gz_ixL (gz_ixL (gz_ixR (m := 53) (by simp only [List.length_append, gz_famlen, List.length_cons, List.length_nil]) gz_ixSelf))))))))) (gz_ixL (gz_ixL (gz_ixL (gz_ixL (gz_ixL (gz_ixL (gz_ixR (m := 77) (by simp only [List.length_append, gz_famlen, List.length_cons, List.length_nil]) gz_ixSelf)))))))) (gz_ixL (gz_ixL (gz_ixL (gz_ixL (gz_ixL (gz_ixR (m := 85) (by simp only [List.length_append, gz_famlen, List.length_cons, List.length_nil]) gz_ixSelf))))))) (gz_ixL (gz_ixL (gz_ixL (gz_ixL (gz_ixR (m := 91) (by simp only [List.length_append, gz_famlen, List.length_cons, List.length_nil]) gz_ixSelf)))))) (gz_ixL (gz_ixL (gz_ixL (gz_ixR (m := 115) (by simp only [List.length_append, gz_famlen, List.length_cons, List.length_nil]) gz_ixSelf))))) (gz_ixL (gz_ixL (gz_ixR (m := 123) (by simp only [List.length_append, gz_famlen, List.length_cons, List.length_nil]) gz_ixSelf)))) (gz_ixL (gz_ixR (m := 129) (by simp only [List.length_append, gz_famlen, List.length_cons, List.length_nil]) gz_ixSelf))) (gz_ixR (m := 153) (by simp only [List.length_append, gz_famlen, List.length_cons, List.length_nil]) gz_ixSelf)) (by decide +kernel) (by decide +kernel) hF.2 hFr hP1 hD1
    have hN := gz_sub (gw_PA (gw_PR hP2) (gw_PL (gw_PL (gw_PL (gw_PL (gw_PL (gw_PL (gw_PL (gw_PL (gw_PL (gw_PL hP2))))))))))) (ws' := [((ax 0), .inr (11, [.ref (ax 1), .ref (ax 4), .ref (ax 8), .ref (ax 16), .ref (ax 19), .ref (ax 27), .ref (ax 35), .ref (ax 39), .ref (ax 42), .ref (ax 45), .ref (ax 46), .int (vx 0), .int (vx 1), .int (vx 2), .int (vx 3), .int w0_15])), ((ax 1), .inr (6, [.ref (ax 2), .ref (ax 12), .int (vx 5), .int (vx 6), .int (vx 7), .int (vx 8), .int (vx 9)])), ((ax 2), .inr (10, [.ref (ax 3), .int (vx 10)])), ((ax 3), .inl ((kx 0), 1600, .inl (fx 0))), ((ax 4), .inr (0, [.int (vx 11), .int (vx 12), .int (vx 13), .int (vx 14), .int (vx 15), .int (vx 16), .int (vx 17), .int (vx 18), .int (vx 19), .int (vx 20), .ref (ax 5), .ref (ax 6), .ref (ax 7)])), ((ax 5), .inl ((kx 1), 6, .inr (.inr (.inr (.inr (fun i => some (rx 0 i))))))), ((ax 6), .inl ((kx 2), 24, .inr (.inr (.inr (.inr (fun i => some (rx 1 i))))))), ((ax 7), .inl ((kx 3), 8, .inr (.inr (.inr (.inr (fun i => some (rx 2 i))))))), ((ax 8), .inr (0, [.int (vx 21), .int (vx 22), .int (vx 23), .int (vx 24), .int (vx 25), .int (vx 26), .int (vx 27), .int (vx 28), .int (vx 29), .int (vx 30), .ref (ax 9), .ref (ax 10), .ref (ax 11)])), ((ax 9), .inl ((kx 4), 6, .inr (.inr (.inr (.inr (fun i => some (rx 3 i))))))), ((ax 10), .inl ((kx 5), 24, .inr (.inr (.inr (.inr (fun i => some (rx 4 i))))))), ((ax 11), .inl ((kx 6), 8, .inr (.inr (.inr (.inr (fun i => some (rx 5 i))))))), ((ax 12), .inr (0, [.int (vx 31), .int (vx 32), .int (vx 33), .int (vx 34), .int (vx 35), .int (vx 36), .int (vx 37), .int (vx 38), .int (vx 39), .int (vx 40), .ref (ax 13), .ref (ax 14), .ref (ax 15)])), ((ax 13), .inl ((kx 7), 6, .inr (.inr (.inr (.inr (fun i => some (rx 6 i))))))), ((ax 14), .inl ((kx 8), 24, .inr (.inr (.inr (.inr (fun i => some (rx 7 i))))))), ((ax 15), .inl ((kx 9), 8, .inr (.inr (.inr (.inr (fun i => some (rx 8 i))))))), ((ax 16), .inr (3, [.int (vx 41), .int (vx 42), .int (vx 43), .ref (ax 17), .ref (ax 18)])), ((ax 17), .inl ((kx 10), 25, .inl (fx 1))), ((ax 18), .inl ((kx 11), 275, .inl (fx 2))), ((ax 19), .inr (1, [.ref (ax 24), .ref (ax 20), .ref (ax 21), .ref (ax 22), .ref (ax 23), .int (vx 44), .int (vx 45)])), ((ax 20), .inl ((kx 12), 24, .inl (fx 3))), ((ax 21), .inl ((kx 13), 24, .inl (fx 4))), ((ax 22), .inl ((kx 14), 24, .inr (.inl (gx 0)))), ((ax 23), .inl ((kx 15), 25, .inl (fx 5))), ((ax 24), .inr (3, [.int (vx 46), .int (vx 47), .int (vx 48), .ref (ax 25), .ref (ax 26)])), ((ax 25), .inl ((kx 16), 25, .inl (fx 6))), ((ax 26), .inl ((kx 17), 275, .inl (fx 7))), ((ax 27), .inr (1, [.ref (ax 32), .ref (ax 28), .ref (ax 29), .ref (ax 30), .ref (ax 31), .int w4_5, .int w4_6])), ((ax 28), .inl ((kx 18), 24, .inl z5)), ((ax 29), .inl ((kx 19), 24, .inl z6)), ((ax 30), .inl ((kx 20), 24, .inr (.inl z7))), ((ax 31), .inl ((kx 21), 25, .inl z8)), ((ax 32), .inr (3, [.int w9_0, .int w9_1, .int w9_2, .ref (ax 33), .ref (ax 34)])), ((ax 33), .inl ((kx 22), 25, .inl z10)), ((ax 34), .inl ((kx 23), 275, .inl z11)), ((ax 35), .inr (9, [.ref (ax 36), .ref (ax 37), .ref (ax 38), .int (vx 54), .int (vx 55), .int (vx 56)])), ((ax 36), .inl ((kx 24), 3575, .inl (fx 13))), ((ax 37), .inl ((kx 25), 3575, .inl (fx 14))), ((ax 38), .inl ((kx 26), 325, .inl (fx 15))), ((ax 39), .inr (8, [.ref (ax 40), .ref (ax 41), .int (vx 57), .int (vx 58), .int (vx 59)])), ((ax 40), .inl ((kx 27), 325, .inl (fx 16))), ((ax 41), .inl ((kx 28), 3575, .inl (fx 17))), ((ax 42), .inr (4, [.ref (ax 43), .ref (ax 44), .int w1_2])), ((ax 43), .inl ((kx 29), 25, .inl z2)), ((ax 44), .inl ((kx 30), 625, .inl z3)), ((ax 45), .inl ((kx 31), 25, .inl (fx 20))), ((ax 46), .inl ((kx 32), 72, .inl (fx 21)))]) [0, 12, 13, 14, 15, 16, 17, 18, 19, 20, 21, 22, 23, 24, 25, 26, 27, 28, 29, 30, 31, 32, 33, 34, 35, 36, 37, 4, 5, 6, 7, 8, 9, 10, 11, 38, 39, 40, 41, 42, 43, 44, 1, 2, 3, 45, 46] rfl
    have hP3 : va_P (dC, dI) vwCl (([((ax 0), .inr (11, [.ref (ax 1), .ref (ax 4), .ref (ax 8), .ref (ax 16), .ref (ax 19), .ref (ax 27), .ref (ax 35), .ref (ax 39), .ref (ax 42), .ref (ax 45), .ref (ax 46), .int (vx 0), .int (vx 1), .int (vx 2), .int (vx 3), .int w0_15])), ((ax 1), .inr (6, [.ref (ax 2), .ref (ax 12), .int (vx 5), .int (vx 6), .int (vx 7), .int (vx 8), .int (vx 9)])), ((ax 2), .inr (10, [.ref (ax 3), .int (vx 10)])), ((ax 3), .inl ((kx 0), 1600, .inl (fx 0))), ((ax 4), .inr (0, [.int (vx 11), .int (vx 12), .int (vx 13), .int (vx 14), .int (vx 15), .int (vx 16), .int (vx 17), .int (vx 18), .int (vx 19), .int (vx 20), .ref (ax 5), .ref (ax 6), .ref (ax 7)])), ((ax 5), .inl ((kx 1), 6, .inr (.inr (.inr (.inr (fun i => some (rx 0 i))))))), ((ax 6), .inl ((kx 2), 24, .inr (.inr (.inr (.inr (fun i => some (rx 1 i))))))), ((ax 7), .inl ((kx 3), 8, .inr (.inr (.inr (.inr (fun i => some (rx 2 i))))))), ((ax 8), .inr (0, [.int (vx 21), .int (vx 22), .int (vx 23), .int (vx 24), .int (vx 25), .int (vx 26), .int (vx 27), .int (vx 28), .int (vx 29), .int (vx 30), .ref (ax 9), .ref (ax 10), .ref (ax 11)])), ((ax 9), .inl ((kx 4), 6, .inr (.inr (.inr (.inr (fun i => some (rx 3 i))))))), ((ax 10), .inl ((kx 5), 24, .inr (.inr (.inr (.inr (fun i => some (rx 4 i))))))), ((ax 11), .inl ((kx 6), 8, .inr (.inr (.inr (.inr (fun i => some (rx 5 i))))))), ((ax 12), .inr (0, [.int (vx 31), .int (vx 32), .int (vx 33), .int (vx 34), .int (vx 35), .int (vx 36), .int (vx 37), .int (vx 38), .int (vx 39), .int (vx 40), .ref (ax 13), .ref (ax 14), .ref (ax 15)])), ((ax 13), .inl ((kx 7), 6, .inr (.inr (.inr (.inr (fun i => some (rx 6 i))))))), ((ax 14), .inl ((kx 8), 24, .inr (.inr (.inr (.inr (fun i => some (rx 7 i))))))), ((ax 15), .inl ((kx 9), 8, .inr (.inr (.inr (.inr (fun i => some (rx 8 i))))))), ((ax 16), .inr (3, [.int (vx 41), .int (vx 42), .int (vx 43), .ref (ax 17), .ref (ax 18)])), ((ax 17), .inl ((kx 10), 25, .inl (fx 1))), ((ax 18), .inl ((kx 11), 275, .inl (fx 2))), ((ax 19), .inr (1, [.ref (ax 24), .ref (ax 20), .ref (ax 21), .ref (ax 22), .ref (ax 23), .int (vx 44), .int (vx 45)])), ((ax 20), .inl ((kx 12), 24, .inl (fx 3))), ((ax 21), .inl ((kx 13), 24, .inl (fx 4))), ((ax 22), .inl ((kx 14), 24, .inr (.inl (gx 0)))), ((ax 23), .inl ((kx 15), 25, .inl (fx 5))), ((ax 24), .inr (3, [.int (vx 46), .int (vx 47), .int (vx 48), .ref (ax 25), .ref (ax 26)])), ((ax 25), .inl ((kx 16), 25, .inl (fx 6))), ((ax 26), .inl ((kx 17), 275, .inl (fx 7))), ((ax 27), .inr (1, [.ref (ax 32), .ref (ax 28), .ref (ax 29), .ref (ax 30), .ref (ax 31), .int w4_5, .int w4_6])), ((ax 28), .inl ((kx 18), 24, .inl z5)), ((ax 29), .inl ((kx 19), 24, .inl z6)), ((ax 30), .inl ((kx 20), 24, .inr (.inl z7))), ((ax 31), .inl ((kx 21), 25, .inl z8)), ((ax 32), .inr (3, [.int w9_0, .int w9_1, .int w9_2, .ref (ax 33), .ref (ax 34)])), ((ax 33), .inl ((kx 22), 25, .inl z10)), ((ax 34), .inl ((kx 23), 275, .inl z11)), ((ax 35), .inr (9, [.ref (ax 36), .ref (ax 37), .ref (ax 38), .int (vx 54), .int (vx 55), .int (vx 56)])), ((ax 36), .inl ((kx 24), 3575, .inl (fx 13))), ((ax 37), .inl ((kx 25), 3575, .inl (fx 14))), ((ax 38), .inl ((kx 26), 325, .inl (fx 15))), ((ax 39), .inr (8, [.ref (ax 40), .ref (ax 41), .int (vx 57), .int (vx 58), .int (vx 59)])), ((ax 40), .inl ((kx 27), 325, .inl (fx 16))), ((ax 41), .inl ((kx 28), 3575, .inl (fx 17))), ((ax 42), .inr (4, [.ref (ax 43), .ref (ax 44), .int w1_2])), ((ax 43), .inl ((kx 29), 25, .inl z2)), ((ax 44), .inl ((kx 30), 625, .inl z3)), ((ax 45), .inl ((kx 31), 25, .inl (fx 20))), ((ax 46), .inl ((kx 32), 72, .inl (fx 21)))] : va_W) ++ (gz_fam 6 (rx 0) 5 (fun i => [.int ((fx 22) i), .int ((fx 23) i)])) ++ (gz_fam 24 (rx 1) 7 (fun i => [.int ((fx 24) i), .int ((fx 25) i), .int ((fx 26) i), .int ((fx 27) i), .int ((fx 28) i), .int ((fx 29) i)])) ++ (gz_fam 8 (rx 2) 2 (fun i => [.int ((fx 30) i), .int ((fx 31) i), .int ((fx 32) i), .int ((fx 33) i)])) ++ (gz_fam 6 (rx 3) 5 (fun i => [.int ((fx 34) i), .int ((fx 35) i)])) ++ (gz_fam 24 (rx 4) 7 (fun i => [.int ((fx 36) i), .int ((fx 37) i), .int ((fx 38) i), .int ((fx 39) i), .int ((fx 40) i), .int ((fx 41) i)])) ++ (gz_fam 8 (rx 5) 2 (fun i => [.int ((fx 42) i), .int ((fx 43) i), .int ((fx 44) i), .int ((fx 45) i)])) ++ (gz_fam 6 (rx 6) 5 (fun i => [.int ((fx 46) i), .int ((fx 47) i)])) ++ (gz_fam 24 (rx 7) 7 (fun i => [.int ((fx 48) i), .int ((fx 49) i), .int ((fx 50) i), .int ((fx 51) i), .int ((fx 52) i), .int ((fx 53) i)])) ++ (gz_fam 8 (rx 8) 2 (fun i => [.int ((fx 54) i), .int ((fx 55) i), .int ((fx 56) i), .int ((fx 57) i)]))) t.heap := (gw_PA (gw_PA (gw_PA (gw_PA (gw_PA (gw_PA (gw_PA (gw_PA (gw_PA hN (gw_PR (gw_PL (gw_PL (gw_PL (gw_PL (gw_PL (gw_PL (gw_PL (gw_PL (gw_PL hP2))))))))))) (gw_PR (gw_PL (gw_PL (gw_PL (gw_PL (gw_PL (gw_PL (gw_PL (gw_PL hP2)))))))))) (gw_PR (gw_PL (gw_PL (gw_PL (gw_PL (gw_PL (gw_PL (gw_PL hP2))))))))) (gw_PR (gw_PL (gw_PL (gw_PL (gw_PL (gw_PL (gw_PL hP2)))))))) (gw_PR (gw_PL (gw_PL (gw_PL (gw_PL (gw_PL hP2))))))) (gw_PR (gw_PL (gw_PL (gw_PL (gw_PL hP2)))))) (gw_PR (gw_PL (gw_PL (gw_PL hP2))))) (gw_PR (gw_PL (gw_PL hP2)))) (gw_PR (gw_PL hP2)))
    have hD3 : va_D _ (([((ax 0), .inr (11, [.ref (ax 1), .ref (ax 4), .ref (ax 8), .ref (ax 16), .ref (ax 19), .ref (ax 27), .ref (ax 35), .ref (ax 39), .ref (ax 42), .ref (ax 45), .ref (ax 46), .int (vx 0), .int (vx 1), .int (vx 2), .int (vx 3), .int w0_15])), ((ax 1), .inr (6, [.ref (ax 2), .ref (ax 12), .int (vx 5), .int (vx 6), .int (vx 7), .int (vx 8), .int (vx 9)])), ((ax 2), .inr (10, [.ref (ax 3), .int (vx 10)])), ((ax 3), .inl ((kx 0), 1600, .inl (fx 0))), ((ax 4), .inr (0, [.int (vx 11), .int (vx 12), .int (vx 13), .int (vx 14), .int (vx 15), .int (vx 16), .int (vx 17), .int (vx 18), .int (vx 19), .int (vx 20), .ref (ax 5), .ref (ax 6), .ref (ax 7)])), ((ax 5), .inl ((kx 1), 6, .inr (.inr (.inr (.inr (fun i => some (rx 0 i))))))), ((ax 6), .inl ((kx 2), 24, .inr (.inr (.inr (.inr (fun i => some (rx 1 i))))))), ((ax 7), .inl ((kx 3), 8, .inr (.inr (.inr (.inr (fun i => some (rx 2 i))))))), ((ax 8), .inr (0, [.int (vx 21), .int (vx 22), .int (vx 23), .int (vx 24), .int (vx 25), .int (vx 26), .int (vx 27), .int (vx 28), .int (vx 29), .int (vx 30), .ref (ax 9), .ref (ax 10), .ref (ax 11)])), ((ax 9), .inl ((kx 4), 6, .inr (.inr (.inr (.inr (fun i => some (rx 3 i))))))), ((ax 10), .inl ((kx 5), 24, .inr (.inr (.inr (.inr (fun i => some (rx 4 i))))))), ((ax 11), .inl ((kx 6), 8, .inr (.inr (.inr (.inr (fun i => some (rx 5 i))))))), ((ax 12), .inr (0, [.int (vx 31), .int (vx 32), .int (vx 33), .int (vx 34), .int (vx 35), .int (vx 36), .int (vx 37), .int (vx 38), .int (vx 39), .int (vx 40), .ref (ax 13), .ref (ax 14), .ref (ax 15)])), ((ax 13), .inl ((kx 7), 6, .inr (.inr (.inr (.inr (fun i => some (rx 6 i))))))), ((ax 14), .inl ((kx 8), 24, .inr (.inr (.inr (.inr (fun i => some (rx 7 i))))))), ((ax 15), .inl ((kx 9), 8, .inr (.inr (.inr (.inr (fun i => some (rx 8 i))))))), ((ax 16), .inr (3, [.int (vx 41), .int (vx 42), .int (vx 43), .ref (ax 17), .ref (ax 18)])), ((ax 17), .inl ((kx 10), 25, .inl (fx 1))), ((ax 18), .inl ((kx 11), 275, .inl (fx 2))), ((ax 19), .inr (1, [.ref (ax 24), .ref (ax 20), .ref (ax 21), .ref (ax 22), .ref (ax 23), .int (vx 44), .int (vx 45)])), ((ax 20), .inl ((kx 12), 24, .inl (fx 3))), ((ax 21), .inl ((kx 13), 24, .inl (fx 4))), ((ax 22), .inl ((kx 14), 24, .inr (.inl (gx 0)))), ((ax 23), .inl ((kx 15), 25, .inl (fx 5))), ((ax 24), .inr (3, [.int (vx 46), .int (vx 47), .int (vx 48), .ref (ax 25), .ref (ax 26)])), ((ax 25), .inl ((kx 16), 25, .inl (fx 6))), ((ax 26), .inl ((kx 17), 275, .inl (fx 7))), ((ax 27), .inr (1, [.ref (ax 32), .ref (ax 28), .ref (ax 29), .ref (ax 30), .ref (ax 31), .int w4_5, .int w4_6])), ((ax 28), .inl ((kx 18), 24, .inl z5)), ((ax 29), .inl ((kx 19), 24, .inl z6)), ((ax 30), .inl ((kx 20), 24, .inr (.inl z7))), ((ax 31), .inl ((kx 21), 25, .inl z8)), ((ax 32), .inr (3, [.int w9_0, .int w9_1, .int w9_2, .ref (ax 33), .ref (ax 34)])), ((ax 33), .inl ((kx 22), 25, .inl z10)), ((ax 34), .inl ((kx 23), 275, .inl z11)), ((ax 35), .inr (9, [.ref (ax 36), .ref (ax 37), .ref (ax 38), .int (vx 54), .int (vx 55), .int (vx 56)])), ((ax 36), .inl ((kx 24), 3575, .inl (fx 13))), ((ax 37), .inl ((kx 25), 3575, .inl (fx 14))), ((ax 38), .inl ((kx 26), 325, .inl (fx 15))), ((ax 39), .inr (8, [.ref (ax 40), .ref (ax 41), .int (vx 57), .int (vx 58), .int (vx 59)])), ((ax 40), .inl ((kx 27), 325, .inl (fx 16))), ((ax 41), .inl ((kx 28), 3575, .inl (fx 17))), ((ax 42), .inr (4, [.ref (ax 43), .ref (ax 44), .int w1_2])), ((ax 43), .inl ((kx 29), 25, .inl z2)), ((ax 44), .inl ((kx 30), 625, .inl z3)), ((ax 45), .inl ((kx 31), 25, .inl (fx 20))), ((ax 46), .inl ((kx 32), 72, .inl (fx 21)))] : va_W) ++ (gz_fam 6 (rx 0) 5 (fun i => [.int ((fx 22) i), .int ((fx 23) i)])) ++ (gz_fam 24 (rx 1) 7 (fun i => [.int ((fx 24) i), .int ((fx 25) i), .int ((fx 26) i), .int ((fx 27) i), .int ((fx 28) i), .int ((fx 29) i)])) ++ (gz_fam 8 (rx 2) 2 (fun i => [.int ((fx 30) i), .int ((fx 31) i), .int ((fx 32) i), .int ((fx 33) i)])) ++ (gz_fam 6 (rx 3) 5 (fun i => [.int ((fx 34) i), .int ((fx 35) i)])) ++ (gz_fam 24 (rx 4) 7 (fun i => [.int ((fx 36) i), .int ((fx 37) i), .int ((fx 38) i), .int ((fx 39) i), .int ((fx 40) i), .int ((fx 41) i)])) ++ (gz_fam 8 (rx 5) 2 (fun i => [.int ((fx 42) i), .int ((fx 43) i), .int ((fx 44) i), .int ((fx 45) i)])) ++ (gz_fam 6 (rx 6) 5 (fun i => [.int ((fx 46) i), .int ((fx 47) i)])) ++ (gz_fam 24 (rx 7) 7 (fun i => [.int ((fx 48) i), .int ((fx 49) i), .int ((fx 50) i), .int ((fx 51) i), .int ((fx 52) i), .int ((fx 53) i)])) ++ (gz_fam 8 (rx 8) 2 (fun i => [.int ((fx 54) i), .int ((fx 55) i), .int ((fx 56) i), .int ((fx 57) i)]))) := gw_D hD0 (gw_ma (gw_ma (gw_ma (gw_ma (gw_ma (gw_ma (gw_ma (gw_ma (gw_ma rfl gw_mf) gw_mf) gw_mf) gw_mf) gw_mf) gw_mf) gw_mf) gw_mf) gw_mf)
    exact ⟨⟨r, r, ho, rfl, ax, kx, (upd (upd (upd (upd (upd (upd (upd vx 4 w0_15) 60 w1_2) 49 w4_5) 50 w4_6) 51 w9_0) 52 w9_1) 53 w9_2), (updF (updF (updF (updF (updF (updF (updF fx 18 z2) 19 z3) 8 z5) 9 z6) 10 z8) 11 z10) 12 z11), (updG gx 1 z7), rx, fun U h => h, rfl, ⟨hI.1, hI.2.1, hI.2.2.1, gw0_15, hI.2.2.2.2.1, hI.2.2.2.2.2.1, hI.2.2.2.2.2.2.1, hI.2.2.2.2.2.2.2.1, hI.2.2.2.2.2.2.2.2.1, hI.2.2.2.2.2.2.2.2.2.1, hI.2.2.2.2.2.2.2.2.2.2.1, hI.2.2.2.2.2.2.2.2.2.2.2.1, hI.2.2.2.2.2.2.2.2.2.2.2.2.1, hI.2.2.2.2.2.2.2.2.2.2.2.2.2.1, hI.2.2.2.2.2.2.2.2.2.2.2.2.2.2.1, hI.2.2.2.2.2.2.2.2.2.2.2.2.2.2.2.1, hI.2.2.2.2.2.2.2.2.2.2.2.2.2.2.2.2.1, hI.2.2.2.2.2.2.2.2.2.2.2.2.2.2.2.2.2.1, hI.2.2.2.2.2.2.2.2.2.2.2.2.2.2.2.2.2.2.1, hI.2.2.2.2.2.2.2.2.2.2.2.2.2.2.2.2.2.2.2.1, hI.2.2.2.2.2.2.2.2.2.2.2.2.2.2.2.2.2.2.2.2.1, hI.2.2.2.2.2.2.2.2.2.2.2.2.2.2.2.2.2.2.2.2.2.1, hI.2.2.2.2.2.2.2.2.2.2.2.2.2.2.2.2.2.2.2.2.2.2.1, hI.2.2.2.2.2.2.2.2.2.2.2.2.2.2.2.2.2.2.2.2.2.2.2.1, hI.2.2.2.2.2.2.2.2.2.2.2.2.2.2.2.2.2.2.2.2.2.2.2.2.1, hI.2.2.2.2.2.2.2.2.2.2.2.2.2.2.2.2.2.2.2.2.2.2.2.2.2.1, hI.2.2.2.2.2.2.2.2.2.2.2.2.2.2.2.2.2.2.2.2.2.2.2.2.2.2.1, hI.2.2.2.2.2.2.2.2.2.2.2.2.2.2.2.2.2.2.2.2.2.2.2.2.2.2.2.1, hI.2.2.2.2.2.2.2.2.2.2.2.2.2.2.2.2.2.2.2.2.2.2.2.2.2.2.2.2.1, hI.2.2.2.2.2.2.2.2.2.2.2.2.2.2.2.2.2.2.2.2.2.2.2.2.2.2.2.2.2.1, hI.2.2.2.2.2.2.2.2.2.2.2.2.2.2.2.2.2.2.2.2.2.2.2.2.2.2.2.2.2.2.1, hI.2.2.2.2.2.2.2.2.2.2.2.2.2.2.2.2.2.2.2.2.2.2.2.2.2.2.2.2.2.2.2.1, hI.2.2.2.2.2.2.2.2.2.2.2.2.2.2.2.2.2.2.2.2.2.2.2.2.2.2.2.2.2.2.2.2.1, hI.2.2.2.2.2.2.2.2.2.2.2.2.2.2.2.2.2.2.2.2.2.2.2.2.2.2.2.2.2.2.2.2.2.1, hI.2.2.2.2.2.2.2.2.2.2.2.2.2.2.2.2.2.2.2.2.2.2.2.2.2.2.2.2.2.2.2.2.2.2.1, hI.2.2.2.2.2.2.2.2.2.2.2.2.2.2.2.2.2.2.2.2.2.2.2.2.2.2.2.2.2.2.2.2.2.2.2.1, hI.2.2.2.2.2.2.2.2.2.2.2.2.2.2.2.2.2.2.2.2.2.2.2.2.2.2.2.2.2.2.2.2.2.2.2.2.1, gw4_5, gz6, gw9_0, gw9_1, gw9_2, hI.2.2.2.2.2.2.2.2.2.2.2.2.2.2.2.2.2.2.2.2.2.2.2.2.2.2.2.2.2.2.2.2.2.2.2.2.2.2.2.2.2.2.1, hI.2.2.2.2.2.2.2.2.2.2.2.2.2.2.2.2.2.2.2.2.2.2.2.2.2.2.2.2.2.2.2.2.2.2.2.2.2.2.2.2.2.2.2.1, hI.2.2.2.2.2.2.2.2.2.2.2.2.2.2.2.2.2.2.2.2.2.2.2.2.2.2.2.2.2.2.2.2.2.2.2.2.2.2.2.2.2.2.2.2.1, hI.2.2.2.2.2.2.2.2.2.2.2.2.2.2.2.2.2.2.2.2.2.2.2.2.2.2.2.2.2.2.2.2.2.2.2.2.2.2.2.2.2.2.2.2.2.1, hI.2.2.2.2.2.2.2.2.2.2.2.2.2.2.2.2.2.2.2.2.2.2.2.2.2.2.2.2.2.2.2.2.2.2.2.2.2.2.2.2.2.2.2.2.2.2.1, hI.2.2.2.2.2.2.2.2.2.2.2.2.2.2.2.2.2.2.2.2.2.2.2.2.2.2.2.2.2.2.2.2.2.2.2.2.2.2.2.2.2.2.2.2.2.2.2.1, gw1_2, hI.2.2.2.2.2.2.2.2.2.2.2.2.2.2.2.2.2.2.2.2.2.2.2.2.2.2.2.2.2.2.2.2.2.2.2.2.2.2.2.2.2.2.2.2.2.2.2.2.2.1, hI.2.2.2.2.2.2.2.2.2.2.2.2.2.2.2.2.2.2.2.2.2.2.2.2.2.2.2.2.2.2.2.2.2.2.2.2.2.2.2.2.2.2.2.2.2.2.2.2.2.2.1, hI.2.2.2.2.2.2.2.2.2.2.2.2.2.2.2.2.2.2.2.2.2.2.2.2.2.2.2.2.2.2.2.2.2.2.2.2.2.2.2.2.2.2.2.2.2.2.2.2.2.2.2.1, hI.2.2.2.2.2.2.2.2.2.2.2.2.2.2.2.2.2.2.2.2.2.2.2.2.2.2.2.2.2.2.2.2.2.2.2.2.2.2.2.2.2.2.2.2.2.2.2.2.2.2.2.2.1, hI.2.2.2.2.2.2.2.2.2.2.2.2.2.2.2.2.2.2.2.2.2.2.2.2.2.2.2.2.2.2.2.2.2.2.2.2.2.2.2.2.2.2.2.2.2.2.2.2.2.2.2.2.2.1, hI.2.2.2.2.2.2.2.2.2.2.2.2.2.2.2.2.2.2.2.2.2.2.2.2.2.2.2.2.2.2.2.2.2.2.2.2.2.2.2.2.2.2.2.2.2.2.2.2.2.2.2.2.2.2.1, hI.2.2.2.2.2.2.2.2.2.2.2.2.2.2.2.2.2.2.2.2.2.2.2.2.2.2.2.2.2.2.2.2.2.2.2.2.2.2.2.2.2.2.2.2.2.2.2.2.2.2.2.2.2.2.2.1, hI.2.2.2.2.2.2.2.2.2.2.2.2.2.2.2.2.2.2.2.2.2.2.2.2.2.2.2.2.2.2.2.2.2.2.2.2.2.2.2.2.2.2.2.2.2.2.2.2.2.2.2.2.2.2.2.2.1, hI.2.2.2.2.2.2.2.2.2.2.2.2.2.2.2.2.2.2.2.2.2.2.2.2.2.2.2.2.2.2.2.2.2.2.2.2.2.2.2.2.2.2.2.2.2.2.2.2.2.2.2.2.2.2.2.2.2.1, hI.2.2.2.2.2.2.2.2.2.2.2.2.2.2.2.2.2.2.2.2.2.2.2.2.2.2.2.2.2.2.2.2.2.2.2.2.2.2.2.2.2.2.2.2.2.2.2.2.2.2.2.2.2.2.2.2.2.2.1, hI.2.2.2.2.2.2.2.2.2.2.2.2.2.2.2.2.2.2.2.2.2.2.2.2.2.2.2.2.2.2.2.2.2.2.2.2.2.2.2.2.2.2.2.2.2.2.2.2.2.2.2.2.2.2.2.2.2.2.2.1, hI.2.2.2.2.2.2.2.2.2.2.2.2.2.2.2.2.2.2.2.2.2.2.2.2.2.2.2.2.2.2.2.2.2.2.2.2.2.2.2.2.2.2.2.2.2.2.2.2.2.2.2.2.2.2.2.2.2.2.2.2.1, hI.2.2.2.2.2.2.2.2.2.2.2.2.2.2.2.2.2.2.2.2.2.2.2.2.2.2.2.2.2.2.2.2.2.2.2.2.2.2.2.2.2.2.2.2.2.2.2.2.2.2.2.2.2.2.2.2.2.2.2.2.2.1, hI.2.2.2.2.2.2.2.2.2.2.2.2.2.2.2.2.2.2.2.2.2.2.2.2.2.2.2.2.2.2.2.2.2.2.2.2.2.2.2.2.2.2.2.2.2.2.2.2.2.2.2.2.2.2.2.2.2.2.2.2.2.2.1, hI.2.2.2.2.2.2.2.2.2.2.2.2.2.2.2.2.2.2.2.2.2.2.2.2.2.2.2.2.2.2.2.2.2.2.2.2.2.2.2.2.2.2.2.2.2.2.2.2.2.2.2.2.2.2.2.2.2.2.2.2.2.2.2.1, hI.2.2.2.2.2.2.2.2.2.2.2.2.2.2.2.2.2.2.2.2.2.2.2.2.2.2.2.2.2.2.2.2.2.2.2.2.2.2.2.2.2.2.2.2.2.2.2.2.2.2.2.2.2.2.2.2.2.2.2.2.2.2.2.2.1, hI.2.2.2.2.2.2.2.2.2.2.2.2.2.2.2.2.2.2.2.2.2.2.2.2.2.2.2.2.2.2.2.2.2.2.2.2.2.2.2.2.2.2.2.2.2.2.2.2.2.2.2.2.2.2.2.2.2.2.2.2.2.2.2.2.2.1, hI.2.2.2.2.2.2.2.2.2.2.2.2.2.2.2.2.2.2.2.2.2.2.2.2.2.2.2.2.2.2.2.2.2.2.2.2.2.2.2.2.2.2.2.2.2.2.2.2.2.2.2.2.2.2.2.2.2.2.2.2.2.2.2.2.2.2.1, hI.2.2.2.2.2.2.2.2.2.2.2.2.2.2.2.2.2.2.2.2.2.2.2.2.2.2.2.2.2.2.2.2.2.2.2.2.2.2.2.2.2.2.2.2.2.2.2.2.2.2.2.2.2.2.2.2.2.2.2.2.2.2.2.2.2.2.2.1, hI.2.2.2.2.2.2.2.2.2.2.2.2.2.2.2.2.2.2.2.2.2.2.2.2.2.2.2.2.2.2.2.2.2.2.2.2.2.2.2.2.2.2.2.2.2.2.2.2.2.2.2.2.2.2.2.2.2.2.2.2.2.2.2.2.2.2.2.2⟩, congrArg (xt_shifts vx fx gx) hE, hP3, hD3⟩, hF.1, fun q h1 h2 => hF.2 q h1 (fun h => h2 (hFr q h))⟩
  · exact gz_freeS (n := sz) [0, 42, 43, 44, 27, 28, 29, 30, 31, 32, 33, 34] hC
noncomputable def xt_settled (vx : Nat → Int32) (fx : Nat → Nat → Int32) (gx : Nat → Nat → Int64) (o : Int32 × Int32 × Int32 × Int32 × Int32 × Int32 × Int32 × Int32 × (Nat → Int32) × (Nat → Int32) × (Nat → Int32) × (Nat → Int32) × (Nat → Int64) × (Nat → Int32) × (Nat → Int32) × (Nat → Int32)) : Int32 × (Nat → Int32) × (Nat → Nat → Int32) × (Nat → Nat → Int64) := (o.1, (upd (upd (upd (upd (upd (upd (upd vx 4 o.2.1) 60 o.2.2.1) 49 o.2.2.2.1) 50 o.2.2.2.2.1) 51 o.2.2.2.2.2.1) 52 o.2.2.2.2.2.2.1) 53 o.2.2.2.2.2.2.2.1), (updF (updF (updF (updF (updF (updF (updF fx 18 o.2.2.2.2.2.2.2.2.1) 19 o.2.2.2.2.2.2.2.2.2.1) 8 o.2.2.2.2.2.2.2.2.2.2.1) 9 o.2.2.2.2.2.2.2.2.2.2.2.1) 10 o.2.2.2.2.2.2.2.2.2.2.2.2.2.1) 11 o.2.2.2.2.2.2.2.2.2.2.2.2.2.2.1) 12 o.2.2.2.2.2.2.2.2.2.2.2.2.2.2.2), (updG gx 1 o.2.2.2.2.2.2.2.2.2.2.2.2.1))
noncomputable def xs_settled (vx : Nat → Int32) (fx : Nat → Nat → Int32) (gx : Nat → Nat → Int64) (p1 : Int32) : Int32 × (Nat → Int32) × (Nat → Nat → Int32) × (Nat → Nat → Int64) := xt_settled vx fx gx (fX11_settled (vx 4) (vx 60) (fx 18) (fx 19) (vx 49) (vx 50) (fx 8) (fx 9) (gx 1) (fx 10) (vx 51) (vx 52) (vx 53) (fx 11) (fx 12) (vx 11) (vx 12) (vx 13) (vx 15) (vx 16) (vx 17) (vx 19) (fx 22) (fx 23) (fx 24) (fx 25) (fx 26) (fx 27) (fx 28) (fx 29) p1)
set_option maxHeartbeats 4000000 in
set_option maxRecDepth 100000 in
theorem uX11_settled (l : Launch) (dC : Nat → ClassId) (dI : Nat → Nat → Nat) (sz : Nat) (ax : Nat → Nat) (kx : Nat → ClassId) (vx : Nat → Int32) (fx : Nat → Nat → Int32) (gx : Nat → Nat → Int64) (rx : Nat → Nat → Nat) (hI : XI vx fx) (p1 : Int32) : Met l yX11_settled (.code yX11_settled cX11_settled 2 (some .int) :: wsGA) ({ frames := 6, cells := 0, slots := 0, locals := 138 }) (va_Pc [.ref (ax 0), .int p1] (fun U => U.heap.size = sz ∧ va_P (dC, dI) vwCl (XW ax kx vx fx gx rx) U.heap ∧ va_K (dC, dI) vwCl (XT kx) U ∧ va_D (fun _ => True) (XW ax kx vx fx gx rx) ∧ nzA U)) (va_Qi (fun (r : Int32) (u : Int32) => r = u) (fun r t => XB dC dI ax kx vx fx gx rx sz (fun v f g => (r, v, f, g) = xs_settled vx fx gx p1) t) (va_A (XW ax kx vx fx gx rx) sz)) 0 0 (va_A (XW ax kx vx fx gx rx) sz) := by
  have hC : List.map (fun i => (XW ax kx vx fx gx rx)[i]?) [0, 42, 43, 44, 27, 28, 29, 30, 31, 32, 33, 34] = ([((ax 0), .inr (11, [.ref (ax 1), .ref (ax 4), .ref (ax 8), .ref (ax 16), .ref (ax 19), .ref (ax 27), .ref (ax 35), .ref (ax 39), .ref (ax 42), .ref (ax 45), .ref (ax 46), .int (vx 0), .int (vx 1), .int (vx 2), .int (vx 3), .int (vx 4)])), ((ax 42), .inr (4, [.ref (ax 43), .ref (ax 44), .int (vx 60)])), ((ax 43), .inl ((kx 29), 25, .inl (fx 18))), ((ax 44), .inl ((kx 30), 625, .inl (fx 19))), ((ax 27), .inr (1, [.ref (ax 32), .ref (ax 28), .ref (ax 29), .ref (ax 30), .ref (ax 31), .int (vx 49), .int (vx 50)])), ((ax 28), .inl ((kx 18), 24, .inl (fx 8))), ((ax 29), .inl ((kx 19), 24, .inl (fx 9))), ((ax 30), .inl ((kx 20), 24, .inr (.inl (gx 1)))), ((ax 31), .inl ((kx 21), 25, .inl (fx 10))), ((ax 32), .inr (3, [.int (vx 51), .int (vx 52), .int (vx 53), .ref (ax 33), .ref (ax 34)])), ((ax 33), .inl ((kx 22), 25, .inl (fx 11))), ((ax 34), .inl ((kx 23), 275, .inl (fx 12)))] : va_W).map some := (gz_ixL (gz_ixL (gz_ixL (gz_ixL (gz_ixL (gz_ixL (gz_ixL (gz_ixL (gz_ixL rfl)))))))))
  have hnd : va_nd [0, 42, 43, 44, 27, 28, 29, 30, 31, 32, 33, 34] = true := (by decide +kernel)
  have hCR : List.map (fun i => (XW ax kx vx fx gx rx)[i]?) [4, 5, 6] = ([((ax 4), .inr (0, [.int (vx 11), .int (vx 12), .int (vx 13), .int (vx 14), .int (vx 15), .int (vx 16), .int (vx 17), .int (vx 18), .int (vx 19), .int (vx 20), .ref (ax 5), .ref (ax 6), .ref (ax 7)])), ((ax 5), .inl ((kx 1), 6, .inr (.inr (.inr (.inr (fun i => some (rx 0 i))))))), ((ax 6), .inl ((kx 2), 24, .inr (.inr (.inr (.inr (fun i => some (rx 1 i)))))))] : va_W).map some := (gz_ixL (gz_ixL (gz_ixL (gz_ixL (gz_ixL (gz_ixL (gz_ixL (gz_ixL (gz_ixL rfl)))))))))
  have hCF0 : List.map (fun i => (XW ax kx vx fx gx rx)[i]?) ([] ++ List.range' 47 6) = ((([] : va_W) ++ (gz_fam 6 (rx 0) 5 (fun i => [.int ((fx 22) i), .int ((fx 23) i)]))) : va_W).map some := (gz_ixapp (gz_ixL (gz_ixL (gz_ixL (gz_ixL (gz_ixL (gz_ixL (gz_ixL (gz_ixL (gz_ixL rfl))))))))) (gz_ixL (gz_ixL (gz_ixL (gz_ixL (gz_ixL (gz_ixL (gz_ixL (gz_ixL (gz_ixR (m := 47) (by simp only [List.length_append, gz_famlen, List.length_cons, List.length_nil]) gz_ixSelf))))))))))
  have hCF1 : List.map (fun i => (XW ax kx vx fx gx rx)[i]?) ([] ++ List.range' 53 24) = ((([] : va_W) ++ (gz_fam 24 (rx 1) 7 (fun i => [.int ((fx 24) i), .int ((fx 25) i), .int ((fx 26) i), .int ((fx 27) i), .int ((fx 28) i), .int ((fx 29) i)]))) : va_W).map some := (gz_ixapp (gz_ixL (gz_ixL (gz_ixL (gz_ixL (gz_ixL (gz_ixL (gz_ixL (gz_ixL (gz_ixL rfl))))))))) (gz_ixL (gz_ixL (gz_ixL (gz_ixL (gz_ixL (gz_ixL (gz_ixL (gz_ixR (m := 53) (by simp only [List.length_append, gz_famlen, List.length_cons, List.length_nil]) gz_ixSelf)))))))))
  refine gz_mono (sX11_settled l dC dI sz (ax 0) (ax 42) (ax 43) (ax 44) (ax 27) (ax 28) (ax 29) (ax 30) (ax 31) (ax 32) (ax 33) (ax 34) (ax 4) (ax 5) (ax 6) (ax 1) (ax 8) (ax 16) (ax 19) (ax 35) (ax 39) (ax 45) (ax 46) (vx 0) (vx 1) (vx 2) (vx 3) (vx 4) (vx 60) (kx 29) (fx 18) (kx 30) (fx 19) (vx 49) (vx 50) (kx 18) (fx 8) (kx 19) (fx 9) (kx 20) (gx 1) (kx 21) (fx 10) (vx 51) (vx 52) (vx 53) (kx 22) (fx 11) (kx 23) (fx 12) (vx 11) (vx 12) (vx 13) (vx 14) (vx 15) (vx 16) (vx 17) (vx 18) (vx 19) (vx 20) (ax 7) (kx 1) (kx 2) (rx 0) (fx 22) (fx 23) (rx 1) (fx 24) (fx 25) (fx 26) (fx 27) (fx 28) (fx 29) p1 hI.1 hI.2.1 hI.2.2.1 hI.2.2.2.1 hI.2.2.2.2.2.2.2.2.2.2.2.2.2.2.2.2.2.2.2.2.2.2.2.2.2.2.2.2.2.2.2.2.2.2.2.2.2.2.2.2.2.2.2.2.2.2.2.2.1 hI.2.2.2.2.2.2.2.2.2.2.2.2.2.2.2.2.2.2.2.2.2.2.2.2.2.2.2.2.2.2.2.2.2.2.2.2.2.1 hI.2.2.2.2.2.2.2.2.2.2.2.2.2.2.2.2.2.2.2.2.2.2.2.2.2.2.2.2.2.2.2.2.2.2.2.2.2.2.1 hI.2.2.2.2.2.2.2.2.2.2.2.2.2.2.2.2.2.2.2.2.2.2.2.2.2.2.2.2.2.2.2.2.2.2.2.2.2.2.2.1 hI.2.2.2.2.2.2.2.2.2.2.2.2.2.2.2.2.2.2.2.2.2.2.2.2.2.2.2.2.2.2.2.2.2.2.2.2.2.2.2.2.1 hI.2.2.2.2.2.2.2.2.2.2.2.2.2.2.2.2.2.2.2.2.2.2.2.2.2.2.2.2.2.2.2.2.2.2.2.2.2.2.2.2.2.1 hI.2.2.2.2.2.2.2.2.1 hI.2.2.2.2.2.2.2.2.2.1 hI.2.2.2.2.2.2.2.2.2.2.1 hI.2.2.2.2.2.2.2.2.2.2.2.1 hI.2.2.2.2.2.2.2.2.2.2.2.2.1 hI.2.2.2.2.2.2.2.2.2.2.2.2.2.1 hI.2.2.2.2.2.2.2.2.2.2.2.2.2.2.1 hI.2.2.2.2.2.2.2.2.2.2.2.2.2.2.2.2.2.2.2.2.2.2.2.2.2.2.2.2.2.2.2.2.2.2.2.2.2.2.2.2.2.2.2.2.2.2.2.2.2.1 hI.2.2.2.2.2.2.2.2.2.2.2.2.2.2.2.2.2.2.2.2.2.2.2.2.2.2.2.2.2.2.2.2.2.2.2.2.2.2.2.2.2.2.2.2.2.2.2.2.2.2.1 hI.2.2.2.2.2.2.2.2.2.2.2.2.2.2.2.2.2.2.2.2.2.2.2.2.2.2.2.2.2.2.2.2.2.2.2.2.2.2.2.2.2.2.2.2.2.2.2.2.2.2.2.1) ?_ ?_ ?_
  · rintro args s ⟨rfl, hsz, hP, hK, hD, hz⟩
    exact ⟨rfl, hsz, (gz_sub hP [0, 42, 43, 44, 27, 28, 29, 30, 31, 32, 33, 34] hC), hK.sub [29, 30, 18, 19, 20, 21, 22, 23, 1, 2] rfl, hD.sub [0, 42, 43, 44, 27, 28, 29, 30, 31, 32, 33, 34] hnd hC, hz, (gz_sub hP [4, 5, 6] hCR), (gz_ap_of hsz hD hP [0, 42, 43, 44, 27, 28, 29, 30, 31, 32, 33, 34] [4, 5, 6] hC hCR (by decide +kernel)), (gz_sub hP ([] ++ List.range' 47 6) hCF0), (gz_ap_of hsz hD hP [0, 42, 43, 44, 27, 28, 29, 30, 31, 32, 33, 34] ([] ++ List.range' 47 6) hC hCF0 (by decide +kernel)), (gz_sub hP ([] ++ List.range' 53 24) hCF1), (gz_ap_of hsz hD hP [0, 42, 43, 44, 27, 28, 29, 30, 31, 32, 33, 34] ([] ++ List.range' 53 24) hC hCF1 (by decide +kernel))⟩
  · rintro args s o t ⟨rfl, hsz, hP, hK, hD, hz⟩ ⟨⟨r, u, ho, hw, hB⟩, hF⟩
    obtain ⟨w0_15, w1_2, w4_5, w4_6, w9_0, w9_1, w9_2, z2, z3, z5, z6, z7, z8, z10, z11, hB⟩ := hB
    obtain ⟨gw0_15, gw1_2, gw4_5, gw9_0, gw9_1, gw9_2, gz6, hE, hP1, hD1⟩ := hB
    obtain ⟨hu9, hw⟩ := hw
    subst hu9
    subst hsz
    have hD0 := hD.self (sz := s.heap.size)
    have hFr := gz_freeS (n := s.heap.size) [0, 42, 43, 44, 27, 28, 29, 30, 31, 32, 33, 34] hC
    obtain ⟨hP2, hD2⟩ := va_join (wr := (([((ax 1), .inr (6, [.ref (ax 2), .ref (ax 12), .int (vx 5), .int (vx 6), .int (vx 7), .int (vx 8), .int (vx 9)])), ((ax 2), .inr (10, [.ref (ax 3), .int (vx 10)])), ((ax 3), .inl ((kx 0), 1600, .inl (fx 0))), ((ax 4), .inr (0, [.int (vx 11), .int (vx 12), .int (vx 13), .int (vx 14), .int (vx 15), .int (vx 16), .int (vx 17), .int (vx 18), .int (vx 19), .int (vx 20), .ref (ax 5), .ref (ax 6), .ref (ax 7)])), ((ax 5), .inl ((kx 1), 6, .inr (.inr (.inr (.inr (fun i => some (rx 0 i))))))), ((ax 6), .inl ((kx 2), 24, .inr (.inr (.inr (.inr (fun i => some (rx 1 i))))))), ((ax 7), .inl ((kx 3), 8, .inr (.inr (.inr (.inr (fun i => some (rx 2 i))))))), ((ax 8), .inr (0, [.int (vx 21), .int (vx 22), .int (vx 23), .int (vx 24), .int (vx 25), .int (vx 26), .int (vx 27), .int (vx 28), .int (vx 29), .int (vx 30), .ref (ax 9), .ref (ax 10), .ref (ax 11)])), ((ax 9), .inl ((kx 4), 6, .inr (.inr (.inr (.inr (fun i => some (rx 3 i))))))), ((ax 10), .inl ((kx 5), 24, .inr (.inr (.inr (.inr (fun i => some (rx 4 i))))))), ((ax 11), .inl ((kx 6), 8, .inr (.inr (.inr (.inr (fun i => some (rx 5 i))))))), ((ax 12), .inr (0, [.int (vx 31), .int (vx 32), .int (vx 33), .int (vx 34), .int (vx 35), .int (vx 36), .int (vx 37), .int (vx 38), .int (vx 39), .int (vx 40), .ref (ax 13), .ref (ax 14), .ref (ax 15)])), ((ax 13), .inl ((kx 7), 6, .inr (.inr (.inr (.inr (fun i => some (rx 6 i))))))), ((ax 14), .inl ((kx 8), 24, .inr (.inr (.inr (.inr (fun i => some (rx 7 i))))))), ((ax 15), .inl ((kx 9), 8, .inr (.inr (.inr (.inr (fun i => some (rx 8 i))))))), ((ax 16), .inr (3, [.int (vx 41), .int (vx 42), .int (vx 43), .ref (ax 17), .ref (ax 18)])), ((ax 17), .inl ((kx 10), 25, .inl (fx 1))), ((ax 18), .inl ((kx 11), 275, .inl (fx 2))), ((ax 19), .inr (1, [.ref (ax 24), .ref (ax 20), .ref (ax 21), .ref (ax 22), .ref (ax 23), .int (vx 44), .int (vx 45)])), ((ax 20), .inl ((kx 12), 24, .inl (fx 3))), ((ax 21), .inl ((kx 13), 24, .inl (fx 4))), ((ax 22), .inl ((kx 14), 24, .inr (.inl (gx 0)))), ((ax 23), .inl ((kx 15), 25, .inl (fx 5))), ((ax 24), .inr (3, [.int (vx 46), .int (vx 47), .int (vx 48), .ref (ax 25), .ref (ax 26)])), ((ax 25), .inl ((kx 16), 25, .inl (fx 6))), ((ax 26), .inl ((kx 17), 275, .inl (fx 7))), ((ax 35), .inr (9, [.ref (ax 36), .ref (ax 37), .ref (ax 38), .int (vx 54), .int (vx 55), .int (vx 56)])), ((ax 36), .inl ((kx 24), 3575, .inl (fx 13))), ((ax 37), .inl ((kx 25), 3575, .inl (fx 14))), ((ax 38), .inl ((kx 26), 325, .inl (fx 15))), ((ax 39), .inr (8, [.ref (ax 40), .ref (ax 41), .int (vx 57), .int (vx 58), .int (vx 59)])), ((ax 40), .inl ((kx 27), 325, .inl (fx 16))), ((ax 41), .inl ((kx 28), 3575, .inl (fx 17))), ((ax 45), .inl ((kx 31), 25, .inl (fx 20))), ((ax 46), .inl ((kx 32), 72, .inl (fx 21)))] : va_W) ++ (gz_fam 6 (rx 0) 5 (fun i => [.int ((fx 22) i), .int ((fx 23) i)])) ++ (gz_fam 24 (rx 1) 7 (fun i => [.int ((fx 24) i), .int ((fx 25) i), .int ((fx 26) i), .int ((fx 27) i), .int ((fx 28) i), .int ((fx 29) i)])) ++ (gz_fam 8 (rx 2) 2 (fun i => [.int ((fx 30) i), .int ((fx 31) i), .int ((fx 32) i), .int ((fx 33) i)])) ++ (gz_fam 6 (rx 3) 5 (fun i => [.int ((fx 34) i), .int ((fx 35) i)])) ++ (gz_fam 24 (rx 4) 7 (fun i => [.int ((fx 36) i), .int ((fx 37) i), .int ((fx 38) i), .int ((fx 39) i), .int ((fx 40) i), .int ((fx 41) i)])) ++ (gz_fam 8 (rx 5) 2 (fun i => [.int ((fx 42) i), .int ((fx 43) i), .int ((fx 44) i), .int ((fx 45) i)])) ++ (gz_fam 6 (rx 6) 5 (fun i => [.int ((fx 46) i), .int ((fx 47) i)])) ++ (gz_fam 24 (rx 7) 7 (fun i => [.int ((fx 48) i), .int ((fx 49) i), .int ((fx 50) i), .int ((fx 51) i), .int ((fx 52) i), .int ((fx 53) i)])) ++ (gz_fam 8 (rx 8) 2 (fun i => [.int ((fx 54) i), .int ((fx 55) i), .int ((fx 56) i), .int ((fx 57) i)])))) (w1 := [((ax 0), .inr (11, [.ref (ax 1), .ref (ax 4), .ref (ax 8), .ref (ax 16), .ref (ax 19), .ref (ax 27), .ref (ax 35), .ref (ax 39), .ref (ax 42), .ref (ax 45), .ref (ax 46), .int (vx 0), .int (vx 1), .int (vx 2), .int (vx 3), .int w0_15])), ((ax 42), .inr (4, [.ref (ax 43), .ref (ax 44), .int w1_2])), ((ax 43), .inl ((kx 29), 25, .inl z2)), ((ax 44), .inl ((kx 30), 625, .inl z3)), ((ax 27), .inr (1, [.ref (ax 32), .ref (ax 28), .ref (ax 29), .ref (ax 30), .ref (ax 31), .int w4_5, .int w4_6])), ((ax 28), .inl ((kx 18), 24, .inl z5)), ((ax 29), .inl ((kx 19), 24, .inl z6)), ((ax 30), .inl ((kx 20), 24, .inr (.inl z7))), ((ax 31), .inl ((kx 21), 25, .inl z8)), ((ax 32), .inr (3, [.int w9_0, .int w9_1, .int w9_2, .ref (ax 33), .ref (ax 34)])), ((ax 33), .inl ((kx 22), 25, .inl z10)), ((ax 34), .inl ((kx 23), 275, .inl z11))]) hP hD0 [0, 42, 43, 44, 27, 28, 29, 30, 31, 32, 33, 34] ([1, 2, 3, 4, 5, 6, 7, 8, 9, 10, 11, 12, 13, 14, 15, 16, 17, 18, 19, 20, 21, 22, 23, 24, 25, 26, 35, 36, 37, 38, 39, 40, 41, 45, 46] ++ List.range' 47 6 ++ List.range' 53 24 ++ List.range' 77 8 ++ List.range' 85 6 ++ List.range' 91 24 ++ List.range' 115 8 ++ List.range' 123 6 ++ List.range' 129 24 ++ List.range' 153 8) hC (gz_ixapp (gz_ixapp (gz_ixapp (gz_ixapp (gz_ixapp (gz_ixapp (gz_ixapp (gz_ixapp (gz_ixapp (gz_ixL (gz_ixL (gz_ixL (gz_ixL (gz_ixL (gz_ixL (gz_ixL (gz_ixL (gz_ixL rfl))))))))) (gz_ixL (gz_ixL (gz_ixL (gz_ixL (gz_ixL (gz_ixL (gz_ixL (gz_ixL (gz_ixR (m := 47) (by simp only [List.length_append, gz_famlen, List.length_cons, List.length_nil]) gz_ixSelf)))))))))) (gz_ixL (gz_ixL (gz_ixL (gz_ixL (gz_ixL (gz_ixL (gz_ixL (gz_ixR (m := 53) (by simp only [List.length_append, gz_famlen, List.length_cons, List.length_nil]) gz_ixSelf))))))))) (gz_ixL (gz_ixL (gz_ixL (gz_ixL (gz_ixL (gz_ixL (gz_ixR (m := 77) (by simp only [List.length_append, gz_famlen, List.length_cons, List.length_nil]) gz_ixSelf)))))))) (gz_ixL (gz_ixL (gz_ixL (gz_ixL (gz_ixL (gz_ixR (m := 85) (by simp only [List.length_append, gz_famlen, List.length_cons, List.length_nil]) gz_ixSelf))))))) (gz_ixL (gz_ixL (gz_ixL (gz_ixL (gz_ixR (m := 91) (by simp only [List.length_append, gz_famlen, List.length_cons, List.length_nil]) gz_ixSelf)))))) (gz_ixL (gz_ixL (gz_ixL (gz_ixR (m := 115) (by simp only [List.length_append, gz_famlen, List.length_cons, List.length_nil]) gz_ixSelf))))) (gz_ixL (gz_ixL (gz_ixR (m := 123) (by simp only [List.length_append, gz_famlen, List.length_cons, List.length_nil]) gz_ixSelf)))) (gz_ixL (gz_ixR (m := 129) (by simp only [List.length_append, gz_famlen, List.length_cons, List.length_nil]) gz_ixSelf))) (gz_ixR (m := 153) (by simp only [List.length_append, gz_famlen, List.length_cons, List.length_nil]) gz_ixSelf)) (by decide +kernel) (by decide +kernel) hF.2 hFr hP1 hD1
    have hN := gz_sub (gw_PA (gw_PR hP2) (gw_PL (gw_PL (gw_PL (gw_PL (gw_PL (gw_PL (gw_PL (gw_PL (gw_PL (gw_PL hP2))))))))))) (ws' := [((ax 0), .inr (11, [.ref (ax 1), .ref (ax 4), .ref (ax 8), .ref (ax 16), .ref (ax 19), .ref (ax 27), .ref (ax 35), .ref (ax 39), .ref (ax 42), .ref (ax 45), .ref (ax 46), .int (vx 0), .int (vx 1), .int (vx 2), .int (vx 3), .int w0_15])), ((ax 1), .inr (6, [.ref (ax 2), .ref (ax 12), .int (vx 5), .int (vx 6), .int (vx 7), .int (vx 8), .int (vx 9)])), ((ax 2), .inr (10, [.ref (ax 3), .int (vx 10)])), ((ax 3), .inl ((kx 0), 1600, .inl (fx 0))), ((ax 4), .inr (0, [.int (vx 11), .int (vx 12), .int (vx 13), .int (vx 14), .int (vx 15), .int (vx 16), .int (vx 17), .int (vx 18), .int (vx 19), .int (vx 20), .ref (ax 5), .ref (ax 6), .ref (ax 7)])), ((ax 5), .inl ((kx 1), 6, .inr (.inr (.inr (.inr (fun i => some (rx 0 i))))))), ((ax 6), .inl ((kx 2), 24, .inr (.inr (.inr (.inr (fun i => some (rx 1 i))))))), ((ax 7), .inl ((kx 3), 8, .inr (.inr (.inr (.inr (fun i => some (rx 2 i))))))), ((ax 8), .inr (0, [.int (vx 21), .int (vx 22), .int (vx 23), .int (vx 24), .int (vx 25), .int (vx 26), .int (vx 27), .int (vx 28), .int (vx 29), .int (vx 30), .ref (ax 9), .ref (ax 10), .ref (ax 11)])), ((ax 9), .inl ((kx 4), 6, .inr (.inr (.inr (.inr (fun i => some (rx 3 i))))))), ((ax 10), .inl ((kx 5), 24, .inr (.inr (.inr (.inr (fun i => some (rx 4 i))))))), ((ax 11), .inl ((kx 6), 8, .inr (.inr (.inr (.inr (fun i => some (rx 5 i))))))), ((ax 12), .inr (0, [.int (vx 31), .int (vx 32), .int (vx 33), .int (vx 34), .int (vx 35), .int (vx 36), .int (vx 37), .int (vx 38), .int (vx 39), .int (vx 40), .ref (ax 13), .ref (ax 14), .ref (ax 15)])), ((ax 13), .inl ((kx 7), 6, .inr (.inr (.inr (.inr (fun i => some (rx 6 i))))))), ((ax 14), .inl ((kx 8), 24, .inr (.inr (.inr (.inr (fun i => some (rx 7 i))))))), ((ax 15), .inl ((kx 9), 8, .inr (.inr (.inr (.inr (fun i => some (rx 8 i))))))), ((ax 16), .inr (3, [.int (vx 41), .int (vx 42), .int (vx 43), .ref (ax 17), .ref (ax 18)])), ((ax 17), .inl ((kx 10), 25, .inl (fx 1))), ((ax 18), .inl ((kx 11), 275, .inl (fx 2))), ((ax 19), .inr (1, [.ref (ax 24), .ref (ax 20), .ref (ax 21), .ref (ax 22), .ref (ax 23), .int (vx 44), .int (vx 45)])), ((ax 20), .inl ((kx 12), 24, .inl (fx 3))), ((ax 21), .inl ((kx 13), 24, .inl (fx 4))), ((ax 22), .inl ((kx 14), 24, .inr (.inl (gx 0)))), ((ax 23), .inl ((kx 15), 25, .inl (fx 5))), ((ax 24), .inr (3, [.int (vx 46), .int (vx 47), .int (vx 48), .ref (ax 25), .ref (ax 26)])), ((ax 25), .inl ((kx 16), 25, .inl (fx 6))), ((ax 26), .inl ((kx 17), 275, .inl (fx 7))), ((ax 27), .inr (1, [.ref (ax 32), .ref (ax 28), .ref (ax 29), .ref (ax 30), .ref (ax 31), .int w4_5, .int w4_6])), ((ax 28), .inl ((kx 18), 24, .inl z5)), ((ax 29), .inl ((kx 19), 24, .inl z6)), ((ax 30), .inl ((kx 20), 24, .inr (.inl z7))), ((ax 31), .inl ((kx 21), 25, .inl z8)), ((ax 32), .inr (3, [.int w9_0, .int w9_1, .int w9_2, .ref (ax 33), .ref (ax 34)])), ((ax 33), .inl ((kx 22), 25, .inl z10)), ((ax 34), .inl ((kx 23), 275, .inl z11)), ((ax 35), .inr (9, [.ref (ax 36), .ref (ax 37), .ref (ax 38), .int (vx 54), .int (vx 55), .int (vx 56)])), ((ax 36), .inl ((kx 24), 3575, .inl (fx 13))), ((ax 37), .inl ((kx 25), 3575, .inl (fx 14))), ((ax 38), .inl ((kx 26), 325, .inl (fx 15))), ((ax 39), .inr (8, [.ref (ax 40), .ref (ax 41), .int (vx 57), .int (vx 58), .int (vx 59)])), ((ax 40), .inl ((kx 27), 325, .inl (fx 16))), ((ax 41), .inl ((kx 28), 3575, .inl (fx 17))), ((ax 42), .inr (4, [.ref (ax 43), .ref (ax 44), .int w1_2])), ((ax 43), .inl ((kx 29), 25, .inl z2)), ((ax 44), .inl ((kx 30), 625, .inl z3)), ((ax 45), .inl ((kx 31), 25, .inl (fx 20))), ((ax 46), .inl ((kx 32), 72, .inl (fx 21)))]) [0, 12, 13, 14, 15, 16, 17, 18, 19, 20, 21, 22, 23, 24, 25, 26, 27, 28, 29, 30, 31, 32, 33, 34, 35, 36, 37, 4, 5, 6, 7, 8, 9, 10, 11, 38, 39, 40, 41, 42, 43, 44, 1, 2, 3, 45, 46] rfl
    have hP3 : va_P (dC, dI) vwCl (([((ax 0), .inr (11, [.ref (ax 1), .ref (ax 4), .ref (ax 8), .ref (ax 16), .ref (ax 19), .ref (ax 27), .ref (ax 35), .ref (ax 39), .ref (ax 42), .ref (ax 45), .ref (ax 46), .int (vx 0), .int (vx 1), .int (vx 2), .int (vx 3), .int w0_15])), ((ax 1), .inr (6, [.ref (ax 2), .ref (ax 12), .int (vx 5), .int (vx 6), .int (vx 7), .int (vx 8), .int (vx 9)])), ((ax 2), .inr (10, [.ref (ax 3), .int (vx 10)])), ((ax 3), .inl ((kx 0), 1600, .inl (fx 0))), ((ax 4), .inr (0, [.int (vx 11), .int (vx 12), .int (vx 13), .int (vx 14), .int (vx 15), .int (vx 16), .int (vx 17), .int (vx 18), .int (vx 19), .int (vx 20), .ref (ax 5), .ref (ax 6), .ref (ax 7)])), ((ax 5), .inl ((kx 1), 6, .inr (.inr (.inr (.inr (fun i => some (rx 0 i))))))), ((ax 6), .inl ((kx 2), 24, .inr (.inr (.inr (.inr (fun i => some (rx 1 i))))))), ((ax 7), .inl ((kx 3), 8, .inr (.inr (.inr (.inr (fun i => some (rx 2 i))))))), ((ax 8), .inr (0, [.int (vx 21), .int (vx 22), .int (vx 23), .int (vx 24), .int (vx 25), .int (vx 26), .int (vx 27), .int (vx 28), .int (vx 29), .int (vx 30), .ref (ax 9), .ref (ax 10), .ref (ax 11)])), ((ax 9), .inl ((kx 4), 6, .inr (.inr (.inr (.inr (fun i => some (rx 3 i))))))), ((ax 10), .inl ((kx 5), 24, .inr (.inr (.inr (.inr (fun i => some (rx 4 i))))))), ((ax 11), .inl ((kx 6), 8, .inr (.inr (.inr (.inr (fun i => some (rx 5 i))))))), ((ax 12), .inr (0, [.int (vx 31), .int (vx 32), .int (vx 33), .int (vx 34), .int (vx 35), .int (vx 36), .int (vx 37), .int (vx 38), .int (vx 39), .int (vx 40), .ref (ax 13), .ref (ax 14), .ref (ax 15)])), ((ax 13), .inl ((kx 7), 6, .inr (.inr (.inr (.inr (fun i => some (rx 6 i))))))), ((ax 14), .inl ((kx 8), 24, .inr (.inr (.inr (.inr (fun i => some (rx 7 i))))))), ((ax 15), .inl ((kx 9), 8, .inr (.inr (.inr (.inr (fun i => some (rx 8 i))))))), ((ax 16), .inr (3, [.int (vx 41), .int (vx 42), .int (vx 43), .ref (ax 17), .ref (ax 18)])), ((ax 17), .inl ((kx 10), 25, .inl (fx 1))), ((ax 18), .inl ((kx 11), 275, .inl (fx 2))), ((ax 19), .inr (1, [.ref (ax 24), .ref (ax 20), .ref (ax 21), .ref (ax 22), .ref (ax 23), .int (vx 44), .int (vx 45)])), ((ax 20), .inl ((kx 12), 24, .inl (fx 3))), ((ax 21), .inl ((kx 13), 24, .inl (fx 4))), ((ax 22), .inl ((kx 14), 24, .inr (.inl (gx 0)))), ((ax 23), .inl ((kx 15), 25, .inl (fx 5))), ((ax 24), .inr (3, [.int (vx 46), .int (vx 47), .int (vx 48), .ref (ax 25), .ref (ax 26)])), ((ax 25), .inl ((kx 16), 25, .inl (fx 6))), ((ax 26), .inl ((kx 17), 275, .inl (fx 7))), ((ax 27), .inr (1, [.ref (ax 32), .ref (ax 28), .ref (ax 29), .ref (ax 30), .ref (ax 31), .int w4_5, .int w4_6])), ((ax 28), .inl ((kx 18), 24, .inl z5)), ((ax 29), .inl ((kx 19), 24, .inl z6)), ((ax 30), .inl ((kx 20), 24, .inr (.inl z7))), ((ax 31), .inl ((kx 21), 25, .inl z8)), ((ax 32), .inr (3, [.int w9_0, .int w9_1, .int w9_2, .ref (ax 33), .ref (ax 34)])), ((ax 33), .inl ((kx 22), 25, .inl z10)), ((ax 34), .inl ((kx 23), 275, .inl z11)), ((ax 35), .inr (9, [.ref (ax 36), .ref (ax 37), .ref (ax 38), .int (vx 54), .int (vx 55), .int (vx 56)])), ((ax 36), .inl ((kx 24), 3575, .inl (fx 13))), ((ax 37), .inl ((kx 25), 3575, .inl (fx 14))), ((ax 38), .inl ((kx 26), 325, .inl (fx 15))), ((ax 39), .inr (8, [.ref (ax 40), .ref (ax 41), .int (vx 57), .int (vx 58), .int (vx 59)])), ((ax 40), .inl ((kx 27), 325, .inl (fx 16))), ((ax 41), .inl ((kx 28), 3575, .inl (fx 17))), ((ax 42), .inr (4, [.ref (ax 43), .ref (ax 44), .int w1_2])), ((ax 43), .inl ((kx 29), 25, .inl z2)), ((ax 44), .inl ((kx 30), 625, .inl z3)), ((ax 45), .inl ((kx 31), 25, .inl (fx 20))), ((ax 46), .inl ((kx 32), 72, .inl (fx 21)))] : va_W) ++ (gz_fam 6 (rx 0) 5 (fun i => [.int ((fx 22) i), .int ((fx 23) i)])) ++ (gz_fam 24 (rx 1) 7 (fun i => [.int ((fx 24) i), .int ((fx 25) i), .int ((fx 26) i), .int ((fx 27) i), .int ((fx 28) i), .int ((fx 29) i)])) ++ (gz_fam 8 (rx 2) 2 (fun i => [.int ((fx 30) i), .int ((fx 31) i), .int ((fx 32) i), .int ((fx 33) i)])) ++ (gz_fam 6 (rx 3) 5 (fun i => [.int ((fx 34) i), .int ((fx 35) i)])) ++ (gz_fam 24 (rx 4) 7 (fun i => [.int ((fx 36) i), .int ((fx 37) i), .int ((fx 38) i), .int ((fx 39) i), .int ((fx 40) i), .int ((fx 41) i)])) ++ (gz_fam 8 (rx 5) 2 (fun i => [.int ((fx 42) i), .int ((fx 43) i), .int ((fx 44) i), .int ((fx 45) i)])) ++ (gz_fam 6 (rx 6) 5 (fun i => [.int ((fx 46) i), .int ((fx 47) i)])) ++ (gz_fam 24 (rx 7) 7 (fun i => [.int ((fx 48) i), .int ((fx 49) i), .int ((fx 50) i), .int ((fx 51) i), .int ((fx 52) i), .int ((fx 53) i)])) ++ (gz_fam 8 (rx 8) 2 (fun i => [.int ((fx 54) i), .int ((fx 55) i), .int ((fx 56) i), .int ((fx 57) i)]))) t.heap := (gw_PA (gw_PA (gw_PA (gw_PA (gw_PA (gw_PA (gw_PA (gw_PA (gw_PA hN (gw_PR (gw_PL (gw_PL (gw_PL (gw_PL (gw_PL (gw_PL (gw_PL (gw_PL (gw_PL hP2))))))))))) (gw_PR (gw_PL (gw_PL (gw_PL (gw_PL (gw_PL (gw_PL (gw_PL (gw_PL hP2)))))))))) (gw_PR (gw_PL (gw_PL (gw_PL (gw_PL (gw_PL (gw_PL (gw_PL hP2))))))))) (gw_PR (gw_PL (gw_PL (gw_PL (gw_PL (gw_PL (gw_PL hP2)))))))) (gw_PR (gw_PL (gw_PL (gw_PL (gw_PL (gw_PL hP2))))))) (gw_PR (gw_PL (gw_PL (gw_PL (gw_PL hP2)))))) (gw_PR (gw_PL (gw_PL (gw_PL hP2))))) (gw_PR (gw_PL (gw_PL hP2)))) (gw_PR (gw_PL hP2)))
    have hD3 : va_D _ (([((ax 0), .inr (11, [.ref (ax 1), .ref (ax 4), .ref (ax 8), .ref (ax 16), .ref (ax 19), .ref (ax 27), .ref (ax 35), .ref (ax 39), .ref (ax 42), .ref (ax 45), .ref (ax 46), .int (vx 0), .int (vx 1), .int (vx 2), .int (vx 3), .int w0_15])), ((ax 1), .inr (6, [.ref (ax 2), .ref (ax 12), .int (vx 5), .int (vx 6), .int (vx 7), .int (vx 8), .int (vx 9)])), ((ax 2), .inr (10, [.ref (ax 3), .int (vx 10)])), ((ax 3), .inl ((kx 0), 1600, .inl (fx 0))), ((ax 4), .inr (0, [.int (vx 11), .int (vx 12), .int (vx 13), .int (vx 14), .int (vx 15), .int (vx 16), .int (vx 17), .int (vx 18), .int (vx 19), .int (vx 20), .ref (ax 5), .ref (ax 6), .ref (ax 7)])), ((ax 5), .inl ((kx 1), 6, .inr (.inr (.inr (.inr (fun i => some (rx 0 i))))))), ((ax 6), .inl ((kx 2), 24, .inr (.inr (.inr (.inr (fun i => some (rx 1 i))))))), ((ax 7), .inl ((kx 3), 8, .inr (.inr (.inr (.inr (fun i => some (rx 2 i))))))), ((ax 8), .inr (0, [.int (vx 21), .int (vx 22), .int (vx 23), .int (vx 24), .int (vx 25), .int (vx 26), .int (vx 27), .int (vx 28), .int (vx 29), .int (vx 30), .ref (ax 9), .ref (ax 10), .ref (ax 11)])), ((ax 9), .inl ((kx 4), 6, .inr (.inr (.inr (.inr (fun i => some (rx 3 i))))))), ((ax 10), .inl ((kx 5), 24, .inr (.inr (.inr (.inr (fun i => some (rx 4 i))))))), ((ax 11), .inl ((kx 6), 8, .inr (.inr (.inr (.inr (fun i => some (rx 5 i))))))), ((ax 12), .inr (0, [.int (vx 31), .int (vx 32), .int (vx 33), .int (vx 34), .int (vx 35), .int (vx 36), .int (vx 37), .int (vx 38), .int (vx 39), .int (vx 40), .ref (ax 13), .ref (ax 14), .ref (ax 15)])), ((ax 13), .inl ((kx 7), 6, .inr (.inr (.inr (.inr (fun i => some (rx 6 i))))))), ((ax 14), .inl ((kx 8), 24, .inr (.inr (.inr (.inr (fun i => some (rx 7 i))))))), ((ax 15), .inl ((kx 9), 8, .inr (.inr (.inr (.inr (fun i => some (rx 8 i))))))), ((ax 16), .inr (3, [.int (vx 41), .int (vx 42), .int (vx 43), .ref (ax 17), .ref (ax 18)])), ((ax 17), .inl ((kx 10), 25, .inl (fx 1))), ((ax 18), .inl ((kx 11), 275, .inl (fx 2))), ((ax 19), .inr (1, [.ref (ax 24), .ref (ax 20), .ref (ax 21), .ref (ax 22), .ref (ax 23), .int (vx 44), .int (vx 45)])), ((ax 20), .inl ((kx 12), 24, .inl (fx 3))), ((ax 21), .inl ((kx 13), 24, .inl (fx 4))), ((ax 22), .inl ((kx 14), 24, .inr (.inl (gx 0)))), ((ax 23), .inl ((kx 15), 25, .inl (fx 5))), ((ax 24), .inr (3, [.int (vx 46), .int (vx 47), .int (vx 48), .ref (ax 25), .ref (ax 26)])), ((ax 25), .inl ((kx 16), 25, .inl (fx 6))), ((ax 26), .inl ((kx 17), 275, .inl (fx 7))), ((ax 27), .inr (1, [.ref (ax 32), .ref (ax 28), .ref (ax 29), .ref (ax 30), .ref (ax 31), .int w4_5, .int w4_6])), ((ax 28), .inl ((kx 18), 24, .inl z5)), ((ax 29), .inl ((kx 19), 24, .inl z6)), ((ax 30), .inl ((kx 20), 24, .inr (.inl z7))), ((ax 31), .inl ((kx 21), 25, .inl z8)), ((ax 32), .inr (3, [.int w9_0, .int w9_1, .int w9_2, .ref (ax 33), .ref (ax 34)])), ((ax 33), .inl ((kx 22), 25, .inl z10)), ((ax 34), .inl ((kx 23), 275, .inl z11)), ((ax 35), .inr (9, [.ref (ax 36), .ref (ax 37), .ref (ax 38), .int (vx 54), .int (vx 55), .int (vx 56)])), ((ax 36), .inl ((kx 24), 3575, .inl (fx 13))), ((ax 37), .inl ((kx 25), 3575, .inl (fx 14))), ((ax 38), .inl ((kx 26), 325, .inl (fx 15))), ((ax 39), .inr (8, [.ref (ax 40), .ref (ax 41), .int (vx 57), .int (vx 58), .int (vx 59)])), ((ax 40), .inl ((kx 27), 325, .inl (fx 16))), ((ax 41), .inl ((kx 28), 3575, .inl (fx 17))), ((ax 42), .inr (4, [.ref (ax 43), .ref (ax 44), .int w1_2])), ((ax 43), .inl ((kx 29), 25, .inl z2)), ((ax 44), .inl ((kx 30), 625, .inl z3)), ((ax 45), .inl ((kx 31), 25, .inl (fx 20))), ((ax 46), .inl ((kx 32), 72, .inl (fx 21)))] : va_W) ++ (gz_fam 6 (rx 0) 5 (fun i => [.int ((fx 22) i), .int ((fx 23) i)])) ++ (gz_fam 24 (rx 1) 7 (fun i => [.int ((fx 24) i), .int ((fx 25) i), .int ((fx 26) i), .int ((fx 27) i), .int ((fx 28) i), .int ((fx 29) i)])) ++ (gz_fam 8 (rx 2) 2 (fun i => [.int ((fx 30) i), .int ((fx 31) i), .int ((fx 32) i), .int ((fx 33) i)])) ++ (gz_fam 6 (rx 3) 5 (fun i => [.int ((fx 34) i), .int ((fx 35) i)])) ++ (gz_fam 24 (rx 4) 7 (fun i => [.int ((fx 36) i), .int ((fx 37) i), .int ((fx 38) i), .int ((fx 39) i), .int ((fx 40) i), .int ((fx 41) i)])) ++ (gz_fam 8 (rx 5) 2 (fun i => [.int ((fx 42) i), .int ((fx 43) i), .int ((fx 44) i), .int ((fx 45) i)])) ++ (gz_fam 6 (rx 6) 5 (fun i => [.int ((fx 46) i), .int ((fx 47) i)])) ++ (gz_fam 24 (rx 7) 7 (fun i => [.int ((fx 48) i), .int ((fx 49) i), .int ((fx 50) i), .int ((fx 51) i), .int ((fx 52) i), .int ((fx 53) i)])) ++ (gz_fam 8 (rx 8) 2 (fun i => [.int ((fx 54) i), .int ((fx 55) i), .int ((fx 56) i), .int ((fx 57) i)]))) := gw_D hD0 (gw_ma (gw_ma (gw_ma (gw_ma (gw_ma (gw_ma (gw_ma (gw_ma (gw_ma rfl gw_mf) gw_mf) gw_mf) gw_mf) gw_mf) gw_mf) gw_mf) gw_mf) gw_mf)
    exact ⟨⟨r, r, ho, rfl, ax, kx, (upd (upd (upd (upd (upd (upd (upd vx 4 w0_15) 60 w1_2) 49 w4_5) 50 w4_6) 51 w9_0) 52 w9_1) 53 w9_2), (updF (updF (updF (updF (updF (updF (updF fx 18 z2) 19 z3) 8 z5) 9 z6) 10 z8) 11 z10) 12 z11), (updG gx 1 z7), rx, fun U h => h, rfl, ⟨hI.1, hI.2.1, hI.2.2.1, gw0_15, hI.2.2.2.2.1, hI.2.2.2.2.2.1, hI.2.2.2.2.2.2.1, hI.2.2.2.2.2.2.2.1, hI.2.2.2.2.2.2.2.2.1, hI.2.2.2.2.2.2.2.2.2.1, hI.2.2.2.2.2.2.2.2.2.2.1, hI.2.2.2.2.2.2.2.2.2.2.2.1, hI.2.2.2.2.2.2.2.2.2.2.2.2.1, hI.2.2.2.2.2.2.2.2.2.2.2.2.2.1, hI.2.2.2.2.2.2.2.2.2.2.2.2.2.2.1, hI.2.2.2.2.2.2.2.2.2.2.2.2.2.2.2.1, hI.2.2.2.2.2.2.2.2.2.2.2.2.2.2.2.2.1, hI.2.2.2.2.2.2.2.2.2.2.2.2.2.2.2.2.2.1, hI.2.2.2.2.2.2.2.2.2.2.2.2.2.2.2.2.2.2.1, hI.2.2.2.2.2.2.2.2.2.2.2.2.2.2.2.2.2.2.2.1, hI.2.2.2.2.2.2.2.2.2.2.2.2.2.2.2.2.2.2.2.2.1, hI.2.2.2.2.2.2.2.2.2.2.2.2.2.2.2.2.2.2.2.2.2.1, hI.2.2.2.2.2.2.2.2.2.2.2.2.2.2.2.2.2.2.2.2.2.2.1, hI.2.2.2.2.2.2.2.2.2.2.2.2.2.2.2.2.2.2.2.2.2.2.2.1, hI.2.2.2.2.2.2.2.2.2.2.2.2.2.2.2.2.2.2.2.2.2.2.2.2.1, hI.2.2.2.2.2.2.2.2.2.2.2.2.2.2.2.2.2.2.2.2.2.2.2.2.2.1, hI.2.2.2.2.2.2.2.2.2.2.2.2.2.2.2.2.2.2.2.2.2.2.2.2.2.2.1, hI.2.2.2.2.2.2.2.2.2.2.2.2.2.2.2.2.2.2.2.2.2.2.2.2.2.2.2.1, hI.2.2.2.2.2.2.2.2.2.2.2.2.2.2.2.2.2.2.2.2.2.2.2.2.2.2.2.2.1, hI.2.2.2.2.2.2.2.2.2.2.2.2.2.2.2.2.2.2.2.2.2.2.2.2.2.2.2.2.2.1, hI.2.2.2.2.2.2.2.2.2.2.2.2.2.2.2.2.2.2.2.2.2.2.2.2.2.2.2.2.2.2.1, hI.2.2.2.2.2.2.2.2.2.2.2.2.2.2.2.2.2.2.2.2.2.2.2.2.2.2.2.2.2.2.2.1, hI.2.2.2.2.2.2.2.2.2.2.2.2.2.2.2.2.2.2.2.2.2.2.2.2.2.2.2.2.2.2.2.2.1, hI.2.2.2.2.2.2.2.2.2.2.2.2.2.2.2.2.2.2.2.2.2.2.2.2.2.2.2.2.2.2.2.2.2.1, hI.2.2.2.2.2.2.2.2.2.2.2.2.2.2.2.2.2.2.2.2.2.2.2.2.2.2.2.2.2.2.2.2.2.2.1, hI.2.2.2.2.2.2.2.2.2.2.2.2.2.2.2.2.2.2.2.2.2.2.2.2.2.2.2.2.2.2.2.2.2.2.2.1, hI.2.2.2.2.2.2.2.2.2.2.2.2.2.2.2.2.2.2.2.2.2.2.2.2.2.2.2.2.2.2.2.2.2.2.2.2.1, gw4_5, gz6, gw9_0, gw9_1, gw9_2, hI.2.2.2.2.2.2.2.2.2.2.2.2.2.2.2.2.2.2.2.2.2.2.2.2.2.2.2.2.2.2.2.2.2.2.2.2.2.2.2.2.2.2.1, hI.2.2.2.2.2.2.2.2.2.2.2.2.2.2.2.2.2.2.2.2.2.2.2.2.2.2.2.2.2.2.2.2.2.2.2.2.2.2.2.2.2.2.2.1, hI.2.2.2.2.2.2.2.2.2.2.2.2.2.2.2.2.2.2.2.2.2.2.2.2.2.2.2.2.2.2.2.2.2.2.2.2.2.2.2.2.2.2.2.2.1, hI.2.2.2.2.2.2.2.2.2.2.2.2.2.2.2.2.2.2.2.2.2.2.2.2.2.2.2.2.2.2.2.2.2.2.2.2.2.2.2.2.2.2.2.2.2.1, hI.2.2.2.2.2.2.2.2.2.2.2.2.2.2.2.2.2.2.2.2.2.2.2.2.2.2.2.2.2.2.2.2.2.2.2.2.2.2.2.2.2.2.2.2.2.2.1, hI.2.2.2.2.2.2.2.2.2.2.2.2.2.2.2.2.2.2.2.2.2.2.2.2.2.2.2.2.2.2.2.2.2.2.2.2.2.2.2.2.2.2.2.2.2.2.2.1, gw1_2, hI.2.2.2.2.2.2.2.2.2.2.2.2.2.2.2.2.2.2.2.2.2.2.2.2.2.2.2.2.2.2.2.2.2.2.2.2.2.2.2.2.2.2.2.2.2.2.2.2.2.1, hI.2.2.2.2.2.2.2.2.2.2.2.2.2.2.2.2.2.2.2.2.2.2.2.2.2.2.2.2.2.2.2.2.2.2.2.2.2.2.2.2.2.2.2.2.2.2.2.2.2.2.1, hI.2.2.2.2.2.2.2.2.2.2.2.2.2.2.2.2.2.2.2.2.2.2.2.2.2.2.2.2.2.2.2.2.2.2.2.2.2.2.2.2.2.2.2.2.2.2.2.2.2.2.2.1, hI.2.2.2.2.2.2.2.2.2.2.2.2.2.2.2.2.2.2.2.2.2.2.2.2.2.2.2.2.2.2.2.2.2.2.2.2.2.2.2.2.2.2.2.2.2.2.2.2.2.2.2.2.1, hI.2.2.2.2.2.2.2.2.2.2.2.2.2.2.2.2.2.2.2.2.2.2.2.2.2.2.2.2.2.2.2.2.2.2.2.2.2.2.2.2.2.2.2.2.2.2.2.2.2.2.2.2.2.1, hI.2.2.2.2.2.2.2.2.2.2.2.2.2.2.2.2.2.2.2.2.2.2.2.2.2.2.2.2.2.2.2.2.2.2.2.2.2.2.2.2.2.2.2.2.2.2.2.2.2.2.2.2.2.2.1, hI.2.2.2.2.2.2.2.2.2.2.2.2.2.2.2.2.2.2.2.2.2.2.2.2.2.2.2.2.2.2.2.2.2.2.2.2.2.2.2.2.2.2.2.2.2.2.2.2.2.2.2.2.2.2.2.1, hI.2.2.2.2.2.2.2.2.2.2.2.2.2.2.2.2.2.2.2.2.2.2.2.2.2.2.2.2.2.2.2.2.2.2.2.2.2.2.2.2.2.2.2.2.2.2.2.2.2.2.2.2.2.2.2.2.1, hI.2.2.2.2.2.2.2.2.2.2.2.2.2.2.2.2.2.2.2.2.2.2.2.2.2.2.2.2.2.2.2.2.2.2.2.2.2.2.2.2.2.2.2.2.2.2.2.2.2.2.2.2.2.2.2.2.2.1, hI.2.2.2.2.2.2.2.2.2.2.2.2.2.2.2.2.2.2.2.2.2.2.2.2.2.2.2.2.2.2.2.2.2.2.2.2.2.2.2.2.2.2.2.2.2.2.2.2.2.2.2.2.2.2.2.2.2.2.1, hI.2.2.2.2.2.2.2.2.2.2.2.2.2.2.2.2.2.2.2.2.2.2.2.2.2.2.2.2.2.2.2.2.2.2.2.2.2.2.2.2.2.2.2.2.2.2.2.2.2.2.2.2.2.2.2.2.2.2.2.1, hI.2.2.2.2.2.2.2.2.2.2.2.2.2.2.2.2.2.2.2.2.2.2.2.2.2.2.2.2.2.2.2.2.2.2.2.2.2.2.2.2.2.2.2.2.2.2.2.2.2.2.2.2.2.2.2.2.2.2.2.2.1, hI.2.2.2.2.2.2.2.2.2.2.2.2.2.2.2.2.2.2.2.2.2.2.2.2.2.2.2.2.2.2.2.2.2.2.2.2.2.2.2.2.2.2.2.2.2.2.2.2.2.2.2.2.2.2.2.2.2.2.2.2.2.1, hI.2.2.2.2.2.2.2.2.2.2.2.2.2.2.2.2.2.2.2.2.2.2.2.2.2.2.2.2.2.2.2.2.2.2.2.2.2.2.2.2.2.2.2.2.2.2.2.2.2.2.2.2.2.2.2.2.2.2.2.2.2.2.1, hI.2.2.2.2.2.2.2.2.2.2.2.2.2.2.2.2.2.2.2.2.2.2.2.2.2.2.2.2.2.2.2.2.2.2.2.2.2.2.2.2.2.2.2.2.2.2.2.2.2.2.2.2.2.2.2.2.2.2.2.2.2.2.2.1, hI.2.2.2.2.2.2.2.2.2.2.2.2.2.2.2.2.2.2.2.2.2.2.2.2.2.2.2.2.2.2.2.2.2.2.2.2.2.2.2.2.2.2.2.2.2.2.2.2.2.2.2.2.2.2.2.2.2.2.2.2.2.2.2.2.1, hI.2.2.2.2.2.2.2.2.2.2.2.2.2.2.2.2.2.2.2.2.2.2.2.2.2.2.2.2.2.2.2.2.2.2.2.2.2.2.2.2.2.2.2.2.2.2.2.2.2.2.2.2.2.2.2.2.2.2.2.2.2.2.2.2.2.1, hI.2.2.2.2.2.2.2.2.2.2.2.2.2.2.2.2.2.2.2.2.2.2.2.2.2.2.2.2.2.2.2.2.2.2.2.2.2.2.2.2.2.2.2.2.2.2.2.2.2.2.2.2.2.2.2.2.2.2.2.2.2.2.2.2.2.2.1, hI.2.2.2.2.2.2.2.2.2.2.2.2.2.2.2.2.2.2.2.2.2.2.2.2.2.2.2.2.2.2.2.2.2.2.2.2.2.2.2.2.2.2.2.2.2.2.2.2.2.2.2.2.2.2.2.2.2.2.2.2.2.2.2.2.2.2.2.1, hI.2.2.2.2.2.2.2.2.2.2.2.2.2.2.2.2.2.2.2.2.2.2.2.2.2.2.2.2.2.2.2.2.2.2.2.2.2.2.2.2.2.2.2.2.2.2.2.2.2.2.2.2.2.2.2.2.2.2.2.2.2.2.2.2.2.2.2.2⟩, congrArg (xt_settled vx fx gx) hE, hP3, hD3⟩, hF.1, fun q h1 h2 => hF.2 q h1 (fun h => h2 (hFr q h))⟩
  · exact gz_freeS (n := sz) [0, 42, 43, 44, 27, 28, 29, 30, 31, 32, 33, 34] hC
theorem r3_due {vx : Nat → Int32} {fx : Nat → Nat → Int32} {gx : Nat → Nat → Int64} {mi : Nat → Int32} {fm : Nat → Nat → Int32} (hM : MIp mi fm) (h : REL3 vx fx mi fm) {r r2 : Int32} {v : Nat → Int32} {f : Nat → Nat → Int32} {g : Nat → Nat → Int64} {mi2 : Nat → Int32} {fm2 : Nat → Nat → Int32} {p1 p2 : Int32} (hx : (r, v, f, g) = xs_due vx fx gx p1 p2) (hm : (r2, mi2, fm2) = ms_due mi fm p1 p2) : REL3 v f mi2 fm2 ∧ r = r2 := by
  obtain ⟨O, hO⟩ : ∃ O, O = fX11_due (vx 1) (vx 2) (vx 3) (vx 44) (vx 45) (fx 3) (fx 4) (gx 0) (fx 5) (vx 46) (vx 47) (vx 48) (fx 6) (fx 7) (vx 11) (vx 12) (vx 13) (vx 15) (vx 16) (vx 17) (vx 19) (vx 20) (fx 22) (fx 23) (fx 24) (fx 25) (fx 26) (fx 27) (fx 28) (fx 29) (fx 30) (fx 31) (fx 32) (fx 33) p1 p2 := ⟨_, rfl⟩
  obtain ⟨U, hU⟩ : ∃ U, U = fX12_due mi (fm 14) (fm 15) (fm 16) (fm 17) (fm 18) (fm 19) (fm 4) (fm 7) (fm 2) (fm 5) (fm 6) (fm 3) (fm 0) (fm 1) (fm 20) (fm 8) (fm 10) (fm 11) (fm 9) p1 p2 := ⟨_, rfl⟩
  have hx : (r, v, f, g) = xt15 vx fx gx O := by
    rw [hx, hO]
    rfl
  have hm : (r2, mi2, fm2) = mt10 mi fm U := by
    rw [hm, hU]
    rfl
  obtain ⟨k1, k2⟩ := k10_of hm
  unfold fX11_due bfX11_due_16 at hO
  unfold fX12_due bfX12_due_16 at hU
  obtain ⟨o1, e1, hO⟩ := cal_out hO
  obtain ⟨u1, f1, hU⟩ := cal_out hU
  obtain ⟨a1, c1⟩ := tm_of h p1
  rw [a1, ← f1] at e1
  rw [← f1] at c1
  rcases c1 with c1 | ⟨c1, n3, _, _⟩
  · rw [if_pos (e1.trans c1)] at hO
    rw [if_pos c1] at hU
    refine e15 (s := -2) h hx ?_ k1 (by rw [hO]) (by rw [k2, hU])
    rw [hO]
    exact h.2.2.2.2.1
  rw [if_neg (by rw [e1, c1]; decide)] at hO
  rw [if_neg (by rw [c1]; decide)] at hU
  obtain ⟨o2, e2, hO⟩ := cal_out hO
  obtain ⟨u2, f2, hU⟩ := cal_out hU
  obtain ⟨a2, c2⟩ := dd_of h p2
  rw [a2, ← f2] at e2
  rw [← f2] at c2
  rcases c2 with c2 | ⟨c2, z4, z9, z5, da, dd, dl, y1, y2, y3, y4, y5, y6, y7⟩
  · rw [if_pos (e2.trans c2)] at hO
    rw [if_pos c2] at hU
    refine e15 (s := -2) h hx ?_ k1 (by rw [hO]) (by rw [k2, hU])
    rw [hO]
    exact h.2.2.2.2.1
  rw [if_neg (by rw [e2, c2]; decide)] at hO
  rw [if_neg (by rw [c2]; decide)] at hU
  obtain ⟨o3, e3, hO⟩ := cal_out hO
  unfold fX11_endByOfficial at e3
  obtain ⟨o4, e4, e3⟩ := cal_out e3
  obtain ⟨hCT, hCI⟩ := cq_of hM h n3 p1 e4
  obtain ⟨o5, e5, e3⟩ := cal_out e3
  obtain ⟨o6, e6, e3⟩ := cal_out e3
  obtain ⟨u3, f3, hU⟩ := cal_out hU
  obtain ⟨must, least, pin, ways, ve, row, of, rmn, g1, g2, g3⟩ := qo_of hM h n3 mi (fun _ _ => rfl) ⟨rfl, rfl, rfl⟩ (fm 14) (fm 15) (fm 16) (fm 17) (fm 18) (fm 19) (fm 20) p1
  rw [g1] at f3
  obtain ⟨u4, f4, hU⟩ := cal_out hU
  obtain ⟨w1, w2⟩ := bg_facts hM h n3 p1
  obtain ⟨_, ⟨_, d2, _⟩, _⟩ := ad_of hM h n3
  have hd := du_eq (of := of) (bg := o4.2.2.2.2.2.2.2.2.2.2.2.1) (x0 := fx 30) (x1 := fx 31) (x2 := fx 32) (x3 := fx 33) (y0 := fm 8) (y1 := fm 9) (y2 := fm 10) (y3 := fm 11) (b := aBg vx fx p1) (M := aM vx) (p := p2.toNatClampNeg) d2 g3 hCT.2.2.2.2.2.2.2.1 w2 (fun m hm => by have := w1 m hm; omega) z9 z5.1 z5.2.1 z5.2.2.1 z5.2.2.2 y1 y2 y3 y4 y5 y6 y7
  rw [← z4] at hd
  refine e15 (s := u4) h hx ?_ k1 ?_ ?_
  · rw [hO, e3]
    exact hCI
  · rw [hO, e3]
    show o4.2.2.2.2.2.2.2.2.2.2.2.1 o5.toNatClampNeg + o6 = _
    rw [e5, e6, f4, f3]
    exact hd.symm
  · rw [k2, hU]
theorem r3_days {vx : Nat → Int32} {fx : Nat → Nat → Int32} {gx : Nat → Nat → Int64} {mi : Nat → Int32} {fm : Nat → Nat → Int32} (hM : MIp mi fm) (h : REL3 vx fx mi fm) {r r2 : Int32} {v : Nat → Int32} {f : Nat → Nat → Int32} {g : Nat → Nat → Int64} {mi2 : Nat → Int32} {fm2 : Nat → Nat → Int32} {p1 p2 : Int32} (hx : (r, v, f, g) = xs_days vx fx gx p1 p2) (hm : (r2, mi2, fm2) = ms_days mi fm p1 p2) : REL3 v f mi2 fm2 ∧ r = r2 := by
  obtain ⟨O, hO⟩ : ∃ O, O = fX11_days (vx 1) (vx 2) (vx 3) (vx 44) (vx 45) (fx 3) (fx 4) (gx 0) (fx 5) (vx 46) (vx 47) (vx 48) (fx 6) (fx 7) (vx 11) (vx 12) (vx 13) (vx 15) (vx 16) (vx 17) (vx 19) (vx 20) (fx 22) (fx 23) (fx 24) (fx 25) (fx 26) (fx 27) (fx 28) (fx 29) (fx 30) (fx 31) (fx 32) (fx 33) p1 p2 := ⟨_, rfl⟩
  obtain ⟨U, hU⟩ : ∃ U, U = fX12_days mi (fm 14) (fm 15) (fm 16) (fm 17) (fm 18) (fm 19) (fm 4) (fm 7) (fm 2) (fm 5) (fm 6) (fm 3) (fm 0) (fm 1) (fm 20) (fm 8) (fm 10) (fm 11) (fm 9) p1 p2 := ⟨_, rfl⟩
  have hx : (r, v, f, g) = xt15 vx fx gx O := by
    rw [hx, hO]
    rfl
  have hm : (r2, mi2, fm2) = mt10 mi fm U := by
    rw [hm, hU]
    rfl
  obtain ⟨k1, k2⟩ := k10_of hm
  unfold fX11_days bfX11_days_16 at hO
  unfold fX12_days bfX12_days_16 at hU
  obtain ⟨o1, e1, hO⟩ := cal_out hO
  obtain ⟨u1, f1, hU⟩ := cal_out hU
  obtain ⟨a1, c1⟩ := tm_of h p1
  rw [a1, ← f1] at e1
  rw [← f1] at c1
  rcases c1 with c1 | ⟨c1, n3, _, _⟩
  · rw [if_pos (e1.trans c1)] at hO
    rw [if_pos c1] at hU
    refine e15 (s := -2) h hx ?_ k1 (by rw [hO]) (by rw [k2, hU])
    rw [hO]
    exact h.2.2.2.2.1
  rw [if_neg (by rw [e1, c1]; decide)] at hO
  rw [if_neg (by rw [c1]; decide)] at hU
  obtain ⟨o2, e2, hO⟩ := cal_out hO
  obtain ⟨u2, f2, hU⟩ := cal_out hU
  obtain ⟨a2, c2⟩ := dd_of h p2
  rw [a2, ← f2] at e2
  rw [← f2] at c2
  rcases c2 with c2 | ⟨c2, z4, z9, z5, da, dd, dl, y1, y2, y3, y4, y5, y6, y7⟩
  · rw [if_pos (e2.trans c2)] at hO
    rw [if_pos c2] at hU
    refine e15 (s := -2) h hx ?_ k1 (by rw [hO]) (by rw [k2, hU])
    rw [hO]
    exact h.2.2.2.2.1
  rw [if_neg (by rw [e2, c2]; decide)] at hO
  rw [if_neg (by rw [c2]; decide)] at hU
  obtain ⟨o3, e3, hO⟩ := cal_out hO
  obtain ⟨hCT, hCI⟩ := cq_of hM h n3 p1 e3
  obtain ⟨o4, e4, hO⟩ := cal_out hO
  obtain ⟨o5, e5, hO⟩ := cal_out hO
  obtain ⟨o6, e6, hO⟩ := cal_out hO
  unfold fX11_endByOfficial at e6
  obtain ⟨o7, e7, e6⟩ := cal_out e6
  obtain ⟨hCT2, hCI2⟩ := cq_gen hM h n3 hCI p1 e7
  obtain ⟨o8, e8, e6⟩ := cal_out e6
  obtain ⟨o9, e9, e6⟩ := cal_out e6
  obtain ⟨u3, f3, hU⟩ := cal_out hU
  obtain ⟨must, least, pin, ways, ve, row, of, rmn, g1, g2, g3⟩ := qo_of hM h n3 mi (fun _ _ => rfl) ⟨rfl, rfl, rfl⟩ (fm 14) (fm 15) (fm 16) (fm 17) (fm 18) (fm 19) (fm 20) p1
  rw [g1] at f3
  obtain ⟨u4, f4, hU⟩ := cal_out hU
  obtain ⟨u5, f5, hU⟩ := cal_out hU
  obtain ⟨w1, w2⟩ := bg_facts hM h n3 p1
  obtain ⟨_, ⟨_, d2, _⟩, _⟩ := ad_of hM h n3
  have hd := du_eq (of := of) (bg := o7.2.2.2.2.2.2.2.2.2.2.2.1) (x0 := fx 30) (x1 := fx 31) (x2 := fx 32) (x3 := fx 33) (y0 := fm 8) (y1 := fm 9) (y2 := fm 10) (y3 := fm 11) (b := aBg vx fx p1) (M := aM vx) (p := p2.toNatClampNeg) d2 g3 hCT2.2.2.2.2.2.2.2.1 w2 (fun m hm => by have := w1 m hm; omega) z9 z5.1 z5.2.1 z5.2.2.1 z5.2.2.2 y1 y2 y3 y4 y5 y6 y7
  rw [← z4] at hd
  have hd2 := dy_eq (of := of) (bg := o3.2.2.2.2.2.2.2.2.2.2.2.1) (b := aBg vx fx p1) (M := aM vx) (m := da) (k := dd) d2 g3 hCT.2.2.2.2.2.2.2.1 (w2 _) (by have := w1 da (by omega); omega) y4 y5 y6
  rw [← y1, ← y2] at hd2
  refine e15 (s := u4 - u5) h hx ?_ k1 ?_ ?_
  · rw [hO, e6]
    exact hCI2
  · rw [hO, e6]
    show (o7.2.2.2.2.2.2.2.2.2.2.2.1 o8.toNatClampNeg + o9) - (o3.2.2.2.2.2.2.2.2.2.2.2.1 o4.toNatClampNeg + o5) = _
    rw [e8, e9, e4, e5, f4, f5, f3]
    show _ = fX12_dueBy (fm 8) (fm 10) (fm 11) (fm 9) of p2 - fX12_dayBy of (fm 8 p2.toNatClampNeg) (fm 9 p2.toNatClampNeg)
    rw [hd, z5.1, z5.2.1, hd2]
  · rw [k2, hU]
theorem r3_moved {vx : Nat → Int32} {fx : Nat → Nat → Int32} {gx : Nat → Nat → Int64} {mi : Nat → Int32} {fm : Nat → Nat → Int32} (hM : MIp mi fm) (h : REL3 vx fx mi fm) {r r2 : Int32} {v : Nat → Int32} {f : Nat → Nat → Int32} {g : Nat → Nat → Int64} {mi2 : Nat → Int32} {fm2 : Nat → Nat → Int32} {p1 p2 p3 : Int32} (hx : (r, v, f, g) = xs_moved vx fx gx p1 p2 p3) (hm : (r2, mi2, fm2) = ms_moved mi fm p1 p2 p3) : REL3 v f mi2 fm2 ∧ r = r2 := by
  obtain ⟨O, hO⟩ : ∃ O, O = fX11_moved (vx 1) (vx 2) (vx 3) (vx 44) (vx 45) (fx 3) (fx 4) (gx 0) (fx 5) (vx 46) (vx 47) (vx 48) (fx 6) (fx 7) (vx 11) (vx 12) (vx 13) (vx 15) (vx 16) (vx 17) (vx 19) (fx 22) (fx 23) (fx 24) (fx 25) (fx 26) (fx 27) (fx 28) (fx 29) p1 p2 p3 := ⟨_, rfl⟩
  obtain ⟨U, hU⟩ : ∃ U, U = fX12_moved mi (fm 14) (fm 15) (fm 16) (fm 17) (fm 18) (fm 19) (fm 4) (fm 7) (fm 2) (fm 5) (fm 6) (fm 3) (fm 0) (fm 1) (fm 20) p1 p2 p3 := ⟨_, rfl⟩
  have hx : (r, v, f, g) = xt15 vx fx gx O := by
    rw [hx, hO]
    rfl
  have hm : (r2, mi2, fm2) = mt10 mi fm U := by
    rw [hm, hU]
    rfl
  obtain ⟨k1, k2⟩ := k10_of hm
  unfold fX11_moved bfX11_moved_32 at hO
  unfold fX12_moved bfX12_moved_24 at hU
  obtain ⟨o1, e1, hO⟩ := cal_out hO
  obtain ⟨u1, f1, hU⟩ := cal_out hU
  obtain ⟨a1, c1⟩ := tm_of h p1
  rw [a1, ← f1] at e1
  rw [← f1] at c1
  rcases c1 with c1 | ⟨c1, n3, _, _⟩
  · rw [if_pos (e1.trans c1)] at hO
    rw [if_pos c1] at hU
    refine e15 (s := -2000) h hx ?_ k1 (by rw [hO]) (by rw [k2, hU])
    rw [hO]
    exact h.2.2.2.2.1
  rw [if_neg (by rw [e1, c1]; decide)] at hO
  rw [if_neg (by rw [c1]; decide)] at hU
  obtain ⟨o2, e2, hO⟩ := cal_out hO
  obtain ⟨u2, f2, hU⟩ := cal_out hU
  obtain ⟨a2, c2⟩ := tm_of h p2
  rw [a2, ← f2] at e2
  rw [← f2] at c2
  rcases c2 with c2 | ⟨c2, _, _, _⟩
  · rw [if_pos (e2.trans c2)] at hO
    rw [if_pos c2] at hU
    refine e15 (s := -2000) h hx ?_ k1 (by rw [hO]) (by rw [k2, hU])
    rw [hO]
    exact h.2.2.2.2.1
  rw [if_neg (by rw [e2, c2]; decide)] at hO
  rw [if_neg (by rw [c2]; decide)] at hU
  obtain ⟨o3, e3, hO⟩ := cal_out hO
  obtain ⟨u3, f3, hU⟩ := cal_out hU
  obtain ⟨a3, c3⟩ := bg_of h n3 p3
  rw [a3, ← f3] at e3
  rw [← f3] at c3
  rcases c3 with c3 | ⟨c3, b6, b7⟩
  · rw [if_pos (e3.trans c3)] at hO
    rw [if_pos c3] at hU
    refine e15 (s := -2000) h hx ?_ k1 (by rw [hO]) (by rw [k2, hU])
    rw [hO]
    exact h.2.2.2.2.1
  rw [if_neg (by rw [e3, c3]; decide)] at hO
  rw [if_neg (by rw [c3]; decide)] at hU
  obtain ⟨o4, e4, hO⟩ := cal_out hO
  obtain ⟨hCT, hCI⟩ := cq_of hM h n3 p1 e4
  obtain ⟨o5, e5, hO⟩ := cal_out hO
  obtain ⟨hCT2, hCI2⟩ := cq_gen hM h n3 hCI p2 e5
  obtain ⟨u4, f4, hU⟩ := cal_out hU
  obtain ⟨must, least, pin, ways, ve, row, of, rmn, g1, g2, g3⟩ := qo_of hM h n3 mi (fun _ _ => rfl) ⟨rfl, rfl, rfl⟩ (fm 14) (fm 15) (fm 16) (fm 17) (fm 18) (fm 19) (fm 20) p2
  rw [g1] at f4
  subst f4
  obtain ⟨u5, f5, hU⟩ := cal_out hU
  obtain ⟨must', least', pin', ways', ve', row', of', rmn', g1', g2', g3'⟩ := qo_of hM h n3 (upd (upd mi 37 0) 41 rmn) (fun k hk => by rw [upd_ne (by omega), upd_ne (by omega)]) ⟨rfl, rfl, rfl⟩ must least pin ways ve row of p1
  rw [g1'] at f5
  subst f5
  refine e15 (s := nI (aBg vx fx p2 p3.toNatClampNeg) - nI (aBg vx fx p1 p3.toNatClampNeg)) h hx ?_ k1 ?_ ?_
  · rw [hO]
    exact hCI2
  · rw [hO]
    show o5.2.2.2.2.2.2.2.2.2.2.2.1 p3.toNatClampNeg - o4.2.2.2.2.2.2.2.2.2.2.2.1 p3.toNatClampNeg = _
    rw [hCT2.2.2.2.2.2.2.2.1 _ b6, hCT.2.2.2.2.2.2.2.1 _ b6]
  · rw [k2, hU]
    show of p3.toNatClampNeg - of' p3.toNatClampNeg = _
    rw [g3 _ b6, g3' _ b6]
theorem cp_s1 {p_name : Nat → Int32} {p_trust : Nat → Int32} {r_place : Nat → Int32} {r_kind : Nat → Int32} {r_month : Nat → Int32} {r_day : Nat → Int32} {r_known : Nat → Int32} {r_struck : Nat → Int32} {bmonths : Int32} {bfull : Int32} {blean : Int32} {bhasMoon : Int32} {bmoonStart : Int32} {bmoonStep : Int32} {bp_name : Nat → Int32} {bp_trust : Nat → Int32} {br_place : Nat → Int32} {br_kind : Nat → Int32} {br_month : Nat → Int32} {br_day : Nat → Int32} {br_known : Nat → Int32} {br_struck : Nat → Int32} {m n : Nat} (z : Nat) (v w0_0 w0_1 w0_2 w0_3 w0_4 w0_5 w0_6 w0_7 w0_8 w0_9 : Int32) (a b : Nat → Int32) : (lfX0_copyFrom p_name p_trust r_place r_kind r_month r_day r_known r_struck bmonths bfull blean bhasMoon bmoonStart bmoonStep (nI m) (nI n) bp_name bp_trust br_place br_kind br_month br_day br_known br_struck (z + 1)).1 v w0_0 w0_1 w0_2 w0_3 w0_4 w0_5 w0_6 w0_7 w0_8 w0_9 a b = dfX0_copyFrom_54 p_name p_trust r_place r_kind r_month r_day r_known r_struck bmonths bfull blean bhasMoon bmoonStart bmoonStep (nI m) (nI n) bp_name bp_trust br_place br_kind br_month br_day br_known br_struck (lfX0_copyFrom p_name p_trust r_place r_kind r_month r_day r_known r_struck bmonths bfull blean bhasMoon bmoonStart bmoonStep (nI m) (nI n) bp_name bp_trust br_place br_kind br_month br_day br_known br_struck z) v w0_0 w0_1 w0_2 w0_3 w0_4 w0_5 w0_6 w0_7 w0_8 w0_9 a b := rfl
theorem cp_s2 {p_name : Nat → Int32} {p_trust : Nat → Int32} {r_place : Nat → Int32} {r_kind : Nat → Int32} {r_month : Nat → Int32} {r_day : Nat → Int32} {r_known : Nat → Int32} {r_struck : Nat → Int32} {bmonths : Int32} {bfull : Int32} {blean : Int32} {bhasMoon : Int32} {bmoonStart : Int32} {bmoonStep : Int32} {bp_name : Nat → Int32} {bp_trust : Nat → Int32} {br_place : Nat → Int32} {br_kind : Nat → Int32} {br_month : Nat → Int32} {br_day : Nat → Int32} {br_known : Nat → Int32} {br_struck : Nat → Int32} {m n : Nat} (z : Nat) (v w0_0 w0_1 w0_2 w0_3 w0_4 w0_5 w0_6 w0_7 w0_8 w0_9 : Int32) (a b c d e f g h : Nat → Int32) : (lfX0_copyFrom p_name p_trust r_place r_kind r_month r_day r_known r_struck bmonths bfull blean bhasMoon bmoonStart bmoonStep (nI m) (nI n) bp_name bp_trust br_place br_kind br_month br_day br_known br_struck (z + 1)).2 v w0_0 w0_1 w0_2 w0_3 w0_4 w0_5 w0_6 w0_7 w0_8 w0_9 a b c d e f g h = dfX0_copyFrom_92 p_name p_trust r_place r_kind r_month r_day r_known r_struck bmonths bfull blean bhasMoon bmoonStart bmoonStep (nI m) (nI n) bp_name bp_trust br_place br_kind br_month br_day br_known br_struck (lfX0_copyFrom p_name p_trust r_place r_kind r_month r_day r_known r_struck bmonths bfull blean bhasMoon bmoonStart bmoonStep (nI m) (nI n) bp_name bp_trust br_place br_kind br_month br_day br_known br_struck z) v w0_0 w0_1 w0_2 w0_3 w0_4 w0_5 w0_6 w0_7 w0_8 w0_9 a b c d e f g h := rfl
theorem cp_L2 {p_name : Nat → Int32} {p_trust : Nat → Int32} {r_place : Nat → Int32} {r_kind : Nat → Int32} {r_month : Nat → Int32} {r_day : Nat → Int32} {r_known : Nat → Int32} {r_struck : Nat → Int32} {bmonths : Int32} {bfull : Int32} {blean : Int32} {bhasMoon : Int32} {bmoonStart : Int32} {bmoonStep : Int32} {bp_name : Nat → Int32} {bp_trust : Nat → Int32} {br_place : Nat → Int32} {br_kind : Nat → Int32} {br_month : Nat → Int32} {br_day : Nat → Int32} {br_known : Nat → Int32} {br_struck : Nat → Int32} {m n : Nat} (hn : n ≤ 24) {w0_0 w0_1 w0_2 w0_3 w0_4 w0_5 w0_6 w0_7 w0_9 : Int32} {a b : Nat → Int32} : ∀ (k i z : Nat) (c d e f g h : Nat → Int32), i + k = n → k < z → (∀ j, j < i → c j = br_place j ∧ d j = br_kind j ∧ e j = br_month j ∧ f j = br_day j ∧ g j = br_known j ∧ h j = br_struck j) → ∃ c' d' e' f' g' h' : Nat → Int32, (lfX0_copyFrom p_name p_trust r_place r_kind r_month r_day r_known r_struck bmonths bfull blean bhasMoon bmoonStart bmoonStep (nI m) (nI n) bp_name bp_trust br_place br_kind br_month br_day br_known br_struck z).2 (nI i) w0_0 w0_1 w0_2 w0_3 w0_4 w0_5 w0_6 w0_7 (nI i) w0_9 a b c d e f g h = (w0_0, w0_1, w0_2, w0_3, w0_4, w0_5, w0_6, w0_7, nI n, w0_9, a, b, c', d', e', f', g', h') ∧ ∀ j, j < n → c' j = br_place j ∧ d' j = br_kind j ∧ e' j = br_month j ∧ f' j = br_day j ∧ g' j = br_known j ∧ h' j = br_struck j := by
  intro k
  induction k with
  | zero =>
    intro i z c d e f g h hi hz hE
    obtain ⟨z, rfl⟩ : ∃ y, z = y + 1 := ⟨z - 1, by omega⟩
    have e9 : i = n := by omega
    subst e9
    refine ⟨c, d, e, f, g, h, ?_, hE⟩
    rw [cp_s2]
    unfold dfX0_copyFrom_92
    rw [if_pos (Int32.le_refl _)]
  | succ k ih =>
    intro i z c d e f g h hi hz hE
    obtain ⟨z, rfl⟩ : ∃ y, z = y + 1 := ⟨z - 1, by omega⟩
    have e1 : fX0_addReport (nI i) c d e f g h (br_place i) (br_kind i) (br_month i) (br_day i) (br_known i) = (nI (i + 1), upd c i (br_place i), upd d i (br_kind i), upd e i (br_month i), upd f i (br_day i), upd g i (br_known i), upd h i 0) := by
      unfold fX0_addReport bfX0_addReport_68
      rw [if_neg (show ¬ (24 : Int32) ≤ nI i from nI_ge (b := 24) (by omega) (by omega)), nI_clamp (by omega), nI_1]
    rw [cp_s2]
    unfold dfX0_copyFrom_92
    rw [if_neg (fun w => by have := (nI_leI (by omega) (by omega)).1 w; omega), nI_clamp (show i < 2 ^ 31 by omega), cal_b, e1, nI_1]
    refine ih (i + 1) z _ _ _ _ _ _ (by omega) (by omega) (fun j hj => ?_)
    by_cases c9 : j = i
    · subst c9
      exact ⟨if_pos rfl, if_pos rfl, if_pos rfl, if_pos rfl, if_pos rfl, if_pos rfl⟩
    · obtain ⟨q1, q2, q3, q4, q5, q6⟩ := hE j (by omega)
      exact ⟨(if_neg c9).trans q1, (if_neg c9).trans q2, (if_neg c9).trans q3, (if_neg c9).trans q4, (if_neg c9).trans q5, (if_neg c9).trans ((if_neg c9).trans q6)⟩
theorem cp_L1 {p_name : Nat → Int32} {p_trust : Nat → Int32} {r_place : Nat → Int32} {r_kind : Nat → Int32} {r_month : Nat → Int32} {r_day : Nat → Int32} {r_known : Nat → Int32} {r_struck : Nat → Int32} {bmonths : Int32} {bfull : Int32} {blean : Int32} {bhasMoon : Int32} {bmoonStart : Int32} {bmoonStep : Int32} {bp_name : Nat → Int32} {bp_trust : Nat → Int32} {br_place : Nat → Int32} {br_kind : Nat → Int32} {br_month : Nat → Int32} {br_day : Nat → Int32} {br_known : Nat → Int32} {br_struck : Nat → Int32} {m n : Nat} (hm : m ≤ 6) (hn : n ≤ 24) {w0_0 w0_1 w0_2 w0_3 w0_4 w0_5 w0_6 w0_9 : Int32} : ∀ (k i z : Nat) (a b : Nat → Int32), i + k = m → n + k + 1 < z → (∀ j, j < i → a j = bp_name j ∧ b j = bp_trust j) → ∃ a' b' c' d' e' f' g' h' : Nat → Int32, (lfX0_copyFrom p_name p_trust r_place r_kind r_month r_day r_known r_struck bmonths bfull blean bhasMoon bmoonStart bmoonStep (nI m) (nI n) bp_name bp_trust br_place br_kind br_month br_day br_known br_struck z).1 (nI i) w0_0 w0_1 w0_2 w0_3 w0_4 w0_5 w0_6 (nI i) (nI 0) w0_9 a b = (w0_0, w0_1, w0_2, w0_3, w0_4, w0_5, w0_6, nI m, nI n, w0_9, a', b', c', d', e', f', g', h') ∧ (∀ j, j < m → a' j = bp_name j ∧ b' j = bp_trust j) ∧ ∀ j, j < n → c' j = br_place j ∧ d' j = br_kind j ∧ e' j = br_month j ∧ f' j = br_day j ∧ g' j = br_known j ∧ h' j = br_struck j := by
  intro k
  induction k with
  | zero =>
    intro i z a b hi hz hE
    obtain ⟨z, rfl⟩ : ∃ y, z = y + 1 := ⟨z - 1, by omega⟩
    have e9 : i = m := by omega
    subst e9
    rw [cp_s1]
    unfold dfX0_copyFrom_54
    rw [if_pos (Int32.le_refl _), ← nI_0]
    obtain ⟨c', d', e', f', g', h', q1, q2⟩ := cp_L2 (m := i) (n := n) hn (a := a) (b := b) n 0 z r_place r_kind r_month r_day r_known r_struck (by omega) (by omega) (fun j hj => absurd hj (by omega))
    exact ⟨a, b, c', d', e', f', g', h', q1, hE, q2⟩
  | succ k ih =>
    intro i z a b hi hz hE
    obtain ⟨z, rfl⟩ : ∃ y, z = y + 1 := ⟨z - 1, by omega⟩
    have e1 : fX0_addPlace (nI i) a b (bp_name i) (bp_trust i) = (nI (i + 1), upd a i (bp_name i), upd b i (bp_trust i)) := by
      unfold fX0_addPlace bfX0_addPlace_45
      rw [if_neg (show ¬ (6 : Int32) ≤ nI i from nI_ge (b := 6) (by omega) (by omega)), nI_clamp (by omega), nI_1]
    rw [cp_s1]
    unfold dfX0_copyFrom_54
    rw [if_neg (fun w => by have := (nI_leI (by omega) (by omega)).1 w; omega), nI_clamp (show i < 2 ^ 31 by omega), cal_b, e1, nI_1]
    refine ih (i + 1) z _ _ (by omega) (by omega) (fun j hj => ?_)
    by_cases c9 : j = i
    · subst c9
      exact ⟨if_pos rfl, if_pos rfl⟩
    · obtain ⟨q1, q2⟩ := hE j (by omega)
      exact ⟨(if_neg c9).trans q1, (if_neg c9).trans q2⟩
theorem cp_eq {p_name : Nat → Int32} {p_trust : Nat → Int32} {r_place : Nat → Int32} {r_kind : Nat → Int32} {r_month : Nat → Int32} {r_day : Nat → Int32} {r_known : Nat → Int32} {r_struck : Nat → Int32} {bmonths : Int32} {bfull : Int32} {blean : Int32} {bhasMoon : Int32} {bmoonStart : Int32} {bmoonStep : Int32} {bp_name : Nat → Int32} {bp_trust : Nat → Int32} {br_place : Nat → Int32} {br_kind : Nat → Int32} {br_month : Nat → Int32} {br_day : Nat → Int32} {br_known : Nat → Int32} {br_struck : Nat → Int32} {m n : Nat} (hm : m ≤ 6) (hn : n ≤ 24) : ∃ a' b' c' d' e' f' g' h' : Nat → Int32, fX0_copyFrom p_name p_trust r_place r_kind r_month r_day r_known r_struck bmonths bfull blean bhasMoon bmoonStart bmoonStep (nI m) (nI n) bp_name bp_trust br_place br_kind br_month br_day br_known br_struck = (bmonths, bfull, blean, 0, bhasMoon, bmoonStart, bmoonStep, nI m, nI n, 0, a', b', c', d', e', f', g', h') ∧ (∀ j, j < m → a' j = bp_name j ∧ b' j = bp_trust j) ∧ ∀ j, j < n → c' j = br_place j ∧ d' j = br_kind j ∧ e' j = br_month j ∧ f' j = br_day j ∧ g' j = br_known j ∧ h' j = br_struck j := by
  obtain ⟨a', b', c', d', e', f', g', h', q1, q2, q3⟩ := cp_L1 (m := m) (n := n) hm hn (w0_0 := bmonths) (w0_1 := bfull) (w0_2 := blean) (w0_3 := 0) (w0_4 := bhasMoon) (w0_5 := bmoonStart) (w0_6 := bmoonStep) (w0_9 := 0) m 0 1000000000 p_name p_trust (by omega) (by omega) (fun j hj => absurd hj (by omega))
  refine ⟨a', b', c', d', e', f', g', h', ?_, q2, q3⟩
  unfold fX0_copyFrom
  rw [cal_b]
  rw [nI_0] at q1
  exact q1
theorem sa_s (n : Int32) (rp rs : Nat → Int32) (p : Int32) (z : Nat) (v : Int32) (a : Nat → Int32) : lfX0_strikeAllBut n rp rs p (z + 1) v a = dfX0_strikeAllBut_2 n rp rs p (lfX0_strikeAllBut n rp rs p z) v a := rfl
theorem sa_L {n : Nat} {rp rs : Nat → Int32} {p : Int32} (hn : n ≤ 24) : ∀ (k i z : Nat) (a : Nat → Int32), i + k = n → k < z → (∀ j, j < i → a j = if rp j = p then rs j else 1) → (∀ j, i ≤ j → j < n → a j = rs j) → ∀ j, j < n → lfX0_strikeAllBut (nI n) rp rs p z (nI i) a j = if rp j = p then rs j else 1 := by
  intro k
  induction k with
  | zero =>
    intro i z a hi hz h1 h2 j hj
    obtain ⟨z, rfl⟩ : ∃ y, z = y + 1 := ⟨z - 1, by omega⟩
    have e9 : i = n := by omega
    subst e9
    rw [sa_s]
    unfold dfX0_strikeAllBut_2
    rw [if_pos (Int32.le_refl _)]
    exact h1 j hj
  | succ k ih =>
    intro i z a hi hz h1 h2 j hj
    obtain ⟨z, rfl⟩ : ∃ y, z = y + 1 := ⟨z - 1, by omega⟩
    rw [sa_s]
    unfold dfX0_strikeAllBut_2 bfX0_strikeAllBut_33
    rw [if_neg (fun w => by have := (nI_leI (by omega) (by omega)).1 w; omega), nI_clamp (show i < 2 ^ 31 by omega), nI_1]
    by_cases c : rp i = p
    · rw [if_pos c]
      refine ih (i + 1) z _ (by omega) (by omega) (fun j hj => ?_) (fun j q1 q2 => h2 j (by omega) q2) j hj
      by_cases e : j = i
      · rw [e, h2 i (by omega) (by omega), if_pos c]
      · exact h1 j (by omega)
    · rw [if_neg c]
      refine ih (i + 1) z _ (by omega) (by omega) (fun j hj => ?_) (fun j q1 q2 => ?_) j hj
      · by_cases e : j = i
        · rw [e, if_neg c]
          exact if_pos rfl
        · rw [show upd a i 1 j = a j from if_neg e]
          exact h1 j (by omega)
      · rw [show upd a i 1 j = a j from if_neg (by omega)]
        exact h2 j (by omega) q2
theorem sa_eq {n : Nat} {rp rs : Nat → Int32} {p : Int32} (hn : n ≤ 24) : ∀ j, j < n → fX0_strikeAllBut (nI n) rp rs p j = if rp j = p then rs j else 1 := by
  intro j hj
  unfold fX0_strikeAllBut
  have q := sa_L (rp := rp) (rs := rs) (p := p) hn n 0 1000000000 rs (by omega) (by omega) (fun j hj => absurd hj (by omega)) (fun j _ _ => rfl) j hj
  rw [nI_0] at q
  exact q
theorem known_only (rn rs : Int32) (t : Int32) (c : Prop) [Decidable c] : (¬ fX7_isKnownBy rn (if c then rs else 1) t = 0) ↔ (c ∧ ¬ fX7_isKnownBy rn rs t = 0) := by
  rw [kb_eq, kb_eq]
  by_cases h : c
  · rw [if_pos h]
    exact ⟨fun q => ⟨h, q⟩, fun q => q.2⟩
  · rw [if_neg h]
    exact ⟨fun q => absurd q.1 (by decide), fun q => absurd q.1 h⟩
theorem ja1_eq {vx : Nat → Int32} {fx : Nat → Nat → Int32} {mi : Nat → Int32} {fm : Nat → Nat → Int32} (hM : MIp mi fm) (h : REL3 vx fx mi fm) (h3 : ¬ mi 3 = 0) {q0 q1 q2 q3 q4 x0 x1 x2 x3 x4 x5 x6 x7 : Nat → Int32} {q5 : Nat → Int32} {u : Nat → Int64} (hZ : oZ q5) (t p : Int32) {o : Int32 × Int32 × Int32 × Int32 × Int32 × Int32 × Int32 × Int32 × Int32 × Int32 × Int32 × Int32 × Int32 × Int32 × Int32 × (Nat → Int32) × (Nat → Int32) × (Nat → Int64) × (Nat → Int32) × (Nat → Int32) × (Nat → Int32) × (Nat → Int32) × (Nat → Int32) × (Nat → Int32) × (Nat → Int32) × (Nat → Int32) × (Nat → Int32) × (Nat → Int32) × (Nat → Int32)} (ho : o = fX11_judgeAlone q0 q1 u q2 q3 q5 x0 x1 x2 x3 x4 x5 x6 x7 (vx 11) (vx 12) (vx 13) (vx 15) (vx 16) (vx 17) (vx 18) (vx 19) (fx 22) (fx 23) (fx 24) (fx 25) (fx 26) (fx 27) (fx 28) (fx 29) t p) : ∃ l, l = lin (aLT fx) (fun j => decide (fx 24 j = p ∧ ¬ fX7_isKnownBy (fx 28 j) (fx 29 j) t = 0)) (aN vx) ∧ (∀ m, m ≤ aM vx → o.2.2.2.2.2.2.2.2.2.2.2.2.2.2.2.2.2.2.1 m = nI (29 * m + (ofs (aF vx) (aL vx) (aM vx) (jd (aF vx) (aL vx) (aM vx) (vx 15) (vx 16) (vx 17) (nf (fx 25)) (nf (fx 26)) (nf (fx 27)) l).1 m).1)) ∧ oZ o.2.2.2.2.2.2.2.2.2.2.2.2.2.2.2.2.2.2.2.2.1 := by
  obtain ⟨⟨k1, k2, k3, k4⟩, ⟨b1, b2, b3, b4, b5, b6, b7, b8⟩, hW, hP, hR, _⟩ := ad_of hM h h3
  have k18 : vx 18 = nI (aP6 vx) := by
    obtain ⟨⟨_, ⟨_, ⟨m, r, d, hm6, hr, hd, a1, _⟩, _⟩, _⟩, _⟩ := h
    show vx 18 = nI (vx 18).toNatClampNeg
    rw [a1, nI_clamp (by omega)]
  refine ⟨_, rfl, ?_⟩
  unfold fX11_judgeAlone at ho
  obtain ⟨o1, e1, ho⟩ := cal_out ho
  obtain ⟨a', b', c', d', e', f', g', h', w1, w2, w3⟩ := cp_eq (p_name := x0) (p_trust := x1) (r_place := x2) (r_kind := x3) (r_month := x4) (r_day := x5) (r_known := x6) (r_struck := x7) (bmonths := vx 11) (bfull := vx 12) (blean := vx 13) (bhasMoon := vx 15) (bmoonStart := vx 16) (bmoonStep := vx 17) (bp_name := fx 22) (bp_trust := fx 23) (br_place := fx 24) (br_kind := fx 25) (br_month := fx 26) (br_day := fx 27) (br_known := fx 28) (br_struck := fx 29) b7 b8
  rw [k18, k4, w1] at e1
  subst e1
  obtain ⟨o2, e2, ho⟩ := cal_out ho
  obtain ⟨o3, e3, ho⟩ := cal_out ho
  dsimp only at e2 e3 ho
  have hst : ∀ j, j < aN vx → o2 j = if fx 24 j = p then fx 29 j else 1 := by
    intro j hj
    rw [e2, sa_eq b8 j hj, (w3 j hj).1, (w3 j hj).2.2.2.2.2]
  obtain ⟨r1, r2, r3, r4, r5, r6, r7, r8, r9, r10, r11, s1, s2⟩ := cj_eq (F := aF vx) (L := aL vx) (M := aM vx) (n := aN vx) (m := aP6 vx) (hm := vx 15) (ms := vx 16) (mp := vx 17) (fve := q0) (fqu := q1) (fcb := q2) (ffal := q3) (ffon := q5) (ftu := u) (t := t) (pn := a') (pt := b') (rp := c') (rk := d') (rm := e') (rd := f') (rn := g') (rs := o2) (K := fun j => decide (fx 24 j = p ∧ ¬ fX7_isKnownBy (fx 28 j) (fx 29 j) t = 0)) hW b7 b8 (by omega) b2 b3 b5 b4 b6 (fun p hp => by rw [(w2 p hp).1, (w2 p hp).2]; exact hP p hp) (fun j hj => by obtain ⟨z1, z2, z3, z4, z5, z6⟩ := w3 j hj; rw [z1, z2, z3, z4]; exact hR j hj) (fun j hj => by
    rw [decide_eq_true_eq, hst j hj, (w3 j hj).2.2.2.2.1, known_only]) hZ
  rw [k1, k2, k3, s1] at e3
  subst e3
  subst ho
  exact ⟨s2.2.2.2.2.2.2.2.1, s2.2.2.2.2.2.2.2.2.2⟩
theorem qg_of {vx : Nat → Int32} {fx : Nat → Nat → Int32} {mi : Nat → Int32} {fm : Nat → Nat → Int32} (hM : MIp mi fm) (h : REL3 vx fx mi fm) (h3 : ¬ mi 3 = 0) {F L : Nat} {tr : Nat → Nat} (hF1 : 1 ≤ F) (hF : F ≤ 5) (hL1 : 1 ≤ L) (hL : L ≤ 5) (htr : ∀ p, p < aP6 vx → tr p ≤ 9) (mj : Nat → Int32) (hj : ∀ k, k ≤ 36 → ¬ k = 1 → ¬ k = 2 → mj k = mi k) (h1 : mj 1 = nI F) (h2 : mj 2 = nI L) (hT : ∀ p, p < aP6 vx → (if nI p = mj 45 then mj 44 else fm 0 p) = nI (tr p)) (must least pin ways ve row : Nat → Int32) (t : Int32) : ∃ (must' least' pin' ways' ve' row' : Nat → Int32) (rmn : Int32), fX12_judgesAll mj must least pin ways ve row (fm 4) (fm 7) (fm 2) (fm 5) (fm 6) (fm 3) (fm 0) (fm 1) t = (0, rmn, must', least', pin', ways', ve', row') ∧ RT F L (aM vx) (aN vx) (vx 15) (vx 16) (vx 17) (nf (fx 25)) (nf (fx 26)) (nf (fx 27)) (lin (ltr tr (nf (fx 22)) (nf (fx 24)) (nf (fx 26)) (nf (fx 27)) (nf (fx 25))) (kR mj (fm 4) (fm 7) (fm 2) t) (aN vx)) 0 rmn must' least' pin' ve' row' := by
  obtain ⟨k0, k1, k2, k10, ⟨k4, k5, k6⟩, kN, kT, kRr, _⟩ := rd_of hM h h3
  obtain ⟨_, ⟨b1, b2, b3, b4, b5, b6, b7, b8⟩, hW, hP, hR, _⟩ := ad_of hM h h3
  have hW2 : RW (aM vx) (aN vx) (aP6 vx) tr (nf (fx 22)) (nf (fx 24)) (nf (fx 25)) (nf (fx 26)) (nf (fx 27)) := ⟨fun p hp => ⟨htr p hp, (hW.1 p hp).2⟩, hW.2⟩
  obtain ⟨must', least', pin', ways', ve', row', rmn, e1, e2⟩ := ja_eq (mi := mj) (pn := fx 22) (must := must) (least := least) (pin := pin) (ways := ways) (ve := ve) (row := row) (fs := fm 4) (fn := fm 7) (fp := fm 2) (rm := fm 5) (rd := fm 6) (rk := fm 3) (ft := fm 0) (fl := fm 1) (t := t) hW2 b7 b8 b2 hF hL ((hj 0 (by omega) (by omega) (by omega)).trans k0) h1 h2 ((hj 10 (by omega) (by omega) (by omega)).trans k10) kN (fun p hp => ⟨hT p hp, (hP p hp).2⟩) kRr
  rw [(hj 4 (by omega) (by omega) (by omega)).trans k4, (hj 5 (by omega) (by omega) (by omega)).trans k5, (hj 6 (by omega) (by omega) (by omega)).trans k6] at e2
  exact ⟨must', least', pin', ways', ve', row', rmn, e1, e2⟩
theorem qh_of {vx : Nat → Int32} {fx : Nat → Nat → Int32} {mi : Nat → Int32} {fm : Nat → Nat → Int32} (hM : MIp mi fm) (h : REL3 vx fx mi fm) (h3 : ¬ mi 3 = 0) (mj : Nat → Int32) (hj : ∀ k, k ≤ 36 → mj k = mi k) (h45 : mj 45 = mi 45) (must least pin ways ve row off : Nat → Int32) (t : Int32) : ∃ (must' least' pin' ways' ve' row' of' : Nat → Int32) (rmn : Int32), fX12_officialBy mj must least pin ways ve row (fm 4) (fm 7) (fm 2) (fm 5) (fm 6) (fm 3) (fm 0) (fm 1) off t = (0, rmn, must', least', pin', ways', ve', row', of') ∧ ∀ j, j ≤ aM vx → of' j = nI (29 * j + (ofs (aF vx) (aL vx) (aM vx) (jd (aF vx) (aL vx) (aM vx) (vx 15) (vx 16) (vx 17) (nf (fx 25)) (nf (fx 26)) (nf (fx 27)) (lin (aLT fx) (kR mj (fm 4) (fm 7) (fm 2) t) (aN vx))).1 j).1) := by
  obtain ⟨k0, k1, k2, _, _, _, kT, _⟩ := rd_of hM h h3
  obtain ⟨_, ⟨b1, b2, b3, b4, b5, b6, b7, b8⟩, hW, _⟩ := ad_of hM h h3
  have hs : mi 45 = -1 := h.2.2.1.2.2
  obtain ⟨must', least', pin', ways', ve', row', rmn, g1, g2⟩ := qg_of hM h h3 b3 b4 b5 b6 (fun p hp => (hW.1 p hp).1) mj (fun k hk _ _ => hj k hk) ((hj 1 (by omega)).trans k1) ((hj 2 (by omega)).trans k2) (fun p hp => by rw [h45, hs, if_neg (nIm1 (by omega))]; exact kT p hp) must least pin ways ve row t
  obtain ⟨wt, of', l1, l2⟩ := lo_eq (mi := upd (upd mj 37 0) 41 rmn) (must := must') (least := least') (pin := pin') (ways := ways') (of := off) ((if_neg (by decide)).trans ((if_neg (by decide)).trans ((hj 0 (by omega)).trans k0))) ((if_neg (by decide)).trans ((if_neg (by decide)).trans ((hj 1 (by omega)).trans k1))) ((if_neg (by decide)).trans ((if_neg (by decide)).trans ((hj 2 (by omega)).trans k2))) ((if_neg (by decide)).trans (if_pos rfl)) b2 b4 b6 (jd_pos b3 b5 _) g2.2.2.1 g2.2.2.2.1
  refine ⟨must', least', pin', wt, ve', row', of', rmn, ?_, l2⟩
  unfold fX12_officialBy
  rw [cal_b, g1, cal_b, l1]
theorem only_list {vx : Nat → Int32} {fx : Nat → Nat → Int32} {mi : Nat → Int32} {fm : Nat → Nat → Int32} (hM : MIp mi fm) (h : REL3 vx fx mi fm) (h3 : ¬ mi 3 = 0) {mj : Nat → Int32} {p t : Int32} (h42 : mj 42 = p) (h43 : mj 43 = mi 43) (hp : ¬ p = -1) : lin (aLT fx) (kR mj (fm 4) (fm 7) (fm 2) t) (aN vx) = lin (aLT fx) (fun j => decide (fx 24 j = p ∧ ¬ fX7_isKnownBy (fx 28 j) (fx 29 j) t = 0)) (aN vx) := by
  obtain ⟨_, _, _, _, _, _, _, kRr, r9⟩ := rd_of hM h h3
  obtain ⟨_, ⟨_, _, _, _, _, _, _, b8⟩, _, _, hR, _⟩ := ad_of hM h h3
  have hs : mi 43 = -1 := h.2.2.1.2.1
  refine lin_cong _ (fun j hj => ?_)
  unfold kR
  rw [h42, h43, hs]
  refine decide_eq_decide.mpr ?_
  have e : fX12_isKnown (fm 4) (fm 7) (nI j) t = fX7_isKnownBy (fx 28 j) (fx 29 j) t := by
    rw [← kn_eq, nI_clamp (by omega), (r9 j hj).1, (r9 j hj).2]
  rw [e, (kRr j hj).1, ← (hR j hj).1]
  exact ⟨fun q => ⟨q.2.2.resolve_left hp, q.1⟩, fun q => ⟨q.2, nIm1 (by omega), Or.inr q.1⟩⟩
theorem pp_of {vx : Nat → Int32} {fx : Nat → Nat → Int32} {mi : Nat → Int32} {fm : Nat → Nat → Int32} (h : REL3 vx fx mi fm) (p : Int32) : fX11_hasPlace (vx 18) p = fX12_isPlace mi p ∧ (fX12_isPlace mi p = 0 ∨ (fX12_isPlace mi p = 1 ∧ p.toNatClampNeg < aP6 vx ∧ p = nI p.toNatClampNeg)) := by
  obtain ⟨⟨_, ⟨_, ⟨m, r, d, hm6, hr, hd, a1, a2, a3, a4, a5, a6, _⟩, _⟩, _⟩, _⟩ := h
  have e18 : aP6 vx = m := by
    show (vx 18).toNatClampNeg = m
    rw [a1, nI_clamp (by omega)]
  rw [e18, a1, dx_hasPlace (by omega), dr_isPlace a2 (by omega)]
  by_cases c : 0 ≤ p.toInt ∧ p.toInt < (m : Int)
  · rw [if_pos c]
    exact ⟨rfl, Or.inr ⟨rfl, clampI c⟩⟩
  · rw [if_neg c]
    exact ⟨rfl, Or.inl rfl⟩
theorem r3_own {vx : Nat → Int32} {fx : Nat → Nat → Int32} {gx : Nat → Nat → Int64} {mi : Nat → Int32} {fm : Nat → Nat → Int32} (hM : MIp mi fm) (h : REL3 vx fx mi fm) {r r2 : Int32} {v : Nat → Int32} {f : Nat → Nat → Int32} {g : Nat → Nat → Int64} {mi2 : Nat → Int32} {fm2 : Nat → Nat → Int32} {p1 p2 p3 : Int32} (hx : (r, v, f, g) = xs_own vx fx gx p1 p2 p3) (hm : (r2, mi2, fm2) = ms_own mi fm p1 p2 p3) : REL3 v f mi2 fm2 ∧ r = r2 := by
  obtain ⟨O, hO⟩ : ∃ O, O = fX11_own (vx 21) (vx 22) (vx 23) (vx 24) (vx 25) (vx 26) (vx 27) (vx 28) (vx 29) (vx 30) (vx 49) (vx 50) (fx 8) (fx 9) (gx 1) (fx 10) (vx 51) (vx 52) (vx 53) (fx 11) (fx 12) (fx 34) (fx 35) (fx 36) (fx 37) (fx 38) (fx 39) (fx 40) (fx 41) (vx 11) (vx 12) (vx 13) (vx 15) (vx 16) (vx 17) (vx 18) (vx 19) (fx 22) (fx 23) (fx 24) (fx 25) (fx 26) (fx 27) (fx 28) (fx 29) p1 p2 p3 := ⟨_, rfl⟩
  obtain ⟨U, hU⟩ : ∃ U, U = fX12_own mi (fm 14) (fm 15) (fm 16) (fm 17) (fm 18) (fm 19) (fm 4) (fm 7) (fm 2) (fm 5) (fm 6) (fm 3) (fm 0) (fm 1) (fm 20) p1 p2 p3 := ⟨_, rfl⟩
  have hx : (r, v, f, g) = xt_own vx fx gx O := by
    rw [hx, hO]
    rfl
  have hm : (r2, mi2, fm2) = mt_own mi fm U := by
    rw [hm, hU]
    rfl
  have hfin : ∀ s : Int32, O.1 = s → U.1 = s → oZ O.2.2.2.2.2.2.2.2.2.2.2.2.2.2.2.2.2.2.2.2.2.1 → U.2.2.2.1 = mi 42 → REL3 v f mi2 fm2 ∧ r = r2 := by
    intro s s1 s2 hz h42
    unfold xt_own at hx
    unfold mt_own at hm
    simp only [Prod.mk.injEq] at hx hm
    obtain ⟨rfl, rfl, rfl, rfl⟩ := hx
    obtain ⟨rfl, rfl, rfl⟩ := hm
    refine ⟨r3_cmb h ⟨fun k h1 h2 => ?_, rfl, fun k h1 h2 => ?_, ⟨h.2.2.2.1.1, hz⟩, ⟨rfl, rfl, rfl, rfl, rfl, rfl⟩, h.2.2.2.2.1⟩ ⟨fun k hk => ?_, ⟨h42, rfl, rfl⟩, ⟨rfl, rfl⟩, fun k hk => ?_⟩, s1.trans s2.symm⟩
    · repeat rw [upd_ne (by omega)]
    · repeat rw [updF_ne (by omega)]
    · repeat rw [upd_ne (by omega)]
    · repeat rw [updF_ne (by omega)]
  unfold fX11_own bfX11_own_32 at hO
  unfold fX12_own bfX12_own_24 at hU
  obtain ⟨o1, e1, hO⟩ := cal_out hO
  obtain ⟨u1, f1, hU⟩ := cal_out hU
  obtain ⟨a1, c1⟩ := tm_of h p1
  rw [a1, ← f1] at e1
  rw [← f1] at c1
  rcases c1 with c1 | ⟨c1, n3, _, _⟩
  · rw [if_pos (e1.trans c1)] at hO
    rw [if_pos c1] at hU
    exact hfin (-2) (by rw [hO]) (by rw [hU]) (by rw [hO]; exact h.2.2.2.1.2) (by rw [hU])
  rw [if_neg (by rw [e1, c1]; decide)] at hO
  rw [if_neg (by rw [c1]; decide)] at hU
  obtain ⟨o2, e2, hO⟩ := cal_out hO
  obtain ⟨u2, f2, hU⟩ := cal_out hU
  obtain ⟨a2, c2⟩ := pp_of h p2
  rw [a2, ← f2] at e2
  rw [← f2] at c2
  rcases c2 with c2 | ⟨c2, b3, b4⟩
  · rw [if_pos (e2.trans c2)] at hO
    rw [if_pos c2] at hU
    exact hfin (-2) (by rw [hO]) (by rw [hU]) (by rw [hO]; exact h.2.2.2.1.2) (by rw [hU])
  rw [if_neg (by rw [e2, c2]; decide)] at hO
  rw [if_neg (by rw [c2]; decide)] at hU
  obtain ⟨o3, e3, hO⟩ := cal_out hO
  obtain ⟨u3, f3, hU⟩ := cal_out hU
  obtain ⟨a3, c3⟩ := bg_of h n3 p3
  rw [a3, ← f3] at e3
  rw [← f3] at c3
  rcases c3 with c3 | ⟨c3, b5, b6⟩
  · rw [if_pos (e3.trans c3)] at hO
    rw [if_pos c3] at hU
    exact hfin (-2) (by rw [hO]) (by rw [hU]) (by rw [hO]; exact h.2.2.2.1.2) (by rw [hU])
  rw [if_neg (by rw [e3, c3]; decide)] at hO
  rw [if_neg (by rw [c3]; decide)] at hU
  obtain ⟨o4, e4, hO⟩ := cal_out hO
  obtain ⟨u4, f4, hU⟩ := cal_out hU
  obtain ⟨l, w1, w2, w3⟩ := ja1_eq hM h n3 (q4 := fun _ => 0) h.2.2.2.1.2 p1 p2 e4
  unfold fX12_ownBy at f4
  obtain ⟨u5, f5, f4⟩ := cal_out f4
  obtain ⟨must, least, pin, ways, ve, row, of, rmn, g1, g3⟩ := qh_of hM h n3 (upd mi 42 p2) (fun k hk => upd_ne (by omega)) rfl (fm 14) (fm 15) (fm 16) (fm 17) (fm 18) (fm 19) (fm 20) p1
  have hp2 : ¬ p2 = -1 := by
    obtain ⟨_, ⟨_, _, _, _, _, _, b7, _⟩, _⟩ := ad_of hM h n3
    rw [b4]
    exact nIm1 (by omega)
  rw [only_list hM h n3 (mj := upd mi 42 p2) (p := p2) (if_pos rfl) rfl hp2, ← w1] at g3
  rw [g1] at f5
  subst f5
  refine hfin (o4.2.2.2.2.2.2.2.2.2.2.2.2.2.2.2.2.2.2.1 p3.toNatClampNeg) (by rw [hO]) ?_ (by rw [hO]; exact w3) (by rw [hU, f4]; exact h.2.2.1.1.symm)
  rw [hU, f4]
  show of p3.toNatClampNeg = _
  rw [g3 _ b5, w2 _ b5]
theorem ub_s (n : Int32) (f g : Nat → Int32) (z : Nat) (a b : Int32) : lfX11_unlikeBegins n f g (z + 1) a b = dfX11_unlikeBegins_5 n f g (lfX11_unlikeBegins n f g z) a b := rfl
theorem ub_L {M : Nat} {f g : Nat → Int32} {x y : Nat → Nat} (hM : M ≤ 24) (hf : ∀ j, j ≤ M → f j = nI (x j) ∧ g j = nI (y j) ∧ x j ≤ 2000 ∧ y j ≤ 2000) : ∀ (k i z : Nat) (a : Int32), i + k = M + 1 → 1 ≤ i → k < z → (∀ j, j < 32 → bt a j = decide (1 ≤ j ∧ j < i ∧ ¬ x j = y j)) → ∀ j, j < 32 → bt (lfX11_unlikeBegins (nI M) f g z a (nI i)) j = decide (1 ≤ j ∧ j < M + 1 ∧ ¬ x j = y j) := by
  intro k
  induction k with
  | zero =>
    intro i z a hi h1 hz ha j hj
    obtain ⟨z, rfl⟩ : ∃ y, z = y + 1 := ⟨z - 1, by omega⟩
    have e : i = M + 1 := by omega
    subst e
    rw [ub_s]
    unfold dfX11_unlikeBegins_5
    rw [if_pos (nI_lt (by omega) (by omega))]
    exact ha j hj
  | succ k ih =>
    intro i z a hi h1 hz ha j hj
    obtain ⟨z, rfl⟩ : ∃ y, z = y + 1 := ⟨z - 1, by omega⟩
    obtain ⟨q1, q2, q3, q4⟩ := hf i (by omega)
    rw [ub_s]
    unfold dfX11_unlikeBegins_5 bfX11_unlikeBegins_35
    rw [if_neg (nI_nlt (by omega) (by omega)), nI_clamp (by omega), nI_1, q1, q2]
    by_cases c : x i = y i
    · rw [if_pos (by rw [c])]
      refine ih (i + 1) z _ (by omega) (by omega) (by omega) (fun j hj => ?_) j hj
      rw [ha j hj]
      by_cases e : j = i
      · subst e
        simp [c]
      · have e2 : j < i + 1 ↔ j < i := by omega
        simp [e2]
    · rw [if_neg (fun q => c ((nI_eq (by omega) (by omega)).1 q))]
      refine ih (i + 1) z _ (by omega) (by omega) (by omega) (fun j hj => ?_) j hj
      rw [b_or, ha j hj, sh_1 i (by omega) j hj]
      by_cases e : j = i
      · subst e
        simp [c, h1]
      · have e2 : j < i + 1 ↔ j < i := by omega
        simp [e, e2]
theorem ub_eq {M : Nat} {f g : Nat → Int32} {x y : Nat → Nat} (hM : M ≤ 24) (hf : ∀ j, j ≤ M → f j = nI (x j) ∧ g j = nI (y j) ∧ x j ≤ 2000 ∧ y j ≤ 2000) : ∀ j, j < 32 → bt (fX11_unlikeBegins (nI M) f g) j = decide (1 ≤ j ∧ j < M + 1 ∧ ¬ x j = y j) := by
  intro j hj
  unfold fX11_unlikeBegins
  rw [show (1 : Int32) = nI 1 from rfl]
  exact ub_L hM hf M 1 1000000000 0 (by omega) (by omega) (by omega) (fun j hj => by rw [b_0]; symm; rw [decide_eq_false_iff_not]; omega) j hj
theorem ul_s (mi f g : Nat → Int32) (z : Nat) (a b : Int32) : lfX12_unlike mi f g (z + 1) a b = dfX12_unlike_4 mi f g (lfX12_unlike mi f g z) a b := rfl
theorem ul_L {M : Nat} {mi f g : Nat → Int32} {x y : Nat → Nat} (hM : M ≤ 24) (h0 : mi 0 = nI M) (hf : ∀ j, j ≤ M → f j = nI (y j) ∧ g j = nI (x j) ∧ x j ≤ 2000 ∧ y j ≤ 2000) : ∀ (k i z : Nat) (a : Int32), i + k = M + 1 → 1 ≤ i → k < z → (∀ j, j < 32 → bt a j = decide (1 ≤ j ∧ j < i ∧ ¬ x j = y j)) → ∀ j, j < 32 → bt (lfX12_unlike mi f g z a (nI i)) j = decide (1 ≤ j ∧ j < M + 1 ∧ ¬ x j = y j) := by
  intro k
  induction k with
  | zero =>
    intro i z a hi h1 hz ha j hj
    obtain ⟨z, rfl⟩ : ∃ y, z = y + 1 := ⟨z - 1, by omega⟩
    have e : i = M + 1 := by omega
    subst e
    rw [ul_s]
    unfold dfX12_unlike_4
    rw [h0, if_pos (nI_lt (by omega) (by omega))]
    exact ha j hj
  | succ k ih =>
    intro i z a hi h1 hz ha j hj
    obtain ⟨z, rfl⟩ : ∃ y, z = y + 1 := ⟨z - 1, by omega⟩
    obtain ⟨q1, q2, q3, q4⟩ := hf i (by omega)
    rw [ul_s]
    unfold dfX12_unlike_4 bfX12_unlike_35
    rw [h0, if_neg (nI_nlt (by omega) (by omega)), nI_clamp (by omega), nI_1, q1, q2]
    by_cases c : x i = y i
    · rw [if_pos (by rw [c])]
      refine ih (i + 1) z _ (by omega) (by omega) (by omega) (fun j hj => ?_) j hj
      rw [b_or, b_0, ha j hj]
      by_cases e : j = i
      · subst e
        simp [c]
      · have e2 : j < i + 1 ↔ j < i := by omega
        simp [e2]
    · rw [if_neg (fun q => c ((nI_eq (by omega) (by omega)).1 q).symm)]
      refine ih (i + 1) z _ (by omega) (by omega) (by omega) (fun j hj => ?_) j hj
      rw [b_or, ha j hj, sh_1 i (by omega) j hj]
      by_cases e : j = i
      · subst e
        simp [c, h1]
      · have e2 : j < i + 1 ↔ j < i := by omega
        simp [e, e2]
theorem ul_eq {M : Nat} {mi f g : Nat → Int32} {x y : Nat → Nat} (hM : M ≤ 24) (h0 : mi 0 = nI M) (hf : ∀ j, j ≤ M → f j = nI (y j) ∧ g j = nI (x j) ∧ x j ≤ 2000 ∧ y j ≤ 2000) : ∀ j, j < 32 → bt (fX12_unlike mi f g) j = decide (1 ≤ j ∧ j < M + 1 ∧ ¬ x j = y j) := by
  intro j hj
  unfold fX12_unlike
  rw [show (1 : Int32) = nI 1 from rfl]
  exact ul_L hM h0 hf M 1 1000000000 0 (by omega) (by omega) (by omega) (fun j hj => by rw [b_0]; symm; rw [decide_eq_false_iff_not]; omega) j hj
theorem ko_s (f g : Nat → Int32) (z : Nat) (a : Int32) (w : Nat → Int32) : lfX12_keepsOfficial f g (z + 1) a w = dfX12_keepsOfficial_2 f g (lfX12_keepsOfficial f g z) a w := rfl
theorem ko_L {f g : Nat → Int32} : ∀ (k i z : Nat) (w : Nat → Int32), i + k = 25 → k < z → (∀ j, j < i → w j = f j) → ∀ j, j ≤ 24 → lfX12_keepsOfficial f g z (nI i) w j = f j := by
  intro k
  induction k with
  | zero =>
    intro i z w hi hz hw j hj
    obtain ⟨z, rfl⟩ : ∃ y, z = y + 1 := ⟨z - 1, by omega⟩
    rw [ko_s]
    unfold dfX12_keepsOfficial_2
    rw [if_pos (show (24 : Int32) < nI i from nI_lt (a := 24) (by omega) (by omega))]
    exact hw j (by omega)
  | succ k ih =>
    intro i z w hi hz hw j hj
    obtain ⟨z, rfl⟩ : ∃ y, z = y + 1 := ⟨z - 1, by omega⟩
    rw [ko_s]
    unfold dfX12_keepsOfficial_2
    rw [if_neg (show ¬ (24 : Int32) < nI i from nI_nlt (a := 24) (by omega) (by omega)), nI_1, nI_clamp (by omega)]
    refine ih (i + 1) z _ (by omega) (by omega) (fun j hj => ?_) j hj
    by_cases e : j = i
    · rw [e]
      exact if_pos rfl
    · rw [show upd w i (f i) j = w j from if_neg e]
      exact hw j (by omega)
theorem ko_eq (f g : Nat → Int32) : ∀ j, j ≤ 24 → fX12_keepsOfficial f g j = f j := by
  intro j hj
  unfold fX12_keepsOfficial
  rw [← nI_0]
  exact ko_L (f := f) (g := g) 25 0 1000000000 g (by omega) (by omega) (fun j hj => absurd hj (by omega)) j hj
theorem ofs_le {F L M : Nat} {ok : Nat → Nat → Bool} : ∀ m : Nat, (ofs F L M ok m).1 ≤ m := by
  intro m
  induction m with
  | zero => rw [ofs]; exact Nat.le_refl 0
  | succ m ih =>
    rcases ofs_step (F := F) (L := L) (M := M) (ok := ok) m with q | q <;> rw [q] <;> omega
theorem r3_apart {vx : Nat → Int32} {fx : Nat → Nat → Int32} {gx : Nat → Nat → Int64} {mi : Nat → Int32} {fm : Nat → Nat → Int32} (hM : MIp mi fm) (h : REL3 vx fx mi fm) {r r2 : Int32} {v : Nat → Int32} {f : Nat → Nat → Int32} {g : Nat → Nat → Int64} {mi2 : Nat → Int32} {fm2 : Nat → Nat → Int32} {p1 p2 p3 : Int32} (hx : (r, v, f, g) = xs_apart vx fx gx p1 p2 p3) (hm : (r2, mi2, fm2) = ms_apart mi fm p1 p2 p3) : REL3 v f mi2 fm2 ∧ r = r2 := by
  obtain ⟨O, hO⟩ : ∃ O, O = fX11_apart (vx 21) (vx 22) (vx 23) (vx 24) (vx 25) (vx 26) (vx 27) (vx 28) (vx 29) (vx 30) (vx 49) (vx 50) (fx 8) (fx 9) (gx 1) (fx 10) (vx 51) (vx 52) (vx 53) (fx 11) (fx 12) (fx 20) (fx 34) (fx 35) (fx 36) (fx 37) (fx 38) (fx 39) (fx 40) (fx 41) (vx 11) (vx 12) (vx 13) (vx 15) (vx 16) (vx 17) (vx 18) (vx 19) (fx 22) (fx 23) (fx 24) (fx 25) (fx 26) (fx 27) (fx 28) (fx 29) p1 p2 p3 := ⟨_, rfl⟩
  obtain ⟨U, hU⟩ : ∃ U, U = fX12_apart mi (fm 14) (fm 15) (fm 16) (fm 17) (fm 18) (fm 19) (fm 4) (fm 7) (fm 2) (fm 5) (fm 6) (fm 3) (fm 0) (fm 1) (fm 20) (fm 21) p1 p2 p3 := ⟨_, rfl⟩
  have hx : (r, v, f, g) = xt_apart vx fx gx O := by
    rw [hx, hO]
    rfl
  have hm : (r2, mi2, fm2) = mt_apart mi fm U := by
    rw [hm, hU]
    rfl
  have hfin : ∀ s : Int32, O.1 = s → U.1 = s → oZ O.2.2.2.2.2.2.2.2.2.2.2.2.2.2.2.2.2.2.2.2.2.1 → U.2.2.2.1 = mi 42 → REL3 v f mi2 fm2 ∧ r = r2 := by
    intro s s1 s2 hz h42
    unfold xt_apart at hx
    unfold mt_apart at hm
    simp only [Prod.mk.injEq] at hx hm
    obtain ⟨rfl, rfl, rfl, rfl⟩ := hx
    obtain ⟨rfl, rfl, rfl⟩ := hm
    refine ⟨r3_cmb h ⟨fun k h1 h2 => ?_, rfl, fun k h1 h2 => ?_, ⟨h.2.2.2.1.1, hz⟩, ⟨rfl, rfl, rfl, rfl, rfl, rfl⟩, h.2.2.2.2.1⟩ ⟨fun k hk => ?_, ⟨h42, rfl, rfl⟩, ⟨rfl, rfl⟩, fun k hk => ?_⟩, s1.trans s2.symm⟩
    · repeat rw [upd_ne (by omega)]
    · repeat rw [updF_ne (by omega)]
    · repeat rw [upd_ne (by omega)]
    · repeat rw [updF_ne (by omega)]
  unfold fX11_apart bfX11_apart_24 at hO
  unfold fX12_apart bfX12_apart_24 at hU
  obtain ⟨o1, e1, hO⟩ := cal_out hO
  obtain ⟨u1, f1, hU⟩ := cal_out hU
  obtain ⟨a1, c1⟩ := tm_of h p1
  rw [a1, ← f1] at e1
  rw [← f1] at c1
  rcases c1 with c1 | ⟨c1, n3, _, _⟩
  · rw [if_pos (e1.trans c1)] at hO
    rw [if_pos c1] at hU
    exact hfin (-2) (by rw [hO]) (by rw [hU]) (by rw [hO]; exact h.2.2.2.1.2) (by rw [hU])
  rw [if_neg (by rw [e1, c1]; decide)] at hO
  rw [if_neg (by rw [c1]; decide)] at hU
  obtain ⟨o2, e2, hO⟩ := cal_out hO
  obtain ⟨u2, f2, hU⟩ := cal_out hU
  obtain ⟨a2, c2⟩ := pp_of h p2
  rw [a2, ← f2] at e2
  rw [← f2] at c2
  rcases c2 with c2 | ⟨c2, b3, b4⟩
  · rw [if_pos (e2.trans c2)] at hO
    rw [if_pos c2] at hU
    exact hfin (-2) (by rw [hO]) (by rw [hU]) (by rw [hO]; exact h.2.2.2.1.2) (by rw [hU])
  rw [if_neg (by rw [e2, c2]; decide)] at hO
  rw [if_neg (by rw [c2]; decide)] at hU
  obtain ⟨o3, e3, hO⟩ := cal_out hO
  obtain ⟨u3, f3, hU⟩ := cal_out hU
  obtain ⟨a3, c3⟩ := pp_of h p3
  rw [a3, ← f3] at e3
  rw [← f3] at c3
  rcases c3 with c3 | ⟨c3, b5, b6⟩
  · rw [if_pos (e3.trans c3)] at hO
    rw [if_pos c3] at hU
    exact hfin (-2) (by rw [hO]) (by rw [hU]) (by rw [hO]; exact h.2.2.2.1.2) (by rw [hU])
  rw [if_neg (by rw [e3, c3]; decide)] at hO
  rw [if_neg (by rw [c3]; decide)] at hU
  obtain ⟨_, ⟨_, d2, _, _, _, _, d7, _⟩, _⟩ := ad_of hM h n3
  obtain ⟨k0, _⟩ := rd_of hM h n3
  obtain ⟨o4, e4, hO⟩ := cal_out hO
  obtain ⟨u4, f4, hU⟩ := cal_out hU
  obtain ⟨l, w1, w2, w3⟩ := ja1_eq hM h n3 (q4 := fun _ => 0) h.2.2.2.1.2 p1 p2 e4
  obtain ⟨o5, e5, hO⟩ := cal_out hO
  obtain ⟨l', w1', w2', w3'⟩ := ja1_eq hM h n3 (q4 := fun _ => 0) w3 p1 p3 e5
  obtain ⟨o6, e6, hO⟩ := cal_out hO
  unfold fX12_ownBy at f4
  obtain ⟨y1, x1, f4⟩ := cal_out f4
  obtain ⟨must, least, pin, ways, ve, row, of, rmn, g1, g3⟩ := qh_of hM h n3 (upd mi 42 p2) (fun k hk => upd_ne (by omega)) rfl (fm 14) (fm 15) (fm 16) (fm 17) (fm 18) (fm 19) (fm 20) p1
  rw [only_list hM h n3 (mj := upd mi 42 p2) (p := p2) (if_pos rfl) rfl (by rw [b4]; exact nIm1 (by omega)), ← w1] at g3
  rw [g1] at x1
  subst x1
  subst f4
  obtain ⟨u5, f5, hU⟩ := cal_out hU
  obtain ⟨u6, f6, hU⟩ := cal_out hU
  unfold fX12_ownBy at f6
  obtain ⟨y2, x2, f6⟩ := cal_out f6
  obtain ⟨must', least', pin', ways', ve', row', of', rmn', g1', g3'⟩ := qh_of hM h n3 (upd (upd (upd (upd mi 37 0) 41 rmn) 42 (-1)) 42 p3) (fun k hk => by rw [upd_ne (by omega), upd_ne (by omega), upd_ne (by omega), upd_ne (by omega)]) rfl must least pin ways ve row of p1
  rw [only_list hM h n3 (mj := upd (upd (upd (upd mi 37 0) 41 rmn) 42 (-1)) 42 p3) (p := p3) (if_pos rfl) rfl (by rw [b6]; exact nIm1 (by omega)), ← w1'] at g3'
  rw [g1'] at x2
  subst x2
  subst f6
  obtain ⟨u7, f7, hU⟩ := cal_out hU
  have hb : o6 = u7 := by
    refine b_ext (fun j hj => ?_)
    obtain ⟨⟨q11, _⟩, _⟩ := ad_of hM h n3
    rw [e6, q11, ub_eq (x := fun m => 29 * m + (ofs (aF vx) (aL vx) (aM vx) (jd (aF vx) (aL vx) (aM vx) (vx 15) (vx 16) (vx 17) (nf (fx 25)) (nf (fx 26)) (nf (fx 27)) l).1 m).1) (y := fun m => 29 * m + (ofs (aF vx) (aL vx) (aM vx) (jd (aF vx) (aL vx) (aM vx) (vx 15) (vx 16) (vx 17) (nf (fx 25)) (nf (fx 26)) (nf (fx 27)) l').1 m).1) d2 (fun j hj => ⟨(show va_cpy o4.2.2.2.2.2.2.2.2.2.2.2.2.2.2.2.2.2.2.1 (fx 20) (0 : Int32).toNatClampNeg (0 : Int32).toNatClampNeg (25 : Int32).toNatClampNeg j = _ from by rw [show (0 : Int32).toNatClampNeg = 0 from by decide, show (25 : Int32).toNatClampNeg = 25 from by decide]; unfold va_cpy; rw [if_pos ⟨by omega, by omega⟩, Nat.zero_add, Nat.sub_zero]; exact w2 j hj), w2' j hj, by have := ofs_le (F := aF vx) (L := aL vx) (M := aM vx) (ok := (jd (aF vx) (aL vx) (aM vx) (vx 15) (vx 16) (vx 17) (nf (fx 25)) (nf (fx 26)) (nf (fx 27)) l).1) j; omega, by have := ofs_le (F := aF vx) (L := aL vx) (M := aM vx) (ok := (jd (aF vx) (aL vx) (aM vx) (vx 15) (vx 16) (vx 17) (nf (fx 25)) (nf (fx 26)) (nf (fx 27)) l').1) j; omega⟩) j hj]
    rw [f7, f5, ul_eq (x := fun m => 29 * m + (ofs (aF vx) (aL vx) (aM vx) (jd (aF vx) (aL vx) (aM vx) (vx 15) (vx 16) (vx 17) (nf (fx 25)) (nf (fx 26)) (nf (fx 27)) l).1 m).1) (y := fun m => 29 * m + (ofs (aF vx) (aL vx) (aM vx) (jd (aF vx) (aL vx) (aM vx) (vx 15) (vx 16) (vx 17) (nf (fx 25)) (nf (fx 26)) (nf (fx 27)) l').1 m).1) d2 (by show (upd (upd (upd mi 37 0) 41 rmn') 42 (-1)) 0 = _; exact k0) (fun j hj => ⟨g3' j hj, (ko_eq _ _ j (by omega)).trans (g3 j hj), by have := ofs_le (F := aF vx) (L := aL vx) (M := aM vx) (ok := (jd (aF vx) (aL vx) (aM vx) (vx 15) (vx 16) (vx 17) (nf (fx 25)) (nf (fx 26)) (nf (fx 27)) l).1) j; omega, by have := ofs_le (F := aF vx) (L := aL vx) (M := aM vx) (ok := (jd (aF vx) (aL vx) (aM vx) (vx 15) (vx 16) (vx 17) (nf (fx 25)) (nf (fx 26)) (nf (fx 27)) l').1) j; omega⟩) j hj]
  refine hfin o6 (by rw [hO]) (by rw [hU]; exact hb.symm) (by rw [hO]; exact w3') (by rw [hU]; exact h.2.2.1.1.symm)
theorem k18_of {vx : Nat → Int32} {fx : Nat → Nat → Int32} {mi : Nat → Int32} {fm : Nat → Nat → Int32} (h : REL3 vx fx mi fm) : vx 18 = nI (aP6 vx) := by
  obtain ⟨⟨_, ⟨_, ⟨m, r, d, hm6, hr, hd, a1, _⟩, _⟩, _⟩, _⟩ := h
  show vx 18 = nI (vx 18).toNatClampNeg
  rw [a1, nI_clamp (by omega)]
theorem without_list {vx : Nat → Int32} {fx : Nat → Nat → Int32} {mi : Nat → Int32} {fm : Nat → Nat → Int32} (hM : MIp mi fm) (h : REL3 vx fx mi fm) (h3 : ¬ mi 3 = 0) {mj : Nat → Int32} {q : Nat} {t : Int32} (h42 : mj 42 = mi 42) (h43 : mj 43 = nI q) (hq : q < 100) : lin (aLT fx) (kR mj (fm 4) (fm 7) (fm 2) t) (aN vx) = lin (aLT fx) (fun j => decide (¬ j = q ∧ ¬ fX7_isKnownBy (fx 28 j) (fx 29 j) t = 0)) (aN vx) := by
  obtain ⟨_, _, _, _, _, _, _, kRr, r9⟩ := rd_of hM h h3
  obtain ⟨_, ⟨_, _, _, _, _, _, _, b8⟩, _, _, hR, _⟩ := ad_of hM h h3
  have hs : mi 42 = -1 := h.2.2.1.1
  refine lin_cong _ (fun j hj => ?_)
  unfold kR
  rw [h42, h43, hs]
  refine decide_eq_decide.mpr ?_
  have e : fX12_isKnown (fm 4) (fm 7) (nI j) t = fX7_isKnownBy (fx 28 j) (fx 29 j) t := by
    rw [← kn_eq, nI_clamp (by omega), (r9 j hj).1, (r9 j hj).2]
  rw [e]
  exact ⟨fun w => ⟨fun c => w.2.1 (by rw [c]), w.1⟩, fun w => ⟨w.2, fun c => w.1 ((nI_eq (by omega) (by omega)).1 c), Or.inl rfl⟩⟩
theorem r3_hang {vx : Nat → Int32} {fx : Nat → Nat → Int32} {gx : Nat → Nat → Int64} {mi : Nat → Int32} {fm : Nat → Nat → Int32} (hM : MIp mi fm) (h : REL3 vx fx mi fm) {r r2 : Int32} {v : Nat → Int32} {f : Nat → Nat → Int32} {g : Nat → Nat → Int64} {mi2 : Nat → Int32} {fm2 : Nat → Nat → Int32} {p1 p2 : Int32} (hx : (r, v, f, g) = xs_hang vx fx gx p1 p2) (hm : (r2, mi2, fm2) = ms_hang mi fm p1 p2) : REL3 v f mi2 fm2 ∧ r = r2 := by
  obtain ⟨O, hO⟩ : ∃ O, O = fX11_hang (vx 1) (vx 2) (vx 3) (vx 21) (vx 22) (vx 23) (vx 24) (vx 25) (vx 26) (vx 27) (vx 28) (vx 29) (vx 30) (vx 49) (vx 50) (fx 8) (fx 9) (gx 1) (fx 10) (vx 51) (vx 52) (vx 53) (fx 11) (fx 12) (vx 44) (vx 45) (fx 3) (fx 4) (gx 0) (fx 5) (vx 46) (vx 47) (vx 48) (fx 6) (fx 7) (fx 34) (fx 35) (fx 36) (fx 37) (fx 38) (fx 39) (fx 40) (fx 41) (vx 11) (vx 12) (vx 13) (vx 15) (vx 16) (vx 17) (vx 18) (vx 19) (fx 22) (fx 23) (fx 24) (fx 25) (fx 26) (fx 27) (fx 28) (fx 29) p1 p2 := ⟨_, rfl⟩
  obtain ⟨U, hU⟩ : ∃ U, U = fX12_hang mi (fm 14) (fm 15) (fm 16) (fm 17) (fm 18) (fm 19) (fm 4) (fm 7) (fm 2) (fm 5) (fm 6) (fm 3) (fm 0) (fm 1) (fm 20) (fm 21) p1 p2 := ⟨_, rfl⟩
  have hx : (r, v, f, g) = xt_hang vx fx gx O := by
    rw [hx, hO]
    rfl
  have hm : (r2, mi2, fm2) = mt_hang mi fm U := by
    rw [hm, hU]
    rfl
  have hfin : ∀ s : Int32, O.1 = s → U.1 = s → oZ O.2.2.2.2.2.2.2.2.2.2.2.2.2.2.2.2.2.2.2.2.2.2.2.2.2.2.2.2.2.1 → U.2.2.2.1 = mi 43 → CI (aF vx) (aL vx) (aM vx) (aN vx) (vx 15) (vx 16) (vx 17) (nf (fx 25)) (nf (fx 26)) (nf (fx 27)) (aLT fx) (fx 28) (fx 29) O.2.1 O.2.2.1 O.2.2.2.2.2.2.2.2.2.2.2.2.2.2.2.2.2.2.2.1 O.2.2.2.2.2.2.2.2.2.2.2.2.2.2.2.2.2.2.2.2.1 O.2.2.2.2.2.2.2.2.2.2.2.2.2.2.2.2.2.2.2.2.2.1 O.2.2.2.2.2.2.2.2.2.2.2.2.2.2.2.2.2.2.2.2.2.2.1 O.2.2.2.2.2.2.2.2.2.2.2.2.2.2.2.2.2.2.2.2.2.2.2.1 O.2.2.2.2.2.2.2.2.2.2.2.2.2.2.2.2.2.2.2.2.2.2.2.2.2.2.2.2.2.2.1 O.2.2.2.2.2.2.2.2.2.2.2.2.2.2.2.2.2.2.2.2.2.2.2.2.2.2.2.2.2.2.2.1 O.2.2.2.2.2.2.2.2.2.2.2.2.2.2.2.2.2.2.2.2.2.2.2.2.2.2.2.2.2.2.2.2.2.1 O.2.2.2.2.2.2.2.2.2.2.2.2.2.2.2.2.2.2.2.2.2.2.2.2.2.2.2.2.2.2.2.2.2.2.1 O.2.2.2.2.2.2.2.2.2.2.2.2.2.2.2.2.2.2.2.2.2.2.2.2.2.2.2.2.2.2.2.2.2.2.2.1 → REL3 v f mi2 fm2 ∧ r = r2 := by
    intro s s1 s2 hz h43 hC
    unfold xt_hang at hx
    unfold mt_hang at hm
    simp only [Prod.mk.injEq] at hx hm
    obtain ⟨rfl, rfl, rfl, rfl⟩ := hx
    obtain ⟨rfl, rfl, rfl⟩ := hm
    refine ⟨r3_cmb h ⟨fun k h1 h2 => ?_, rfl, fun k h1 h2 => ?_, ⟨h.2.2.2.1.1, hz⟩, ⟨rfl, rfl, rfl, rfl, rfl, rfl⟩, hC⟩ ⟨fun k hk => ?_, ⟨rfl, h43, rfl⟩, ⟨rfl, rfl⟩, fun k hk => ?_⟩, s1.trans s2.symm⟩
    · repeat rw [upd_ne (by omega)]
    · repeat rw [updF_ne (by omega)]
    · repeat rw [upd_ne (by omega)]
    · repeat rw [updF_ne (by omega)]
  unfold fX11_hang bfX11_hang_31 at hO
  unfold fX12_hang bfX12_hang_25 at hU
  obtain ⟨o1, e1, hO⟩ := cal_out hO
  obtain ⟨u1, f1, hU⟩ := cal_out hU
  obtain ⟨a1, c1⟩ := tm_of h p1
  rw [a1, ← f1] at e1
  rw [← f1] at c1
  rcases c1 with c1 | ⟨c1, n3, _, _⟩
  · rw [if_pos (e1.trans c1)] at hO
    rw [if_pos c1] at hU
    exact hfin (-2) (by rw [hO]) (by rw [hU]) (by rw [hO]; exact h.2.2.2.1.2) (by rw [hU]) (by rw [hO]; exact h.2.2.2.2.1)
  rw [if_neg (by rw [e1, c1]; decide)] at hO
  rw [if_neg (by rw [c1]; decide)] at hU
  obtain ⟨o2, e2, hO⟩ := cal_out hO
  obtain ⟨u2, f2, hU⟩ := cal_out hU
  obtain ⟨a2, c2⟩ := rp_of h p2
  rw [a2, ← f2] at e2
  rw [← f2] at c2
  rcases c2 with c2 | ⟨c2, b3, b4⟩
  · rw [if_pos (e2.trans c2)] at hO
    rw [if_pos c2] at hU
    exact hfin (-2) (by rw [hO]) (by rw [hU]) (by rw [hO]; exact h.2.2.2.1.2) (by rw [hU]) (by rw [hO]; exact h.2.2.2.2.1)
  rw [if_neg (by rw [e2, c2]; decide)] at hO
  rw [if_neg (by rw [c2]; decide)] at hU
  obtain ⟨k0, _, _, _, _, _, _, _, r9⟩ := rd_of hM h n3
  obtain ⟨⟨j1, j2, j3, j4⟩, ⟨d1, d2, d3, d4, d5, d6, d7, d8⟩, hW, hP, hR, _⟩ := ad_of hM h n3
  rw [(r9 _ b3).2] at hU
  by_cases c3 : fx 29 p2.toNatClampNeg = 0
  · rw [if_pos c3] at hO hU
    obtain ⟨o3, e3, hO⟩ := cal_out hO
    obtain ⟨a', b', c', d', e', f', g', h', w1, w2, w3⟩ := cp_eq (p_name := fx 34) (p_trust := fx 35) (r_place := fx 36) (r_kind := fx 37) (r_month := fx 38) (r_day := fx 39) (r_known := fx 40) (r_struck := fx 41) (bmonths := vx 11) (bfull := vx 12) (blean := vx 13) (bhasMoon := vx 15) (bmoonStart := vx 16) (bmoonStep := vx 17) (bp_name := fx 22) (bp_trust := fx 23) (br_place := fx 24) (br_kind := fx 25) (br_month := fx 26) (br_day := fx 27) (br_known := fx 28) (br_struck := fx 29) d7 d8
    rw [k18_of h, j4, w1] at e3
    subst e3
    obtain ⟨o4, e4, hO⟩ := cal_out hO
    dsimp only at e4
    obtain ⟨r1, r2', r3, r4, r5, r6, r7, r8, r9', r10, r11, s1, s2⟩ := cj_eq (F := aF vx) (L := aL vx) (M := aM vx) (n := aN vx) (m := aP6 vx) (hm := vx 15) (ms := vx 16) (mp := vx 17) (fve := fx 8) (fqu := fx 9) (fcb := fx 10) (ffal := fx 11) (ffon := fx 12) (ftu := gx 1) (t := p1) (pn := a') (pt := b') (rp := c') (rk := d') (rm := e') (rd := f') (rn := g') (rs := upd h' p2.toNatClampNeg 1) (K := fun j => decide (¬ j = p2.toNatClampNeg ∧ ¬ fX7_isKnownBy (fx 28 j) (fx 29 j) p1 = 0)) hW d7 d8 (by omega) d2 d3 d5 d4 d6 (fun p hp => by rw [(w2 p hp).1, (w2 p hp).2]; exact hP p hp) (fun j hj => by obtain ⟨z1, z2, z3, z4, z5, z6⟩ := w3 j hj; rw [z1, z2, z3, z4]; exact hR j hj) (fun j hj => by
      obtain ⟨z1, z2, z3, z4, z5, z6⟩ := w3 j hj
      rw [decide_eq_true_eq, z5]
      by_cases e : j = p2.toNatClampNeg
      · rw [show upd h' p2.toNatClampNeg 1 j = 1 from if_pos e, kb_eq _ 1 _]
        exact ⟨fun q => absurd e q.1, fun q => absurd q.1 (by decide)⟩
      · rw [show upd h' p2.toNatClampNeg 1 j = h' j from if_neg e, z6]
        exact ⟨fun q => q.2, fun q => ⟨e, q⟩⟩) h.2.2.2.1.2
    rw [j1, j2, j3, s1] at e4
    subst e4
    obtain ⟨o5, e5, hO⟩ := cal_out hO
    obtain ⟨hCT, hCI⟩ := cq_of hM h n3 p1 e5
    obtain ⟨o6, e6, hO⟩ := cal_out hO
    obtain ⟨u3, f3, hU⟩ := cal_out hU
    obtain ⟨must, least, pin, ways, ve, row, of, rmn, g1, g2, g3⟩ := qo_of hM h n3 mi (fun _ _ => rfl) ⟨rfl, rfl, rfl⟩ (fm 14) (fm 15) (fm 16) (fm 17) (fm 18) (fm 19) (fm 20) p1
    rw [g1] at f3
    subst f3
    obtain ⟨u4, f4, hU⟩ := cal_out hU
    obtain ⟨u5, f5, hU⟩ := cal_out hU
    obtain ⟨must', least', pin', ways', ve', row', of', rmn', g1', g3'⟩ := qh_of hM h n3 (upd (upd (upd mi 37 0) 41 rmn) 43 p2) (fun k hk => by rw [upd_ne (by omega), upd_ne (by omega), upd_ne (by omega)]) rfl must least pin ways ve row of p1
    rw [without_list hM h n3 (mj := upd (upd (upd mi 37 0) 41 rmn) 43 p2) (q := p2.toNatClampNeg) rfl b4 (by omega)] at g3'
    rw [g1'] at f5
    subst f5
    obtain ⟨u6, f6, hU⟩ := cal_out hU
    have hb : o6 = u6 := by
      refine b_ext (fun j hj => ?_)
      rw [e6, j1, ub_eq (x := (fun m => 29 * m + (ofs (aF vx) (aL vx) (aM vx) (jd (aF vx) (aL vx) (aM vx) (vx 15) (vx 16) (vx 17) (nf (fx 25)) (nf (fx 26)) (nf (fx 27)) (aQL vx fx p1)).1 m).1)) (y := (fun m => 29 * m + (ofs (aF vx) (aL vx) (aM vx) (jd (aF vx) (aL vx) (aM vx) (vx 15) (vx 16) (vx 17) (nf (fx 25)) (nf (fx 26)) (nf (fx 27)) (lin (aLT fx) (fun j => decide (¬ j = p2.toNatClampNeg ∧ ¬ fX7_isKnownBy (fx 28 j) (fx 29 j) p1 = 0)) (aN vx))).1 m).1)) d2 (fun j hj => ⟨hCT.2.2.2.2.2.2.2.1 j hj, s2.2.2.2.2.2.2.2.1 j hj, by have := ofs_le (F := aF vx) (L := aL vx) (M := aM vx) (ok := (jd (aF vx) (aL vx) (aM vx) (vx 15) (vx 16) (vx 17) (nf (fx 25)) (nf (fx 26)) (nf (fx 27)) (aQL vx fx p1)).1) j; omega, by have := ofs_le (F := aF vx) (L := aL vx) (M := aM vx) (ok := (jd (aF vx) (aL vx) (aM vx) (vx 15) (vx 16) (vx 17) (nf (fx 25)) (nf (fx 26)) (nf (fx 27)) (lin (aLT fx) (fun j => decide (¬ j = p2.toNatClampNeg ∧ ¬ fX7_isKnownBy (fx 28 j) (fx 29 j) p1 = 0)) (aN vx))).1) j; omega⟩) j hj]
      rw [f6, f4, ul_eq (x := (fun m => 29 * m + (ofs (aF vx) (aL vx) (aM vx) (jd (aF vx) (aL vx) (aM vx) (vx 15) (vx 16) (vx 17) (nf (fx 25)) (nf (fx 26)) (nf (fx 27)) (aQL vx fx p1)).1 m).1)) (y := (fun m => 29 * m + (ofs (aF vx) (aL vx) (aM vx) (jd (aF vx) (aL vx) (aM vx) (vx 15) (vx 16) (vx 17) (nf (fx 25)) (nf (fx 26)) (nf (fx 27)) (lin (aLT fx) (fun j => decide (¬ j = p2.toNatClampNeg ∧ ¬ fX7_isKnownBy (fx 28 j) (fx 29 j) p1 = 0)) (aN vx))).1 m).1)) d2 (by show (upd (upd (upd mi 37 0) 41 rmn') 43 (-1)) 0 = _; exact k0) (fun j hj => ⟨g3' j hj, (ko_eq _ _ j (by omega)).trans (g3 j hj), by have := ofs_le (F := aF vx) (L := aL vx) (M := aM vx) (ok := (jd (aF vx) (aL vx) (aM vx) (vx 15) (vx 16) (vx 17) (nf (fx 25)) (nf (fx 26)) (nf (fx 27)) (aQL vx fx p1)).1) j; omega, by have := ofs_le (F := aF vx) (L := aL vx) (M := aM vx) (ok := (jd (aF vx) (aL vx) (aM vx) (vx 15) (vx 16) (vx 17) (nf (fx 25)) (nf (fx 26)) (nf (fx 27)) (lin (aLT fx) (fun j => decide (¬ j = p2.toNatClampNeg ∧ ¬ fX7_isKnownBy (fx 28 j) (fx 29 j) p1 = 0)) (aN vx))).1) j; omega⟩) j hj]
    refine hfin o6 (by rw [hO]) (by rw [hU]; exact hb.symm) (by rw [hO]; exact s2.2.2.2.2.2.2.2.2.2) (by rw [hU]; exact h.2.2.1.2.1.symm) (by rw [hO]; exact hCI)
  · rw [if_neg c3] at hO hU
    exact hfin (-2) (by rw [hO]) (by rw [hU]) (by rw [hO]; exact h.2.2.2.1.2) (by rw [hU]) (by rw [hO]; exact h.2.2.2.2.1)
def fw (V : Nat → Nat) : Nat → Nat → Int32
  | 0, _ => -1
  | k + 1, i => if V i = 0 then nI i else fw V k (i + 1)
def trw (tr : Nat → Nat) (p w : Nat) : Nat → Nat := fun q => if q = p then w else tr q
theorem tc_s {s_months : Int32} {s_full : Int32} {s_lean : Int32} {s_lines : Int32} {s_hasMoon : Int32} {s_moonStart : Int32} {s_moonStep : Int32} {s_placeCount : Int32} {s_reportCount : Int32} {s_deedCount : Int32} {o_queueLength : Int32} {o_takenBits : Int32} {fove : Nat → Int32} {foqu : Nat → Int32} {fotu : Nat → Int64} {focb : Nat → Int32} {of_months : Int32} {of_full : Int32} {of_lean : Int32} {fofal : Nat → Int32} {fofon : Nat → Int32} {sp_name : Nat → Int32} {sp_trust : Nat → Int32} {sr_place : Nat → Int32} {sr_kind : Nat → Int32} {sr_month : Nat → Int32} {sr_day : Nat → Int32} {sr_known : Nat → Int32} {sr_struck : Nat → Int32} {amonths : Int32} {afull : Int32} {alean : Int32} {ahasMoon : Int32} {amoonStart : Int32} {amoonStep : Int32} {aplaceCount : Int32} {areportCount : Int32} {p_name : Nat → Int32} {p_trust : Nat → Int32} {r_place : Nat → Int32} {r_kind : Nat → Int32} {r_month : Nat → Int32} {r_day : Nat → Int32} {r_known : Nat → Int32} {r_struck : Nat → Int32} {p1 : Int32} {p2 : Int32} {z : Nat} {u3 : Int32} {v4 : Int32} {w1_0 : Int32} {w1_1 : Int32} {w1_2 : Int32} {w1_3 : Int32} {w1_4 : Int32} {w1_5 : Int32} {w1_6 : Int32} {w1_7 : Int32} {w1_8 : Int32} {w1_9 : Int32} {w4_5 : Int32} {w4_6 : Int32} {w9_0 : Int32} {w9_1 : Int32} {w9_2 : Int32} {z5 : Nat → Int32} {z6 : Nat → Int32} {z7 : Nat → Int64} {z8 : Nat → Int32} {z10 : Nat → Int32} {z11 : Nat → Int32} {z12_0 : Nat → Int32} {z12_1 : Nat → Int32} {z13_0 : Nat → Int32} {z13_1 : Nat → Int32} {z13_2 : Nat → Int32} {z13_3 : Nat → Int32} {z13_4 : Nat → Int32} {z13_5 : Nat → Int32} : lfX11_trusted s_months s_full s_lean s_lines s_hasMoon s_moonStart s_moonStep s_placeCount s_reportCount s_deedCount o_queueLength o_takenBits fove foqu fotu focb of_months of_full of_lean fofal fofon sp_name sp_trust sr_place sr_kind sr_month sr_day sr_known sr_struck amonths afull alean ahasMoon amoonStart amoonStep aplaceCount areportCount p_name p_trust r_place r_kind r_month r_day r_known r_struck p1 p2 (z + 1) u3 v4 w1_0 w1_1 w1_2 w1_3 w1_4 w1_5 w1_6 w1_7 w1_8 w1_9 w4_5 w4_6 w9_0 w9_1 w9_2 z5 z6 z7 z8 z10 z11 z12_0 z12_1 z13_0 z13_1 z13_2 z13_3 z13_4 z13_5 = dfX11_trusted_69 s_months s_full s_lean s_lines s_hasMoon s_moonStart s_moonStep s_placeCount s_reportCount s_deedCount o_queueLength o_takenBits fove foqu fotu focb of_months of_full of_lean fofal fofon sp_name sp_trust sr_place sr_kind sr_month sr_day sr_known sr_struck amonths afull alean ahasMoon amoonStart amoonStep aplaceCount areportCount p_name p_trust r_place r_kind r_month r_day r_known r_struck p1 p2 (lfX11_trusted s_months s_full s_lean s_lines s_hasMoon s_moonStart s_moonStep s_placeCount s_reportCount s_deedCount o_queueLength o_takenBits fove foqu fotu focb of_months of_full of_lean fofal fofon sp_name sp_trust sr_place sr_kind sr_month sr_day sr_known sr_struck amonths afull alean ahasMoon amoonStart amoonStep aplaceCount areportCount p_name p_trust r_place r_kind r_month r_day r_known r_struck p1 p2 z) u3 v4 w1_0 w1_1 w1_2 w1_3 w1_4 w1_5 w1_6 w1_7 w1_8 w1_9 w4_5 w4_6 w9_0 w9_1 w9_2 z5 z6 z7 z8 z10 z11 z12_0 z12_1 z13_0 z13_1 z13_2 z13_3 z13_4 z13_5 := rfl
theorem tc_L {s_months : Int32} {s_full : Int32} {s_lean : Int32} {s_lines : Int32} {s_hasMoon : Int32} {s_moonStart : Int32} {s_moonStep : Int32} {s_placeCount : Int32} {s_reportCount : Int32} {s_deedCount : Int32} {o_queueLength : Int32} {o_takenBits : Int32} {fove : Nat → Int32} {foqu : Nat → Int32} {fotu : Nat → Int64} {focb : Nat → Int32} {of_months : Int32} {of_full : Int32} {of_lean : Int32} {fofal : Nat → Int32} {fofon : Nat → Int32} {sp_name : Nat → Int32} {sp_trust : Nat → Int32} {sr_place : Nat → Int32} {sr_kind : Nat → Int32} {sr_month : Nat → Int32} {sr_day : Nat → Int32} {sr_known : Nat → Int32} {sr_struck : Nat → Int32} {amonths : Int32} {afull : Int32} {alean : Int32} {ahasMoon : Int32} {amoonStart : Int32} {amoonStep : Int32} {aplaceCount : Int32} {areportCount : Int32} {p_name : Nat → Int32} {p_trust : Nat → Int32} {r_place : Nat → Int32} {r_kind : Nat → Int32} {r_month : Nat → Int32} {r_day : Nat → Int32} {r_known : Nat → Int32} {r_struck : Nat → Int32} {p1 : Int32} {p2 : Int32} {F L M n m pl p : Nat} {tr nm pls kd mo dy : Nat → Nat} {K : Nat → Bool} {w1_3 : Int32} {w1_4 : Int32} {w1_5 : Int32} {w1_6 : Int32} {w1_7 : Int32} {w1_9 : Int32} {z12_0 : Nat → Int32} {z13_0 : Nat → Int32} {z13_1 : Nat → Int32} {z13_2 : Nat → Int32} {z13_3 : Nat → Int32} {z13_4 : Nat → Int32} {z13_5 : Nat → Int32} (hW : RW M n m tr nm pls kd mo dy) (hm6 : m ≤ 6) (hn : n ≤ 24) (hM1 : 1 ≤ M) (hM : M ≤ 24) (hF1 : 1 ≤ F) (hL1 : 1 ≤ L) (hF : F ≤ 5) (hL : L ≤ 5) (hpl : pl < m) (hp : p < n) (hp2 : p2 = nI p) (hN : ∀ q, q < m → z12_0 q = nI (nm q)) (hR : ∀ j, j < n → z13_0 j = nI (pls j) ∧ z13_1 j = nI (kd j) ∧ z13_2 j = nI (mo j) ∧ z13_3 j = nI (dy j)) (hK : ∀ j, j < n → (K j = true ↔ ¬ fX7_isKnownBy (z13_4 j) (z13_5 j) p1 = 0)) :
    ∀ (k i z : Nat) (w4_5 : Int32) (w4_6 : Int32) (w9_0 : Int32) (w9_1 : Int32) (w9_2 : Int32) (z5 : Nat → Int32) (z6 : Nat → Int32) (z7 : Nat → Int64) (z8 : Nat → Int32) (z10 : Nat → Int32) (z11 : Nat → Int32) (z12_1 : Nat → Int32), i + k = 10 → k < z → oZ z11 → (∀ q, q < m → ¬ q = pl → z12_1 q = nI (tr q)) → (lfX11_trusted s_months s_full s_lean s_lines s_hasMoon s_moonStart s_moonStep s_placeCount s_reportCount s_deedCount o_queueLength o_takenBits fove foqu fotu focb of_months of_full of_lean fofal fofon sp_name sp_trust sr_place sr_kind sr_month sr_day sr_known sr_struck amonths afull alean ahasMoon amoonStart amoonStep aplaceCount areportCount p_name p_trust r_place r_kind r_month r_day r_known r_struck p1 p2 z (nI pl) (nI i) (nI M) (nI F) (nI L) w1_3 w1_4 w1_5 w1_6 w1_7 (nI n) w1_9 w4_5 w4_6 w9_0 w9_1 w9_2 z5 z6 z7 z8 z10 z11 z12_0 z12_1 z13_0 z13_1 z13_2 z13_3 z13_4 z13_5).1 = fw (fun w => (jd F L M w1_4 w1_5 w1_6 kd mo dy (lin (ltr (trw tr pl w) nm pls mo dy kd) K n)).2 p) k i ∧ oZ (lfX11_trusted s_months s_full s_lean s_lines s_hasMoon s_moonStart s_moonStep s_placeCount s_reportCount s_deedCount o_queueLength o_takenBits fove foqu fotu focb of_months of_full of_lean fofal fofon sp_name sp_trust sr_place sr_kind sr_month sr_day sr_known sr_struck amonths afull alean ahasMoon amoonStart amoonStep aplaceCount areportCount p_name p_trust r_place r_kind r_month r_day r_known r_struck p1 p2 z (nI pl) (nI i) (nI M) (nI F) (nI L) w1_3 w1_4 w1_5 w1_6 w1_7 (nI n) w1_9 w4_5 w4_6 w9_0 w9_1 w9_2 z5 z6 z7 z8 z10 z11 z12_0 z12_1 z13_0 z13_1 z13_2 z13_3 z13_4 z13_5).2.2.2.2.2.2.2.2.2.2.2.2.2.2.2.2.2.2.2.2.2.1 := by
  intro k
  induction k with
  | zero =>
    intro i z w4_5 w4_6 w9_0 w9_1 w9_2 z5 z6 z7 z8 z10 z11 z12_1 hi hz hZ hT
    obtain ⟨z, rfl⟩ : ∃ y, z = y + 1 := ⟨z - 1, by omega⟩
    have e : lfX11_trusted s_months s_full s_lean s_lines s_hasMoon s_moonStart s_moonStep s_placeCount s_reportCount s_deedCount o_queueLength o_takenBits fove foqu fotu focb of_months of_full of_lean fofal fofon sp_name sp_trust sr_place sr_kind sr_month sr_day sr_known sr_struck amonths afull alean ahasMoon amoonStart amoonStep aplaceCount areportCount p_name p_trust r_place r_kind r_month r_day r_known r_struck p1 p2 (z + 1) (nI pl) (nI i) (nI M) (nI F) (nI L) w1_3 w1_4 w1_5 w1_6 w1_7 (nI n) w1_9 w4_5 w4_6 w9_0 w9_1 w9_2 z5 z6 z7 z8 z10 z11 z12_0 z12_1 z13_0 z13_1 z13_2 z13_3 z13_4 z13_5 = ((-1 : Int32), nI M, nI F, nI L, w1_3, w1_4, w1_5, w1_6, w1_7, nI n, w1_9, w4_5, w4_6, w9_0, w9_1, w9_2, z5, z6, z7, z8, z10, z11, z12_0, z12_1, z13_0, z13_1, z13_2, z13_3, z13_4, z13_5) := by
      rw [tc_s]
      unfold dfX11_trusted_69
      rw [if_pos (show (9 : Int32) < nI i from nI_lt (a := 9) (by omega) (by omega))]
    rw [e]
    exact ⟨rfl, hZ⟩
  | succ k ih =>
    intro i z w4_5 w4_6 w9_0 w9_1 w9_2 z5 z6 z7 z8 z10 z11 z12_1 hi hz hZ hT
    obtain ⟨z, rfl⟩ : ∃ y, z = y + 1 := ⟨z - 1, by omega⟩
    have hWi : RW M n m (trw tr pl i) nm pls kd mo dy := ⟨fun q hq => ⟨by unfold trw; split; omega; exact (hW.1 q hq).1, (hW.1 q hq).2⟩, hW.2⟩
    have hTi : ∀ q, q < m → upd z12_1 pl (nI i) q = nI (trw tr pl i q) ∧ z12_0 q = nI (nm q) := by
      intro q hq
      refine ⟨?_, hN q hq⟩
      unfold trw upd
      by_cases c : q = pl
      · rw [if_pos c, if_pos c]
      · rw [if_neg c, if_neg c]
        exact hT q hq c
    obtain ⟨r1, r2, r3, r4, r5, r6, r7, r8, r9, r10, r11, s1, s2⟩ := cj_eq (F := F) (L := L) (M := M) (n := n) (m := m) (hm := w1_4) (ms := w1_5) (mp := w1_6) (fve := z5) (fqu := z6) (fcb := z8) (ffal := z10) (ffon := z11) (ftu := z7) (t := p1) (pn := z12_0) (pt := upd z12_1 pl (nI i)) (rp := z13_0) (rk := z13_1) (rm := z13_2) (rd := z13_3) (rn := z13_4) (rs := z13_5) (K := K) hWi hm6 hn hM1 hM hF1 hL1 hF hL hTi hR hK hZ
    have hv : r6 p = nI ((fun w => (jd F L M w1_4 w1_5 w1_6 kd mo dy (lin (ltr (trw tr pl w) nm pls mo dy kd) K n)).2 p) i) := s2.2.2.2.2.2.1 p hp
    have hv3 : (fun w => (jd F L M w1_4 w1_5 w1_6 kd mo dy (lin (ltr (trw tr pl w) nm pls mo dy kd) K n)).2 p) i ≤ 3 := jd_le _
    have hT2 : ∀ q, q < m → ¬ q = pl → upd z12_1 pl (nI i) q = nI (tr q) := fun q hq c => (if_neg c).trans (hT q hq c)
    rw [tc_s]
    unfold dfX11_trusted_69
    rw [if_neg (show ¬ (9 : Int32) < nI i from nI_nlt (a := 9) (by omega) (by omega)), nI_clamp (show pl < 2 ^ 31 by omega), hp2, nI_clamp (show p < 2 ^ 31 by omega), nI_1, cal_b, s1]
    dsimp only
    rw [fw]
    by_cases c : (fun w => (jd F L M w1_4 w1_5 w1_6 kd mo dy (lin (ltr (trw tr pl w) nm pls mo dy kd) K n)).2 p) i = 0
    · rw [if_pos c, if_pos (show r6 p = 0 by rw [hv, c]; rfl)]
      exact ⟨rfl, s2.2.2.2.2.2.2.2.2.2⟩
    · rw [if_neg c, if_neg (show ¬ r6 p = 0 by rw [hv]; exact nI_ne0 (by omega) (by omega)), ← hp2]
      exact ih (i + 1) z _ _ _ _ _ _ _ _ _ _ _ _ (by omega) (by omega) s2.2.2.2.2.2.2.2.2.2 hT2
theorem tm_s {mi : Nat → Int32} {fm_must : Nat → Int32} {fm_least : Nat → Int32} {fm_pin : Nat → Int32} {fm_ways : Nat → Int32} {fm_verdict : Nat → Int32} {fm_row : Nat → Int32} {fm_struck : Nat → Int32} {fm_reportKnown : Nat → Int32} {fm_reportPlace : Nat → Int32} {fm_reportMonth : Nat → Int32} {fm_reportDay : Nat → Int32} {fm_reportKind : Nat → Int32} {fm_trust : Nat → Int32} {fm_letter : Nat → Int32} {p1 : Int32} {p2 : Int32} {z : Nat} {v3 : Int32} {v4 : Int32} {w0_37 : Int32} {w0_41 : Int32} {w0_44 : Int32} {w0_45 : Int32} {z1 : Nat → Int32} {z2 : Nat → Int32} {z3 : Nat → Int32} {z4 : Nat → Int32} {z5 : Nat → Int32} {z6 : Nat → Int32} : lfX12_trusted mi fm_must fm_least fm_pin fm_ways fm_verdict fm_row fm_struck fm_reportKnown fm_reportPlace fm_reportMonth fm_reportDay fm_reportKind fm_trust fm_letter p1 p2 (z + 1) v3 v4 w0_37 w0_41 w0_44 w0_45 z1 z2 z3 z4 z5 z6 = dfX12_trusted_34 mi fm_must fm_least fm_pin fm_ways fm_verdict fm_row fm_struck fm_reportKnown fm_reportPlace fm_reportMonth fm_reportDay fm_reportKind fm_trust fm_letter p1 p2 (lfX12_trusted mi fm_must fm_least fm_pin fm_ways fm_verdict fm_row fm_struck fm_reportKnown fm_reportPlace fm_reportMonth fm_reportDay fm_reportKind fm_trust fm_letter p1 p2 z) v3 v4 w0_37 w0_41 w0_44 w0_45 z1 z2 z3 z4 z5 z6 := rfl
theorem tru_L {vx : Nat → Int32} {fx : Nat → Nat → Int32} {mi : Nat → Int32} {fm : Nat → Nat → Int32} (hM : MIp mi fm) (h : REL3 vx fx mi fm) (h3 : ¬ mi 3 = 0) {fm_must : Nat → Int32} {fm_least : Nat → Int32} {fm_pin : Nat → Int32} {fm_ways : Nat → Int32} {fm_verdict : Nat → Int32} {fm_row : Nat → Int32} {p1 : Int32} {p2 : Int32} {pl : Nat} (hp : p2.toNatClampNeg < aN vx) (hpl : pl < aP6 vx) (hpe : fm 2 p2.toNatClampNeg = nI pl) :
    ∀ (i z : Nat) (v3 : Int32) (w0_37 : Int32) (w0_41 : Int32) (w0_44 : Int32) (w0_45 : Int32) (z1 : Nat → Int32) (z2 : Nat → Int32) (z3 : Nat → Int32) (z4 : Nat → Int32) (z5 : Nat → Int32) (z6 : Nat → Int32), i ≤ 10 → i < z → v3 = fw (fun w => (jd (aF vx) (aL vx) (aM vx) (vx 15) (vx 16) (vx 17) (nf (fx 25)) (nf (fx 26)) (nf (fx 27)) (lin (ltr (trw (nf (fx 23)) pl w) (nf (fx 22)) (nf (fx 24)) (nf (fx 26)) (nf (fx 27)) (nf (fx 25))) (kC (fx 28) (fx 29) p1) (aN vx))).2 p2.toNatClampNeg) (10 - i) i → w0_45 = -1 → (lfX12_trusted mi fm_must fm_least fm_pin fm_ways fm_verdict fm_row (fm 4) (fm 7) (fm 2) (fm 5) (fm 6) (fm 3) (fm 0) (fm 1) p1 p2 z v3 (nI i - (1 : Int32)) w0_37 w0_41 w0_44 w0_45 z1 z2 z3 z4 z5 z6).1 = fw (fun w => (jd (aF vx) (aL vx) (aM vx) (vx 15) (vx 16) (vx 17) (nf (fx 25)) (nf (fx 26)) (nf (fx 27)) (lin (ltr (trw (nf (fx 23)) pl w) (nf (fx 22)) (nf (fx 24)) (nf (fx 26)) (nf (fx 27)) (nf (fx 25))) (kC (fx 28) (fx 29) p1) (aN vx))).2 p2.toNatClampNeg) 10 0 ∧ (lfX12_trusted mi fm_must fm_least fm_pin fm_ways fm_verdict fm_row (fm 4) (fm 7) (fm 2) (fm 5) (fm 6) (fm 3) (fm 0) (fm 1) p1 p2 z v3 (nI i - (1 : Int32)) w0_37 w0_41 w0_44 w0_45 z1 z2 z3 z4 z5 z6).2.2.2.2.1 = -1 := by
  obtain ⟨k0, k1, k2, k10, _, _, kT, _, r9⟩ := rd_of hM h h3
  obtain ⟨_, ⟨b1, b2, b3, b4, b5, b6, b7, b8⟩, hW, _⟩ := ad_of hM h h3
  intro i
  induction i with
  | zero =>
    intro z v3 w0_37 w0_41 w0_44 w0_45 z1 z2 z3 z4 z5 z6 hi hz hv h45
    obtain ⟨z, rfl⟩ : ∃ y, z = y + 1 := ⟨z - 1, by omega⟩
    have e : lfX12_trusted mi fm_must fm_least fm_pin fm_ways fm_verdict fm_row (fm 4) (fm 7) (fm 2) (fm 5) (fm 6) (fm 3) (fm 0) (fm 1) p1 p2 (z + 1) v3 (nI 0 - (1 : Int32)) w0_37 w0_41 w0_44 w0_45 z1 z2 z3 z4 z5 z6 = (v3, w0_37, w0_41, w0_44, w0_45, z1, z2, z3, z4, z5, z6) := by
      rw [tm_s]
      unfold dfX12_trusted_34
      rw [if_pos (by decide)]
    rw [e]
    exact ⟨hv, h45⟩
  | succ i ih =>
    intro z v3 w0_37 w0_41 w0_44 w0_45 z1 z2 z3 z4 z5 z6 hi hz hv h45
    obtain ⟨z, rfl⟩ : ∃ y, z = y + 1 := ⟨z - 1, by omega⟩
    obtain ⟨must', least', pin', ways', ve', row', rmn, g1, g2⟩ := qg_of hM h h3 (F := aF vx) (L := aL vx) (tr := trw (nf (fx 23)) pl i) b3 b4 b5 b6 (fun q hq => by unfold trw; split; omega; exact (hW.1 q hq).1) (upd (upd (upd (upd mi 37 w0_37) 41 w0_41) 44 (nI i)) 45 (nI pl)) (fun k hk _ _ => by rw [upd_ne (by omega), upd_ne (by omega), upd_ne (by omega), upd_ne (by omega)]) k1 k2 (fun q hq => by
      show (if nI q = nI pl then nI i else fm 0 q) = _
      unfold trw
      by_cases c : q = pl
      · rw [if_pos (by rw [c]), if_pos c]
      · rw [if_neg (fun w => c ((nI_eq (by omega) (by omega)).1 w)), if_neg c]
        exact kT q hq) z1 z2 z3 z4 z5 z6 p1
    have hl : lin (ltr (trw (nf (fx 23)) pl i) (nf (fx 22)) (nf (fx 24)) (nf (fx 26)) (nf (fx 27)) (nf (fx 25))) (kR (upd (upd (upd (upd mi 37 w0_37) 41 w0_41) 44 (nI i)) 45 (nI pl)) (fm 4) (fm 7) (fm 2) p1) (aN vx) = lin (ltr (trw (nf (fx 23)) pl i) (nf (fx 22)) (nf (fx 24)) (nf (fx 26)) (nf (fx 27)) (nf (fx 25))) (kC (fx 28) (fx 29) p1) (aN vx) := by
      refine lin_cong _ (fun j hj => ?_)
      unfold kR kC
      rw [show upd (upd (upd (upd mi 37 w0_37) 41 w0_41) 44 (nI i)) 45 (nI pl) 43 = -1 from h.2.2.1.2.1, show upd (upd (upd (upd mi 37 w0_37) 41 w0_41) 44 (nI i)) 45 (nI pl) 42 = -1 from h.2.2.1.1]
      refine decide_eq_decide.mpr ?_
      have e : fX12_isKnown (fm 4) (fm 7) (nI j) p1 = fX7_isKnownBy (fx 28 j) (fx 29 j) p1 := by
        rw [← kn_eq, nI_clamp (by omega), (r9 j hj).1, (r9 j hj).2]
      rw [e]
      exact ⟨fun q => q.1, fun q => ⟨q, nIm1 (by omega), Or.inl rfl⟩⟩
    rw [hl] at g2
    have hv1 : ve' p2.toNatClampNeg = nI ((fun w => (jd (aF vx) (aL vx) (aM vx) (vx 15) (vx 16) (vx 17) (nf (fx 25)) (nf (fx 26)) (nf (fx 27)) (lin (ltr (trw (nf (fx 23)) pl w) (nf (fx 22)) (nf (fx 24)) (nf (fx 26)) (nf (fx 27)) (nf (fx 25))) (kC (fx 28) (fx 29) p1) (aN vx))).2 p2.toNatClampNeg) i) := g2.2.2.2.2.1 _ hp
    have hv3 : (fun w => (jd (aF vx) (aL vx) (aM vx) (vx 15) (vx 16) (vx 17) (nf (fx 25)) (nf (fx 26)) (nf (fx 27)) (lin (ltr (trw (nf (fx 23)) pl w) (nf (fx 22)) (nf (fx 24)) (nf (fx 26)) (nf (fx 27)) (nf (fx 25))) (kC (fx 28) (fx 29) p1) (aN vx))).2 p2.toNatClampNeg) i ≤ 3 := jd_le _
    rw [tm_s]
    unfold dfX12_trusted_34 bfX12_trusted_75
    rw [nI_pred, if_neg (nI_pos (by omega)), hpe, cal_b, g1]
    dsimp only
    rw [show nI i + (-1 : Int32) = nI i - (1 : Int32) from by rw [Int32.sub_eq_add_neg]]
    have hf : fw (fun w => (jd (aF vx) (aL vx) (aM vx) (vx 15) (vx 16) (vx 17) (nf (fx 25)) (nf (fx 26)) (nf (fx 27)) (lin (ltr (trw (nf (fx 23)) pl w) (nf (fx 22)) (nf (fx 24)) (nf (fx 26)) (nf (fx 27)) (nf (fx 25))) (kC (fx 28) (fx 29) p1) (aN vx))).2 p2.toNatClampNeg) (10 - i) i = if (fun w => (jd (aF vx) (aL vx) (aM vx) (vx 15) (vx 16) (vx 17) (nf (fx 25)) (nf (fx 26)) (nf (fx 27)) (lin (ltr (trw (nf (fx 23)) pl w) (nf (fx 22)) (nf (fx 24)) (nf (fx 26)) (nf (fx 27)) (nf (fx 25))) (kC (fx 28) (fx 29) p1) (aN vx))).2 p2.toNatClampNeg) i = 0 then nI i else v3 := by
      rw [show 10 - i = (10 - (i + 1)) + 1 from by omega, fw, hv]
    by_cases c : (fun w => (jd (aF vx) (aL vx) (aM vx) (vx 15) (vx 16) (vx 17) (nf (fx 25)) (nf (fx 26)) (nf (fx 27)) (lin (ltr (trw (nf (fx 23)) pl w) (nf (fx 22)) (nf (fx 24)) (nf (fx 26)) (nf (fx 27)) (nf (fx 25))) (kC (fx 28) (fx 29) p1) (aN vx))).2 p2.toNatClampNeg) i = 0
    · rw [if_pos (show _ = (0 : Int32) from hv1.trans (by rw [c]; rfl))]
      exact ih z _ _ _ _ _ _ _ _ _ _ _ (by omega) (by omega) (by rw [hf, if_pos c]) rfl
    · rw [if_neg (show ¬ _ = (0 : Int32) from fun q => nI_ne0 (by omega) (by omega) (hv1.symm.trans q))]
      exact ih z _ _ _ _ _ _ _ _ _ _ _ (by omega) (by omega) (by rw [hf, if_neg c]) rfl
theorem r3_trusted {vx : Nat → Int32} {fx : Nat → Nat → Int32} {gx : Nat → Nat → Int64} {mi : Nat → Int32} {fm : Nat → Nat → Int32} (hM : MIp mi fm) (h : REL3 vx fx mi fm) {r r2 : Int32} {v : Nat → Int32} {f : Nat → Nat → Int32} {g : Nat → Nat → Int64} {mi2 : Nat → Int32} {fm2 : Nat → Nat → Int32} {p1 p2 : Int32} (hx : (r, v, f, g) = xs_trusted vx fx gx p1 p2) (hm : (r2, mi2, fm2) = ms_trusted mi fm p1 p2) : REL3 v f mi2 fm2 ∧ r = r2 := by
  obtain ⟨O, hO⟩ : ∃ O, O = fX11_trusted (vx 21) (vx 22) (vx 23) (vx 24) (vx 25) (vx 26) (vx 27) (vx 28) (vx 29) (vx 30) (vx 49) (vx 50) (fx 8) (fx 9) (gx 1) (fx 10) (vx 51) (vx 52) (vx 53) (fx 11) (fx 12) (fx 34) (fx 35) (fx 36) (fx 37) (fx 38) (fx 39) (fx 40) (fx 41) (vx 11) (vx 12) (vx 13) (vx 15) (vx 16) (vx 17) (vx 18) (vx 19) (fx 22) (fx 23) (fx 24) (fx 25) (fx 26) (fx 27) (fx 28) (fx 29) p1 p2 := ⟨_, rfl⟩
  obtain ⟨U, hU⟩ : ∃ U, U = fX12_trusted mi (fm 14) (fm 15) (fm 16) (fm 17) (fm 18) (fm 19) (fm 4) (fm 7) (fm 2) (fm 5) (fm 6) (fm 3) (fm 0) (fm 1) p1 p2 := ⟨_, rfl⟩
  have hx : (r, v, f, g) = xt_trusted vx fx gx O := by
    rw [hx, hO]
    rfl
  have hm : (r2, mi2, fm2) = mt_trusted mi fm U := by
    rw [hm, hU]
    rfl
  have hfin : ∀ s : Int32, O.1 = s → U.1 = s → oZ O.2.2.2.2.2.2.2.2.2.2.2.2.2.2.2.2.2.2.2.2.2.1 → U.2.2.2.2.1 = mi 45 → REL3 v f mi2 fm2 ∧ r = r2 := by
    intro s s1 s2 hz h45
    unfold xt_trusted at hx
    unfold mt_trusted at hm
    simp only [Prod.mk.injEq] at hx hm
    obtain ⟨rfl, rfl, rfl, rfl⟩ := hx
    obtain ⟨rfl, rfl, rfl⟩ := hm
    refine ⟨r3_cmb h ⟨fun k h1 h2 => ?_, rfl, fun k h1 h2 => ?_, ⟨h.2.2.2.1.1, hz⟩, ⟨rfl, rfl, rfl, rfl, rfl, rfl⟩, h.2.2.2.2.1⟩ ⟨fun k hk => ?_, ⟨rfl, rfl, h45⟩, ⟨rfl, rfl⟩, fun k hk => ?_⟩, s1.trans s2.symm⟩
    · repeat rw [upd_ne (by omega)]
    · repeat rw [updF_ne (by omega)]
    · repeat rw [upd_ne (by omega)]
    · repeat rw [updF_ne (by omega)]
  unfold fX11_trusted bfX11_trusted_31 at hO
  unfold fX12_trusted bfX12_trusted_25 at hU
  obtain ⟨o1, e1, hO⟩ := cal_out hO
  obtain ⟨u1, f1, hU⟩ := cal_out hU
  obtain ⟨a1, c1⟩ := tm_of h p1
  rw [a1, ← f1] at e1
  rw [← f1] at c1
  rcases c1 with c1 | ⟨c1, n3, _, _⟩
  · rw [if_pos (e1.trans c1)] at hO
    rw [if_pos c1] at hU
    exact hfin (-2) (by rw [hO]) (by rw [hU]) (by rw [hO]; exact h.2.2.2.1.2) (by rw [hU])
  rw [if_neg (by rw [e1, c1]; decide)] at hO
  rw [if_neg (by rw [c1]; decide)] at hU
  obtain ⟨o2, e2, hO⟩ := cal_out hO
  obtain ⟨u2, f2, hU⟩ := cal_out hU
  obtain ⟨a2, c2⟩ := rp_of h p2
  rw [a2, ← f2] at e2
  rw [← f2] at c2
  rcases c2 with c2 | ⟨c2, b3, b4⟩
  · rw [if_pos (e2.trans c2)] at hO
    rw [if_pos c2] at hU
    exact hfin (-2) (by rw [hO]) (by rw [hU]) (by rw [hO]; exact h.2.2.2.1.2) (by rw [hU])
  rw [if_neg (by rw [e2, c2]; decide)] at hO
  rw [if_neg (by rw [c2]; decide)] at hU
  obtain ⟨_, _, _, _, _, _, _, kRr, r9⟩ := rd_of hM h n3
  obtain ⟨⟨j1, j2, j3, j4⟩, ⟨d1, d2, d3, d4, d5, d6, d7, d8⟩, hW, hP, hR, _⟩ := ad_of hM h n3
  rw [(r9 _ b3).2] at hU
  by_cases c3 : fx 29 p2.toNatClampNeg = 0
  · rw [if_pos c3] at hO hU
    obtain ⟨o3, e3, hO⟩ := cal_out hO
    obtain ⟨a', b', c', d', e', f', g', h', w1, w2, w3⟩ := cp_eq (p_name := fx 34) (p_trust := fx 35) (r_place := fx 36) (r_kind := fx 37) (r_month := fx 38) (r_day := fx 39) (r_known := fx 40) (r_struck := fx 41) (bmonths := vx 11) (bfull := vx 12) (blean := vx 13) (bhasMoon := vx 15) (bmoonStart := vx 16) (bmoonStep := vx 17) (bp_name := fx 22) (bp_trust := fx 23) (br_place := fx 24) (br_kind := fx 25) (br_month := fx 26) (br_day := fx 27) (br_known := fx 28) (br_struck := fx 29) d7 d8
    rw [k18_of h, j4, w1] at e3
    subst e3
    dsimp only at hO
    rw [(w3 _ b3).1, (hR _ b3).1, j1, j2, j3, ← nI_0] at hO
    have hpl : nf (fx 24) p2.toNatClampNeg < aP6 vx := (hW.2.2 _ b3).1
    obtain ⟨i1, i2⟩ := tc_L (F := aF vx) (L := aL vx) (M := aM vx) (n := aN vx) (m := aP6 vx) (pl := nf (fx 24) p2.toNatClampNeg) (p := p2.toNatClampNeg) (tr := nf (fx 23)) (nm := nf (fx 22)) (pls := nf (fx 24)) (kd := nf (fx 25)) (mo := nf (fx 26)) (dy := nf (fx 27)) (K := kC (fx 28) (fx 29) p1) (p1 := p1) (p2 := p2) (z12_0 := a') (z13_0 := c') (z13_1 := d') (z13_2 := e') (z13_3 := f') (z13_4 := g') (z13_5 := h') hW d7 d8 (by omega) d2 d3 d5 d4 d6 hpl b3 b4 (fun q hq => by rw [(w2 q hq).1]; exact (hP q hq).2) (fun j hj => by obtain ⟨z1, z2, z3, z4, z5, z6⟩ := w3 j hj; rw [z1, z2, z3, z4]; exact hR j hj) (fun j hj => by obtain ⟨z1, z2, z3, z4, z5, z6⟩ := w3 j hj; rw [z5, z6]; exact decide_eq_true_iff) 10 0 1000000000 (vx 49) (vx 50) (vx 51) (vx 52) (vx 53) (fx 8) (fx 9) (gx 1) (fx 10) (fx 11) (fx 12) b' (by omega) (by omega) h.2.2.2.1.2 (fun q hq _ => by rw [(w2 q hq).2]; exact (hP q hq).1)
    have hU : U = _ := hU
    rw [show (9 : Int32) = nI 10 - (1 : Int32) from by decide] at hU
    obtain ⟨y1, y2⟩ := tru_L hM h n3 (pl := nf (fx 24) p2.toNatClampNeg) (p1 := p1) (p2 := p2) b3 hpl (kRr _ b3).1 10 1000000000 (-1) (mi 37) (mi 41) (mi 44) (mi 45) (fm 14) (fm 15) (fm 16) (fm 17) (fm 18) (fm 19) (by omega) (by omega) (by rw [Nat.sub_self, fw]) h.2.2.1.2.2
    refine hfin _ (by rw [hO]) (by rw [hU]; exact y1.trans i1.symm) (by rw [hO]; exact i2) (by rw [hU]; exact y2.trans h.2.2.1.2.2.symm)
  · rw [if_neg c3] at hO hU
    exact hfin (-2) (by rw [hO]) (by rw [hU]) (by rw [hO]; exact h.2.2.2.1.2) (by rw [hU])
theorem tb_gen {mj ve : Nat → Int32} {tb : Int32} {n : Nat} {V : Nat → Nat} (hn : n ≤ 24) (h10 : mj 10 = nI n) (h1 : tbE tb n V) (h2 : ∀ j, j < n → ve j = nI (V j)) (hV : ∀ j, V j ≤ 3) : tb = fX12_takenBits mj ve := by
  refine b_ext (fun j hj => ?_)
  unfold fX12_takenBits
  have q := tk_L (mi := mj) (ve := ve) (V := V) hn h10 h2 hV n 0 1000000000 0 (by omega) (by omega) (fun j hj => by rw [b_0]; simp) j hj
  rw [nI_0] at q
  rw [q, h1 j hj]
theorem i1_5 (p : Int32) : (p < 1 ↔ p.toInt < 1) ∧ ((5 : Int32) < p ↔ 5 < p.toInt) ∧ (p ≤ 5 ↔ p.toInt ≤ 5) := by
  have e1 : (1 : Int32).toInt = 1 := by decide
  have e5 : (5 : Int32).toInt = 5 := by decide
  refine ⟨?_, ?_, ?_⟩
  · rw [Int32.lt_iff_toInt_lt, e1]
  · rw [Int32.lt_iff_toInt_lt, e5]
  · rw [Int32.le_iff_toInt_le, e5]
theorem in1_5 (p : Int32) : fX12_in p.toInt64 (1 : Int64) (5 : Int64) = if 1 ≤ p.toInt ∧ p.toInt ≤ 5 then 1 else 0 := by
  rw [dr_in, show (1 : Int64).toInt = 1 by decide, show (5 : Int64).toInt = 5 by decide]
theorem r3_runs {vx : Nat → Int32} {fx : Nat → Nat → Int32} {gx : Nat → Nat → Int64} {mi : Nat → Int32} {fm : Nat → Nat → Int32} (hM : MIp mi fm) (h : REL3 vx fx mi fm) {r r2 : Int32} {v : Nat → Int32} {f : Nat → Nat → Int32} {g : Nat → Nat → Int64} {mi2 : Nat → Int32} {fm2 : Nat → Nat → Int32} {p1 p2 : Int32} (hx : (r, v, f, g) = xs_runs vx fx gx p1 p2) (hm : (r2, mi2, fm2) = ms_runs mi fm p1 p2) : REL3 v f mi2 fm2 ∧ r = r2 := by
  obtain ⟨O, hO⟩ : ∃ O, O = fX11_runs (vx 1) (vx 2) (vx 3) (vx 4) (vx 11) (vx 12) (vx 13) (vx 15) (vx 16) (vx 17) (vx 18) (vx 19) (vx 21) (vx 22) (vx 23) (vx 24) (vx 25) (vx 26) (vx 27) (vx 28) (vx 29) (vx 30) (vx 49) (vx 50) (fx 8) (fx 9) (gx 1) (fx 10) (vx 51) (vx 52) (vx 53) (fx 11) (fx 12) (vx 44) (vx 45) (fx 3) (fx 4) (gx 0) (fx 5) (vx 46) (vx 47) (vx 48) (fx 6) (fx 7) (fx 34) (fx 35) (fx 36) (fx 37) (fx 38) (fx 39) (fx 40) (fx 41) (fx 22) (fx 23) (fx 24) (fx 25) (fx 26) (fx 27) (fx 28) (fx 29) p1 p2 := ⟨_, rfl⟩
  obtain ⟨U, hU⟩ : ∃ U, U = fX12_runs mi (fm 14) (fm 15) (fm 16) (fm 17) (fm 18) (fm 19) (fm 4) (fm 7) (fm 2) (fm 5) (fm 6) (fm 3) (fm 0) (fm 1) p1 p2 := ⟨_, rfl⟩
  have hx : (r, v, f, g) = xt_runs vx fx gx O := by
    rw [hx, hO]
    rfl
  have hm : (r2, mi2, fm2) = mt_runs mi fm U := by
    rw [hm, hU]
    rfl
  have hkeep : ∀ s : Int32, O.1 = s → U.1 = s → (O.2.2.2.2.1 = vx 4 ∧ O.2.2.2.2.2.1 = vx 12 ∧ O.2.2.2.2.2.2.1 = vx 13) → oZ O.2.2.2.2.2.2.2.2.2.2.2.2.2.2.2.2.2.2.2.2.2.2.2.2.2.2.2.2.2.2.2.2.1 → CI (aF vx) (aL vx) (aM vx) (aN vx) (vx 15) (vx 16) (vx 17) (nf (fx 25)) (nf (fx 26)) (nf (fx 27)) (aLT fx) (fx 28) (fx 29) O.2.1 O.2.2.1 O.2.2.2.2.2.2.2.2.2.2.2.2.2.2.2.2.2.2.2.2.2.2.1 O.2.2.2.2.2.2.2.2.2.2.2.2.2.2.2.2.2.2.2.2.2.2.2.1 O.2.2.2.2.2.2.2.2.2.2.2.2.2.2.2.2.2.2.2.2.2.2.2.2.1 O.2.2.2.2.2.2.2.2.2.2.2.2.2.2.2.2.2.2.2.2.2.2.2.2.2.1 O.2.2.2.2.2.2.2.2.2.2.2.2.2.2.2.2.2.2.2.2.2.2.2.2.2.2.1 O.2.2.2.2.2.2.2.2.2.2.2.2.2.2.2.2.2.2.2.2.2.2.2.2.2.2.2.2.2.2.2.2.2.1 O.2.2.2.2.2.2.2.2.2.2.2.2.2.2.2.2.2.2.2.2.2.2.2.2.2.2.2.2.2.2.2.2.2.2.1 O.2.2.2.2.2.2.2.2.2.2.2.2.2.2.2.2.2.2.2.2.2.2.2.2.2.2.2.2.2.2.2.2.2.2.2.2.1 O.2.2.2.2.2.2.2.2.2.2.2.2.2.2.2.2.2.2.2.2.2.2.2.2.2.2.2.2.2.2.2.2.2.2.2.2.2.1 O.2.2.2.2.2.2.2.2.2.2.2.2.2.2.2.2.2.2.2.2.2.2.2.2.2.2.2.2.2.2.2.2.2.2.2.2.2.2.1 → (U.2.1 = mi 1 ∧ U.2.2.1 = mi 2) → REL3 v f mi2 fm2 ∧ r = r2 := by
    intro s s1 s2 hv hz hC hu
    unfold xt_runs at hx
    unfold mt_runs at hm
    simp only [Prod.mk.injEq] at hx hm
    obtain ⟨rfl, rfl, rfl, rfl⟩ := hx
    obtain ⟨rfl, rfl, rfl⟩ := hm
    refine ⟨r3_cmb h ⟨fun k h1 h2 => ?_, rfl, fun k h1 h2 => ?_, ⟨h.2.2.2.1.1, hz⟩, ⟨rfl, rfl, hv.1, rfl, rfl, rfl⟩, hC⟩ ⟨fun k hk => ?_, ⟨rfl, rfl, rfl⟩, ⟨rfl, rfl⟩, fun k hk => ?_⟩, s1.trans s2.symm⟩
    · by_cases c1 : k = 12
      · subst c1
        exact hv.2.1
      · by_cases c2 : k = 13
        · subst c2
          exact hv.2.2
        · repeat rw [upd_ne (by omega)]
    · repeat rw [updF_ne (by omega)]
    · by_cases c1 : k = 1
      · subst c1
        exact hu.1
      · by_cases c2 : k = 2
        · subst c2
          exact hu.2
        · repeat rw [upd_ne (by omega)]
    · repeat rw [updF_ne (by omega)]
  have hnew : O.1 = 0 → U.1 = 0 → (O.2.1 = 0 ∧ O.2.2.2.2.1 = 0 ∧ O.2.2.2.2.2.1 = p1 ∧ O.2.2.2.2.2.2.1 = p2) → oZ O.2.2.2.2.2.2.2.2.2.2.2.2.2.2.2.2.2.2.2.2.2.2.2.2.2.2.2.2.2.2.2.2.1 → oZ O.2.2.2.2.2.2.2.2.2.2.2.2.2.2.2.2.2.2.2.2.2.2.2.2.2.2.2.2.2.2.2.2.2.2.2.2.2.2.1 → (U.2.1 = p1 ∧ U.2.2.1 = p2) → REL3 v f mi2 fm2 ∧ r = r2 := by
    intro s1 s2 hv hz hz2 hu
    unfold xt_runs at hx
    unfold mt_runs at hm
    simp only [Prod.mk.injEq] at hx hm
    obtain ⟨rfl, rfl, rfl, rfl⟩ := hx
    obtain ⟨rfl, rfl, rfl⟩ := hm
    obtain ⟨⟨h1, ⟨⟨⟨w1, w2, w3, w4⟩, w5, w6⟩, w7⟩⟩, h2, h3, h4, h5, h6, h7⟩ := h
    exact ⟨⟨⟨h1, ⟨⟨⟨w1, rfl, rfl, w4⟩, w5, w6⟩, w7⟩⟩, ⟨hv.2.2.1.trans hu.1.symm, hv.2.2.2.trans hu.2.symm⟩, h3, ⟨h4.1, hz⟩, ⟨hz2, Or.inl hv.1⟩, h6, Or.inl hv.2.1⟩, s1.trans s2.symm⟩
  obtain ⟨m1, m2, m3, m4⟩ := dat_M h.1.2
  have w11 : vx 11 = mi 0 := h.1.2.1.1.1
  unfold fX11_runs at hO
  unfold fX12_runs at hU
  obtain ⟨o1, e1, hO⟩ := cal_out hO
  rw [dx_told, w11] at e1
  by_cases n3 : mi 3 = 0
  · rw [if_pos n3] at hU
    rw [if_neg (fun q => m1.1 q n3)] at e1
    rw [if_pos e1] at hO
    exact hkeep (-2) (by rw [hO]; rfl) (by rw [hU]; rfl) ⟨by rw [hO]; rfl, by rw [hO]; rfl, by rw [hO]; rfl⟩ (by rw [hO]; exact h.2.2.2.1.2) (by rw [hO]; exact h.2.2.2.2.1) ⟨by rw [hU]; rfl, by rw [hU]; rfl⟩
  rw [if_neg n3] at hU
  rw [if_pos (m1.2 n3)] at e1
  rw [if_neg (by rw [e1]; decide)] at hO
  obtain ⟨i1, i2, i3⟩ := i1_5 p1
  obtain ⟨j1, j2, j3⟩ := i1_5 p2
  obtain ⟨u1, f1, hU⟩ := cal_out hU
  rw [in1_5] at f1
  by_cases c1 : 1 ≤ p1.toInt ∧ p1.toInt ≤ 5
  case neg =>
    rw [if_neg c1] at f1
    rw [if_pos f1] at hU
    by_cases c2 : p1 < 1
    · rw [if_pos c2] at hO
      exact hkeep (-2) (by rw [hO]; rfl) (by rw [hU]; rfl) ⟨by rw [hO]; rfl, by rw [hO]; rfl, by rw [hO]; rfl⟩ (by rw [hO]; exact h.2.2.2.1.2) (by rw [hO]; exact h.2.2.2.2.1) ⟨by rw [hU]; rfl, by rw [hU]; rfl⟩
    · rw [if_neg c2, if_pos (i2.2 (by rw [i1] at c2; omega))] at hO
      exact hkeep (-2) (by rw [hO]; rfl) (by rw [hU]; rfl) ⟨by rw [hO]; rfl, by rw [hO]; rfl, by rw [hO]; rfl⟩ (by rw [hO]; exact h.2.2.2.1.2) (by rw [hO]; exact h.2.2.2.2.1) ⟨by rw [hU]; rfl, by rw [hU]; rfl⟩
  rw [if_pos c1] at f1
  rw [if_neg (by rw [f1]; decide)] at hU
  rw [if_neg (fun q => by rw [i1] at q; omega), if_neg (fun q => by rw [i2] at q; omega)] at hO
  obtain ⟨u2, f2, hU⟩ := cal_out hU
  rw [in1_5] at f2
  by_cases c2 : 1 ≤ p2.toInt ∧ p2.toInt ≤ 5
  case neg =>
    rw [if_neg c2] at f2
    rw [if_pos f2] at hU
    by_cases c3 : p2 < 1
    · rw [if_pos c3] at hO
      exact hkeep (-2) (by rw [hO]; rfl) (by rw [hU]; rfl) ⟨by rw [hO]; rfl, by rw [hO]; rfl, by rw [hO]; rfl⟩ (by rw [hO]; exact h.2.2.2.1.2) (by rw [hO]; exact h.2.2.2.2.1) ⟨by rw [hU]; rfl, by rw [hU]; rfl⟩
    · rw [if_neg c3, if_neg (fun q => by rw [j3] at q; rw [j1] at c3; omega)] at hO
      exact hkeep (-2) (by rw [hO]; rfl) (by rw [hU]; rfl) ⟨by rw [hO]; rfl, by rw [hO]; rfl, by rw [hO]; rfl⟩ (by rw [hO]; exact h.2.2.2.1.2) (by rw [hO]; exact h.2.2.2.2.1) ⟨by rw [hU]; rfl, by rw [hU]; rfl⟩
  rw [if_pos c2] at f2
  rw [if_neg (by rw [f2]; decide)] at hU
  rw [if_neg (fun q => by rw [j1] at q; omega), if_pos (j3.2 c2.2)] at hO
  obtain ⟨F, hF0, hF1, hF5⟩ : ∃ F : Nat, p1 = nI F ∧ 1 ≤ F ∧ F ≤ 5 := by
    obtain ⟨q1, q2⟩ := clN (x := p1) (by omega)
    exact ⟨_, q1, by omega, by omega⟩
  obtain ⟨L, hL0, hL1, hL5⟩ : ∃ L : Nat, p2 = nI L ∧ 1 ≤ L ∧ L ≤ 5 := by
    obtain ⟨q1, q2⟩ := clN (x := p2) (by omega)
    exact ⟨_, q1, by omega, by omega⟩
  obtain ⟨⟨k1, k2, k3, k4⟩, ⟨b1, b2, b3, b4, b5, b6, b7, b8⟩, hW, hP, hR, _⟩ := ad_of hM h n3
  obtain ⟨_, _, _, k10, _, _, kT, _⟩ := rd_of hM h n3
  have hs : mi 45 = -1 := h.2.2.1.2.2
  have k18 : vx 18 = nI (aP6 vx) := by
    obtain ⟨⟨_, ⟨_, ⟨m, r, d, hm6, hr, hd, a1, _⟩, _⟩, _⟩, _⟩ := h
    show vx 18 = nI (vx 18).toNatClampNeg
    rw [a1, nI_clamp (by omega)]
  obtain ⟨o2, e2, hO⟩ := cal_out hO
  obtain ⟨a', b', c', d', e', f', g', h', w1, w2, w3⟩ := cp_eq (p_name := fx 34) (p_trust := fx 35) (r_place := fx 36) (r_kind := fx 37) (r_month := fx 38) (r_day := fx 39) (r_known := fx 40) (r_struck := fx 41) (bmonths := vx 11) (bfull := vx 12) (blean := vx 13) (bhasMoon := vx 15) (bmoonStart := vx 16) (bmoonStep := vx 17) (bp_name := fx 22) (bp_trust := fx 23) (br_place := fx 24) (br_kind := fx 25) (br_month := fx 26) (br_day := fx 27) (br_known := fx 28) (br_struck := fx 29) b7 b8
  rw [k18, k4, w1] at e2
  subst e2
  obtain ⟨o3, e3, hO⟩ := cal_out hO
  obtain ⟨o4, e4, hO⟩ := cal_out hO
  dsimp only at e3 hO
  obtain ⟨ql2, tb2, x1, x2, x3, y1, y2, y3, y4, y5, y6, s1, s2⟩ := cj_eq (F := F) (L := L) (M := aM vx) (n := aN vx) (m := aP6 vx) (hm := vx 15) (ms := vx 16) (mp := vx 17) (fve := fx 8) (fqu := fx 9) (fcb := fx 10) (ffal := fx 11) (ffon := fx 12) (ftu := gx 1) (t := 999) (pn := a') (pt := b') (rp := c') (rk := d') (rm := e') (rd := f') (rn := g') (rs := h') (K := kC (fx 28) (fx 29) 999) hW b7 b8 (by omega) b2 hF1 hL1 hF5 hL5 (fun p hp => by rw [(w2 p hp).1, (w2 p hp).2]; exact hP p hp) (fun j hj => by obtain ⟨z1, z2, z3, z4, z5, z6⟩ := w3 j hj; rw [z1, z2, z3, z4]; exact hR j hj) (fun j hj => by
    obtain ⟨z1, z2, z3, z4, z5, z6⟩ := w3 j hj
    unfold kC
    rw [decide_eq_true_eq, z5, z6]) h.2.2.2.1.2
  rw [k1, hF0, hL0, s1] at e3
  subst e3
  dsimp only at hO
  obtain ⟨hCT, hCI⟩ := cq_of hM h n3 999 e4
  obtain ⟨must, least, pin, ways, ve, row, rmn, g1, g2⟩ := qr_of hM h n3 mi (fun _ _ => rfl) ⟨rfl, rfl, rfl⟩ (fm 14) (fm 15) (fm 16) (fm 17) (fm 18) (fm 19) 999
  obtain ⟨u3, f3, hU⟩ := cal_out hU
  rw [g1] at f3
  subst f3
  obtain ⟨u4, f4, hU⟩ := cal_out hU
  obtain ⟨u5, f5, hU⟩ := cal_out hU
  dsimp only at f4 f5 hU
  obtain ⟨must2, least2, pin2, ways2, ve2, row2, rmn2, g3, g4⟩ := qg_of hM h n3 (tr := nf (fx 23)) hF1 hF5 hL1 hL5 (fun p hp => (hW.1 p hp).1) (upd (upd (upd (upd mi 1 p1) 2 p2) 37 0) 41 rmn) (fun k hk h1 h2 => by rw [upd_ne (by omega), upd_ne (by omega), upd_ne h2, upd_ne h1]) ((if_neg (by decide)).trans ((if_neg (by decide)).trans ((if_neg (by decide)).trans ((if_pos rfl).trans hF0)))) ((if_neg (by decide)).trans ((if_neg (by decide)).trans ((if_pos rfl).trans hL0))) (fun p hp => by
    rw [show (upd (upd (upd (upd mi 1 p1) 2 p2) 37 0) 41 rmn) 45 = mi 45 from rfl, hs, if_neg (nIm1 (by omega))]
    exact kT p hp) must least pin ways ve row 999
  rw [show kR (upd (upd (upd (upd mi 1 p1) 2 p2) 37 0) 41 rmn) (fm 4) (fm 7) (fm 2) 999 = kR mi (fm 4) (fm 7) (fm 2) 999 from rfl, (jj_of (gx := fun _ _ => 0) hM h n3 999).2] at g4
  rw [g3] at f5
  subst f5
  obtain ⟨u6, f6, hU⟩ := cal_out hU
  dsimp only at f6 hU
  have t4 : o4.2.2.2.2.1 = u4 := (tb_same hM h n3 (mj := upd (upd mi 37 0) 41 rmn) (t := 999) (fun k hk => by rw [upd_ne (by omega), upd_ne (by omega)]) hCT.2.1 g2.2.2.2.2.1).trans f4.symm
  have t6 : tb2 = u6 := (tb_gen (mj := (upd (upd (upd (upd mi 1 p1) 2 p2) 37 0) 41 rmn2)) b8 (((if_neg (by decide)).trans ((if_neg (by decide)).trans ((if_neg (by decide)).trans ((if_neg (by decide)).trans k10))))) s2.2.1 g4.2.2.2.2.1 (fun j => jd_le _)).trans f6.symm
  have hz : oZ y5 := s2.2.2.2.2.2.2.2.2.2
  by_cases c9 : tb2 = o4.2.2.2.2.1
  · rw [if_pos c9] at hO
    rw [if_pos (by rw [← t6, ← t4]; exact c9)] at hU
    obtain ⟨o5, e5, hO⟩ := cal_out hO
    unfold fX11_forget at e5
    subst e5
    exact hnew (by rw [hO]) (by rw [hU]) ⟨by rw [hO], by rw [hO], by rw [hO], by rw [hO]⟩ (by rw [hO]; exact hz) (by rw [hO]; exact hCI.1) ⟨by rw [hU], by rw [hU]⟩
  · rw [if_neg c9] at hO
    rw [if_neg (by rw [← t6, ← t4]; exact c9)] at hU
    exact hkeep (-5) (by rw [hO]) (by rw [hU]) ⟨by rw [hO], by rw [hO], by rw [hO]⟩ (by rw [hO]; exact hz) (by rw [hO]; exact hCI) ⟨by rw [hU], by rw [hU]⟩
theorem la_s (mi a1 a2 a3 a4 a5 a6 st kn rp rm rd rk tr le : Nat → Int32) (t : Int32) (z : Nat) (a b w37 w41 : Int32) (z1 z2 z3 z4 z5 z6 : Nat → Int32) : lfX12_later mi a1 a2 a3 a4 a5 a6 st kn rp rm rd rk tr le t (z + 1) a b w37 w41 z1 z2 z3 z4 z5 z6 = dfX12_later_22 mi a1 a2 a3 a4 a5 a6 st kn rp rm rd rk tr le t (lfX12_later mi a1 a2 a3 a4 a5 a6 st kn rp rm rd rk tr le t z) a b w37 w41 z1 z2 z3 z4 z5 z6 := rfl
theorem la_L {mi a1 a2 a3 a4 a5 a6 st kn rp rm rd rk tr le : Nat → Int32} {t w37 w41 : Int32} {z1 z2 z3 z4 z5 z6 : Nat → Int32} {n : Nat} {V : Nat → Nat} (hn : n ≤ 24) (h10 : mi 10 = nI n) (hv : ∀ j, j < n → z5 j = nI (V j)) (hV : ∀ j, V j ≤ 3) : ∀ (k i z : Nat) (a : Int32), i + k = n → k < z → (∀ j, j < 32 → bt a j = decide (j < i ∧ V j = 0 ∧ fX12_isKnown st kn (nI j) t = 0)) → ∃ R : Int32, lfX12_later mi a1 a2 a3 a4 a5 a6 st kn rp rm rd rk tr le t z a (nI i) w37 w41 z1 z2 z3 z4 z5 z6 = (R, w37, w41, z1, z2, z3, z4, z5, z6) ∧ ∀ j, j < 32 → bt R j = decide (j < n ∧ V j = 0 ∧ fX12_isKnown st kn (nI j) t = 0) := by
  intro k
  induction k with
  | zero =>
    intro i z a hi hz ha
    obtain ⟨z, rfl⟩ : ∃ y, z = y + 1 := ⟨z - 1, by omega⟩
    have e : i = n := by omega
    subst e
    refine ⟨a, ?_, ha⟩
    rw [la_s]
    unfold dfX12_later_22
    rw [if_pos (by rw [h10]; exact Int32.le_refl _)]
  | succ k ih =>
    intro i z a hi hz ha
    obtain ⟨z, rfl⟩ : ∃ y, z = y + 1 := ⟨z - 1, by omega⟩
    have hVi := hV i
    have hno : ¬ (V i = 0 ∧ fX12_isKnown st kn (nI i) t = 0) → ∀ j, j < 32 → bt (a ||| 0) j = decide (j < i + 1 ∧ V j = 0 ∧ fX12_isKnown st kn (nI j) t = 0) := by
      intro c j hj
      rw [b_or, ha j hj, b_0]
      by_cases e : j = i
      · subst e
        simp [c]
      · have e2 : j < i + 1 ↔ j < i := by omega
        simp [e2]
    rw [la_s]
    unfold dfX12_later_22 bfX12_later_55 bfX12_later_56
    rw [if_neg (fun w => by rw [h10] at w; have := (nI_leI (by omega) (by omega)).1 w; omega), nI_clamp (show i < 2 ^ 31 by omega), hv i (by omega), cal_b, nI_1]
    by_cases c : V i = 0
    · rw [if_pos (by rw [c]; rfl)]
      by_cases c2 : fX12_isKnown st kn (nI i) t = 0
      · rw [if_pos c2]
        refine ih (i + 1) z _ (by omega) (by omega) (fun j hj => ?_)
        rw [b_or, ha j hj, sh_1 i (by omega) j hj]
        by_cases e : j = i
        · subst e
          simp [c, c2]
        · have e2 : j < i + 1 ↔ j < i := by omega
          simp [e, e2]
      · rw [if_neg c2]
        exact ih (i + 1) z _ (by omega) (by omega) (hno (fun q => c2 q.2))
    · rw [if_neg (nI_ne0 (by omega) (by omega))]
      exact ih (i + 1) z _ (by omega) (by omega) (hno (fun q => c q.1))
theorem r3_later {vx : Nat → Int32} {fx : Nat → Nat → Int32} {gx : Nat → Nat → Int64} {mi : Nat → Int32} {fm : Nat → Nat → Int32} (hM : MIp mi fm) (h : REL3 vx fx mi fm) {r r2 : Int32} {v : Nat → Int32} {f : Nat → Nat → Int32} {g : Nat → Nat → Int64} {mi2 : Nat → Int32} {fm2 : Nat → Nat → Int32} {p1 : Int32} (hx : (r, v, f, g) = xs_later vx fx gx p1) (hm : (r2, mi2, fm2) = ms_later mi fm p1) : REL3 v f mi2 fm2 ∧ r = r2 := by
  obtain ⟨O, hO⟩ : ∃ O, O = fX11_later (vx 1) (vx 2) (vx 3) (vx 44) (vx 45) (fx 3) (fx 4) (gx 0) (fx 5) (vx 46) (vx 47) (vx 48) (fx 6) (fx 7) (vx 11) (vx 12) (vx 13) (vx 15) (vx 16) (vx 17) (vx 19) (fx 22) (fx 23) (fx 24) (fx 25) (fx 26) (fx 27) (fx 28) (fx 29) p1 := ⟨_, rfl⟩
  obtain ⟨U, hU⟩ : ∃ U, U = fX12_later mi (fm 14) (fm 15) (fm 16) (fm 17) (fm 18) (fm 19) (fm 4) (fm 7) (fm 2) (fm 5) (fm 6) (fm 3) (fm 0) (fm 1) p1 := ⟨_, rfl⟩
  have hx : (r, v, f, g) = xt15 vx fx gx O := by
    rw [hx, hO]
    rfl
  have hm : (r2, mi2, fm2) = mt9 mi fm U := by
    rw [hm, hU]
    rfl
  obtain ⟨k1, k2⟩ := k9_of hm
  unfold fX11_later bfX11_later_34 at hO
  unfold fX12_later  at hU
  obtain ⟨o1, e1, hO⟩ := cal_out hO
  obtain ⟨u1, f1, hU⟩ := cal_out hU
  obtain ⟨a1, c1⟩ := tm_of h p1
  rw [a1, ← f1] at e1
  rw [← f1] at c1
  rcases c1 with c1 | ⟨c1, n3, _, _⟩
  · rw [if_pos (e1.trans c1)] at hO
    rw [if_pos c1] at hU
    refine e15 (s := -2) h hx ?_ k1 (by rw [hO]) (by rw [k2, hU])
    rw [hO]
    exact h.2.2.2.2.1
  rw [if_neg (by rw [e1, c1]; decide)] at hO
  rw [if_neg (by rw [c1]; decide)] at hU
  obtain ⟨o2, e2, hO⟩ := cal_out hO
  obtain ⟨hCT, hCI⟩ := cq_of hM h n3 999 e2
  obtain ⟨o3, e3, hO⟩ := cal_out hO
  obtain ⟨u2, f2, hU⟩ := cal_out hU
  obtain ⟨must, least, pin, ways, ve, row, rmn, g1, g2⟩ := qr_of hM h n3 mi (fun _ _ => rfl) ⟨rfl, rfl, rfl⟩ (fm 14) (fm 15) (fm 16) (fm 17) (fm 18) (fm 19) 999
  rw [g1] at f2
  subst f2
  dsimp only at hU
  obtain ⟨_, _, _, k10, _, _, _, _, r9⟩ := rd_of hM h n3
  obtain ⟨⟨_, _, _, k4⟩, ⟨_, _, _, _, _, _, _, b8⟩, _⟩ := ad_of hM h n3
  obtain ⟨R, l1, l2⟩ := la_L (mi := mi) (a1 := fm 14) (a2 := fm 15) (a3 := fm 16) (a4 := fm 17) (a5 := fm 18) (a6 := fm 19) (st := fm 4) (kn := fm 7) (rp := fm 2) (rm := fm 5) (rd := fm 6) (rk := fm 3) (tr := fm 0) (le := fm 1) (t := p1) (w37 := 0) (w41 := rmn) (z1 := must) (z2 := least) (z3 := pin) (z4 := ways) (z5 := ve) (z6 := row) b8 k10 g2.2.2.2.2.1 (fun j => jd_le _) (aN vx) 0 1000000000 0 (by omega) (by omega) (fun j hj => by rw [b_0]; simp)
  rw [nI_0] at l1
  rw [l1] at hU
  have hb : o2.2.2.2.2.1 &&& (o3 ^^^ (-1 : Int32)) = R := by
    refine b_ext (fun j hj => ?_)
    rw [b_and, b_xor, b_m1 j hj, hCT.2.1 j hj, l2 j hj, e3, k4, kk_eq b8 j hj]
    by_cases c : j < aN vx
    · have e : fX12_isKnown (fm 4) (fm 7) (nI j) p1 = fX7_isKnownBy (fx 28 j) (fx 29 j) p1 := by
        rw [← kn_eq, nI_clamp (by omega), (r9 j c).1, (r9 j c).2]
      rw [e]
      unfold kC
      by_cases c2 : fX7_isKnownBy (fx 28 j) (fx 29 j) p1 = 0
      · simp [c, c2]
      · simp [c, c2]
    · simp [c]
  refine e15 (s := R) h hx ?_ k1 ?_ ?_
  · rw [hO]
    exact hCI
  · rw [hO]
    exact hb
  · rw [k2, hU]
def dtF (b : Nat → Nat) (p : Nat) : Nat → Nat → Int32
  | 0, _ => -1
  | k + 1, i => if b (i + 1) ≤ p then dtF b p k (i + 1) else (((100 : Int32) * nI i + nI p) - nI (b i)) + 1
theorem dx_s (x_courtStands : Int32) (x_courtNews : Int32) (x_tallyStands : Int32) (c_queueLength : Int32) (c_takenBits : Int32) (fve : Nat → Int32) (fqu : Nat → Int32) (ftu : Nat → Int64) (fcb : Nat → Int32) (fmonths : Int32) (ffull : Int32) (flean : Int32) (ffal : Nat → Int32) (ffon : Nat → Int32) (amonths : Int32) (afull : Int32) (alean : Int32) (ahasMoon : Int32) (amoonStart : Int32) (amoonStep : Int32) (areportCount : Int32) (p_name : Nat → Int32) (p_trust : Nat → Int32) (r_place : Nat → Int32) (r_kind : Nat → Int32) (r_month : Nat → Int32) (r_day : Nat → Int32) (r_known : Nat → Int32) (r_struck : Nat → Int32) (p1 : Int32) (p2 : Int32) (z : Nat) (v4 : Int32) (w0_12 : Int32) (w0_13 : Int32) (w0_14 : Int32) (w1_5 : Int32) (w1_6 : Int32) (w6_0 : Int32) (w6_1 : Int32) (w6_2 : Int32) (z2 : Nat → Int32) (z3 : Nat → Int32) (z4 : Nat → Int64) (z5 : Nat → Int32) (z7 : Nat → Int32) (z8 : Nat → Int32) : lfX11_date x_courtStands x_courtNews x_tallyStands c_queueLength c_takenBits fve fqu ftu fcb fmonths ffull flean ffal ffon amonths afull alean ahasMoon amoonStart amoonStep areportCount p_name p_trust r_place r_kind r_month r_day r_known r_struck p1 p2 (z + 1) v4 w0_12 w0_13 w0_14 w1_5 w1_6 w6_0 w6_1 w6_2 z2 z3 z4 z5 z7 z8 = dfX11_date_34 x_courtStands x_courtNews x_tallyStands c_queueLength c_takenBits fve fqu ftu fcb fmonths ffull flean ffal ffon amonths afull alean ahasMoon amoonStart amoonStep areportCount p_name p_trust r_place r_kind r_month r_day r_known r_struck p1 p2 (lfX11_date x_courtStands x_courtNews x_tallyStands c_queueLength c_takenBits fve fqu ftu fcb fmonths ffull flean ffal ffon amonths afull alean ahasMoon amoonStart amoonStep areportCount p_name p_trust r_place r_kind r_month r_day r_known r_struck p1 p2 z) v4 w0_12 w0_13 w0_14 w1_5 w1_6 w6_0 w6_1 w6_2 z2 z3 z4 z5 z7 z8 := rfl
theorem dm_s (mi : Nat → Int32) (fm_must : Nat → Int32) (fm_least : Nat → Int32) (fm_pin : Nat → Int32) (fm_ways : Nat → Int32) (fm_verdict : Nat → Int32) (fm_row : Nat → Int32) (fm_struck : Nat → Int32) (fm_reportKnown : Nat → Int32) (fm_reportPlace : Nat → Int32) (fm_reportMonth : Nat → Int32) (fm_reportDay : Nat → Int32) (fm_reportKind : Nat → Int32) (fm_trust : Nat → Int32) (fm_letter : Nat → Int32) (fm_official : Nat → Int32) (p1 : Int32) (p2 : Int32) (z : Nat) (v3 : Int32) (w0_37 : Int32) (w0_41 : Int32) (z1 : Nat → Int32) (z2 : Nat → Int32) (z3 : Nat → Int32) (z4 : Nat → Int32) (z5 : Nat → Int32) (z6 : Nat → Int32) (z15 : Nat → Int32) : lfX12_date mi fm_must fm_least fm_pin fm_ways fm_verdict fm_row fm_struck fm_reportKnown fm_reportPlace fm_reportMonth fm_reportDay fm_reportKind fm_trust fm_letter fm_official p1 p2 (z + 1) v3 w0_37 w0_41 z1 z2 z3 z4 z5 z6 z15 = dfX12_date_30 mi fm_must fm_least fm_pin fm_ways fm_verdict fm_row fm_struck fm_reportKnown fm_reportPlace fm_reportMonth fm_reportDay fm_reportKind fm_trust fm_letter fm_official p1 p2 (lfX12_date mi fm_must fm_least fm_pin fm_ways fm_verdict fm_row fm_struck fm_reportKnown fm_reportPlace fm_reportMonth fm_reportDay fm_reportKind fm_trust fm_letter fm_official p1 p2 z) v3 w0_37 w0_41 z1 z2 z3 z4 z5 z6 z15 := rfl
theorem dx_L {x_courtStands : Int32} {x_courtNews : Int32} {x_tallyStands : Int32} {c_queueLength : Int32} {c_takenBits : Int32} {fve : Nat → Int32} {fqu : Nat → Int32} {ftu : Nat → Int64} {fcb : Nat → Int32} {fmonths : Int32} {ffull : Int32} {flean : Int32} {ffal : Nat → Int32} {ffon : Nat → Int32} {amonths : Int32} {afull : Int32} {alean : Int32} {ahasMoon : Int32} {amoonStart : Int32} {amoonStep : Int32} {areportCount : Int32} {p_name : Nat → Int32} {p_trust : Nat → Int32} {r_place : Nat → Int32} {r_kind : Nat → Int32} {r_month : Nat → Int32} {r_day : Nat → Int32} {r_known : Nat → Int32} {r_struck : Nat → Int32} {p1 : Int32} {p2 : Int32} {w0_12 : Int32} {w0_13 : Int32} {w0_14 : Int32} {w1_5 : Int32} {w1_6 : Int32} {w6_0 : Int32} {w6_1 : Int32} {w6_2 : Int32} {z2 : Nat → Int32} {z3 : Nat → Int32} {z4 : Nat → Int64} {z5 : Nat → Int32} {z7 : Nat → Int32} {z8 : Nat → Int32} {M p : Nat} {b : Nat → Nat} (hM : M ≤ 24) (hm : amonths = nI M) (hp : p2 = nI p) (hp9 : p ≤ 999) (hb : ∀ j, j ≤ M → z5 j = nI (b j)) (hb9 : ∀ j, j ≤ M → b j ≤ 2000) : ∀ k i z : Nat, i + k = M → k < z → lfX11_date x_courtStands x_courtNews x_tallyStands c_queueLength c_takenBits fve fqu ftu fcb fmonths ffull flean ffal ffon amonths afull alean ahasMoon amoonStart amoonStep areportCount p_name p_trust r_place r_kind r_month r_day r_known r_struck p1 p2 z (nI i) w0_12 w0_13 w0_14 w1_5 w1_6 w6_0 w6_1 w6_2 z2 z3 z4 z5 z7 z8 = (dtF b p k i, w0_12, w0_13, w0_14, w1_5, w1_6, w6_0, w6_1, w6_2, z2, z3, z4, z5, z7, z8) := by
  intro k
  induction k with
  | zero =>
    intro i z hi hz
    obtain ⟨z, rfl⟩ : ∃ y, z = y + 1 := ⟨z - 1, by omega⟩
    have e : i = M := by omega
    subst e
    rw [dx_s]
    unfold dfX11_date_34
    rw [if_pos (by rw [hm]; exact Int32.le_refl _), dtF]
  | succ k ih =>
    intro i z hi hz
    obtain ⟨z, rfl⟩ : ∃ y, z = y + 1 := ⟨z - 1, by omega⟩
    have hb1 := hb9 (i + 1) (by omega)
    rw [dx_s]
    unfold dfX11_date_34
    rw [if_neg (fun w => by rw [hm] at w; have := (nI_leI (by omega) (by omega)).1 w; omega), nI_1, nI_clamp (show i + 1 < 2 ^ 31 by omega), nI_clamp (show i < 2 ^ 31 by omega), hb (i + 1) (by omega), hb i (by omega), hp, dtF]
    by_cases c : b (i + 1) ≤ p
    · rw [if_pos ((nI_leI (by omega) (by omega)).2 c), if_pos c]
      rw [← hp]
      exact ih (i + 1) z (by omega) (by omega)
    · rw [if_neg (fun w => c ((nI_leI (by omega) (by omega)).1 w)), if_neg c]
theorem dm_L {mi : Nat → Int32} {fm_must : Nat → Int32} {fm_least : Nat → Int32} {fm_pin : Nat → Int32} {fm_ways : Nat → Int32} {fm_verdict : Nat → Int32} {fm_row : Nat → Int32} {fm_struck : Nat → Int32} {fm_reportKnown : Nat → Int32} {fm_reportPlace : Nat → Int32} {fm_reportMonth : Nat → Int32} {fm_reportDay : Nat → Int32} {fm_reportKind : Nat → Int32} {fm_trust : Nat → Int32} {fm_letter : Nat → Int32} {fm_official : Nat → Int32} {p1 : Int32} {p2 : Int32} {w0_37 : Int32} {w0_41 : Int32} {z1 : Nat → Int32} {z2 : Nat → Int32} {z3 : Nat → Int32} {z4 : Nat → Int32} {z5 : Nat → Int32} {z6 : Nat → Int32} {z15 : Nat → Int32} {M p : Nat} {b : Nat → Nat} (hM : M ≤ 24) (hm : mi 0 = nI M) (hp : p2 = nI p) (hp9 : p ≤ 999) (hb : ∀ j, j ≤ M → z15 j = nI (b j)) (hb9 : ∀ j, j ≤ M → b j ≤ 2000) (hb1 : ∀ j, 1 ≤ b (j + 1)) : ∀ k i z : Nat, i + k = M → k < z → b i ≤ p → lfX12_date mi fm_must fm_least fm_pin fm_ways fm_verdict fm_row fm_struck fm_reportKnown fm_reportPlace fm_reportMonth fm_reportDay fm_reportKind fm_trust fm_letter fm_official p1 p2 z (nI i) w0_37 w0_41 z1 z2 z3 z4 z5 z6 z15 = (dtF b p k i, w0_37, w0_41, z1, z2, z3, z4, z5, z6, z15) := by
  intro k
  induction k with
  | zero =>
    intro i z hi hz hbi
    obtain ⟨z, rfl⟩ : ∃ y, z = y + 1 := ⟨z - 1, by omega⟩
    have e : i = M := by omega
    subst e
    rw [dm_s]
    unfold dfX12_date_30
    rw [if_pos (by rw [hm]; exact Int32.le_refl _), dtF]
  | succ k ih =>
    intro i z hi hz hbi
    obtain ⟨z, rfl⟩ : ∃ y, z = y + 1 := ⟨z - 1, by omega⟩
    have h9 := hb9 (i + 1) (by omega)
    have h8 := hb9 i (by omega)
    obtain ⟨y, hy⟩ : ∃ y, b (i + 1) = y + 1 := ⟨b (i + 1) - 1, by have := hb1 i; omega⟩
    have hin : fX12_in (nI p).toInt64 (nI (b i)).toInt64 (nI y).toInt64 = if b (i + 1) ≤ p then 0 else 1 := by
      rw [pr_in, nI_toInt (by omega), nI_toInt (by omega), nI_toInt (by omega)]
      by_cases c : b (i + 1) ≤ p
      · rw [if_neg (by omega), if_pos c]
      · rw [if_pos (by omega), if_neg c]
    rw [dm_s]
    unfold dfX12_date_30
    rw [if_neg (fun w => by rw [hm] at w; have := (nI_leI (by omega) (by omega)).1 w; omega), nI_1, nI_clamp (show i + 1 < 2 ^ 31 by omega), nI_clamp (show i < 2 ^ 31 by omega), hb (i + 1) (by omega), hb i (by omega), hp, cal_b, hy, nI_pred, hin, dtF]
    by_cases c : b (i + 1) ≤ p
    · rw [if_pos c, if_pos rfl, if_pos c]
      rw [← hp]
      exact ih (i + 1) z (by omega) (by omega) c
    · rw [if_neg c, if_neg (by decide), if_neg c]
theorem dy_of (p : Int32) : (p < 0 ∧ fX12_in p.toInt64 (0 : Int64) (999 : Int64) = 0) ∨ (¬ p < 0 ∧ ¬ p ≤ 999 ∧ fX12_in p.toInt64 (0 : Int64) (999 : Int64) = 0) ∨ (¬ p < 0 ∧ p ≤ 999 ∧ fX12_in p.toInt64 (0 : Int64) (999 : Int64) = 1 ∧ ∃ k : Nat, k ≤ 999 ∧ p = nI k) := by
  have e9 : (999 : Int32).toInt = 999 := by decide
  rw [dr_in, show (0 : Int64).toInt = 0 by decide, show (999 : Int64).toInt = 999 by decide, Int32.lt_iff_toInt_lt, Int32.le_iff_toInt_le, z32, e9]
  by_cases c : p.toInt < 0
  · exact Or.inl ⟨c, if_neg (by omega)⟩
  · by_cases c2 : p.toInt ≤ 999
    · obtain ⟨q1, q2⟩ := clN (x := p) (by omega)
      exact Or.inr (Or.inr ⟨c, c2, if_pos (by omega), _, by omega, q1⟩)
    · exact Or.inr (Or.inl ⟨c, c2, if_neg (by omega)⟩)
theorem r3_date {vx : Nat → Int32} {fx : Nat → Nat → Int32} {gx : Nat → Nat → Int64} {mi : Nat → Int32} {fm : Nat → Nat → Int32} (hM : MIp mi fm) (h : REL3 vx fx mi fm) {r r2 : Int32} {v : Nat → Int32} {f : Nat → Nat → Int32} {g : Nat → Nat → Int64} {mi2 : Nat → Int32} {fm2 : Nat → Nat → Int32} {p1 p2 : Int32} (hx : (r, v, f, g) = xs_date vx fx gx p1 p2) (hm : (r2, mi2, fm2) = ms_date mi fm p1 p2) : REL3 v f mi2 fm2 ∧ r = r2 := by
  obtain ⟨O, hO⟩ : ∃ O, O = fX11_date (vx 1) (vx 2) (vx 3) (vx 44) (vx 45) (fx 3) (fx 4) (gx 0) (fx 5) (vx 46) (vx 47) (vx 48) (fx 6) (fx 7) (vx 11) (vx 12) (vx 13) (vx 15) (vx 16) (vx 17) (vx 19) (fx 22) (fx 23) (fx 24) (fx 25) (fx 26) (fx 27) (fx 28) (fx 29) p1 p2 := ⟨_, rfl⟩
  obtain ⟨U, hU⟩ : ∃ U, U = fX12_date mi (fm 14) (fm 15) (fm 16) (fm 17) (fm 18) (fm 19) (fm 4) (fm 7) (fm 2) (fm 5) (fm 6) (fm 3) (fm 0) (fm 1) (fm 20) p1 p2 := ⟨_, rfl⟩
  have hx : (r, v, f, g) = xt15 vx fx gx O := by
    rw [hx, hO]
    rfl
  have hm : (r2, mi2, fm2) = mt10 mi fm U := by
    rw [hm, hU]
    rfl
  obtain ⟨k1, k2⟩ := k10_of hm
  unfold fX11_date bfX11_date_19 at hO
  unfold fX12_date bfX12_date_20 at hU
  obtain ⟨o1, e1, hO⟩ := cal_out hO
  obtain ⟨u1, f1, hU⟩ := cal_out hU
  obtain ⟨a1, c1⟩ := tm_of h p1
  rw [a1, ← f1] at e1
  rw [← f1] at c1
  rcases c1 with c1 | ⟨c1, n3, _, _⟩
  · rw [if_pos (e1.trans c1)] at hO
    rw [if_pos c1] at hU
    refine e15 (s := -2) h hx ?_ k1 (by rw [hO]) (by rw [k2, hU])
    rw [hO]
    exact h.2.2.2.2.1
  rw [if_neg (by rw [e1, c1]; decide)] at hO
  rw [if_neg (by rw [c1]; decide)] at hU
  obtain ⟨u2, f2, hU⟩ := cal_out hU
  rcases dy_of p2 with ⟨c2, c3⟩ | ⟨c2, c4, c3⟩ | ⟨c2, c4, c3, p, hp9, hp⟩
  · rw [if_pos c2] at hO
    rw [if_pos (f2.trans c3)] at hU
    refine e15 (s := -2) h hx ?_ k1 (by rw [hO]) (by rw [k2, hU])
    rw [hO]
    exact h.2.2.2.2.1
  · rw [if_neg c2, if_neg c4] at hO
    rw [if_pos (f2.trans c3)] at hU
    refine e15 (s := -2) h hx ?_ k1 (by rw [hO]) (by rw [k2, hU])
    rw [hO]
    exact h.2.2.2.2.1
  rw [if_neg c2, if_pos c4] at hO
  rw [if_neg (by rw [f2, c3]; decide)] at hU
  obtain ⟨o2, e2, hO⟩ := cal_out hO
  obtain ⟨hCT, hCI⟩ := cq_of hM h n3 p1 e2
  obtain ⟨u3, f3, hU⟩ := cal_out hU
  obtain ⟨must, least, pin, ways, ve, row, of, rmn, g1, g2, g3⟩ := qo_of hM h n3 mi (fun _ _ => rfl) ⟨rfl, rfl, rfl⟩ (fm 14) (fm 15) (fm 16) (fm 17) (fm 18) (fm 19) (fm 20) p1
  rw [g1] at f3
  subst f3
  dsimp only at hU
  obtain ⟨w1, w2⟩ := bg_facts hM h n3 p1
  obtain ⟨⟨q1, _⟩, ⟨_, d2, _⟩, _⟩ := ad_of hM h n3
  obtain ⟨k0, _⟩ := rd_of hM h n3
  have hO := hO.trans (dx_L (M := aM vx) (p := p) (b := aBg vx fx p1) d2 q1 hp hp9 hCT.2.2.2.2.2.2.2.1 (fun j hj => by have := w1 j hj; omega) (aM vx) 0 1000000000 (by omega) (by omega))
  have hU := hU.trans (dm_L (M := aM vx) (p := p) (b := aBg vx fx p1) d2 k0 hp hp9 g3 (fun j hj => by have := w1 j hj; omega) (fun j => by have := w2 j; omega) (aM vx) 0 1000000000 (by omega) (by omega) (Nat.zero_le _))
  refine e15 (s := dtF (aBg vx fx p1) p (aM vx) 0) h hx ?_ k1 ?_ ?_
  · rw [hO]
    exact hCI
  · rw [hO]
  · rw [k2, hU]
