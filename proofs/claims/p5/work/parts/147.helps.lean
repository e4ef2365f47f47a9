theorem bg_of {vx : Nat → Int32} {fx : Nat → Nat → Int32} {mi : Nat → Int32} {fm : Nat → Nat → Int32} (h : REL3 vx fx mi fm) (h3 : ¬ mi 3 = 0) (p : Int32) : fX11_hasMonth (vx 11) p (0 : Int32) (vx 11) = fX12_isBegin mi p ∧ (fX12_isBegin mi p = 0 ∨ (fX12_isBegin mi p = 1 ∧ p.toNatClampNeg ≤ aM vx ∧ p = nI p.toNatClampNeg)) := by
  obtain ⟨m1, m2, m3, m4⟩ := dat_M h.1.2
  have w1 : vx 11 = mi 0 := h.1.2.1.1.1
  have hM : 0 < (mi 0).toInt := m1.2 h3
  have eM := clN (x := vx 11) (by rw [w1]; omega)
  have eM2 : (aM vx : Int) = (mi 0).toInt := by rw [← w1]; exact eM.2
  unfold fX12_isBegin
  rw [cal_b, dr_in, z64, Int32.toInt_toInt64, w1, dx_month, z32]
  by_cases c : 0 ≤ p.toInt ∧ p.toInt ≤ (mi 0).toInt
  · rw [if_pos c, if_pos ⟨hM, c⟩]
    have e := clN c.1
    exact ⟨rfl, Or.inr ⟨rfl, by omega, e.1⟩⟩
  · rw [if_neg c, if_neg (fun q => c q.2)]
    exact ⟨rfl, Or.inl rfl⟩
theorem mo_of {vx : Nat → Int32} {fx : Nat → Nat → Int32} {mi : Nat → Int32} {fm : Nat → Nat → Int32} (h : REL3 vx fx mi fm) (h3 : ¬ mi 3 = 0) (p : Int32) : fX11_hasMonth (vx 11) p (0 : Int32) (vx 11 - (1 : Int32)) = fX12_isMonth mi p ∧ (fX12_isMonth mi p = 0 ∨ (fX12_isMonth mi p = 1 ∧ p.toNatClampNeg + 1 ≤ aM vx ∧ p = nI p.toNatClampNeg)) := by
  obtain ⟨m1, m2, m3, m4⟩ := dat_M h.1.2
  have w1 : vx 11 = mi 0 := h.1.2.1.1.1
  have hM : 0 < (mi 0).toInt := m1.2 h3
  have eM := clN (x := vx 11) (by rw [w1]; omega)
  have eM2 : (aM vx : Int) = (mi 0).toInt := by rw [← w1]; exact eM.2
  have k1 : (1 : Int32).toInt = 1 := by decide
  have e0 : (mi 0 - (1 : Int32)).toInt = (mi 0).toInt - 1 := by
    have q := gi_subI (z := mi 0 - (1 : Int32)) rfl (by rw [k1]; omega) (by rw [k1]; omega)
    rw [q, k1]
  unfold fX12_isMonth
  rw [cal_b, dr_in, z64, Int32.toInt_toInt64, w1, dx_month, z32, e0]
  by_cases c : 0 ≤ p.toInt ∧ p.toInt ≤ (mi 0).toInt - 1
  · rw [if_pos c, if_pos ⟨hM, c⟩]
    have e := clN c.1
    exact ⟨rfl, Or.inr ⟨rfl, by omega, e.1⟩⟩
  · rw [if_neg c, if_neg (fun q => c q.2)]
    exact ⟨rfl, Or.inl rfl⟩
theorem tk_s (mi ve : Nat → Int32) (z : Nat) (a b : Int32) : lfX12_takenBits mi ve (z + 1) a b = dfX12_takenBits_4 mi ve (lfX12_takenBits mi ve z) a b := rfl
theorem tk_L {mi ve : Nat → Int32} {n : Nat} {V : Nat → Nat} (hn : n ≤ 24) (h10 : mi 10 = nI n) (hv : ∀ j, j < n → ve j = nI (V j)) (hV : ∀ j, V j ≤ 3) : ∀ (k i z : Nat) (a : Int32), i + k = n → k < z → (∀ j, j < 32 → bt a j = decide (j < i ∧ V j = 0)) → ∀ j, j < 32 → bt (lfX12_takenBits mi ve z a (nI i)) j = decide (j < n ∧ V j = 0) := by
  intro k
  induction k with
  | zero =>
    intro i z a hi hz ha j hj
    obtain ⟨z, rfl⟩ : ∃ y, z = y + 1 := ⟨z - 1, by omega⟩
    have e : i = n := by omega
    subst e
    rw [tk_s]
    unfold dfX12_takenBits_4
    rw [if_pos (by rw [h10]; exact Int32.le_refl _)]
    exact ha j hj
  | succ k ih =>
    intro i z a hi hz ha j hj
    obtain ⟨z, rfl⟩ : ∃ y, z = y + 1 := ⟨z - 1, by omega⟩
    have hVi := hV i
    rw [tk_s]
    unfold dfX12_takenBits_4 bfX12_takenBits_29
    rw [if_neg (fun w => by rw [h10] at w; have := (nI_leI (by omega) (by omega)).1 w; omega), nI_clamp (by omega), hv i (by omega), nI_1]
    by_cases c : V i = 0
    · rw [if_pos (by rw [c]; rfl)]
      refine ih (i + 1) z _ (by omega) (by omega) (fun j hj => ?_) j hj
      rw [b_or, ha j hj, sh_1 i (by omega) j hj]
      by_cases e : j = i
      · simp [e, c]
      · have e2 : j < i + 1 ↔ j < i := by omega
        simp [e, e2]
    · rw [if_neg (nI_ne0 (by omega) (by omega))]
      refine ih (i + 1) z _ (by omega) (by omega) (fun j hj => ?_) j hj
      rw [b_or, ha j hj, b_0]
      by_cases e : j = i
      · simp [e, c]
      · have e2 : j < i + 1 ↔ j < i := by omega
        simp [e2]
theorem tb_same {vx : Nat → Int32} {fx : Nat → Nat → Int32} {mi : Nat → Int32} {fm : Nat → Nat → Int32} (hM : MIp mi fm) (h : REL3 vx fx mi fm) (h3 : ¬ mi 3 = 0) {mj ve : Nat → Int32} {tb t : Int32} (hj : ∀ k, k ≤ 36 → mj k = mi k) (h1 : tbE tb (aN vx) (aJ vx fx t).2) (h2 : ∀ j, j < aN vx → ve j = nI ((aJ vx fx t).2 j)) : tb = fX12_takenBits mj ve := by
  obtain ⟨_, _, _, k10, _⟩ := rd_of hM h h3
  obtain ⟨_, ⟨_, _, _, _, _, _, _, b8⟩, _⟩ := ad_of hM h h3
  have hj10 := (hj 10 (by omega)).trans k10
  refine b_ext (fun j hj => ?_)
  unfold fX12_takenBits
  have q := tk_L (mi := mj) (ve := ve) (V := (aJ vx fx t).2) b8 hj10 h2 (fun j => jd_le _) (aN vx) 0 1000000000 0 (by omega) (by omega) (fun j hj => by rw [b_0]; simp) j hj
  rw [nI_0] at q
  rw [q, h1 j hj]
theorem qo_of {vx : Nat → Int32} {fx : Nat → Nat → Int32} {mi : Nat → Int32} {fm : Nat → Nat → Int32} (hM : MIp mi fm) (h : REL3 vx fx mi fm) (h3 : ¬ mi 3 = 0) (mj : Nat → Int32) (hj : ∀ k, k ≤ 36 → mj k = mi k) (hj2 : mj 42 = mi 42 ∧ mj 43 = mi 43 ∧ mj 45 = mi 45) (must least pin ways ve row off : Nat → Int32) (t : Int32) : ∃ (must' least' pin' ways' ve' row' of' : Nat → Int32) (rmn : Int32), fX12_officialBy mj must least pin ways ve row (fm 4) (fm 7) (fm 2) (fm 5) (fm 6) (fm 3) (fm 0) (fm 1) off t = (0, rmn, must', least', pin', ways', ve', row', of') ∧ RTx vx fx t 0 rmn must' least' pin' ve' row' ∧ ∀ j, j ≤ aM vx → of' j = nI (29 * j + (ofs (aF vx) (aL vx) (aM vx) (aJ vx fx t).1 j).1) := by
  obtain ⟨must', least', pin', ways', ve', row', rmn, g1, g2⟩ := qr_of hM h h3 mj hj hj2 must least pin ways ve row t
  obtain ⟨k0, k1, k2, _⟩ := rd_of hM h h3
  obtain ⟨_, ⟨b1, b2, b3, b4, b5, b6, b7, b8⟩, _⟩ := ad_of hM h h3
  obtain ⟨wt, of', l1, l2⟩ := lo_eq (mi := upd (upd mj 37 0) 41 rmn) (must := must') (least := least') (pin := pin') (ways := ways') (of := off) ((if_neg (by decide)).trans ((if_neg (by decide)).trans ((hj 0 (by omega)).trans k0))) ((if_neg (by decide)).trans ((if_neg (by decide)).trans ((hj 1 (by omega)).trans k1))) ((if_neg (by decide)).trans ((if_neg (by decide)).trans ((hj 2 (by omega)).trans k2))) ((if_neg (by decide)).trans (if_pos rfl)) b2 b4 b6 (jd_pos b3 b5 _) g2.2.2.1 g2.2.2.2.1
  refine ⟨must', least', pin', wt, ve', row', of', rmn, ?_, g2, l2⟩
  unfold fX12_officialBy
  rw [cal_b, g1, cal_b, l1]
