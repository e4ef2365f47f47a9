def nf (f : Nat → Int32) (j : Nat) : Nat := (f j).toNatClampNeg
theorem clN {x : Int32} (h : 0 ≤ x.toInt) : x = nI x.toNatClampNeg ∧ (x.toNatClampNeg : Int) = x.toInt := by
  obtain ⟨j, hj, rfl⟩ := nI_of (show ¬ x < 0 from fun q => absurd (i32lt.mp q) (by rw [z32]; omega))
  rw [nI_clamp hj, nI_toInt hj]
  exact ⟨rfl, rfl⟩
def MIp (mi : Nat → Int32) (fm : Nat → Nat → Int32) : Prop := ga (fm 6) 24 0 999 ∧ ga (fm 7) 24 0 999 ∧ ((mi 3).toInt = 0 ∨ (2 ≤ (mi 0).toInt ∧ (mi 0).toInt ≤ 24 ∧ 1 ≤ (mi 1).toInt ∧ (mi 1).toInt ≤ 5 ∧ 1 ≤ (mi 2).toInt ∧ (mi 2).toInt ≤ 5))
abbrev aM (vx : Nat → Int32) : Nat := (vx 11).toNatClampNeg
abbrev aF (vx : Nat → Int32) : Nat := (vx 12).toNatClampNeg
abbrev aL (vx : Nat → Int32) : Nat := (vx 13).toNatClampNeg
abbrev aN (vx : Nat → Int32) : Nat := (vx 19).toNatClampNeg
abbrev aP6 (vx : Nat → Int32) : Nat := (vx 18).toNatClampNeg
abbrev aLT (fx : Nat → Nat → Int32) : Nat → Nat → Bool := ltr (nf (fx 23)) (nf (fx 22)) (nf (fx 24)) (nf (fx 26)) (nf (fx 27)) (nf (fx 25))
def CIx (vx : Nat → Int32) (fx : Nat → Nat → Int32) : Prop := CI (aF vx) (aL vx) (aM vx) (aN vx) (vx 15) (vx 16) (vx 17) (nf (fx 25)) (nf (fx 26)) (nf (fx 27)) (aLT fx) (fx 28) (fx 29) (vx 1) (vx 2) (vx 44) (vx 45) (vx 46) (vx 47) (vx 48) (fx 3) (fx 4) (fx 5) (fx 6) (fx 7)
noncomputable abbrev aQL (vx : Nat → Int32) (fx : Nat → Nat → Int32) (t : Int32) : List Nat := lin (aLT fx) (kC (fx 28) (fx 29) t) (aN vx)
noncomputable abbrev aJ (vx : Nat → Int32) (fx : Nat → Nat → Int32) (t : Int32) : (Nat → Nat → Bool) × (Nat → Nat) := jd (aF vx) (aL vx) (aM vx) (vx 15) (vx 16) (vx 17) (nf (fx 25)) (nf (fx 26)) (nf (fx 27)) (aQL vx fx t)
noncomputable abbrev aBg (vx : Nat → Int32) (fx : Nat → Nat → Int32) (t : Int32) (m : Nat) : Nat := 29 * m + (ofs (aF vx) (aL vx) (aM vx) (aJ vx fx t).1 m).1
noncomputable def tE (n : Nat) (rn rs : Nat → Int32) : Nat → Int32
  | 0 => 0
  | e + 1 => fX0_newsBehind (nI n) rn rs (tE n rn rs e)
def HT (vx : Nat → Int32) (fx : Nat → Nat → Int32) (er : Int32) (si be : Nat → Int32) : Prop :=
  ∃ E : Nat, E ≤ 25 ∧ er = nI E ∧ (∀ e, e < E → (tE (aN vx) (fx 28) (fx 29) e).toInt ≤ 999 ∧ si e = tE (aN vx) (fx 28) (fx 29) e ∧ ∀ m, m ≤ aM vx → be (25 * e + m) = nI (aBg vx fx (tE (aN vx) (fx 28) (fx 29) e) m)) ∧ (E = 25 ∨ ¬ (tE (aN vx) (fx 28) (fx 29) E).toInt ≤ 999)
def HIx (vx : Nat → Int32) (fx : Nat → Nat → Int32) : Prop := vx 4 = 0 ∨ HT vx fx (vx 60) (fx 18) (fx 19)
def OUTx (vx : Nat → Int32) (fx : Nat → Nat → Int32) (mi : Nat → Int32) (fm : Nat → Nat → Int32) : Prop := vx 0 = mi 56 ∧ ∀ j : Nat, (j : Int) < (vx 0).toInt → fx 21 j = fm 23 j
def REL3 (vx : Nat → Int32) (fx : Nat → Nat → Int32) (mi : Nat → Int32) (fm : Nat → Nat → Int32) : Prop :=
  REL2 vx fx mi fm ∧ (vx 12 = mi 1 ∧ vx 13 = mi 2) ∧ (mi 42 = -1 ∧ mi 43 = -1 ∧ mi 45 = -1) ∧ (oZ (fx 2) ∧ oZ (fx 12)) ∧ CIx vx fx ∧ OUTx vx fx mi fm ∧ HIx vx fx
def ADx (vx : Nat → Int32) (fx : Nat → Nat → Int32) : Prop := AD (aM vx) (aF vx) (aL vx) (aN vx) (aP6 vx) (nf (fx 23)) (nf (fx 22)) (nf (fx 24)) (nf (fx 25)) (nf (fx 26)) (nf (fx 27)) (vx 11) (vx 12) (vx 13) (vx 19) (fx 22) (fx 23) (fx 24) (fx 25) (fx 26) (fx 27) (fx 28)
theorem ad_of {vx : Nat → Int32} {fx : Nat → Nat → Int32} {mi : Nat → Int32} {fm : Nat → Nat → Int32} (hM : MIp mi fm) (h : REL3 vx fx mi fm) (h3 : ¬ mi 3 = 0) : ADx vx fx := by
  obtain ⟨⟨_, ⟨⟨w1, _, _, _, _, _, _⟩, ⟨m, r, d, hm6, hr, hd, a1, a2, a3, a4, a5, a6, hN, hE1, hE2, hE3, hRg⟩, _⟩, _⟩, ⟨g1, g2⟩, _, _⟩ := h
  obtain ⟨hD6, hK7, hFL⟩ := hM
  obtain ⟨_, q2, q3, q4, _⟩ := hRg
  have n3 : ¬ (mi 3).toInt = 0 := fun q => h3 (Int32.toInt_inj.mp (by rw [z32]; exact q))
  rcases hFL with hFL | ⟨f1, f2, f3, f4, f5, f6⟩
  · exact absurd hFL n3
  have e11 := clN (x := vx 11) (by rw [w1]; omega)
  have e12 := clN (x := vx 12) (by rw [g1]; omega)
  have e13 := clN (x := vx 13) (by rw [g2]; omega)
  have v11 : (vx 11).toInt = (mi 0).toInt := by rw [w1]
  have v12 : (vx 12).toInt = (mi 1).toInt := by rw [g1]
  have v13 : (vx 13).toInt = (mi 2).toInt := by rw [g2]
  have e19 : (vx 19).toNatClampNeg = r := by rw [a3, nI_clamp (by omega)]
  have e18 : (vx 18).toNatClampNeg = m := by rw [a1, nI_clamp (by omega)]
  have hT : ∀ p, p < m → fx 23 p = nI (nf (fx 23) p) ∧ nf (fx 23) p ≤ 9 := by
    intro p hp
    have := clN (q2 p hp).1
    have := (q2 p hp).2
    exact ⟨(clN (q2 p hp).1).1, by unfold nf; omega⟩
  have hNm : ∀ p, p < m → fx 22 p = nI (nf (fx 22) p) ∧ nf (fx 22) p < 387420489 := by
    intro p hp
    obtain ⟨c1, c2⟩ := pcod_le (fun k => (fm 1 (6 * p + k)).toInt) 6 0 0
    rw [← (hN p hp).1] at c1 c2
    have c3 : (0 : Int) * 27 ^ 6 = 0 := by decide
    have c4 : ((0 : Int) + 1) * 27 ^ 6 = 387420489 := by decide
    rw [c3] at c1
    rw [c4] at c2
    have c5 := clN c1
    exact ⟨c5.1, by unfold nf; omega⟩
  have hRp : ∀ j, j < r → fx 24 j = nI (nf (fx 24) j) ∧ nf (fx 24) j < m := by
    intro j hj
    obtain ⟨q, hq, e⟩ := (hE2 j hj).2
    have e2 : nf (fx 24) j = q := by
      unfold nf
      rw [e, nI_clamp (by omega)]
    rw [e2]
    exact ⟨e, hq⟩
  have hRk : ∀ j, j < r → fx 25 j = nI (nf (fx 25) j) ∧ nf (fx 25) j ≤ 2 := by
    intro j hj
    unfold nf
    rcases (q4 j hj).1 with q | q | q
    · rw [q]; exact ⟨rfl, by decide⟩
    · rw [q]; exact ⟨rfl, by decide⟩
    · rw [q]; exact ⟨rfl, by decide⟩
  have hRm : ∀ j, j < r → fx 26 j = nI (nf (fx 26) j) ∧ 1 ≤ nf (fx 26) j ∧ nf (fx 26) j < (vx 11).toNatClampNeg := by
    intro j hj
    obtain ⟨_, b1, b2⟩ := q4 j hj
    have b3 := clN (x := fx 26 j) (by omega)
    exact ⟨b3.1, by unfold nf; omega, by unfold nf; omega⟩
  have hRd : ∀ j, j < r → fx 27 j = nI (nf (fx 27) j) ∧ nf (fx 27) j ≤ 999 := by
    intro j hj
    have b1 := hD6 j (by omega)
    rw [← (hE2 j hj).1.2.2.2.1] at b1
    have b3 := clN b1.1
    have b4 := b1.2
    exact ⟨b3.1, by unfold nf; omega⟩
  have hRn : ∀ j, j < r → 0 ≤ (fx 28 j).toInt := by
    intro j hj
    have b1 := hK7 j (by omega)
    rw [← (hE2 j hj).1.2.2.2.2.1] at b1
    exact b1.1
  unfold ADx AD aM aF aL aN aP6
  rw [e18, e19]
  refine ⟨⟨e11.1, e12.1, e13.1, a3⟩, ⟨by omega, by omega, by omega, by omega, by omega, by omega, hm6, hr⟩, ⟨fun p hp => ⟨(hT p hp).2, (hNm p hp).2⟩, fun p q hp hq he => q3 p q hp hq ?_, fun j hj => ⟨(hRp j hj).2, (hRk j hj).2, (hRm j hj).2.1, (hRm j hj).2.2, (hRd j hj).2⟩⟩, fun p hp => ⟨(hT p hp).1, (hNm p hp).1⟩, fun j hj => ⟨(hRp j hj).1, (hRk j hj).1, (hRm j hj).1, (hRd j hj).1⟩, hRn⟩
  rw [(hNm p hp).1, (hNm q hq).1, he]
theorem rd_of {vx : Nat → Int32} {fx : Nat → Nat → Int32} {mi : Nat → Int32} {fm : Nat → Nat → Int32} (hM : MIp mi fm) (h : REL3 vx fx mi fm) (h3 : ¬ mi 3 = 0) : mi 0 = nI (aM vx) ∧ mi 1 = nI (aF vx) ∧ mi 2 = nI (aL vx) ∧ mi 10 = nI (aN vx) ∧ (mi 4 = vx 15 ∧ mi 5 = vx 16 ∧ mi 6 = vx 17) ∧ NM (aP6 vx) (fx 22) (fm 1) ∧ (∀ p, p < aP6 vx → fm 0 p = nI (nf (fx 23) p)) ∧ (∀ j, j < aN vx → fm 2 j = nI (nf (fx 24) j) ∧ fm 3 j = nI (nf (fx 25) j) ∧ fm 5 j = nI (nf (fx 26) j) ∧ fm 6 j = nI (nf (fx 27) j)) ∧ ∀ j, j < aN vx → fm 7 j = fx 28 j ∧ fm 4 j = fx 29 j := by
  obtain ⟨⟨k1, k2, k3, k4⟩, _, _, k5, k6, _⟩ := ad_of hM h h3
  obtain ⟨⟨_, ⟨⟨w1, _, _, _, w5, w6, w7⟩, ⟨m, r, d, hm6, hr, hd, a1, a2, a3, a4, a5, a6, hN, hE1, hE2, hE3, hRg⟩, _⟩, _⟩, ⟨g1, g2⟩, _, _⟩ := h
  have e19 : aN vx = r := by
    show (vx 19).toNatClampNeg = r
    rw [a3, nI_clamp (by omega)]
  have e18 : aP6 vx = m := by
    show (vx 18).toNatClampNeg = m
    rw [a1, nI_clamp (by omega)]
  rw [e18] at k5
  rw [e19] at k6
  rw [e18, e19]
  refine ⟨w1.symm.trans k1, g1.symm.trans k2, g2.symm.trans k3, a4, ⟨w5.symm, w6.symm, w7.symm⟩, hN, fun p hp => ?_, fun j hj => ?_, fun j hj => ?_⟩
  · rw [← hE1 p hp]
    exact (k5 p hp).1
  · obtain ⟨b1, b2, b3, b4, _⟩ := (hE2 j hj).1
    obtain ⟨c1, c2, c3, c4⟩ := k6 j hj
    exact ⟨b1.symm.trans c1, b2.symm.trans c2, b3.symm.trans c3, b4.symm.trans c4⟩
  · obtain ⟨_, _, _, _, b5, b6⟩ := (hE2 j hj).1
    exact ⟨b5.symm, b6.symm⟩
theorem jj_of {vx : Nat → Int32} {fx : Nat → Nat → Int32} {gx : Nat → Nat → Int64} {mi : Nat → Int32} {fm : Nat → Nat → Int32} (hM : MIp mi fm) (h : REL3 vx fx mi fm) (h3 : ¬ mi 3 = 0) (t : Int32) : kR mi (fm 4) (fm 7) (fm 2) t = kR mi (fm 4) (fm 7) (fm 2) t ∧ lin (aLT fx) (kR mi (fm 4) (fm 7) (fm 2) t) (aN vx) = lin (aLT fx) (kC (fx 28) (fx 29) t) (aN vx) := by
  refine ⟨rfl, lin_cong _ (fun j hj => ?_)⟩
  obtain ⟨_, _, _, r4, _, _, _, _, r9⟩ := rd_of hM h h3
  obtain ⟨_, ⟨_, _, _, _, _, _, _, b8⟩, _⟩ := ad_of hM h h3
  obtain ⟨_, _, ⟨q1, q2, _⟩, _⟩ := h
  unfold kR kC
  rw [q1, q2]
  refine decide_eq_decide.mpr ?_
  have e : fX12_isKnown (fm 4) (fm 7) (nI j) t = fX7_isKnownBy (fx 28 j) (fx 29 j) t := by
    rw [← kn_eq, nI_clamp (by omega), (r9 j hj).1, (r9 j hj).2]
  rw [e]
  exact ⟨fun q => q.1, fun q => ⟨q, nIm1 (by omega), Or.inl rfl⟩⟩
