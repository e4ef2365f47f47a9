abbrev Q15 : Type := Int32 × Int32 × Int32 × Int32 × Int32 × Int32 × Int32 × Int32 × Int32 × (Nat → Int32) × (Nat → Int32) × (Nat → Int64) × (Nat → Int32) × (Nat → Int32) × (Nat → Int32)
abbrev CIO (vx : Nat → Int32) (fx : Nat → Nat → Int32) (O : Int32 × Int32 × Int32 × Int32 × Int32 × Int32 × Int32 × Int32 × (Nat → Int32) × (Nat → Int32) × (Nat → Int64) × (Nat → Int32) × (Nat → Int32) × (Nat → Int32)) : Prop := CI (aF vx) (aL vx) (aM vx) (aN vx) (vx 15) (vx 16) (vx 17) (nf (fx 25)) (nf (fx 26)) (nf (fx 27)) (aLT fx) (fx 28) (fx 29) O.1 O.2.1 O.2.2.2.1 O.2.2.2.2.1 O.2.2.2.2.2.1 O.2.2.2.2.2.2.1 O.2.2.2.2.2.2.2.1 O.2.2.2.2.2.2.2.2.1 O.2.2.2.2.2.2.2.2.2.1 O.2.2.2.2.2.2.2.2.2.2.2.1 O.2.2.2.2.2.2.2.2.2.2.2.2.1 O.2.2.2.2.2.2.2.2.2.2.2.2.2
def xt15 (vx : Nat → Int32) (fx : Nat → Nat → Int32) (gx : Nat → Nat → Int64) (o : Q15) : Int32 × (Nat → Int32) × (Nat → Nat → Int32) × (Nat → Nat → Int64) := (o.1, (upd (upd (upd (upd (upd (upd (upd (upd vx 1 o.2.1) 2 o.2.2.1) 3 o.2.2.2.1) 44 o.2.2.2.2.1) 45 o.2.2.2.2.2.1) 46 o.2.2.2.2.2.2.1) 47 o.2.2.2.2.2.2.2.1) 48 o.2.2.2.2.2.2.2.2.1), (updF (updF (updF (updF (updF fx 3 o.2.2.2.2.2.2.2.2.2.1) 4 o.2.2.2.2.2.2.2.2.2.2.1) 5 o.2.2.2.2.2.2.2.2.2.2.2.2.1) 6 o.2.2.2.2.2.2.2.2.2.2.2.2.2.1) 7 o.2.2.2.2.2.2.2.2.2.2.2.2.2.2), (updG gx 0 o.2.2.2.2.2.2.2.2.2.2.2.1))
theorem e15 {vx : Nat → Int32} {fx : Nat → Nat → Int32} {gx : Nat → Nat → Int64} {mi : Nat → Int32} {fm : Nat → Nat → Int32} (h : REL3 vx fx mi fm) {r r2 s : Int32} {v : Nat → Int32} {f : Nat → Nat → Int32} {g : Nat → Nat → Int64} {mi2 : Nat → Int32} {fm2 : Nat → Nat → Int32} {O : Q15} (hx : (r, v, f, g) = xt15 vx fx gx O) (hC : CIO vx fx O.2) (hk : KPT mi fm mi2 fm2) (h1 : O.1 = s) (h2 : r2 = s) : REL3 v f mi2 fm2 ∧ r = r2 := by
  unfold xt15 at hx
  simp only [Prod.mk.injEq] at hx
  obtain ⟨rfl, rfl, rfl, rfl⟩ := hx
  exact ⟨r3_both h (crt_court hC h.2.2.2.1) hk, h1.trans h2.symm⟩
abbrev U9 : Type := Int32 × Int32 × Int32 × (Nat → Int32) × (Nat → Int32) × (Nat → Int32) × (Nat → Int32) × (Nat → Int32) × (Nat → Int32)
def mt9 (mi : Nat → Int32) (fm : Nat → Nat → Int32) (o : U9) : Int32 × (Nat → Int32) × (Nat → Nat → Int32) := (o.1, (upd (upd mi 37 o.2.1) 41 o.2.2.1), (updF (updF (updF (updF (updF (updF fm 14 o.2.2.2.1) 15 o.2.2.2.2.1) 16 o.2.2.2.2.2.1) 17 o.2.2.2.2.2.2.1) 18 o.2.2.2.2.2.2.2.1) 19 o.2.2.2.2.2.2.2.2))
theorem k9_of {mi : Nat → Int32} {fm : Nat → Nat → Int32} {r2 : Int32} {mi2 : Nat → Int32} {fm2 : Nat → Nat → Int32} {U : U9} (hm : (r2, mi2, fm2) = mt9 mi fm U) : KPT mi fm mi2 fm2 ∧ r2 = U.1 := by
  unfold mt9 at hm
  simp only [Prod.mk.injEq] at hm
  obtain ⟨rfl, rfl, rfl⟩ := hm
  exact ⟨⟨fun k hk => by rw [upd_ne (by omega), upd_ne (by omega)], ⟨rfl, rfl, rfl⟩, ⟨rfl, rfl⟩, fun k hk => by rw [updF_ne (by omega), updF_ne (by omega), updF_ne (by omega), updF_ne (by omega), updF_ne (by omega), updF_ne (by omega)]⟩, rfl⟩
abbrev U10 : Type := Int32 × Int32 × Int32 × (Nat → Int32) × (Nat → Int32) × (Nat → Int32) × (Nat → Int32) × (Nat → Int32) × (Nat → Int32) × (Nat → Int32)
def mt10 (mi : Nat → Int32) (fm : Nat → Nat → Int32) (o : U10) : Int32 × (Nat → Int32) × (Nat → Nat → Int32) := (o.1, (upd (upd mi 37 o.2.1) 41 o.2.2.1), (updF (updF (updF (updF (updF (updF (updF fm 14 o.2.2.2.1) 15 o.2.2.2.2.1) 16 o.2.2.2.2.2.1) 17 o.2.2.2.2.2.2.1) 18 o.2.2.2.2.2.2.2.1) 19 o.2.2.2.2.2.2.2.2.1) 20 o.2.2.2.2.2.2.2.2.2))
theorem k10_of {mi : Nat → Int32} {fm : Nat → Nat → Int32} {r2 : Int32} {mi2 : Nat → Int32} {fm2 : Nat → Nat → Int32} {U : U10} (hm : (r2, mi2, fm2) = mt10 mi fm U) : KPT mi fm mi2 fm2 ∧ r2 = U.1 := by
  unfold mt10 at hm
  simp only [Prod.mk.injEq] at hm
  obtain ⟨rfl, rfl, rfl⟩ := hm
  exact ⟨⟨fun k hk => by rw [upd_ne (by omega), upd_ne (by omega)], ⟨rfl, rfl, rfl⟩, ⟨rfl, rfl⟩, fun k hk => by rw [updF_ne (by omega), updF_ne (by omega), updF_ne (by omega), updF_ne (by omega), updF_ne (by omega), updF_ne (by omega), updF_ne (by omega)]⟩, rfl⟩
theorem rp_of {vx : Nat → Int32} {fx : Nat → Nat → Int32} {mi : Nat → Int32} {fm : Nat → Nat → Int32} (h : REL3 vx fx mi fm) (p : Int32) : fX11_hasReport (vx 19) p = fX12_isReport mi p ∧ (fX12_isReport mi p = 0 ∨ (fX12_isReport mi p = 1 ∧ p.toNatClampNeg < aN vx ∧ p = nI p.toNatClampNeg)) := by
  obtain ⟨⟨_, ⟨_, ⟨m, r, d, hm6, hr, hd, a1, a2, a3, a4, a5, a6, _⟩, _⟩, _⟩, _⟩ := h
  have e19 : aN vx = r := by
    show (vx 19).toNatClampNeg = r
    rw [a3, nI_clamp (by omega)]
  rw [e19, a3, dx_hasReport (by omega), dr_isReport a4 (by omega)]
  by_cases c : 0 ≤ p.toInt ∧ p.toInt < (r : Int)
  · rw [if_pos c]
    exact ⟨rfl, Or.inr ⟨rfl, clampI c⟩⟩
  · rw [if_neg c]
    exact ⟨rfl, Or.inl rfl⟩
theorem cq_of {vx : Nat → Int32} {fx : Nat → Nat → Int32} {gx : Nat → Nat → Int64} {mi : Nat → Int32} {fm : Nat → Nat → Int32} (hM : MIp mi fm) (h : REL3 vx fx mi fm) (h3 : ¬ mi 3 = 0) (t : Int32) {o : Int32 × Int32 × Int32 × Int32 × Int32 × Int32 × Int32 × Int32 × (Nat → Int32) × (Nat → Int32) × (Nat → Int64) × (Nat → Int32) × (Nat → Int32) × (Nat → Int32)} (ho : o = fX11_courtBy (vx 1) (vx 2) (vx 3) (vx 44) (vx 45) (fx 3) (fx 4) (gx 0) (fx 5) (vx 46) (vx 47) (vx 48) (fx 6) (fx 7) (vx 11) (vx 12) (vx 13) (vx 15) (vx 16) (vx 17) (vx 19) (fx 22) (fx 23) (fx 24) (fx 25) (fx 26) (fx 27) (fx 28) (fx 29) t) : CTx vx fx t o.2.2.2.1 o.2.2.2.2.1 o.2.2.2.2.2.1 o.2.2.2.2.2.2.1 o.2.2.2.2.2.2.2.1 o.2.2.2.2.2.2.2.2.1 o.2.2.2.2.2.2.2.2.2.1 o.2.2.2.2.2.2.2.2.2.2.2.1 o.2.2.2.2.2.2.2.2.2.2.2.2.1 o.2.2.2.2.2.2.2.2.2.2.2.2.2 ∧ CIO vx fx o := by
  obtain ⟨cs', cn', ts', ql', tb', fm', ff', fl', ve', qu', bg', al', on', tu', c1, hCT, hCI, _, _⟩ := cb_eq (tu := gx 0) (ts := vx 3) (ad_of hM h h3) h.2.2.2.2.1 t
  rw [c1] at ho
  subst ho
  exact ⟨hCT, hCI⟩
