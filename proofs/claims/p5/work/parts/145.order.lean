theorem updF_ne {f : Nat → Nat → Int32} {i k : Nat} {x : Nat → Int32} (h : ¬ k = i) : updF f i x k = f k := if_neg h
theorem crt_court {vx : Nat → Int32} {fx : Nat → Nat → Int32} {cs cn ts ql tb a b c : Int32} {ve qu bg al on : Nat → Int32} (hC : CI (aF vx) (aL vx) (aM vx) (aN vx) (vx 15) (vx 16) (vx 17) (nf (fx 25)) (nf (fx 26)) (nf (fx 27)) (aLT fx) (fx 28) (fx 29) cs cn ql tb a b c ve qu bg al on) (hZ : oZ (fx 2) ∧ oZ (fx 12)) : CRT vx fx (upd (upd (upd (upd (upd (upd (upd (upd vx 1 cs) 2 cn) 3 ts) 44 ql) 45 tb) 46 a) 47 b) 48 c) (updF (updF (updF (updF (updF fx 3 ve) 4 qu) 5 bg) 6 al) 7 on) := by
  refine ⟨fun k h1 h2 => ?_, rfl, fun k h1 h2 => ?_, hZ, ⟨rfl, rfl, rfl, rfl, rfl, rfl⟩, hC⟩
  · rw [upd_ne (by omega), upd_ne (by omega), upd_ne (by omega), upd_ne (by omega), upd_ne (by omega), upd_ne (by omega), upd_ne (by omega), upd_ne (by omega)]
  · rw [updF_ne (by omega), updF_ne (by omega), updF_ne (by omega), updF_ne (by omega), updF_ne (by omega)]
theorem qa_of {vx : Nat → Int32} {fx : Nat → Nat → Int32} {mi : Nat → Int32} {fm : Nat → Nat → Int32} (hM : MIp mi fm) (h : REL3 vx fx mi fm) (h3 : ¬ mi 3 = 0) (mj : Nat → Int32) (hj2 : mj 45 = mi 45) {r q : Nat} (hr : r < aN vx) (hq : q < aN vx) : fX12_isAhead mj (fm 2) (fm 5) (fm 6) (fm 3) (fm 0) (fm 1) (nI r) (nI q) = if aLT fx r q = true then 1 else 0 := by
  obtain ⟨_, _, _, _, _, kN, kT, kRr, _⟩ := rd_of hM h h3
  obtain ⟨_, ⟨b1, b2, b3, b4, b5, b6, b7, b8⟩, hW, hP, hR, _⟩ := ad_of hM h h3
  have hs : mi 45 = -1 := h.2.2.1.2.2
  refine ia_eq (pn := fx 22) hW b7 b2 b8 kN (fun p hp => ⟨?_, (hP p hp).2⟩) kRr hr hq
  unfold fX12_trustOf bfX12_trustOf_21
  rw [hj2, hs, if_neg (nIm1 (by omega)), nI_clamp (by omega)]
  exact kT p hp
theorem r3_order {vx : Nat → Int32} {fx : Nat → Nat → Int32} {gx : Nat → Nat → Int64} {mi : Nat → Int32} {fm : Nat → Nat → Int32} (hM : MIp mi fm) (h : REL3 vx fx mi fm) {r r2 : Int32} {v : Nat → Int32} {f : Nat → Nat → Int32} {g : Nat → Nat → Int64} {mi2 : Nat → Int32} {fm2 : Nat → Nat → Int32} {p1 p2 : Int32} (hx : (r, v, f, g) = xs_order vx fx gx p1 p2) (hm : (r2, mi2, fm2) = ms_order mi fm p1 p2) : REL3 v f mi2 fm2 ∧ r = r2 := by
  obtain ⟨t1, t2⟩ := tm_of h p1
  unfold xs_order at hx
  unfold ms_order at hm
  obtain ⟨O, hO⟩ : ∃ O, O = fX11_order (vx 1) (vx 2) (vx 3) (vx 44) (vx 45) (fx 3) (fx 4) (gx 0) (fx 5) (vx 46) (vx 47) (vx 48) (fx 6) (fx 7) (vx 11) (vx 12) (vx 13) (vx 15) (vx 16) (vx 17) (vx 19) (fx 22) (fx 23) (fx 24) (fx 25) (fx 26) (fx 27) (fx 28) (fx 29) p1 p2 := ⟨_, rfl⟩
  obtain ⟨U, hU⟩ : ∃ U, U = fX12_order mi (fm 18) (fm 19) (fm 4) (fm 7) (fm 2) (fm 5) (fm 6) (fm 3) (fm 0) (fm 1) p1 p2 := ⟨_, rfl⟩
  rw [← hO] at hx
  rw [← hU] at hm
  unfold xt_order at hx
  unfold mt_order at hm
  simp only [Prod.mk.injEq] at hx hm
  obtain ⟨rfl, rfl, rfl, rfl⟩ := hx
  obtain ⟨rfl, rfl, rfl⟩ := hm
  have hk : KPT mi fm (upd mi 41 U.2.1) (updF (updF fm 18 U.2.2.1) 19 U.2.2.2) := ⟨fun k hk => upd_ne (by omega), ⟨rfl, rfl, rfl⟩, ⟨rfl, rfl⟩, fun k hk => by rw [updF_ne (by omega), updF_ne (by omega)]⟩
  have hfin : ∀ s : Int32, O.1 = s → U.1 = s → CI (aF vx) (aL vx) (aM vx) (aN vx) (vx 15) (vx 16) (vx 17) (nf (fx 25)) (nf (fx 26)) (nf (fx 27)) (aLT fx) (fx 28) (fx 29) O.2.1 O.2.2.1 O.2.2.2.2.1 O.2.2.2.2.2.1 O.2.2.2.2.2.2.1 O.2.2.2.2.2.2.2.1 O.2.2.2.2.2.2.2.2.1 O.2.2.2.2.2.2.2.2.2.1 O.2.2.2.2.2.2.2.2.2.2.1 O.2.2.2.2.2.2.2.2.2.2.2.2.1 O.2.2.2.2.2.2.2.2.2.2.2.2.2.1 O.2.2.2.2.2.2.2.2.2.2.2.2.2.2 → REL3 (upd (upd (upd (upd (upd (upd (upd (upd vx 1 O.2.1) 2 O.2.2.1) 3 O.2.2.2.1) 44 O.2.2.2.2.1) 45 O.2.2.2.2.2.1) 46 O.2.2.2.2.2.2.1) 47 O.2.2.2.2.2.2.2.1) 48 O.2.2.2.2.2.2.2.2.1) (updF (updF (updF (updF (updF fx 3 O.2.2.2.2.2.2.2.2.2.1) 4 O.2.2.2.2.2.2.2.2.2.2.1) 5 O.2.2.2.2.2.2.2.2.2.2.2.2.1) 6 O.2.2.2.2.2.2.2.2.2.2.2.2.2.1) 7 O.2.2.2.2.2.2.2.2.2.2.2.2.2.2) (upd mi 41 U.2.1) (updF (updF fm 18 U.2.2.1) 19 U.2.2.2) ∧ O.1 = U.1 := by
    intro s s1 s2 hC
    exact ⟨r3_both h (crt_court hC h.2.2.2.1) hk, s1.trans s2.symm⟩
  unfold fX11_order bfX11_order_12 bfX11_order_39 at hO
  unfold fX12_order bfX12_order_12 bfX12_order_38 at hU
  obtain ⟨o1, e1, hO⟩ := cal_out hO
  obtain ⟨u1, f1, hU⟩ := cal_out hU
  rw [t1] at e1
  rw [← f1] at e1
  rw [← f1] at t2
  rcases t2 with t2 | ⟨t2, n3, _, _⟩
  · rw [if_pos (e1.trans t2)] at hO
    rw [if_pos t2] at hU
    refine hfin (-2) (by rw [hO]) (by rw [hU]) ?_
    rw [hO]
    exact h.2.2.2.2.1
  · rw [if_neg (by rw [e1, t2]; decide)] at hO
    rw [if_neg (by rw [t2]; decide)] at hU
    by_cases c : (0 : Int32) ≤ p2
    · rw [if_pos c] at hO hU
      obtain ⟨o2, e2, hO⟩ := cal_out hO
      obtain ⟨u2, f2, hU⟩ := cal_out hU
      obtain ⟨cs', cn', ts', ql', tb', fm', ff', fl', ve', qu', bg', al', on', tu', c1, hCT, hCI, _, _⟩ := cb_eq (tu := gx 0) (ts := vx 3) (ad_of hM h n3) h.2.2.2.2.1 p1
      rw [c1] at e2
      obtain ⟨_, _, _, k10, _⟩ := rd_of hM h n3
      obtain ⟨_, ⟨_, _, _, _, _, _, _, b8⟩, _⟩ := ad_of hM h n3
      obtain ⟨a', w', l1, _, l3⟩ := lr_eq (mi := mi) (fv := fm 18) (fr := fm 19) (fs := fm 4) (fn := fm 7) (fp := fm 2) (fm := fm 5) (fd := fm 6) (fk := fm 3) (ft := fm 0) (fl := fm 1) (t := p1) (lt := aLT fx) b8 k10 (fun c r q hr hq => qa_of hM h n3 (upd mi 41 c) rfl hr hq)
      rw [l1] at f2
      obtain ⟨_, hl⟩ := jj_of (gx := gx) hM h n3 p1
      rw [hl] at f2 l3
      have hlen : (aQL vx fx p1).length ≤ aN vx := lin_len (lt := aLT fx) (K := kC (fx 28) (fx 29) p1) (aN vx)
      have l3 : Rg w' (aQL vx fx p1) := l3
      have hql : ql' = nI (aQL vx fx p1).length := hCT.1
      have hqu : Rg qu' (aQL vx fx p1) := hCT.2.2.2.2.2.2.1
      subst e2 f2
      dsimp only at hO hU
      rw [hql] at hO
      by_cases c2 : nI (aQL vx fx p1).length ≤ p2
      · rw [if_pos c2] at hO hU
        refine hfin (-1) (by rw [hO]) (by rw [hU]) ?_
        rw [hO, ← hql]
        exact hCI
      · rw [if_neg c2] at hO hU
        have c3 : ¬ ((aQL vx fx p1).length : Int) ≤ p2.toInt := fun q => c2 (i32le.mpr (by rw [nI_toInt (by omega)]; exact q))
        have c4 := i32le.mp c
        rw [z32] at c4
        have c5 := clN c4
        refine hfin (qu' p2.toNatClampNeg) (by rw [hO]) (by rw [hU]; exact Rg_same l3 hqu (by omega)) ?_
        rw [hO, ← hql]
        exact hCI
    · rw [if_neg c] at hO hU
      refine hfin (-2) (by rw [hO]) (by rw [hU]) ?_
      rw [hO]
      exact h.2.2.2.2.1
