/-! the whole reading -/
theorem aQ_eq {L n : Nat} {bt : Nat → Int32} {a : aS} {c : C5} {p : M7} (h : aQ L n bt a c p) : c.1 = p.1 ∧ c.2.1 = p.2.1 := by
  cases hq : a.1 with
  | false =>
    obtain ⟨s, -, g2, g3, -, -, -, -, -, l2, l3, -⟩ := aQ_ok h hq
    exact ⟨g2.trans l2.symm, g3.trans l3.symm⟩
  | true =>
    rcases aRC_cases h.1 with ⟨-, -, h2, h3⟩ | ⟨s, h1, -⟩
    · have h4 := h.2.1
      unfold aR7 at h4
      rw [if_pos hq] at h4
      exact ⟨h2.trans h4.2.2.1.symm, h3.trans h4.2.2.2.symm⟩
    · rw [h1] at hq
      exact absurd hq (by intro q; cases q)
set_option maxRecDepth 100000 in
theorem alm_core {n : Nat} {bt tp mi cg0 cg1 cg2 cg3 cg4 cg5 cg6 cg7 cg8 cg9 cg10 cg11 ry0 ry1 ry2 ry3 ry4 ry5 ry6 ry7 ry8 ry9 ry10 ry11 ry12 : Nat → Int32} {cs ts hs tok st : Int32} (hn : n ≤ 1600) (hT : TR n bt tp) (h26 : mi 26 = nI n) {O : Int32 × Int32 × Int32 × Int32 × Int32 × Int32 × Int32 × Int32 × Int32 × Int32 × Int32 × Int32 × Int32 × Int32 × Int32 × Int32 × Int32 × Int32 × Int32 × Int32 × (Nat → Int32) × (Nat → Int32) × (Nat → Int32) × (Nat → Int32) × (Nat → Int32) × (Nat → Int32) × (Nat → Int32) × (Nat → Int32) × (Nat → Int32) × (Nat → Int32) × (Nat → Int32) × (Nat → Int32)} (hO : O = fX11_almanac cs ts hs tok st (nI n) bt cg0 cg1 cg2 cg3 cg4 cg5 cg6 cg7 cg8 cg9 cg10 cg11) {U : Int32 × Int32 × Int32 × Int32 × Int32 × Int32 × Int32 × Int32 × Int32 × Int32 × Int32 × Int32 × Int32 × Int32 × Int32 × Int32 × Int32 × Int32 × Int32 × Int32 × Int32 × (Nat → Int32) × (Nat → Int32) × (Nat → Int32) × (Nat → Int32) × (Nat → Int32) × (Nat → Int32) × (Nat → Int32) × (Nat → Int32) × (Nat → Int32) × (Nat → Int32) × (Nat → Int32) × (Nat → Int32) × (Nat → Int32)} (hU : U = fX12_almanac mi tp ry0 ry1 ry2 ry3 ry4 ry5 ry6 ry7 ry8 ry9 ry10 ry11 ry12) : O.1 = U.1 ∧ O.2.2.2.2.1 = U.2.2.2.2.2.2.2.2.2.2.2.2.2.2.1 ∧ O.2.2.2.2.2.1 = U.2.2.2.2.2.2.2.2.2.2.2.2.2.2.2.1 ∧ O.2.2.2.2.2.2.2.2.2.1 = 0 ∧ U.2.2.2.2.2.2.2.2.2.2.2.2.2.1 = 0 ∧ (O.2.2.2.2.1 = 0 → DRel n O.2.2.2.2.2.2.2.2.2.2.1 O.2.2.2.2.2.2.2.2.2.2.2.1 O.2.2.2.2.2.2.2.2.2.2.2.2.1 O.2.2.2.2.2.2.2.2.2.2.2.2.2.1 O.2.2.2.2.2.2.2.2.2.2.2.2.2.2.1 O.2.2.2.2.2.2.2.2.2.2.2.2.2.2.2.1 O.2.2.2.2.2.2.2.2.2.2.2.2.2.2.2.2.1 O.2.2.2.2.2.2.2.2.2.2.2.2.2.2.2.2.2.1 O.2.2.2.2.2.2.2.2.2.2.2.2.2.2.2.2.2.2.1 O.2.2.2.2.2.2.2.2.2.2.2.2.2.2.2.2.2.2.2.1 O.2.2.2.2.2.2.2.2.2.2.2.2.2.2.2.2.2.2.2.2.1 O.2.2.2.2.2.2.2.2.2.2.2.2.2.2.2.2.2.2.2.2.2.1 O.2.2.2.2.2.2.2.2.2.2.2.2.2.2.2.2.2.2.2.2.2.2.1 O.2.2.2.2.2.2.2.2.2.2.2.2.2.2.2.2.2.2.2.2.2.2.2.1 O.2.2.2.2.2.2.2.2.2.2.2.2.2.2.2.2.2.2.2.2.2.2.2.2.1 O.2.2.2.2.2.2.2.2.2.2.2.2.2.2.2.2.2.2.2.2.2.2.2.2.2.1 O.2.2.2.2.2.2.2.2.2.2.2.2.2.2.2.2.2.2.2.2.2.2.2.2.2.2.1 O.2.2.2.2.2.2.2.2.2.2.2.2.2.2.2.2.2.2.2.2.2.2.2.2.2.2.2.1 O.2.2.2.2.2.2.2.2.2.2.2.2.2.2.2.2.2.2.2.2.2.2.2.2.2.2.2.2.1 O.2.2.2.2.2.2.2.2.2.2.2.2.2.2.2.2.2.2.2.2.2.2.2.2.2.2.2.2.2.1 O.2.2.2.2.2.2.2.2.2.2.2.2.2.2.2.2.2.2.2.2.2.2.2.2.2.2.2.2.2.2.1 O.2.2.2.2.2.2.2.2.2.2.2.2.2.2.2.2.2.2.2.2.2.2.2.2.2.2.2.2.2.2.2 U.2.1 U.2.2.1 U.2.2.2.1 U.2.2.2.2.1 U.2.2.2.2.2.1 U.2.2.2.2.2.2.1 U.2.2.2.2.2.2.2.1 U.2.2.2.2.2.2.2.2.1 U.2.2.2.2.2.2.2.2.2.1 U.2.2.2.2.2.2.2.2.2.2.1 U.2.2.2.2.2.2.2.2.2.2.2.2.2.2.2.2.2.2.2.2.2.2.2.1 U.2.2.2.2.2.2.2.2.2.2.2.2.2.2.2.2.2.2.2.2.2.2.1 U.2.2.2.2.2.2.2.2.2.2.2.2.2.2.2.2.2.2.2.2.2.2.2.2.1 U.2.2.2.2.2.2.2.2.2.2.2.2.2.2.2.2.2.2.2.2.2.2.2.2.2.1 U.2.2.2.2.2.2.2.2.2.2.2.2.2.2.2.2.2.2.2.2.2.2.2.2.2.2.1 U.2.2.2.2.2.2.2.2.2.2.2.2.2.2.2.2.2.2.2.2.2.2.2.2.2.2.2.1 U.2.2.2.2.2.2.2.2.2.2.2.2.2.2.2.2.2.2.2.2.2.2.2.2.2.2.2.2.1 U.2.2.2.2.2.2.2.2.2.2.2.2.2.2.2.2.2.2.2.2.2.2.2.2.2.2.2.2.2.2.2.2.2 U.2.2.2.2.2.2.2.2.2.2.2.2.2.2.2.2.2.2.2.2.2.2.2.2.2.2.2.2.2.1 U.2.2.2.2.2.2.2.2.2.2.2.2.2.2.2.2.2.2.2.2.2.2.2.2.2.2.2.2.2.2.1 U.2.2.2.2.2.2.2.2.2.2.2.2.2.2.2.2.2.2.2.2.2.2.2.2.2.2.2.2.2.2.2.1 U.2.2.2.2.2.2.2.2.2.2.2.2.2.2.2.2.2.2.2.2.2.2.2.2.2.2.2.2.2.2.2.2.1) := by
  unfold fX11_almanac at hO
  obtain ⟨o1, e1, hO⟩ := cal_out hO
  unfold fX6_read at e1
  obtain ⟨w, ew, e1⟩ := cal_out e1
  obtain ⟨q, eq, e1⟩ := cal_out e1
  unfold fX0_wipe at ew
  subst ew
  unfold fX12_almanac at hU
  obtain ⟨k, ek, hU⟩ := cal_out hU
  obtain ⟨x, ex, hU⟩ := cal_out hU
  obtain ⟨s0, hs0⟩ : ∃ s, s = prun (fun j => cB (bt j).toInt) (n - 0) 0 := ⟨_, rfl⟩
  have hs0n : s0 ≤ n := by
    have g := prun_le (fun j => cB (bt j).toInt) (n - 0) 0
    omega
  have eq : q = (nI (ptok (fun j => (bt j).toInt) n s0).1, nI s0, nI (ptok (fun j => (bt j).toInt) n s0).2) := by
    rw [hs0]
    exact eq.trans (px_step (p := 0) hn (Nat.zero_le _))
  have hsr : prun (fun j => cB (tp j).toInt) (n - 0) 0 = s0 := by
    rw [hs0]
    exact prun_eq _ _ (fun j g1 g2 => tr_B hT (by omega))
  obtain ⟨wv, ev1, ev2⟩ := pr_next (tp := tp) (mi := (upd (upd (upd (upd (upd (upd (upd (upd (upd (upd (upd (upd (upd (upd (upd (upd mi 0 0) 1 0) 2 0) 3 0) 4 0) 5 0) 6 0) 7 0) 10 0) 17 0) 23 k.2.2.2.2.2.2.2.2.2.2.1) 24 k.2.2.2.2.2.2.2.2.2.2.2.1) 27 0) 28 (-1)) 29 0) 33 0)) (p := 0) hn (Nat.zero_le _) h26 rfl
  rw [hsr, tr_tok hT] at ev1
  rw [hsr, tr_val hT] at ev2
  have ex : x = (nI (ptok (fun j => (bt j).toInt) n s0).2, nI s0, nI (pkind (ptok (fun j => (bt j).toInt) n s0).1), wv) := ex.trans ev1
  subst eq ex
  have hQ : aQ s0 n bt (aOk s0) (0, -1, nI (ptok (fun j => (bt j).toInt) n s0).1, nI s0, nI (ptok (fun j => (bt j).toInt) n s0).2) (0, -1, nI (ptok (fun j => (bt j).toInt) n s0).2, nI s0, nI (pkind (ptok (fun j => (bt j).toInt) n s0).1), wv, 0) := by
    refine ⟨aRC_ok hs0n, ?_, fun _ => ⟨Nat.le_refl _, hs0n⟩⟩
    unfold aR7
    rw [if_neg (show ¬ (aOk s0).1 = true from Bool.false_ne_true)]
    exact ⟨rfl, rfl, rfl, rfl, hs0n, rfl, rfl, rfl, ev2⟩
  have z0 : (0 : Int32).toInt = 0 := by decide
  have hDD : ∀ (nm xt xp xk xm xd xn xs xa xb xl xi lt yt yp yk ym yd yn ys ya yb yl yi : Nat → Int32), DRel s0 0 0 0 0 0 0 0 0 0 0 nm xt xp xk xm xd xn xs xa xb xl xi 0 0 0 0 0 0 0 0 0 0 lt yt yp yk ym yd yn ys ya yb yl yi := by
    intro nm xt xp xk xm xd xn xs xa xb xl xi lt yt yp yk ym yd yn ys ya yb yl yi
    refine ⟨⟨⟨rfl, rfl, rfl, rfl, rfl, rfl, rfl⟩, ⟨0, 0, 0, by omega, by omega, by omega, rfl, rfl, rfl, rfl, rfl, rfl, fun p hp => absurd hp (by omega), fun j hj => absurd hj (by omega), fun j hj => absurd hj (by omega), fun j hj => absurd hj (by omega)⟩, by rw [z0]; omega, by rw [z0]; omega⟩, fun q => absurd rfl q, fun _ => rfl⟩
  obtain ⟨X, Y, a, hXe, hYe, hQ2, hD2⟩ := rd_loop (ctok := tok) (cst := st) (w23 := k.2.2.2.2.2.2.2.2.2.2.1) (w24 := k.2.2.2.2.2.2.2.2.2.2.2.1) (kp := k.2.2.2.2.2.2.2.2.2.2.2.2.1) (mi := mi) (cg0 := cg0) (cg1 := cg1) (cg2 := cg2) (cg3 := cg3) (cg4 := cg4) (cg5 := cg5) (cg6 := cg6) (cg7 := cg7) (cg8 := cg8) (cg9 := cg9) (cg10 := cg10) (cg11 := cg11) (ry0 := ry0) (ry1 := ry1) (ry2 := ry2) (ry3 := ry3) (ry4 := ry4) (ry5 := ry5) (ry6 := ry6) (ry7 := ry7) (ry8 := ry8) (ry9 := ry9) (ry10 := ry10) (ry11 := ry11) (ry12 := ry12) hn hT h26 (n + 1) s0 0 1000000000 1000000000 (0, -1, nI (ptok (fun j => (bt j).toInt) n s0).1, nI s0, nI (ptok (fun j => (bt j).toInt) n s0).2) (0, -1, nI (ptok (fun j => (bt j).toInt) n s0).2, nI s0, nI (pkind (ptok (fun j => (bt j).toInt) n s0).1), wv, 0) 0 0 0 0 0 0 0 0 0 0 0 0 0 0 0 0 0 0 0 0 cg0 cg1 cg2 cg3 cg4 cg5 cg6 cg7 cg8 cg9 cg10 cg11 k.2.2.2.2.2.2.2.2.2.2.2.2.2.2.1 k.2.2.2.2.2.2.2.2.2.2.2.2.2.1 k.2.2.2.2.2.2.2.2.2.2.2.2.2.2.2.1 k.2.2.2.2.2.2.2.2.2.2.2.2.2.2.2.2.1 k.2.2.2.2.2.2.2.2.2.2.2.2.2.2.2.2.2.1 k.2.2.2.2.2.2.2.2.2.2.2.2.2.2.2.2.2.2.1 k.2.2.2.2.2.2.2.2.2.2.2.2.2.2.2.2.2.2.2.1 k.2.2.2.2.2.2.2.2.2.2.2.2.2.2.2.2.2.2.2.2.2.2.2.2 k.2.2.2.2.2.2.2.2.2.2.2.2.2.2.2.2.2.2.2.2.1 k.2.2.2.2.2.2.2.2.2.2.2.2.2.2.2.2.2.2.2.2.2.1 k.2.2.2.2.2.2.2.2.2.2.2.2.2.2.2.2.2.2.2.2.2.2.1 k.2.2.2.2.2.2.2.2.2.2.2.2.2.2.2.2.2.2.2.2.2.2.2.1 (by omega) (by omega) hs0n (by omega) (by omega) hQ (hDD _ _ _ _ _ _ _ _ _ _ _ _ _ _ _ _ _ _ _ _ _ _ _ _)
  have e1 : o1 = X := e1.trans hXe
  have hU := hU.trans hYe
  subst e1
  unfold bfX12_almanac_100 at hU
  obtain ⟨c1, c2⟩ := aQ_eq hQ2
  by_cases ha : a.1 = false
  · rw [if_pos ((aQ_fk hQ2).mpr ha)] at hO
    rw [if_pos ((aQ_33 hQ2).mpr ha)] at hU
    obtain ⟨fo, -, hO⟩ := cal_out hO
    have hD3 := hD2 ha
    subst hO hU
    exact ⟨hD3.1.1.2.2.2.1, c1, c2, rfl, rfl, fun _ => hD3⟩
  · have hb : ¬ o1.1 = 0 := fun q => ha ((aQ_fk hQ2).mp q)
    rw [if_neg hb] at hO
    rw [if_neg (fun q => ha ((aQ_33 hQ2).mp q))] at hU
    obtain ⟨fu, -, hU⟩ := cal_out hU
    subst hO hU
    exact ⟨rfl, c1, c2, rfl, rfl, fun q => absurd q hb⟩
