theorem upd_ne {f : Nat → Int32} {i k : Nat} {x : Int32} (h : ¬ k = i) : upd f i x k = f k := if_neg h
theorem r3_keep {vx : Nat → Int32} {fx : Nat → Nat → Int32} {mi : Nat → Int32} {fm : Nat → Nat → Int32} {v : Nat → Int32} {f : Nat → Nat → Int32} {mi2 : Nat → Int32} {fm2 : Nat → Nat → Int32} (h : REL3 vx fx mi fm) (hv : ∀ k, 5 ≤ k → k ≤ 20 → v k = vx k) (hf0 : f 0 = fx 0) (hf : ∀ k, 22 ≤ k → k ≤ 33 → f k = fx k) (hmi : ∀ k, k ≤ 36 → mi2 k = mi k) (h42 : mi2 42 = mi 42 ∧ mi2 43 = mi 43 ∧ mi2 45 = mi 45) (hfm : ∀ k, k ≤ 13 → fm2 k = fm k) (hZ : oZ (f 2) ∧ oZ (f 12)) (hS : v 0 = vx 0 ∧ f 21 = fx 21 ∧ v 4 = vx 4 ∧ v 60 = vx 60 ∧ f 18 = fx 18 ∧ f 19 = fx 19) (hT : mi2 56 = mi 56 ∧ fm2 23 = fm 23) (hC : CI (aF vx) (aL vx) (aM vx) (aN vx) (vx 15) (vx 16) (vx 17) (nf (fx 25)) (nf (fx 26)) (nf (fx 27)) (aLT fx) (fx 28) (fx 29) (v 1) (v 2) (v 44) (v 45) (v 46) (v 47) (v 48) (f 3) (f 4) (f 5) (f 6) (f 7)) : REL3 v f mi2 fm2 := by
  obtain ⟨⟨h1, h2⟩, h3, h4, _, _, h5, h6⟩ := h
  refine ⟨⟨?_, ?_⟩, ?_, ?_, hZ, ?_, ?_, ?_⟩
  · unfold REL0 at h1 ⊢
    rw [hv 10 (by omega) (by omega), hv 5 (by omega) (by omega), hv 6 (by omega) (by omega), hf0, hmi 26 (by omega), hmi 27 (by omega), hmi 28 (by omega), hfm 13 (by omega)]
    exact h1
  · unfold DAT at h2 ⊢
    rw [hv 11 (by omega) (by omega), hv 14 (by omega) (by omega), hv 15 (by omega) (by omega), hv 16 (by omega) (by omega), hv 17 (by omega) (by omega), hv 18 (by omega) (by omega), hv 19 (by omega) (by omega), hv 20 (by omega) (by omega), hf 22 (by omega) (by omega), hf 23 (by omega) (by omega), hf 24 (by omega) (by omega), hf 25 (by omega) (by omega), hf 26 (by omega) (by omega), hf 27 (by omega) (by omega), hf 28 (by omega) (by omega), hf 29 (by omega) (by omega), hf 30 (by omega) (by omega), hf 31 (by omega) (by omega), hf 32 (by omega) (by omega), hf 33 (by omega) (by omega), hmi 0 (by omega), hmi 1 (by omega), hmi 2 (by omega), hmi 3 (by omega), hmi 4 (by omega), hmi 5 (by omega), hmi 6 (by omega), hmi 7 (by omega), hmi 10 (by omega), hmi 17 (by omega), hfm 0 (by omega), hfm 1 (by omega), hfm 2 (by omega), hfm 3 (by omega), hfm 4 (by omega), hfm 5 (by omega), hfm 6 (by omega), hfm 7 (by omega), hfm 8 (by omega), hfm 9 (by omega), hfm 10 (by omega), hfm 11 (by omega)]
    exact h2
  · rw [hv 12 (by omega) (by omega), hv 13 (by omega) (by omega), hmi 1 (by omega), hmi 2 (by omega)]
    exact h3
  · rw [h42.1, h42.2.1, h42.2.2]
    exact h4
  · unfold CIx aF aL aM aN aLT
    rw [hv 11 (by omega) (by omega), hv 12 (by omega) (by omega), hv 13 (by omega) (by omega), hv 19 (by omega) (by omega), hv 15 (by omega) (by omega), hv 16 (by omega) (by omega), hv 17 (by omega) (by omega), hf 22 (by omega) (by omega), hf 23 (by omega) (by omega), hf 24 (by omega) (by omega), hf 25 (by omega) (by omega), hf 26 (by omega) (by omega), hf 27 (by omega) (by omega), hf 28 (by omega) (by omega), hf 29 (by omega) (by omega)]
    exact hC
  · unfold OUTx at h5 ⊢
    rw [hS.1, hS.2.1, hT.1, hT.2]
    exact h5
  · unfold HIx HT aN aM aBg aJ aQL aF aL aM aN aLT at h6 ⊢
    rw [hS.2.2.1, hS.2.2.2.1, hS.2.2.2.2.1, hS.2.2.2.2.2, hv 11 (by omega) (by omega), hv 12 (by omega) (by omega), hv 13 (by omega) (by omega), hv 19 (by omega) (by omega), hv 15 (by omega) (by omega), hv 16 (by omega) (by omega), hv 17 (by omega) (by omega), hf 22 (by omega) (by omega), hf 23 (by omega) (by omega), hf 24 (by omega) (by omega), hf 25 (by omega) (by omega), hf 26 (by omega) (by omega), hf 27 (by omega) (by omega), hf 28 (by omega) (by omega), hf 29 (by omega) (by omega)]
    exact h6
abbrev CTx (vx : Nat → Int32) (fx : Nat → Nat → Int32) (t ql tb a b c : Int32) (ve qu bg al on : Nat → Int32) : Prop := CT (aF vx) (aL vx) (aM vx) (aN vx) (vx 15) (vx 16) (vx 17) (nf (fx 25)) (nf (fx 26)) (nf (fx 27)) (aQL vx fx t) ql tb a b c ve qu bg al on
abbrev RTx (vx : Nat → Int32) (fx : Nat → Nat → Int32) (t br rmn : Int32) (must least pin ve row : Nat → Int32) : Prop := RT (aF vx) (aL vx) (aM vx) (aN vx) (vx 15) (vx 16) (vx 17) (nf (fx 25)) (nf (fx 26)) (nf (fx 27)) (aQL vx fx t) br rmn must least pin ve row
theorem qr_of {vx : Nat → Int32} {fx : Nat → Nat → Int32} {mi : Nat → Int32} {fm : Nat → Nat → Int32} (hM : MIp mi fm) (h : REL3 vx fx mi fm) (h3 : ¬ mi 3 = 0) (mj : Nat → Int32) (hj : ∀ k, k ≤ 36 → mj k = mi k) (hj2 : mj 42 = mi 42 ∧ mj 43 = mi 43 ∧ mj 45 = mi 45) (must least pin ways ve row : Nat → Int32) (t : Int32) : ∃ (must' least' pin' ways' ve' row' : Nat → Int32) (rmn : Int32), fX12_judgesAll mj must least pin ways ve row (fm 4) (fm 7) (fm 2) (fm 5) (fm 6) (fm 3) (fm 0) (fm 1) t = (0, rmn, must', least', pin', ways', ve', row') ∧ RTx vx fx t 0 rmn must' least' pin' ve' row' := by
  obtain ⟨_, hl⟩ := jj_of (gx := fun _ _ => 0) hM h h3 t
  obtain ⟨k0, k1, k2, k10, ⟨k4, k5, k6⟩, kN, kT, kRr, _⟩ := rd_of hM h h3
  obtain ⟨_, ⟨b1, b2, b3, b4, b5, b6, b7, b8⟩, hW, hP, hR, _⟩ := ad_of hM h h3
  have hs : mi 42 = -1 ∧ mi 43 = -1 ∧ mi 45 = -1 := h.2.2.1
  obtain ⟨must', least', pin', ways', ve', row', rmn, e1, e2⟩ := ja_eq (mi := mj) (pn := fx 22) (must := must) (least := least) (pin := pin) (ways := ways) (ve := ve) (row := row) (fs := fm 4) (fn := fm 7) (fp := fm 2) (rm := fm 5) (rd := fm 6) (rk := fm 3) (ft := fm 0) (fl := fm 1) (t := t) hW b7 b8 b2 b4 b6 ((hj 0 (by omega)).trans k0) ((hj 1 (by omega)).trans k1) ((hj 2 (by omega)).trans k2) ((hj 10 (by omega)).trans k10) kN (fun p hp => ⟨by rw [hj2.2.2, hs.2.2, if_neg (nIm1 (by omega))]; exact kT p hp, (hP p hp).2⟩) kRr
  have e4 : mj 4 = vx 15 := (hj 4 (by omega)).trans k4
  have e5 : mj 5 = vx 16 := (hj 5 (by omega)).trans k5
  have e6 : mj 6 = vx 17 := (hj 6 (by omega)).trans k6
  have eK : kR mj (fm 4) (fm 7) (fm 2) t = kR mi (fm 4) (fm 7) (fm 2) t := by
    funext j
    unfold kR
    rw [hj2.1, hj2.2.1]
  rw [e4, e5, e6, eK, hl] at e2
  exact ⟨must', least', pin', ways', ve', row', rmn, e1, e2⟩
theorem Rg_at {f : Nat → Int32} : ∀ {l : List Nat} {i : Nat}, Rg f l → i < l.length → ∃ x, f i = nI x ∧ (l.reverse)[i]? = some x := by
  intro l
  induction l with
  | nil => intro i _ h; exact absurd h (by rw [List.length_nil]; omega)
  | cons y l ih =>
    intro i hR hi
    rw [List.length_cons] at hi
    rw [List.reverse_cons]
    by_cases e : i = l.length
    · subst e
      refine ⟨y, hR.1, ?_⟩
      rw [List.getElem?_append_right (by rw [List.length_reverse]; exact Nat.le_refl _), List.length_reverse, Nat.sub_self]
      rfl
    · obtain ⟨x, h1, h2⟩ := ih hR.2 (show i < l.length by omega)
      refine ⟨x, h1, ?_⟩
      rw [List.getElem?_append_left (by rw [List.length_reverse]; omega)]
      exact h2
theorem Rg_same {f g : Nat → Int32} {l : List Nat} (h1 : Rg f l) (h2 : Rg g l) {i : Nat} (hi : i < l.length) : f i = g i := by
  obtain ⟨x, a1, a2⟩ := Rg_at h1 hi
  obtain ⟨y, b1, b2⟩ := Rg_at h2 hi
  rw [a2] at b2
  have e : x = y := Option.some.inj b2
  rw [a1, b1, e]
def CRT (vx : Nat → Int32) (fx : Nat → Nat → Int32) (v : Nat → Int32) (f : Nat → Nat → Int32) : Prop :=
  (∀ k, 5 ≤ k → k ≤ 20 → v k = vx k) ∧ f 0 = fx 0 ∧ (∀ k, 22 ≤ k → k ≤ 33 → f k = fx k) ∧ (oZ (f 2) ∧ oZ (f 12)) ∧ (v 0 = vx 0 ∧ f 21 = fx 21 ∧ v 4 = vx 4 ∧ v 60 = vx 60 ∧ f 18 = fx 18 ∧ f 19 = fx 19) ∧ CI (aF vx) (aL vx) (aM vx) (aN vx) (vx 15) (vx 16) (vx 17) (nf (fx 25)) (nf (fx 26)) (nf (fx 27)) (aLT fx) (fx 28) (fx 29) (v 1) (v 2) (v 44) (v 45) (v 46) (v 47) (v 48) (f 3) (f 4) (f 5) (f 6) (f 7)
def KPT (mi : Nat → Int32) (fm : Nat → Nat → Int32) (mi2 : Nat → Int32) (fm2 : Nat → Nat → Int32) : Prop := (∀ k, k ≤ 36 → mi2 k = mi k) ∧ (mi2 42 = mi 42 ∧ mi2 43 = mi 43 ∧ mi2 45 = mi 45) ∧ (mi2 56 = mi 56 ∧ fm2 23 = fm 23) ∧ ∀ k, k ≤ 13 → fm2 k = fm k
theorem r3_both {vx : Nat → Int32} {fx : Nat → Nat → Int32} {mi : Nat → Int32} {fm : Nat → Nat → Int32} {v : Nat → Int32} {f : Nat → Nat → Int32} {mi2 : Nat → Int32} {fm2 : Nat → Nat → Int32} (h : REL3 vx fx mi fm) (hx : CRT vx fx v f) (hm : KPT mi fm mi2 fm2) : REL3 v f mi2 fm2 := r3_keep h hx.1 hx.2.1 hx.2.2.1 hm.1 hm.2.1 hm.2.2.2 hx.2.2.2.1 hx.2.2.2.2.1 hm.2.2.1 hx.2.2.2.2.2
theorem crt_refl {vx : Nat → Int32} {fx : Nat → Nat → Int32} {mi : Nat → Int32} {fm : Nat → Nat → Int32} (h : REL3 vx fx mi fm) : CRT vx fx vx fx := ⟨fun _ _ _ => rfl, rfl, fun _ _ _ => rfl, h.2.2.2.1, ⟨rfl, rfl, rfl, rfl, rfl, rfl⟩, h.2.2.2.2.1⟩
theorem kpt_refl {mi : Nat → Int32} {fm : Nat → Nat → Int32} : KPT mi fm mi fm := ⟨fun _ _ => rfl, ⟨rfl, rfl, rfl⟩, ⟨rfl, rfl⟩, fun _ _ => rfl⟩
theorem tm_of {vx : Nat → Int32} {fx : Nat → Nat → Int32} {mi : Nat → Int32} {fm : Nat → Nat → Int32} (h : REL3 vx fx mi fm) (t : Int32) : fX11_hasTime (vx 11) t = fX12_isTime mi t ∧ (fX12_isTime mi t = 0 ∨ (fX12_isTime mi t = 1 ∧ ¬ mi 3 = 0 ∧ 0 ≤ t.toInt ∧ t.toInt ≤ 999)) := by
  obtain ⟨m1, m2, m3, m4⟩ := dat_M h.1.2
  have w1 : vx 11 = mi 0 := h.1.2.1.1.1
  rw [dx_time, dr_time, w1]
  by_cases c : 0 < (mi 0).toInt ∧ 0 ≤ t.toInt ∧ t.toInt ≤ 999
  · rw [if_pos c, if_pos ⟨m2.1 c.1, c.2⟩]
    exact ⟨rfl, Or.inr ⟨rfl, m1.1 c.1, c.2⟩⟩
  · rw [if_neg c, if_neg (fun q => c ⟨m2.2 q.1, q.2⟩)]
    exact ⟨rfl, Or.inl rfl⟩
